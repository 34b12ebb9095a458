theorem dX0_init_0 : decode cX0_init 0 = .ok (.aload_n 0, 1) := by decide +kernel
theorem dX0_init_1 : decode cX0_init 1 = .ok (.invokespecial 3, 3) := by decide +kernel
theorem dX0_init_4 : decode cX0_init 4 = .ok (.aload_n 0, 1) := by decide +kernel
theorem dX0_init_5 : decode cX0_init 5 = .ok (.iconst 5, 1) := by decide +kernel
theorem dX0_init_6 : decode cX0_init 6 = .ok (.newarray .int, 2) := by decide +kernel
theorem dX0_init_8 : decode cX0_init 8 = .ok (.putfield 9, 3) := by decide +kernel
theorem dX0_init_11 : decode cX0_init 11 = .ok (.return_, 1) := by decide +kernel
theorem dX0_copyFrom_0 : decode cX0_copyFrom 0 = .ok (.aload_n 1, 1) := by decide +kernel
theorem dX0_copyFrom_1 : decode cX0_copyFrom 1 = .ok (.getfield 9, 3) := by decide +kernel
theorem dX0_copyFrom_4 : decode cX0_copyFrom 4 = .ok (.iconst 0, 1) := by decide +kernel
theorem dX0_copyFrom_5 : decode cX0_copyFrom 5 = .ok (.aload_n 0, 1) := by decide +kernel
theorem dX0_copyFrom_6 : decode cX0_copyFrom 6 = .ok (.getfield 9, 3) := by decide +kernel
theorem dX0_copyFrom_9 : decode cX0_copyFrom 9 = .ok (.iconst 0, 1) := by decide +kernel
theorem dX0_copyFrom_10 : decode cX0_copyFrom 10 = .ok (.iconst 5, 1) := by decide +kernel
theorem dX0_copyFrom_11 : decode cX0_copyFrom 11 = .ok (.invokestatic 15, 3) := by decide +kernel
theorem dX0_copyFrom_14 : decode cX0_copyFrom 14 = .ok (.return_, 1) := by decide +kernel
theorem dX0_setDigits_0 : decode cX0_setDigits 0 = .ok (.iload_n 1, 1) := by decide +kernel
theorem dX0_setDigits_1 : decode cX0_setDigits 1 = .ok (.istore_n 2, 1) := by decide +kernel
theorem dX0_setDigits_2 : decode cX0_setDigits 2 = .ok (.iconst 4, 1) := by decide +kernel
theorem dX0_setDigits_3 : decode cX0_setDigits 3 = .ok (.istore_n 3, 1) := by decide +kernel
theorem dX0_setDigits_4 : decode cX0_setDigits 4 = .ok (.iload_n 3, 1) := by decide +kernel
theorem dX0_setDigits_5 : decode cX0_setDigits 5 = .ok (.ifCond .lt 24, 3) := by decide +kernel
theorem dX0_setDigits_8 : decode cX0_setDigits 8 = .ok (.aload_n 0, 1) := by decide +kernel
theorem dX0_setDigits_9 : decode cX0_setDigits 9 = .ok (.getfield 9, 3) := by decide +kernel
theorem dX0_setDigits_12 : decode cX0_setDigits 12 = .ok (.iload_n 3, 1) := by decide +kernel
theorem dX0_setDigits_13 : decode cX0_setDigits 13 = .ok (.iload_n 2, 1) := by decide +kernel
theorem dX0_setDigits_14 : decode cX0_setDigits 14 = .ok (.bipush 10, 2) := by decide +kernel
theorem dX0_setDigits_16 : decode cX0_setDigits 16 = .ok (.irem, 1) := by decide +kernel
theorem dX0_setDigits_17 : decode cX0_setDigits 17 = .ok (.iastore, 1) := by decide +kernel
theorem dX0_setDigits_18 : decode cX0_setDigits 18 = .ok (.iload_n 2, 1) := by decide +kernel
theorem dX0_setDigits_19 : decode cX0_setDigits 19 = .ok (.bipush 10, 2) := by decide +kernel
theorem dX0_setDigits_21 : decode cX0_setDigits 21 = .ok (.idiv, 1) := by decide +kernel
theorem dX0_setDigits_22 : decode cX0_setDigits 22 = .ok (.istore_n 2, 1) := by decide +kernel
theorem dX0_setDigits_23 : decode cX0_setDigits 23 = .ok (.iinc 3 (-1), 3) := by decide +kernel
theorem dX0_setDigits_26 : decode cX0_setDigits 26 = .ok (.goto (-22), 3) := by decide +kernel
theorem dX0_setDigits_29 : decode cX0_setDigits 29 = .ok (.return_, 1) := by decide +kernel
theorem dX0_distanceTo_0 : decode cX0_distanceTo 0 = .ok (.iconst 0, 1) := by decide +kernel
theorem dX0_distanceTo_1 : decode cX0_distanceTo 1 = .ok (.istore_n 2, 1) := by decide +kernel
theorem dX0_distanceTo_2 : decode cX0_distanceTo 2 = .ok (.iconst 0, 1) := by decide +kernel
theorem dX0_distanceTo_3 : decode cX0_distanceTo 3 = .ok (.istore_n 3, 1) := by decide +kernel
theorem dX0_distanceTo_4 : decode cX0_distanceTo 4 = .ok (.iload_n 3, 1) := by decide +kernel
theorem dX0_distanceTo_5 : decode cX0_distanceTo 5 = .ok (.iconst 5, 1) := by decide +kernel
theorem dX0_distanceTo_6 : decode cX0_distanceTo 6 = .ok (.if_icmp .ge 40, 3) := by decide +kernel
theorem dX0_distanceTo_9 : decode cX0_distanceTo 9 = .ok (.aload_n 0, 1) := by decide +kernel
theorem dX0_distanceTo_10 : decode cX0_distanceTo 10 = .ok (.getfield 9, 3) := by decide +kernel
theorem dX0_distanceTo_13 : decode cX0_distanceTo 13 = .ok (.iload_n 3, 1) := by decide +kernel
theorem dX0_distanceTo_14 : decode cX0_distanceTo 14 = .ok (.iaload, 1) := by decide +kernel
theorem dX0_distanceTo_15 : decode cX0_distanceTo 15 = .ok (.aload_n 1, 1) := by decide +kernel
theorem dX0_distanceTo_16 : decode cX0_distanceTo 16 = .ok (.getfield 9, 3) := by decide +kernel
theorem dX0_distanceTo_19 : decode cX0_distanceTo 19 = .ok (.iload_n 3, 1) := by decide +kernel
theorem dX0_distanceTo_20 : decode cX0_distanceTo 20 = .ok (.iaload, 1) := by decide +kernel
theorem dX0_distanceTo_21 : decode cX0_distanceTo 21 = .ok (.isub, 1) := by decide +kernel
theorem dX0_distanceTo_22 : decode cX0_distanceTo 22 = .ok (.istore 4, 2) := by decide +kernel
theorem dX0_distanceTo_24 : decode cX0_distanceTo 24 = .ok (.iload_n 2, 1) := by decide +kernel
theorem dX0_distanceTo_25 : decode cX0_distanceTo 25 = .ok (.iload 4, 2) := by decide +kernel
theorem dX0_distanceTo_27 : decode cX0_distanceTo 27 = .ok (.ifCond .ge 9, 3) := by decide +kernel
theorem dX0_distanceTo_30 : decode cX0_distanceTo 30 = .ok (.iload 4, 2) := by decide +kernel
theorem dX0_distanceTo_32 : decode cX0_distanceTo 32 = .ok (.ineg, 1) := by decide +kernel
theorem dX0_distanceTo_33 : decode cX0_distanceTo 33 = .ok (.goto 5, 3) := by decide +kernel
theorem dX0_distanceTo_36 : decode cX0_distanceTo 36 = .ok (.iload 4, 2) := by decide +kernel
theorem dX0_distanceTo_38 : decode cX0_distanceTo 38 = .ok (.iadd, 1) := by decide +kernel
theorem dX0_distanceTo_39 : decode cX0_distanceTo 39 = .ok (.istore_n 2, 1) := by decide +kernel
theorem dX0_distanceTo_40 : decode cX0_distanceTo 40 = .ok (.iinc 3 1, 3) := by decide +kernel
theorem dX0_distanceTo_43 : decode cX0_distanceTo 43 = .ok (.goto (-39), 3) := by decide +kernel
theorem dX0_distanceTo_46 : decode cX0_distanceTo 46 = .ok (.iload_n 2, 1) := by decide +kernel
theorem dX0_distanceTo_47 : decode cX0_distanceTo 47 = .ok (.ireturn, 1) := by decide +kernel
theorem dX0_rhymesWith_0 : decode cX0_rhymesWith 0 = .ok (.iconst 0, 1) := by decide +kernel
theorem dX0_rhymesWith_1 : decode cX0_rhymesWith 1 = .ok (.istore_n 2, 1) := by decide +kernel
theorem dX0_rhymesWith_2 : decode cX0_rhymesWith 2 = .ok (.iconst 0, 1) := by decide +kernel
theorem dX0_rhymesWith_3 : decode cX0_rhymesWith 3 = .ok (.istore_n 3, 1) := by decide +kernel
theorem dX0_rhymesWith_4 : decode cX0_rhymesWith 4 = .ok (.iload_n 3, 1) := by decide +kernel
theorem dX0_rhymesWith_5 : decode cX0_rhymesWith 5 = .ok (.iconst 5, 1) := by decide +kernel
theorem dX0_rhymesWith_6 : decode cX0_rhymesWith 6 = .ok (.if_icmp .ge 27, 3) := by decide +kernel
theorem dX0_rhymesWith_9 : decode cX0_rhymesWith 9 = .ok (.aload_n 0, 1) := by decide +kernel
theorem dX0_rhymesWith_10 : decode cX0_rhymesWith 10 = .ok (.getfield 9, 3) := by decide +kernel
theorem dX0_rhymesWith_13 : decode cX0_rhymesWith 13 = .ok (.iload_n 3, 1) := by decide +kernel
theorem dX0_rhymesWith_14 : decode cX0_rhymesWith 14 = .ok (.iaload, 1) := by decide +kernel
theorem dX0_rhymesWith_15 : decode cX0_rhymesWith 15 = .ok (.aload_n 1, 1) := by decide +kernel
theorem dX0_rhymesWith_16 : decode cX0_rhymesWith 16 = .ok (.getfield 9, 3) := by decide +kernel
theorem dX0_rhymesWith_19 : decode cX0_rhymesWith 19 = .ok (.iload_n 3, 1) := by decide +kernel
theorem dX0_rhymesWith_20 : decode cX0_rhymesWith 20 = .ok (.iaload, 1) := by decide +kernel
theorem dX0_rhymesWith_21 : decode cX0_rhymesWith 21 = .ok (.if_icmp .eq 6, 3) := by decide +kernel
theorem dX0_rhymesWith_24 : decode cX0_rhymesWith 24 = .ok (.iinc 2 1, 3) := by decide +kernel
theorem dX0_rhymesWith_27 : decode cX0_rhymesWith 27 = .ok (.iinc 3 1, 3) := by decide +kernel
theorem dX0_rhymesWith_30 : decode cX0_rhymesWith 30 = .ok (.goto (-26), 3) := by decide +kernel
theorem dX0_rhymesWith_33 : decode cX0_rhymesWith 33 = .ok (.iload_n 2, 1) := by decide +kernel
theorem dX0_rhymesWith_34 : decode cX0_rhymesWith 34 = .ok (.iconst 1, 1) := by decide +kernel
theorem dX0_rhymesWith_35 : decode cX0_rhymesWith 35 = .ok (.if_icmp .gt 7, 3) := by decide +kernel
theorem dX0_rhymesWith_38 : decode cX0_rhymesWith 38 = .ok (.iconst 1, 1) := by decide +kernel
theorem dX0_rhymesWith_39 : decode cX0_rhymesWith 39 = .ok (.goto 4, 3) := by decide +kernel
theorem dX0_rhymesWith_42 : decode cX0_rhymesWith 42 = .ok (.iconst 0, 1) := by decide +kernel
theorem dX0_rhymesWith_43 : decode cX0_rhymesWith 43 = .ok (.ireturn, 1) := by decide +kernel
theorem dX0_farthestVowel_0 : decode cX0_farthestVowel 0 = .ok (.iconst (-1), 1) := by decide +kernel
theorem dX0_farthestVowel_1 : decode cX0_farthestVowel 1 = .ok (.istore_n 2, 1) := by decide +kernel
theorem dX0_farthestVowel_2 : decode cX0_farthestVowel 2 = .ok (.iconst 0, 1) := by decide +kernel
theorem dX0_farthestVowel_3 : decode cX0_farthestVowel 3 = .ok (.istore_n 3, 1) := by decide +kernel
theorem dX0_farthestVowel_4 : decode cX0_farthestVowel 4 = .ok (.iconst 0, 1) := by decide +kernel
theorem dX0_farthestVowel_5 : decode cX0_farthestVowel 5 = .ok (.istore 4, 2) := by decide +kernel
theorem dX0_farthestVowel_7 : decode cX0_farthestVowel 7 = .ok (.iload 4, 2) := by decide +kernel
theorem dX0_farthestVowel_9 : decode cX0_farthestVowel 9 = .ok (.iconst 5, 1) := by decide +kernel
theorem dX0_farthestVowel_10 : decode cX0_farthestVowel 10 = .ok (.if_icmp .ge 53, 3) := by decide +kernel
theorem dX0_farthestVowel_13 : decode cX0_farthestVowel 13 = .ok (.aload_n 0, 1) := by decide +kernel
theorem dX0_farthestVowel_14 : decode cX0_farthestVowel 14 = .ok (.getfield 9, 3) := by decide +kernel
theorem dX0_farthestVowel_17 : decode cX0_farthestVowel 17 = .ok (.iload 4, 2) := by decide +kernel
theorem dX0_farthestVowel_19 : decode cX0_farthestVowel 19 = .ok (.iaload, 1) := by decide +kernel
theorem dX0_farthestVowel_20 : decode cX0_farthestVowel 20 = .ok (.aload_n 1, 1) := by decide +kernel
theorem dX0_farthestVowel_21 : decode cX0_farthestVowel 21 = .ok (.getfield 9, 3) := by decide +kernel
theorem dX0_farthestVowel_24 : decode cX0_farthestVowel 24 = .ok (.iload 4, 2) := by decide +kernel
theorem dX0_farthestVowel_26 : decode cX0_farthestVowel 26 = .ok (.iaload, 1) := by decide +kernel
theorem dX0_farthestVowel_27 : decode cX0_farthestVowel 27 = .ok (.isub, 1) := by decide +kernel
theorem dX0_farthestVowel_28 : decode cX0_farthestVowel 28 = .ok (.istore 5, 2) := by decide +kernel
theorem dX0_farthestVowel_30 : decode cX0_farthestVowel 30 = .ok (.iload 5, 2) := by decide +kernel
theorem dX0_farthestVowel_32 : decode cX0_farthestVowel 32 = .ok (.ifCond .ge 9, 3) := by decide +kernel
theorem dX0_farthestVowel_35 : decode cX0_farthestVowel 35 = .ok (.iload 5, 2) := by decide +kernel
theorem dX0_farthestVowel_37 : decode cX0_farthestVowel 37 = .ok (.ineg, 1) := by decide +kernel
theorem dX0_farthestVowel_38 : decode cX0_farthestVowel 38 = .ok (.goto 5, 3) := by decide +kernel
theorem dX0_farthestVowel_41 : decode cX0_farthestVowel 41 = .ok (.iload 5, 2) := by decide +kernel
theorem dX0_farthestVowel_43 : decode cX0_farthestVowel 43 = .ok (.istore 6, 2) := by decide +kernel
theorem dX0_farthestVowel_45 : decode cX0_farthestVowel 45 = .ok (.iload 6, 2) := by decide +kernel
theorem dX0_farthestVowel_47 : decode cX0_farthestVowel 47 = .ok (.iload_n 3, 1) := by decide +kernel
theorem dX0_farthestVowel_48 : decode cX0_farthestVowel 48 = .ok (.if_icmp .le 9, 3) := by decide +kernel
theorem dX0_farthestVowel_51 : decode cX0_farthestVowel 51 = .ok (.iload 4, 2) := by decide +kernel
theorem dX0_farthestVowel_53 : decode cX0_farthestVowel 53 = .ok (.istore_n 2, 1) := by decide +kernel
theorem dX0_farthestVowel_54 : decode cX0_farthestVowel 54 = .ok (.iload 6, 2) := by decide +kernel
theorem dX0_farthestVowel_56 : decode cX0_farthestVowel 56 = .ok (.istore_n 3, 1) := by decide +kernel
theorem dX0_farthestVowel_57 : decode cX0_farthestVowel 57 = .ok (.iinc 4 1, 3) := by decide +kernel
theorem dX0_farthestVowel_60 : decode cX0_farthestVowel 60 = .ok (.goto (-53), 3) := by decide +kernel
theorem dX0_farthestVowel_63 : decode cX0_farthestVowel 63 = .ok (.iload_n 2, 1) := by decide +kernel
theorem dX0_farthestVowel_64 : decode cX0_farthestVowel 64 = .ok (.ireturn, 1) := by decide +kernel
theorem dX0_approach_0 : decode cX0_approach 0 = .ok (.aload_n 0, 1) := by decide +kernel
theorem dX0_approach_1 : decode cX0_approach 1 = .ok (.aload_n 1, 1) := by decide +kernel
theorem dX0_approach_2 : decode cX0_approach 2 = .ok (.invokevirtual 21, 3) := by decide +kernel
theorem dX0_approach_5 : decode cX0_approach 5 = .ok (.istore_n 2, 1) := by decide +kernel
theorem dX0_approach_6 : decode cX0_approach 6 = .ok (.iload_n 2, 1) := by decide +kernel
theorem dX0_approach_7 : decode cX0_approach 7 = .ok (.iconst (-1), 1) := by decide +kernel
theorem dX0_approach_8 : decode cX0_approach 8 = .ok (.if_icmp .ne 5, 3) := by decide +kernel
theorem dX0_approach_11 : decode cX0_approach 11 = .ok (.iconst 0, 1) := by decide +kernel
theorem dX0_approach_12 : decode cX0_approach 12 = .ok (.ireturn, 1) := by decide +kernel
theorem dX0_approach_13 : decode cX0_approach 13 = .ok (.aload_n 0, 1) := by decide +kernel
theorem dX0_approach_14 : decode cX0_approach 14 = .ok (.getfield 9, 3) := by decide +kernel
theorem dX0_approach_17 : decode cX0_approach 17 = .ok (.iload_n 2, 1) := by decide +kernel
theorem dX0_approach_18 : decode cX0_approach 18 = .ok (.dup2, 1) := by decide +kernel
theorem dX0_approach_19 : decode cX0_approach 19 = .ok (.iaload, 1) := by decide +kernel
theorem dX0_approach_20 : decode cX0_approach 20 = .ok (.aload_n 0, 1) := by decide +kernel
theorem dX0_approach_21 : decode cX0_approach 21 = .ok (.getfield 9, 3) := by decide +kernel
theorem dX0_approach_24 : decode cX0_approach 24 = .ok (.iload_n 2, 1) := by decide +kernel
theorem dX0_approach_25 : decode cX0_approach 25 = .ok (.iaload, 1) := by decide +kernel
theorem dX0_approach_26 : decode cX0_approach 26 = .ok (.aload_n 1, 1) := by decide +kernel
theorem dX0_approach_27 : decode cX0_approach 27 = .ok (.getfield 9, 3) := by decide +kernel
theorem dX0_approach_30 : decode cX0_approach 30 = .ok (.iload_n 2, 1) := by decide +kernel
theorem dX0_approach_31 : decode cX0_approach 31 = .ok (.iaload, 1) := by decide +kernel
theorem dX0_approach_32 : decode cX0_approach 32 = .ok (.if_icmp .ge 7, 3) := by decide +kernel
theorem dX0_approach_35 : decode cX0_approach 35 = .ok (.iconst 1, 1) := by decide +kernel
theorem dX0_approach_36 : decode cX0_approach 36 = .ok (.goto 4, 3) := by decide +kernel
theorem dX0_approach_39 : decode cX0_approach 39 = .ok (.iconst (-1), 1) := by decide +kernel
theorem dX0_approach_40 : decode cX0_approach 40 = .ok (.iadd, 1) := by decide +kernel
theorem dX0_approach_41 : decode cX0_approach 41 = .ok (.iastore, 1) := by decide +kernel
theorem dX0_approach_42 : decode cX0_approach 42 = .ok (.iconst 1, 1) := by decide +kernel
theorem dX0_approach_43 : decode cX0_approach 43 = .ok (.ireturn, 1) := by decide +kernel
theorem dX1_init_0 : decode cX1_init 0 = .ok (.aload_n 0, 1) := by decide +kernel
theorem dX1_init_1 : decode cX1_init 1 = .ok (.invokespecial 3, 3) := by decide +kernel
theorem dX1_init_4 : decode cX1_init 4 = .ok (.aload_n 0, 1) := by decide +kernel
theorem dX1_init_5 : decode cX1_init 5 = .ok (.bipush 10, 2) := by decide +kernel
theorem dX1_init_7 : decode cX1_init 7 = .ok (.anewarray 9, 3) := by decide +kernel
theorem dX1_init_10 : decode cX1_init 10 = .ok (.putfield 11, 3) := by decide +kernel
theorem dX1_init_13 : decode cX1_init 13 = .ok (.iconst 0, 1) := by decide +kernel
theorem dX1_init_14 : decode cX1_init 14 = .ok (.istore_n 1, 1) := by decide +kernel
theorem dX1_init_15 : decode cX1_init 15 = .ok (.iload_n 1, 1) := by decide +kernel
theorem dX1_init_16 : decode cX1_init 16 = .ok (.bipush 10, 2) := by decide +kernel
theorem dX1_init_18 : decode cX1_init 18 = .ok (.if_icmp .ge 22, 3) := by decide +kernel
theorem dX1_init_21 : decode cX1_init 21 = .ok (.aload_n 0, 1) := by decide +kernel
theorem dX1_init_22 : decode cX1_init 22 = .ok (.getfield 11, 3) := by decide +kernel
theorem dX1_init_25 : decode cX1_init 25 = .ok (.iload_n 1, 1) := by decide +kernel
theorem dX1_init_26 : decode cX1_init 26 = .ok (.new 9, 3) := by decide +kernel
theorem dX1_init_29 : decode cX1_init 29 = .ok (.dup, 1) := by decide +kernel
theorem dX1_init_30 : decode cX1_init 30 = .ok (.invokespecial 17, 3) := by decide +kernel
theorem dX1_init_33 : decode cX1_init 33 = .ok (.aastore, 1) := by decide +kernel
theorem dX1_init_34 : decode cX1_init 34 = .ok (.iinc 1 1, 3) := by decide +kernel
theorem dX1_init_37 : decode cX1_init 37 = .ok (.goto (-22), 3) := by decide +kernel
theorem dX1_init_40 : decode cX1_init 40 = .ok (.return_, 1) := by decide +kernel
theorem dX1_clear_0 : decode cX1_clear 0 = .ok (.aload_n 0, 1) := by decide +kernel
theorem dX1_clear_1 : decode cX1_clear 1 = .ok (.iconst 0, 1) := by decide +kernel
theorem dX1_clear_2 : decode cX1_clear 2 = .ok (.putfield 18, 3) := by decide +kernel
theorem dX1_clear_5 : decode cX1_clear 5 = .ok (.aload_n 0, 1) := by decide +kernel
theorem dX1_clear_6 : decode cX1_clear 6 = .ok (.iconst 0, 1) := by decide +kernel
theorem dX1_clear_7 : decode cX1_clear 7 = .ok (.putfield 22, 3) := by decide +kernel
theorem dX1_clear_10 : decode cX1_clear 10 = .ok (.return_, 1) := by decide +kernel
theorem dX1_remember_0 : decode cX1_remember 0 = .ok (.aload_n 0, 1) := by decide +kernel
theorem dX1_remember_1 : decode cX1_remember 1 = .ok (.getfield 22, 3) := by decide +kernel
theorem dX1_remember_4 : decode cX1_remember 4 = .ok (.bipush 10, 2) := by decide +kernel
theorem dX1_remember_6 : decode cX1_remember 6 = .ok (.if_icmp .ne 26, 3) := by decide +kernel
theorem dX1_remember_9 : decode cX1_remember 9 = .ok (.aload_n 0, 1) := by decide +kernel
theorem dX1_remember_10 : decode cX1_remember 10 = .ok (.aload_n 0, 1) := by decide +kernel
theorem dX1_remember_11 : decode cX1_remember 11 = .ok (.getfield 18, 3) := by decide +kernel
theorem dX1_remember_14 : decode cX1_remember 14 = .ok (.iconst 1, 1) := by decide +kernel
theorem dX1_remember_15 : decode cX1_remember 15 = .ok (.iadd, 1) := by decide +kernel
theorem dX1_remember_16 : decode cX1_remember 16 = .ok (.bipush 10, 2) := by decide +kernel
theorem dX1_remember_18 : decode cX1_remember 18 = .ok (.irem, 1) := by decide +kernel
theorem dX1_remember_19 : decode cX1_remember 19 = .ok (.putfield 18, 3) := by decide +kernel
theorem dX1_remember_22 : decode cX1_remember 22 = .ok (.aload_n 0, 1) := by decide +kernel
theorem dX1_remember_23 : decode cX1_remember 23 = .ok (.dup, 1) := by decide +kernel
theorem dX1_remember_24 : decode cX1_remember 24 = .ok (.getfield 22, 3) := by decide +kernel
theorem dX1_remember_27 : decode cX1_remember 27 = .ok (.iconst 1, 1) := by decide +kernel
theorem dX1_remember_28 : decode cX1_remember 28 = .ok (.isub, 1) := by decide +kernel
theorem dX1_remember_29 : decode cX1_remember 29 = .ok (.putfield 22, 3) := by decide +kernel
theorem dX1_remember_32 : decode cX1_remember 32 = .ok (.aload_n 0, 1) := by decide +kernel
theorem dX1_remember_33 : decode cX1_remember 33 = .ok (.getfield 11, 3) := by decide +kernel
theorem dX1_remember_36 : decode cX1_remember 36 = .ok (.aload_n 0, 1) := by decide +kernel
theorem dX1_remember_37 : decode cX1_remember 37 = .ok (.getfield 18, 3) := by decide +kernel
theorem dX1_remember_40 : decode cX1_remember 40 = .ok (.aload_n 0, 1) := by decide +kernel
theorem dX1_remember_41 : decode cX1_remember 41 = .ok (.getfield 22, 3) := by decide +kernel
theorem dX1_remember_44 : decode cX1_remember 44 = .ok (.iadd, 1) := by decide +kernel
theorem dX1_remember_45 : decode cX1_remember 45 = .ok (.bipush 10, 2) := by decide +kernel
theorem dX1_remember_47 : decode cX1_remember 47 = .ok (.irem, 1) := by decide +kernel
theorem dX1_remember_48 : decode cX1_remember 48 = .ok (.aaload, 1) := by decide +kernel
theorem dX1_remember_49 : decode cX1_remember 49 = .ok (.aload_n 1, 1) := by decide +kernel
theorem dX1_remember_50 : decode cX1_remember 50 = .ok (.invokevirtual 25, 3) := by decide +kernel
theorem dX1_remember_53 : decode cX1_remember 53 = .ok (.aload_n 0, 1) := by decide +kernel
theorem dX1_remember_54 : decode cX1_remember 54 = .ok (.dup, 1) := by decide +kernel
theorem dX1_remember_55 : decode cX1_remember 55 = .ok (.getfield 22, 3) := by decide +kernel
theorem dX1_remember_58 : decode cX1_remember 58 = .ok (.iconst 1, 1) := by decide +kernel
theorem dX1_remember_59 : decode cX1_remember 59 = .ok (.iadd, 1) := by decide +kernel
theorem dX1_remember_60 : decode cX1_remember 60 = .ok (.putfield 22, 3) := by decide +kernel
theorem dX1_remember_63 : decode cX1_remember 63 = .ok (.return_, 1) := by decide +kernel
theorem dX1_takeBack_0 : decode cX1_takeBack 0 = .ok (.aload_n 0, 1) := by decide +kernel
theorem dX1_takeBack_1 : decode cX1_takeBack 1 = .ok (.getfield 22, 3) := by decide +kernel
theorem dX1_takeBack_4 : decode cX1_takeBack 4 = .ok (.ifCond .le 34, 3) := by decide +kernel
theorem dX1_takeBack_7 : decode cX1_takeBack 7 = .ok (.aload_n 0, 1) := by decide +kernel
theorem dX1_takeBack_8 : decode cX1_takeBack 8 = .ok (.dup, 1) := by decide +kernel
theorem dX1_takeBack_9 : decode cX1_takeBack 9 = .ok (.getfield 22, 3) := by decide +kernel
theorem dX1_takeBack_12 : decode cX1_takeBack 12 = .ok (.iconst 1, 1) := by decide +kernel
theorem dX1_takeBack_13 : decode cX1_takeBack 13 = .ok (.isub, 1) := by decide +kernel
theorem dX1_takeBack_14 : decode cX1_takeBack 14 = .ok (.putfield 22, 3) := by decide +kernel
theorem dX1_takeBack_17 : decode cX1_takeBack 17 = .ok (.aload_n 1, 1) := by decide +kernel
theorem dX1_takeBack_18 : decode cX1_takeBack 18 = .ok (.aload_n 0, 1) := by decide +kernel
theorem dX1_takeBack_19 : decode cX1_takeBack 19 = .ok (.getfield 11, 3) := by decide +kernel
theorem dX1_takeBack_22 : decode cX1_takeBack 22 = .ok (.aload_n 0, 1) := by decide +kernel
theorem dX1_takeBack_23 : decode cX1_takeBack 23 = .ok (.getfield 18, 3) := by decide +kernel
theorem dX1_takeBack_26 : decode cX1_takeBack 26 = .ok (.aload_n 0, 1) := by decide +kernel
theorem dX1_takeBack_27 : decode cX1_takeBack 27 = .ok (.getfield 22, 3) := by decide +kernel
theorem dX1_takeBack_30 : decode cX1_takeBack 30 = .ok (.iadd, 1) := by decide +kernel
theorem dX1_takeBack_31 : decode cX1_takeBack 31 = .ok (.bipush 10, 2) := by decide +kernel
theorem dX1_takeBack_33 : decode cX1_takeBack 33 = .ok (.irem, 1) := by decide +kernel
theorem dX1_takeBack_34 : decode cX1_takeBack 34 = .ok (.aaload, 1) := by decide +kernel
theorem dX1_takeBack_35 : decode cX1_takeBack 35 = .ok (.invokevirtual 25, 3) := by decide +kernel
theorem dX1_takeBack_38 : decode cX1_takeBack 38 = .ok (.return_, 1) := by decide +kernel
theorem dX2_init_0 : decode cX2_init 0 = .ok (.aload_n 0, 1) := by decide +kernel
theorem dX2_init_1 : decode cX2_init 1 = .ok (.invokespecial 3, 3) := by decide +kernel
theorem dX2_init_4 : decode cX2_init 4 = .ok (.aload_n 0, 1) := by decide +kernel
theorem dX2_init_5 : decode cX2_init 5 = .ok (.new 9, 3) := by decide +kernel
theorem dX2_init_8 : decode cX2_init 8 = .ok (.dup, 1) := by decide +kernel
theorem dX2_init_9 : decode cX2_init 9 = .ok (.invokespecial 11, 3) := by decide +kernel
theorem dX2_init_12 : decode cX2_init 12 = .ok (.putfield 12, 3) := by decide +kernel
theorem dX2_init_15 : decode cX2_init 15 = .ok (.aload_n 0, 1) := by decide +kernel
theorem dX2_init_16 : decode cX2_init 16 = .ok (.bipush 12, 2) := by decide +kernel
theorem dX2_init_18 : decode cX2_init 18 = .ok (.anewarray 18, 3) := by decide +kernel
theorem dX2_init_21 : decode cX2_init 21 = .ok (.putfield 20, 3) := by decide +kernel
theorem dX2_init_24 : decode cX2_init 24 = .ok (.aload_n 0, 1) := by decide +kernel
theorem dX2_init_25 : decode cX2_init 25 = .ok (.new 9, 3) := by decide +kernel
theorem dX2_init_28 : decode cX2_init 28 = .ok (.dup, 1) := by decide +kernel
theorem dX2_init_29 : decode cX2_init 29 = .ok (.invokespecial 11, 3) := by decide +kernel
theorem dX2_init_32 : decode cX2_init 32 = .ok (.putfield 24, 3) := by decide +kernel
theorem dX2_init_35 : decode cX2_init 35 = .ok (.iconst 0, 1) := by decide +kernel
theorem dX2_init_36 : decode cX2_init 36 = .ok (.istore_n 1, 1) := by decide +kernel
theorem dX2_init_37 : decode cX2_init 37 = .ok (.iload_n 1, 1) := by decide +kernel
theorem dX2_init_38 : decode cX2_init 38 = .ok (.bipush 12, 2) := by decide +kernel
theorem dX2_init_40 : decode cX2_init 40 = .ok (.if_icmp .ge 22, 3) := by decide +kernel
theorem dX2_init_43 : decode cX2_init 43 = .ok (.aload_n 0, 1) := by decide +kernel
theorem dX2_init_44 : decode cX2_init 44 = .ok (.getfield 20, 3) := by decide +kernel
theorem dX2_init_47 : decode cX2_init 47 = .ok (.iload_n 1, 1) := by decide +kernel
theorem dX2_init_48 : decode cX2_init 48 = .ok (.new 18, 3) := by decide +kernel
theorem dX2_init_51 : decode cX2_init 51 = .ok (.dup, 1) := by decide +kernel
theorem dX2_init_52 : decode cX2_init 52 = .ok (.invokespecial 27, 3) := by decide +kernel
theorem dX2_init_55 : decode cX2_init 55 = .ok (.aastore, 1) := by decide +kernel
theorem dX2_init_56 : decode cX2_init 56 = .ok (.iinc 1 1, 3) := by decide +kernel
theorem dX2_init_59 : decode cX2_init 59 = .ok (.goto (-22), 3) := by decide +kernel
theorem dX2_init_62 : decode cX2_init 62 = .ok (.return_, 1) := by decide +kernel
theorem dX2_open_0 : decode cX2_open 0 = .ok (.aload_n 0, 1) := by decide +kernel
theorem dX2_open_1 : decode cX2_open 1 = .ok (.iconst 0, 1) := by decide +kernel
theorem dX2_open_2 : decode cX2_open 2 = .ok (.putfield 28, 3) := by decide +kernel
theorem dX2_open_5 : decode cX2_open 5 = .ok (.aload_n 0, 1) := by decide +kernel
theorem dX2_open_6 : decode cX2_open 6 = .ok (.iload_n 1, 1) := by decide +kernel
theorem dX2_open_7 : decode cX2_open 7 = .ok (.putfield 32, 3) := by decide +kernel
theorem dX2_open_10 : decode cX2_open 10 = .ok (.aload_n 0, 1) := by decide +kernel
theorem dX2_open_11 : decode cX2_open 11 = .ok (.iload_n 2, 1) := by decide +kernel
theorem dX2_open_12 : decode cX2_open 12 = .ok (.putfield 35, 3) := by decide +kernel
theorem dX2_open_15 : decode cX2_open 15 = .ok (.aload_n 0, 1) := by decide +kernel
theorem dX2_open_16 : decode cX2_open 16 = .ok (.iconst 0, 1) := by decide +kernel
theorem dX2_open_17 : decode cX2_open 17 = .ok (.putfield 38, 3) := by decide +kernel
theorem dX2_open_20 : decode cX2_open 20 = .ok (.aload_n 0, 1) := by decide +kernel
theorem dX2_open_21 : decode cX2_open 21 = .ok (.iconst 0, 1) := by decide +kernel
theorem dX2_open_22 : decode cX2_open 22 = .ok (.putfield 41, 3) := by decide +kernel
theorem dX2_open_25 : decode cX2_open 25 = .ok (.aload_n 0, 1) := by decide +kernel
theorem dX2_open_26 : decode cX2_open 26 = .ok (.iconst 0, 1) := by decide +kernel
theorem dX2_open_27 : decode cX2_open 27 = .ok (.putfield 44, 3) := by decide +kernel
theorem dX2_open_30 : decode cX2_open 30 = .ok (.aload_n 0, 1) := by decide +kernel
theorem dX2_open_31 : decode cX2_open 31 = .ok (.iconst 0, 1) := by decide +kernel
theorem dX2_open_32 : decode cX2_open 32 = .ok (.putfield 47, 3) := by decide +kernel
theorem dX2_open_35 : decode cX2_open 35 = .ok (.aload_n 0, 1) := by decide +kernel
theorem dX2_open_36 : decode cX2_open 36 = .ok (.iconst 0, 1) := by decide +kernel
theorem dX2_open_37 : decode cX2_open 37 = .ok (.putfield 50, 3) := by decide +kernel
theorem dX2_open_40 : decode cX2_open 40 = .ok (.return_, 1) := by decide +kernel
theorem dX2_copyFrom_0 : decode cX2_copyFrom 0 = .ok (.aload_n 0, 1) := by decide +kernel
theorem dX2_copyFrom_1 : decode cX2_copyFrom 1 = .ok (.aload_n 1, 1) := by decide +kernel
theorem dX2_copyFrom_2 : decode cX2_copyFrom 2 = .ok (.getfield 28, 3) := by decide +kernel
theorem dX2_copyFrom_5 : decode cX2_copyFrom 5 = .ok (.putfield 28, 3) := by decide +kernel
theorem dX2_copyFrom_8 : decode cX2_copyFrom 8 = .ok (.aload_n 0, 1) := by decide +kernel
theorem dX2_copyFrom_9 : decode cX2_copyFrom 9 = .ok (.aload_n 1, 1) := by decide +kernel
theorem dX2_copyFrom_10 : decode cX2_copyFrom 10 = .ok (.getfield 32, 3) := by decide +kernel
theorem dX2_copyFrom_13 : decode cX2_copyFrom 13 = .ok (.putfield 32, 3) := by decide +kernel
theorem dX2_copyFrom_16 : decode cX2_copyFrom 16 = .ok (.aload_n 0, 1) := by decide +kernel
theorem dX2_copyFrom_17 : decode cX2_copyFrom 17 = .ok (.aload_n 1, 1) := by decide +kernel
theorem dX2_copyFrom_18 : decode cX2_copyFrom 18 = .ok (.getfield 35, 3) := by decide +kernel
theorem dX2_copyFrom_21 : decode cX2_copyFrom 21 = .ok (.putfield 35, 3) := by decide +kernel
theorem dX2_copyFrom_24 : decode cX2_copyFrom 24 = .ok (.aload_n 0, 1) := by decide +kernel
theorem dX2_copyFrom_25 : decode cX2_copyFrom 25 = .ok (.aload_n 1, 1) := by decide +kernel
theorem dX2_copyFrom_26 : decode cX2_copyFrom 26 = .ok (.getfield 38, 3) := by decide +kernel
theorem dX2_copyFrom_29 : decode cX2_copyFrom 29 = .ok (.putfield 38, 3) := by decide +kernel
theorem dX2_copyFrom_32 : decode cX2_copyFrom 32 = .ok (.aload_n 0, 1) := by decide +kernel
theorem dX2_copyFrom_33 : decode cX2_copyFrom 33 = .ok (.aload_n 1, 1) := by decide +kernel
theorem dX2_copyFrom_34 : decode cX2_copyFrom 34 = .ok (.getfield 41, 3) := by decide +kernel
theorem dX2_copyFrom_37 : decode cX2_copyFrom 37 = .ok (.putfield 41, 3) := by decide +kernel
theorem dX2_copyFrom_40 : decode cX2_copyFrom 40 = .ok (.aload_n 0, 1) := by decide +kernel
theorem dX2_copyFrom_41 : decode cX2_copyFrom 41 = .ok (.aload_n 1, 1) := by decide +kernel
theorem dX2_copyFrom_42 : decode cX2_copyFrom 42 = .ok (.getfield 44, 3) := by decide +kernel
theorem dX2_copyFrom_45 : decode cX2_copyFrom 45 = .ok (.putfield 44, 3) := by decide +kernel
theorem dX2_copyFrom_48 : decode cX2_copyFrom 48 = .ok (.aload_n 0, 1) := by decide +kernel
theorem dX2_copyFrom_49 : decode cX2_copyFrom 49 = .ok (.aload_n 1, 1) := by decide +kernel
theorem dX2_copyFrom_50 : decode cX2_copyFrom 50 = .ok (.getfield 47, 3) := by decide +kernel
theorem dX2_copyFrom_53 : decode cX2_copyFrom 53 = .ok (.putfield 47, 3) := by decide +kernel
theorem dX2_copyFrom_56 : decode cX2_copyFrom 56 = .ok (.aload_n 0, 1) := by decide +kernel
theorem dX2_copyFrom_57 : decode cX2_copyFrom 57 = .ok (.aload_n 1, 1) := by decide +kernel
theorem dX2_copyFrom_58 : decode cX2_copyFrom 58 = .ok (.getfield 50, 3) := by decide +kernel
theorem dX2_copyFrom_61 : decode cX2_copyFrom 61 = .ok (.putfield 50, 3) := by decide +kernel
theorem dX2_copyFrom_64 : decode cX2_copyFrom 64 = .ok (.aload_n 0, 1) := by decide +kernel
theorem dX2_copyFrom_65 : decode cX2_copyFrom 65 = .ok (.getfield 12, 3) := by decide +kernel
theorem dX2_copyFrom_68 : decode cX2_copyFrom 68 = .ok (.aload_n 1, 1) := by decide +kernel
theorem dX2_copyFrom_69 : decode cX2_copyFrom 69 = .ok (.getfield 12, 3) := by decide +kernel
theorem dX2_copyFrom_72 : decode cX2_copyFrom 72 = .ok (.invokevirtual 53, 3) := by decide +kernel
theorem dX2_copyFrom_75 : decode cX2_copyFrom 75 = .ok (.iconst 0, 1) := by decide +kernel
theorem dX2_copyFrom_76 : decode cX2_copyFrom 76 = .ok (.istore_n 2, 1) := by decide +kernel
theorem dX2_copyFrom_77 : decode cX2_copyFrom 77 = .ok (.iload_n 2, 1) := by decide +kernel
theorem dX2_copyFrom_78 : decode cX2_copyFrom 78 = .ok (.aload_n 0, 1) := by decide +kernel
theorem dX2_copyFrom_79 : decode cX2_copyFrom 79 = .ok (.getfield 50, 3) := by decide +kernel
theorem dX2_copyFrom_82 : decode cX2_copyFrom 82 = .ok (.if_icmp .ge 24, 3) := by decide +kernel
theorem dX2_copyFrom_85 : decode cX2_copyFrom 85 = .ok (.aload_n 0, 1) := by decide +kernel
theorem dX2_copyFrom_86 : decode cX2_copyFrom 86 = .ok (.getfield 20, 3) := by decide +kernel
theorem dX2_copyFrom_89 : decode cX2_copyFrom 89 = .ok (.iload_n 2, 1) := by decide +kernel
theorem dX2_copyFrom_90 : decode cX2_copyFrom 90 = .ok (.aaload, 1) := by decide +kernel
theorem dX2_copyFrom_91 : decode cX2_copyFrom 91 = .ok (.aload_n 1, 1) := by decide +kernel
theorem dX2_copyFrom_92 : decode cX2_copyFrom 92 = .ok (.getfield 20, 3) := by decide +kernel
theorem dX2_copyFrom_95 : decode cX2_copyFrom 95 = .ok (.iload_n 2, 1) := by decide +kernel
theorem dX2_copyFrom_96 : decode cX2_copyFrom 96 = .ok (.aaload, 1) := by decide +kernel
theorem dX2_copyFrom_97 : decode cX2_copyFrom 97 = .ok (.invokevirtual 57, 3) := by decide +kernel
theorem dX2_copyFrom_100 : decode cX2_copyFrom 100 = .ok (.iinc 2 1, 3) := by decide +kernel
theorem dX2_copyFrom_103 : decode cX2_copyFrom 103 = .ok (.goto (-26), 3) := by decide +kernel
theorem dX2_copyFrom_106 : decode cX2_copyFrom 106 = .ok (.return_, 1) := by decide +kernel
theorem dX2_dailyRent_0 : decode cX2_dailyRent 0 = .ok (.aload_n 0, 1) := by decide +kernel
theorem dX2_dailyRent_1 : decode cX2_dailyRent 1 = .ok (.getfield 32, 3) := by decide +kernel
theorem dX2_dailyRent_4 : decode cX2_dailyRent 4 = .ok (.iconst 5, 1) := by decide +kernel
theorem dX2_dailyRent_5 : decode cX2_dailyRent 5 = .ok (.iload_n 1, 1) := by decide +kernel
theorem dX2_dailyRent_6 : decode cX2_dailyRent 6 = .ok (.imul, 1) := by decide +kernel
theorem dX2_dailyRent_7 : decode cX2_dailyRent 7 = .ok (.iadd, 1) := by decide +kernel
theorem dX2_dailyRent_8 : decode cX2_dailyRent 8 = .ok (.ireturn, 1) := by decide +kernel
theorem dX2_crowdOn_0 : decode cX2_crowdOn 0 = .ok (.iconst 0, 1) := by decide +kernel
theorem dX2_crowdOn_1 : decode cX2_crowdOn 1 = .ok (.istore_n 2, 1) := by decide +kernel
theorem dX2_crowdOn_2 : decode cX2_crowdOn 2 = .ok (.iconst 0, 1) := by decide +kernel
theorem dX2_crowdOn_3 : decode cX2_crowdOn 3 = .ok (.istore_n 3, 1) := by decide +kernel
theorem dX2_crowdOn_4 : decode cX2_crowdOn 4 = .ok (.iload_n 3, 1) := by decide +kernel
theorem dX2_crowdOn_5 : decode cX2_crowdOn 5 = .ok (.aload_n 0, 1) := by decide +kernel
theorem dX2_crowdOn_6 : decode cX2_crowdOn 6 = .ok (.getfield 50, 3) := by decide +kernel
theorem dX2_crowdOn_9 : decode cX2_crowdOn 9 = .ok (.if_icmp .ge 25, 3) := by decide +kernel
theorem dX2_crowdOn_12 : decode cX2_crowdOn 12 = .ok (.aload_n 0, 1) := by decide +kernel
theorem dX2_crowdOn_13 : decode cX2_crowdOn 13 = .ok (.getfield 20, 3) := by decide +kernel
theorem dX2_crowdOn_16 : decode cX2_crowdOn 16 = .ok (.iload_n 3, 1) := by decide +kernel
theorem dX2_crowdOn_17 : decode cX2_crowdOn 17 = .ok (.aaload, 1) := by decide +kernel
theorem dX2_crowdOn_18 : decode cX2_crowdOn 18 = .ok (.getfield 60, 3) := by decide +kernel
theorem dX2_crowdOn_21 : decode cX2_crowdOn 21 = .ok (.iload_n 1, 1) := by decide +kernel
theorem dX2_crowdOn_22 : decode cX2_crowdOn 22 = .ok (.if_icmp .ne 6, 3) := by decide +kernel
theorem dX2_crowdOn_25 : decode cX2_crowdOn 25 = .ok (.iinc 2 1, 3) := by decide +kernel
theorem dX2_crowdOn_28 : decode cX2_crowdOn 28 = .ok (.iinc 3 1, 3) := by decide +kernel
theorem dX2_crowdOn_31 : decode cX2_crowdOn 31 = .ok (.goto (-27), 3) := by decide +kernel
theorem dX2_crowdOn_34 : decode cX2_crowdOn 34 = .ok (.iload_n 2, 1) := by decide +kernel
theorem dX2_crowdOn_35 : decode cX2_crowdOn 35 = .ok (.ireturn, 1) := by decide +kernel
theorem dX2_isFullFor_0 : decode cX2_isFullFor 0 = .ok (.iconst 0, 1) := by decide +kernel
theorem dX2_isFullFor_1 : decode cX2_isFullFor 1 = .ok (.istore_n 3, 1) := by decide +kernel
theorem dX2_isFullFor_2 : decode cX2_isFullFor 2 = .ok (.iconst 0, 1) := by decide +kernel
theorem dX2_isFullFor_3 : decode cX2_isFullFor 3 = .ok (.istore 4, 2) := by decide +kernel
theorem dX2_isFullFor_5 : decode cX2_isFullFor 5 = .ok (.iload 4, 2) := by decide +kernel
theorem dX2_isFullFor_7 : decode cX2_isFullFor 7 = .ok (.aload_n 0, 1) := by decide +kernel
theorem dX2_isFullFor_8 : decode cX2_isFullFor 8 = .ok (.getfield 50, 3) := by decide +kernel
theorem dX2_isFullFor_11 : decode cX2_isFullFor 11 = .ok (.if_icmp .ge 37, 3) := by decide +kernel
theorem dX2_isFullFor_14 : decode cX2_isFullFor 14 = .ok (.aload_n 0, 1) := by decide +kernel
theorem dX2_isFullFor_15 : decode cX2_isFullFor 15 = .ok (.getfield 20, 3) := by decide +kernel
theorem dX2_isFullFor_18 : decode cX2_isFullFor 18 = .ok (.iload 4, 2) := by decide +kernel
theorem dX2_isFullFor_20 : decode cX2_isFullFor 20 = .ok (.aaload, 1) := by decide +kernel
theorem dX2_isFullFor_21 : decode cX2_isFullFor 21 = .ok (.aload_n 2, 1) := by decide +kernel
theorem dX2_isFullFor_22 : decode cX2_isFullFor 22 = .ok (.if_acmp .eq 20, 3) := by decide +kernel
theorem dX2_isFullFor_25 : decode cX2_isFullFor 25 = .ok (.aload_n 0, 1) := by decide +kernel
theorem dX2_isFullFor_26 : decode cX2_isFullFor 26 = .ok (.getfield 20, 3) := by decide +kernel
theorem dX2_isFullFor_29 : decode cX2_isFullFor 29 = .ok (.iload 4, 2) := by decide +kernel
theorem dX2_isFullFor_31 : decode cX2_isFullFor 31 = .ok (.aaload, 1) := by decide +kernel
theorem dX2_isFullFor_32 : decode cX2_isFullFor 32 = .ok (.getfield 60, 3) := by decide +kernel
theorem dX2_isFullFor_35 : decode cX2_isFullFor 35 = .ok (.iload_n 1, 1) := by decide +kernel
theorem dX2_isFullFor_36 : decode cX2_isFullFor 36 = .ok (.if_icmp .ne 6, 3) := by decide +kernel
theorem dX2_isFullFor_39 : decode cX2_isFullFor 39 = .ok (.iinc 3 1, 3) := by decide +kernel
theorem dX2_isFullFor_42 : decode cX2_isFullFor 42 = .ok (.iinc 4 1, 3) := by decide +kernel
theorem dX2_isFullFor_45 : decode cX2_isFullFor 45 = .ok (.goto (-40), 3) := by decide +kernel
theorem dX2_isFullFor_48 : decode cX2_isFullFor 48 = .ok (.iload_n 3, 1) := by decide +kernel
theorem dX2_isFullFor_49 : decode cX2_isFullFor 49 = .ok (.iconst 4, 1) := by decide +kernel
theorem dX2_isFullFor_50 : decode cX2_isFullFor 50 = .ok (.if_icmp .lt 7, 3) := by decide +kernel
theorem dX2_isFullFor_53 : decode cX2_isFullFor 53 = .ok (.iconst 1, 1) := by decide +kernel
theorem dX2_isFullFor_54 : decode cX2_isFullFor 54 = .ok (.goto 4, 3) := by decide +kernel
theorem dX2_isFullFor_57 : decode cX2_isFullFor 57 = .ok (.iconst 0, 1) := by decide +kernel
theorem dX2_isFullFor_58 : decode cX2_isFullFor 58 = .ok (.ireturn, 1) := by decide +kernel
theorem dX2_numberAt_0 : decode cX2_numberAt 0 = .ok (.iconst 0, 1) := by decide +kernel
theorem dX2_numberAt_1 : decode cX2_numberAt 1 = .ok (.istore_n 3, 1) := by decide +kernel
theorem dX2_numberAt_2 : decode cX2_numberAt 2 = .ok (.iconst 0, 1) := by decide +kernel
theorem dX2_numberAt_3 : decode cX2_numberAt 3 = .ok (.istore 4, 2) := by decide +kernel
theorem dX2_numberAt_5 : decode cX2_numberAt 5 = .ok (.iload 4, 2) := by decide +kernel
theorem dX2_numberAt_7 : decode cX2_numberAt 7 = .ok (.aload_n 0, 1) := by decide +kernel
theorem dX2_numberAt_8 : decode cX2_numberAt 8 = .ok (.getfield 50, 3) := by decide +kernel
theorem dX2_numberAt_11 : decode cX2_numberAt 11 = .ok (.if_icmp .ge 34, 3) := by decide +kernel
theorem dX2_numberAt_14 : decode cX2_numberAt 14 = .ok (.aload_n 0, 1) := by decide +kernel
theorem dX2_numberAt_15 : decode cX2_numberAt 15 = .ok (.getfield 20, 3) := by decide +kernel
theorem dX2_numberAt_18 : decode cX2_numberAt 18 = .ok (.iload 4, 2) := by decide +kernel
theorem dX2_numberAt_20 : decode cX2_numberAt 20 = .ok (.aaload, 1) := by decide +kernel
theorem dX2_numberAt_21 : decode cX2_numberAt 21 = .ok (.getfield 60, 3) := by decide +kernel
theorem dX2_numberAt_24 : decode cX2_numberAt 24 = .ok (.iload_n 1, 1) := by decide +kernel
theorem dX2_numberAt_25 : decode cX2_numberAt 25 = .ok (.if_icmp .ne 14, 3) := by decide +kernel
theorem dX2_numberAt_28 : decode cX2_numberAt 28 = .ok (.iload_n 3, 1) := by decide +kernel
theorem dX2_numberAt_29 : decode cX2_numberAt 29 = .ok (.iload_n 2, 1) := by decide +kernel
theorem dX2_numberAt_30 : decode cX2_numberAt 30 = .ok (.if_icmp .ne 6, 3) := by decide +kernel
theorem dX2_numberAt_33 : decode cX2_numberAt 33 = .ok (.iload 4, 2) := by decide +kernel
theorem dX2_numberAt_35 : decode cX2_numberAt 35 = .ok (.ireturn, 1) := by decide +kernel
theorem dX2_numberAt_36 : decode cX2_numberAt 36 = .ok (.iinc 3 1, 3) := by decide +kernel
theorem dX2_numberAt_39 : decode cX2_numberAt 39 = .ok (.iinc 4 1, 3) := by decide +kernel
theorem dX2_numberAt_42 : decode cX2_numberAt 42 = .ok (.goto (-37), 3) := by decide +kernel
theorem dX2_numberAt_45 : decode cX2_numberAt 45 = .ok (.iconst (-1), 1) := by decide +kernel
theorem dX2_numberAt_46 : decode cX2_numberAt 46 = .ok (.ireturn, 1) := by decide +kernel
theorem dX2_numberOf_0 : decode cX2_numberOf 0 = .ok (.iconst 0, 1) := by decide +kernel
theorem dX2_numberOf_1 : decode cX2_numberOf 1 = .ok (.istore 4, 2) := by decide +kernel
theorem dX2_numberOf_3 : decode cX2_numberOf 3 = .ok (.iload 4, 2) := by decide +kernel
theorem dX2_numberOf_5 : decode cX2_numberOf 5 = .ok (.aload_n 0, 1) := by decide +kernel
theorem dX2_numberOf_6 : decode cX2_numberOf 6 = .ok (.getfield 50, 3) := by decide +kernel
theorem dX2_numberOf_9 : decode cX2_numberOf 9 = .ok (.if_icmp .ge 28, 3) := by decide +kernel
theorem dX2_numberOf_12 : decode cX2_numberOf 12 = .ok (.aload_n 0, 1) := by decide +kernel
theorem dX2_numberOf_13 : decode cX2_numberOf 13 = .ok (.getfield 20, 3) := by decide +kernel
theorem dX2_numberOf_16 : decode cX2_numberOf 16 = .ok (.iload 4, 2) := by decide +kernel
theorem dX2_numberOf_18 : decode cX2_numberOf 18 = .ok (.aaload, 1) := by decide +kernel
theorem dX2_numberOf_19 : decode cX2_numberOf 19 = .ok (.aload_n 1, 1) := by decide +kernel
theorem dX2_numberOf_20 : decode cX2_numberOf 20 = .ok (.iload_n 2, 1) := by decide +kernel
theorem dX2_numberOf_21 : decode cX2_numberOf 21 = .ok (.iload_n 3, 1) := by decide +kernel
theorem dX2_numberOf_22 : decode cX2_numberOf 22 = .ok (.invokevirtual 63, 3) := by decide +kernel
theorem dX2_numberOf_25 : decode cX2_numberOf 25 = .ok (.ifCond .eq 6, 3) := by decide +kernel
theorem dX2_numberOf_28 : decode cX2_numberOf 28 = .ok (.iload 4, 2) := by decide +kernel
theorem dX2_numberOf_30 : decode cX2_numberOf 30 = .ok (.ireturn, 1) := by decide +kernel
theorem dX2_numberOf_31 : decode cX2_numberOf 31 = .ok (.iinc 4 1, 3) := by decide +kernel
theorem dX2_numberOf_34 : decode cX2_numberOf 34 = .ok (.goto (-31), 3) := by decide +kernel
theorem dX2_numberOf_37 : decode cX2_numberOf 37 = .ok (.iconst (-1), 1) := by decide +kernel
theorem dX2_numberOf_38 : decode cX2_numberOf 38 = .ok (.ireturn, 1) := by decide +kernel
theorem dX2_houses_0 : decode cX2_houses 0 = .ok (.iconst 0, 1) := by decide +kernel
theorem dX2_houses_1 : decode cX2_houses 1 = .ok (.istore_n 2, 1) := by decide +kernel
theorem dX2_houses_2 : decode cX2_houses 2 = .ok (.iload_n 2, 1) := by decide +kernel
theorem dX2_houses_3 : decode cX2_houses 3 = .ok (.aload_n 0, 1) := by decide +kernel
theorem dX2_houses_4 : decode cX2_houses 4 = .ok (.getfield 50, 3) := by decide +kernel
theorem dX2_houses_7 : decode cX2_houses 7 = .ok (.if_icmp .ge 21, 3) := by decide +kernel
theorem dX2_houses_10 : decode cX2_houses 10 = .ok (.aload_n 0, 1) := by decide +kernel
theorem dX2_houses_11 : decode cX2_houses 11 = .ok (.getfield 20, 3) := by decide +kernel
theorem dX2_houses_14 : decode cX2_houses 14 = .ok (.iload_n 2, 1) := by decide +kernel
theorem dX2_houses_15 : decode cX2_houses 15 = .ok (.aaload, 1) := by decide +kernel
theorem dX2_houses_16 : decode cX2_houses 16 = .ok (.aload_n 1, 1) := by decide +kernel
theorem dX2_houses_17 : decode cX2_houses 17 = .ok (.if_acmp .ne 5, 3) := by decide +kernel
theorem dX2_houses_20 : decode cX2_houses 20 = .ok (.iconst 1, 1) := by decide +kernel
theorem dX2_houses_21 : decode cX2_houses 21 = .ok (.ireturn, 1) := by decide +kernel
theorem dX2_houses_22 : decode cX2_houses 22 = .ok (.iinc 2 1, 3) := by decide +kernel
theorem dX2_houses_25 : decode cX2_houses 25 = .ok (.goto (-23), 3) := by decide +kernel
theorem dX2_houses_28 : decode cX2_houses 28 = .ok (.iconst 0, 1) := by decide +kernel
theorem dX2_houses_29 : decode cX2_houses 29 = .ok (.ireturn, 1) := by decide +kernel
theorem dX2_unusedLetter_0 : decode cX2_unusedLetter 0 = .ok (.iconst 0, 1) := by decide +kernel
theorem dX2_unusedLetter_1 : decode cX2_unusedLetter 1 = .ok (.istore_n 1, 1) := by decide +kernel
theorem dX2_unusedLetter_2 : decode cX2_unusedLetter 2 = .ok (.iload_n 1, 1) := by decide +kernel
theorem dX2_unusedLetter_3 : decode cX2_unusedLetter 3 = .ok (.ldc 67, 2) := by decide +kernel
theorem dX2_unusedLetter_5 : decode cX2_unusedLetter 5 = .ok (.invokevirtual 69, 3) := by decide +kernel
theorem dX2_unusedLetter_8 : decode cX2_unusedLetter 8 = .ok (.if_icmp .ge 32, 3) := by decide +kernel
theorem dX2_unusedLetter_11 : decode cX2_unusedLetter 11 = .ok (.aload_n 0, 1) := by decide +kernel
theorem dX2_unusedLetter_12 : decode cX2_unusedLetter 12 = .ok (.ldc 67, 2) := by decide +kernel
theorem dX2_unusedLetter_14 : decode cX2_unusedLetter 14 = .ok (.iload_n 1, 1) := by decide +kernel
theorem dX2_unusedLetter_15 : decode cX2_unusedLetter 15 = .ok (.invokevirtual 75, 3) := by decide +kernel
theorem dX2_unusedLetter_18 : decode cX2_unusedLetter 18 = .ok (.invokevirtual 79, 3) := by decide +kernel
theorem dX2_unusedLetter_21 : decode cX2_unusedLetter 21 = .ok (.ifCond .ne 13, 3) := by decide +kernel
theorem dX2_unusedLetter_24 : decode cX2_unusedLetter 24 = .ok (.ldc 67, 2) := by decide +kernel
theorem dX2_unusedLetter_26 : decode cX2_unusedLetter 26 = .ok (.iload_n 1, 1) := by decide +kernel
theorem dX2_unusedLetter_27 : decode cX2_unusedLetter 27 = .ok (.iload_n 1, 1) := by decide +kernel
theorem dX2_unusedLetter_28 : decode cX2_unusedLetter 28 = .ok (.iconst 1, 1) := by decide +kernel
theorem dX2_unusedLetter_29 : decode cX2_unusedLetter 29 = .ok (.iadd, 1) := by decide +kernel
theorem dX2_unusedLetter_30 : decode cX2_unusedLetter 30 = .ok (.invokevirtual 83, 3) := by decide +kernel
theorem dX2_unusedLetter_33 : decode cX2_unusedLetter 33 = .ok (.areturn, 1) := by decide +kernel
theorem dX2_unusedLetter_34 : decode cX2_unusedLetter 34 = .ok (.iinc 1 1, 3) := by decide +kernel
theorem dX2_unusedLetter_37 : decode cX2_unusedLetter 37 = .ok (.goto (-35), 3) := by decide +kernel
theorem dX2_unusedLetter_40 : decode cX2_unusedLetter 40 = .ok (.ldc 87, 2) := by decide +kernel
theorem dX2_unusedLetter_42 : decode cX2_unusedLetter 42 = .ok (.areturn, 1) := by decide +kernel
theorem dX2_hasLetterName_0 : decode cX2_hasLetterName 0 = .ok (.iconst 0, 1) := by decide +kernel
theorem dX2_hasLetterName_1 : decode cX2_hasLetterName 1 = .ok (.istore_n 2, 1) := by decide +kernel
theorem dX2_hasLetterName_2 : decode cX2_hasLetterName 2 = .ok (.iload_n 2, 1) := by decide +kernel
theorem dX2_hasLetterName_3 : decode cX2_hasLetterName 3 = .ok (.aload_n 0, 1) := by decide +kernel
theorem dX2_hasLetterName_4 : decode cX2_hasLetterName 4 = .ok (.getfield 50, 3) := by decide +kernel
theorem dX2_hasLetterName_7 : decode cX2_hasLetterName 7 = .ok (.if_icmp .ge 38, 3) := by decide +kernel
theorem dX2_hasLetterName_10 : decode cX2_hasLetterName 10 = .ok (.aload_n 0, 1) := by decide +kernel
theorem dX2_hasLetterName_11 : decode cX2_hasLetterName 11 = .ok (.getfield 20, 3) := by decide +kernel
theorem dX2_hasLetterName_14 : decode cX2_hasLetterName 14 = .ok (.iload_n 2, 1) := by decide +kernel
theorem dX2_hasLetterName_15 : decode cX2_hasLetterName 15 = .ok (.aaload, 1) := by decide +kernel
theorem dX2_hasLetterName_16 : decode cX2_hasLetterName 16 = .ok (.getfield 89, 3) := by decide +kernel
theorem dX2_hasLetterName_19 : decode cX2_hasLetterName 19 = .ok (.astore_n 3, 1) := by decide +kernel
theorem dX2_hasLetterName_20 : decode cX2_hasLetterName 20 = .ok (.aload_n 3, 1) := by decide +kernel
theorem dX2_hasLetterName_21 : decode cX2_hasLetterName 21 = .ok (.invokevirtual 69, 3) := by decide +kernel
theorem dX2_hasLetterName_24 : decode cX2_hasLetterName 24 = .ok (.iconst 1, 1) := by decide +kernel
theorem dX2_hasLetterName_25 : decode cX2_hasLetterName 25 = .ok (.if_icmp .ne 14, 3) := by decide +kernel
theorem dX2_hasLetterName_28 : decode cX2_hasLetterName 28 = .ok (.aload_n 3, 1) := by decide +kernel
theorem dX2_hasLetterName_29 : decode cX2_hasLetterName 29 = .ok (.iconst 0, 1) := by decide +kernel
theorem dX2_hasLetterName_30 : decode cX2_hasLetterName 30 = .ok (.invokevirtual 75, 3) := by decide +kernel
theorem dX2_hasLetterName_33 : decode cX2_hasLetterName 33 = .ok (.iload_n 1, 1) := by decide +kernel
theorem dX2_hasLetterName_34 : decode cX2_hasLetterName 34 = .ok (.if_icmp .ne 5, 3) := by decide +kernel
theorem dX2_hasLetterName_37 : decode cX2_hasLetterName 37 = .ok (.iconst 1, 1) := by decide +kernel
theorem dX2_hasLetterName_38 : decode cX2_hasLetterName 38 = .ok (.ireturn, 1) := by decide +kernel
theorem dX2_hasLetterName_39 : decode cX2_hasLetterName 39 = .ok (.iinc 2 1, 3) := by decide +kernel
theorem dX2_hasLetterName_42 : decode cX2_hasLetterName 42 = .ok (.goto (-40), 3) := by decide +kernel
theorem dX2_hasLetterName_45 : decode cX2_hasLetterName 45 = .ok (.iconst 0, 1) := by decide +kernel
theorem dX2_hasLetterName_46 : decode cX2_hasLetterName 46 = .ok (.ireturn, 1) := by decide +kernel
theorem dX2_averagePosition_0 : decode cX2_averagePosition 0 = .ok (.iconst 0, 1) := by decide +kernel
theorem dX2_averagePosition_1 : decode cX2_averagePosition 1 = .ok (.istore_n 3, 1) := by decide +kernel
theorem dX2_averagePosition_2 : decode cX2_averagePosition 2 = .ok (.iconst 0, 1) := by decide +kernel
theorem dX2_averagePosition_3 : decode cX2_averagePosition 3 = .ok (.istore 4, 2) := by decide +kernel
theorem dX2_averagePosition_5 : decode cX2_averagePosition 5 = .ok (.iconst 0, 1) := by decide +kernel
theorem dX2_averagePosition_6 : decode cX2_averagePosition 6 = .ok (.istore 5, 2) := by decide +kernel
theorem dX2_averagePosition_8 : decode cX2_averagePosition 8 = .ok (.iload 5, 2) := by decide +kernel
theorem dX2_averagePosition_10 : decode cX2_averagePosition 10 = .ok (.aload_n 0, 1) := by decide +kernel
theorem dX2_averagePosition_11 : decode cX2_averagePosition 11 = .ok (.getfield 50, 3) := by decide +kernel
theorem dX2_averagePosition_14 : decode cX2_averagePosition 14 = .ok (.if_icmp .ge 44, 3) := by decide +kernel
theorem dX2_averagePosition_17 : decode cX2_averagePosition 17 = .ok (.aload_n 0, 1) := by decide +kernel
theorem dX2_averagePosition_18 : decode cX2_averagePosition 18 = .ok (.getfield 20, 3) := by decide +kernel
theorem dX2_averagePosition_21 : decode cX2_averagePosition 21 = .ok (.iload 5, 2) := by decide +kernel
theorem dX2_averagePosition_23 : decode cX2_averagePosition 23 = .ok (.aaload, 1) := by decide +kernel
theorem dX2_averagePosition_24 : decode cX2_averagePosition 24 = .ok (.getfield 60, 3) := by decide +kernel
theorem dX2_averagePosition_27 : decode cX2_averagePosition 27 = .ok (.iload_n 1, 1) := by decide +kernel
theorem dX2_averagePosition_28 : decode cX2_averagePosition 28 = .ok (.if_icmp .ne 24, 3) := by decide +kernel
theorem dX2_averagePosition_31 : decode cX2_averagePosition 31 = .ok (.iload_n 3, 1) := by decide +kernel
theorem dX2_averagePosition_32 : decode cX2_averagePosition 32 = .ok (.aload_n 0, 1) := by decide +kernel
theorem dX2_averagePosition_33 : decode cX2_averagePosition 33 = .ok (.getfield 20, 3) := by decide +kernel
theorem dX2_averagePosition_36 : decode cX2_averagePosition 36 = .ok (.iload 5, 2) := by decide +kernel
theorem dX2_averagePosition_38 : decode cX2_averagePosition 38 = .ok (.aaload, 1) := by decide +kernel
theorem dX2_averagePosition_39 : decode cX2_averagePosition 39 = .ok (.getfield 93, 3) := by decide +kernel
theorem dX2_averagePosition_42 : decode cX2_averagePosition 42 = .ok (.getfield 96, 3) := by decide +kernel
theorem dX2_averagePosition_45 : decode cX2_averagePosition 45 = .ok (.iload_n 2, 1) := by decide +kernel
theorem dX2_averagePosition_46 : decode cX2_averagePosition 46 = .ok (.iaload, 1) := by decide +kernel
theorem dX2_averagePosition_47 : decode cX2_averagePosition 47 = .ok (.iadd, 1) := by decide +kernel
theorem dX2_averagePosition_48 : decode cX2_averagePosition 48 = .ok (.istore_n 3, 1) := by decide +kernel
theorem dX2_averagePosition_49 : decode cX2_averagePosition 49 = .ok (.iinc 4 1, 3) := by decide +kernel
theorem dX2_averagePosition_52 : decode cX2_averagePosition 52 = .ok (.iinc 5 1, 3) := by decide +kernel
theorem dX2_averagePosition_55 : decode cX2_averagePosition 55 = .ok (.goto (-47), 3) := by decide +kernel
theorem dX2_averagePosition_58 : decode cX2_averagePosition 58 = .ok (.iload 4, 2) := by decide +kernel
theorem dX2_averagePosition_60 : decode cX2_averagePosition 60 = .ok (.ifCond .ne 7, 3) := by decide +kernel
theorem dX2_averagePosition_63 : decode cX2_averagePosition 63 = .ok (.iconst 0, 1) := by decide +kernel
theorem dX2_averagePosition_64 : decode cX2_averagePosition 64 = .ok (.goto 7, 3) := by decide +kernel
theorem dX2_averagePosition_67 : decode cX2_averagePosition 67 = .ok (.iload_n 3, 1) := by decide +kernel
theorem dX2_averagePosition_68 : decode cX2_averagePosition 68 = .ok (.iload 4, 2) := by decide +kernel
theorem dX2_averagePosition_70 : decode cX2_averagePosition 70 = .ok (.idiv, 1) := by decide +kernel
theorem dX2_averagePosition_71 : decode cX2_averagePosition 71 = .ok (.ireturn, 1) := by decide +kernel
theorem dX2_computeAverage_0 : decode cX2_computeAverage 0 = .ok (.iconst 0, 1) := by decide +kernel
theorem dX2_computeAverage_1 : decode cX2_computeAverage 1 = .ok (.istore_n 2, 1) := by decide +kernel
theorem dX2_computeAverage_2 : decode cX2_computeAverage 2 = .ok (.iload_n 2, 1) := by decide +kernel
theorem dX2_computeAverage_3 : decode cX2_computeAverage 3 = .ok (.iconst 5, 1) := by decide +kernel
theorem dX2_computeAverage_4 : decode cX2_computeAverage 4 = .ok (.if_icmp .ge 24, 3) := by decide +kernel
theorem dX2_computeAverage_7 : decode cX2_computeAverage 7 = .ok (.aload_n 0, 1) := by decide +kernel
theorem dX2_computeAverage_8 : decode cX2_computeAverage 8 = .ok (.getfield 24, 3) := by decide +kernel
theorem dX2_computeAverage_11 : decode cX2_computeAverage 11 = .ok (.getfield 96, 3) := by decide +kernel
theorem dX2_computeAverage_14 : decode cX2_computeAverage 14 = .ok (.iload_n 2, 1) := by decide +kernel
theorem dX2_computeAverage_15 : decode cX2_computeAverage 15 = .ok (.aload_n 0, 1) := by decide +kernel
theorem dX2_computeAverage_16 : decode cX2_computeAverage 16 = .ok (.iload_n 1, 1) := by decide +kernel
theorem dX2_computeAverage_17 : decode cX2_computeAverage 17 = .ok (.iload_n 2, 1) := by decide +kernel
theorem dX2_computeAverage_18 : decode cX2_computeAverage 18 = .ok (.invokevirtual 100, 3) := by decide +kernel
theorem dX2_computeAverage_21 : decode cX2_computeAverage 21 = .ok (.iastore, 1) := by decide +kernel
theorem dX2_computeAverage_22 : decode cX2_computeAverage 22 = .ok (.iinc 2 1, 3) := by decide +kernel
theorem dX2_computeAverage_25 : decode cX2_computeAverage 25 = .ok (.goto (-23), 3) := by decide +kernel
theorem dX2_computeAverage_28 : decode cX2_computeAverage 28 = .ok (.return_, 1) := by decide +kernel
theorem dX2_mustLeave_0 : decode cX2_mustLeave 0 = .ok (.aload_n 1, 1) := by decide +kernel
theorem dX2_mustLeave_1 : decode cX2_mustLeave 1 = .ok (.getfield 104, 3) := by decide +kernel
theorem dX2_mustLeave_4 : decode cX2_mustLeave 4 = .ok (.ifCond .ge 39, 3) := by decide +kernel
theorem dX2_mustLeave_7 : decode cX2_mustLeave 7 = .ok (.aload_n 1, 1) := by decide +kernel
theorem dX2_mustLeave_8 : decode cX2_mustLeave 8 = .ok (.getfield 93, 3) := by decide +kernel
theorem dX2_mustLeave_11 : decode cX2_mustLeave 11 = .ok (.aload_n 0, 1) := by decide +kernel
theorem dX2_mustLeave_12 : decode cX2_mustLeave 12 = .ok (.getfield 12, 3) := by decide +kernel
theorem dX2_mustLeave_15 : decode cX2_mustLeave 15 = .ok (.invokevirtual 107, 3) := by decide +kernel
theorem dX2_mustLeave_18 : decode cX2_mustLeave 18 = .ok (.aload_n 0, 1) := by decide +kernel
theorem dX2_mustLeave_19 : decode cX2_mustLeave 19 = .ok (.getfield 35, 3) := by decide +kernel
theorem dX2_mustLeave_22 : decode cX2_mustLeave 22 = .ok (.if_icmp .le 21, 3) := by decide +kernel
theorem dX2_mustLeave_25 : decode cX2_mustLeave 25 = .ok (.aload_n 1, 1) := by decide +kernel
theorem dX2_mustLeave_26 : decode cX2_mustLeave 26 = .ok (.getfield 93, 3) := by decide +kernel
theorem dX2_mustLeave_29 : decode cX2_mustLeave 29 = .ok (.aload_n 0, 1) := by decide +kernel
theorem dX2_mustLeave_30 : decode cX2_mustLeave 30 = .ok (.getfield 12, 3) := by decide +kernel
theorem dX2_mustLeave_33 : decode cX2_mustLeave 33 = .ok (.invokevirtual 111, 3) := by decide +kernel
theorem dX2_mustLeave_36 : decode cX2_mustLeave 36 = .ok (.ifCond .ne 7, 3) := by decide +kernel
theorem dX2_mustLeave_39 : decode cX2_mustLeave 39 = .ok (.iconst 1, 1) := by decide +kernel
theorem dX2_mustLeave_40 : decode cX2_mustLeave 40 = .ok (.goto 4, 3) := by decide +kernel
theorem dX2_mustLeave_43 : decode cX2_mustLeave 43 = .ok (.iconst 0, 1) := by decide +kernel
theorem dX2_mustLeave_44 : decode cX2_mustLeave 44 = .ok (.ireturn, 1) := by decide +kernel
theorem dX2_receive_0 : decode cX2_receive 0 = .ok (.aload_n 0, 1) := by decide +kernel
theorem dX2_receive_1 : decode cX2_receive 1 = .ok (.getfield 50, 3) := by decide +kernel
theorem dX2_receive_4 : decode cX2_receive 4 = .ok (.bipush 12, 2) := by decide +kernel
theorem dX2_receive_6 : decode cX2_receive 6 = .ok (.if_icmp .lt 5, 3) := by decide +kernel
theorem dX2_receive_9 : decode cX2_receive 9 = .ok (.iconst (-1), 1) := by decide +kernel
theorem dX2_receive_10 : decode cX2_receive 10 = .ok (.ireturn, 1) := by decide +kernel
theorem dX2_receive_11 : decode cX2_receive 11 = .ok (.aload_n 0, 1) := by decide +kernel
theorem dX2_receive_12 : decode cX2_receive 12 = .ok (.getfield 20, 3) := by decide +kernel
theorem dX2_receive_15 : decode cX2_receive 15 = .ok (.aload_n 0, 1) := by decide +kernel
theorem dX2_receive_16 : decode cX2_receive 16 = .ok (.getfield 50, 3) := by decide +kernel
theorem dX2_receive_19 : decode cX2_receive 19 = .ok (.aaload, 1) := by decide +kernel
theorem dX2_receive_20 : decode cX2_receive 20 = .ok (.astore 5, 2) := by decide +kernel
theorem dX2_receive_22 : decode cX2_receive 22 = .ok (.aload 5, 2) := by decide +kernel
theorem dX2_receive_24 : decode cX2_receive 24 = .ok (.aload_n 1, 1) := by decide +kernel
theorem dX2_receive_25 : decode cX2_receive 25 = .ok (.putfield 89, 3) := by decide +kernel
theorem dX2_receive_28 : decode cX2_receive 28 = .ok (.aload 5, 2) := by decide +kernel
theorem dX2_receive_30 : decode cX2_receive 30 = .ok (.iload_n 2, 1) := by decide +kernel
theorem dX2_receive_31 : decode cX2_receive 31 = .ok (.putfield 60, 3) := by decide +kernel
theorem dX2_receive_34 : decode cX2_receive 34 = .ok (.aload 5, 2) := by decide +kernel
theorem dX2_receive_36 : decode cX2_receive 36 = .ok (.iload_n 3, 1) := by decide +kernel
theorem dX2_receive_37 : decode cX2_receive 37 = .ok (.putfield 104, 3) := by decide +kernel
theorem dX2_receive_40 : decode cX2_receive 40 = .ok (.aload 5, 2) := by decide +kernel
theorem dX2_receive_42 : decode cX2_receive 42 = .ok (.iconst 0, 1) := by decide +kernel
theorem dX2_receive_43 : decode cX2_receive 43 = .ok (.putfield 115, 3) := by decide +kernel
theorem dX2_receive_46 : decode cX2_receive 46 = .ok (.aload 5, 2) := by decide +kernel
theorem dX2_receive_48 : decode cX2_receive 48 = .ok (.iconst 0, 1) := by decide +kernel
theorem dX2_receive_49 : decode cX2_receive 49 = .ok (.putfield 118, 3) := by decide +kernel
theorem dX2_receive_52 : decode cX2_receive 52 = .ok (.aload 5, 2) := by decide +kernel
theorem dX2_receive_54 : decode cX2_receive 54 = .ok (.aload_n 0, 1) := by decide +kernel
theorem dX2_receive_55 : decode cX2_receive 55 = .ok (.getfield 28, 3) := by decide +kernel
theorem dX2_receive_58 : decode cX2_receive 58 = .ok (.putfield 121, 3) := by decide +kernel
theorem dX2_receive_61 : decode cX2_receive 61 = .ok (.aload 5, 2) := by decide +kernel
theorem dX2_receive_63 : decode cX2_receive 63 = .ok (.getfield 93, 3) := by decide +kernel
theorem dX2_receive_66 : decode cX2_receive 66 = .ok (.iload 4, 2) := by decide +kernel
theorem dX2_receive_68 : decode cX2_receive 68 = .ok (.invokevirtual 124, 3) := by decide +kernel
theorem dX2_receive_71 : decode cX2_receive 71 = .ok (.aload_n 0, 1) := by decide +kernel
theorem dX2_receive_72 : decode cX2_receive 72 = .ok (.dup, 1) := by decide +kernel
theorem dX2_receive_73 : decode cX2_receive 73 = .ok (.getfield 41, 3) := by decide +kernel
theorem dX2_receive_76 : decode cX2_receive 76 = .ok (.iload_n 3, 1) := by decide +kernel
theorem dX2_receive_77 : decode cX2_receive 77 = .ok (.iadd, 1) := by decide +kernel
theorem dX2_receive_78 : decode cX2_receive 78 = .ok (.putfield 41, 3) := by decide +kernel
theorem dX2_receive_81 : decode cX2_receive 81 = .ok (.aload_n 0, 1) := by decide +kernel
theorem dX2_receive_82 : decode cX2_receive 82 = .ok (.dup, 1) := by decide +kernel
theorem dX2_receive_83 : decode cX2_receive 83 = .ok (.getfield 50, 3) := by decide +kernel
theorem dX2_receive_86 : decode cX2_receive 86 = .ok (.iconst 1, 1) := by decide +kernel
theorem dX2_receive_87 : decode cX2_receive 87 = .ok (.iadd, 1) := by decide +kernel
theorem dX2_receive_88 : decode cX2_receive 88 = .ok (.putfield 50, 3) := by decide +kernel
theorem dX2_receive_91 : decode cX2_receive 91 = .ok (.aload_n 0, 1) := by decide +kernel
theorem dX2_receive_92 : decode cX2_receive 92 = .ok (.getfield 50, 3) := by decide +kernel
theorem dX2_receive_95 : decode cX2_receive 95 = .ok (.iconst 1, 1) := by decide +kernel
theorem dX2_receive_96 : decode cX2_receive 96 = .ok (.isub, 1) := by decide +kernel
theorem dX2_receive_97 : decode cX2_receive 97 = .ok (.ireturn, 1) := by decide +kernel
theorem dX2_dismiss_0 : decode cX2_dismiss 0 = .ok (.iload_n 1, 1) := by decide +kernel
theorem dX2_dismiss_1 : decode cX2_dismiss 1 = .ok (.ifCond .lt 11, 3) := by decide +kernel
theorem dX2_dismiss_4 : decode cX2_dismiss 4 = .ok (.iload_n 1, 1) := by decide +kernel
theorem dX2_dismiss_5 : decode cX2_dismiss 5 = .ok (.aload_n 0, 1) := by decide +kernel
theorem dX2_dismiss_6 : decode cX2_dismiss 6 = .ok (.getfield 50, 3) := by decide +kernel
theorem dX2_dismiss_9 : decode cX2_dismiss 9 = .ok (.if_icmp .lt 4, 3) := by decide +kernel
theorem dX2_dismiss_12 : decode cX2_dismiss 12 = .ok (.return_, 1) := by decide +kernel
theorem dX2_dismiss_13 : decode cX2_dismiss 13 = .ok (.aload_n 0, 1) := by decide +kernel
theorem dX2_dismiss_14 : decode cX2_dismiss 14 = .ok (.getfield 20, 3) := by decide +kernel
theorem dX2_dismiss_17 : decode cX2_dismiss 17 = .ok (.iload_n 1, 1) := by decide +kernel
theorem dX2_dismiss_18 : decode cX2_dismiss 18 = .ok (.aaload, 1) := by decide +kernel
theorem dX2_dismiss_19 : decode cX2_dismiss 19 = .ok (.astore_n 2, 1) := by decide +kernel
theorem dX2_dismiss_20 : decode cX2_dismiss 20 = .ok (.aload_n 0, 1) := by decide +kernel
theorem dX2_dismiss_21 : decode cX2_dismiss 21 = .ok (.dup, 1) := by decide +kernel
theorem dX2_dismiss_22 : decode cX2_dismiss 22 = .ok (.getfield 47, 3) := by decide +kernel
theorem dX2_dismiss_25 : decode cX2_dismiss 25 = .ok (.aload_n 2, 1) := by decide +kernel
theorem dX2_dismiss_26 : decode cX2_dismiss 26 = .ok (.getfield 104, 3) := by decide +kernel
theorem dX2_dismiss_29 : decode cX2_dismiss 29 = .ok (.iadd, 1) := by decide +kernel
theorem dX2_dismiss_30 : decode cX2_dismiss 30 = .ok (.putfield 47, 3) := by decide +kernel
theorem dX2_dismiss_33 : decode cX2_dismiss 33 = .ok (.iload_n 1, 1) := by decide +kernel
theorem dX2_dismiss_34 : decode cX2_dismiss 34 = .ok (.istore_n 3, 1) := by decide +kernel
theorem dX2_dismiss_35 : decode cX2_dismiss 35 = .ok (.iload_n 3, 1) := by decide +kernel
theorem dX2_dismiss_36 : decode cX2_dismiss 36 = .ok (.iconst 1, 1) := by decide +kernel
theorem dX2_dismiss_37 : decode cX2_dismiss 37 = .ok (.iadd, 1) := by decide +kernel
theorem dX2_dismiss_38 : decode cX2_dismiss 38 = .ok (.aload_n 0, 1) := by decide +kernel
theorem dX2_dismiss_39 : decode cX2_dismiss 39 = .ok (.getfield 50, 3) := by decide +kernel
theorem dX2_dismiss_42 : decode cX2_dismiss 42 = .ok (.if_icmp .ge 23, 3) := by decide +kernel
theorem dX2_dismiss_45 : decode cX2_dismiss 45 = .ok (.aload_n 0, 1) := by decide +kernel
theorem dX2_dismiss_46 : decode cX2_dismiss 46 = .ok (.getfield 20, 3) := by decide +kernel
theorem dX2_dismiss_49 : decode cX2_dismiss 49 = .ok (.iload_n 3, 1) := by decide +kernel
theorem dX2_dismiss_50 : decode cX2_dismiss 50 = .ok (.aload_n 0, 1) := by decide +kernel
theorem dX2_dismiss_51 : decode cX2_dismiss 51 = .ok (.getfield 20, 3) := by decide +kernel
theorem dX2_dismiss_54 : decode cX2_dismiss 54 = .ok (.iload_n 3, 1) := by decide +kernel
theorem dX2_dismiss_55 : decode cX2_dismiss 55 = .ok (.iconst 1, 1) := by decide +kernel
theorem dX2_dismiss_56 : decode cX2_dismiss 56 = .ok (.iadd, 1) := by decide +kernel
theorem dX2_dismiss_57 : decode cX2_dismiss 57 = .ok (.aaload, 1) := by decide +kernel
theorem dX2_dismiss_58 : decode cX2_dismiss 58 = .ok (.aastore, 1) := by decide +kernel
theorem dX2_dismiss_59 : decode cX2_dismiss 59 = .ok (.iinc 3 1, 3) := by decide +kernel
theorem dX2_dismiss_62 : decode cX2_dismiss 62 = .ok (.goto (-27), 3) := by decide +kernel
theorem dX2_dismiss_65 : decode cX2_dismiss 65 = .ok (.aload_n 0, 1) := by decide +kernel
theorem dX2_dismiss_66 : decode cX2_dismiss 66 = .ok (.dup, 1) := by decide +kernel
theorem dX2_dismiss_67 : decode cX2_dismiss 67 = .ok (.getfield 50, 3) := by decide +kernel
theorem dX2_dismiss_70 : decode cX2_dismiss 70 = .ok (.iconst 1, 1) := by decide +kernel
theorem dX2_dismiss_71 : decode cX2_dismiss 71 = .ok (.isub, 1) := by decide +kernel
theorem dX2_dismiss_72 : decode cX2_dismiss 72 = .ok (.putfield 50, 3) := by decide +kernel
theorem dX2_dismiss_75 : decode cX2_dismiss 75 = .ok (.aload_n 0, 1) := by decide +kernel
theorem dX2_dismiss_76 : decode cX2_dismiss 76 = .ok (.getfield 20, 3) := by decide +kernel
theorem dX2_dismiss_79 : decode cX2_dismiss 79 = .ok (.aload_n 0, 1) := by decide +kernel
theorem dX2_dismiss_80 : decode cX2_dismiss 80 = .ok (.getfield 50, 3) := by decide +kernel
theorem dX2_dismiss_83 : decode cX2_dismiss 83 = .ok (.aload_n 2, 1) := by decide +kernel
theorem dX2_dismiss_84 : decode cX2_dismiss 84 = .ok (.aastore, 1) := by decide +kernel
theorem dX2_dismiss_85 : decode cX2_dismiss 85 = .ok (.return_, 1) := by decide +kernel
theorem dX2_takePayment_0 : decode cX2_takePayment 0 = .ok (.aload_n 1, 1) := by decide +kernel
theorem dX2_takePayment_1 : decode cX2_takePayment 1 = .ok (.dup, 1) := by decide +kernel
theorem dX2_takePayment_2 : decode cX2_takePayment 2 = .ok (.getfield 104, 3) := by decide +kernel
theorem dX2_takePayment_5 : decode cX2_takePayment 5 = .ok (.iload_n 2, 1) := by decide +kernel
theorem dX2_takePayment_6 : decode cX2_takePayment 6 = .ok (.iadd, 1) := by decide +kernel
theorem dX2_takePayment_7 : decode cX2_takePayment 7 = .ok (.putfield 104, 3) := by decide +kernel
theorem dX2_takePayment_10 : decode cX2_takePayment 10 = .ok (.aload_n 0, 1) := by decide +kernel
theorem dX2_takePayment_11 : decode cX2_takePayment 11 = .ok (.dup, 1) := by decide +kernel
theorem dX2_takePayment_12 : decode cX2_takePayment 12 = .ok (.getfield 41, 3) := by decide +kernel
theorem dX2_takePayment_15 : decode cX2_takePayment 15 = .ok (.iload_n 2, 1) := by decide +kernel
theorem dX2_takePayment_16 : decode cX2_takePayment 16 = .ok (.iadd, 1) := by decide +kernel
theorem dX2_takePayment_17 : decode cX2_takePayment 17 = .ok (.putfield 41, 3) := by decide +kernel
theorem dX2_takePayment_20 : decode cX2_takePayment 20 = .ok (.return_, 1) := by decide +kernel
theorem dX2_passDay_0 : decode cX2_passDay 0 = .ok (.aload_n 0, 1) := by decide +kernel
theorem dX2_passDay_1 : decode cX2_passDay 1 = .ok (.invokevirtual 128, 3) := by decide +kernel
theorem dX2_passDay_4 : decode cX2_passDay 4 = .ok (.aload_n 0, 1) := by decide +kernel
theorem dX2_passDay_5 : decode cX2_passDay 5 = .ok (.invokevirtual 131, 3) := by decide +kernel
theorem dX2_passDay_8 : decode cX2_passDay 8 = .ok (.iconst 0, 1) := by decide +kernel
theorem dX2_passDay_9 : decode cX2_passDay 9 = .ok (.istore_n 1, 1) := by decide +kernel
theorem dX2_passDay_10 : decode cX2_passDay 10 = .ok (.iload_n 1, 1) := by decide +kernel
theorem dX2_passDay_11 : decode cX2_passDay 11 = .ok (.iconst 5, 1) := by decide +kernel
theorem dX2_passDay_12 : decode cX2_passDay 12 = .ok (.if_icmp .ge 14, 3) := by decide +kernel
theorem dX2_passDay_15 : decode cX2_passDay 15 = .ok (.aload_n 0, 1) := by decide +kernel
theorem dX2_passDay_16 : decode cX2_passDay 16 = .ok (.iload_n 1, 1) := by decide +kernel
theorem dX2_passDay_17 : decode cX2_passDay 17 = .ok (.invokevirtual 134, 3) := by decide +kernel
theorem dX2_passDay_20 : decode cX2_passDay 20 = .ok (.iinc 1 1, 3) := by decide +kernel
theorem dX2_passDay_23 : decode cX2_passDay 23 = .ok (.goto (-13), 3) := by decide +kernel
theorem dX2_passDay_26 : decode cX2_passDay 26 = .ok (.aload_n 0, 1) := by decide +kernel
theorem dX2_passDay_27 : decode cX2_passDay 27 = .ok (.dup, 1) := by decide +kernel
theorem dX2_passDay_28 : decode cX2_passDay 28 = .ok (.getfield 28, 3) := by decide +kernel
theorem dX2_passDay_31 : decode cX2_passDay 31 = .ok (.iconst 1, 1) := by decide +kernel
theorem dX2_passDay_32 : decode cX2_passDay 32 = .ok (.iadd, 1) := by decide +kernel
theorem dX2_passDay_33 : decode cX2_passDay 33 = .ok (.putfield 28, 3) := by decide +kernel
theorem dX2_passDay_36 : decode cX2_passDay 36 = .ok (.aload_n 0, 1) := by decide +kernel
theorem dX2_passDay_37 : decode cX2_passDay 37 = .ok (.getfield 28, 3) := by decide +kernel
theorem dX2_passDay_40 : decode cX2_passDay 40 = .ok (.bipush 7, 2) := by decide +kernel
theorem dX2_passDay_42 : decode cX2_passDay 42 = .ok (.irem, 1) := by decide +kernel
theorem dX2_passDay_43 : decode cX2_passDay 43 = .ok (.ifCond .ne 7, 3) := by decide +kernel
theorem dX2_passDay_46 : decode cX2_passDay 46 = .ok (.aload_n 0, 1) := by decide +kernel
theorem dX2_passDay_47 : decode cX2_passDay 47 = .ok (.invokevirtual 137, 3) := by decide +kernel
theorem dX2_passDay_50 : decode cX2_passDay 50 = .ok (.return_, 1) := by decide +kernel
theorem dX2_collectRent_0 : decode cX2_collectRent 0 = .ok (.iconst 0, 1) := by decide +kernel
theorem dX2_collectRent_1 : decode cX2_collectRent 1 = .ok (.istore_n 1, 1) := by decide +kernel
theorem dX2_collectRent_2 : decode cX2_collectRent 2 = .ok (.iload_n 1, 1) := by decide +kernel
theorem dX2_collectRent_3 : decode cX2_collectRent 3 = .ok (.aload_n 0, 1) := by decide +kernel
theorem dX2_collectRent_4 : decode cX2_collectRent 4 = .ok (.getfield 50, 3) := by decide +kernel
theorem dX2_collectRent_7 : decode cX2_collectRent 7 = .ok (.if_icmp .ge 48, 3) := by decide +kernel
theorem dX2_collectRent_10 : decode cX2_collectRent 10 = .ok (.aload_n 0, 1) := by decide +kernel
theorem dX2_collectRent_11 : decode cX2_collectRent 11 = .ok (.aload_n 0, 1) := by decide +kernel
theorem dX2_collectRent_12 : decode cX2_collectRent 12 = .ok (.getfield 20, 3) := by decide +kernel
theorem dX2_collectRent_15 : decode cX2_collectRent 15 = .ok (.iload_n 1, 1) := by decide +kernel
theorem dX2_collectRent_16 : decode cX2_collectRent 16 = .ok (.aaload, 1) := by decide +kernel
theorem dX2_collectRent_17 : decode cX2_collectRent 17 = .ok (.getfield 60, 3) := by decide +kernel
theorem dX2_collectRent_20 : decode cX2_collectRent 20 = .ok (.invokevirtual 140, 3) := by decide +kernel
theorem dX2_collectRent_23 : decode cX2_collectRent 23 = .ok (.istore_n 2, 1) := by decide +kernel
theorem dX2_collectRent_24 : decode cX2_collectRent 24 = .ok (.aload_n 0, 1) := by decide +kernel
theorem dX2_collectRent_25 : decode cX2_collectRent 25 = .ok (.getfield 20, 3) := by decide +kernel
theorem dX2_collectRent_28 : decode cX2_collectRent 28 = .ok (.iload_n 1, 1) := by decide +kernel
theorem dX2_collectRent_29 : decode cX2_collectRent 29 = .ok (.aaload, 1) := by decide +kernel
theorem dX2_collectRent_30 : decode cX2_collectRent 30 = .ok (.dup, 1) := by decide +kernel
theorem dX2_collectRent_31 : decode cX2_collectRent 31 = .ok (.getfield 104, 3) := by decide +kernel
theorem dX2_collectRent_34 : decode cX2_collectRent 34 = .ok (.iload_n 2, 1) := by decide +kernel
theorem dX2_collectRent_35 : decode cX2_collectRent 35 = .ok (.isub, 1) := by decide +kernel
theorem dX2_collectRent_36 : decode cX2_collectRent 36 = .ok (.putfield 104, 3) := by decide +kernel
theorem dX2_collectRent_39 : decode cX2_collectRent 39 = .ok (.aload_n 0, 1) := by decide +kernel
theorem dX2_collectRent_40 : decode cX2_collectRent 40 = .ok (.dup, 1) := by decide +kernel
theorem dX2_collectRent_41 : decode cX2_collectRent 41 = .ok (.getfield 44, 3) := by decide +kernel
theorem dX2_collectRent_44 : decode cX2_collectRent 44 = .ok (.iload_n 2, 1) := by decide +kernel
theorem dX2_collectRent_45 : decode cX2_collectRent 45 = .ok (.iadd, 1) := by decide +kernel
theorem dX2_collectRent_46 : decode cX2_collectRent 46 = .ok (.putfield 44, 3) := by decide +kernel
theorem dX2_collectRent_49 : decode cX2_collectRent 49 = .ok (.iinc 1 1, 3) := by decide +kernel
theorem dX2_collectRent_52 : decode cX2_collectRent 52 = .ok (.goto (-50), 3) := by decide +kernel
theorem dX2_collectRent_55 : decode cX2_collectRent 55 = .ok (.return_, 1) := by decide +kernel
theorem dX2_giveLessons_0 : decode cX2_giveLessons 0 = .ok (.iconst 0, 1) := by decide +kernel
theorem dX2_giveLessons_1 : decode cX2_giveLessons 1 = .ok (.istore_n 1, 1) := by decide +kernel
theorem dX2_giveLessons_2 : decode cX2_giveLessons 2 = .ok (.iload_n 1, 1) := by decide +kernel
theorem dX2_giveLessons_3 : decode cX2_giveLessons 3 = .ok (.aload_n 0, 1) := by decide +kernel
theorem dX2_giveLessons_4 : decode cX2_giveLessons 4 = .ok (.getfield 50, 3) := by decide +kernel
theorem dX2_giveLessons_7 : decode cX2_giveLessons 7 = .ok (.if_icmp .ge 55, 3) := by decide +kernel
theorem dX2_giveLessons_10 : decode cX2_giveLessons 10 = .ok (.aload_n 0, 1) := by decide +kernel
theorem dX2_giveLessons_11 : decode cX2_giveLessons 11 = .ok (.getfield 20, 3) := by decide +kernel
theorem dX2_giveLessons_14 : decode cX2_giveLessons 14 = .ok (.iload_n 1, 1) := by decide +kernel
theorem dX2_giveLessons_15 : decode cX2_giveLessons 15 = .ok (.aaload, 1) := by decide +kernel
theorem dX2_giveLessons_16 : decode cX2_giveLessons 16 = .ok (.getfield 104, 3) := by decide +kernel
theorem dX2_giveLessons_19 : decode cX2_giveLessons 19 = .ok (.ifCond .lt 37, 3) := by decide +kernel
theorem dX2_giveLessons_22 : decode cX2_giveLessons 22 = .ok (.aload_n 0, 1) := by decide +kernel
theorem dX2_giveLessons_23 : decode cX2_giveLessons 23 = .ok (.getfield 20, 3) := by decide +kernel
theorem dX2_giveLessons_26 : decode cX2_giveLessons 26 = .ok (.iload_n 1, 1) := by decide +kernel
theorem dX2_giveLessons_27 : decode cX2_giveLessons 27 = .ok (.aaload, 1) := by decide +kernel
theorem dX2_giveLessons_28 : decode cX2_giveLessons 28 = .ok (.getfield 93, 3) := by decide +kernel
theorem dX2_giveLessons_31 : decode cX2_giveLessons 31 = .ok (.aload_n 0, 1) := by decide +kernel
theorem dX2_giveLessons_32 : decode cX2_giveLessons 32 = .ok (.getfield 12, 3) := by decide +kernel
theorem dX2_giveLessons_35 : decode cX2_giveLessons 35 = .ok (.invokevirtual 144, 3) := by decide +kernel
theorem dX2_giveLessons_38 : decode cX2_giveLessons 38 = .ok (.ifCond .eq 18, 3) := by decide +kernel
theorem dX2_giveLessons_41 : decode cX2_giveLessons 41 = .ok (.aload_n 0, 1) := by decide +kernel
theorem dX2_giveLessons_42 : decode cX2_giveLessons 42 = .ok (.getfield 20, 3) := by decide +kernel
theorem dX2_giveLessons_45 : decode cX2_giveLessons 45 = .ok (.iload_n 1, 1) := by decide +kernel
theorem dX2_giveLessons_46 : decode cX2_giveLessons 46 = .ok (.aaload, 1) := by decide +kernel
theorem dX2_giveLessons_47 : decode cX2_giveLessons 47 = .ok (.dup, 1) := by decide +kernel
theorem dX2_giveLessons_48 : decode cX2_giveLessons 48 = .ok (.getfield 115, 3) := by decide +kernel
theorem dX2_giveLessons_51 : decode cX2_giveLessons 51 = .ok (.iconst 1, 1) := by decide +kernel
theorem dX2_giveLessons_52 : decode cX2_giveLessons 52 = .ok (.iadd, 1) := by decide +kernel
theorem dX2_giveLessons_53 : decode cX2_giveLessons 53 = .ok (.putfield 115, 3) := by decide +kernel
theorem dX2_giveLessons_56 : decode cX2_giveLessons 56 = .ok (.iinc 1 1, 3) := by decide +kernel
theorem dX2_giveLessons_59 : decode cX2_giveLessons 59 = .ok (.goto (-57), 3) := by decide +kernel
theorem dX2_giveLessons_62 : decode cX2_giveLessons 62 = .ok (.return_, 1) := by decide +kernel
theorem dX2_serveDinner_0 : decode cX2_serveDinner 0 = .ok (.aload_n 0, 1) := by decide +kernel
theorem dX2_serveDinner_1 : decode cX2_serveDinner 1 = .ok (.iload_n 1, 1) := by decide +kernel
theorem dX2_serveDinner_2 : decode cX2_serveDinner 2 = .ok (.invokevirtual 147, 3) := by decide +kernel
theorem dX2_serveDinner_5 : decode cX2_serveDinner 5 = .ok (.iconst 2, 1) := by decide +kernel
theorem dX2_serveDinner_6 : decode cX2_serveDinner 6 = .ok (.if_icmp .ge 4, 3) := by decide +kernel
theorem dX2_serveDinner_9 : decode cX2_serveDinner 9 = .ok (.return_, 1) := by decide +kernel
theorem dX2_serveDinner_10 : decode cX2_serveDinner 10 = .ok (.aload_n 0, 1) := by decide +kernel
theorem dX2_serveDinner_11 : decode cX2_serveDinner 11 = .ok (.iload_n 1, 1) := by decide +kernel
theorem dX2_serveDinner_12 : decode cX2_serveDinner 12 = .ok (.invokevirtual 150, 3) := by decide +kernel
theorem dX2_serveDinner_15 : decode cX2_serveDinner 15 = .ok (.iconst 0, 1) := by decide +kernel
theorem dX2_serveDinner_16 : decode cX2_serveDinner 16 = .ok (.istore_n 2, 1) := by decide +kernel
theorem dX2_serveDinner_17 : decode cX2_serveDinner 17 = .ok (.iload_n 2, 1) := by decide +kernel
theorem dX2_serveDinner_18 : decode cX2_serveDinner 18 = .ok (.aload_n 0, 1) := by decide +kernel
theorem dX2_serveDinner_19 : decode cX2_serveDinner 19 = .ok (.getfield 50, 3) := by decide +kernel
theorem dX2_serveDinner_22 : decode cX2_serveDinner 22 = .ok (.if_icmp .ge 56, 3) := by decide +kernel
theorem dX2_serveDinner_25 : decode cX2_serveDinner 25 = .ok (.aload_n 0, 1) := by decide +kernel
theorem dX2_serveDinner_26 : decode cX2_serveDinner 26 = .ok (.getfield 20, 3) := by decide +kernel
theorem dX2_serveDinner_29 : decode cX2_serveDinner 29 = .ok (.iload_n 2, 1) := by decide +kernel
theorem dX2_serveDinner_30 : decode cX2_serveDinner 30 = .ok (.aaload, 1) := by decide +kernel
theorem dX2_serveDinner_31 : decode cX2_serveDinner 31 = .ok (.getfield 60, 3) := by decide +kernel
theorem dX2_serveDinner_34 : decode cX2_serveDinner 34 = .ok (.iload_n 1, 1) := by decide +kernel
theorem dX2_serveDinner_35 : decode cX2_serveDinner 35 = .ok (.if_icmp .ne 37, 3) := by decide +kernel
theorem dX2_serveDinner_38 : decode cX2_serveDinner 38 = .ok (.aload_n 0, 1) := by decide +kernel
theorem dX2_serveDinner_39 : decode cX2_serveDinner 39 = .ok (.getfield 20, 3) := by decide +kernel
theorem dX2_serveDinner_42 : decode cX2_serveDinner 42 = .ok (.iload_n 2, 1) := by decide +kernel
theorem dX2_serveDinner_43 : decode cX2_serveDinner 43 = .ok (.aaload, 1) := by decide +kernel
theorem dX2_serveDinner_44 : decode cX2_serveDinner 44 = .ok (.getfield 93, 3) := by decide +kernel
theorem dX2_serveDinner_47 : decode cX2_serveDinner 47 = .ok (.aload_n 0, 1) := by decide +kernel
theorem dX2_serveDinner_48 : decode cX2_serveDinner 48 = .ok (.getfield 24, 3) := by decide +kernel
theorem dX2_serveDinner_51 : decode cX2_serveDinner 51 = .ok (.invokevirtual 144, 3) := by decide +kernel
theorem dX2_serveDinner_54 : decode cX2_serveDinner 54 = .ok (.ifCond .eq 18, 3) := by decide +kernel
theorem dX2_serveDinner_57 : decode cX2_serveDinner 57 = .ok (.aload_n 0, 1) := by decide +kernel
theorem dX2_serveDinner_58 : decode cX2_serveDinner 58 = .ok (.getfield 20, 3) := by decide +kernel
theorem dX2_serveDinner_61 : decode cX2_serveDinner 61 = .ok (.iload_n 2, 1) := by decide +kernel
theorem dX2_serveDinner_62 : decode cX2_serveDinner 62 = .ok (.aaload, 1) := by decide +kernel
theorem dX2_serveDinner_63 : decode cX2_serveDinner 63 = .ok (.dup, 1) := by decide +kernel
theorem dX2_serveDinner_64 : decode cX2_serveDinner 64 = .ok (.getfield 118, 3) := by decide +kernel
theorem dX2_serveDinner_67 : decode cX2_serveDinner 67 = .ok (.iconst 1, 1) := by decide +kernel
theorem dX2_serveDinner_68 : decode cX2_serveDinner 68 = .ok (.iadd, 1) := by decide +kernel
theorem dX2_serveDinner_69 : decode cX2_serveDinner 69 = .ok (.putfield 118, 3) := by decide +kernel
theorem dX2_serveDinner_72 : decode cX2_serveDinner 72 = .ok (.iinc 2 1, 3) := by decide +kernel
theorem dX2_serveDinner_75 : decode cX2_serveDinner 75 = .ok (.goto (-58), 3) := by decide +kernel
theorem dX2_serveDinner_78 : decode cX2_serveDinner 78 = .ok (.return_, 1) := by decide +kernel
theorem dX2_inspect_0 : decode cX2_inspect 0 = .ok (.aload_n 0, 1) := by decide +kernel
theorem dX2_inspect_1 : decode cX2_inspect 1 = .ok (.getfield 50, 3) := by decide +kernel
theorem dX2_inspect_4 : decode cX2_inspect 4 = .ok (.iconst 1, 1) := by decide +kernel
theorem dX2_inspect_5 : decode cX2_inspect 5 = .ok (.isub, 1) := by decide +kernel
theorem dX2_inspect_6 : decode cX2_inspect 6 = .ok (.istore_n 1, 1) := by decide +kernel
theorem dX2_inspect_7 : decode cX2_inspect 7 = .ok (.iload_n 1, 1) := by decide +kernel
theorem dX2_inspect_8 : decode cX2_inspect 8 = .ok (.ifCond .lt 37, 3) := by decide +kernel
theorem dX2_inspect_11 : decode cX2_inspect 11 = .ok (.aload_n 0, 1) := by decide +kernel
theorem dX2_inspect_12 : decode cX2_inspect 12 = .ok (.aload_n 0, 1) := by decide +kernel
theorem dX2_inspect_13 : decode cX2_inspect 13 = .ok (.getfield 20, 3) := by decide +kernel
theorem dX2_inspect_16 : decode cX2_inspect 16 = .ok (.iload_n 1, 1) := by decide +kernel
theorem dX2_inspect_17 : decode cX2_inspect 17 = .ok (.aaload, 1) := by decide +kernel
theorem dX2_inspect_18 : decode cX2_inspect 18 = .ok (.invokevirtual 153, 3) := by decide +kernel
theorem dX2_inspect_21 : decode cX2_inspect 21 = .ok (.ifCond .eq 18, 3) := by decide +kernel
theorem dX2_inspect_24 : decode cX2_inspect 24 = .ok (.aload_n 0, 1) := by decide +kernel
theorem dX2_inspect_25 : decode cX2_inspect 25 = .ok (.iload_n 1, 1) := by decide +kernel
theorem dX2_inspect_26 : decode cX2_inspect 26 = .ok (.invokevirtual 157, 3) := by decide +kernel
theorem dX2_inspect_29 : decode cX2_inspect 29 = .ok (.aload_n 0, 1) := by decide +kernel
theorem dX2_inspect_30 : decode cX2_inspect 30 = .ok (.dup, 1) := by decide +kernel
theorem dX2_inspect_31 : decode cX2_inspect 31 = .ok (.getfield 38, 3) := by decide +kernel
theorem dX2_inspect_34 : decode cX2_inspect 34 = .ok (.iconst 1, 1) := by decide +kernel
theorem dX2_inspect_35 : decode cX2_inspect 35 = .ok (.iadd, 1) := by decide +kernel
theorem dX2_inspect_36 : decode cX2_inspect 36 = .ok (.putfield 38, 3) := by decide +kernel
theorem dX2_inspect_39 : decode cX2_inspect 39 = .ok (.iinc 1 (-1), 3) := by decide +kernel
theorem dX2_inspect_42 : decode cX2_inspect 42 = .ok (.goto (-35), 3) := by decide +kernel
theorem dX2_inspect_45 : decode cX2_inspect 45 = .ok (.return_, 1) := by decide +kernel
theorem dX3_init_0 : decode cX3_init 0 = .ok (.aload_n 0, 1) := by decide +kernel
theorem dX3_init_1 : decode cX3_init 1 = .ok (.invokespecial 1, 3) := by decide +kernel
theorem dX3_init_4 : decode cX3_init 4 = .ok (.aload_n 0, 1) := by decide +kernel
theorem dX3_init_5 : decode cX3_init 5 = .ok (.ldc 7, 2) := by decide +kernel
theorem dX3_init_7 : decode cX3_init 7 = .ok (.putfield 9, 3) := by decide +kernel
theorem dX3_init_10 : decode cX3_init 10 = .ok (.aload_n 0, 1) := by decide +kernel
theorem dX3_init_11 : decode cX3_init 11 = .ok (.new 15, 3) := by decide +kernel
theorem dX3_init_14 : decode cX3_init 14 = .ok (.dup, 1) := by decide +kernel
theorem dX3_init_15 : decode cX3_init 15 = .ok (.invokespecial 17, 3) := by decide +kernel
theorem dX3_init_18 : decode cX3_init 18 = .ok (.putfield 18, 3) := by decide +kernel
theorem dX3_init_21 : decode cX3_init 21 = .ok (.return_, 1) := by decide +kernel
theorem dX3_copyFrom_0 : decode cX3_copyFrom 0 = .ok (.aload_n 0, 1) := by decide +kernel
theorem dX3_copyFrom_1 : decode cX3_copyFrom 1 = .ok (.aload_n 1, 1) := by decide +kernel
theorem dX3_copyFrom_2 : decode cX3_copyFrom 2 = .ok (.getfield 9, 3) := by decide +kernel
theorem dX3_copyFrom_5 : decode cX3_copyFrom 5 = .ok (.putfield 9, 3) := by decide +kernel
theorem dX3_copyFrom_8 : decode cX3_copyFrom 8 = .ok (.aload_n 0, 1) := by decide +kernel
theorem dX3_copyFrom_9 : decode cX3_copyFrom 9 = .ok (.aload_n 1, 1) := by decide +kernel
theorem dX3_copyFrom_10 : decode cX3_copyFrom 10 = .ok (.getfield 22, 3) := by decide +kernel
theorem dX3_copyFrom_13 : decode cX3_copyFrom 13 = .ok (.putfield 22, 3) := by decide +kernel
theorem dX3_copyFrom_16 : decode cX3_copyFrom 16 = .ok (.aload_n 0, 1) := by decide +kernel
theorem dX3_copyFrom_17 : decode cX3_copyFrom 17 = .ok (.aload_n 1, 1) := by decide +kernel
theorem dX3_copyFrom_18 : decode cX3_copyFrom 18 = .ok (.getfield 26, 3) := by decide +kernel
theorem dX3_copyFrom_21 : decode cX3_copyFrom 21 = .ok (.putfield 26, 3) := by decide +kernel
theorem dX3_copyFrom_24 : decode cX3_copyFrom 24 = .ok (.aload_n 0, 1) := by decide +kernel
theorem dX3_copyFrom_25 : decode cX3_copyFrom 25 = .ok (.aload_n 1, 1) := by decide +kernel
theorem dX3_copyFrom_26 : decode cX3_copyFrom 26 = .ok (.getfield 29, 3) := by decide +kernel
theorem dX3_copyFrom_29 : decode cX3_copyFrom 29 = .ok (.putfield 29, 3) := by decide +kernel
theorem dX3_copyFrom_32 : decode cX3_copyFrom 32 = .ok (.aload_n 0, 1) := by decide +kernel
theorem dX3_copyFrom_33 : decode cX3_copyFrom 33 = .ok (.aload_n 1, 1) := by decide +kernel
theorem dX3_copyFrom_34 : decode cX3_copyFrom 34 = .ok (.getfield 32, 3) := by decide +kernel
theorem dX3_copyFrom_37 : decode cX3_copyFrom 37 = .ok (.putfield 32, 3) := by decide +kernel
theorem dX3_copyFrom_40 : decode cX3_copyFrom 40 = .ok (.aload_n 0, 1) := by decide +kernel
theorem dX3_copyFrom_41 : decode cX3_copyFrom 41 = .ok (.aload_n 1, 1) := by decide +kernel
theorem dX3_copyFrom_42 : decode cX3_copyFrom 42 = .ok (.getfield 35, 3) := by decide +kernel
theorem dX3_copyFrom_45 : decode cX3_copyFrom 45 = .ok (.putfield 35, 3) := by decide +kernel
theorem dX3_copyFrom_48 : decode cX3_copyFrom 48 = .ok (.aload_n 0, 1) := by decide +kernel
theorem dX3_copyFrom_49 : decode cX3_copyFrom 49 = .ok (.getfield 18, 3) := by decide +kernel
theorem dX3_copyFrom_52 : decode cX3_copyFrom 52 = .ok (.aload_n 1, 1) := by decide +kernel
theorem dX3_copyFrom_53 : decode cX3_copyFrom 53 = .ok (.getfield 18, 3) := by decide +kernel
theorem dX3_copyFrom_56 : decode cX3_copyFrom 56 = .ok (.invokevirtual 38, 3) := by decide +kernel
theorem dX3_copyFrom_59 : decode cX3_copyFrom 59 = .ok (.return_, 1) := by decide +kernel
theorem dX3_isNamed_0 : decode cX3_isNamed 0 = .ok (.iload_n 2, 1) := by decide +kernel
theorem dX3_isNamed_1 : decode cX3_isNamed 1 = .ok (.ifCond .lt 22, 3) := by decide +kernel
theorem dX3_isNamed_4 : decode cX3_isNamed 4 = .ok (.iload_n 3, 1) := by decide +kernel
theorem dX3_isNamed_5 : decode cX3_isNamed 5 = .ok (.aload_n 1, 1) := by decide +kernel
theorem dX3_isNamed_6 : decode cX3_isNamed 6 = .ok (.arraylength, 1) := by decide +kernel
theorem dX3_isNamed_7 : decode cX3_isNamed 7 = .ok (.if_icmp .gt 16, 3) := by decide +kernel
theorem dX3_isNamed_10 : decode cX3_isNamed 10 = .ok (.iload_n 3, 1) := by decide +kernel
theorem dX3_isNamed_11 : decode cX3_isNamed 11 = .ok (.iload_n 2, 1) := by decide +kernel
theorem dX3_isNamed_12 : decode cX3_isNamed 12 = .ok (.isub, 1) := by decide +kernel
theorem dX3_isNamed_13 : decode cX3_isNamed 13 = .ok (.aload_n 0, 1) := by decide +kernel
theorem dX3_isNamed_14 : decode cX3_isNamed 14 = .ok (.getfield 9, 3) := by decide +kernel
theorem dX3_isNamed_17 : decode cX3_isNamed 17 = .ok (.invokevirtual 42, 3) := by decide +kernel
theorem dX3_isNamed_20 : decode cX3_isNamed 20 = .ok (.if_icmp .eq 5, 3) := by decide +kernel
theorem dX3_isNamed_23 : decode cX3_isNamed 23 = .ok (.iconst 0, 1) := by decide +kernel
theorem dX3_isNamed_24 : decode cX3_isNamed 24 = .ok (.ireturn, 1) := by decide +kernel
theorem dX3_isNamed_25 : decode cX3_isNamed 25 = .ok (.iconst 0, 1) := by decide +kernel
theorem dX3_isNamed_26 : decode cX3_isNamed 26 = .ok (.istore 4, 2) := by decide +kernel
theorem dX3_isNamed_28 : decode cX3_isNamed 28 = .ok (.iload 4, 2) := by decide +kernel
theorem dX3_isNamed_30 : decode cX3_isNamed 30 = .ok (.aload_n 0, 1) := by decide +kernel
theorem dX3_isNamed_31 : decode cX3_isNamed 31 = .ok (.getfield 9, 3) := by decide +kernel
theorem dX3_isNamed_34 : decode cX3_isNamed 34 = .ok (.invokevirtual 42, 3) := by decide +kernel
theorem dX3_isNamed_37 : decode cX3_isNamed 37 = .ok (.if_icmp .ge 29, 3) := by decide +kernel
theorem dX3_isNamed_40 : decode cX3_isNamed 40 = .ok (.aload_n 1, 1) := by decide +kernel
theorem dX3_isNamed_41 : decode cX3_isNamed 41 = .ok (.iload_n 2, 1) := by decide +kernel
theorem dX3_isNamed_42 : decode cX3_isNamed 42 = .ok (.iload 4, 2) := by decide +kernel
theorem dX3_isNamed_44 : decode cX3_isNamed 44 = .ok (.iadd, 1) := by decide +kernel
theorem dX3_isNamed_45 : decode cX3_isNamed 45 = .ok (.baload, 1) := by decide +kernel
theorem dX3_isNamed_46 : decode cX3_isNamed 46 = .ok (.aload_n 0, 1) := by decide +kernel
theorem dX3_isNamed_47 : decode cX3_isNamed 47 = .ok (.getfield 9, 3) := by decide +kernel
theorem dX3_isNamed_50 : decode cX3_isNamed 50 = .ok (.iload 4, 2) := by decide +kernel
theorem dX3_isNamed_52 : decode cX3_isNamed 52 = .ok (.invokevirtual 48, 3) := by decide +kernel
theorem dX3_isNamed_55 : decode cX3_isNamed 55 = .ok (.if_icmp .eq 5, 3) := by decide +kernel
theorem dX3_isNamed_58 : decode cX3_isNamed 58 = .ok (.iconst 0, 1) := by decide +kernel
theorem dX3_isNamed_59 : decode cX3_isNamed 59 = .ok (.ireturn, 1) := by decide +kernel
theorem dX3_isNamed_60 : decode cX3_isNamed 60 = .ok (.iinc 4 1, 3) := by decide +kernel
theorem dX3_isNamed_63 : decode cX3_isNamed 63 = .ok (.goto (-35), 3) := by decide +kernel
theorem dX3_isNamed_66 : decode cX3_isNamed 66 = .ok (.iconst 1, 1) := by decide +kernel
theorem dX3_isNamed_67 : decode cX3_isNamed 67 = .ok (.ireturn, 1) := by decide +kernel
theorem dX4_init_0 : decode cX4_init 0 = .ok (.aload_n 0, 1) := by decide +kernel
theorem dX4_init_1 : decode cX4_init 1 = .ok (.invokespecial 3, 3) := by decide +kernel
theorem dX4_init_4 : decode cX4_init 4 = .ok (.aload_n 0, 1) := by decide +kernel
theorem dX4_init_5 : decode cX4_init 5 = .ok (.new 9, 3) := by decide +kernel
theorem dX4_init_8 : decode cX4_init 8 = .ok (.dup, 1) := by decide +kernel
theorem dX4_init_9 : decode cX4_init 9 = .ok (.invokespecial 11, 3) := by decide +kernel
theorem dX4_init_12 : decode cX4_init 12 = .ok (.putfield 12, 3) := by decide +kernel
theorem dX4_init_15 : decode cX4_init 15 = .ok (.aload_n 0, 1) := by decide +kernel
theorem dX4_init_16 : decode cX4_init 16 = .ok (.iconst (-1), 1) := by decide +kernel
theorem dX4_init_17 : decode cX4_init 17 = .ok (.putfield 18, 3) := by decide +kernel
theorem dX4_init_20 : decode cX4_init 20 = .ok (.aload_n 0, 1) := by decide +kernel
theorem dX4_init_21 : decode cX4_init 21 = .ok (.aload_n 1, 1) := by decide +kernel
theorem dX4_init_22 : decode cX4_init 22 = .ok (.putfield 22, 3) := by decide +kernel
theorem dX4_init_25 : decode cX4_init 25 = .ok (.aload_n 0, 1) := by decide +kernel
theorem dX4_init_26 : decode cX4_init 26 = .ok (.new 26, 3) := by decide +kernel
theorem dX4_init_29 : decode cX4_init 29 = .ok (.dup, 1) := by decide +kernel
theorem dX4_init_30 : decode cX4_init 30 = .ok (.aload_n 1, 1) := by decide +kernel
theorem dX4_init_31 : decode cX4_init 31 = .ok (.invokespecial 28, 3) := by decide +kernel
theorem dX4_init_34 : decode cX4_init 34 = .ok (.putfield 31, 3) := by decide +kernel
theorem dX4_init_37 : decode cX4_init 37 = .ok (.return_, 1) := by decide +kernel
theorem dX4_read_0 : decode cX4_read 0 = .ok (.aload_n 0, 1) := by decide +kernel
theorem dX4_read_1 : decode cX4_read 1 = .ok (.iconst 0, 1) := by decide +kernel
theorem dX4_read_2 : decode cX4_read 2 = .ok (.putfield 35, 3) := by decide +kernel
theorem dX4_read_5 : decode cX4_read 5 = .ok (.aload_n 0, 1) := by decide +kernel
theorem dX4_read_6 : decode cX4_read 6 = .ok (.iconst (-1), 1) := by decide +kernel
theorem dX4_read_7 : decode cX4_read 7 = .ok (.putfield 18, 3) := by decide +kernel
theorem dX4_read_10 : decode cX4_read 10 = .ok (.aload_n 0, 1) := by decide +kernel
theorem dX4_read_11 : decode cX4_read 11 = .ok (.getfield 31, 3) := by decide +kernel
theorem dX4_read_14 : decode cX4_read 14 = .ok (.iload_n 1, 1) := by decide +kernel
theorem dX4_read_15 : decode cX4_read 15 = .ok (.invokevirtual 38, 3) := by decide +kernel
theorem dX4_read_18 : decode cX4_read 18 = .ok (.aload_n 0, 1) := by decide +kernel
theorem dX4_read_19 : decode cX4_read 19 = .ok (.invokevirtual 42, 3) := by decide +kernel
theorem dX4_read_22 : decode cX4_read 22 = .ok (.iconst 0, 1) := by decide +kernel
theorem dX4_read_23 : decode cX4_read 23 = .ok (.istore_n 2, 1) := by decide +kernel
theorem dX4_read_24 : decode cX4_read 24 = .ok (.iload_n 2, 1) := by decide +kernel
theorem dX4_read_25 : decode cX4_read 25 = .ok (.iload_n 1, 1) := by decide +kernel
theorem dX4_read_26 : decode cX4_read 26 = .ok (.if_icmp .ge 124, 3) := by decide +kernel
theorem dX4_read_29 : decode cX4_read 29 = .ok (.aload_n 0, 1) := by decide +kernel
theorem dX4_read_30 : decode cX4_read 30 = .ok (.getfield 35, 3) := by decide +kernel
theorem dX4_read_33 : decode cX4_read 33 = .ok (.ifCond .ne 117, 3) := by decide +kernel
theorem dX4_read_36 : decode cX4_read 36 = .ok (.aload_n 0, 1) := by decide +kernel
theorem dX4_read_37 : decode cX4_read 37 = .ok (.getfield 31, 3) := by decide +kernel
theorem dX4_read_40 : decode cX4_read 40 = .ok (.getfield 45, 3) := by decide +kernel
theorem dX4_read_43 : decode cX4_read 43 = .ok (.getstatic 49, 3) := by decide +kernel
theorem dX4_read_46 : decode cX4_read 46 = .ok (.if_acmp .ne 104, 3) := by decide +kernel
theorem dX4_read_49 : decode cX4_read 49 = .ok (.aload_n 0, 1) := by decide +kernel
theorem dX4_read_50 : decode cX4_read 50 = .ok (.getfield 31, 3) := by decide +kernel
theorem dX4_read_53 : decode cX4_read 53 = .ok (.invokevirtual 54, 3) := by decide +kernel
theorem dX4_read_56 : decode cX4_read 56 = .ok (.aload_n 0, 1) := by decide +kernel
theorem dX4_read_57 : decode cX4_read 57 = .ok (.getfield 31, 3) := by decide +kernel
theorem dX4_read_60 : decode cX4_read 60 = .ok (.ldc 57, 2) := by decide +kernel
theorem dX4_read_62 : decode cX4_read 62 = .ok (.invokevirtual 59, 3) := by decide +kernel
theorem dX4_read_65 : decode cX4_read 65 = .ok (.ifCond .eq 10, 3) := by decide +kernel
theorem dX4_read_68 : decode cX4_read 68 = .ok (.aload_n 0, 1) := by decide +kernel
theorem dX4_read_69 : decode cX4_read 69 = .ok (.invokevirtual 63, 3) := by decide +kernel
theorem dX4_read_72 : decode cX4_read 72 = .ok (.goto 72, 3) := by decide +kernel
theorem dX4_read_75 : decode cX4_read 75 = .ok (.aload_n 0, 1) := by decide +kernel
theorem dX4_read_76 : decode cX4_read 76 = .ok (.getfield 31, 3) := by decide +kernel
theorem dX4_read_79 : decode cX4_read 79 = .ok (.ldc 66, 2) := by decide +kernel
theorem dX4_read_81 : decode cX4_read 81 = .ok (.invokevirtual 59, 3) := by decide +kernel
theorem dX4_read_84 : decode cX4_read 84 = .ok (.ifCond .eq 10, 3) := by decide +kernel
theorem dX4_read_87 : decode cX4_read 87 = .ok (.aload_n 0, 1) := by decide +kernel
theorem dX4_read_88 : decode cX4_read 88 = .ok (.invokevirtual 68, 3) := by decide +kernel
theorem dX4_read_91 : decode cX4_read 91 = .ok (.goto 53, 3) := by decide +kernel
theorem dX4_read_94 : decode cX4_read 94 = .ok (.aload_n 0, 1) := by decide +kernel
theorem dX4_read_95 : decode cX4_read 95 = .ok (.getfield 31, 3) := by decide +kernel
theorem dX4_read_98 : decode cX4_read 98 = .ok (.ldc 71, 2) := by decide +kernel
theorem dX4_read_100 : decode cX4_read 100 = .ok (.invokevirtual 59, 3) := by decide +kernel
theorem dX4_read_103 : decode cX4_read 103 = .ok (.ifCond .eq 10, 3) := by decide +kernel
theorem dX4_read_106 : decode cX4_read 106 = .ok (.aload_n 0, 1) := by decide +kernel
theorem dX4_read_107 : decode cX4_read 107 = .ok (.invokevirtual 73, 3) := by decide +kernel
theorem dX4_read_110 : decode cX4_read 110 = .ok (.goto 34, 3) := by decide +kernel
theorem dX4_read_113 : decode cX4_read 113 = .ok (.aload_n 0, 1) := by decide +kernel
theorem dX4_read_114 : decode cX4_read 114 = .ok (.getfield 31, 3) := by decide +kernel
theorem dX4_read_117 : decode cX4_read 117 = .ok (.ldc 76, 2) := by decide +kernel
theorem dX4_read_119 : decode cX4_read 119 = .ok (.invokevirtual 59, 3) := by decide +kernel
theorem dX4_read_122 : decode cX4_read 122 = .ok (.ifCond .eq 10, 3) := by decide +kernel
theorem dX4_read_125 : decode cX4_read 125 = .ok (.aload_n 0, 1) := by decide +kernel
theorem dX4_read_126 : decode cX4_read 126 = .ok (.invokevirtual 78, 3) := by decide +kernel
theorem dX4_read_129 : decode cX4_read 129 = .ok (.goto 15, 3) := by decide +kernel
theorem dX4_read_132 : decode cX4_read 132 = .ok (.aload_n 0, 1) := by decide +kernel
theorem dX4_read_133 : decode cX4_read 133 = .ok (.iconst 1, 1) := by decide +kernel
theorem dX4_read_134 : decode cX4_read 134 = .ok (.aload_n 0, 1) := by decide +kernel
theorem dX4_read_135 : decode cX4_read 135 = .ok (.getfield 31, 3) := by decide +kernel
theorem dX4_read_138 : decode cX4_read 138 = .ok (.getfield 81, 3) := by decide +kernel
theorem dX4_read_141 : decode cX4_read 141 = .ok (.invokevirtual 84, 3) := by decide +kernel
theorem dX4_read_144 : decode cX4_read 144 = .ok (.iinc 2 1, 3) := by decide +kernel
theorem dX4_read_147 : decode cX4_read 147 = .ok (.goto (-123), 3) := by decide +kernel
theorem dX4_read_150 : decode cX4_read 150 = .ok (.aload_n 0, 1) := by decide +kernel
theorem dX4_read_151 : decode cX4_read 151 = .ok (.getfield 31, 3) := by decide +kernel
theorem dX4_read_154 : decode cX4_read 154 = .ok (.getfield 45, 3) := by decide +kernel
theorem dX4_read_157 : decode cX4_read 157 = .ok (.getstatic 88, 3) := by decide +kernel
theorem dX4_read_160 : decode cX4_read 160 = .ok (.if_acmp .eq 15, 3) := by decide +kernel
theorem dX4_read_163 : decode cX4_read 163 = .ok (.aload_n 0, 1) := by decide +kernel
theorem dX4_read_164 : decode cX4_read 164 = .ok (.iconst 1, 1) := by decide +kernel
theorem dX4_read_165 : decode cX4_read 165 = .ok (.aload_n 0, 1) := by decide +kernel
theorem dX4_read_166 : decode cX4_read 166 = .ok (.getfield 31, 3) := by decide +kernel
theorem dX4_read_169 : decode cX4_read 169 = .ok (.getfield 81, 3) := by decide +kernel
theorem dX4_read_172 : decode cX4_read 172 = .ok (.invokevirtual 84, 3) := by decide +kernel
theorem dX4_read_175 : decode cX4_read 175 = .ok (.return_, 1) := by decide +kernel
theorem dX4_readHeader_0 : decode cX4_readHeader 0 = .ok (.aload_n 0, 1) := by decide +kernel
theorem dX4_readHeader_1 : decode cX4_readHeader 1 = .ok (.ldc 91, 2) := by decide +kernel
theorem dX4_readHeader_3 : decode cX4_readHeader 3 = .ok (.invokevirtual 92, 3) := by decide +kernel
theorem dX4_readHeader_6 : decode cX4_readHeader 6 = .ok (.aload_n 0, 1) := by decide +kernel
theorem dX4_readHeader_7 : decode cX4_readHeader 7 = .ok (.iconst 0, 1) := by decide +kernel
theorem dX4_readHeader_8 : decode cX4_readHeader 8 = .ok (.bipush 50, 2) := by decide +kernel
theorem dX4_readHeader_10 : decode cX4_readHeader 10 = .ok (.invokevirtual 96, 3) := by decide +kernel
theorem dX4_readHeader_13 : decode cX4_readHeader 13 = .ok (.istore_n 1, 1) := by decide +kernel
theorem dX4_readHeader_14 : decode cX4_readHeader 14 = .ok (.aload_n 0, 1) := by decide +kernel
theorem dX4_readHeader_15 : decode cX4_readHeader 15 = .ok (.iconst 0, 1) := by decide +kernel
theorem dX4_readHeader_16 : decode cX4_readHeader 16 = .ok (.bipush 45, 2) := by decide +kernel
theorem dX4_readHeader_18 : decode cX4_readHeader 18 = .ok (.invokevirtual 96, 3) := by decide +kernel
theorem dX4_readHeader_21 : decode cX4_readHeader 21 = .ok (.istore_n 2, 1) := by decide +kernel
theorem dX4_readHeader_22 : decode cX4_readHeader 22 = .ok (.aload_n 0, 1) := by decide +kernel
theorem dX4_readHeader_23 : decode cX4_readHeader 23 = .ok (.getfield 31, 3) := by decide +kernel
theorem dX4_readHeader_26 : decode cX4_readHeader 26 = .ok (.getfield 45, 3) := by decide +kernel
theorem dX4_readHeader_29 : decode cX4_readHeader 29 = .ok (.getstatic 49, 3) := by decide +kernel
theorem dX4_readHeader_32 : decode cX4_readHeader 32 = .ok (.if_acmp .eq 16, 3) := by decide +kernel
theorem dX4_readHeader_35 : decode cX4_readHeader 35 = .ok (.aload_n 0, 1) := by decide +kernel
theorem dX4_readHeader_36 : decode cX4_readHeader 36 = .ok (.iconst 1, 1) := by decide +kernel
theorem dX4_readHeader_37 : decode cX4_readHeader 37 = .ok (.aload_n 0, 1) := by decide +kernel
theorem dX4_readHeader_38 : decode cX4_readHeader 38 = .ok (.getfield 31, 3) := by decide +kernel
theorem dX4_readHeader_41 : decode cX4_readHeader 41 = .ok (.getfield 81, 3) := by decide +kernel
theorem dX4_readHeader_44 : decode cX4_readHeader 44 = .ok (.invokevirtual 84, 3) := by decide +kernel
theorem dX4_readHeader_47 : decode cX4_readHeader 47 = .ok (.return_, 1) := by decide +kernel
theorem dX4_readHeader_48 : decode cX4_readHeader 48 = .ok (.aload_n 0, 1) := by decide +kernel
theorem dX4_readHeader_49 : decode cX4_readHeader 49 = .ok (.getfield 31, 3) := by decide +kernel
theorem dX4_readHeader_52 : decode cX4_readHeader 52 = .ok (.invokevirtual 54, 3) := by decide +kernel
theorem dX4_readHeader_55 : decode cX4_readHeader 55 = .ok (.aload_n 0, 1) := by decide +kernel
theorem dX4_readHeader_56 : decode cX4_readHeader 56 = .ok (.ldc 100, 2) := by decide +kernel
theorem dX4_readHeader_58 : decode cX4_readHeader 58 = .ok (.invokevirtual 92, 3) := by decide +kernel
theorem dX4_readHeader_61 : decode cX4_readHeader 61 = .ok (.aload_n 0, 1) := by decide +kernel
theorem dX4_readHeader_62 : decode cX4_readHeader 62 = .ok (.getfield 12, 3) := by decide +kernel
theorem dX4_readHeader_65 : decode cX4_readHeader 65 = .ok (.iload_n 1, 1) := by decide +kernel
theorem dX4_readHeader_66 : decode cX4_readHeader 66 = .ok (.iload_n 2, 1) := by decide +kernel
theorem dX4_readHeader_67 : decode cX4_readHeader 67 = .ok (.invokevirtual 102, 3) := by decide +kernel
theorem dX4_readHeader_70 : decode cX4_readHeader 70 = .ok (.aload_n 0, 1) := by decide +kernel
theorem dX4_readHeader_71 : decode cX4_readHeader 71 = .ok (.getfield 12, 3) := by decide +kernel
theorem dX4_readHeader_74 : decode cX4_readHeader 74 = .ok (.getfield 105, 3) := by decide +kernel
theorem dX4_readHeader_77 : decode cX4_readHeader 77 = .ok (.aload_n 0, 1) := by decide +kernel
theorem dX4_readHeader_78 : decode cX4_readHeader 78 = .ok (.invokevirtual 108, 3) := by decide +kernel
theorem dX4_readHeader_81 : decode cX4_readHeader 81 = .ok (.invokevirtual 112, 3) := by decide +kernel
theorem dX4_readHeader_84 : decode cX4_readHeader 84 = .ok (.return_, 1) := by decide +kernel
theorem dX4_readLodger_0 : decode cX4_readLodger 0 = .ok (.aload_n 0, 1) := by decide +kernel
theorem dX4_readLodger_1 : decode cX4_readLodger 1 = .ok (.getfield 12, 3) := by decide +kernel
theorem dX4_readLodger_4 : decode cX4_readLodger 4 = .ok (.getfield 117, 3) := by decide +kernel
theorem dX4_readLodger_7 : decode cX4_readLodger 7 = .ok (.bipush 12, 2) := by decide +kernel
theorem dX4_readLodger_9 : decode cX4_readLodger 9 = .ok (.if_icmp .lt 16, 3) := by decide +kernel
theorem dX4_readLodger_12 : decode cX4_readLodger 12 = .ok (.aload_n 0, 1) := by decide +kernel
theorem dX4_readLodger_13 : decode cX4_readLodger 13 = .ok (.iconst 5, 1) := by decide +kernel
theorem dX4_readLodger_14 : decode cX4_readLodger 14 = .ok (.aload_n 0, 1) := by decide +kernel
theorem dX4_readLodger_15 : decode cX4_readLodger 15 = .ok (.getfield 31, 3) := by decide +kernel
theorem dX4_readLodger_18 : decode cX4_readLodger 18 = .ok (.getfield 81, 3) := by decide +kernel
theorem dX4_readLodger_21 : decode cX4_readLodger 21 = .ok (.invokevirtual 84, 3) := by decide +kernel
theorem dX4_readLodger_24 : decode cX4_readLodger 24 = .ok (.return_, 1) := by decide +kernel
theorem dX4_readLodger_25 : decode cX4_readLodger 25 = .ok (.aload_n 0, 1) := by decide +kernel
theorem dX4_readLodger_26 : decode cX4_readLodger 26 = .ok (.getfield 31, 3) := by decide +kernel
theorem dX4_readLodger_29 : decode cX4_readLodger 29 = .ok (.invokevirtual 54, 3) := by decide +kernel
theorem dX4_readLodger_32 : decode cX4_readLodger 32 = .ok (.aload_n 0, 1) := by decide +kernel
theorem dX4_readLodger_33 : decode cX4_readLodger 33 = .ok (.invokevirtual 120, 3) := by decide +kernel
theorem dX4_readLodger_36 : decode cX4_readLodger 36 = .ok (.ifCond .ne 16, 3) := by decide +kernel
theorem dX4_readLodger_39 : decode cX4_readLodger 39 = .ok (.aload_n 0, 1) := by decide +kernel
theorem dX4_readLodger_40 : decode cX4_readLodger 40 = .ok (.iconst 1, 1) := by decide +kernel
theorem dX4_readLodger_41 : decode cX4_readLodger 41 = .ok (.aload_n 0, 1) := by decide +kernel
theorem dX4_readLodger_42 : decode cX4_readLodger 42 = .ok (.getfield 31, 3) := by decide +kernel
theorem dX4_readLodger_45 : decode cX4_readLodger 45 = .ok (.getfield 81, 3) := by decide +kernel
theorem dX4_readLodger_48 : decode cX4_readLodger 48 = .ok (.invokevirtual 84, 3) := by decide +kernel
theorem dX4_readLodger_51 : decode cX4_readLodger 51 = .ok (.return_, 1) := by decide +kernel
theorem dX4_readLodger_52 : decode cX4_readLodger 52 = .ok (.aload_n 0, 1) := by decide +kernel
theorem dX4_readLodger_53 : decode cX4_readLodger 53 = .ok (.getfield 12, 3) := by decide +kernel
theorem dX4_readLodger_56 : decode cX4_readLodger 56 = .ok (.aload_n 0, 1) := by decide +kernel
theorem dX4_readLodger_57 : decode cX4_readLodger 57 = .ok (.getfield 22, 3) := by decide +kernel
theorem dX4_readLodger_60 : decode cX4_readLodger 60 = .ok (.aload_n 0, 1) := by decide +kernel
theorem dX4_readLodger_61 : decode cX4_readLodger 61 = .ok (.getfield 31, 3) := by decide +kernel
theorem dX4_readLodger_64 : decode cX4_readLodger 64 = .ok (.getfield 81, 3) := by decide +kernel
theorem dX4_readLodger_67 : decode cX4_readLodger 67 = .ok (.aload_n 0, 1) := by decide +kernel
theorem dX4_readLodger_68 : decode cX4_readLodger 68 = .ok (.getfield 31, 3) := by decide +kernel
theorem dX4_readLodger_71 : decode cX4_readLodger 71 = .ok (.getfield 124, 3) := by decide +kernel
theorem dX4_readLodger_74 : decode cX4_readLodger 74 = .ok (.invokevirtual 127, 3) := by decide +kernel
theorem dX4_readLodger_77 : decode cX4_readLodger 77 = .ok (.iconst (-1), 1) := by decide +kernel
theorem dX4_readLodger_78 : decode cX4_readLodger 78 = .ok (.if_icmp .eq 16, 3) := by decide +kernel
theorem dX4_readLodger_81 : decode cX4_readLodger 81 = .ok (.aload_n 0, 1) := by decide +kernel
theorem dX4_readLodger_82 : decode cX4_readLodger 82 = .ok (.iconst 4, 1) := by decide +kernel
theorem dX4_readLodger_83 : decode cX4_readLodger 83 = .ok (.aload_n 0, 1) := by decide +kernel
theorem dX4_readLodger_84 : decode cX4_readLodger 84 = .ok (.getfield 31, 3) := by decide +kernel
theorem dX4_readLodger_87 : decode cX4_readLodger 87 = .ok (.getfield 81, 3) := by decide +kernel
theorem dX4_readLodger_90 : decode cX4_readLodger 90 = .ok (.invokevirtual 84, 3) := by decide +kernel
theorem dX4_readLodger_93 : decode cX4_readLodger 93 = .ok (.return_, 1) := by decide +kernel
theorem dX4_readLodger_94 : decode cX4_readLodger 94 = .ok (.aload_n 0, 1) := by decide +kernel
theorem dX4_readLodger_95 : decode cX4_readLodger 95 = .ok (.getfield 31, 3) := by decide +kernel
theorem dX4_readLodger_98 : decode cX4_readLodger 98 = .ok (.invokevirtual 131, 3) := by decide +kernel
theorem dX4_readLodger_101 : decode cX4_readLodger 101 = .ok (.astore_n 1, 1) := by decide +kernel
theorem dX4_readLodger_102 : decode cX4_readLodger 102 = .ok (.aload_n 0, 1) := by decide +kernel
theorem dX4_readLodger_103 : decode cX4_readLodger 103 = .ok (.getfield 31, 3) := by decide +kernel
theorem dX4_readLodger_106 : decode cX4_readLodger 106 = .ok (.invokevirtual 54, 3) := by decide +kernel
theorem dX4_readLodger_109 : decode cX4_readLodger 109 = .ok (.aload_n 0, 1) := by decide +kernel
theorem dX4_readLodger_110 : decode cX4_readLodger 110 = .ok (.aconst_null, 1) := by decide +kernel
theorem dX4_readLodger_111 : decode cX4_readLodger 111 = .ok (.invokevirtual 135, 3) := by decide +kernel
theorem dX4_readLodger_114 : decode cX4_readLodger 114 = .ok (.istore_n 2, 1) := by decide +kernel
theorem dX4_readLodger_115 : decode cX4_readLodger 115 = .ok (.aload_n 0, 1) := by decide +kernel
theorem dX4_readLodger_116 : decode cX4_readLodger 116 = .ok (.iconst 0, 1) := by decide +kernel
theorem dX4_readLodger_117 : decode cX4_readLodger 117 = .ok (.sipush 999, 3) := by decide +kernel
theorem dX4_readLodger_120 : decode cX4_readLodger 120 = .ok (.invokevirtual 96, 3) := by decide +kernel
theorem dX4_readLodger_123 : decode cX4_readLodger 123 = .ok (.istore_n 3, 1) := by decide +kernel
theorem dX4_readLodger_124 : decode cX4_readLodger 124 = .ok (.aload_n 0, 1) := by decide +kernel
theorem dX4_readLodger_125 : decode cX4_readLodger 125 = .ok (.invokevirtual 108, 3) := by decide +kernel
theorem dX4_readLodger_128 : decode cX4_readLodger 128 = .ok (.istore 4, 2) := by decide +kernel
theorem dX4_readLodger_130 : decode cX4_readLodger 130 = .ok (.aload_n 0, 1) := by decide +kernel
theorem dX4_readLodger_131 : decode cX4_readLodger 131 = .ok (.getfield 35, 3) := by decide +kernel
theorem dX4_readLodger_134 : decode cX4_readLodger 134 = .ok (.ifCond .ne 16, 3) := by decide +kernel
theorem dX4_readLodger_137 : decode cX4_readLodger 137 = .ok (.aload_n 0, 1) := by decide +kernel
theorem dX4_readLodger_138 : decode cX4_readLodger 138 = .ok (.getfield 12, 3) := by decide +kernel
theorem dX4_readLodger_141 : decode cX4_readLodger 141 = .ok (.aload_n 1, 1) := by decide +kernel
theorem dX4_readLodger_142 : decode cX4_readLodger 142 = .ok (.iload_n 2, 1) := by decide +kernel
theorem dX4_readLodger_143 : decode cX4_readLodger 143 = .ok (.iload_n 3, 1) := by decide +kernel
theorem dX4_readLodger_144 : decode cX4_readLodger 144 = .ok (.iload 4, 2) := by decide +kernel
theorem dX4_readLodger_146 : decode cX4_readLodger 146 = .ok (.invokevirtual 139, 3) := by decide +kernel
theorem dX4_readLodger_149 : decode cX4_readLodger 149 = .ok (.pop, 1) := by decide +kernel
theorem dX4_readLodger_150 : decode cX4_readLodger 150 = .ok (.return_, 1) := by decide +kernel
theorem dX4_readPay_0 : decode cX4_readPay 0 = .ok (.aload_n 0, 1) := by decide +kernel
theorem dX4_readPay_1 : decode cX4_readPay 1 = .ok (.getfield 31, 3) := by decide +kernel
theorem dX4_readPay_4 : decode cX4_readPay 4 = .ok (.invokevirtual 54, 3) := by decide +kernel
theorem dX4_readPay_7 : decode cX4_readPay 7 = .ok (.aload_n 0, 1) := by decide +kernel
theorem dX4_readPay_8 : decode cX4_readPay 8 = .ok (.invokevirtual 143, 3) := by decide +kernel
theorem dX4_readPay_11 : decode cX4_readPay 11 = .ok (.astore_n 1, 1) := by decide +kernel
theorem dX4_readPay_12 : decode cX4_readPay 12 = .ok (.aload_n 0, 1) := by decide +kernel
theorem dX4_readPay_13 : decode cX4_readPay 13 = .ok (.iconst 1, 1) := by decide +kernel
theorem dX4_readPay_14 : decode cX4_readPay 14 = .ok (.sipush 999, 3) := by decide +kernel
theorem dX4_readPay_17 : decode cX4_readPay 17 = .ok (.invokevirtual 96, 3) := by decide +kernel
theorem dX4_readPay_20 : decode cX4_readPay 20 = .ok (.istore_n 2, 1) := by decide +kernel
theorem dX4_readPay_21 : decode cX4_readPay 21 = .ok (.aload_n 1, 1) := by decide +kernel
theorem dX4_readPay_22 : decode cX4_readPay 22 = .ok (.ifnull 19, 3) := by decide +kernel
theorem dX4_readPay_25 : decode cX4_readPay 25 = .ok (.aload_n 0, 1) := by decide +kernel
theorem dX4_readPay_26 : decode cX4_readPay 26 = .ok (.getfield 35, 3) := by decide +kernel
theorem dX4_readPay_29 : decode cX4_readPay 29 = .ok (.ifCond .ne 12, 3) := by decide +kernel
theorem dX4_readPay_32 : decode cX4_readPay 32 = .ok (.aload_n 0, 1) := by decide +kernel
theorem dX4_readPay_33 : decode cX4_readPay 33 = .ok (.getfield 12, 3) := by decide +kernel
theorem dX4_readPay_36 : decode cX4_readPay 36 = .ok (.aload_n 1, 1) := by decide +kernel
theorem dX4_readPay_37 : decode cX4_readPay 37 = .ok (.iload_n 2, 1) := by decide +kernel
theorem dX4_readPay_38 : decode cX4_readPay 38 = .ok (.invokevirtual 147, 3) := by decide +kernel
theorem dX4_readPay_41 : decode cX4_readPay 41 = .ok (.return_, 1) := by decide +kernel
theorem dX4_readMove_0 : decode cX4_readMove 0 = .ok (.aload_n 0, 1) := by decide +kernel
theorem dX4_readMove_1 : decode cX4_readMove 1 = .ok (.getfield 31, 3) := by decide +kernel
theorem dX4_readMove_4 : decode cX4_readMove 4 = .ok (.invokevirtual 54, 3) := by decide +kernel
theorem dX4_readMove_7 : decode cX4_readMove 7 = .ok (.aload_n 0, 1) := by decide +kernel
theorem dX4_readMove_8 : decode cX4_readMove 8 = .ok (.invokevirtual 143, 3) := by decide +kernel
theorem dX4_readMove_11 : decode cX4_readMove 11 = .ok (.astore_n 1, 1) := by decide +kernel
theorem dX4_readMove_12 : decode cX4_readMove 12 = .ok (.aload_n 0, 1) := by decide +kernel
theorem dX4_readMove_13 : decode cX4_readMove 13 = .ok (.aload_n 1, 1) := by decide +kernel
theorem dX4_readMove_14 : decode cX4_readMove 14 = .ok (.invokevirtual 135, 3) := by decide +kernel
theorem dX4_readMove_17 : decode cX4_readMove 17 = .ok (.istore_n 2, 1) := by decide +kernel
theorem dX4_readMove_18 : decode cX4_readMove 18 = .ok (.aload_n 1, 1) := by decide +kernel
theorem dX4_readMove_19 : decode cX4_readMove 19 = .ok (.ifnull 15, 3) := by decide +kernel
theorem dX4_readMove_22 : decode cX4_readMove 22 = .ok (.aload_n 0, 1) := by decide +kernel
theorem dX4_readMove_23 : decode cX4_readMove 23 = .ok (.getfield 35, 3) := by decide +kernel
theorem dX4_readMove_26 : decode cX4_readMove 26 = .ok (.ifCond .ne 8, 3) := by decide +kernel
theorem dX4_readMove_29 : decode cX4_readMove 29 = .ok (.aload_n 1, 1) := by decide +kernel
theorem dX4_readMove_30 : decode cX4_readMove 30 = .ok (.iload_n 2, 1) := by decide +kernel
theorem dX4_readMove_31 : decode cX4_readMove 31 = .ok (.putfield 151, 3) := by decide +kernel
theorem dX4_readMove_34 : decode cX4_readMove 34 = .ok (.return_, 1) := by decide +kernel
theorem dX4_readDays_0 : decode cX4_readDays 0 = .ok (.aload_n 0, 1) := by decide +kernel
theorem dX4_readDays_1 : decode cX4_readDays 1 = .ok (.getfield 31, 3) := by decide +kernel
theorem dX4_readDays_4 : decode cX4_readDays 4 = .ok (.invokevirtual 54, 3) := by decide +kernel
theorem dX4_readDays_7 : decode cX4_readDays 7 = .ok (.aload_n 0, 1) := by decide +kernel
theorem dX4_readDays_8 : decode cX4_readDays 8 = .ok (.iconst 1, 1) := by decide +kernel
theorem dX4_readDays_9 : decode cX4_readDays 9 = .ok (.bipush 100, 2) := by decide +kernel
theorem dX4_readDays_11 : decode cX4_readDays 11 = .ok (.invokevirtual 96, 3) := by decide +kernel
theorem dX4_readDays_14 : decode cX4_readDays 14 = .ok (.istore_n 1, 1) := by decide +kernel
theorem dX4_readDays_15 : decode cX4_readDays 15 = .ok (.iconst 0, 1) := by decide +kernel
theorem dX4_readDays_16 : decode cX4_readDays 16 = .ok (.istore_n 2, 1) := by decide +kernel
theorem dX4_readDays_17 : decode cX4_readDays 17 = .ok (.iload_n 2, 1) := by decide +kernel
theorem dX4_readDays_18 : decode cX4_readDays 18 = .ok (.iload_n 1, 1) := by decide +kernel
theorem dX4_readDays_19 : decode cX4_readDays 19 = .ok (.if_icmp .ge 23, 3) := by decide +kernel
theorem dX4_readDays_22 : decode cX4_readDays 22 = .ok (.aload_n 0, 1) := by decide +kernel
theorem dX4_readDays_23 : decode cX4_readDays 23 = .ok (.getfield 35, 3) := by decide +kernel
theorem dX4_readDays_26 : decode cX4_readDays 26 = .ok (.ifCond .ne 16, 3) := by decide +kernel
theorem dX4_readDays_29 : decode cX4_readDays 29 = .ok (.aload_n 0, 1) := by decide +kernel
theorem dX4_readDays_30 : decode cX4_readDays 30 = .ok (.getfield 12, 3) := by decide +kernel
theorem dX4_readDays_33 : decode cX4_readDays 33 = .ok (.invokevirtual 156, 3) := by decide +kernel
theorem dX4_readDays_36 : decode cX4_readDays 36 = .ok (.iinc 2 1, 3) := by decide +kernel
theorem dX4_readDays_39 : decode cX4_readDays 39 = .ok (.goto (-22), 3) := by decide +kernel
theorem dX4_readDays_42 : decode cX4_readDays 42 = .ok (.return_, 1) := by decide +kernel
theorem dX4_expectWord_0 : decode cX4_expectWord 0 = .ok (.aload_n 0, 1) := by decide +kernel
theorem dX4_expectWord_1 : decode cX4_expectWord 1 = .ok (.getfield 31, 3) := by decide +kernel
theorem dX4_expectWord_4 : decode cX4_expectWord 4 = .ok (.aload_n 1, 1) := by decide +kernel
theorem dX4_expectWord_5 : decode cX4_expectWord 5 = .ok (.invokevirtual 59, 3) := by decide +kernel
theorem dX4_expectWord_8 : decode cX4_expectWord 8 = .ok (.ifCond .eq 13, 3) := by decide +kernel
theorem dX4_expectWord_11 : decode cX4_expectWord 11 = .ok (.aload_n 0, 1) := by decide +kernel
theorem dX4_expectWord_12 : decode cX4_expectWord 12 = .ok (.getfield 31, 3) := by decide +kernel
theorem dX4_expectWord_15 : decode cX4_expectWord 15 = .ok (.invokevirtual 54, 3) := by decide +kernel
theorem dX4_expectWord_18 : decode cX4_expectWord 18 = .ok (.goto 15, 3) := by decide +kernel
theorem dX4_expectWord_21 : decode cX4_expectWord 21 = .ok (.aload_n 0, 1) := by decide +kernel
theorem dX4_expectWord_22 : decode cX4_expectWord 22 = .ok (.iconst 1, 1) := by decide +kernel
theorem dX4_expectWord_23 : decode cX4_expectWord 23 = .ok (.aload_n 0, 1) := by decide +kernel
theorem dX4_expectWord_24 : decode cX4_expectWord 24 = .ok (.getfield 31, 3) := by decide +kernel
theorem dX4_expectWord_27 : decode cX4_expectWord 27 = .ok (.getfield 81, 3) := by decide +kernel
theorem dX4_expectWord_30 : decode cX4_expectWord 30 = .ok (.invokevirtual 84, 3) := by decide +kernel
theorem dX4_expectWord_33 : decode cX4_expectWord 33 = .ok (.return_, 1) := by decide +kernel
theorem dX4_isAtName_0 : decode cX4_isAtName 0 = .ok (.aload_n 0, 1) := by decide +kernel
theorem dX4_isAtName_1 : decode cX4_isAtName 1 = .ok (.getfield 31, 3) := by decide +kernel
theorem dX4_isAtName_4 : decode cX4_isAtName 4 = .ok (.getfield 45, 3) := by decide +kernel
theorem dX4_isAtName_7 : decode cX4_isAtName 7 = .ok (.getstatic 159, 3) := by decide +kernel
theorem dX4_isAtName_10 : decode cX4_isAtName 10 = .ok (.if_acmp .ne 19, 3) := by decide +kernel
theorem dX4_isAtName_13 : decode cX4_isAtName 13 = .ok (.aload_n 0, 1) := by decide +kernel
theorem dX4_isAtName_14 : decode cX4_isAtName 14 = .ok (.getfield 31, 3) := by decide +kernel
theorem dX4_isAtName_17 : decode cX4_isAtName 17 = .ok (.invokevirtual 162, 3) := by decide +kernel
theorem dX4_isAtName_20 : decode cX4_isAtName 20 = .ok (.bipush 6, 2) := by decide +kernel
theorem dX4_isAtName_22 : decode cX4_isAtName 22 = .ok (.if_icmp .gt 7, 3) := by decide +kernel
theorem dX4_isAtName_25 : decode cX4_isAtName 25 = .ok (.iconst 1, 1) := by decide +kernel
theorem dX4_isAtName_26 : decode cX4_isAtName 26 = .ok (.goto 4, 3) := by decide +kernel
theorem dX4_isAtName_29 : decode cX4_isAtName 29 = .ok (.iconst 0, 1) := by decide +kernel
theorem dX4_isAtName_30 : decode cX4_isAtName 30 = .ok (.ireturn, 1) := by decide +kernel
theorem dX4_readKnownName_0 : decode cX4_readKnownName 0 = .ok (.aload_n 0, 1) := by decide +kernel
theorem dX4_readKnownName_1 : decode cX4_readKnownName 1 = .ok (.invokevirtual 120, 3) := by decide +kernel
theorem dX4_readKnownName_4 : decode cX4_readKnownName 4 = .ok (.ifCond .ne 17, 3) := by decide +kernel
theorem dX4_readKnownName_7 : decode cX4_readKnownName 7 = .ok (.aload_n 0, 1) := by decide +kernel
theorem dX4_readKnownName_8 : decode cX4_readKnownName 8 = .ok (.iconst 1, 1) := by decide +kernel
theorem dX4_readKnownName_9 : decode cX4_readKnownName 9 = .ok (.aload_n 0, 1) := by decide +kernel
theorem dX4_readKnownName_10 : decode cX4_readKnownName 10 = .ok (.getfield 31, 3) := by decide +kernel
theorem dX4_readKnownName_13 : decode cX4_readKnownName 13 = .ok (.getfield 81, 3) := by decide +kernel
theorem dX4_readKnownName_16 : decode cX4_readKnownName 16 = .ok (.invokevirtual 84, 3) := by decide +kernel
theorem dX4_readKnownName_19 : decode cX4_readKnownName 19 = .ok (.aconst_null, 1) := by decide +kernel
theorem dX4_readKnownName_20 : decode cX4_readKnownName 20 = .ok (.areturn, 1) := by decide +kernel
theorem dX4_readKnownName_21 : decode cX4_readKnownName 21 = .ok (.aload_n 0, 1) := by decide +kernel
theorem dX4_readKnownName_22 : decode cX4_readKnownName 22 = .ok (.getfield 12, 3) := by decide +kernel
theorem dX4_readKnownName_25 : decode cX4_readKnownName 25 = .ok (.aload_n 0, 1) := by decide +kernel
theorem dX4_readKnownName_26 : decode cX4_readKnownName 26 = .ok (.getfield 22, 3) := by decide +kernel
theorem dX4_readKnownName_29 : decode cX4_readKnownName 29 = .ok (.aload_n 0, 1) := by decide +kernel
theorem dX4_readKnownName_30 : decode cX4_readKnownName 30 = .ok (.getfield 31, 3) := by decide +kernel
theorem dX4_readKnownName_33 : decode cX4_readKnownName 33 = .ok (.getfield 81, 3) := by decide +kernel
theorem dX4_readKnownName_36 : decode cX4_readKnownName 36 = .ok (.aload_n 0, 1) := by decide +kernel
theorem dX4_readKnownName_37 : decode cX4_readKnownName 37 = .ok (.getfield 31, 3) := by decide +kernel
theorem dX4_readKnownName_40 : decode cX4_readKnownName 40 = .ok (.getfield 124, 3) := by decide +kernel
theorem dX4_readKnownName_43 : decode cX4_readKnownName 43 = .ok (.invokevirtual 127, 3) := by decide +kernel
theorem dX4_readKnownName_46 : decode cX4_readKnownName 46 = .ok (.istore_n 1, 1) := by decide +kernel
theorem dX4_readKnownName_47 : decode cX4_readKnownName 47 = .ok (.iload_n 1, 1) := by decide +kernel
theorem dX4_readKnownName_48 : decode cX4_readKnownName 48 = .ok (.iconst (-1), 1) := by decide +kernel
theorem dX4_readKnownName_49 : decode cX4_readKnownName 49 = .ok (.if_icmp .ne 17, 3) := by decide +kernel
theorem dX4_readKnownName_52 : decode cX4_readKnownName 52 = .ok (.aload_n 0, 1) := by decide +kernel
theorem dX4_readKnownName_53 : decode cX4_readKnownName 53 = .ok (.iconst 3, 1) := by decide +kernel
theorem dX4_readKnownName_54 : decode cX4_readKnownName 54 = .ok (.aload_n 0, 1) := by decide +kernel
theorem dX4_readKnownName_55 : decode cX4_readKnownName 55 = .ok (.getfield 31, 3) := by decide +kernel
theorem dX4_readKnownName_58 : decode cX4_readKnownName 58 = .ok (.getfield 81, 3) := by decide +kernel
theorem dX4_readKnownName_61 : decode cX4_readKnownName 61 = .ok (.invokevirtual 84, 3) := by decide +kernel
theorem dX4_readKnownName_64 : decode cX4_readKnownName 64 = .ok (.aconst_null, 1) := by decide +kernel
theorem dX4_readKnownName_65 : decode cX4_readKnownName 65 = .ok (.areturn, 1) := by decide +kernel
theorem dX4_readKnownName_66 : decode cX4_readKnownName 66 = .ok (.aload_n 0, 1) := by decide +kernel
theorem dX4_readKnownName_67 : decode cX4_readKnownName 67 = .ok (.getfield 31, 3) := by decide +kernel
theorem dX4_readKnownName_70 : decode cX4_readKnownName 70 = .ok (.invokevirtual 54, 3) := by decide +kernel
theorem dX4_readKnownName_73 : decode cX4_readKnownName 73 = .ok (.aload_n 0, 1) := by decide +kernel
theorem dX4_readKnownName_74 : decode cX4_readKnownName 74 = .ok (.getfield 12, 3) := by decide +kernel
theorem dX4_readKnownName_77 : decode cX4_readKnownName 77 = .ok (.getfield 165, 3) := by decide +kernel
theorem dX4_readKnownName_80 : decode cX4_readKnownName 80 = .ok (.iload_n 1, 1) := by decide +kernel
theorem dX4_readKnownName_81 : decode cX4_readKnownName 81 = .ok (.aaload, 1) := by decide +kernel
theorem dX4_readKnownName_82 : decode cX4_readKnownName 82 = .ok (.areturn, 1) := by decide +kernel
theorem dX4_readNumber_0 : decode cX4_readNumber 0 = .ok (.aload_n 0, 1) := by decide +kernel
theorem dX4_readNumber_1 : decode cX4_readNumber 1 = .ok (.getfield 31, 3) := by decide +kernel
theorem dX4_readNumber_4 : decode cX4_readNumber 4 = .ok (.getfield 45, 3) := by decide +kernel
theorem dX4_readNumber_7 : decode cX4_readNumber 7 = .ok (.getstatic 169, 3) := by decide +kernel
theorem dX4_readNumber_10 : decode cX4_readNumber 10 = .ok (.if_acmp .ne 14, 3) := by decide +kernel
theorem dX4_readNumber_13 : decode cX4_readNumber 13 = .ok (.aload_n 0, 1) := by decide +kernel
theorem dX4_readNumber_14 : decode cX4_readNumber 14 = .ok (.getfield 31, 3) := by decide +kernel
theorem dX4_readNumber_17 : decode cX4_readNumber 17 = .ok (.invokevirtual 162, 3) := by decide +kernel
theorem dX4_readNumber_20 : decode cX4_readNumber 20 = .ok (.iconst 3, 1) := by decide +kernel
theorem dX4_readNumber_21 : decode cX4_readNumber 21 = .ok (.if_icmp .le 17, 3) := by decide +kernel
theorem dX4_readNumber_24 : decode cX4_readNumber 24 = .ok (.aload_n 0, 1) := by decide +kernel
theorem dX4_readNumber_25 : decode cX4_readNumber 25 = .ok (.iconst 1, 1) := by decide +kernel
theorem dX4_readNumber_26 : decode cX4_readNumber 26 = .ok (.aload_n 0, 1) := by decide +kernel
theorem dX4_readNumber_27 : decode cX4_readNumber 27 = .ok (.getfield 31, 3) := by decide +kernel
theorem dX4_readNumber_30 : decode cX4_readNumber 30 = .ok (.getfield 81, 3) := by decide +kernel
theorem dX4_readNumber_33 : decode cX4_readNumber 33 = .ok (.invokevirtual 84, 3) := by decide +kernel
theorem dX4_readNumber_36 : decode cX4_readNumber 36 = .ok (.iload_n 1, 1) := by decide +kernel
theorem dX4_readNumber_37 : decode cX4_readNumber 37 = .ok (.ireturn, 1) := by decide +kernel
theorem dX4_readNumber_38 : decode cX4_readNumber 38 = .ok (.aload_n 0, 1) := by decide +kernel
theorem dX4_readNumber_39 : decode cX4_readNumber 39 = .ok (.getfield 31, 3) := by decide +kernel
theorem dX4_readNumber_42 : decode cX4_readNumber 42 = .ok (.invokevirtual 172, 3) := by decide +kernel
theorem dX4_readNumber_45 : decode cX4_readNumber 45 = .ok (.istore_n 3, 1) := by decide +kernel
theorem dX4_readNumber_46 : decode cX4_readNumber 46 = .ok (.iload_n 3, 1) := by decide +kernel
theorem dX4_readNumber_47 : decode cX4_readNumber 47 = .ok (.iload_n 1, 1) := by decide +kernel
theorem dX4_readNumber_48 : decode cX4_readNumber 48 = .ok (.if_icmp .lt 8, 3) := by decide +kernel
theorem dX4_readNumber_51 : decode cX4_readNumber 51 = .ok (.iload_n 3, 1) := by decide +kernel
theorem dX4_readNumber_52 : decode cX4_readNumber 52 = .ok (.iload_n 2, 1) := by decide +kernel
theorem dX4_readNumber_53 : decode cX4_readNumber 53 = .ok (.if_icmp .le 17, 3) := by decide +kernel
theorem dX4_readNumber_56 : decode cX4_readNumber 56 = .ok (.aload_n 0, 1) := by decide +kernel
theorem dX4_readNumber_57 : decode cX4_readNumber 57 = .ok (.iconst 2, 1) := by decide +kernel
theorem dX4_readNumber_58 : decode cX4_readNumber 58 = .ok (.aload_n 0, 1) := by decide +kernel
theorem dX4_readNumber_59 : decode cX4_readNumber 59 = .ok (.getfield 31, 3) := by decide +kernel
theorem dX4_readNumber_62 : decode cX4_readNumber 62 = .ok (.getfield 81, 3) := by decide +kernel
theorem dX4_readNumber_65 : decode cX4_readNumber 65 = .ok (.invokevirtual 84, 3) := by decide +kernel
theorem dX4_readNumber_68 : decode cX4_readNumber 68 = .ok (.iload_n 1, 1) := by decide +kernel
theorem dX4_readNumber_69 : decode cX4_readNumber 69 = .ok (.ireturn, 1) := by decide +kernel
theorem dX4_readNumber_70 : decode cX4_readNumber 70 = .ok (.aload_n 0, 1) := by decide +kernel
theorem dX4_readNumber_71 : decode cX4_readNumber 71 = .ok (.getfield 31, 3) := by decide +kernel
theorem dX4_readNumber_74 : decode cX4_readNumber 74 = .ok (.invokevirtual 54, 3) := by decide +kernel
theorem dX4_readNumber_77 : decode cX4_readNumber 77 = .ok (.iload_n 3, 1) := by decide +kernel
theorem dX4_readNumber_78 : decode cX4_readNumber 78 = .ok (.ireturn, 1) := by decide +kernel
theorem dX4_readFloor_0 : decode cX4_readFloor 0 = .ok (.aload_n 0, 1) := by decide +kernel
theorem dX4_readFloor_1 : decode cX4_readFloor 1 = .ok (.getfield 31, 3) := by decide +kernel
theorem dX4_readFloor_4 : decode cX4_readFloor 4 = .ok (.getfield 81, 3) := by decide +kernel
theorem dX4_readFloor_7 : decode cX4_readFloor 7 = .ok (.istore_n 2, 1) := by decide +kernel
theorem dX4_readFloor_8 : decode cX4_readFloor 8 = .ok (.aload_n 0, 1) := by decide +kernel
theorem dX4_readFloor_9 : decode cX4_readFloor 9 = .ok (.iconst 0, 1) := by decide +kernel
theorem dX4_readFloor_10 : decode cX4_readFloor 10 = .ok (.iconst 4, 1) := by decide +kernel
theorem dX4_readFloor_11 : decode cX4_readFloor 11 = .ok (.invokevirtual 96, 3) := by decide +kernel
theorem dX4_readFloor_14 : decode cX4_readFloor 14 = .ok (.istore_n 3, 1) := by decide +kernel
theorem dX4_readFloor_15 : decode cX4_readFloor 15 = .ok (.aload_n 0, 1) := by decide +kernel
theorem dX4_readFloor_16 : decode cX4_readFloor 16 = .ok (.getfield 12, 3) := by decide +kernel
theorem dX4_readFloor_19 : decode cX4_readFloor 19 = .ok (.iload_n 3, 1) := by decide +kernel
theorem dX4_readFloor_20 : decode cX4_readFloor 20 = .ok (.aload_n 1, 1) := by decide +kernel
theorem dX4_readFloor_21 : decode cX4_readFloor 21 = .ok (.invokevirtual 175, 3) := by decide +kernel
theorem dX4_readFloor_24 : decode cX4_readFloor 24 = .ok (.ifCond .eq 10, 3) := by decide +kernel
theorem dX4_readFloor_27 : decode cX4_readFloor 27 = .ok (.aload_n 0, 1) := by decide +kernel
theorem dX4_readFloor_28 : decode cX4_readFloor 28 = .ok (.bipush 6, 2) := by decide +kernel
theorem dX4_readFloor_30 : decode cX4_readFloor 30 = .ok (.iload_n 2, 1) := by decide +kernel
theorem dX4_readFloor_31 : decode cX4_readFloor 31 = .ok (.invokevirtual 84, 3) := by decide +kernel
theorem dX4_readFloor_34 : decode cX4_readFloor 34 = .ok (.iload_n 3, 1) := by decide +kernel
theorem dX4_readFloor_35 : decode cX4_readFloor 35 = .ok (.ireturn, 1) := by decide +kernel
theorem dX4_readAccent_0 : decode cX4_readAccent 0 = .ok (.iconst 0, 1) := by decide +kernel
theorem dX4_readAccent_1 : decode cX4_readAccent 1 = .ok (.istore_n 1, 1) := by decide +kernel
theorem dX4_readAccent_2 : decode cX4_readAccent 2 = .ok (.iconst 0, 1) := by decide +kernel
theorem dX4_readAccent_3 : decode cX4_readAccent 3 = .ok (.istore_n 2, 1) := by decide +kernel
theorem dX4_readAccent_4 : decode cX4_readAccent 4 = .ok (.iload_n 2, 1) := by decide +kernel
theorem dX4_readAccent_5 : decode cX4_readAccent 5 = .ok (.iconst 5, 1) := by decide +kernel
theorem dX4_readAccent_6 : decode cX4_readAccent 6 = .ok (.if_icmp .ge 22, 3) := by decide +kernel
theorem dX4_readAccent_9 : decode cX4_readAccent 9 = .ok (.iload_n 1, 1) := by decide +kernel
theorem dX4_readAccent_10 : decode cX4_readAccent 10 = .ok (.bipush 10, 2) := by decide +kernel
theorem dX4_readAccent_12 : decode cX4_readAccent 12 = .ok (.imul, 1) := by decide +kernel
theorem dX4_readAccent_13 : decode cX4_readAccent 13 = .ok (.aload_n 0, 1) := by decide +kernel
theorem dX4_readAccent_14 : decode cX4_readAccent 14 = .ok (.iconst 0, 1) := by decide +kernel
theorem dX4_readAccent_15 : decode cX4_readAccent 15 = .ok (.bipush 9, 2) := by decide +kernel
theorem dX4_readAccent_17 : decode cX4_readAccent 17 = .ok (.invokevirtual 96, 3) := by decide +kernel
theorem dX4_readAccent_20 : decode cX4_readAccent 20 = .ok (.iadd, 1) := by decide +kernel
theorem dX4_readAccent_21 : decode cX4_readAccent 21 = .ok (.istore_n 1, 1) := by decide +kernel
theorem dX4_readAccent_22 : decode cX4_readAccent 22 = .ok (.iinc 2 1, 3) := by decide +kernel
theorem dX4_readAccent_25 : decode cX4_readAccent 25 = .ok (.goto (-21), 3) := by decide +kernel
theorem dX4_readAccent_28 : decode cX4_readAccent 28 = .ok (.iload_n 1, 1) := by decide +kernel
theorem dX4_readAccent_29 : decode cX4_readAccent 29 = .ok (.ireturn, 1) := by decide +kernel
theorem dX4_fail_0 : decode cX4_fail 0 = .ok (.aload_n 0, 1) := by decide +kernel
theorem dX4_fail_1 : decode cX4_fail 1 = .ok (.getfield 35, 3) := by decide +kernel
theorem dX4_fail_4 : decode cX4_fail 4 = .ok (.ifCond .ne 13, 3) := by decide +kernel
theorem dX4_fail_7 : decode cX4_fail 7 = .ok (.aload_n 0, 1) := by decide +kernel
theorem dX4_fail_8 : decode cX4_fail 8 = .ok (.iload_n 1, 1) := by decide +kernel
theorem dX4_fail_9 : decode cX4_fail 9 = .ok (.putfield 35, 3) := by decide +kernel
theorem dX4_fail_12 : decode cX4_fail 12 = .ok (.aload_n 0, 1) := by decide +kernel
theorem dX4_fail_13 : decode cX4_fail 13 = .ok (.iload_n 2, 1) := by decide +kernel
theorem dX4_fail_14 : decode cX4_fail 14 = .ok (.putfield 18, 3) := by decide +kernel
theorem dX4_fail_17 : decode cX4_fail 17 = .ok (.return_, 1) := by decide +kernel
theorem dX6_init_0 : decode cX6_init 0 = .ok (.aload_n 0, 1) := by decide +kernel
theorem dX6_init_1 : decode cX6_init 1 = .ok (.invokespecial 1, 3) := by decide +kernel
theorem dX6_init_4 : decode cX6_init 4 = .ok (.aload_n 0, 1) := by decide +kernel
theorem dX6_init_5 : decode cX6_init 5 = .ok (.new 7, 3) := by decide +kernel
theorem dX6_init_8 : decode cX6_init 8 = .ok (.dup, 1) := by decide +kernel
theorem dX6_init_9 : decode cX6_init 9 = .ok (.invokespecial 9, 3) := by decide +kernel
theorem dX6_init_12 : decode cX6_init 12 = .ok (.putfield 10, 3) := by decide +kernel
theorem dX6_init_15 : decode cX6_init 15 = .ok (.aload_n 0, 1) := by decide +kernel
theorem dX6_init_16 : decode cX6_init 16 = .ok (.getstatic 16, 3) := by decide +kernel
theorem dX6_init_19 : decode cX6_init 19 = .ok (.putfield 22, 3) := by decide +kernel
theorem dX6_init_22 : decode cX6_init 22 = .ok (.aload_n 0, 1) := by decide +kernel
theorem dX6_init_23 : decode cX6_init 23 = .ok (.aload_n 1, 1) := by decide +kernel
theorem dX6_init_24 : decode cX6_init 24 = .ok (.putfield 25, 3) := by decide +kernel
theorem dX6_init_27 : decode cX6_init 27 = .ok (.return_, 1) := by decide +kernel
theorem dX6_restart_0 : decode cX6_restart 0 = .ok (.aload_n 0, 1) := by decide +kernel
theorem dX6_restart_1 : decode cX6_restart 1 = .ok (.iload_n 1, 1) := by decide +kernel
theorem dX6_restart_2 : decode cX6_restart 2 = .ok (.aload_n 0, 1) := by decide +kernel
theorem dX6_restart_3 : decode cX6_restart 3 = .ok (.getfield 25, 3) := by decide +kernel
theorem dX6_restart_6 : decode cX6_restart 6 = .ok (.arraylength, 1) := by decide +kernel
theorem dX6_restart_7 : decode cX6_restart 7 = .ok (.invokestatic 29, 3) := by decide +kernel
theorem dX6_restart_10 : decode cX6_restart 10 = .ok (.putfield 35, 3) := by decide +kernel
theorem dX6_restart_13 : decode cX6_restart 13 = .ok (.aload_n 0, 1) := by decide +kernel
theorem dX6_restart_14 : decode cX6_restart 14 = .ok (.getstatic 39, 3) := by decide +kernel
theorem dX6_restart_17 : decode cX6_restart 17 = .ok (.putfield 22, 3) := by decide +kernel
theorem dX6_restart_20 : decode cX6_restart 20 = .ok (.aload_n 0, 1) := by decide +kernel
theorem dX6_restart_21 : decode cX6_restart 21 = .ok (.iconst 0, 1) := by decide +kernel
theorem dX6_restart_22 : decode cX6_restart 22 = .ok (.putfield 42, 3) := by decide +kernel
theorem dX6_restart_25 : decode cX6_restart 25 = .ok (.aload_n 0, 1) := by decide +kernel
theorem dX6_restart_26 : decode cX6_restart 26 = .ok (.invokevirtual 45, 3) := by decide +kernel
theorem dX6_restart_29 : decode cX6_restart 29 = .ok (.return_, 1) := by decide +kernel
theorem dX6_step_0 : decode cX6_step 0 = .ok (.aload_n 0, 1) := by decide +kernel
theorem dX6_step_1 : decode cX6_step 1 = .ok (.getfield 22, 3) := by decide +kernel
theorem dX6_step_4 : decode cX6_step 4 = .ok (.getstatic 48, 3) := by decide +kernel
theorem dX6_step_7 : decode cX6_step 7 = .ok (.if_acmp .eq 17, 3) := by decide +kernel
theorem dX6_step_10 : decode cX6_step 10 = .ok (.aload_n 0, 1) := by decide +kernel
theorem dX6_step_11 : decode cX6_step 11 = .ok (.getfield 22, 3) := by decide +kernel
theorem dX6_step_14 : decode cX6_step 14 = .ok (.getstatic 51, 3) := by decide +kernel
theorem dX6_step_17 : decode cX6_step 17 = .ok (.if_acmp .eq 7, 3) := by decide +kernel
theorem dX6_step_20 : decode cX6_step 20 = .ok (.iconst 1, 1) := by decide +kernel
theorem dX6_step_21 : decode cX6_step 21 = .ok (.goto 4, 3) := by decide +kernel
theorem dX6_step_24 : decode cX6_step 24 = .ok (.iconst 0, 1) := by decide +kernel
theorem dX6_step_25 : decode cX6_step 25 = .ok (.istore_n 1, 1) := by decide +kernel
theorem dX6_step_26 : decode cX6_step 26 = .ok (.aload_n 0, 1) := by decide +kernel
theorem dX6_step_27 : decode cX6_step 27 = .ok (.aload_n 0, 1) := by decide +kernel
theorem dX6_step_28 : decode cX6_step 28 = .ok (.getfield 42, 3) := by decide +kernel
theorem dX6_step_31 : decode cX6_step 31 = .ok (.putfield 54, 3) := by decide +kernel
theorem dX6_step_34 : decode cX6_step 34 = .ok (.aload_n 0, 1) := by decide +kernel
theorem dX6_step_35 : decode cX6_step 35 = .ok (.getfield 54, 3) := by decide +kernel
theorem dX6_step_38 : decode cX6_step 38 = .ok (.aload_n 0, 1) := by decide +kernel
theorem dX6_step_39 : decode cX6_step 39 = .ok (.getfield 35, 3) := by decide +kernel
theorem dX6_step_42 : decode cX6_step 42 = .ok (.if_icmp .ge 44, 3) := by decide +kernel
theorem dX6_step_45 : decode cX6_step 45 = .ok (.aload_n 0, 1) := by decide +kernel
theorem dX6_step_46 : decode cX6_step 46 = .ok (.getfield 25, 3) := by decide +kernel
theorem dX6_step_49 : decode cX6_step 49 = .ok (.aload_n 0, 1) := by decide +kernel
theorem dX6_step_50 : decode cX6_step 50 = .ok (.getfield 54, 3) := by decide +kernel
theorem dX6_step_53 : decode cX6_step 53 = .ok (.baload, 1) := by decide +kernel
theorem dX6_step_54 : decode cX6_step 54 = .ok (.bipush 32, 2) := by decide +kernel
theorem dX6_step_56 : decode cX6_step 56 = .ok (.if_icmp .eq 17, 3) := by decide +kernel
theorem dX6_step_59 : decode cX6_step 59 = .ok (.aload_n 0, 1) := by decide +kernel
theorem dX6_step_60 : decode cX6_step 60 = .ok (.getfield 25, 3) := by decide +kernel
theorem dX6_step_63 : decode cX6_step 63 = .ok (.aload_n 0, 1) := by decide +kernel
theorem dX6_step_64 : decode cX6_step 64 = .ok (.getfield 54, 3) := by decide +kernel
theorem dX6_step_67 : decode cX6_step 67 = .ok (.baload, 1) := by decide +kernel
theorem dX6_step_68 : decode cX6_step 68 = .ok (.bipush 10, 2) := by decide +kernel
theorem dX6_step_70 : decode cX6_step 70 = .ok (.if_icmp .ne 16, 3) := by decide +kernel
theorem dX6_step_73 : decode cX6_step 73 = .ok (.aload_n 0, 1) := by decide +kernel
theorem dX6_step_74 : decode cX6_step 74 = .ok (.dup, 1) := by decide +kernel
theorem dX6_step_75 : decode cX6_step 75 = .ok (.getfield 54, 3) := by decide +kernel
theorem dX6_step_78 : decode cX6_step 78 = .ok (.iconst 1, 1) := by decide +kernel
theorem dX6_step_79 : decode cX6_step 79 = .ok (.iadd, 1) := by decide +kernel
theorem dX6_step_80 : decode cX6_step 80 = .ok (.putfield 54, 3) := by decide +kernel
theorem dX6_step_83 : decode cX6_step 83 = .ok (.goto (-49), 3) := by decide +kernel
theorem dX6_step_86 : decode cX6_step 86 = .ok (.aload_n 0, 1) := by decide +kernel
theorem dX6_step_87 : decode cX6_step 87 = .ok (.getfield 54, 3) := by decide +kernel
theorem dX6_step_90 : decode cX6_step 90 = .ok (.aload_n 0, 1) := by decide +kernel
theorem dX6_step_91 : decode cX6_step 91 = .ok (.getfield 42, 3) := by decide +kernel
theorem dX6_step_94 : decode cX6_step 94 = .ok (.if_icmp .ne 7, 3) := by decide +kernel
theorem dX6_step_97 : decode cX6_step 97 = .ok (.iconst 1, 1) := by decide +kernel
theorem dX6_step_98 : decode cX6_step 98 = .ok (.goto 4, 3) := by decide +kernel
theorem dX6_step_101 : decode cX6_step 101 = .ok (.iconst 0, 1) := by decide +kernel
theorem dX6_step_102 : decode cX6_step 102 = .ok (.istore_n 2, 1) := by decide +kernel
theorem dX6_step_103 : decode cX6_step 103 = .ok (.aload_n 0, 1) := by decide +kernel
theorem dX6_step_104 : decode cX6_step 104 = .ok (.aload_n 0, 1) := by decide +kernel
theorem dX6_step_105 : decode cX6_step 105 = .ok (.getfield 54, 3) := by decide +kernel
theorem dX6_step_108 : decode cX6_step 108 = .ok (.putfield 42, 3) := by decide +kernel
theorem dX6_step_111 : decode cX6_step 111 = .ok (.aload_n 0, 1) := by decide +kernel
theorem dX6_step_112 : decode cX6_step 112 = .ok (.getfield 54, 3) := by decide +kernel
theorem dX6_step_115 : decode cX6_step 115 = .ok (.aload_n 0, 1) := by decide +kernel
theorem dX6_step_116 : decode cX6_step 116 = .ok (.getfield 35, 3) := by decide +kernel
theorem dX6_step_119 : decode cX6_step 119 = .ok (.if_icmp .lt 13, 3) := by decide +kernel
theorem dX6_step_122 : decode cX6_step 122 = .ok (.aload_n 0, 1) := by decide +kernel
theorem dX6_step_123 : decode cX6_step 123 = .ok (.getstatic 16, 3) := by decide +kernel
theorem dX6_step_126 : decode cX6_step 126 = .ok (.putfield 22, 3) := by decide +kernel
theorem dX6_step_129 : decode cX6_step 129 = .ok (.goto 190, 3) := by decide +kernel
theorem dX6_step_132 : decode cX6_step 132 = .ok (.aload_n 0, 1) := by decide +kernel
theorem dX6_step_133 : decode cX6_step 133 = .ok (.getfield 25, 3) := by decide +kernel
theorem dX6_step_136 : decode cX6_step 136 = .ok (.aload_n 0, 1) := by decide +kernel
theorem dX6_step_137 : decode cX6_step 137 = .ok (.getfield 54, 3) := by decide +kernel
theorem dX6_step_140 : decode cX6_step 140 = .ok (.baload, 1) := by decide +kernel
theorem dX6_step_141 : decode cX6_step 141 = .ok (.invokestatic 57, 3) := by decide +kernel
theorem dX6_step_144 : decode cX6_step 144 = .ok (.ifCond .eq 63, 3) := by decide +kernel
theorem dX6_step_147 : decode cX6_step 147 = .ok (.aload_n 0, 1) := by decide +kernel
theorem dX6_step_148 : decode cX6_step 148 = .ok (.iload_n 2, 1) := by decide +kernel
theorem dX6_step_149 : decode cX6_step 149 = .ok (.ifCond .eq 13, 3) := by decide +kernel
theorem dX6_step_152 : decode cX6_step 152 = .ok (.iload_n 1, 1) := by decide +kernel
theorem dX6_step_153 : decode cX6_step 153 = .ok (.ifCond .ne 9, 3) := by decide +kernel
theorem dX6_step_156 : decode cX6_step 156 = .ok (.getstatic 61, 3) := by decide +kernel
theorem dX6_step_159 : decode cX6_step 159 = .ok (.goto 6, 3) := by decide +kernel
theorem dX6_step_162 : decode cX6_step 162 = .ok (.getstatic 48, 3) := by decide +kernel
theorem dX6_step_165 : decode cX6_step 165 = .ok (.putfield 22, 3) := by decide +kernel
theorem dX6_step_168 : decode cX6_step 168 = .ok (.aload_n 0, 1) := by decide +kernel
theorem dX6_step_169 : decode cX6_step 169 = .ok (.getfield 42, 3) := by decide +kernel
theorem dX6_step_172 : decode cX6_step 172 = .ok (.aload_n 0, 1) := by decide +kernel
theorem dX6_step_173 : decode cX6_step 173 = .ok (.getfield 35, 3) := by decide +kernel
theorem dX6_step_176 : decode cX6_step 176 = .ok (.if_icmp .ge 143, 3) := by decide +kernel
theorem dX6_step_179 : decode cX6_step 179 = .ok (.aload_n 0, 1) := by decide +kernel
theorem dX6_step_180 : decode cX6_step 180 = .ok (.getfield 25, 3) := by decide +kernel
theorem dX6_step_183 : decode cX6_step 183 = .ok (.aload_n 0, 1) := by decide +kernel
theorem dX6_step_184 : decode cX6_step 184 = .ok (.getfield 42, 3) := by decide +kernel
theorem dX6_step_187 : decode cX6_step 187 = .ok (.baload, 1) := by decide +kernel
theorem dX6_step_188 : decode cX6_step 188 = .ok (.invokestatic 57, 3) := by decide +kernel
theorem dX6_step_191 : decode cX6_step 191 = .ok (.ifCond .eq 128, 3) := by decide +kernel
theorem dX6_step_194 : decode cX6_step 194 = .ok (.aload_n 0, 1) := by decide +kernel
theorem dX6_step_195 : decode cX6_step 195 = .ok (.dup, 1) := by decide +kernel
theorem dX6_step_196 : decode cX6_step 196 = .ok (.getfield 42, 3) := by decide +kernel
theorem dX6_step_199 : decode cX6_step 199 = .ok (.iconst 1, 1) := by decide +kernel
theorem dX6_step_200 : decode cX6_step 200 = .ok (.iadd, 1) := by decide +kernel
theorem dX6_step_201 : decode cX6_step 201 = .ok (.putfield 42, 3) := by decide +kernel
theorem dX6_step_204 : decode cX6_step 204 = .ok (.goto (-36), 3) := by decide +kernel
theorem dX6_step_207 : decode cX6_step 207 = .ok (.aload_n 0, 1) := by decide +kernel
theorem dX6_step_208 : decode cX6_step 208 = .ok (.getfield 25, 3) := by decide +kernel
theorem dX6_step_211 : decode cX6_step 211 = .ok (.aload_n 0, 1) := by decide +kernel
theorem dX6_step_212 : decode cX6_step 212 = .ok (.getfield 54, 3) := by decide +kernel
theorem dX6_step_215 : decode cX6_step 215 = .ok (.baload, 1) := by decide +kernel
theorem dX6_step_216 : decode cX6_step 216 = .ok (.invokestatic 64, 3) := by decide +kernel
theorem dX6_step_219 : decode cX6_step 219 = .ok (.ifCond .eq 63, 3) := by decide +kernel
theorem dX6_step_222 : decode cX6_step 222 = .ok (.aload_n 0, 1) := by decide +kernel
theorem dX6_step_223 : decode cX6_step 223 = .ok (.iload_n 2, 1) := by decide +kernel
theorem dX6_step_224 : decode cX6_step 224 = .ok (.ifCond .eq 13, 3) := by decide +kernel
theorem dX6_step_227 : decode cX6_step 227 = .ok (.iload_n 1, 1) := by decide +kernel
theorem dX6_step_228 : decode cX6_step 228 = .ok (.ifCond .ne 9, 3) := by decide +kernel
theorem dX6_step_231 : decode cX6_step 231 = .ok (.getstatic 61, 3) := by decide +kernel
theorem dX6_step_234 : decode cX6_step 234 = .ok (.goto 6, 3) := by decide +kernel
theorem dX6_step_237 : decode cX6_step 237 = .ok (.getstatic 51, 3) := by decide +kernel
theorem dX6_step_240 : decode cX6_step 240 = .ok (.putfield 22, 3) := by decide +kernel
theorem dX6_step_243 : decode cX6_step 243 = .ok (.aload_n 0, 1) := by decide +kernel
theorem dX6_step_244 : decode cX6_step 244 = .ok (.getfield 42, 3) := by decide +kernel
theorem dX6_step_247 : decode cX6_step 247 = .ok (.aload_n 0, 1) := by decide +kernel
theorem dX6_step_248 : decode cX6_step 248 = .ok (.getfield 35, 3) := by decide +kernel
theorem dX6_step_251 : decode cX6_step 251 = .ok (.if_icmp .ge 68, 3) := by decide +kernel
theorem dX6_step_254 : decode cX6_step 254 = .ok (.aload_n 0, 1) := by decide +kernel
theorem dX6_step_255 : decode cX6_step 255 = .ok (.getfield 25, 3) := by decide +kernel
theorem dX6_step_258 : decode cX6_step 258 = .ok (.aload_n 0, 1) := by decide +kernel
theorem dX6_step_259 : decode cX6_step 259 = .ok (.getfield 42, 3) := by decide +kernel
theorem dX6_step_262 : decode cX6_step 262 = .ok (.baload, 1) := by decide +kernel
theorem dX6_step_263 : decode cX6_step 263 = .ok (.invokestatic 64, 3) := by decide +kernel
theorem dX6_step_266 : decode cX6_step 266 = .ok (.ifCond .eq 53, 3) := by decide +kernel
theorem dX6_step_269 : decode cX6_step 269 = .ok (.aload_n 0, 1) := by decide +kernel
theorem dX6_step_270 : decode cX6_step 270 = .ok (.dup, 1) := by decide +kernel
theorem dX6_step_271 : decode cX6_step 271 = .ok (.getfield 42, 3) := by decide +kernel
theorem dX6_step_274 : decode cX6_step 274 = .ok (.iconst 1, 1) := by decide +kernel
theorem dX6_step_275 : decode cX6_step 275 = .ok (.iadd, 1) := by decide +kernel
theorem dX6_step_276 : decode cX6_step 276 = .ok (.putfield 42, 3) := by decide +kernel
theorem dX6_step_279 : decode cX6_step 279 = .ok (.goto (-36), 3) := by decide +kernel
theorem dX6_step_282 : decode cX6_step 282 = .ok (.aload_n 0, 1) := by decide +kernel
theorem dX6_step_283 : decode cX6_step 283 = .ok (.aload_n 0, 1) := by decide +kernel
theorem dX6_step_284 : decode cX6_step 284 = .ok (.getfield 25, 3) := by decide +kernel
theorem dX6_step_287 : decode cX6_step 287 = .ok (.aload_n 0, 1) := by decide +kernel
theorem dX6_step_288 : decode cX6_step 288 = .ok (.getfield 54, 3) := by decide +kernel
theorem dX6_step_291 : decode cX6_step 291 = .ok (.baload, 1) := by decide +kernel
theorem dX6_step_292 : decode cX6_step 292 = .ok (.bipush 59, 2) := by decide +kernel
theorem dX6_step_294 : decode cX6_step 294 = .ok (.if_icmp .ne 9, 3) := by decide +kernel
theorem dX6_step_297 : decode cX6_step 297 = .ok (.getstatic 39, 3) := by decide +kernel
theorem dX6_step_300 : decode cX6_step 300 = .ok (.goto 6, 3) := by decide +kernel
theorem dX6_step_303 : decode cX6_step 303 = .ok (.getstatic 61, 3) := by decide +kernel
theorem dX6_step_306 : decode cX6_step 306 = .ok (.putfield 22, 3) := by decide +kernel
theorem dX6_step_309 : decode cX6_step 309 = .ok (.aload_n 0, 1) := by decide +kernel
theorem dX6_step_310 : decode cX6_step 310 = .ok (.dup, 1) := by decide +kernel
theorem dX6_step_311 : decode cX6_step 311 = .ok (.getfield 42, 3) := by decide +kernel
theorem dX6_step_314 : decode cX6_step 314 = .ok (.iconst 1, 1) := by decide +kernel
theorem dX6_step_315 : decode cX6_step 315 = .ok (.iadd, 1) := by decide +kernel
theorem dX6_step_316 : decode cX6_step 316 = .ok (.putfield 42, 3) := by decide +kernel
theorem dX6_step_319 : decode cX6_step 319 = .ok (.return_, 1) := by decide +kernel
theorem dX6_isLetter_0 : decode cX6_isLetter 0 = .ok (.iload_n 0, 1) := by decide +kernel
theorem dX6_isLetter_1 : decode cX6_isLetter 1 = .ok (.bipush 97, 2) := by decide +kernel
theorem dX6_isLetter_3 : decode cX6_isLetter 3 = .ok (.if_icmp .lt 13, 3) := by decide +kernel
theorem dX6_isLetter_6 : decode cX6_isLetter 6 = .ok (.iload_n 0, 1) := by decide +kernel
theorem dX6_isLetter_7 : decode cX6_isLetter 7 = .ok (.bipush 122, 2) := by decide +kernel
theorem dX6_isLetter_9 : decode cX6_isLetter 9 = .ok (.if_icmp .gt 7, 3) := by decide +kernel
theorem dX6_isLetter_12 : decode cX6_isLetter 12 = .ok (.iconst 1, 1) := by decide +kernel
theorem dX6_isLetter_13 : decode cX6_isLetter 13 = .ok (.goto 4, 3) := by decide +kernel
theorem dX6_isLetter_16 : decode cX6_isLetter 16 = .ok (.iconst 0, 1) := by decide +kernel
theorem dX6_isLetter_17 : decode cX6_isLetter 17 = .ok (.ireturn, 1) := by decide +kernel
theorem dX6_isDigit_0 : decode cX6_isDigit 0 = .ok (.iload_n 0, 1) := by decide +kernel
theorem dX6_isDigit_1 : decode cX6_isDigit 1 = .ok (.bipush 48, 2) := by decide +kernel
theorem dX6_isDigit_3 : decode cX6_isDigit 3 = .ok (.if_icmp .lt 13, 3) := by decide +kernel
theorem dX6_isDigit_6 : decode cX6_isDigit 6 = .ok (.iload_n 0, 1) := by decide +kernel
theorem dX6_isDigit_7 : decode cX6_isDigit 7 = .ok (.bipush 57, 2) := by decide +kernel
theorem dX6_isDigit_9 : decode cX6_isDigit 9 = .ok (.if_icmp .gt 7, 3) := by decide +kernel
theorem dX6_isDigit_12 : decode cX6_isDigit 12 = .ok (.iconst 1, 1) := by decide +kernel
theorem dX6_isDigit_13 : decode cX6_isDigit 13 = .ok (.goto 4, 3) := by decide +kernel
theorem dX6_isDigit_16 : decode cX6_isDigit 16 = .ok (.iconst 0, 1) := by decide +kernel
theorem dX6_isDigit_17 : decode cX6_isDigit 17 = .ok (.ireturn, 1) := by decide +kernel
theorem dX6_size_0 : decode cX6_size 0 = .ok (.aload_n 0, 1) := by decide +kernel
theorem dX6_size_1 : decode cX6_size 1 = .ok (.getfield 42, 3) := by decide +kernel
theorem dX6_size_4 : decode cX6_size 4 = .ok (.aload_n 0, 1) := by decide +kernel
theorem dX6_size_5 : decode cX6_size 5 = .ok (.getfield 54, 3) := by decide +kernel
theorem dX6_size_8 : decode cX6_size 8 = .ok (.isub, 1) := by decide +kernel
theorem dX6_size_9 : decode cX6_size 9 = .ok (.ireturn, 1) := by decide +kernel
theorem dX6_isWord_0 : decode cX6_isWord 0 = .ok (.aload_n 0, 1) := by decide +kernel
theorem dX6_isWord_1 : decode cX6_isWord 1 = .ok (.getfield 22, 3) := by decide +kernel
theorem dX6_isWord_4 : decode cX6_isWord 4 = .ok (.getstatic 48, 3) := by decide +kernel
theorem dX6_isWord_7 : decode cX6_isWord 7 = .ok (.if_acmp .ne 14, 3) := by decide +kernel
theorem dX6_isWord_10 : decode cX6_isWord 10 = .ok (.aload_n 0, 1) := by decide +kernel
theorem dX6_isWord_11 : decode cX6_isWord 11 = .ok (.invokevirtual 67, 3) := by decide +kernel
theorem dX6_isWord_14 : decode cX6_isWord 14 = .ok (.aload_n 1, 1) := by decide +kernel
theorem dX6_isWord_15 : decode cX6_isWord 15 = .ok (.invokevirtual 71, 3) := by decide +kernel
theorem dX6_isWord_18 : decode cX6_isWord 18 = .ok (.if_icmp .eq 5, 3) := by decide +kernel
theorem dX6_isWord_21 : decode cX6_isWord 21 = .ok (.iconst 0, 1) := by decide +kernel
theorem dX6_isWord_22 : decode cX6_isWord 22 = .ok (.ireturn, 1) := by decide +kernel
theorem dX6_isWord_23 : decode cX6_isWord 23 = .ok (.iconst 0, 1) := by decide +kernel
theorem dX6_isWord_24 : decode cX6_isWord 24 = .ok (.istore_n 2, 1) := by decide +kernel
theorem dX6_isWord_25 : decode cX6_isWord 25 = .ok (.iload_n 2, 1) := by decide +kernel
theorem dX6_isWord_26 : decode cX6_isWord 26 = .ok (.aload_n 1, 1) := by decide +kernel
theorem dX6_isWord_27 : decode cX6_isWord 27 = .ok (.invokevirtual 71, 3) := by decide +kernel
theorem dX6_isWord_30 : decode cX6_isWord 30 = .ok (.if_icmp .ge 30, 3) := by decide +kernel
theorem dX6_isWord_33 : decode cX6_isWord 33 = .ok (.aload_n 0, 1) := by decide +kernel
theorem dX6_isWord_34 : decode cX6_isWord 34 = .ok (.getfield 25, 3) := by decide +kernel
theorem dX6_isWord_37 : decode cX6_isWord 37 = .ok (.aload_n 0, 1) := by decide +kernel
theorem dX6_isWord_38 : decode cX6_isWord 38 = .ok (.getfield 54, 3) := by decide +kernel
theorem dX6_isWord_41 : decode cX6_isWord 41 = .ok (.iload_n 2, 1) := by decide +kernel
theorem dX6_isWord_42 : decode cX6_isWord 42 = .ok (.iadd, 1) := by decide +kernel
theorem dX6_isWord_43 : decode cX6_isWord 43 = .ok (.baload, 1) := by decide +kernel
theorem dX6_isWord_44 : decode cX6_isWord 44 = .ok (.aload_n 1, 1) := by decide +kernel
theorem dX6_isWord_45 : decode cX6_isWord 45 = .ok (.iload_n 2, 1) := by decide +kernel
theorem dX6_isWord_46 : decode cX6_isWord 46 = .ok (.invokevirtual 75, 3) := by decide +kernel
theorem dX6_isWord_49 : decode cX6_isWord 49 = .ok (.if_icmp .eq 5, 3) := by decide +kernel
theorem dX6_isWord_52 : decode cX6_isWord 52 = .ok (.iconst 0, 1) := by decide +kernel
theorem dX6_isWord_53 : decode cX6_isWord 53 = .ok (.ireturn, 1) := by decide +kernel
theorem dX6_isWord_54 : decode cX6_isWord 54 = .ok (.iinc 2 1, 3) := by decide +kernel
theorem dX6_isWord_57 : decode cX6_isWord 57 = .ok (.goto (-32), 3) := by decide +kernel
theorem dX6_isWord_60 : decode cX6_isWord 60 = .ok (.iconst 1, 1) := by decide +kernel
theorem dX6_isWord_61 : decode cX6_isWord 61 = .ok (.ireturn, 1) := by decide +kernel
theorem dX6_value_0 : decode cX6_value 0 = .ok (.iconst 0, 1) := by decide +kernel
theorem dX6_value_1 : decode cX6_value 1 = .ok (.istore_n 1, 1) := by decide +kernel
theorem dX6_value_2 : decode cX6_value 2 = .ok (.aload_n 0, 1) := by decide +kernel
theorem dX6_value_3 : decode cX6_value 3 = .ok (.getfield 54, 3) := by decide +kernel
theorem dX6_value_6 : decode cX6_value 6 = .ok (.istore_n 2, 1) := by decide +kernel
theorem dX6_value_7 : decode cX6_value 7 = .ok (.iload_n 2, 1) := by decide +kernel
theorem dX6_value_8 : decode cX6_value 8 = .ok (.aload_n 0, 1) := by decide +kernel
theorem dX6_value_9 : decode cX6_value 9 = .ok (.getfield 42, 3) := by decide +kernel
theorem dX6_value_12 : decode cX6_value 12 = .ok (.if_icmp .ge 24, 3) := by decide +kernel
theorem dX6_value_15 : decode cX6_value 15 = .ok (.iload_n 1, 1) := by decide +kernel
theorem dX6_value_16 : decode cX6_value 16 = .ok (.bipush 10, 2) := by decide +kernel
theorem dX6_value_18 : decode cX6_value 18 = .ok (.imul, 1) := by decide +kernel
theorem dX6_value_19 : decode cX6_value 19 = .ok (.aload_n 0, 1) := by decide +kernel
theorem dX6_value_20 : decode cX6_value 20 = .ok (.getfield 25, 3) := by decide +kernel
theorem dX6_value_23 : decode cX6_value 23 = .ok (.iload_n 2, 1) := by decide +kernel
theorem dX6_value_24 : decode cX6_value 24 = .ok (.baload, 1) := by decide +kernel
theorem dX6_value_25 : decode cX6_value 25 = .ok (.bipush 48, 2) := by decide +kernel
theorem dX6_value_27 : decode cX6_value 27 = .ok (.isub, 1) := by decide +kernel
theorem dX6_value_28 : decode cX6_value 28 = .ok (.iadd, 1) := by decide +kernel
theorem dX6_value_29 : decode cX6_value 29 = .ok (.istore_n 1, 1) := by decide +kernel
theorem dX6_value_30 : decode cX6_value 30 = .ok (.iinc 2 1, 3) := by decide +kernel
theorem dX6_value_33 : decode cX6_value 33 = .ok (.goto (-26), 3) := by decide +kernel
theorem dX6_value_36 : decode cX6_value 36 = .ok (.iload_n 1, 1) := by decide +kernel
theorem dX6_value_37 : decode cX6_value 37 = .ok (.ireturn, 1) := by decide +kernel
theorem dX6_word_0 : decode cX6_word 0 = .ok (.aload_n 0, 1) := by decide +kernel
theorem dX6_word_1 : decode cX6_word 1 = .ok (.getfield 10, 3) := by decide +kernel
theorem dX6_word_4 : decode cX6_word 4 = .ok (.iconst 0, 1) := by decide +kernel
theorem dX6_word_5 : decode cX6_word 5 = .ok (.invokevirtual 79, 3) := by decide +kernel
theorem dX6_word_8 : decode cX6_word 8 = .ok (.aload_n 0, 1) := by decide +kernel
theorem dX6_word_9 : decode cX6_word 9 = .ok (.getfield 54, 3) := by decide +kernel
theorem dX6_word_12 : decode cX6_word 12 = .ok (.istore_n 1, 1) := by decide +kernel
theorem dX6_word_13 : decode cX6_word 13 = .ok (.iload_n 1, 1) := by decide +kernel
theorem dX6_word_14 : decode cX6_word 14 = .ok (.aload_n 0, 1) := by decide +kernel
theorem dX6_word_15 : decode cX6_word 15 = .ok (.getfield 42, 3) := by decide +kernel
theorem dX6_word_18 : decode cX6_word 18 = .ok (.if_icmp .ge 28, 3) := by decide +kernel
theorem dX6_word_21 : decode cX6_word 21 = .ok (.aload_n 0, 1) := by decide +kernel
theorem dX6_word_22 : decode cX6_word 22 = .ok (.getfield 10, 3) := by decide +kernel
theorem dX6_word_25 : decode cX6_word 25 = .ok (.aload_n 0, 1) := by decide +kernel
theorem dX6_word_26 : decode cX6_word 26 = .ok (.getfield 25, 3) := by decide +kernel
theorem dX6_word_29 : decode cX6_word 29 = .ok (.iload_n 1, 1) := by decide +kernel
theorem dX6_word_30 : decode cX6_word 30 = .ok (.baload, 1) := by decide +kernel
theorem dX6_word_31 : decode cX6_word 31 = .ok (.sipush 255, 3) := by decide +kernel
theorem dX6_word_34 : decode cX6_word 34 = .ok (.iand, 1) := by decide +kernel
theorem dX6_word_35 : decode cX6_word 35 = .ok (.i2c, 1) := by decide +kernel
theorem dX6_word_36 : decode cX6_word 36 = .ok (.invokevirtual 83, 3) := by decide +kernel
theorem dX6_word_39 : decode cX6_word 39 = .ok (.pop, 1) := by decide +kernel
theorem dX6_word_40 : decode cX6_word 40 = .ok (.iinc 1 1, 3) := by decide +kernel
theorem dX6_word_43 : decode cX6_word 43 = .ok (.goto (-30), 3) := by decide +kernel
theorem dX6_word_46 : decode cX6_word 46 = .ok (.aload_n 0, 1) := by decide +kernel
theorem dX6_word_47 : decode cX6_word 47 = .ok (.getfield 10, 3) := by decide +kernel
theorem dX6_word_50 : decode cX6_word 50 = .ok (.invokevirtual 87, 3) := by decide +kernel
theorem dX6_word_53 : decode cX6_word 53 = .ok (.areturn, 1) := by decide +kernel
theorem dX7_init_0 : decode cX7_init 0 = .ok (.aload_n 0, 1) := by decide +kernel
theorem dX7_init_1 : decode cX7_init 1 = .ok (.invokespecial 1, 3) := by decide +kernel
theorem dX7_init_4 : decode cX7_init 4 = .ok (.aload_n 0, 1) := by decide +kernel
theorem dX7_init_5 : decode cX7_init 5 = .ok (.sipush 600, 3) := by decide +kernel
theorem dX7_init_8 : decode cX7_init 8 = .ok (.newarray .byte, 2) := by decide +kernel
theorem dX7_init_10 : decode cX7_init 10 = .ok (.putfield 9, 3) := by decide +kernel
theorem dX7_init_13 : decode cX7_init 13 = .ok (.aload_n 0, 1) := by decide +kernel
theorem dX7_init_14 : decode cX7_init 14 = .ok (.new 13, 3) := by decide +kernel
theorem dX7_init_17 : decode cX7_init 17 = .ok (.dup, 1) := by decide +kernel
theorem dX7_init_18 : decode cX7_init 18 = .ok (.invokespecial 15, 3) := by decide +kernel
theorem dX7_init_21 : decode cX7_init 21 = .ok (.putfield 16, 3) := by decide +kernel
theorem dX7_init_24 : decode cX7_init 24 = .ok (.aload_n 0, 1) := by decide +kernel
theorem dX7_init_25 : decode cX7_init 25 = .ok (.new 20, 3) := by decide +kernel
theorem dX7_init_28 : decode cX7_init 28 = .ok (.dup, 1) := by decide +kernel
theorem dX7_init_29 : decode cX7_init 29 = .ok (.aload_n 0, 1) := by decide +kernel
theorem dX7_init_30 : decode cX7_init 30 = .ok (.getfield 9, 3) := by decide +kernel
theorem dX7_init_33 : decode cX7_init 33 = .ok (.invokespecial 22, 3) := by decide +kernel
theorem dX7_init_36 : decode cX7_init 36 = .ok (.putfield 25, 3) := by decide +kernel
theorem dX7_init_39 : decode cX7_init 39 = .ok (.aload_n 0, 1) := by decide +kernel
theorem dX7_init_40 : decode cX7_init 40 = .ok (.iconst (-1), 1) := by decide +kernel
theorem dX7_init_41 : decode cX7_init 41 = .ok (.putfield 29, 3) := by decide +kernel
theorem dX7_init_44 : decode cX7_init 44 = .ok (.aload_n 0, 1) := by decide +kernel
theorem dX7_init_45 : decode cX7_init 45 = .ok (.new 33, 3) := by decide +kernel
theorem dX7_init_48 : decode cX7_init 48 = .ok (.dup, 1) := by decide +kernel
theorem dX7_init_49 : decode cX7_init 49 = .ok (.invokespecial 35, 3) := by decide +kernel
theorem dX7_init_52 : decode cX7_init 52 = .ok (.putfield 36, 3) := by decide +kernel
theorem dX7_init_55 : decode cX7_init 55 = .ok (.aload_n 0, 1) := by decide +kernel
theorem dX7_init_56 : decode cX7_init 56 = .ok (.new 33, 3) := by decide +kernel
theorem dX7_init_59 : decode cX7_init 59 = .ok (.dup, 1) := by decide +kernel
theorem dX7_init_60 : decode cX7_init 60 = .ok (.invokespecial 35, 3) := by decide +kernel
theorem dX7_init_63 : decode cX7_init 63 = .ok (.putfield 40, 3) := by decide +kernel
theorem dX7_init_66 : decode cX7_init 66 = .ok (.aload_n 0, 1) := by decide +kernel
theorem dX7_init_67 : decode cX7_init 67 = .ok (.new 43, 3) := by decide +kernel
theorem dX7_init_70 : decode cX7_init 70 = .ok (.dup, 1) := by decide +kernel
theorem dX7_init_71 : decode cX7_init 71 = .ok (.invokespecial 45, 3) := by decide +kernel
theorem dX7_init_74 : decode cX7_init 74 = .ok (.putfield 46, 3) := by decide +kernel
theorem dX7_init_77 : decode cX7_init 77 = .ok (.aload_n 0, 1) := by decide +kernel
theorem dX7_init_78 : decode cX7_init 78 = .ok (.iconst 2, 1) := by decide +kernel
theorem dX7_init_79 : decode cX7_init 79 = .ok (.anewarray 33, 3) := by decide +kernel
theorem dX7_init_82 : decode cX7_init 82 = .ok (.putfield 50, 3) := by decide +kernel
theorem dX7_init_85 : decode cX7_init 85 = .ok (.aload_n 0, 1) := by decide +kernel
theorem dX7_init_86 : decode cX7_init 86 = .ok (.iconst 2, 1) := by decide +kernel
theorem dX7_init_87 : decode cX7_init 87 = .ok (.newarray .boolean, 2) := by decide +kernel
theorem dX7_init_89 : decode cX7_init 89 = .ok (.putfield 54, 3) := by decide +kernel
theorem dX7_init_92 : decode cX7_init 92 = .ok (.iconst 0, 1) := by decide +kernel
theorem dX7_init_93 : decode cX7_init 93 = .ok (.istore_n 1, 1) := by decide +kernel
theorem dX7_init_94 : decode cX7_init 94 = .ok (.iload_n 1, 1) := by decide +kernel
theorem dX7_init_95 : decode cX7_init 95 = .ok (.iconst 2, 1) := by decide +kernel
theorem dX7_init_96 : decode cX7_init 96 = .ok (.if_icmp .ge 22, 3) := by decide +kernel
theorem dX7_init_99 : decode cX7_init 99 = .ok (.aload_n 0, 1) := by decide +kernel
theorem dX7_init_100 : decode cX7_init 100 = .ok (.getfield 50, 3) := by decide +kernel
theorem dX7_init_103 : decode cX7_init 103 = .ok (.iload_n 1, 1) := by decide +kernel
theorem dX7_init_104 : decode cX7_init 104 = .ok (.new 33, 3) := by decide +kernel
theorem dX7_init_107 : decode cX7_init 107 = .ok (.dup, 1) := by decide +kernel
theorem dX7_init_108 : decode cX7_init 108 = .ok (.invokespecial 35, 3) := by decide +kernel
theorem dX7_init_111 : decode cX7_init 111 = .ok (.aastore, 1) := by decide +kernel
theorem dX7_init_112 : decode cX7_init 112 = .ok (.iinc 1 1, 3) := by decide +kernel
theorem dX7_init_115 : decode cX7_init 115 = .ok (.goto (-21), 3) := by decide +kernel
theorem dX7_init_118 : decode cX7_init 118 = .ok (.iconst 0, 1) := by decide +kernel
theorem dX7_init_119 : decode cX7_init 119 = .ok (.istore_n 1, 1) := by decide +kernel
theorem dX7_init_120 : decode cX7_init 120 = .ok (.iload_n 1, 1) := by decide +kernel
theorem dX7_init_121 : decode cX7_init 121 = .ok (.ldc 58, 2) := by decide +kernel
theorem dX7_init_123 : decode cX7_init 123 = .ok (.invokevirtual 60, 3) := by decide +kernel
theorem dX7_init_126 : decode cX7_init 126 = .ok (.if_icmp .ge 29, 3) := by decide +kernel
theorem dX7_init_129 : decode cX7_init 129 = .ok (.iload_n 1, 1) := by decide +kernel
theorem dX7_init_130 : decode cX7_init 130 = .ok (.sipush 600, 3) := by decide +kernel
theorem dX7_init_133 : decode cX7_init 133 = .ok (.if_icmp .ge 22, 3) := by decide +kernel
theorem dX7_init_136 : decode cX7_init 136 = .ok (.aload_n 0, 1) := by decide +kernel
theorem dX7_init_137 : decode cX7_init 137 = .ok (.getfield 9, 3) := by decide +kernel
theorem dX7_init_140 : decode cX7_init 140 = .ok (.iload_n 1, 1) := by decide +kernel
theorem dX7_init_141 : decode cX7_init 141 = .ok (.ldc 58, 2) := by decide +kernel
theorem dX7_init_143 : decode cX7_init 143 = .ok (.iload_n 1, 1) := by decide +kernel
theorem dX7_init_144 : decode cX7_init 144 = .ok (.invokevirtual 66, 3) := by decide +kernel
theorem dX7_init_147 : decode cX7_init 147 = .ok (.i2b, 1) := by decide +kernel
theorem dX7_init_148 : decode cX7_init 148 = .ok (.bastore, 1) := by decide +kernel
theorem dX7_init_149 : decode cX7_init 149 = .ok (.iinc 1 1, 3) := by decide +kernel
theorem dX7_init_152 : decode cX7_init 152 = .ok (.goto (-32), 3) := by decide +kernel
theorem dX7_init_155 : decode cX7_init 155 = .ok (.aload_n 0, 1) := by decide +kernel
theorem dX7_init_156 : decode cX7_init 156 = .ok (.getfield 25, 3) := by decide +kernel
theorem dX7_init_159 : decode cX7_init 159 = .ok (.ldc 58, 2) := by decide +kernel
theorem dX7_init_161 : decode cX7_init 161 = .ok (.invokevirtual 60, 3) := by decide +kernel
theorem dX7_init_164 : decode cX7_init 164 = .ok (.invokevirtual 70, 3) := by decide +kernel
theorem dX7_init_167 : decode cX7_init 167 = .ok (.aload_n 0, 1) := by decide +kernel
theorem dX7_init_168 : decode cX7_init 168 = .ok (.getfield 36, 3) := by decide +kernel
theorem dX7_init_171 : decode cX7_init 171 = .ok (.aload_n 0, 1) := by decide +kernel
theorem dX7_init_172 : decode cX7_init 172 = .ok (.getfield 25, 3) := by decide +kernel
theorem dX7_init_175 : decode cX7_init 175 = .ok (.getfield 74, 3) := by decide +kernel
theorem dX7_init_178 : decode cX7_init 178 = .ok (.invokevirtual 75, 3) := by decide +kernel
theorem dX7_init_181 : decode cX7_init 181 = .ok (.return_, 1) := by decide +kernel
theorem dX7_append_0 : decode cX7_append 0 = .ok (.aload_n 0, 1) := by decide +kernel
theorem dX7_append_1 : decode cX7_append 1 = .ok (.getfield 79, 3) := by decide +kernel
theorem dX7_append_4 : decode cX7_append 4 = .ok (.bipush 20, 2) := by decide +kernel
theorem dX7_append_6 : decode cX7_append 6 = .ok (.iadd, 1) := by decide +kernel
theorem dX7_append_7 : decode cX7_append 7 = .ok (.sipush 600, 3) := by decide +kernel
theorem dX7_append_10 : decode cX7_append 10 = .ok (.if_icmp .le 13, 3) := by decide +kernel
theorem dX7_append_13 : decode cX7_append 13 = .ok (.new 82, 3) := by decide +kernel
theorem dX7_append_16 : decode cX7_append 16 = .ok (.dup, 1) := by decide +kernel
theorem dX7_append_17 : decode cX7_append 17 = .ok (.ldc 84, 2) := by decide +kernel
theorem dX7_append_19 : decode cX7_append 19 = .ok (.invokespecial 86, 3) := by decide +kernel
theorem dX7_append_22 : decode cX7_append 22 = .ok (.athrow, 1) := by decide +kernel
theorem dX7_append_23 : decode cX7_append 23 = .ok (.aload_n 0, 1) := by decide +kernel
theorem dX7_append_24 : decode cX7_append 24 = .ok (.iload_n 1, 1) := by decide +kernel
theorem dX7_append_25 : decode cX7_append 25 = .ok (.invokevirtual 89, 3) := by decide +kernel
theorem dX7_append_28 : decode cX7_append 28 = .ok (.aload_n 0, 1) := by decide +kernel
theorem dX7_append_29 : decode cX7_append 29 = .ok (.iload_n 2, 1) := by decide +kernel
theorem dX7_append_30 : decode cX7_append 30 = .ok (.invokevirtual 89, 3) := by decide +kernel
theorem dX7_append_33 : decode cX7_append 33 = .ok (.aload_n 0, 1) := by decide +kernel
theorem dX7_append_34 : decode cX7_append 34 = .ok (.iload_n 3, 1) := by decide +kernel
theorem dX7_append_35 : decode cX7_append 35 = .ok (.invokevirtual 89, 3) := by decide +kernel
theorem dX7_append_38 : decode cX7_append 38 = .ok (.aload_n 0, 1) := by decide +kernel
theorem dX7_append_39 : decode cX7_append 39 = .ok (.iload 4, 2) := by decide +kernel
theorem dX7_append_41 : decode cX7_append 41 = .ok (.invokevirtual 89, 3) := by decide +kernel
theorem dX7_append_44 : decode cX7_append 44 = .ok (.aload_n 0, 1) := by decide +kernel
theorem dX7_append_45 : decode cX7_append 45 = .ok (.iload 5, 2) := by decide +kernel
theorem dX7_append_47 : decode cX7_append 47 = .ok (.invokevirtual 89, 3) := by decide +kernel
theorem dX7_append_50 : decode cX7_append 50 = .ok (.aload_n 0, 1) := by decide +kernel
theorem dX7_append_51 : decode cX7_append 51 = .ok (.getfield 79, 3) := by decide +kernel
theorem dX7_append_54 : decode cX7_append 54 = .ok (.ireturn, 1) := by decide +kernel
theorem dX7_appendWord_0 : decode cX7_appendWord 0 = .ok (.bipush 24, 2) := by decide +kernel
theorem dX7_appendWord_2 : decode cX7_appendWord 2 = .ok (.istore_n 2, 1) := by decide +kernel
theorem dX7_appendWord_3 : decode cX7_appendWord 3 = .ok (.iload_n 2, 1) := by decide +kernel
theorem dX7_appendWord_4 : decode cX7_appendWord 4 = .ok (.ifCond .lt 42, 3) := by decide +kernel
theorem dX7_appendWord_7 : decode cX7_appendWord 7 = .ok (.aload_n 0, 1) := by decide +kernel
theorem dX7_appendWord_8 : decode cX7_appendWord 8 = .ok (.getfield 79, 3) := by decide +kernel
theorem dX7_appendWord_11 : decode cX7_appendWord 11 = .ok (.sipush 600, 3) := by decide +kernel
theorem dX7_appendWord_14 : decode cX7_appendWord 14 = .ok (.if_icmp .ge 32, 3) := by decide +kernel
theorem dX7_appendWord_17 : decode cX7_appendWord 17 = .ok (.aload_n 0, 1) := by decide +kernel
theorem dX7_appendWord_18 : decode cX7_appendWord 18 = .ok (.getfield 9, 3) := by decide +kernel
theorem dX7_appendWord_21 : decode cX7_appendWord 21 = .ok (.aload_n 0, 1) := by decide +kernel
theorem dX7_appendWord_22 : decode cX7_appendWord 22 = .ok (.getfield 79, 3) := by decide +kernel
theorem dX7_appendWord_25 : decode cX7_appendWord 25 = .ok (.iload_n 1, 1) := by decide +kernel
theorem dX7_appendWord_26 : decode cX7_appendWord 26 = .ok (.iload_n 2, 1) := by decide +kernel
theorem dX7_appendWord_27 : decode cX7_appendWord 27 = .ok (.iushr, 1) := by decide +kernel
theorem dX7_appendWord_28 : decode cX7_appendWord 28 = .ok (.i2b, 1) := by decide +kernel
theorem dX7_appendWord_29 : decode cX7_appendWord 29 = .ok (.bastore, 1) := by decide +kernel
theorem dX7_appendWord_30 : decode cX7_appendWord 30 = .ok (.aload_n 0, 1) := by decide +kernel
theorem dX7_appendWord_31 : decode cX7_appendWord 31 = .ok (.dup, 1) := by decide +kernel
theorem dX7_appendWord_32 : decode cX7_appendWord 32 = .ok (.getfield 79, 3) := by decide +kernel
theorem dX7_appendWord_35 : decode cX7_appendWord 35 = .ok (.iconst 1, 1) := by decide +kernel
theorem dX7_appendWord_36 : decode cX7_appendWord 36 = .ok (.iadd, 1) := by decide +kernel
theorem dX7_appendWord_37 : decode cX7_appendWord 37 = .ok (.putfield 79, 3) := by decide +kernel
theorem dX7_appendWord_40 : decode cX7_appendWord 40 = .ok (.iinc 2 (-8), 3) := by decide +kernel
theorem dX7_appendWord_43 : decode cX7_appendWord 43 = .ok (.goto (-40), 3) := by decide +kernel
theorem dX7_appendWord_46 : decode cX7_appendWord 46 = .ok (.return_, 1) := by decide +kernel
theorem dX7_load_0 : decode cX7_load 0 = .ok (.iload_n 1, 1) := by decide +kernel
theorem dX7_load_1 : decode cX7_load 1 = .ok (.ifCond .lt 11, 3) := by decide +kernel
theorem dX7_load_4 : decode cX7_load 4 = .ok (.iload_n 1, 1) := by decide +kernel
theorem dX7_load_5 : decode cX7_load 5 = .ok (.aload_n 0, 1) := by decide +kernel
theorem dX7_load_6 : decode cX7_load 6 = .ok (.getfield 79, 3) := by decide +kernel
theorem dX7_load_9 : decode cX7_load 9 = .ok (.if_icmp .le 13, 3) := by decide +kernel
theorem dX7_load_12 : decode cX7_load 12 = .ok (.new 92, 3) := by decide +kernel
theorem dX7_load_15 : decode cX7_load 15 = .ok (.dup, 1) := by decide +kernel
theorem dX7_load_16 : decode cX7_load 16 = .ok (.ldc 94, 2) := by decide +kernel
theorem dX7_load_18 : decode cX7_load 18 = .ok (.invokespecial 96, 3) := by decide +kernel
theorem dX7_load_21 : decode cX7_load 21 = .ok (.athrow, 1) := by decide +kernel
theorem dX7_load_22 : decode cX7_load 22 = .ok (.aload_n 0, 1) := by decide +kernel
theorem dX7_load_23 : decode cX7_load 23 = .ok (.getfield 25, 3) := by decide +kernel
theorem dX7_load_26 : decode cX7_load 26 = .ok (.iload_n 1, 1) := by decide +kernel
theorem dX7_load_27 : decode cX7_load 27 = .ok (.invokevirtual 70, 3) := by decide +kernel
theorem dX7_load_30 : decode cX7_load 30 = .ok (.aload_n 0, 1) := by decide +kernel
theorem dX7_load_31 : decode cX7_load 31 = .ok (.iconst 0, 1) := by decide +kernel
theorem dX7_load_32 : decode cX7_load 32 = .ok (.putfield 79, 3) := by decide +kernel
theorem dX7_load_35 : decode cX7_load 35 = .ok (.aload_n 0, 1) := by decide +kernel
theorem dX7_load_36 : decode cX7_load 36 = .ok (.aload_n 0, 1) := by decide +kernel
theorem dX7_load_37 : decode cX7_load 37 = .ok (.getfield 25, 3) := by decide +kernel
theorem dX7_load_40 : decode cX7_load 40 = .ok (.getfield 97, 3) := by decide +kernel
theorem dX7_load_43 : decode cX7_load 43 = .ok (.putfield 100, 3) := by decide +kernel
theorem dX7_load_46 : decode cX7_load 46 = .ok (.aload_n 0, 1) := by decide +kernel
theorem dX7_load_47 : decode cX7_load 47 = .ok (.aload_n 0, 1) := by decide +kernel
theorem dX7_load_48 : decode cX7_load 48 = .ok (.getfield 25, 3) := by decide +kernel
theorem dX7_load_51 : decode cX7_load 51 = .ok (.getfield 103, 3) := by decide +kernel
theorem dX7_load_54 : decode cX7_load 54 = .ok (.putfield 29, 3) := by decide +kernel
theorem dX7_load_57 : decode cX7_load 57 = .ok (.aload_n 0, 1) := by decide +kernel
theorem dX7_load_58 : decode cX7_load 58 = .ok (.getfield 100, 3) := by decide +kernel
theorem dX7_load_61 : decode cX7_load 61 = .ok (.ifCond .eq 13, 3) := by decide +kernel
theorem dX7_load_64 : decode cX7_load 64 = .ok (.new 106, 3) := by decide +kernel
theorem dX7_load_67 : decode cX7_load 67 = .ok (.dup, 1) := by decide +kernel
theorem dX7_load_68 : decode cX7_load 68 = .ok (.ldc 108, 2) := by decide +kernel
theorem dX7_load_70 : decode cX7_load 70 = .ok (.invokespecial 110, 3) := by decide +kernel
theorem dX7_load_73 : decode cX7_load 73 = .ok (.athrow, 1) := by decide +kernel
theorem dX7_load_74 : decode cX7_load 74 = .ok (.aload_n 0, 1) := by decide +kernel
theorem dX7_load_75 : decode cX7_load 75 = .ok (.getfield 36, 3) := by decide +kernel
theorem dX7_load_78 : decode cX7_load 78 = .ok (.aload_n 0, 1) := by decide +kernel
theorem dX7_load_79 : decode cX7_load 79 = .ok (.getfield 25, 3) := by decide +kernel
theorem dX7_load_82 : decode cX7_load 82 = .ok (.getfield 74, 3) := by decide +kernel
theorem dX7_load_85 : decode cX7_load 85 = .ok (.invokevirtual 75, 3) := by decide +kernel
theorem dX7_load_88 : decode cX7_load 88 = .ok (.aload_n 0, 1) := by decide +kernel
theorem dX7_load_89 : decode cX7_load 89 = .ok (.getfield 46, 3) := by decide +kernel
theorem dX7_load_92 : decode cX7_load 92 = .ok (.invokevirtual 111, 3) := by decide +kernel
theorem dX7_load_95 : decode cX7_load 95 = .ok (.iconst 0, 1) := by decide +kernel
theorem dX7_load_96 : decode cX7_load 96 = .ok (.istore_n 2, 1) := by decide +kernel
theorem dX7_load_97 : decode cX7_load 97 = .ok (.iload_n 2, 1) := by decide +kernel
theorem dX7_load_98 : decode cX7_load 98 = .ok (.iconst 2, 1) := by decide +kernel
theorem dX7_load_99 : decode cX7_load 99 = .ok (.if_icmp .ge 16, 3) := by decide +kernel
theorem dX7_load_102 : decode cX7_load 102 = .ok (.aload_n 0, 1) := by decide +kernel
theorem dX7_load_103 : decode cX7_load 103 = .ok (.getfield 54, 3) := by decide +kernel
theorem dX7_load_106 : decode cX7_load 106 = .ok (.iload_n 2, 1) := by decide +kernel
theorem dX7_load_107 : decode cX7_load 107 = .ok (.iconst 0, 1) := by decide +kernel
theorem dX7_load_108 : decode cX7_load 108 = .ok (.bastore, 1) := by decide +kernel
theorem dX7_load_109 : decode cX7_load 109 = .ok (.iinc 2 1, 3) := by decide +kernel
theorem dX7_load_112 : decode cX7_load 112 = .ok (.goto (-15), 3) := by decide +kernel
theorem dX7_load_115 : decode cX7_load 115 = .ok (.aload_n 0, 1) := by decide +kernel
theorem dX7_load_116 : decode cX7_load 116 = .ok (.getfield 36, 3) := by decide +kernel
theorem dX7_load_119 : decode cX7_load 119 = .ok (.getfield 114, 3) := by decide +kernel
theorem dX7_load_122 : decode cX7_load 122 = .ok (.ireturn, 1) := by decide +kernel
theorem dX7_errorKind_0 : decode cX7_errorKind 0 = .ok (.aload_n 0, 1) := by decide +kernel
theorem dX7_errorKind_1 : decode cX7_errorKind 1 = .ok (.getfield 100, 3) := by decide +kernel
theorem dX7_errorKind_4 : decode cX7_errorKind 4 = .ok (.ireturn, 1) := by decide +kernel
theorem dX7_errorOffset_0 : decode cX7_errorOffset 0 = .ok (.aload_n 0, 1) := by decide +kernel
theorem dX7_errorOffset_1 : decode cX7_errorOffset 1 = .ok (.getfield 29, 3) := by decide +kernel
theorem dX7_errorOffset_4 : decode cX7_errorOffset 4 = .ok (.ireturn, 1) := by decide +kernel
theorem dX7_day_0 : decode cX7_day 0 = .ok (.aload_n 0, 1) := by decide +kernel
theorem dX7_day_1 : decode cX7_day 1 = .ok (.getfield 36, 3) := by decide +kernel
theorem dX7_day_4 : decode cX7_day 4 = .ok (.getfield 117, 3) := by decide +kernel
theorem dX7_day_7 : decode cX7_day 7 = .ok (.ireturn, 1) := by decide +kernel
theorem dX7_lodgerCount_0 : decode cX7_lodgerCount 0 = .ok (.aload_n 0, 1) := by decide +kernel
theorem dX7_lodgerCount_1 : decode cX7_lodgerCount 1 = .ok (.getfield 36, 3) := by decide +kernel
theorem dX7_lodgerCount_4 : decode cX7_lodgerCount 4 = .ok (.getfield 114, 3) := by decide +kernel
theorem dX7_lodgerCount_7 : decode cX7_lodgerCount 7 = .ok (.ireturn, 1) := by decide +kernel
theorem dX7_baseRent_0 : decode cX7_baseRent 0 = .ok (.aload_n 0, 1) := by decide +kernel
theorem dX7_baseRent_1 : decode cX7_baseRent 1 = .ok (.getfield 36, 3) := by decide +kernel
theorem dX7_baseRent_4 : decode cX7_baseRent 4 = .ok (.getfield 120, 3) := by decide +kernel
theorem dX7_baseRent_7 : decode cX7_baseRent 7 = .ok (.ireturn, 1) := by decide +kernel
theorem dX7_tolerance_0 : decode cX7_tolerance 0 = .ok (.aload_n 0, 1) := by decide +kernel
theorem dX7_tolerance_1 : decode cX7_tolerance 1 = .ok (.getfield 36, 3) := by decide +kernel
theorem dX7_tolerance_4 : decode cX7_tolerance 4 = .ok (.getfield 123, 3) := by decide +kernel
theorem dX7_tolerance_7 : decode cX7_tolerance 7 = .ok (.ireturn, 1) := by decide +kernel
theorem dX7_rentOf_0 : decode cX7_rentOf 0 = .ok (.aload_n 0, 1) := by decide +kernel
theorem dX7_rentOf_1 : decode cX7_rentOf 1 = .ok (.iload_n 1, 1) := by decide +kernel
theorem dX7_rentOf_2 : decode cX7_rentOf 2 = .ok (.invokevirtual 126, 3) := by decide +kernel
theorem dX7_rentOf_5 : decode cX7_rentOf 5 = .ok (.aload_n 0, 1) := by decide +kernel
theorem dX7_rentOf_6 : decode cX7_rentOf 6 = .ok (.getfield 36, 3) := by decide +kernel
theorem dX7_rentOf_9 : decode cX7_rentOf 9 = .ok (.iload_n 1, 1) := by decide +kernel
theorem dX7_rentOf_10 : decode cX7_rentOf 10 = .ok (.invokevirtual 129, 3) := by decide +kernel
theorem dX7_rentOf_13 : decode cX7_rentOf 13 = .ok (.ireturn, 1) := by decide +kernel
theorem dX7_landladyVowel_0 : decode cX7_landladyVowel 0 = .ok (.aload_n 0, 1) := by decide +kernel
theorem dX7_landladyVowel_1 : decode cX7_landladyVowel 1 = .ok (.iload_n 1, 1) := by decide +kernel
theorem dX7_landladyVowel_2 : decode cX7_landladyVowel 2 = .ok (.invokevirtual 133, 3) := by decide +kernel
theorem dX7_landladyVowel_5 : decode cX7_landladyVowel 5 = .ok (.aload_n 0, 1) := by decide +kernel
theorem dX7_landladyVowel_6 : decode cX7_landladyVowel 6 = .ok (.getfield 36, 3) := by decide +kernel
theorem dX7_landladyVowel_9 : decode cX7_landladyVowel 9 = .ok (.getfield 136, 3) := by decide +kernel
theorem dX7_landladyVowel_12 : decode cX7_landladyVowel 12 = .ok (.getfield 140, 3) := by decide +kernel
theorem dX7_landladyVowel_15 : decode cX7_landladyVowel 15 = .ok (.iload_n 1, 1) := by decide +kernel
theorem dX7_landladyVowel_16 : decode cX7_landladyVowel 16 = .ok (.iaload, 1) := by decide +kernel
theorem dX7_landladyVowel_17 : decode cX7_landladyVowel 17 = .ok (.ireturn, 1) := by decide +kernel
theorem dX7_daysToInspection_0 : decode cX7_daysToInspection 0 = .ok (.bipush 7, 2) := by decide +kernel
theorem dX7_daysToInspection_2 : decode cX7_daysToInspection 2 = .ok (.aload_n 0, 1) := by decide +kernel
theorem dX7_daysToInspection_3 : decode cX7_daysToInspection 3 = .ok (.getfield 36, 3) := by decide +kernel
theorem dX7_daysToInspection_6 : decode cX7_daysToInspection 6 = .ok (.getfield 117, 3) := by decide +kernel
theorem dX7_daysToInspection_9 : decode cX7_daysToInspection 9 = .ok (.bipush 7, 2) := by decide +kernel
theorem dX7_daysToInspection_11 : decode cX7_daysToInspection 11 = .ok (.irem, 1) := by decide +kernel
theorem dX7_daysToInspection_12 : decode cX7_daysToInspection 12 = .ok (.isub, 1) := by decide +kernel
theorem dX7_daysToInspection_13 : decode cX7_daysToInspection 13 = .ok (.ireturn, 1) := by decide +kernel
theorem dX7_evictions_0 : decode cX7_evictions 0 = .ok (.aload_n 0, 1) := by decide +kernel
theorem dX7_evictions_1 : decode cX7_evictions 1 = .ok (.getfield 36, 3) := by decide +kernel
theorem dX7_evictions_4 : decode cX7_evictions 4 = .ok (.getfield 146, 3) := by decide +kernel
theorem dX7_evictions_7 : decode cX7_evictions 7 = .ok (.ireturn, 1) := by decide +kernel
theorem dX7_undoCount_0 : decode cX7_undoCount 0 = .ok (.aload_n 0, 1) := by decide +kernel
theorem dX7_undoCount_1 : decode cX7_undoCount 1 = .ok (.getfield 46, 3) := by decide +kernel
theorem dX7_undoCount_4 : decode cX7_undoCount 4 = .ok (.getfield 149, 3) := by decide +kernel
theorem dX7_undoCount_7 : decode cX7_undoCount 7 = .ok (.ireturn, 1) := by decide +kernel
theorem dX7_floorOf_0 : decode cX7_floorOf 0 = .ok (.aload_n 0, 1) := by decide +kernel
theorem dX7_floorOf_1 : decode cX7_floorOf 1 = .ok (.iload_n 1, 1) := by decide +kernel
theorem dX7_floorOf_2 : decode cX7_floorOf 2 = .ok (.invokevirtual 152, 3) := by decide +kernel
theorem dX7_floorOf_5 : decode cX7_floorOf 5 = .ok (.getfield 156, 3) := by decide +kernel
theorem dX7_floorOf_8 : decode cX7_floorOf 8 = .ok (.ireturn, 1) := by decide +kernel
theorem dX7_balanceOf_0 : decode cX7_balanceOf 0 = .ok (.aload_n 0, 1) := by decide +kernel
theorem dX7_balanceOf_1 : decode cX7_balanceOf 1 = .ok (.iload_n 1, 1) := by decide +kernel
theorem dX7_balanceOf_2 : decode cX7_balanceOf 2 = .ok (.invokevirtual 152, 3) := by decide +kernel
theorem dX7_balanceOf_5 : decode cX7_balanceOf 5 = .ok (.getfield 161, 3) := by decide +kernel
theorem dX7_balanceOf_8 : decode cX7_balanceOf 8 = .ok (.ireturn, 1) := by decide +kernel
theorem dX7_vowelOf_0 : decode cX7_vowelOf 0 = .ok (.aload_n 0, 1) := by decide +kernel
theorem dX7_vowelOf_1 : decode cX7_vowelOf 1 = .ok (.iload_n 1, 1) := by decide +kernel
theorem dX7_vowelOf_2 : decode cX7_vowelOf 2 = .ok (.invokevirtual 152, 3) := by decide +kernel
theorem dX7_vowelOf_5 : decode cX7_vowelOf 5 = .ok (.astore_n 3, 1) := by decide +kernel
theorem dX7_vowelOf_6 : decode cX7_vowelOf 6 = .ok (.aload_n 0, 1) := by decide +kernel
theorem dX7_vowelOf_7 : decode cX7_vowelOf 7 = .ok (.iload_n 2, 1) := by decide +kernel
theorem dX7_vowelOf_8 : decode cX7_vowelOf 8 = .ok (.invokevirtual 133, 3) := by decide +kernel
theorem dX7_vowelOf_11 : decode cX7_vowelOf 11 = .ok (.aload_n 3, 1) := by decide +kernel
theorem dX7_vowelOf_12 : decode cX7_vowelOf 12 = .ok (.getfield 164, 3) := by decide +kernel
theorem dX7_vowelOf_15 : decode cX7_vowelOf 15 = .ok (.getfield 140, 3) := by decide +kernel
theorem dX7_vowelOf_18 : decode cX7_vowelOf 18 = .ok (.iload_n 2, 1) := by decide +kernel
theorem dX7_vowelOf_19 : decode cX7_vowelOf 19 = .ok (.iaload, 1) := by decide +kernel
theorem dX7_vowelOf_20 : decode cX7_vowelOf 20 = .ok (.ireturn, 1) := by decide +kernel
theorem dX7_lessonsOf_0 : decode cX7_lessonsOf 0 = .ok (.aload_n 0, 1) := by decide +kernel
theorem dX7_lessonsOf_1 : decode cX7_lessonsOf 1 = .ok (.iload_n 1, 1) := by decide +kernel
theorem dX7_lessonsOf_2 : decode cX7_lessonsOf 2 = .ok (.invokevirtual 152, 3) := by decide +kernel
theorem dX7_lessonsOf_5 : decode cX7_lessonsOf 5 = .ok (.getfield 167, 3) := by decide +kernel
theorem dX7_lessonsOf_8 : decode cX7_lessonsOf 8 = .ok (.ireturn, 1) := by decide +kernel
theorem dX7_slipsOf_0 : decode cX7_slipsOf 0 = .ok (.aload_n 0, 1) := by decide +kernel
theorem dX7_slipsOf_1 : decode cX7_slipsOf 1 = .ok (.iload_n 1, 1) := by decide +kernel
theorem dX7_slipsOf_2 : decode cX7_slipsOf 2 = .ok (.invokevirtual 152, 3) := by decide +kernel
theorem dX7_slipsOf_5 : decode cX7_slipsOf 5 = .ok (.getfield 170, 3) := by decide +kernel
theorem dX7_slipsOf_8 : decode cX7_slipsOf 8 = .ok (.ireturn, 1) := by decide +kernel
theorem dX7_daysStayed_0 : decode cX7_daysStayed 0 = .ok (.aload_n 0, 1) := by decide +kernel
theorem dX7_daysStayed_1 : decode cX7_daysStayed 1 = .ok (.getfield 36, 3) := by decide +kernel
theorem dX7_daysStayed_4 : decode cX7_daysStayed 4 = .ok (.getfield 117, 3) := by decide +kernel
theorem dX7_daysStayed_7 : decode cX7_daysStayed 7 = .ok (.aload_n 0, 1) := by decide +kernel
theorem dX7_daysStayed_8 : decode cX7_daysStayed 8 = .ok (.iload_n 1, 1) := by decide +kernel
theorem dX7_daysStayed_9 : decode cX7_daysStayed 9 = .ok (.invokevirtual 152, 3) := by decide +kernel
theorem dX7_daysStayed_12 : decode cX7_daysStayed 12 = .ok (.getfield 173, 3) := by decide +kernel
theorem dX7_daysStayed_15 : decode cX7_daysStayed 15 = .ok (.isub, 1) := by decide +kernel
theorem dX7_daysStayed_16 : decode cX7_daysStayed 16 = .ok (.ireturn, 1) := by decide +kernel
theorem dX7_nameLength_0 : decode cX7_nameLength 0 = .ok (.aload_n 0, 1) := by decide +kernel
theorem dX7_nameLength_1 : decode cX7_nameLength 1 = .ok (.iload_n 1, 1) := by decide +kernel
theorem dX7_nameLength_2 : decode cX7_nameLength 2 = .ok (.invokevirtual 152, 3) := by decide +kernel
theorem dX7_nameLength_5 : decode cX7_nameLength 5 = .ok (.getfield 176, 3) := by decide +kernel
theorem dX7_nameLength_8 : decode cX7_nameLength 8 = .ok (.invokevirtual 60, 3) := by decide +kernel
theorem dX7_nameLength_11 : decode cX7_nameLength 11 = .ok (.ireturn, 1) := by decide +kernel
theorem dX7_nameLetter_0 : decode cX7_nameLetter 0 = .ok (.aload_n 0, 1) := by decide +kernel
theorem dX7_nameLetter_1 : decode cX7_nameLetter 1 = .ok (.iload_n 1, 1) := by decide +kernel
theorem dX7_nameLetter_2 : decode cX7_nameLetter 2 = .ok (.invokevirtual 152, 3) := by decide +kernel
theorem dX7_nameLetter_5 : decode cX7_nameLetter 5 = .ok (.getfield 176, 3) := by decide +kernel
theorem dX7_nameLetter_8 : decode cX7_nameLetter 8 = .ok (.astore_n 3, 1) := by decide +kernel
theorem dX7_nameLetter_9 : decode cX7_nameLetter 9 = .ok (.iload_n 2, 1) := by decide +kernel
theorem dX7_nameLetter_10 : decode cX7_nameLetter 10 = .ok (.ifCond .lt 11, 3) := by decide +kernel
theorem dX7_nameLetter_13 : decode cX7_nameLetter 13 = .ok (.iload_n 2, 1) := by decide +kernel
theorem dX7_nameLetter_14 : decode cX7_nameLetter 14 = .ok (.aload_n 3, 1) := by decide +kernel
theorem dX7_nameLetter_15 : decode cX7_nameLetter 15 = .ok (.invokevirtual 60, 3) := by decide +kernel
theorem dX7_nameLetter_18 : decode cX7_nameLetter 18 = .ok (.if_icmp .lt 13, 3) := by decide +kernel
theorem dX7_nameLetter_21 : decode cX7_nameLetter 21 = .ok (.new 92, 3) := by decide +kernel
theorem dX7_nameLetter_24 : decode cX7_nameLetter 24 = .ok (.dup, 1) := by decide +kernel
theorem dX7_nameLetter_25 : decode cX7_nameLetter 25 = .ok (.ldc 180, 2) := by decide +kernel
theorem dX7_nameLetter_27 : decode cX7_nameLetter 27 = .ok (.invokespecial 96, 3) := by decide +kernel
theorem dX7_nameLetter_30 : decode cX7_nameLetter 30 = .ok (.athrow, 1) := by decide +kernel
theorem dX7_nameLetter_31 : decode cX7_nameLetter 31 = .ok (.aload_n 3, 1) := by decide +kernel
theorem dX7_nameLetter_32 : decode cX7_nameLetter 32 = .ok (.iload_n 2, 1) := by decide +kernel
theorem dX7_nameLetter_33 : decode cX7_nameLetter 33 = .ok (.invokevirtual 66, 3) := by decide +kernel
theorem dX7_nameLetter_36 : decode cX7_nameLetter 36 = .ok (.ireturn, 1) := by decide +kernel
theorem dX7_findByName_0 : decode cX7_findByName 0 = .ok (.iconst 0, 1) := by decide +kernel
theorem dX7_findByName_1 : decode cX7_findByName 1 = .ok (.istore_n 1, 1) := by decide +kernel
theorem dX7_findByName_2 : decode cX7_findByName 2 = .ok (.aload_n 0, 1) := by decide +kernel
theorem dX7_findByName_3 : decode cX7_findByName 3 = .ok (.getfield 79, 3) := by decide +kernel
theorem dX7_findByName_6 : decode cX7_findByName 6 = .ok (.istore_n 2, 1) := by decide +kernel
theorem dX7_findByName_7 : decode cX7_findByName 7 = .ok (.iload_n 1, 1) := by decide +kernel
theorem dX7_findByName_8 : decode cX7_findByName 8 = .ok (.iload_n 2, 1) := by decide +kernel
theorem dX7_findByName_9 : decode cX7_findByName 9 = .ok (.if_icmp .ge 20, 3) := by decide +kernel
theorem dX7_findByName_12 : decode cX7_findByName 12 = .ok (.aload_n 0, 1) := by decide +kernel
theorem dX7_findByName_13 : decode cX7_findByName 13 = .ok (.getfield 9, 3) := by decide +kernel
theorem dX7_findByName_16 : decode cX7_findByName 16 = .ok (.iload_n 1, 1) := by decide +kernel
theorem dX7_findByName_17 : decode cX7_findByName 17 = .ok (.baload, 1) := by decide +kernel
theorem dX7_findByName_18 : decode cX7_findByName 18 = .ok (.bipush 32, 2) := by decide +kernel
theorem dX7_findByName_20 : decode cX7_findByName 20 = .ok (.if_icmp .ne 9, 3) := by decide +kernel
theorem dX7_findByName_23 : decode cX7_findByName 23 = .ok (.iinc 1 1, 3) := by decide +kernel
theorem dX7_findByName_26 : decode cX7_findByName 26 = .ok (.goto (-19), 3) := by decide +kernel
theorem dX7_findByName_29 : decode cX7_findByName 29 = .ok (.iload_n 2, 1) := by decide +kernel
theorem dX7_findByName_30 : decode cX7_findByName 30 = .ok (.iload_n 1, 1) := by decide +kernel
theorem dX7_findByName_31 : decode cX7_findByName 31 = .ok (.if_icmp .le 22, 3) := by decide +kernel
theorem dX7_findByName_34 : decode cX7_findByName 34 = .ok (.aload_n 0, 1) := by decide +kernel
theorem dX7_findByName_35 : decode cX7_findByName 35 = .ok (.getfield 9, 3) := by decide +kernel
theorem dX7_findByName_38 : decode cX7_findByName 38 = .ok (.iload_n 2, 1) := by decide +kernel
theorem dX7_findByName_39 : decode cX7_findByName 39 = .ok (.iconst 1, 1) := by decide +kernel
theorem dX7_findByName_40 : decode cX7_findByName 40 = .ok (.isub, 1) := by decide +kernel
theorem dX7_findByName_41 : decode cX7_findByName 41 = .ok (.baload, 1) := by decide +kernel
theorem dX7_findByName_42 : decode cX7_findByName 42 = .ok (.bipush 32, 2) := by decide +kernel
theorem dX7_findByName_44 : decode cX7_findByName 44 = .ok (.if_icmp .ne 9, 3) := by decide +kernel
theorem dX7_findByName_47 : decode cX7_findByName 47 = .ok (.iinc 2 (-1), 3) := by decide +kernel
theorem dX7_findByName_50 : decode cX7_findByName 50 = .ok (.goto (-21), 3) := by decide +kernel
theorem dX7_findByName_53 : decode cX7_findByName 53 = .ok (.aload_n 0, 1) := by decide +kernel
theorem dX7_findByName_54 : decode cX7_findByName 54 = .ok (.getfield 36, 3) := by decide +kernel
theorem dX7_findByName_57 : decode cX7_findByName 57 = .ok (.aload_n 0, 1) := by decide +kernel
theorem dX7_findByName_58 : decode cX7_findByName 58 = .ok (.getfield 9, 3) := by decide +kernel
theorem dX7_findByName_61 : decode cX7_findByName 61 = .ok (.iload_n 1, 1) := by decide +kernel
theorem dX7_findByName_62 : decode cX7_findByName 62 = .ok (.iload_n 2, 1) := by decide +kernel
theorem dX7_findByName_63 : decode cX7_findByName 63 = .ok (.invokevirtual 182, 3) := by decide +kernel
theorem dX7_findByName_66 : decode cX7_findByName 66 = .ok (.ireturn, 1) := by decide +kernel
theorem dX7_lodgersOn_0 : decode cX7_lodgersOn 0 = .ok (.aload_n 0, 1) := by decide +kernel
theorem dX7_lodgersOn_1 : decode cX7_lodgersOn 1 = .ok (.iload_n 1, 1) := by decide +kernel
theorem dX7_lodgersOn_2 : decode cX7_lodgersOn 2 = .ok (.invokevirtual 126, 3) := by decide +kernel
theorem dX7_lodgersOn_5 : decode cX7_lodgersOn 5 = .ok (.aload_n 0, 1) := by decide +kernel
theorem dX7_lodgersOn_6 : decode cX7_lodgersOn 6 = .ok (.getfield 36, 3) := by decide +kernel
theorem dX7_lodgersOn_9 : decode cX7_lodgersOn 9 = .ok (.iload_n 1, 1) := by decide +kernel
theorem dX7_lodgersOn_10 : decode cX7_lodgersOn 10 = .ok (.invokevirtual 186, 3) := by decide +kernel
theorem dX7_lodgersOn_13 : decode cX7_lodgersOn 13 = .ok (.ireturn, 1) := by decide +kernel
theorem dX7_lodgerOn_0 : decode cX7_lodgerOn 0 = .ok (.aload_n 0, 1) := by decide +kernel
theorem dX7_lodgerOn_1 : decode cX7_lodgerOn 1 = .ok (.iload_n 1, 1) := by decide +kernel
theorem dX7_lodgerOn_2 : decode cX7_lodgerOn 2 = .ok (.invokevirtual 126, 3) := by decide +kernel
theorem dX7_lodgerOn_5 : decode cX7_lodgerOn 5 = .ok (.aload_n 0, 1) := by decide +kernel
theorem dX7_lodgerOn_6 : decode cX7_lodgerOn 6 = .ok (.getfield 36, 3) := by decide +kernel
theorem dX7_lodgerOn_9 : decode cX7_lodgerOn 9 = .ok (.iload_n 1, 1) := by decide +kernel
theorem dX7_lodgerOn_10 : decode cX7_lodgerOn 10 = .ok (.iload_n 2, 1) := by decide +kernel
theorem dX7_lodgerOn_11 : decode cX7_lodgerOn 11 = .ok (.invokevirtual 189, 3) := by decide +kernel
theorem dX7_lodgerOn_14 : decode cX7_lodgerOn 14 = .ok (.istore_n 3, 1) := by decide +kernel
theorem dX7_lodgerOn_15 : decode cX7_lodgerOn 15 = .ok (.iload_n 3, 1) := by decide +kernel
theorem dX7_lodgerOn_16 : decode cX7_lodgerOn 16 = .ok (.iconst (-1), 1) := by decide +kernel
theorem dX7_lodgerOn_17 : decode cX7_lodgerOn 17 = .ok (.if_icmp .ne 13, 3) := by decide +kernel
theorem dX7_lodgerOn_20 : decode cX7_lodgerOn 20 = .ok (.new 92, 3) := by decide +kernel
theorem dX7_lodgerOn_23 : decode cX7_lodgerOn 23 = .ok (.dup, 1) := by decide +kernel
theorem dX7_lodgerOn_24 : decode cX7_lodgerOn 24 = .ok (.ldc 193, 2) := by decide +kernel
theorem dX7_lodgerOn_26 : decode cX7_lodgerOn 26 = .ok (.invokespecial 96, 3) := by decide +kernel
theorem dX7_lodgerOn_29 : decode cX7_lodgerOn 29 = .ok (.athrow, 1) := by decide +kernel
theorem dX7_lodgerOn_30 : decode cX7_lodgerOn 30 = .ok (.iload_n 3, 1) := by decide +kernel
theorem dX7_lodgerOn_31 : decode cX7_lodgerOn 31 = .ok (.ireturn, 1) := by decide +kernel
theorem dX7_averageVowel_0 : decode cX7_averageVowel 0 = .ok (.aload_n 0, 1) := by decide +kernel
theorem dX7_averageVowel_1 : decode cX7_averageVowel 1 = .ok (.iload_n 1, 1) := by decide +kernel
theorem dX7_averageVowel_2 : decode cX7_averageVowel 2 = .ok (.invokevirtual 126, 3) := by decide +kernel
theorem dX7_averageVowel_5 : decode cX7_averageVowel 5 = .ok (.aload_n 0, 1) := by decide +kernel
theorem dX7_averageVowel_6 : decode cX7_averageVowel 6 = .ok (.iload_n 2, 1) := by decide +kernel
theorem dX7_averageVowel_7 : decode cX7_averageVowel 7 = .ok (.invokevirtual 133, 3) := by decide +kernel
theorem dX7_averageVowel_10 : decode cX7_averageVowel 10 = .ok (.aload_n 0, 1) := by decide +kernel
theorem dX7_averageVowel_11 : decode cX7_averageVowel 11 = .ok (.getfield 36, 3) := by decide +kernel
theorem dX7_averageVowel_14 : decode cX7_averageVowel 14 = .ok (.iload_n 1, 1) := by decide +kernel
theorem dX7_averageVowel_15 : decode cX7_averageVowel 15 = .ok (.invokevirtual 186, 3) := by decide +kernel
theorem dX7_averageVowel_18 : decode cX7_averageVowel 18 = .ok (.ifCond .ne 13, 3) := by decide +kernel
theorem dX7_averageVowel_21 : decode cX7_averageVowel 21 = .ok (.new 82, 3) := by decide +kernel
theorem dX7_averageVowel_24 : decode cX7_averageVowel 24 = .ok (.dup, 1) := by decide +kernel
theorem dX7_averageVowel_25 : decode cX7_averageVowel 25 = .ok (.ldc 195, 2) := by decide +kernel
theorem dX7_averageVowel_27 : decode cX7_averageVowel 27 = .ok (.invokespecial 86, 3) := by decide +kernel
theorem dX7_averageVowel_30 : decode cX7_averageVowel 30 = .ok (.athrow, 1) := by decide +kernel
theorem dX7_averageVowel_31 : decode cX7_averageVowel 31 = .ok (.aload_n 0, 1) := by decide +kernel
theorem dX7_averageVowel_32 : decode cX7_averageVowel 32 = .ok (.getfield 36, 3) := by decide +kernel
theorem dX7_averageVowel_35 : decode cX7_averageVowel 35 = .ok (.iload_n 1, 1) := by decide +kernel
theorem dX7_averageVowel_36 : decode cX7_averageVowel 36 = .ok (.iload_n 2, 1) := by decide +kernel
theorem dX7_averageVowel_37 : decode cX7_averageVowel 37 = .ok (.invokevirtual 197, 3) := by decide +kernel
theorem dX7_averageVowel_40 : decode cX7_averageVowel 40 = .ok (.ireturn, 1) := by decide +kernel
theorem dX7_distanceToLandlady_0 : decode cX7_distanceToLandlady 0 = .ok (.aload_n 0, 1) := by decide +kernel
theorem dX7_distanceToLandlady_1 : decode cX7_distanceToLandlady 1 = .ok (.iload_n 1, 1) := by decide +kernel
theorem dX7_distanceToLandlady_2 : decode cX7_distanceToLandlady 2 = .ok (.invokevirtual 152, 3) := by decide +kernel
theorem dX7_distanceToLandlady_5 : decode cX7_distanceToLandlady 5 = .ok (.getfield 164, 3) := by decide +kernel
theorem dX7_distanceToLandlady_8 : decode cX7_distanceToLandlady 8 = .ok (.aload_n 0, 1) := by decide +kernel
theorem dX7_distanceToLandlady_9 : decode cX7_distanceToLandlady 9 = .ok (.getfield 36, 3) := by decide +kernel
theorem dX7_distanceToLandlady_12 : decode cX7_distanceToLandlady 12 = .ok (.getfield 136, 3) := by decide +kernel
theorem dX7_distanceToLandlady_15 : decode cX7_distanceToLandlady 15 = .ok (.invokevirtual 200, 3) := by decide +kernel
theorem dX7_distanceToLandlady_18 : decode cX7_distanceToLandlady 18 = .ok (.ireturn, 1) := by decide +kernel
theorem dX7_distance_0 : decode cX7_distance 0 = .ok (.aload_n 0, 1) := by decide +kernel
theorem dX7_distance_1 : decode cX7_distance 1 = .ok (.iload_n 1, 1) := by decide +kernel
theorem dX7_distance_2 : decode cX7_distance 2 = .ok (.invokevirtual 152, 3) := by decide +kernel
theorem dX7_distance_5 : decode cX7_distance 5 = .ok (.astore_n 3, 1) := by decide +kernel
theorem dX7_distance_6 : decode cX7_distance 6 = .ok (.aload_n 0, 1) := by decide +kernel
theorem dX7_distance_7 : decode cX7_distance 7 = .ok (.iload_n 2, 1) := by decide +kernel
theorem dX7_distance_8 : decode cX7_distance 8 = .ok (.invokevirtual 152, 3) := by decide +kernel
theorem dX7_distance_11 : decode cX7_distance 11 = .ok (.astore 4, 2) := by decide +kernel
theorem dX7_distance_13 : decode cX7_distance 13 = .ok (.aload_n 3, 1) := by decide +kernel
theorem dX7_distance_14 : decode cX7_distance 14 = .ok (.getfield 164, 3) := by decide +kernel
theorem dX7_distance_17 : decode cX7_distance 17 = .ok (.aload 4, 2) := by decide +kernel
theorem dX7_distance_19 : decode cX7_distance 19 = .ok (.getfield 164, 3) := by decide +kernel
theorem dX7_distance_22 : decode cX7_distance 22 = .ok (.invokevirtual 200, 3) := by decide +kernel
theorem dX7_distance_25 : decode cX7_distance 25 = .ok (.ireturn, 1) := by decide +kernel
theorem dX7_rhymes_0 : decode cX7_rhymes 0 = .ok (.aload_n 0, 1) := by decide +kernel
theorem dX7_rhymes_1 : decode cX7_rhymes 1 = .ok (.iload_n 1, 1) := by decide +kernel
theorem dX7_rhymes_2 : decode cX7_rhymes 2 = .ok (.invokevirtual 152, 3) := by decide +kernel
theorem dX7_rhymes_5 : decode cX7_rhymes 5 = .ok (.astore_n 3, 1) := by decide +kernel
theorem dX7_rhymes_6 : decode cX7_rhymes 6 = .ok (.aload_n 0, 1) := by decide +kernel
theorem dX7_rhymes_7 : decode cX7_rhymes 7 = .ok (.iload_n 2, 1) := by decide +kernel
theorem dX7_rhymes_8 : decode cX7_rhymes 8 = .ok (.invokevirtual 152, 3) := by decide +kernel
theorem dX7_rhymes_11 : decode cX7_rhymes 11 = .ok (.astore 4, 2) := by decide +kernel
theorem dX7_rhymes_13 : decode cX7_rhymes 13 = .ok (.aload_n 3, 1) := by decide +kernel
theorem dX7_rhymes_14 : decode cX7_rhymes 14 = .ok (.getfield 164, 3) := by decide +kernel
theorem dX7_rhymes_17 : decode cX7_rhymes 17 = .ok (.aload 4, 2) := by decide +kernel
theorem dX7_rhymes_19 : decode cX7_rhymes 19 = .ok (.getfield 164, 3) := by decide +kernel
theorem dX7_rhymes_22 : decode cX7_rhymes 22 = .ok (.invokevirtual 204, 3) := by decide +kernel
theorem dX7_rhymes_25 : decode cX7_rhymes 25 = .ok (.ireturn, 1) := by decide +kernel
theorem dX7_rhymesWithLandlady_0 : decode cX7_rhymesWithLandlady 0 = .ok (.aload_n 0, 1) := by decide +kernel
theorem dX7_rhymesWithLandlady_1 : decode cX7_rhymesWithLandlady 1 = .ok (.iload_n 1, 1) := by decide +kernel
theorem dX7_rhymesWithLandlady_2 : decode cX7_rhymesWithLandlady 2 = .ok (.invokevirtual 152, 3) := by decide +kernel
theorem dX7_rhymesWithLandlady_5 : decode cX7_rhymesWithLandlady 5 = .ok (.getfield 164, 3) := by decide +kernel
theorem dX7_rhymesWithLandlady_8 : decode cX7_rhymesWithLandlady 8 = .ok (.aload_n 0, 1) := by decide +kernel
theorem dX7_rhymesWithLandlady_9 : decode cX7_rhymesWithLandlady 9 = .ok (.getfield 36, 3) := by decide +kernel
theorem dX7_rhymesWithLandlady_12 : decode cX7_rhymesWithLandlady 12 = .ok (.getfield 136, 3) := by decide +kernel
theorem dX7_rhymesWithLandlady_15 : decode cX7_rhymesWithLandlady 15 = .ok (.invokevirtual 204, 3) := by decide +kernel
theorem dX7_rhymesWithLandlady_18 : decode cX7_rhymesWithLandlady 18 = .ok (.ireturn, 1) := by decide +kernel
theorem dX7_rhymeCount_0 : decode cX7_rhymeCount 0 = .ok (.aload_n 0, 1) := by decide +kernel
theorem dX7_rhymeCount_1 : decode cX7_rhymeCount 1 = .ok (.iload_n 1, 1) := by decide +kernel
theorem dX7_rhymeCount_2 : decode cX7_rhymeCount 2 = .ok (.invokevirtual 152, 3) := by decide +kernel
theorem dX7_rhymeCount_5 : decode cX7_rhymeCount 5 = .ok (.astore_n 2, 1) := by decide +kernel
theorem dX7_rhymeCount_6 : decode cX7_rhymeCount 6 = .ok (.iconst 0, 1) := by decide +kernel
theorem dX7_rhymeCount_7 : decode cX7_rhymeCount 7 = .ok (.istore_n 3, 1) := by decide +kernel
theorem dX7_rhymeCount_8 : decode cX7_rhymeCount 8 = .ok (.iconst 0, 1) := by decide +kernel
theorem dX7_rhymeCount_9 : decode cX7_rhymeCount 9 = .ok (.istore 4, 2) := by decide +kernel
theorem dX7_rhymeCount_11 : decode cX7_rhymeCount 11 = .ok (.iload 4, 2) := by decide +kernel
theorem dX7_rhymeCount_13 : decode cX7_rhymeCount 13 = .ok (.aload_n 0, 1) := by decide +kernel
theorem dX7_rhymeCount_14 : decode cX7_rhymeCount 14 = .ok (.getfield 36, 3) := by decide +kernel
theorem dX7_rhymeCount_17 : decode cX7_rhymeCount 17 = .ok (.getfield 114, 3) := by decide +kernel
theorem dX7_rhymeCount_20 : decode cX7_rhymeCount 20 = .ok (.if_icmp .ge 41, 3) := by decide +kernel
theorem dX7_rhymeCount_23 : decode cX7_rhymeCount 23 = .ok (.iload 4, 2) := by decide +kernel
theorem dX7_rhymeCount_25 : decode cX7_rhymeCount 25 = .ok (.iload_n 1, 1) := by decide +kernel
theorem dX7_rhymeCount_26 : decode cX7_rhymeCount 26 = .ok (.if_icmp .eq 29, 3) := by decide +kernel
theorem dX7_rhymeCount_29 : decode cX7_rhymeCount 29 = .ok (.aload_n 0, 1) := by decide +kernel
theorem dX7_rhymeCount_30 : decode cX7_rhymeCount 30 = .ok (.getfield 36, 3) := by decide +kernel
theorem dX7_rhymeCount_33 : decode cX7_rhymeCount 33 = .ok (.getfield 208, 3) := by decide +kernel
theorem dX7_rhymeCount_36 : decode cX7_rhymeCount 36 = .ok (.iload 4, 2) := by decide +kernel
theorem dX7_rhymeCount_38 : decode cX7_rhymeCount 38 = .ok (.aaload, 1) := by decide +kernel
theorem dX7_rhymeCount_39 : decode cX7_rhymeCount 39 = .ok (.getfield 164, 3) := by decide +kernel
theorem dX7_rhymeCount_42 : decode cX7_rhymeCount 42 = .ok (.aload_n 2, 1) := by decide +kernel
theorem dX7_rhymeCount_43 : decode cX7_rhymeCount 43 = .ok (.getfield 164, 3) := by decide +kernel
theorem dX7_rhymeCount_46 : decode cX7_rhymeCount 46 = .ok (.invokevirtual 204, 3) := by decide +kernel
theorem dX7_rhymeCount_49 : decode cX7_rhymeCount 49 = .ok (.ifCond .eq 6, 3) := by decide +kernel
theorem dX7_rhymeCount_52 : decode cX7_rhymeCount 52 = .ok (.iinc 3 1, 3) := by decide +kernel
theorem dX7_rhymeCount_55 : decode cX7_rhymeCount 55 = .ok (.iinc 4 1, 3) := by decide +kernel
theorem dX7_rhymeCount_58 : decode cX7_rhymeCount 58 = .ok (.goto (-47), 3) := by decide +kernel
theorem dX7_rhymeCount_61 : decode cX7_rhymeCount 61 = .ok (.iload_n 3, 1) := by decide +kernel
theorem dX7_rhymeCount_62 : decode cX7_rhymeCount 62 = .ok (.ireturn, 1) := by decide +kernel
theorem dX7_closestTo_0 : decode cX7_closestTo 0 = .ok (.aload_n 0, 1) := by decide +kernel
theorem dX7_closestTo_1 : decode cX7_closestTo 1 = .ok (.iload_n 1, 1) := by decide +kernel
theorem dX7_closestTo_2 : decode cX7_closestTo 2 = .ok (.invokevirtual 152, 3) := by decide +kernel
theorem dX7_closestTo_5 : decode cX7_closestTo 5 = .ok (.astore_n 2, 1) := by decide +kernel
theorem dX7_closestTo_6 : decode cX7_closestTo 6 = .ok (.iconst (-1), 1) := by decide +kernel
theorem dX7_closestTo_7 : decode cX7_closestTo 7 = .ok (.istore_n 3, 1) := by decide +kernel
theorem dX7_closestTo_8 : decode cX7_closestTo 8 = .ok (.iconst 0, 1) := by decide +kernel
theorem dX7_closestTo_9 : decode cX7_closestTo 9 = .ok (.istore 4, 2) := by decide +kernel
theorem dX7_closestTo_11 : decode cX7_closestTo 11 = .ok (.iconst 0, 1) := by decide +kernel
theorem dX7_closestTo_12 : decode cX7_closestTo 12 = .ok (.istore 5, 2) := by decide +kernel
theorem dX7_closestTo_14 : decode cX7_closestTo 14 = .ok (.iload 5, 2) := by decide +kernel
theorem dX7_closestTo_16 : decode cX7_closestTo 16 = .ok (.aload_n 0, 1) := by decide +kernel
theorem dX7_closestTo_17 : decode cX7_closestTo 17 = .ok (.getfield 36, 3) := by decide +kernel
theorem dX7_closestTo_20 : decode cX7_closestTo 20 = .ok (.getfield 114, 3) := by decide +kernel
theorem dX7_closestTo_23 : decode cX7_closestTo 23 = .ok (.if_icmp .ge 56, 3) := by decide +kernel
theorem dX7_closestTo_26 : decode cX7_closestTo 26 = .ok (.aload_n 0, 1) := by decide +kernel
theorem dX7_closestTo_27 : decode cX7_closestTo 27 = .ok (.getfield 36, 3) := by decide +kernel
theorem dX7_closestTo_30 : decode cX7_closestTo 30 = .ok (.getfield 208, 3) := by decide +kernel
theorem dX7_closestTo_33 : decode cX7_closestTo 33 = .ok (.iload 5, 2) := by decide +kernel
theorem dX7_closestTo_35 : decode cX7_closestTo 35 = .ok (.aaload, 1) := by decide +kernel
theorem dX7_closestTo_36 : decode cX7_closestTo 36 = .ok (.getfield 164, 3) := by decide +kernel
theorem dX7_closestTo_39 : decode cX7_closestTo 39 = .ok (.aload_n 2, 1) := by decide +kernel
theorem dX7_closestTo_40 : decode cX7_closestTo 40 = .ok (.getfield 164, 3) := by decide +kernel
theorem dX7_closestTo_43 : decode cX7_closestTo 43 = .ok (.invokevirtual 200, 3) := by decide +kernel
theorem dX7_closestTo_46 : decode cX7_closestTo 46 = .ok (.istore 6, 2) := by decide +kernel
theorem dX7_closestTo_48 : decode cX7_closestTo 48 = .ok (.iload 5, 2) := by decide +kernel
theorem dX7_closestTo_50 : decode cX7_closestTo 50 = .ok (.iload_n 1, 1) := by decide +kernel
theorem dX7_closestTo_51 : decode cX7_closestTo 51 = .ok (.if_icmp .eq 22, 3) := by decide +kernel
theorem dX7_closestTo_54 : decode cX7_closestTo 54 = .ok (.iload_n 3, 1) := by decide +kernel
theorem dX7_closestTo_55 : decode cX7_closestTo 55 = .ok (.iconst (-1), 1) := by decide +kernel
theorem dX7_closestTo_56 : decode cX7_closestTo 56 = .ok (.if_icmp .eq 10, 3) := by decide +kernel
theorem dX7_closestTo_59 : decode cX7_closestTo 59 = .ok (.iload 6, 2) := by decide +kernel
theorem dX7_closestTo_61 : decode cX7_closestTo 61 = .ok (.iload 4, 2) := by decide +kernel
theorem dX7_closestTo_63 : decode cX7_closestTo 63 = .ok (.if_icmp .ge 10, 3) := by decide +kernel
theorem dX7_closestTo_66 : decode cX7_closestTo 66 = .ok (.iload 5, 2) := by decide +kernel
theorem dX7_closestTo_68 : decode cX7_closestTo 68 = .ok (.istore_n 3, 1) := by decide +kernel
theorem dX7_closestTo_69 : decode cX7_closestTo 69 = .ok (.iload 6, 2) := by decide +kernel
theorem dX7_closestTo_71 : decode cX7_closestTo 71 = .ok (.istore 4, 2) := by decide +kernel
theorem dX7_closestTo_73 : decode cX7_closestTo 73 = .ok (.iinc 5 1, 3) := by decide +kernel
theorem dX7_closestTo_76 : decode cX7_closestTo 76 = .ok (.goto (-62), 3) := by decide +kernel
theorem dX7_closestTo_79 : decode cX7_closestTo 79 = .ok (.iload_n 3, 1) := by decide +kernel
theorem dX7_closestTo_80 : decode cX7_closestTo 80 = .ok (.ireturn, 1) := by decide +kernel
theorem dX7_lessonVowel_0 : decode cX7_lessonVowel 0 = .ok (.aload_n 0, 1) := by decide +kernel
theorem dX7_lessonVowel_1 : decode cX7_lessonVowel 1 = .ok (.iload_n 1, 1) := by decide +kernel
theorem dX7_lessonVowel_2 : decode cX7_lessonVowel 2 = .ok (.invokevirtual 152, 3) := by decide +kernel
theorem dX7_lessonVowel_5 : decode cX7_lessonVowel 5 = .ok (.getfield 164, 3) := by decide +kernel
theorem dX7_lessonVowel_8 : decode cX7_lessonVowel 8 = .ok (.aload_n 0, 1) := by decide +kernel
theorem dX7_lessonVowel_9 : decode cX7_lessonVowel 9 = .ok (.getfield 36, 3) := by decide +kernel
theorem dX7_lessonVowel_12 : decode cX7_lessonVowel 12 = .ok (.getfield 136, 3) := by decide +kernel
theorem dX7_lessonVowel_15 : decode cX7_lessonVowel 15 = .ok (.invokevirtual 212, 3) := by decide +kernel
theorem dX7_lessonVowel_18 : decode cX7_lessonVowel 18 = .ok (.ireturn, 1) := by decide +kernel
theorem dX7_slipVowel_0 : decode cX7_slipVowel 0 = .ok (.aload_n 0, 1) := by decide +kernel
theorem dX7_slipVowel_1 : decode cX7_slipVowel 1 = .ok (.iload_n 1, 1) := by decide +kernel
theorem dX7_slipVowel_2 : decode cX7_slipVowel 2 = .ok (.invokevirtual 152, 3) := by decide +kernel
theorem dX7_slipVowel_5 : decode cX7_slipVowel 5 = .ok (.astore_n 2, 1) := by decide +kernel
theorem dX7_slipVowel_6 : decode cX7_slipVowel 6 = .ok (.aload_n 0, 1) := by decide +kernel
theorem dX7_slipVowel_7 : decode cX7_slipVowel 7 = .ok (.getfield 36, 3) := by decide +kernel
theorem dX7_slipVowel_10 : decode cX7_slipVowel 10 = .ok (.aload_n 2, 1) := by decide +kernel
theorem dX7_slipVowel_11 : decode cX7_slipVowel 11 = .ok (.getfield 156, 3) := by decide +kernel
theorem dX7_slipVowel_14 : decode cX7_slipVowel 14 = .ok (.invokevirtual 215, 3) := by decide +kernel
theorem dX7_slipVowel_17 : decode cX7_slipVowel 17 = .ok (.aload_n 2, 1) := by decide +kernel
theorem dX7_slipVowel_18 : decode cX7_slipVowel 18 = .ok (.getfield 164, 3) := by decide +kernel
theorem dX7_slipVowel_21 : decode cX7_slipVowel 21 = .ok (.aload_n 0, 1) := by decide +kernel
theorem dX7_slipVowel_22 : decode cX7_slipVowel 22 = .ok (.getfield 36, 3) := by decide +kernel
theorem dX7_slipVowel_25 : decode cX7_slipVowel 25 = .ok (.getfield 218, 3) := by decide +kernel
theorem dX7_slipVowel_28 : decode cX7_slipVowel 28 = .ok (.invokevirtual 212, 3) := by decide +kernel
theorem dX7_slipVowel_31 : decode cX7_slipVowel 31 = .ok (.ireturn, 1) := by decide +kernel
theorem dX7_mustGo_0 : decode cX7_mustGo 0 = .ok (.aload_n 0, 1) := by decide +kernel
theorem dX7_mustGo_1 : decode cX7_mustGo 1 = .ok (.getfield 36, 3) := by decide +kernel
theorem dX7_mustGo_4 : decode cX7_mustGo 4 = .ok (.aload_n 0, 1) := by decide +kernel
theorem dX7_mustGo_5 : decode cX7_mustGo 5 = .ok (.iload_n 1, 1) := by decide +kernel
theorem dX7_mustGo_6 : decode cX7_mustGo 6 = .ok (.invokevirtual 152, 3) := by decide +kernel
theorem dX7_mustGo_9 : decode cX7_mustGo 9 = .ok (.invokevirtual 221, 3) := by decide +kernel
theorem dX7_mustGo_12 : decode cX7_mustGo 12 = .ok (.ireturn, 1) := by decide +kernel
theorem dX7_meanDistance_0 : decode cX7_meanDistance 0 = .ok (.aload_n 0, 1) := by decide +kernel
theorem dX7_meanDistance_1 : decode cX7_meanDistance 1 = .ok (.getfield 36, 3) := by decide +kernel
theorem dX7_meanDistance_4 : decode cX7_meanDistance 4 = .ok (.getfield 114, 3) := by decide +kernel
theorem dX7_meanDistance_7 : decode cX7_meanDistance 7 = .ok (.ifCond .ne 5, 3) := by decide +kernel
theorem dX7_meanDistance_10 : decode cX7_meanDistance 10 = .ok (.dconst 0, 1) := by decide +kernel
theorem dX7_meanDistance_11 : decode cX7_meanDistance 11 = .ok (.dreturn, 1) := by decide +kernel
theorem dX7_meanDistance_12 : decode cX7_meanDistance 12 = .ok (.iconst 0, 1) := by decide +kernel
theorem dX7_meanDistance_13 : decode cX7_meanDistance 13 = .ok (.istore_n 1, 1) := by decide +kernel
theorem dX7_meanDistance_14 : decode cX7_meanDistance 14 = .ok (.iconst 0, 1) := by decide +kernel
theorem dX7_meanDistance_15 : decode cX7_meanDistance 15 = .ok (.istore_n 2, 1) := by decide +kernel
theorem dX7_meanDistance_16 : decode cX7_meanDistance 16 = .ok (.iload_n 2, 1) := by decide +kernel
theorem dX7_meanDistance_17 : decode cX7_meanDistance 17 = .ok (.aload_n 0, 1) := by decide +kernel
theorem dX7_meanDistance_18 : decode cX7_meanDistance 18 = .ok (.getfield 36, 3) := by decide +kernel
theorem dX7_meanDistance_21 : decode cX7_meanDistance 21 = .ok (.getfield 114, 3) := by decide +kernel
theorem dX7_meanDistance_24 : decode cX7_meanDistance 24 = .ok (.if_icmp .ge 34, 3) := by decide +kernel
theorem dX7_meanDistance_27 : decode cX7_meanDistance 27 = .ok (.iload_n 1, 1) := by decide +kernel
theorem dX7_meanDistance_28 : decode cX7_meanDistance 28 = .ok (.aload_n 0, 1) := by decide +kernel
theorem dX7_meanDistance_29 : decode cX7_meanDistance 29 = .ok (.getfield 36, 3) := by decide +kernel
theorem dX7_meanDistance_32 : decode cX7_meanDistance 32 = .ok (.getfield 208, 3) := by decide +kernel
theorem dX7_meanDistance_35 : decode cX7_meanDistance 35 = .ok (.iload_n 2, 1) := by decide +kernel
theorem dX7_meanDistance_36 : decode cX7_meanDistance 36 = .ok (.aaload, 1) := by decide +kernel
theorem dX7_meanDistance_37 : decode cX7_meanDistance 37 = .ok (.getfield 164, 3) := by decide +kernel
theorem dX7_meanDistance_40 : decode cX7_meanDistance 40 = .ok (.aload_n 0, 1) := by decide +kernel
theorem dX7_meanDistance_41 : decode cX7_meanDistance 41 = .ok (.getfield 36, 3) := by decide +kernel
theorem dX7_meanDistance_44 : decode cX7_meanDistance 44 = .ok (.getfield 136, 3) := by decide +kernel
theorem dX7_meanDistance_47 : decode cX7_meanDistance 47 = .ok (.invokevirtual 200, 3) := by decide +kernel
theorem dX7_meanDistance_50 : decode cX7_meanDistance 50 = .ok (.iadd, 1) := by decide +kernel
theorem dX7_meanDistance_51 : decode cX7_meanDistance 51 = .ok (.istore_n 1, 1) := by decide +kernel
theorem dX7_meanDistance_52 : decode cX7_meanDistance 52 = .ok (.iinc 2 1, 3) := by decide +kernel
theorem dX7_meanDistance_55 : decode cX7_meanDistance 55 = .ok (.goto (-39), 3) := by decide +kernel
theorem dX7_meanDistance_58 : decode cX7_meanDistance 58 = .ok (.iload_n 1, 1) := by decide +kernel
theorem dX7_meanDistance_59 : decode cX7_meanDistance 59 = .ok (.i2d, 1) := by decide +kernel
theorem dX7_meanDistance_60 : decode cX7_meanDistance 60 = .ok (.aload_n 0, 1) := by decide +kernel
theorem dX7_meanDistance_61 : decode cX7_meanDistance 61 = .ok (.getfield 36, 3) := by decide +kernel
theorem dX7_meanDistance_64 : decode cX7_meanDistance 64 = .ok (.getfield 114, 3) := by decide +kernel
theorem dX7_meanDistance_67 : decode cX7_meanDistance 67 = .ok (.i2d, 1) := by decide +kernel
theorem dX7_meanDistance_68 : decode cX7_meanDistance 68 = .ok (.ddiv, 1) := by decide +kernel
theorem dX7_meanDistance_69 : decode cX7_meanDistance 69 = .ok (.dreturn, 1) := by decide +kernel
theorem dX7_rhymingShare_0 : decode cX7_rhymingShare 0 = .ok (.aload_n 0, 1) := by decide +kernel
theorem dX7_rhymingShare_1 : decode cX7_rhymingShare 1 = .ok (.getfield 36, 3) := by decide +kernel
theorem dX7_rhymingShare_4 : decode cX7_rhymingShare 4 = .ok (.getfield 114, 3) := by decide +kernel
theorem dX7_rhymingShare_7 : decode cX7_rhymingShare 7 = .ok (.ifCond .ne 5, 3) := by decide +kernel
theorem dX7_rhymingShare_10 : decode cX7_rhymingShare 10 = .ok (.fconst 0, 1) := by decide +kernel
theorem dX7_rhymingShare_11 : decode cX7_rhymingShare 11 = .ok (.freturn, 1) := by decide +kernel
theorem dX7_rhymingShare_12 : decode cX7_rhymingShare 12 = .ok (.iconst 0, 1) := by decide +kernel
theorem dX7_rhymingShare_13 : decode cX7_rhymingShare 13 = .ok (.istore_n 1, 1) := by decide +kernel
theorem dX7_rhymingShare_14 : decode cX7_rhymingShare 14 = .ok (.iconst 0, 1) := by decide +kernel
theorem dX7_rhymingShare_15 : decode cX7_rhymingShare 15 = .ok (.istore_n 2, 1) := by decide +kernel
theorem dX7_rhymingShare_16 : decode cX7_rhymingShare 16 = .ok (.iload_n 2, 1) := by decide +kernel
theorem dX7_rhymingShare_17 : decode cX7_rhymingShare 17 = .ok (.aload_n 0, 1) := by decide +kernel
theorem dX7_rhymingShare_18 : decode cX7_rhymingShare 18 = .ok (.getfield 36, 3) := by decide +kernel
theorem dX7_rhymingShare_21 : decode cX7_rhymingShare 21 = .ok (.getfield 114, 3) := by decide +kernel
theorem dX7_rhymingShare_24 : decode cX7_rhymingShare 24 = .ok (.if_icmp .ge 37, 3) := by decide +kernel
theorem dX7_rhymingShare_27 : decode cX7_rhymingShare 27 = .ok (.aload_n 0, 1) := by decide +kernel
theorem dX7_rhymingShare_28 : decode cX7_rhymingShare 28 = .ok (.getfield 36, 3) := by decide +kernel
theorem dX7_rhymingShare_31 : decode cX7_rhymingShare 31 = .ok (.getfield 208, 3) := by decide +kernel
theorem dX7_rhymingShare_34 : decode cX7_rhymingShare 34 = .ok (.iload_n 2, 1) := by decide +kernel
theorem dX7_rhymingShare_35 : decode cX7_rhymingShare 35 = .ok (.aaload, 1) := by decide +kernel
theorem dX7_rhymingShare_36 : decode cX7_rhymingShare 36 = .ok (.getfield 164, 3) := by decide +kernel
theorem dX7_rhymingShare_39 : decode cX7_rhymingShare 39 = .ok (.aload_n 0, 1) := by decide +kernel
theorem dX7_rhymingShare_40 : decode cX7_rhymingShare 40 = .ok (.getfield 36, 3) := by decide +kernel
theorem dX7_rhymingShare_43 : decode cX7_rhymingShare 43 = .ok (.getfield 136, 3) := by decide +kernel
theorem dX7_rhymingShare_46 : decode cX7_rhymingShare 46 = .ok (.invokevirtual 204, 3) := by decide +kernel
theorem dX7_rhymingShare_49 : decode cX7_rhymingShare 49 = .ok (.ifCond .eq 6, 3) := by decide +kernel
theorem dX7_rhymingShare_52 : decode cX7_rhymingShare 52 = .ok (.iinc 1 1, 3) := by decide +kernel
theorem dX7_rhymingShare_55 : decode cX7_rhymingShare 55 = .ok (.iinc 2 1, 3) := by decide +kernel
theorem dX7_rhymingShare_58 : decode cX7_rhymingShare 58 = .ok (.goto (-42), 3) := by decide +kernel
theorem dX7_rhymingShare_61 : decode cX7_rhymingShare 61 = .ok (.iload_n 1, 1) := by decide +kernel
theorem dX7_rhymingShare_62 : decode cX7_rhymingShare 62 = .ok (.i2f, 1) := by decide +kernel
theorem dX7_rhymingShare_63 : decode cX7_rhymingShare 63 = .ok (.aload_n 0, 1) := by decide +kernel
theorem dX7_rhymingShare_64 : decode cX7_rhymingShare 64 = .ok (.getfield 36, 3) := by decide +kernel
theorem dX7_rhymingShare_67 : decode cX7_rhymingShare 67 = .ok (.getfield 114, 3) := by decide +kernel
theorem dX7_rhymingShare_70 : decode cX7_rhymingShare 70 = .ok (.i2f, 1) := by decide +kernel
theorem dX7_rhymingShare_71 : decode cX7_rhymingShare 71 = .ok (.fdiv, 1) := by decide +kernel
theorem dX7_rhymingShare_72 : decode cX7_rhymingShare 72 = .ok (.freturn, 1) := by decide +kernel
theorem dX7_balanceAfter_0 : decode cX7_balanceAfter 0 = .ok (.aload_n 0, 1) := by decide +kernel
theorem dX7_balanceAfter_1 : decode cX7_balanceAfter 1 = .ok (.iload_n 1, 1) := by decide +kernel
theorem dX7_balanceAfter_2 : decode cX7_balanceAfter 2 = .ok (.invokevirtual 152, 3) := by decide +kernel
theorem dX7_balanceAfter_5 : decode cX7_balanceAfter 5 = .ok (.pop, 1) := by decide +kernel
theorem dX7_balanceAfter_6 : decode cX7_balanceAfter 6 = .ok (.aload_n 0, 1) := by decide +kernel
theorem dX7_balanceAfter_7 : decode cX7_balanceAfter 7 = .ok (.iload_n 2, 1) := by decide +kernel
theorem dX7_balanceAfter_8 : decode cX7_balanceAfter 8 = .ok (.iconst 0, 1) := by decide +kernel
theorem dX7_balanceAfter_9 : decode cX7_balanceAfter 9 = .ok (.bipush 100, 2) := by decide +kernel
theorem dX7_balanceAfter_11 : decode cX7_balanceAfter 11 = .ok (.invokevirtual 225, 3) := by decide +kernel
theorem dX7_balanceAfter_14 : decode cX7_balanceAfter 14 = .ok (.aload_n 0, 1) := by decide +kernel
theorem dX7_balanceAfter_15 : decode cX7_balanceAfter 15 = .ok (.iload_n 1, 1) := by decide +kernel
theorem dX7_balanceAfter_16 : decode cX7_balanceAfter 16 = .ok (.invokevirtual 229, 3) := by decide +kernel
theorem dX7_balanceAfter_19 : decode cX7_balanceAfter 19 = .ok (.astore_n 3, 1) := by decide +kernel
theorem dX7_balanceAfter_20 : decode cX7_balanceAfter 20 = .ok (.aload_n 0, 1) := by decide +kernel
theorem dX7_balanceAfter_21 : decode cX7_balanceAfter 21 = .ok (.aload_n 3, 1) := by decide +kernel
theorem dX7_balanceAfter_22 : decode cX7_balanceAfter 22 = .ok (.iload_n 2, 1) := by decide +kernel
theorem dX7_balanceAfter_23 : decode cX7_balanceAfter 23 = .ok (.invokevirtual 232, 3) := by decide +kernel
theorem dX7_balanceAfter_26 : decode cX7_balanceAfter 26 = .ok (.pop, 1) := by decide +kernel
theorem dX7_balanceAfter_27 : decode cX7_balanceAfter 27 = .ok (.aload_n 3, 1) := by decide +kernel
theorem dX7_balanceAfter_28 : decode cX7_balanceAfter 28 = .ok (.getfield 161, 3) := by decide +kernel
theorem dX7_balanceAfter_31 : decode cX7_balanceAfter 31 = .ok (.ireturn, 1) := by decide +kernel
theorem dX7_distanceAfter_0 : decode cX7_distanceAfter 0 = .ok (.aload_n 0, 1) := by decide +kernel
theorem dX7_distanceAfter_1 : decode cX7_distanceAfter 1 = .ok (.iload_n 1, 1) := by decide +kernel
theorem dX7_distanceAfter_2 : decode cX7_distanceAfter 2 = .ok (.invokevirtual 152, 3) := by decide +kernel
theorem dX7_distanceAfter_5 : decode cX7_distanceAfter 5 = .ok (.pop, 1) := by decide +kernel
theorem dX7_distanceAfter_6 : decode cX7_distanceAfter 6 = .ok (.aload_n 0, 1) := by decide +kernel
theorem dX7_distanceAfter_7 : decode cX7_distanceAfter 7 = .ok (.iload_n 2, 1) := by decide +kernel
theorem dX7_distanceAfter_8 : decode cX7_distanceAfter 8 = .ok (.iconst 0, 1) := by decide +kernel
theorem dX7_distanceAfter_9 : decode cX7_distanceAfter 9 = .ok (.bipush 100, 2) := by decide +kernel
theorem dX7_distanceAfter_11 : decode cX7_distanceAfter 11 = .ok (.invokevirtual 225, 3) := by decide +kernel
theorem dX7_distanceAfter_14 : decode cX7_distanceAfter 14 = .ok (.aload_n 0, 1) := by decide +kernel
theorem dX7_distanceAfter_15 : decode cX7_distanceAfter 15 = .ok (.iload_n 1, 1) := by decide +kernel
theorem dX7_distanceAfter_16 : decode cX7_distanceAfter 16 = .ok (.invokevirtual 229, 3) := by decide +kernel
theorem dX7_distanceAfter_19 : decode cX7_distanceAfter 19 = .ok (.astore_n 3, 1) := by decide +kernel
theorem dX7_distanceAfter_20 : decode cX7_distanceAfter 20 = .ok (.aload_n 0, 1) := by decide +kernel
theorem dX7_distanceAfter_21 : decode cX7_distanceAfter 21 = .ok (.aload_n 3, 1) := by decide +kernel
theorem dX7_distanceAfter_22 : decode cX7_distanceAfter 22 = .ok (.iload_n 2, 1) := by decide +kernel
theorem dX7_distanceAfter_23 : decode cX7_distanceAfter 23 = .ok (.invokevirtual 232, 3) := by decide +kernel
theorem dX7_distanceAfter_26 : decode cX7_distanceAfter 26 = .ok (.istore 4, 2) := by decide +kernel
theorem dX7_distanceAfter_28 : decode cX7_distanceAfter 28 = .ok (.iload 4, 2) := by decide +kernel
theorem dX7_distanceAfter_30 : decode cX7_distanceAfter 30 = .ok (.iconst (-1), 1) := by decide +kernel
theorem dX7_distanceAfter_31 : decode cX7_distanceAfter 31 = .ok (.if_icmp .ne 20, 3) := by decide +kernel
theorem dX7_distanceAfter_34 : decode cX7_distanceAfter 34 = .ok (.aload_n 3, 1) := by decide +kernel
theorem dX7_distanceAfter_35 : decode cX7_distanceAfter 35 = .ok (.getfield 164, 3) := by decide +kernel
theorem dX7_distanceAfter_38 : decode cX7_distanceAfter 38 = .ok (.aload_n 0, 1) := by decide +kernel
theorem dX7_distanceAfter_39 : decode cX7_distanceAfter 39 = .ok (.getfield 40, 3) := by decide +kernel
theorem dX7_distanceAfter_42 : decode cX7_distanceAfter 42 = .ok (.getfield 136, 3) := by decide +kernel
theorem dX7_distanceAfter_45 : decode cX7_distanceAfter 45 = .ok (.invokevirtual 200, 3) := by decide +kernel
theorem dX7_distanceAfter_48 : decode cX7_distanceAfter 48 = .ok (.goto 4, 3) := by decide +kernel
theorem dX7_distanceAfter_51 : decode cX7_distanceAfter 51 = .ok (.iconst (-1), 1) := by decide +kernel
theorem dX7_distanceAfter_52 : decode cX7_distanceAfter 52 = .ok (.ireturn, 1) := by decide +kernel
theorem dX7_daysToEviction_0 : decode cX7_daysToEviction 0 = .ok (.aload_n 0, 1) := by decide +kernel
theorem dX7_daysToEviction_1 : decode cX7_daysToEviction 1 = .ok (.iload_n 1, 1) := by decide +kernel
theorem dX7_daysToEviction_2 : decode cX7_daysToEviction 2 = .ok (.invokevirtual 152, 3) := by decide +kernel
theorem dX7_daysToEviction_5 : decode cX7_daysToEviction 5 = .ok (.pop, 1) := by decide +kernel
theorem dX7_daysToEviction_6 : decode cX7_daysToEviction 6 = .ok (.aload_n 0, 1) := by decide +kernel
theorem dX7_daysToEviction_7 : decode cX7_daysToEviction 7 = .ok (.aload_n 0, 1) := by decide +kernel
theorem dX7_daysToEviction_8 : decode cX7_daysToEviction 8 = .ok (.iload_n 1, 1) := by decide +kernel
theorem dX7_daysToEviction_9 : decode cX7_daysToEviction 9 = .ok (.invokevirtual 229, 3) := by decide +kernel
theorem dX7_daysToEviction_12 : decode cX7_daysToEviction 12 = .ok (.bipush 100, 2) := by decide +kernel
theorem dX7_daysToEviction_14 : decode cX7_daysToEviction 14 = .ok (.invokevirtual 232, 3) := by decide +kernel
theorem dX7_daysToEviction_17 : decode cX7_daysToEviction 17 = .ok (.ireturn, 1) := by decide +kernel
theorem dX7_paymentToStay_0 : decode cX7_paymentToStay 0 = .ok (.aload_n 0, 1) := by decide +kernel
theorem dX7_paymentToStay_1 : decode cX7_paymentToStay 1 = .ok (.iload_n 1, 1) := by decide +kernel
theorem dX7_paymentToStay_2 : decode cX7_paymentToStay 2 = .ok (.invokevirtual 152, 3) := by decide +kernel
theorem dX7_paymentToStay_5 : decode cX7_paymentToStay 5 = .ok (.astore_n 2, 1) := by decide +kernel
theorem dX7_paymentToStay_6 : decode cX7_paymentToStay 6 = .ok (.aload_n 0, 1) := by decide +kernel
theorem dX7_paymentToStay_7 : decode cX7_paymentToStay 7 = .ok (.iload_n 1, 1) := by decide +kernel
theorem dX7_paymentToStay_8 : decode cX7_paymentToStay 8 = .ok (.iconst 0, 1) := by decide +kernel
theorem dX7_paymentToStay_9 : decode cX7_paymentToStay 9 = .ok (.invokevirtual 236, 3) := by decide +kernel
theorem dX7_paymentToStay_12 : decode cX7_paymentToStay 12 = .ok (.ifCond .eq 5, 3) := by decide +kernel
theorem dX7_paymentToStay_15 : decode cX7_paymentToStay 15 = .ok (.iconst 0, 1) := by decide +kernel
theorem dX7_paymentToStay_16 : decode cX7_paymentToStay 16 = .ok (.ireturn, 1) := by decide +kernel
theorem dX7_paymentToStay_17 : decode cX7_paymentToStay 17 = .ok (.aload_n 0, 1) := by decide +kernel
theorem dX7_paymentToStay_18 : decode cX7_paymentToStay 18 = .ok (.getfield 36, 3) := by decide +kernel
theorem dX7_paymentToStay_21 : decode cX7_paymentToStay 21 = .ok (.aload_n 2, 1) := by decide +kernel
theorem dX7_paymentToStay_22 : decode cX7_paymentToStay 22 = .ok (.getfield 156, 3) := by decide +kernel
theorem dX7_paymentToStay_25 : decode cX7_paymentToStay 25 = .ok (.invokevirtual 129, 3) := by decide +kernel
theorem dX7_paymentToStay_28 : decode cX7_paymentToStay 28 = .ok (.istore_n 3, 1) := by decide +kernel
theorem dX7_paymentToStay_29 : decode cX7_paymentToStay 29 = .ok (.aload_n 0, 1) := by decide +kernel
theorem dX7_paymentToStay_30 : decode cX7_paymentToStay 30 = .ok (.invokevirtual 240, 3) := by decide +kernel
theorem dX7_paymentToStay_33 : decode cX7_paymentToStay 33 = .ok (.istore 4, 2) := by decide +kernel
theorem dX7_paymentToStay_35 : decode cX7_paymentToStay 35 = .ok (.iconst 1, 1) := by decide +kernel
theorem dX7_paymentToStay_36 : decode cX7_paymentToStay 36 = .ok (.istore 5, 2) := by decide +kernel
theorem dX7_paymentToStay_38 : decode cX7_paymentToStay 38 = .ok (.iload 5, 2) := by decide +kernel
theorem dX7_paymentToStay_40 : decode cX7_paymentToStay 40 = .ok (.iload 4, 2) := by decide +kernel
theorem dX7_paymentToStay_42 : decode cX7_paymentToStay 42 = .ok (.if_icmp .gt 47, 3) := by decide +kernel
theorem dX7_paymentToStay_45 : decode cX7_paymentToStay 45 = .ok (.iload 5, 2) := by decide +kernel
theorem dX7_paymentToStay_47 : decode cX7_paymentToStay 47 = .ok (.iload_n 3, 1) := by decide +kernel
theorem dX7_paymentToStay_48 : decode cX7_paymentToStay 48 = .ok (.imul, 1) := by decide +kernel
theorem dX7_paymentToStay_49 : decode cX7_paymentToStay 49 = .ok (.aload_n 2, 1) := by decide +kernel
theorem dX7_paymentToStay_50 : decode cX7_paymentToStay 50 = .ok (.getfield 161, 3) := by decide +kernel
theorem dX7_paymentToStay_53 : decode cX7_paymentToStay 53 = .ok (.isub, 1) := by decide +kernel
theorem dX7_paymentToStay_54 : decode cX7_paymentToStay 54 = .ok (.istore 6, 2) := by decide +kernel
theorem dX7_paymentToStay_56 : decode cX7_paymentToStay 56 = .ok (.iload 6, 2) := by decide +kernel
theorem dX7_paymentToStay_58 : decode cX7_paymentToStay 58 = .ok (.iconst 1, 1) := by decide +kernel
theorem dX7_paymentToStay_59 : decode cX7_paymentToStay 59 = .ok (.if_icmp .lt 24, 3) := by decide +kernel
theorem dX7_paymentToStay_62 : decode cX7_paymentToStay 62 = .ok (.iload 6, 2) := by decide +kernel
theorem dX7_paymentToStay_64 : decode cX7_paymentToStay 64 = .ok (.sipush 999, 3) := by decide +kernel
theorem dX7_paymentToStay_67 : decode cX7_paymentToStay 67 = .ok (.if_icmp .gt 16, 3) := by decide +kernel
theorem dX7_paymentToStay_70 : decode cX7_paymentToStay 70 = .ok (.aload_n 0, 1) := by decide +kernel
theorem dX7_paymentToStay_71 : decode cX7_paymentToStay 71 = .ok (.iload_n 1, 1) := by decide +kernel
theorem dX7_paymentToStay_72 : decode cX7_paymentToStay 72 = .ok (.iload 6, 2) := by decide +kernel
theorem dX7_paymentToStay_74 : decode cX7_paymentToStay 74 = .ok (.invokevirtual 236, 3) := by decide +kernel
theorem dX7_paymentToStay_77 : decode cX7_paymentToStay 77 = .ok (.ifCond .eq 6, 3) := by decide +kernel
theorem dX7_paymentToStay_80 : decode cX7_paymentToStay 80 = .ok (.iload 6, 2) := by decide +kernel
theorem dX7_paymentToStay_82 : decode cX7_paymentToStay 82 = .ok (.ireturn, 1) := by decide +kernel
theorem dX7_paymentToStay_83 : decode cX7_paymentToStay 83 = .ok (.iinc 5 1, 3) := by decide +kernel
theorem dX7_paymentToStay_86 : decode cX7_paymentToStay 86 = .ok (.goto (-48), 3) := by decide +kernel
theorem dX7_paymentToStay_89 : decode cX7_paymentToStay 89 = .ok (.iconst (-1), 1) := by decide +kernel
theorem dX7_paymentToStay_90 : decode cX7_paymentToStay 90 = .ok (.ireturn, 1) := by decide +kernel
theorem dX7_staysWith_0 : decode cX7_staysWith 0 = .ok (.aload_n 0, 1) := by decide +kernel
theorem dX7_staysWith_1 : decode cX7_staysWith 1 = .ok (.iload_n 1, 1) := by decide +kernel
theorem dX7_staysWith_2 : decode cX7_staysWith 2 = .ok (.invokevirtual 229, 3) := by decide +kernel
theorem dX7_staysWith_5 : decode cX7_staysWith 5 = .ok (.astore_n 3, 1) := by decide +kernel
theorem dX7_staysWith_6 : decode cX7_staysWith 6 = .ok (.aload_n 3, 1) := by decide +kernel
theorem dX7_staysWith_7 : decode cX7_staysWith 7 = .ok (.dup, 1) := by decide +kernel
theorem dX7_staysWith_8 : decode cX7_staysWith 8 = .ok (.getfield 161, 3) := by decide +kernel
theorem dX7_staysWith_11 : decode cX7_staysWith 11 = .ok (.iload_n 2, 1) := by decide +kernel
theorem dX7_staysWith_12 : decode cX7_staysWith 12 = .ok (.iadd, 1) := by decide +kernel
theorem dX7_staysWith_13 : decode cX7_staysWith 13 = .ok (.putfield 161, 3) := by decide +kernel
theorem dX7_staysWith_16 : decode cX7_staysWith 16 = .ok (.aload_n 0, 1) := by decide +kernel
theorem dX7_staysWith_17 : decode cX7_staysWith 17 = .ok (.aload_n 3, 1) := by decide +kernel
theorem dX7_staysWith_18 : decode cX7_staysWith 18 = .ok (.aload_n 0, 1) := by decide +kernel
theorem dX7_staysWith_19 : decode cX7_staysWith 19 = .ok (.invokevirtual 240, 3) := by decide +kernel
theorem dX7_staysWith_22 : decode cX7_staysWith 22 = .ok (.invokevirtual 232, 3) := by decide +kernel
theorem dX7_staysWith_25 : decode cX7_staysWith 25 = .ok (.iconst (-1), 1) := by decide +kernel
theorem dX7_staysWith_26 : decode cX7_staysWith 26 = .ok (.if_icmp .ne 7, 3) := by decide +kernel
theorem dX7_staysWith_29 : decode cX7_staysWith 29 = .ok (.iconst 1, 1) := by decide +kernel
theorem dX7_staysWith_30 : decode cX7_staysWith 30 = .ok (.goto 4, 3) := by decide +kernel
theorem dX7_staysWith_33 : decode cX7_staysWith 33 = .ok (.iconst 0, 1) := by decide +kernel
theorem dX7_staysWith_34 : decode cX7_staysWith 34 = .ok (.ireturn, 1) := by decide +kernel
theorem dX7_startTrial_0 : decode cX7_startTrial 0 = .ok (.aload_n 0, 1) := by decide +kernel
theorem dX7_startTrial_1 : decode cX7_startTrial 1 = .ok (.getfield 40, 3) := by decide +kernel
theorem dX7_startTrial_4 : decode cX7_startTrial 4 = .ok (.aload_n 0, 1) := by decide +kernel
theorem dX7_startTrial_5 : decode cX7_startTrial 5 = .ok (.getfield 36, 3) := by decide +kernel
theorem dX7_startTrial_8 : decode cX7_startTrial 8 = .ok (.invokevirtual 75, 3) := by decide +kernel
theorem dX7_startTrial_11 : decode cX7_startTrial 11 = .ok (.aload_n 0, 1) := by decide +kernel
theorem dX7_startTrial_12 : decode cX7_startTrial 12 = .ok (.getfield 40, 3) := by decide +kernel
theorem dX7_startTrial_15 : decode cX7_startTrial 15 = .ok (.getfield 208, 3) := by decide +kernel
theorem dX7_startTrial_18 : decode cX7_startTrial 18 = .ok (.iload_n 1, 1) := by decide +kernel
theorem dX7_startTrial_19 : decode cX7_startTrial 19 = .ok (.aaload, 1) := by decide +kernel
theorem dX7_startTrial_20 : decode cX7_startTrial 20 = .ok (.areturn, 1) := by decide +kernel
theorem dX7_runTrial_0 : decode cX7_runTrial 0 = .ok (.iconst 1, 1) := by decide +kernel
theorem dX7_runTrial_1 : decode cX7_runTrial 1 = .ok (.istore_n 3, 1) := by decide +kernel
theorem dX7_runTrial_2 : decode cX7_runTrial 2 = .ok (.iload_n 3, 1) := by decide +kernel
theorem dX7_runTrial_3 : decode cX7_runTrial 3 = .ok (.iload_n 2, 1) := by decide +kernel
theorem dX7_runTrial_4 : decode cX7_runTrial 4 = .ok (.if_icmp .gt 29, 3) := by decide +kernel
theorem dX7_runTrial_7 : decode cX7_runTrial 7 = .ok (.aload_n 0, 1) := by decide +kernel
theorem dX7_runTrial_8 : decode cX7_runTrial 8 = .ok (.getfield 40, 3) := by decide +kernel
theorem dX7_runTrial_11 : decode cX7_runTrial 11 = .ok (.invokevirtual 243, 3) := by decide +kernel
theorem dX7_runTrial_14 : decode cX7_runTrial 14 = .ok (.aload_n 0, 1) := by decide +kernel
theorem dX7_runTrial_15 : decode cX7_runTrial 15 = .ok (.getfield 40, 3) := by decide +kernel
theorem dX7_runTrial_18 : decode cX7_runTrial 18 = .ok (.aload_n 1, 1) := by decide +kernel
theorem dX7_runTrial_19 : decode cX7_runTrial 19 = .ok (.invokevirtual 246, 3) := by decide +kernel
theorem dX7_runTrial_22 : decode cX7_runTrial 22 = .ok (.ifCond .ne 5, 3) := by decide +kernel
theorem dX7_runTrial_25 : decode cX7_runTrial 25 = .ok (.iload_n 3, 1) := by decide +kernel
theorem dX7_runTrial_26 : decode cX7_runTrial 26 = .ok (.ireturn, 1) := by decide +kernel
theorem dX7_runTrial_27 : decode cX7_runTrial 27 = .ok (.iinc 3 1, 3) := by decide +kernel
theorem dX7_runTrial_30 : decode cX7_runTrial 30 = .ok (.goto (-28), 3) := by decide +kernel
theorem dX7_runTrial_33 : decode cX7_runTrial 33 = .ok (.iconst (-1), 1) := by decide +kernel
theorem dX7_runTrial_34 : decode cX7_runTrial 34 = .ok (.ireturn, 1) := by decide +kernel
theorem dX7_totalPaid_0 : decode cX7_totalPaid 0 = .ok (.aload_n 0, 1) := by decide +kernel
theorem dX7_totalPaid_1 : decode cX7_totalPaid 1 = .ok (.getfield 36, 3) := by decide +kernel
theorem dX7_totalPaid_4 : decode cX7_totalPaid 4 = .ok (.getfield 249, 3) := by decide +kernel
theorem dX7_totalPaid_7 : decode cX7_totalPaid 7 = .ok (.ireturn, 1) := by decide +kernel
theorem dX7_totalCharged_0 : decode cX7_totalCharged 0 = .ok (.aload_n 0, 1) := by decide +kernel
theorem dX7_totalCharged_1 : decode cX7_totalCharged 1 = .ok (.getfield 36, 3) := by decide +kernel
theorem dX7_totalCharged_4 : decode cX7_totalCharged 4 = .ok (.getfield 252, 3) := by decide +kernel
theorem dX7_totalCharged_7 : decode cX7_totalCharged 7 = .ok (.ireturn, 1) := by decide +kernel
theorem dX7_settled_0 : decode cX7_settled 0 = .ok (.aload_n 0, 1) := by decide +kernel
theorem dX7_settled_1 : decode cX7_settled 1 = .ok (.getfield 36, 3) := by decide +kernel
theorem dX7_settled_4 : decode cX7_settled 4 = .ok (.getfield 255, 3) := by decide +kernel
theorem dX7_settled_7 : decode cX7_settled 7 = .ok (.ireturn, 1) := by decide +kernel
theorem dX7_ledgerDifference_0 : decode cX7_ledgerDifference 0 = .ok (.iconst 0, 1) := by decide +kernel
theorem dX7_ledgerDifference_1 : decode cX7_ledgerDifference 1 = .ok (.istore_n 1, 1) := by decide +kernel
theorem dX7_ledgerDifference_2 : decode cX7_ledgerDifference 2 = .ok (.iconst 0, 1) := by decide +kernel
theorem dX7_ledgerDifference_3 : decode cX7_ledgerDifference 3 = .ok (.istore_n 2, 1) := by decide +kernel
theorem dX7_ledgerDifference_4 : decode cX7_ledgerDifference 4 = .ok (.iload_n 2, 1) := by decide +kernel
theorem dX7_ledgerDifference_5 : decode cX7_ledgerDifference 5 = .ok (.aload_n 0, 1) := by decide +kernel
theorem dX7_ledgerDifference_6 : decode cX7_ledgerDifference 6 = .ok (.getfield 36, 3) := by decide +kernel
theorem dX7_ledgerDifference_9 : decode cX7_ledgerDifference 9 = .ok (.getfield 114, 3) := by decide +kernel
theorem dX7_ledgerDifference_12 : decode cX7_ledgerDifference 12 = .ok (.if_icmp .ge 24, 3) := by decide +kernel
theorem dX7_ledgerDifference_15 : decode cX7_ledgerDifference 15 = .ok (.iload_n 1, 1) := by decide +kernel
theorem dX7_ledgerDifference_16 : decode cX7_ledgerDifference 16 = .ok (.aload_n 0, 1) := by decide +kernel
theorem dX7_ledgerDifference_17 : decode cX7_ledgerDifference 17 = .ok (.getfield 36, 3) := by decide +kernel
theorem dX7_ledgerDifference_20 : decode cX7_ledgerDifference 20 = .ok (.getfield 208, 3) := by decide +kernel
theorem dX7_ledgerDifference_23 : decode cX7_ledgerDifference 23 = .ok (.iload_n 2, 1) := by decide +kernel
theorem dX7_ledgerDifference_24 : decode cX7_ledgerDifference 24 = .ok (.aaload, 1) := by decide +kernel
theorem dX7_ledgerDifference_25 : decode cX7_ledgerDifference 25 = .ok (.getfield 161, 3) := by decide +kernel
theorem dX7_ledgerDifference_28 : decode cX7_ledgerDifference 28 = .ok (.iadd, 1) := by decide +kernel
theorem dX7_ledgerDifference_29 : decode cX7_ledgerDifference 29 = .ok (.istore_n 1, 1) := by decide +kernel
theorem dX7_ledgerDifference_30 : decode cX7_ledgerDifference 30 = .ok (.iinc 2 1, 3) := by decide +kernel
theorem dX7_ledgerDifference_33 : decode cX7_ledgerDifference 33 = .ok (.goto (-29), 3) := by decide +kernel
theorem dX7_ledgerDifference_36 : decode cX7_ledgerDifference 36 = .ok (.iload_n 1, 1) := by decide +kernel
theorem dX7_ledgerDifference_37 : decode cX7_ledgerDifference 37 = .ok (.aload_n 0, 1) := by decide +kernel
theorem dX7_ledgerDifference_38 : decode cX7_ledgerDifference 38 = .ok (.getfield 36, 3) := by decide +kernel
theorem dX7_ledgerDifference_41 : decode cX7_ledgerDifference 41 = .ok (.getfield 255, 3) := by decide +kernel
theorem dX7_ledgerDifference_44 : decode cX7_ledgerDifference 44 = .ok (.iadd, 1) := by decide +kernel
theorem dX7_ledgerDifference_45 : decode cX7_ledgerDifference 45 = .ok (.aload_n 0, 1) := by decide +kernel
theorem dX7_ledgerDifference_46 : decode cX7_ledgerDifference 46 = .ok (.getfield 36, 3) := by decide +kernel
theorem dX7_ledgerDifference_49 : decode cX7_ledgerDifference 49 = .ok (.getfield 249, 3) := by decide +kernel
theorem dX7_ledgerDifference_52 : decode cX7_ledgerDifference 52 = .ok (.isub, 1) := by decide +kernel
theorem dX7_ledgerDifference_53 : decode cX7_ledgerDifference 53 = .ok (.aload_n 0, 1) := by decide +kernel
theorem dX7_ledgerDifference_54 : decode cX7_ledgerDifference 54 = .ok (.getfield 36, 3) := by decide +kernel
theorem dX7_ledgerDifference_57 : decode cX7_ledgerDifference 57 = .ok (.getfield 252, 3) := by decide +kernel
theorem dX7_ledgerDifference_60 : decode cX7_ledgerDifference 60 = .ok (.iadd, 1) := by decide +kernel
theorem dX7_ledgerDifference_61 : decode cX7_ledgerDifference 61 = .ok (.ireturn, 1) := by decide +kernel
theorem dX7_advance_0 : decode cX7_advance 0 = .ok (.aload_n 0, 1) := by decide +kernel
theorem dX7_advance_1 : decode cX7_advance 1 = .ok (.iload_n 1, 1) := by decide +kernel
theorem dX7_advance_2 : decode cX7_advance 2 = .ok (.iconst 1, 1) := by decide +kernel
theorem dX7_advance_3 : decode cX7_advance 3 = .ok (.bipush 100, 2) := by decide +kernel
theorem dX7_advance_5 : decode cX7_advance 5 = .ok (.invokevirtual 225, 3) := by decide +kernel
theorem dX7_advance_8 : decode cX7_advance 8 = .ok (.aload_n 0, 1) := by decide +kernel
theorem dX7_advance_9 : decode cX7_advance 9 = .ok (.getfield 36, 3) := by decide +kernel
theorem dX7_advance_12 : decode cX7_advance 12 = .ok (.getfield 117, 3) := by decide +kernel
theorem dX7_advance_15 : decode cX7_advance 15 = .ok (.iload_n 1, 1) := by decide +kernel
theorem dX7_advance_16 : decode cX7_advance 16 = .ok (.iadd, 1) := by decide +kernel
theorem dX7_advance_17 : decode cX7_advance 17 = .ok (.sipush 9999, 3) := by decide +kernel
theorem dX7_advance_20 : decode cX7_advance 20 = .ok (.if_icmp .le 14, 3) := by decide +kernel
theorem dX7_advance_23 : decode cX7_advance 23 = .ok (.new 82, 3) := by decide +kernel
theorem dX7_advance_26 : decode cX7_advance 26 = .ok (.dup, 1) := by decide +kernel
theorem dX7_advance_27 : decode cX7_advance 27 = .ok (.ldc_w 258, 3) := by decide +kernel
theorem dX7_advance_30 : decode cX7_advance 30 = .ok (.invokespecial 86, 3) := by decide +kernel
theorem dX7_advance_33 : decode cX7_advance 33 = .ok (.athrow, 1) := by decide +kernel
theorem dX7_advance_34 : decode cX7_advance 34 = .ok (.aload_n 0, 1) := by decide +kernel
theorem dX7_advance_35 : decode cX7_advance 35 = .ok (.getfield 46, 3) := by decide +kernel
theorem dX7_advance_38 : decode cX7_advance 38 = .ok (.aload_n 0, 1) := by decide +kernel
theorem dX7_advance_39 : decode cX7_advance 39 = .ok (.getfield 36, 3) := by decide +kernel
theorem dX7_advance_42 : decode cX7_advance 42 = .ok (.invokevirtual 260, 3) := by decide +kernel
theorem dX7_advance_45 : decode cX7_advance 45 = .ok (.aload_n 0, 1) := by decide +kernel
theorem dX7_advance_46 : decode cX7_advance 46 = .ok (.getfield 36, 3) := by decide +kernel
theorem dX7_advance_49 : decode cX7_advance 49 = .ok (.getfield 146, 3) := by decide +kernel
theorem dX7_advance_52 : decode cX7_advance 52 = .ok (.istore_n 2, 1) := by decide +kernel
theorem dX7_advance_53 : decode cX7_advance 53 = .ok (.iconst 0, 1) := by decide +kernel
theorem dX7_advance_54 : decode cX7_advance 54 = .ok (.istore_n 3, 1) := by decide +kernel
theorem dX7_advance_55 : decode cX7_advance 55 = .ok (.iload_n 3, 1) := by decide +kernel
theorem dX7_advance_56 : decode cX7_advance 56 = .ok (.iload_n 1, 1) := by decide +kernel
theorem dX7_advance_57 : decode cX7_advance 57 = .ok (.if_icmp .ge 16, 3) := by decide +kernel
theorem dX7_advance_60 : decode cX7_advance 60 = .ok (.aload_n 0, 1) := by decide +kernel
theorem dX7_advance_61 : decode cX7_advance 61 = .ok (.getfield 36, 3) := by decide +kernel
theorem dX7_advance_64 : decode cX7_advance 64 = .ok (.invokevirtual 243, 3) := by decide +kernel
theorem dX7_advance_67 : decode cX7_advance 67 = .ok (.iinc 3 1, 3) := by decide +kernel
theorem dX7_advance_70 : decode cX7_advance 70 = .ok (.goto (-15), 3) := by decide +kernel
theorem dX7_advance_73 : decode cX7_advance 73 = .ok (.aload_n 0, 1) := by decide +kernel
theorem dX7_advance_74 : decode cX7_advance 74 = .ok (.getfield 36, 3) := by decide +kernel
theorem dX7_advance_77 : decode cX7_advance 77 = .ok (.getfield 146, 3) := by decide +kernel
theorem dX7_advance_80 : decode cX7_advance 80 = .ok (.iload_n 2, 1) := by decide +kernel
theorem dX7_advance_81 : decode cX7_advance 81 = .ok (.isub, 1) := by decide +kernel
theorem dX7_advance_82 : decode cX7_advance 82 = .ok (.ireturn, 1) := by decide +kernel
theorem dX7_moveIn_0 : decode cX7_moveIn 0 = .ok (.aload_n 0, 1) := by decide +kernel
theorem dX7_moveIn_1 : decode cX7_moveIn 1 = .ok (.iload_n 1, 1) := by decide +kernel
theorem dX7_moveIn_2 : decode cX7_moveIn 2 = .ok (.iconst 0, 1) := by decide +kernel
theorem dX7_moveIn_3 : decode cX7_moveIn 3 = .ok (.iconst 4, 1) := by decide +kernel
theorem dX7_moveIn_4 : decode cX7_moveIn 4 = .ok (.invokevirtual 225, 3) := by decide +kernel
theorem dX7_moveIn_7 : decode cX7_moveIn 7 = .ok (.aload_n 0, 1) := by decide +kernel
theorem dX7_moveIn_8 : decode cX7_moveIn 8 = .ok (.iload_n 2, 1) := by decide +kernel
theorem dX7_moveIn_9 : decode cX7_moveIn 9 = .ok (.iconst 0, 1) := by decide +kernel
theorem dX7_moveIn_10 : decode cX7_moveIn 10 = .ok (.sipush 999, 3) := by decide +kernel
theorem dX7_moveIn_13 : decode cX7_moveIn 13 = .ok (.invokevirtual 225, 3) := by decide +kernel
theorem dX7_moveIn_16 : decode cX7_moveIn 16 = .ok (.aload_n 0, 1) := by decide +kernel
theorem dX7_moveIn_17 : decode cX7_moveIn 17 = .ok (.iload_n 3, 1) := by decide +kernel
theorem dX7_moveIn_18 : decode cX7_moveIn 18 = .ok (.iconst 0, 1) := by decide +kernel
theorem dX7_moveIn_19 : decode cX7_moveIn 19 = .ok (.ldc_w 263, 3) := by decide +kernel
theorem dX7_moveIn_22 : decode cX7_moveIn 22 = .ok (.invokevirtual 225, 3) := by decide +kernel
theorem dX7_moveIn_25 : decode cX7_moveIn 25 = .ok (.aload_n 0, 1) := by decide +kernel
theorem dX7_moveIn_26 : decode cX7_moveIn 26 = .ok (.getfield 36, 3) := by decide +kernel
theorem dX7_moveIn_29 : decode cX7_moveIn 29 = .ok (.getfield 114, 3) := by decide +kernel
theorem dX7_moveIn_32 : decode cX7_moveIn 32 = .ok (.bipush 12, 2) := by decide +kernel
theorem dX7_moveIn_34 : decode cX7_moveIn 34 = .ok (.if_icmp .lt 14, 3) := by decide +kernel
theorem dX7_moveIn_37 : decode cX7_moveIn 37 = .ok (.new 82, 3) := by decide +kernel
theorem dX7_moveIn_40 : decode cX7_moveIn 40 = .ok (.dup, 1) := by decide +kernel
theorem dX7_moveIn_41 : decode cX7_moveIn 41 = .ok (.ldc_w 264, 3) := by decide +kernel
theorem dX7_moveIn_44 : decode cX7_moveIn 44 = .ok (.invokespecial 86, 3) := by decide +kernel
theorem dX7_moveIn_47 : decode cX7_moveIn 47 = .ok (.athrow, 1) := by decide +kernel
theorem dX7_moveIn_48 : decode cX7_moveIn 48 = .ok (.aload_n 0, 1) := by decide +kernel
theorem dX7_moveIn_49 : decode cX7_moveIn 49 = .ok (.iload_n 1, 1) := by decide +kernel
theorem dX7_moveIn_50 : decode cX7_moveIn 50 = .ok (.aconst_null, 1) := by decide +kernel
theorem dX7_moveIn_51 : decode cX7_moveIn 51 = .ok (.invokevirtual 266, 3) := by decide +kernel
theorem dX7_moveIn_54 : decode cX7_moveIn 54 = .ok (.aload_n 0, 1) := by decide +kernel
theorem dX7_moveIn_55 : decode cX7_moveIn 55 = .ok (.getfield 46, 3) := by decide +kernel
theorem dX7_moveIn_58 : decode cX7_moveIn 58 = .ok (.aload_n 0, 1) := by decide +kernel
theorem dX7_moveIn_59 : decode cX7_moveIn 59 = .ok (.getfield 36, 3) := by decide +kernel
theorem dX7_moveIn_62 : decode cX7_moveIn 62 = .ok (.invokevirtual 260, 3) := by decide +kernel
theorem dX7_moveIn_65 : decode cX7_moveIn 65 = .ok (.aload_n 0, 1) := by decide +kernel
theorem dX7_moveIn_66 : decode cX7_moveIn 66 = .ok (.getfield 36, 3) := by decide +kernel
theorem dX7_moveIn_69 : decode cX7_moveIn 69 = .ok (.aload_n 0, 1) := by decide +kernel
theorem dX7_moveIn_70 : decode cX7_moveIn 70 = .ok (.getfield 36, 3) := by decide +kernel
theorem dX7_moveIn_73 : decode cX7_moveIn 73 = .ok (.invokevirtual 270, 3) := by decide +kernel
theorem dX7_moveIn_76 : decode cX7_moveIn 76 = .ok (.iload_n 1, 1) := by decide +kernel
theorem dX7_moveIn_77 : decode cX7_moveIn 77 = .ok (.iload_n 2, 1) := by decide +kernel
theorem dX7_moveIn_78 : decode cX7_moveIn 78 = .ok (.iload_n 3, 1) := by decide +kernel
theorem dX7_moveIn_79 : decode cX7_moveIn 79 = .ok (.invokevirtual 274, 3) := by decide +kernel
theorem dX7_moveIn_82 : decode cX7_moveIn 82 = .ok (.ireturn, 1) := by decide +kernel
theorem dX7_moveOut_0 : decode cX7_moveOut 0 = .ok (.aload_n 0, 1) := by decide +kernel
theorem dX7_moveOut_1 : decode cX7_moveOut 1 = .ok (.iload_n 1, 1) := by decide +kernel
theorem dX7_moveOut_2 : decode cX7_moveOut 2 = .ok (.invokevirtual 152, 3) := by decide +kernel
theorem dX7_moveOut_5 : decode cX7_moveOut 5 = .ok (.getfield 161, 3) := by decide +kernel
theorem dX7_moveOut_8 : decode cX7_moveOut 8 = .ok (.istore_n 2, 1) := by decide +kernel
theorem dX7_moveOut_9 : decode cX7_moveOut 9 = .ok (.aload_n 0, 1) := by decide +kernel
theorem dX7_moveOut_10 : decode cX7_moveOut 10 = .ok (.getfield 46, 3) := by decide +kernel
theorem dX7_moveOut_13 : decode cX7_moveOut 13 = .ok (.aload_n 0, 1) := by decide +kernel
theorem dX7_moveOut_14 : decode cX7_moveOut 14 = .ok (.getfield 36, 3) := by decide +kernel
theorem dX7_moveOut_17 : decode cX7_moveOut 17 = .ok (.invokevirtual 260, 3) := by decide +kernel
theorem dX7_moveOut_20 : decode cX7_moveOut 20 = .ok (.aload_n 0, 1) := by decide +kernel
theorem dX7_moveOut_21 : decode cX7_moveOut 21 = .ok (.getfield 36, 3) := by decide +kernel
theorem dX7_moveOut_24 : decode cX7_moveOut 24 = .ok (.iload_n 1, 1) := by decide +kernel
theorem dX7_moveOut_25 : decode cX7_moveOut 25 = .ok (.invokevirtual 278, 3) := by decide +kernel
theorem dX7_moveOut_28 : decode cX7_moveOut 28 = .ok (.iload_n 2, 1) := by decide +kernel
theorem dX7_moveOut_29 : decode cX7_moveOut 29 = .ok (.ireturn, 1) := by decide +kernel
theorem dX7_moveTo_0 : decode cX7_moveTo 0 = .ok (.aload_n 0, 1) := by decide +kernel
theorem dX7_moveTo_1 : decode cX7_moveTo 1 = .ok (.iload_n 1, 1) := by decide +kernel
theorem dX7_moveTo_2 : decode cX7_moveTo 2 = .ok (.invokevirtual 152, 3) := by decide +kernel
theorem dX7_moveTo_5 : decode cX7_moveTo 5 = .ok (.astore_n 3, 1) := by decide +kernel
theorem dX7_moveTo_6 : decode cX7_moveTo 6 = .ok (.aload_n 0, 1) := by decide +kernel
theorem dX7_moveTo_7 : decode cX7_moveTo 7 = .ok (.iload_n 2, 1) := by decide +kernel
theorem dX7_moveTo_8 : decode cX7_moveTo 8 = .ok (.iconst 0, 1) := by decide +kernel
theorem dX7_moveTo_9 : decode cX7_moveTo 9 = .ok (.iconst 4, 1) := by decide +kernel
theorem dX7_moveTo_10 : decode cX7_moveTo 10 = .ok (.invokevirtual 225, 3) := by decide +kernel
theorem dX7_moveTo_13 : decode cX7_moveTo 13 = .ok (.aload_n 0, 1) := by decide +kernel
theorem dX7_moveTo_14 : decode cX7_moveTo 14 = .ok (.iload_n 2, 1) := by decide +kernel
theorem dX7_moveTo_15 : decode cX7_moveTo 15 = .ok (.aload_n 3, 1) := by decide +kernel
theorem dX7_moveTo_16 : decode cX7_moveTo 16 = .ok (.invokevirtual 266, 3) := by decide +kernel
theorem dX7_moveTo_19 : decode cX7_moveTo 19 = .ok (.aload_n 0, 1) := by decide +kernel
theorem dX7_moveTo_20 : decode cX7_moveTo 20 = .ok (.getfield 46, 3) := by decide +kernel
theorem dX7_moveTo_23 : decode cX7_moveTo 23 = .ok (.aload_n 0, 1) := by decide +kernel
theorem dX7_moveTo_24 : decode cX7_moveTo 24 = .ok (.getfield 36, 3) := by decide +kernel
theorem dX7_moveTo_27 : decode cX7_moveTo 27 = .ok (.invokevirtual 260, 3) := by decide +kernel
theorem dX7_moveTo_30 : decode cX7_moveTo 30 = .ok (.aload_n 3, 1) := by decide +kernel
theorem dX7_moveTo_31 : decode cX7_moveTo 31 = .ok (.getfield 156, 3) := by decide +kernel
theorem dX7_moveTo_34 : decode cX7_moveTo 34 = .ok (.istore 4, 2) := by decide +kernel
theorem dX7_moveTo_36 : decode cX7_moveTo 36 = .ok (.aload_n 3, 1) := by decide +kernel
theorem dX7_moveTo_37 : decode cX7_moveTo 37 = .ok (.iload_n 2, 1) := by decide +kernel
theorem dX7_moveTo_38 : decode cX7_moveTo 38 = .ok (.putfield 156, 3) := by decide +kernel
theorem dX7_moveTo_41 : decode cX7_moveTo 41 = .ok (.iload 4, 2) := by decide +kernel
theorem dX7_moveTo_43 : decode cX7_moveTo 43 = .ok (.ireturn, 1) := by decide +kernel
theorem dX7_pay_0 : decode cX7_pay 0 = .ok (.aload_n 0, 1) := by decide +kernel
theorem dX7_pay_1 : decode cX7_pay 1 = .ok (.iload_n 1, 1) := by decide +kernel
theorem dX7_pay_2 : decode cX7_pay 2 = .ok (.invokevirtual 152, 3) := by decide +kernel
theorem dX7_pay_5 : decode cX7_pay 5 = .ok (.astore_n 3, 1) := by decide +kernel
theorem dX7_pay_6 : decode cX7_pay 6 = .ok (.aload_n 0, 1) := by decide +kernel
theorem dX7_pay_7 : decode cX7_pay 7 = .ok (.iload_n 2, 1) := by decide +kernel
theorem dX7_pay_8 : decode cX7_pay 8 = .ok (.iconst 1, 1) := by decide +kernel
theorem dX7_pay_9 : decode cX7_pay 9 = .ok (.sipush 999, 3) := by decide +kernel
theorem dX7_pay_12 : decode cX7_pay 12 = .ok (.invokevirtual 225, 3) := by decide +kernel
theorem dX7_pay_15 : decode cX7_pay 15 = .ok (.aload_n 0, 1) := by decide +kernel
theorem dX7_pay_16 : decode cX7_pay 16 = .ok (.getfield 46, 3) := by decide +kernel
theorem dX7_pay_19 : decode cX7_pay 19 = .ok (.aload_n 0, 1) := by decide +kernel
theorem dX7_pay_20 : decode cX7_pay 20 = .ok (.getfield 36, 3) := by decide +kernel
theorem dX7_pay_23 : decode cX7_pay 23 = .ok (.invokevirtual 260, 3) := by decide +kernel
theorem dX7_pay_26 : decode cX7_pay 26 = .ok (.aload_n 0, 1) := by decide +kernel
theorem dX7_pay_27 : decode cX7_pay 27 = .ok (.getfield 36, 3) := by decide +kernel
theorem dX7_pay_30 : decode cX7_pay 30 = .ok (.aload_n 3, 1) := by decide +kernel
theorem dX7_pay_31 : decode cX7_pay 31 = .ok (.iload_n 2, 1) := by decide +kernel
theorem dX7_pay_32 : decode cX7_pay 32 = .ok (.invokevirtual 281, 3) := by decide +kernel
theorem dX7_pay_35 : decode cX7_pay 35 = .ok (.aload_n 3, 1) := by decide +kernel
theorem dX7_pay_36 : decode cX7_pay 36 = .ok (.getfield 161, 3) := by decide +kernel
theorem dX7_pay_39 : decode cX7_pay 39 = .ok (.ireturn, 1) := by decide +kernel
theorem dX7_setLandladyVowel_0 : decode cX7_setLandladyVowel 0 = .ok (.aload_n 0, 1) := by decide +kernel
theorem dX7_setLandladyVowel_1 : decode cX7_setLandladyVowel 1 = .ok (.iload_n 1, 1) := by decide +kernel
theorem dX7_setLandladyVowel_2 : decode cX7_setLandladyVowel 2 = .ok (.invokevirtual 133, 3) := by decide +kernel
theorem dX7_setLandladyVowel_5 : decode cX7_setLandladyVowel 5 = .ok (.aload_n 0, 1) := by decide +kernel
theorem dX7_setLandladyVowel_6 : decode cX7_setLandladyVowel 6 = .ok (.iload_n 2, 1) := by decide +kernel
theorem dX7_setLandladyVowel_7 : decode cX7_setLandladyVowel 7 = .ok (.iconst 0, 1) := by decide +kernel
theorem dX7_setLandladyVowel_8 : decode cX7_setLandladyVowel 8 = .ok (.bipush 9, 2) := by decide +kernel
theorem dX7_setLandladyVowel_10 : decode cX7_setLandladyVowel 10 = .ok (.invokevirtual 225, 3) := by decide +kernel
theorem dX7_setLandladyVowel_13 : decode cX7_setLandladyVowel 13 = .ok (.aload_n 0, 1) := by decide +kernel
theorem dX7_setLandladyVowel_14 : decode cX7_setLandladyVowel 14 = .ok (.getfield 46, 3) := by decide +kernel
theorem dX7_setLandladyVowel_17 : decode cX7_setLandladyVowel 17 = .ok (.aload_n 0, 1) := by decide +kernel
theorem dX7_setLandladyVowel_18 : decode cX7_setLandladyVowel 18 = .ok (.getfield 36, 3) := by decide +kernel
theorem dX7_setLandladyVowel_21 : decode cX7_setLandladyVowel 21 = .ok (.invokevirtual 260, 3) := by decide +kernel
theorem dX7_setLandladyVowel_24 : decode cX7_setLandladyVowel 24 = .ok (.aload_n 0, 1) := by decide +kernel
theorem dX7_setLandladyVowel_25 : decode cX7_setLandladyVowel 25 = .ok (.getfield 36, 3) := by decide +kernel
theorem dX7_setLandladyVowel_28 : decode cX7_setLandladyVowel 28 = .ok (.getfield 136, 3) := by decide +kernel
theorem dX7_setLandladyVowel_31 : decode cX7_setLandladyVowel 31 = .ok (.getfield 140, 3) := by decide +kernel
theorem dX7_setLandladyVowel_34 : decode cX7_setLandladyVowel 34 = .ok (.iload_n 1, 1) := by decide +kernel
theorem dX7_setLandladyVowel_35 : decode cX7_setLandladyVowel 35 = .ok (.iaload, 1) := by decide +kernel
theorem dX7_setLandladyVowel_36 : decode cX7_setLandladyVowel 36 = .ok (.istore_n 3, 1) := by decide +kernel
theorem dX7_setLandladyVowel_37 : decode cX7_setLandladyVowel 37 = .ok (.aload_n 0, 1) := by decide +kernel
theorem dX7_setLandladyVowel_38 : decode cX7_setLandladyVowel 38 = .ok (.getfield 36, 3) := by decide +kernel
theorem dX7_setLandladyVowel_41 : decode cX7_setLandladyVowel 41 = .ok (.getfield 136, 3) := by decide +kernel
theorem dX7_setLandladyVowel_44 : decode cX7_setLandladyVowel 44 = .ok (.getfield 140, 3) := by decide +kernel
theorem dX7_setLandladyVowel_47 : decode cX7_setLandladyVowel 47 = .ok (.iload_n 1, 1) := by decide +kernel
theorem dX7_setLandladyVowel_48 : decode cX7_setLandladyVowel 48 = .ok (.iload_n 2, 1) := by decide +kernel
theorem dX7_setLandladyVowel_49 : decode cX7_setLandladyVowel 49 = .ok (.iastore, 1) := by decide +kernel
theorem dX7_setLandladyVowel_50 : decode cX7_setLandladyVowel 50 = .ok (.iload_n 3, 1) := by decide +kernel
theorem dX7_setLandladyVowel_51 : decode cX7_setLandladyVowel 51 = .ok (.ireturn, 1) := by decide +kernel
theorem dX7_setTolerance_0 : decode cX7_setTolerance 0 = .ok (.aload_n 0, 1) := by decide +kernel
theorem dX7_setTolerance_1 : decode cX7_setTolerance 1 = .ok (.iload_n 1, 1) := by decide +kernel
theorem dX7_setTolerance_2 : decode cX7_setTolerance 2 = .ok (.iconst 0, 1) := by decide +kernel
theorem dX7_setTolerance_3 : decode cX7_setTolerance 3 = .ok (.bipush 45, 2) := by decide +kernel
theorem dX7_setTolerance_5 : decode cX7_setTolerance 5 = .ok (.invokevirtual 225, 3) := by decide +kernel
theorem dX7_setTolerance_8 : decode cX7_setTolerance 8 = .ok (.aload_n 0, 1) := by decide +kernel
theorem dX7_setTolerance_9 : decode cX7_setTolerance 9 = .ok (.getfield 46, 3) := by decide +kernel
theorem dX7_setTolerance_12 : decode cX7_setTolerance 12 = .ok (.aload_n 0, 1) := by decide +kernel
theorem dX7_setTolerance_13 : decode cX7_setTolerance 13 = .ok (.getfield 36, 3) := by decide +kernel
theorem dX7_setTolerance_16 : decode cX7_setTolerance 16 = .ok (.invokevirtual 260, 3) := by decide +kernel
theorem dX7_setTolerance_19 : decode cX7_setTolerance 19 = .ok (.aload_n 0, 1) := by decide +kernel
theorem dX7_setTolerance_20 : decode cX7_setTolerance 20 = .ok (.getfield 36, 3) := by decide +kernel
theorem dX7_setTolerance_23 : decode cX7_setTolerance 23 = .ok (.getfield 123, 3) := by decide +kernel
theorem dX7_setTolerance_26 : decode cX7_setTolerance 26 = .ok (.istore_n 2, 1) := by decide +kernel
theorem dX7_setTolerance_27 : decode cX7_setTolerance 27 = .ok (.aload_n 0, 1) := by decide +kernel
theorem dX7_setTolerance_28 : decode cX7_setTolerance 28 = .ok (.getfield 36, 3) := by decide +kernel
theorem dX7_setTolerance_31 : decode cX7_setTolerance 31 = .ok (.iload_n 1, 1) := by decide +kernel
theorem dX7_setTolerance_32 : decode cX7_setTolerance 32 = .ok (.putfield 123, 3) := by decide +kernel
theorem dX7_setTolerance_35 : decode cX7_setTolerance 35 = .ok (.iload_n 2, 1) := by decide +kernel
theorem dX7_setTolerance_36 : decode cX7_setTolerance 36 = .ok (.ireturn, 1) := by decide +kernel
theorem dX7_setBaseRent_0 : decode cX7_setBaseRent 0 = .ok (.aload_n 0, 1) := by decide +kernel
theorem dX7_setBaseRent_1 : decode cX7_setBaseRent 1 = .ok (.iload_n 1, 1) := by decide +kernel
theorem dX7_setBaseRent_2 : decode cX7_setBaseRent 2 = .ok (.iconst 0, 1) := by decide +kernel
theorem dX7_setBaseRent_3 : decode cX7_setBaseRent 3 = .ok (.bipush 50, 2) := by decide +kernel
theorem dX7_setBaseRent_5 : decode cX7_setBaseRent 5 = .ok (.invokevirtual 225, 3) := by decide +kernel
theorem dX7_setBaseRent_8 : decode cX7_setBaseRent 8 = .ok (.aload_n 0, 1) := by decide +kernel
theorem dX7_setBaseRent_9 : decode cX7_setBaseRent 9 = .ok (.getfield 46, 3) := by decide +kernel
theorem dX7_setBaseRent_12 : decode cX7_setBaseRent 12 = .ok (.aload_n 0, 1) := by decide +kernel
theorem dX7_setBaseRent_13 : decode cX7_setBaseRent 13 = .ok (.getfield 36, 3) := by decide +kernel
theorem dX7_setBaseRent_16 : decode cX7_setBaseRent 16 = .ok (.invokevirtual 260, 3) := by decide +kernel
theorem dX7_setBaseRent_19 : decode cX7_setBaseRent 19 = .ok (.aload_n 0, 1) := by decide +kernel
theorem dX7_setBaseRent_20 : decode cX7_setBaseRent 20 = .ok (.getfield 36, 3) := by decide +kernel
theorem dX7_setBaseRent_23 : decode cX7_setBaseRent 23 = .ok (.getfield 120, 3) := by decide +kernel
theorem dX7_setBaseRent_26 : decode cX7_setBaseRent 26 = .ok (.istore_n 2, 1) := by decide +kernel
theorem dX7_setBaseRent_27 : decode cX7_setBaseRent 27 = .ok (.aload_n 0, 1) := by decide +kernel
theorem dX7_setBaseRent_28 : decode cX7_setBaseRent 28 = .ok (.getfield 36, 3) := by decide +kernel
theorem dX7_setBaseRent_31 : decode cX7_setBaseRent 31 = .ok (.iload_n 1, 1) := by decide +kernel
theorem dX7_setBaseRent_32 : decode cX7_setBaseRent 32 = .ok (.putfield 120, 3) := by decide +kernel
theorem dX7_setBaseRent_35 : decode cX7_setBaseRent 35 = .ok (.iload_n 2, 1) := by decide +kernel
theorem dX7_setBaseRent_36 : decode cX7_setBaseRent 36 = .ok (.ireturn, 1) := by decide +kernel
theorem dX7_restore_0 : decode cX7_restore 0 = .ok (.aload_n 0, 1) := by decide +kernel
theorem dX7_restore_1 : decode cX7_restore 1 = .ok (.iload_n 1, 1) := by decide +kernel
theorem dX7_restore_2 : decode cX7_restore 2 = .ok (.invokevirtual 285, 3) := by decide +kernel
theorem dX7_restore_5 : decode cX7_restore 5 = .ok (.aload_n 0, 1) := by decide +kernel
theorem dX7_restore_6 : decode cX7_restore 6 = .ok (.getfield 54, 3) := by decide +kernel
theorem dX7_restore_9 : decode cX7_restore 9 = .ok (.iload_n 1, 1) := by decide +kernel
theorem dX7_restore_10 : decode cX7_restore 10 = .ok (.baload, 1) := by decide +kernel
theorem dX7_restore_11 : decode cX7_restore 11 = .ok (.ifCond .ne 14, 3) := by decide +kernel
theorem dX7_restore_14 : decode cX7_restore 14 = .ok (.new 82, 3) := by decide +kernel
theorem dX7_restore_17 : decode cX7_restore 17 = .ok (.dup, 1) := by decide +kernel
theorem dX7_restore_18 : decode cX7_restore 18 = .ok (.ldc_w 288, 3) := by decide +kernel
theorem dX7_restore_21 : decode cX7_restore 21 = .ok (.invokespecial 86, 3) := by decide +kernel
theorem dX7_restore_24 : decode cX7_restore 24 = .ok (.athrow, 1) := by decide +kernel
theorem dX7_restore_25 : decode cX7_restore 25 = .ok (.aload_n 0, 1) := by decide +kernel
theorem dX7_restore_26 : decode cX7_restore 26 = .ok (.getfield 46, 3) := by decide +kernel
theorem dX7_restore_29 : decode cX7_restore 29 = .ok (.aload_n 0, 1) := by decide +kernel
theorem dX7_restore_30 : decode cX7_restore 30 = .ok (.getfield 36, 3) := by decide +kernel
theorem dX7_restore_33 : decode cX7_restore 33 = .ok (.invokevirtual 260, 3) := by decide +kernel
theorem dX7_restore_36 : decode cX7_restore 36 = .ok (.aload_n 0, 1) := by decide +kernel
theorem dX7_restore_37 : decode cX7_restore 37 = .ok (.getfield 36, 3) := by decide +kernel
theorem dX7_restore_40 : decode cX7_restore 40 = .ok (.aload_n 0, 1) := by decide +kernel
theorem dX7_restore_41 : decode cX7_restore 41 = .ok (.getfield 50, 3) := by decide +kernel
theorem dX7_restore_44 : decode cX7_restore 44 = .ok (.iload_n 1, 1) := by decide +kernel
theorem dX7_restore_45 : decode cX7_restore 45 = .ok (.aaload, 1) := by decide +kernel
theorem dX7_restore_46 : decode cX7_restore 46 = .ok (.invokevirtual 75, 3) := by decide +kernel
theorem dX7_restore_49 : decode cX7_restore 49 = .ok (.aload_n 0, 1) := by decide +kernel
theorem dX7_restore_50 : decode cX7_restore 50 = .ok (.getfield 36, 3) := by decide +kernel
theorem dX7_restore_53 : decode cX7_restore 53 = .ok (.getfield 117, 3) := by decide +kernel
theorem dX7_restore_56 : decode cX7_restore 56 = .ok (.ireturn, 1) := by decide +kernel
theorem dX7_undo_0 : decode cX7_undo 0 = .ok (.aload_n 0, 1) := by decide +kernel
theorem dX7_undo_1 : decode cX7_undo 1 = .ok (.getfield 46, 3) := by decide +kernel
theorem dX7_undo_4 : decode cX7_undo 4 = .ok (.getfield 149, 3) := by decide +kernel
theorem dX7_undo_7 : decode cX7_undo 7 = .ok (.ifCond .ne 14, 3) := by decide +kernel
theorem dX7_undo_10 : decode cX7_undo 10 = .ok (.new 82, 3) := by decide +kernel
theorem dX7_undo_13 : decode cX7_undo 13 = .ok (.dup, 1) := by decide +kernel
theorem dX7_undo_14 : decode cX7_undo 14 = .ok (.ldc_w 290, 3) := by decide +kernel
theorem dX7_undo_17 : decode cX7_undo 17 = .ok (.invokespecial 86, 3) := by decide +kernel
theorem dX7_undo_20 : decode cX7_undo 20 = .ok (.athrow, 1) := by decide +kernel
theorem dX7_undo_21 : decode cX7_undo 21 = .ok (.aload_n 0, 1) := by decide +kernel
theorem dX7_undo_22 : decode cX7_undo 22 = .ok (.getfield 46, 3) := by decide +kernel
theorem dX7_undo_25 : decode cX7_undo 25 = .ok (.aload_n 0, 1) := by decide +kernel
theorem dX7_undo_26 : decode cX7_undo 26 = .ok (.getfield 36, 3) := by decide +kernel
theorem dX7_undo_29 : decode cX7_undo 29 = .ok (.invokevirtual 292, 3) := by decide +kernel
theorem dX7_undo_32 : decode cX7_undo 32 = .ok (.aload_n 0, 1) := by decide +kernel
theorem dX7_undo_33 : decode cX7_undo 33 = .ok (.getfield 46, 3) := by decide +kernel
theorem dX7_undo_36 : decode cX7_undo 36 = .ok (.getfield 149, 3) := by decide +kernel
theorem dX7_undo_39 : decode cX7_undo 39 = .ok (.ireturn, 1) := by decide +kernel
theorem dX7_save_0 : decode cX7_save 0 = .ok (.aload_n 0, 1) := by decide +kernel
theorem dX7_save_1 : decode cX7_save 1 = .ok (.iload_n 1, 1) := by decide +kernel
theorem dX7_save_2 : decode cX7_save 2 = .ok (.invokevirtual 285, 3) := by decide +kernel
theorem dX7_save_5 : decode cX7_save 5 = .ok (.aload_n 0, 1) := by decide +kernel
theorem dX7_save_6 : decode cX7_save 6 = .ok (.getfield 50, 3) := by decide +kernel
theorem dX7_save_9 : decode cX7_save 9 = .ok (.iload_n 1, 1) := by decide +kernel
theorem dX7_save_10 : decode cX7_save 10 = .ok (.aaload, 1) := by decide +kernel
theorem dX7_save_11 : decode cX7_save 11 = .ok (.aload_n 0, 1) := by decide +kernel
theorem dX7_save_12 : decode cX7_save 12 = .ok (.getfield 36, 3) := by decide +kernel
theorem dX7_save_15 : decode cX7_save 15 = .ok (.invokevirtual 75, 3) := by decide +kernel
theorem dX7_save_18 : decode cX7_save 18 = .ok (.aload_n 0, 1) := by decide +kernel
theorem dX7_save_19 : decode cX7_save 19 = .ok (.getfield 54, 3) := by decide +kernel
theorem dX7_save_22 : decode cX7_save 22 = .ok (.iload_n 1, 1) := by decide +kernel
theorem dX7_save_23 : decode cX7_save 23 = .ok (.iconst 1, 1) := by decide +kernel
theorem dX7_save_24 : decode cX7_save 24 = .ok (.bastore, 1) := by decide +kernel
theorem dX7_save_25 : decode cX7_save 25 = .ok (.aload_n 0, 1) := by decide +kernel
theorem dX7_save_26 : decode cX7_save 26 = .ok (.getfield 36, 3) := by decide +kernel
theorem dX7_save_29 : decode cX7_save 29 = .ok (.getfield 117, 3) := by decide +kernel
theorem dX7_save_32 : decode cX7_save 32 = .ok (.ireturn, 1) := by decide +kernel
theorem dX7_writeLodger_0 : decode cX7_writeLodger 0 = .ok (.aload_n 0, 1) := by decide +kernel
theorem dX7_writeLodger_1 : decode cX7_writeLodger 1 = .ok (.iload_n 1, 1) := by decide +kernel
theorem dX7_writeLodger_2 : decode cX7_writeLodger 2 = .ok (.invokevirtual 152, 3) := by decide +kernel
theorem dX7_writeLodger_5 : decode cX7_writeLodger 5 = .ok (.astore_n 2, 1) := by decide +kernel
theorem dX7_writeLodger_6 : decode cX7_writeLodger 6 = .ok (.aload_n 0, 1) := by decide +kernel
theorem dX7_writeLodger_7 : decode cX7_writeLodger 7 = .ok (.getfield 16, 3) := by decide +kernel
theorem dX7_writeLodger_10 : decode cX7_writeLodger 10 = .ok (.iconst 0, 1) := by decide +kernel
theorem dX7_writeLodger_11 : decode cX7_writeLodger 11 = .ok (.invokevirtual 295, 3) := by decide +kernel
theorem dX7_writeLodger_14 : decode cX7_writeLodger 14 = .ok (.aload_n 0, 1) := by decide +kernel
theorem dX7_writeLodger_15 : decode cX7_writeLodger 15 = .ok (.getfield 16, 3) := by decide +kernel
theorem dX7_writeLodger_18 : decode cX7_writeLodger 18 = .ok (.aload_n 2, 1) := by decide +kernel
theorem dX7_writeLodger_19 : decode cX7_writeLodger 19 = .ok (.getfield 176, 3) := by decide +kernel
theorem dX7_writeLodger_22 : decode cX7_writeLodger 22 = .ok (.invokevirtual 298, 3) := by decide +kernel
theorem dX7_writeLodger_25 : decode cX7_writeLodger 25 = .ok (.bipush 32, 2) := by decide +kernel
theorem dX7_writeLodger_27 : decode cX7_writeLodger 27 = .ok (.invokevirtual 302, 3) := by decide +kernel
theorem dX7_writeLodger_30 : decode cX7_writeLodger 30 = .ok (.pop, 1) := by decide +kernel
theorem dX7_writeLodger_31 : decode cX7_writeLodger 31 = .ok (.iconst 0, 1) := by decide +kernel
theorem dX7_writeLodger_32 : decode cX7_writeLodger 32 = .ok (.istore_n 3, 1) := by decide +kernel
theorem dX7_writeLodger_33 : decode cX7_writeLodger 33 = .ok (.iload_n 3, 1) := by decide +kernel
theorem dX7_writeLodger_34 : decode cX7_writeLodger 34 = .ok (.iconst 5, 1) := by decide +kernel
theorem dX7_writeLodger_35 : decode cX7_writeLodger 35 = .ok (.if_icmp .ge 26, 3) := by decide +kernel
theorem dX7_writeLodger_38 : decode cX7_writeLodger 38 = .ok (.aload_n 0, 1) := by decide +kernel
theorem dX7_writeLodger_39 : decode cX7_writeLodger 39 = .ok (.getfield 16, 3) := by decide +kernel
theorem dX7_writeLodger_42 : decode cX7_writeLodger 42 = .ok (.aload_n 2, 1) := by decide +kernel
theorem dX7_writeLodger_43 : decode cX7_writeLodger 43 = .ok (.getfield 164, 3) := by decide +kernel
theorem dX7_writeLodger_46 : decode cX7_writeLodger 46 = .ok (.getfield 140, 3) := by decide +kernel
theorem dX7_writeLodger_49 : decode cX7_writeLodger 49 = .ok (.iload_n 3, 1) := by decide +kernel
theorem dX7_writeLodger_50 : decode cX7_writeLodger 50 = .ok (.iaload, 1) := by decide +kernel
theorem dX7_writeLodger_51 : decode cX7_writeLodger 51 = .ok (.invokevirtual 305, 3) := by decide +kernel
theorem dX7_writeLodger_54 : decode cX7_writeLodger 54 = .ok (.pop, 1) := by decide +kernel
theorem dX7_writeLodger_55 : decode cX7_writeLodger 55 = .ok (.iinc 3 1, 3) := by decide +kernel
theorem dX7_writeLodger_58 : decode cX7_writeLodger 58 = .ok (.goto (-25), 3) := by decide +kernel
theorem dX7_writeLodger_61 : decode cX7_writeLodger 61 = .ok (.aload_n 0, 1) := by decide +kernel
theorem dX7_writeLodger_62 : decode cX7_writeLodger 62 = .ok (.getfield 16, 3) := by decide +kernel
theorem dX7_writeLodger_65 : decode cX7_writeLodger 65 = .ok (.bipush 32, 2) := by decide +kernel
theorem dX7_writeLodger_67 : decode cX7_writeLodger 67 = .ok (.invokevirtual 302, 3) := by decide +kernel
theorem dX7_writeLodger_70 : decode cX7_writeLodger 70 = .ok (.aload_n 2, 1) := by decide +kernel
theorem dX7_writeLodger_71 : decode cX7_writeLodger 71 = .ok (.getfield 161, 3) := by decide +kernel
theorem dX7_writeLodger_74 : decode cX7_writeLodger 74 = .ok (.invokevirtual 305, 3) := by decide +kernel
theorem dX7_writeLodger_77 : decode cX7_writeLodger 77 = .ok (.pop, 1) := by decide +kernel
theorem dX7_writeLodger_78 : decode cX7_writeLodger 78 = .ok (.aload_n 0, 1) := by decide +kernel
theorem dX7_writeLodger_79 : decode cX7_writeLodger 79 = .ok (.getfield 16, 3) := by decide +kernel
theorem dX7_writeLodger_82 : decode cX7_writeLodger 82 = .ok (.invokevirtual 308, 3) := by decide +kernel
theorem dX7_writeLodger_85 : decode cX7_writeLodger 85 = .ok (.ireturn, 1) := by decide +kernel
theorem dX7_writeFloor_0 : decode cX7_writeFloor 0 = .ok (.aload_n 0, 1) := by decide +kernel
theorem dX7_writeFloor_1 : decode cX7_writeFloor 1 = .ok (.iload_n 1, 1) := by decide +kernel
theorem dX7_writeFloor_2 : decode cX7_writeFloor 2 = .ok (.invokevirtual 126, 3) := by decide +kernel
theorem dX7_writeFloor_5 : decode cX7_writeFloor 5 = .ok (.aload_n 0, 1) := by decide +kernel
theorem dX7_writeFloor_6 : decode cX7_writeFloor 6 = .ok (.getfield 16, 3) := by decide +kernel
theorem dX7_writeFloor_9 : decode cX7_writeFloor 9 = .ok (.iconst 0, 1) := by decide +kernel
theorem dX7_writeFloor_10 : decode cX7_writeFloor 10 = .ok (.invokevirtual 295, 3) := by decide +kernel
theorem dX7_writeFloor_13 : decode cX7_writeFloor 13 = .ok (.iconst 0, 1) := by decide +kernel
theorem dX7_writeFloor_14 : decode cX7_writeFloor 14 = .ok (.istore_n 2, 1) := by decide +kernel
theorem dX7_writeFloor_15 : decode cX7_writeFloor 15 = .ok (.iload_n 2, 1) := by decide +kernel
theorem dX7_writeFloor_16 : decode cX7_writeFloor 16 = .ok (.aload_n 0, 1) := by decide +kernel
theorem dX7_writeFloor_17 : decode cX7_writeFloor 17 = .ok (.getfield 36, 3) := by decide +kernel
theorem dX7_writeFloor_20 : decode cX7_writeFloor 20 = .ok (.getfield 114, 3) := by decide +kernel
theorem dX7_writeFloor_23 : decode cX7_writeFloor 23 = .ok (.if_icmp .ge 65, 3) := by decide +kernel
theorem dX7_writeFloor_26 : decode cX7_writeFloor 26 = .ok (.aload_n 0, 1) := by decide +kernel
theorem dX7_writeFloor_27 : decode cX7_writeFloor 27 = .ok (.getfield 36, 3) := by decide +kernel
theorem dX7_writeFloor_30 : decode cX7_writeFloor 30 = .ok (.getfield 208, 3) := by decide +kernel
theorem dX7_writeFloor_33 : decode cX7_writeFloor 33 = .ok (.iload_n 2, 1) := by decide +kernel
theorem dX7_writeFloor_34 : decode cX7_writeFloor 34 = .ok (.aaload, 1) := by decide +kernel
theorem dX7_writeFloor_35 : decode cX7_writeFloor 35 = .ok (.getfield 156, 3) := by decide +kernel
theorem dX7_writeFloor_38 : decode cX7_writeFloor 38 = .ok (.iload_n 1, 1) := by decide +kernel
theorem dX7_writeFloor_39 : decode cX7_writeFloor 39 = .ok (.if_icmp .ne 43, 3) := by decide +kernel
theorem dX7_writeFloor_42 : decode cX7_writeFloor 42 = .ok (.aload_n 0, 1) := by decide +kernel
theorem dX7_writeFloor_43 : decode cX7_writeFloor 43 = .ok (.getfield 16, 3) := by decide +kernel
theorem dX7_writeFloor_46 : decode cX7_writeFloor 46 = .ok (.invokevirtual 308, 3) := by decide +kernel
theorem dX7_writeFloor_49 : decode cX7_writeFloor 49 = .ok (.ifCond .le 13, 3) := by decide +kernel
theorem dX7_writeFloor_52 : decode cX7_writeFloor 52 = .ok (.aload_n 0, 1) := by decide +kernel
theorem dX7_writeFloor_53 : decode cX7_writeFloor 53 = .ok (.getfield 16, 3) := by decide +kernel
theorem dX7_writeFloor_56 : decode cX7_writeFloor 56 = .ok (.bipush 44, 2) := by decide +kernel
theorem dX7_writeFloor_58 : decode cX7_writeFloor 58 = .ok (.invokevirtual 302, 3) := by decide +kernel
theorem dX7_writeFloor_61 : decode cX7_writeFloor 61 = .ok (.pop, 1) := by decide +kernel
theorem dX7_writeFloor_62 : decode cX7_writeFloor 62 = .ok (.aload_n 0, 1) := by decide +kernel
theorem dX7_writeFloor_63 : decode cX7_writeFloor 63 = .ok (.getfield 16, 3) := by decide +kernel
theorem dX7_writeFloor_66 : decode cX7_writeFloor 66 = .ok (.aload_n 0, 1) := by decide +kernel
theorem dX7_writeFloor_67 : decode cX7_writeFloor 67 = .ok (.getfield 36, 3) := by decide +kernel
theorem dX7_writeFloor_70 : decode cX7_writeFloor 70 = .ok (.getfield 208, 3) := by decide +kernel
theorem dX7_writeFloor_73 : decode cX7_writeFloor 73 = .ok (.iload_n 2, 1) := by decide +kernel
theorem dX7_writeFloor_74 : decode cX7_writeFloor 74 = .ok (.aaload, 1) := by decide +kernel
theorem dX7_writeFloor_75 : decode cX7_writeFloor 75 = .ok (.getfield 176, 3) := by decide +kernel
theorem dX7_writeFloor_78 : decode cX7_writeFloor 78 = .ok (.invokevirtual 298, 3) := by decide +kernel
theorem dX7_writeFloor_81 : decode cX7_writeFloor 81 = .ok (.pop, 1) := by decide +kernel
theorem dX7_writeFloor_82 : decode cX7_writeFloor 82 = .ok (.iinc 2 1, 3) := by decide +kernel
theorem dX7_writeFloor_85 : decode cX7_writeFloor 85 = .ok (.goto (-70), 3) := by decide +kernel
theorem dX7_writeFloor_88 : decode cX7_writeFloor 88 = .ok (.aload_n 0, 1) := by decide +kernel
theorem dX7_writeFloor_89 : decode cX7_writeFloor 89 = .ok (.getfield 16, 3) := by decide +kernel
theorem dX7_writeFloor_92 : decode cX7_writeFloor 92 = .ok (.invokevirtual 308, 3) := by decide +kernel
theorem dX7_writeFloor_95 : decode cX7_writeFloor 95 = .ok (.ireturn, 1) := by decide +kernel
theorem dX7_outputCharacter_0 : decode cX7_outputCharacter 0 = .ok (.iload_n 1, 1) := by decide +kernel
theorem dX7_outputCharacter_1 : decode cX7_outputCharacter 1 = .ok (.ifCond .lt 14, 3) := by decide +kernel
theorem dX7_outputCharacter_4 : decode cX7_outputCharacter 4 = .ok (.iload_n 1, 1) := by decide +kernel
theorem dX7_outputCharacter_5 : decode cX7_outputCharacter 5 = .ok (.aload_n 0, 1) := by decide +kernel
theorem dX7_outputCharacter_6 : decode cX7_outputCharacter 6 = .ok (.getfield 16, 3) := by decide +kernel
theorem dX7_outputCharacter_9 : decode cX7_outputCharacter 9 = .ok (.invokevirtual 308, 3) := by decide +kernel
theorem dX7_outputCharacter_12 : decode cX7_outputCharacter 12 = .ok (.if_icmp .lt 14, 3) := by decide +kernel
theorem dX7_outputCharacter_15 : decode cX7_outputCharacter 15 = .ok (.new 92, 3) := by decide +kernel
theorem dX7_outputCharacter_18 : decode cX7_outputCharacter 18 = .ok (.dup, 1) := by decide +kernel
theorem dX7_outputCharacter_19 : decode cX7_outputCharacter 19 = .ok (.ldc_w 309, 3) := by decide +kernel
theorem dX7_outputCharacter_22 : decode cX7_outputCharacter 22 = .ok (.invokespecial 96, 3) := by decide +kernel
theorem dX7_outputCharacter_25 : decode cX7_outputCharacter 25 = .ok (.athrow, 1) := by decide +kernel
theorem dX7_outputCharacter_26 : decode cX7_outputCharacter 26 = .ok (.aload_n 0, 1) := by decide +kernel
theorem dX7_outputCharacter_27 : decode cX7_outputCharacter 27 = .ok (.getfield 16, 3) := by decide +kernel
theorem dX7_outputCharacter_30 : decode cX7_outputCharacter 30 = .ok (.iload_n 1, 1) := by decide +kernel
theorem dX7_outputCharacter_31 : decode cX7_outputCharacter 31 = .ok (.invokevirtual 311, 3) := by decide +kernel
theorem dX7_outputCharacter_34 : decode cX7_outputCharacter 34 = .ok (.ireturn, 1) := by decide +kernel
theorem dX7_requireLodger_0 : decode cX7_requireLodger 0 = .ok (.iload_n 1, 1) := by decide +kernel
theorem dX7_requireLodger_1 : decode cX7_requireLodger 1 = .ok (.ifCond .lt 14, 3) := by decide +kernel
theorem dX7_requireLodger_4 : decode cX7_requireLodger 4 = .ok (.iload_n 1, 1) := by decide +kernel
theorem dX7_requireLodger_5 : decode cX7_requireLodger 5 = .ok (.aload_n 0, 1) := by decide +kernel
theorem dX7_requireLodger_6 : decode cX7_requireLodger 6 = .ok (.getfield 36, 3) := by decide +kernel
theorem dX7_requireLodger_9 : decode cX7_requireLodger 9 = .ok (.getfield 114, 3) := by decide +kernel
theorem dX7_requireLodger_12 : decode cX7_requireLodger 12 = .ok (.if_icmp .lt 14, 3) := by decide +kernel
theorem dX7_requireLodger_15 : decode cX7_requireLodger 15 = .ok (.new 92, 3) := by decide +kernel
theorem dX7_requireLodger_18 : decode cX7_requireLodger 18 = .ok (.dup, 1) := by decide +kernel
theorem dX7_requireLodger_19 : decode cX7_requireLodger 19 = .ok (.ldc_w 312, 3) := by decide +kernel
theorem dX7_requireLodger_22 : decode cX7_requireLodger 22 = .ok (.invokespecial 96, 3) := by decide +kernel
theorem dX7_requireLodger_25 : decode cX7_requireLodger 25 = .ok (.athrow, 1) := by decide +kernel
theorem dX7_requireLodger_26 : decode cX7_requireLodger 26 = .ok (.aload_n 0, 1) := by decide +kernel
theorem dX7_requireLodger_27 : decode cX7_requireLodger 27 = .ok (.getfield 36, 3) := by decide +kernel
theorem dX7_requireLodger_30 : decode cX7_requireLodger 30 = .ok (.getfield 208, 3) := by decide +kernel
theorem dX7_requireLodger_33 : decode cX7_requireLodger 33 = .ok (.iload_n 1, 1) := by decide +kernel
theorem dX7_requireLodger_34 : decode cX7_requireLodger 34 = .ok (.aaload, 1) := by decide +kernel
theorem dX7_requireLodger_35 : decode cX7_requireLodger 35 = .ok (.areturn, 1) := by decide +kernel
theorem dX7_requireFloor_0 : decode cX7_requireFloor 0 = .ok (.iload_n 1, 1) := by decide +kernel
theorem dX7_requireFloor_1 : decode cX7_requireFloor 1 = .ok (.ifCond .lt 8, 3) := by decide +kernel
theorem dX7_requireFloor_4 : decode cX7_requireFloor 4 = .ok (.iload_n 1, 1) := by decide +kernel
theorem dX7_requireFloor_5 : decode cX7_requireFloor 5 = .ok (.iconst 5, 1) := by decide +kernel
theorem dX7_requireFloor_6 : decode cX7_requireFloor 6 = .ok (.if_icmp .lt 14, 3) := by decide +kernel
theorem dX7_requireFloor_9 : decode cX7_requireFloor 9 = .ok (.new 92, 3) := by decide +kernel
theorem dX7_requireFloor_12 : decode cX7_requireFloor 12 = .ok (.dup, 1) := by decide +kernel
theorem dX7_requireFloor_13 : decode cX7_requireFloor 13 = .ok (.ldc_w 314, 3) := by decide +kernel
theorem dX7_requireFloor_16 : decode cX7_requireFloor 16 = .ok (.invokespecial 96, 3) := by decide +kernel
theorem dX7_requireFloor_19 : decode cX7_requireFloor 19 = .ok (.athrow, 1) := by decide +kernel
theorem dX7_requireFloor_20 : decode cX7_requireFloor 20 = .ok (.return_, 1) := by decide +kernel
theorem dX7_requireVowel_0 : decode cX7_requireVowel 0 = .ok (.iload_n 1, 1) := by decide +kernel
theorem dX7_requireVowel_1 : decode cX7_requireVowel 1 = .ok (.ifCond .lt 8, 3) := by decide +kernel
theorem dX7_requireVowel_4 : decode cX7_requireVowel 4 = .ok (.iload_n 1, 1) := by decide +kernel
theorem dX7_requireVowel_5 : decode cX7_requireVowel 5 = .ok (.iconst 5, 1) := by decide +kernel
theorem dX7_requireVowel_6 : decode cX7_requireVowel 6 = .ok (.if_icmp .lt 14, 3) := by decide +kernel
theorem dX7_requireVowel_9 : decode cX7_requireVowel 9 = .ok (.new 92, 3) := by decide +kernel
theorem dX7_requireVowel_12 : decode cX7_requireVowel 12 = .ok (.dup, 1) := by decide +kernel
theorem dX7_requireVowel_13 : decode cX7_requireVowel 13 = .ok (.ldc_w 316, 3) := by decide +kernel
theorem dX7_requireVowel_16 : decode cX7_requireVowel 16 = .ok (.invokespecial 96, 3) := by decide +kernel
theorem dX7_requireVowel_19 : decode cX7_requireVowel 19 = .ok (.athrow, 1) := by decide +kernel
theorem dX7_requireVowel_20 : decode cX7_requireVowel 20 = .ok (.return_, 1) := by decide +kernel
theorem dX7_requireSlot_0 : decode cX7_requireSlot 0 = .ok (.iload_n 1, 1) := by decide +kernel
theorem dX7_requireSlot_1 : decode cX7_requireSlot 1 = .ok (.ifCond .lt 8, 3) := by decide +kernel
theorem dX7_requireSlot_4 : decode cX7_requireSlot 4 = .ok (.iload_n 1, 1) := by decide +kernel
theorem dX7_requireSlot_5 : decode cX7_requireSlot 5 = .ok (.iconst 2, 1) := by decide +kernel
theorem dX7_requireSlot_6 : decode cX7_requireSlot 6 = .ok (.if_icmp .lt 14, 3) := by decide +kernel
theorem dX7_requireSlot_9 : decode cX7_requireSlot 9 = .ok (.new 92, 3) := by decide +kernel
theorem dX7_requireSlot_12 : decode cX7_requireSlot 12 = .ok (.dup, 1) := by decide +kernel
theorem dX7_requireSlot_13 : decode cX7_requireSlot 13 = .ok (.ldc_w 318, 3) := by decide +kernel
theorem dX7_requireSlot_16 : decode cX7_requireSlot 16 = .ok (.invokespecial 96, 3) := by decide +kernel
theorem dX7_requireSlot_19 : decode cX7_requireSlot 19 = .ok (.athrow, 1) := by decide +kernel
theorem dX7_requireSlot_20 : decode cX7_requireSlot 20 = .ok (.return_, 1) := by decide +kernel
theorem dX7_requireRange_0 : decode cX7_requireRange 0 = .ok (.iload_n 1, 1) := by decide +kernel
theorem dX7_requireRange_1 : decode cX7_requireRange 1 = .ok (.iload_n 2, 1) := by decide +kernel
theorem dX7_requireRange_2 : decode cX7_requireRange 2 = .ok (.if_icmp .lt 8, 3) := by decide +kernel
theorem dX7_requireRange_5 : decode cX7_requireRange 5 = .ok (.iload_n 1, 1) := by decide +kernel
theorem dX7_requireRange_6 : decode cX7_requireRange 6 = .ok (.iload_n 3, 1) := by decide +kernel
theorem dX7_requireRange_7 : decode cX7_requireRange 7 = .ok (.if_icmp .le 14, 3) := by decide +kernel
theorem dX7_requireRange_10 : decode cX7_requireRange 10 = .ok (.new 106, 3) := by decide +kernel
theorem dX7_requireRange_13 : decode cX7_requireRange 13 = .ok (.dup, 1) := by decide +kernel
theorem dX7_requireRange_14 : decode cX7_requireRange 14 = .ok (.ldc_w 320, 3) := by decide +kernel
theorem dX7_requireRange_17 : decode cX7_requireRange 17 = .ok (.invokespecial 110, 3) := by decide +kernel
theorem dX7_requireRange_20 : decode cX7_requireRange 20 = .ok (.athrow, 1) := by decide +kernel
theorem dX7_requireRange_21 : decode cX7_requireRange 21 = .ok (.return_, 1) := by decide +kernel
theorem dX7_requirePlace_0 : decode cX7_requirePlace 0 = .ok (.aload_n 0, 1) := by decide +kernel
theorem dX7_requirePlace_1 : decode cX7_requirePlace 1 = .ok (.getfield 36, 3) := by decide +kernel
theorem dX7_requirePlace_4 : decode cX7_requirePlace 4 = .ok (.iload_n 1, 1) := by decide +kernel
theorem dX7_requirePlace_5 : decode cX7_requirePlace 5 = .ok (.aload_n 2, 1) := by decide +kernel
theorem dX7_requirePlace_6 : decode cX7_requirePlace 6 = .ok (.invokevirtual 322, 3) := by decide +kernel
theorem dX7_requirePlace_9 : decode cX7_requirePlace 9 = .ok (.ifCond .eq 14, 3) := by decide +kernel
theorem dX7_requirePlace_12 : decode cX7_requirePlace 12 = .ok (.new 82, 3) := by decide +kernel
theorem dX7_requirePlace_15 : decode cX7_requirePlace 15 = .ok (.dup, 1) := by decide +kernel
theorem dX7_requirePlace_16 : decode cX7_requirePlace 16 = .ok (.ldc_w 326, 3) := by decide +kernel
theorem dX7_requirePlace_19 : decode cX7_requirePlace 19 = .ok (.invokespecial 86, 3) := by decide +kernel
theorem dX7_requirePlace_22 : decode cX7_requirePlace 22 = .ok (.athrow, 1) := by decide +kernel
theorem dX7_requirePlace_23 : decode cX7_requirePlace 23 = .ok (.return_, 1) := by decide +kernel
