theorem dL_next_0 : decode cL_next 0 = .ok (.aload_n 0, 1) := by decide +kernel
theorem dL_next_1 : decode cL_next 1 = .ok (.iconst 0, 1) := by decide +kernel
theorem dL_next_2 : decode cL_next 2 = .ok (.aload_n 0, 1) := by decide +kernel
theorem dL_next_3 : decode cL_next 3 = .ok (.iconst 0, 1) := by decide +kernel
theorem dL_next_4 : decode cL_next 4 = .ok (.iaload, 1) := by decide +kernel
theorem dL_next_5 : decode cL_next 5 = .ok (.ldc 7, 2) := by decide +kernel
theorem dL_next_7 : decode cL_next 7 = .ok (.imul, 1) := by decide +kernel
theorem dL_next_8 : decode cL_next 8 = .ok (.sipush 12345, 3) := by decide +kernel
theorem dL_next_11 : decode cL_next 11 = .ok (.iadd, 1) := by decide +kernel
theorem dL_next_12 : decode cL_next 12 = .ok (.iastore, 1) := by decide +kernel
theorem dL_next_13 : decode cL_next 13 = .ok (.aload_n 0, 1) := by decide +kernel
theorem dL_next_14 : decode cL_next 14 = .ok (.iconst 0, 1) := by decide +kernel
theorem dL_next_15 : decode cL_next 15 = .ok (.dup2, 1) := by decide +kernel
theorem dL_next_16 : decode cL_next 16 = .ok (.iaload, 1) := by decide +kernel
theorem dL_next_17 : decode cL_next 17 = .ok (.aload_n 0, 1) := by decide +kernel
theorem dL_next_18 : decode cL_next 18 = .ok (.iconst 0, 1) := by decide +kernel
theorem dL_next_19 : decode cL_next 19 = .ok (.iaload, 1) := by decide +kernel
theorem dL_next_20 : decode cL_next 20 = .ok (.bipush 15, 2) := by decide +kernel
theorem dL_next_22 : decode cL_next 22 = .ok (.iushr, 1) := by decide +kernel
theorem dL_next_23 : decode cL_next 23 = .ok (.ixor, 1) := by decide +kernel
theorem dL_next_24 : decode cL_next 24 = .ok (.iastore, 1) := by decide +kernel
theorem dL_next_25 : decode cL_next 25 = .ok (.aload_n 0, 1) := by decide +kernel
theorem dL_next_26 : decode cL_next 26 = .ok (.iconst 0, 1) := by decide +kernel
theorem dL_next_27 : decode cL_next 27 = .ok (.iaload, 1) := by decide +kernel
theorem dL_next_28 : decode cL_next 28 = .ok (.bipush 9, 2) := by decide +kernel
theorem dL_next_30 : decode cL_next 30 = .ok (.iushr, 1) := by decide +kernel
theorem dL_next_31 : decode cL_next 31 = .ok (.ireturn, 1) := by decide +kernel
theorem dL_type_0 : decode cL_type 0 = .ok (.iconst 0, 1) := by decide +kernel
theorem dL_type_1 : decode cL_type 1 = .ok (.istore_n 2, 1) := by decide +kernel
theorem dL_type_2 : decode cL_type 2 = .ok (.iconst 5, 1) := by decide +kernel
theorem dL_type_3 : decode cL_type 3 = .ok (.newarray .int, 2) := by decide +kernel
theorem dL_type_5 : decode cL_type 5 = .ok (.astore_n 3, 1) := by decide +kernel
theorem dL_type_6 : decode cL_type 6 = .ok (.iconst 0, 1) := by decide +kernel
theorem dL_type_7 : decode cL_type 7 = .ok (.istore 4, 2) := by decide +kernel
theorem dL_type_9 : decode cL_type 9 = .ok (.iload 4, 2) := by decide +kernel
theorem dL_type_11 : decode cL_type 11 = .ok (.aload_n 1, 1) := by decide +kernel
theorem dL_type_12 : decode cL_type 12 = .ok (.invokevirtual 8, 3) := by decide +kernel
theorem dL_type_15 : decode cL_type 15 = .ok (.if_icmp .ge 87, 3) := by decide +kernel
theorem dL_type_18 : decode cL_type 18 = .ok (.iconst 0, 1) := by decide +kernel
theorem dL_type_19 : decode cL_type 19 = .ok (.istore 5, 2) := by decide +kernel
theorem dL_type_21 : decode cL_type 21 = .ok (.iload 5, 2) := by decide +kernel
theorem dL_type_23 : decode cL_type 23 = .ok (.bipush 20, 2) := by decide +kernel
theorem dL_type_25 : decode cL_type 25 = .ok (.if_icmp .ge 51, 3) := by decide +kernel
theorem dL_type_28 : decode cL_type 28 = .ok (.aload_n 3, 1) := by decide +kernel
theorem dL_type_29 : decode cL_type 29 = .ok (.iload 5, 2) := by decide +kernel
theorem dL_type_31 : decode cL_type 31 = .ok (.iconst 4, 1) := by decide +kernel
theorem dL_type_32 : decode cL_type 32 = .ok (.idiv, 1) := by decide +kernel
theorem dL_type_33 : decode cL_type 33 = .ok (.aload_n 3, 1) := by decide +kernel
theorem dL_type_34 : decode cL_type 34 = .ok (.iload 5, 2) := by decide +kernel
theorem dL_type_36 : decode cL_type 36 = .ok (.iconst 4, 1) := by decide +kernel
theorem dL_type_37 : decode cL_type 37 = .ok (.idiv, 1) := by decide +kernel
theorem dL_type_38 : decode cL_type 38 = .ok (.iaload, 1) := by decide +kernel
theorem dL_type_39 : decode cL_type 39 = .ok (.bipush 8, 2) := by decide +kernel
theorem dL_type_41 : decode cL_type 41 = .ok (.ishl, 1) := by decide +kernel
theorem dL_type_42 : decode cL_type 42 = .ok (.iload 4, 2) := by decide +kernel
theorem dL_type_44 : decode cL_type 44 = .ok (.iload 5, 2) := by decide +kernel
theorem dL_type_46 : decode cL_type 46 = .ok (.iadd, 1) := by decide +kernel
theorem dL_type_47 : decode cL_type 47 = .ok (.aload_n 1, 1) := by decide +kernel
theorem dL_type_48 : decode cL_type 48 = .ok (.invokevirtual 8, 3) := by decide +kernel
theorem dL_type_51 : decode cL_type 51 = .ok (.if_icmp .ge 15, 3) := by decide +kernel
theorem dL_type_54 : decode cL_type 54 = .ok (.aload_n 1, 1) := by decide +kernel
theorem dL_type_55 : decode cL_type 55 = .ok (.iload 4, 2) := by decide +kernel
theorem dL_type_57 : decode cL_type 57 = .ok (.iload 5, 2) := by decide +kernel
theorem dL_type_59 : decode cL_type 59 = .ok (.iadd, 1) := by decide +kernel
theorem dL_type_60 : decode cL_type 60 = .ok (.invokevirtual 14, 3) := by decide +kernel
theorem dL_type_63 : decode cL_type 63 = .ok (.goto 5, 3) := by decide +kernel
theorem dL_type_66 : decode cL_type 66 = .ok (.bipush 32, 2) := by decide +kernel
theorem dL_type_68 : decode cL_type 68 = .ok (.ior, 1) := by decide +kernel
theorem dL_type_69 : decode cL_type 69 = .ok (.iastore, 1) := by decide +kernel
theorem dL_type_70 : decode cL_type 70 = .ok (.iinc 5 1, 3) := by decide +kernel
theorem dL_type_73 : decode cL_type 73 = .ok (.goto (-52), 3) := by decide +kernel
theorem dL_type_76 : decode cL_type 76 = .ok (.aload_n 0, 1) := by decide +kernel
theorem dL_type_77 : decode cL_type 77 = .ok (.aload_n 3, 1) := by decide +kernel
theorem dL_type_78 : decode cL_type 78 = .ok (.iconst 0, 1) := by decide +kernel
theorem dL_type_79 : decode cL_type 79 = .ok (.iaload, 1) := by decide +kernel
theorem dL_type_80 : decode cL_type 80 = .ok (.aload_n 3, 1) := by decide +kernel
theorem dL_type_81 : decode cL_type 81 = .ok (.iconst 1, 1) := by decide +kernel
theorem dL_type_82 : decode cL_type 82 = .ok (.iaload, 1) := by decide +kernel
theorem dL_type_83 : decode cL_type 83 = .ok (.aload_n 3, 1) := by decide +kernel
theorem dL_type_84 : decode cL_type 84 = .ok (.iconst 2, 1) := by decide +kernel
theorem dL_type_85 : decode cL_type 85 = .ok (.iaload, 1) := by decide +kernel
theorem dL_type_86 : decode cL_type 86 = .ok (.aload_n 3, 1) := by decide +kernel
theorem dL_type_87 : decode cL_type 87 = .ok (.iconst 3, 1) := by decide +kernel
theorem dL_type_88 : decode cL_type 88 = .ok (.iaload, 1) := by decide +kernel
theorem dL_type_89 : decode cL_type 89 = .ok (.aload_n 3, 1) := by decide +kernel
theorem dL_type_90 : decode cL_type 90 = .ok (.iconst 4, 1) := by decide +kernel
theorem dL_type_91 : decode cL_type 91 = .ok (.iaload, 1) := by decide +kernel
theorem dL_type_92 : decode cL_type 92 = .ok (.invokevirtual 18, 3) := by decide +kernel
theorem dL_type_95 : decode cL_type 95 = .ok (.istore_n 2, 1) := by decide +kernel
theorem dL_type_96 : decode cL_type 96 = .ok (.iinc 4 20, 3) := by decide +kernel
theorem dL_type_99 : decode cL_type 99 = .ok (.goto (-90), 3) := by decide +kernel
theorem dL_type_102 : decode cL_type 102 = .ok (.aload_n 1, 1) := by decide +kernel
theorem dL_type_103 : decode cL_type 103 = .ok (.invokevirtual 8, 3) := by decide +kernel
theorem dL_type_106 : decode cL_type 106 = .ok (.ireturn, 1) := by decide +kernel
theorem dL_load_0 : decode cL_load 0 = .ok (.aload_n 0, 1) := by decide +kernel
theorem dL_load_1 : decode cL_load 1 = .ok (.aload_n 1, 1) := by decide +kernel
theorem dL_load_2 : decode cL_load 2 = .ok (.invokestatic 24, 3) := by decide +kernel
theorem dL_load_5 : decode cL_load 5 = .ok (.istore_n 2, 1) := by decide +kernel
theorem dL_load_6 : decode cL_load 6 = .ok (.aload_n 0, 1) := by decide +kernel
theorem dL_load_7 : decode cL_load 7 = .ok (.iload_n 2, 1) := by decide +kernel
theorem dL_load_8 : decode cL_load 8 = .ok (.invokevirtual 30, 3) := by decide +kernel
theorem dL_load_11 : decode cL_load 11 = .ok (.ireturn, 1) := by decide +kernel
theorem dL_load_12 : decode cL_load 12 = .ok (.astore_n 3, 1) := by decide +kernel
theorem dL_load_13 : decode cL_load 13 = .ok (.bipush (-2), 2) := by decide +kernel
theorem dL_load_15 : decode cL_load 15 = .ok (.ireturn, 1) := by decide +kernel
theorem dL_load_16 : decode cL_load 16 = .ok (.astore_n 3, 1) := by decide +kernel
theorem dL_load_17 : decode cL_load 17 = .ok (.iconst (-1), 1) := by decide +kernel
theorem dL_load_18 : decode cL_load 18 = .ok (.ireturn, 1) := by decide +kernel
theorem dL_undone_0 : decode cL_undone 0 = .ok (.aload_n 0, 1) := by decide +kernel
theorem dL_undone_1 : decode cL_undone 1 = .ok (.invokevirtual 38, 3) := by decide +kernel
theorem dL_undone_4 : decode cL_undone 4 = .ok (.ireturn, 1) := by decide +kernel
theorem dL_undone_5 : decode cL_undone 5 = .ok (.astore_n 1, 1) := by decide +kernel
theorem dL_undone_6 : decode cL_undone 6 = .ok (.iconst (-1), 1) := by decide +kernel
theorem dL_undone_7 : decode cL_undone 7 = .ok (.ireturn, 1) := by decide +kernel
theorem dL_advanced_0 : decode cL_advanced 0 = .ok (.aload_n 0, 1) := by decide +kernel
theorem dL_advanced_1 : decode cL_advanced 1 = .ok (.iload_n 1, 1) := by decide +kernel
theorem dL_advanced_2 : decode cL_advanced 2 = .ok (.invokevirtual 43, 3) := by decide +kernel
theorem dL_advanced_5 : decode cL_advanced 5 = .ok (.ireturn, 1) := by decide +kernel
theorem dL_advanced_6 : decode cL_advanced 6 = .ok (.astore_n 2, 1) := by decide +kernel
theorem dL_advanced_7 : decode cL_advanced 7 = .ok (.bipush (-2), 2) := by decide +kernel
theorem dL_advanced_9 : decode cL_advanced 9 = .ok (.ireturn, 1) := by decide +kernel
theorem dL_advanced_10 : decode cL_advanced 10 = .ok (.astore_n 2, 1) := by decide +kernel
theorem dL_advanced_11 : decode cL_advanced 11 = .ok (.bipush (-3), 2) := by decide +kernel
theorem dL_advanced_13 : decode cL_advanced 13 = .ok (.ireturn, 1) := by decide +kernel
theorem dL_movedIn_0 : decode cL_movedIn 0 = .ok (.aload_n 0, 1) := by decide +kernel
theorem dL_movedIn_1 : decode cL_movedIn 1 = .ok (.iload_n 1, 1) := by decide +kernel
theorem dL_movedIn_2 : decode cL_movedIn 2 = .ok (.iload_n 2, 1) := by decide +kernel
theorem dL_movedIn_3 : decode cL_movedIn 3 = .ok (.iload_n 3, 1) := by decide +kernel
theorem dL_movedIn_4 : decode cL_movedIn 4 = .ok (.invokevirtual 46, 3) := by decide +kernel
theorem dL_movedIn_7 : decode cL_movedIn 7 = .ok (.ireturn, 1) := by decide +kernel
theorem dL_movedIn_8 : decode cL_movedIn 8 = .ok (.astore 4, 2) := by decide +kernel
theorem dL_movedIn_10 : decode cL_movedIn 10 = .ok (.bipush (-2), 2) := by decide +kernel
theorem dL_movedIn_12 : decode cL_movedIn 12 = .ok (.ireturn, 1) := by decide +kernel
theorem dL_movedIn_13 : decode cL_movedIn 13 = .ok (.astore 4, 2) := by decide +kernel
theorem dL_movedIn_15 : decode cL_movedIn 15 = .ok (.bipush (-3), 2) := by decide +kernel
theorem dL_movedIn_17 : decode cL_movedIn 17 = .ok (.ireturn, 1) := by decide +kernel
theorem dL_movedOut_0 : decode cL_movedOut 0 = .ok (.aload_n 0, 1) := by decide +kernel
theorem dL_movedOut_1 : decode cL_movedOut 1 = .ok (.iload_n 1, 1) := by decide +kernel
theorem dL_movedOut_2 : decode cL_movedOut 2 = .ok (.invokevirtual 50, 3) := by decide +kernel
theorem dL_movedOut_5 : decode cL_movedOut 5 = .ok (.ireturn, 1) := by decide +kernel
theorem dL_movedOut_6 : decode cL_movedOut 6 = .ok (.astore_n 2, 1) := by decide +kernel
theorem dL_movedOut_7 : decode cL_movedOut 7 = .ok (.sipush 9999, 3) := by decide +kernel
theorem dL_movedOut_10 : decode cL_movedOut 10 = .ok (.ireturn, 1) := by decide +kernel
theorem dL_movedTo_0 : decode cL_movedTo 0 = .ok (.aload_n 0, 1) := by decide +kernel
theorem dL_movedTo_1 : decode cL_movedTo 1 = .ok (.iload_n 1, 1) := by decide +kernel
theorem dL_movedTo_2 : decode cL_movedTo 2 = .ok (.iload_n 2, 1) := by decide +kernel
theorem dL_movedTo_3 : decode cL_movedTo 3 = .ok (.invokevirtual 53, 3) := by decide +kernel
theorem dL_movedTo_6 : decode cL_movedTo 6 = .ok (.ireturn, 1) := by decide +kernel
theorem dL_movedTo_7 : decode cL_movedTo 7 = .ok (.astore_n 3, 1) := by decide +kernel
theorem dL_movedTo_8 : decode cL_movedTo 8 = .ok (.bipush (-5), 2) := by decide +kernel
theorem dL_movedTo_10 : decode cL_movedTo 10 = .ok (.ireturn, 1) := by decide +kernel
theorem dL_movedTo_11 : decode cL_movedTo 11 = .ok (.astore_n 3, 1) := by decide +kernel
theorem dL_movedTo_12 : decode cL_movedTo 12 = .ok (.bipush (-2), 2) := by decide +kernel
theorem dL_movedTo_14 : decode cL_movedTo 14 = .ok (.ireturn, 1) := by decide +kernel
theorem dL_movedTo_15 : decode cL_movedTo 15 = .ok (.astore_n 3, 1) := by decide +kernel
theorem dL_movedTo_16 : decode cL_movedTo 16 = .ok (.bipush (-3), 2) := by decide +kernel
theorem dL_movedTo_18 : decode cL_movedTo 18 = .ok (.ireturn, 1) := by decide +kernel
theorem dL_paid_0 : decode cL_paid 0 = .ok (.aload_n 0, 1) := by decide +kernel
theorem dL_paid_1 : decode cL_paid 1 = .ok (.iload_n 1, 1) := by decide +kernel
theorem dL_paid_2 : decode cL_paid 2 = .ok (.iload_n 2, 1) := by decide +kernel
theorem dL_paid_3 : decode cL_paid 3 = .ok (.invokevirtual 57, 3) := by decide +kernel
theorem dL_paid_6 : decode cL_paid 6 = .ok (.ireturn, 1) := by decide +kernel
theorem dL_paid_7 : decode cL_paid 7 = .ok (.astore_n 3, 1) := by decide +kernel
theorem dL_paid_8 : decode cL_paid 8 = .ok (.ldc 60, 2) := by decide +kernel
theorem dL_paid_10 : decode cL_paid 10 = .ok (.ireturn, 1) := by decide +kernel
theorem dL_paid_11 : decode cL_paid 11 = .ok (.astore_n 3, 1) := by decide +kernel
theorem dL_paid_12 : decode cL_paid 12 = .ok (.ldc 61, 2) := by decide +kernel
theorem dL_paid_14 : decode cL_paid 14 = .ok (.ireturn, 1) := by decide +kernel
theorem dL_spoke_0 : decode cL_spoke 0 = .ok (.aload_n 0, 1) := by decide +kernel
theorem dL_spoke_1 : decode cL_spoke 1 = .ok (.iload_n 1, 1) := by decide +kernel
theorem dL_spoke_2 : decode cL_spoke 2 = .ok (.iload_n 2, 1) := by decide +kernel
theorem dL_spoke_3 : decode cL_spoke 3 = .ok (.invokevirtual 62, 3) := by decide +kernel
theorem dL_spoke_6 : decode cL_spoke 6 = .ok (.ireturn, 1) := by decide +kernel
theorem dL_spoke_7 : decode cL_spoke 7 = .ok (.astore_n 3, 1) := by decide +kernel
theorem dL_spoke_8 : decode cL_spoke 8 = .ok (.bipush (-5), 2) := by decide +kernel
theorem dL_spoke_10 : decode cL_spoke 10 = .ok (.ireturn, 1) := by decide +kernel
theorem dL_spoke_11 : decode cL_spoke 11 = .ok (.astore_n 3, 1) := by decide +kernel
theorem dL_spoke_12 : decode cL_spoke 12 = .ok (.bipush (-2), 2) := by decide +kernel
theorem dL_spoke_14 : decode cL_spoke 14 = .ok (.ireturn, 1) := by decide +kernel
theorem dL_tolerates_0 : decode cL_tolerates 0 = .ok (.aload_n 0, 1) := by decide +kernel
theorem dL_tolerates_1 : decode cL_tolerates 1 = .ok (.iload_n 1, 1) := by decide +kernel
theorem dL_tolerates_2 : decode cL_tolerates 2 = .ok (.invokevirtual 65, 3) := by decide +kernel
theorem dL_tolerates_5 : decode cL_tolerates 5 = .ok (.ireturn, 1) := by decide +kernel
theorem dL_tolerates_6 : decode cL_tolerates 6 = .ok (.astore_n 2, 1) := by decide +kernel
theorem dL_tolerates_7 : decode cL_tolerates 7 = .ok (.bipush (-2), 2) := by decide +kernel
theorem dL_tolerates_9 : decode cL_tolerates 9 = .ok (.ireturn, 1) := by decide +kernel
theorem dL_rents_0 : decode cL_rents 0 = .ok (.aload_n 0, 1) := by decide +kernel
theorem dL_rents_1 : decode cL_rents 1 = .ok (.iload_n 1, 1) := by decide +kernel
theorem dL_rents_2 : decode cL_rents 2 = .ok (.invokevirtual 68, 3) := by decide +kernel
theorem dL_rents_5 : decode cL_rents 5 = .ok (.ireturn, 1) := by decide +kernel
theorem dL_rents_6 : decode cL_rents 6 = .ok (.astore_n 2, 1) := by decide +kernel
theorem dL_rents_7 : decode cL_rents 7 = .ok (.bipush (-2), 2) := by decide +kernel
theorem dL_rents_9 : decode cL_rents 9 = .ok (.ireturn, 1) := by decide +kernel
theorem dL_lodgerAt_0 : decode cL_lodgerAt 0 = .ok (.aload_n 0, 1) := by decide +kernel
theorem dL_lodgerAt_1 : decode cL_lodgerAt 1 = .ok (.iload_n 1, 1) := by decide +kernel
theorem dL_lodgerAt_2 : decode cL_lodgerAt 2 = .ok (.iload_n 2, 1) := by decide +kernel
theorem dL_lodgerAt_3 : decode cL_lodgerAt 3 = .ok (.invokevirtual 71, 3) := by decide +kernel
theorem dL_lodgerAt_6 : decode cL_lodgerAt 6 = .ok (.ireturn, 1) := by decide +kernel
theorem dL_lodgerAt_7 : decode cL_lodgerAt 7 = .ok (.astore_n 3, 1) := by decide +kernel
theorem dL_lodgerAt_8 : decode cL_lodgerAt 8 = .ok (.bipush (-5), 2) := by decide +kernel
theorem dL_lodgerAt_10 : decode cL_lodgerAt 10 = .ok (.ireturn, 1) := by decide +kernel
theorem dL_average_0 : decode cL_average 0 = .ok (.aload_n 0, 1) := by decide +kernel
theorem dL_average_1 : decode cL_average 1 = .ok (.iload_n 1, 1) := by decide +kernel
theorem dL_average_2 : decode cL_average 2 = .ok (.iload_n 2, 1) := by decide +kernel
theorem dL_average_3 : decode cL_average 3 = .ok (.invokevirtual 74, 3) := by decide +kernel
theorem dL_average_6 : decode cL_average 6 = .ok (.ireturn, 1) := by decide +kernel
theorem dL_average_7 : decode cL_average 7 = .ok (.astore_n 3, 1) := by decide +kernel
theorem dL_average_8 : decode cL_average 8 = .ok (.bipush (-5), 2) := by decide +kernel
theorem dL_average_10 : decode cL_average 10 = .ok (.ireturn, 1) := by decide +kernel
theorem dL_average_11 : decode cL_average 11 = .ok (.astore_n 3, 1) := by decide +kernel
theorem dL_average_12 : decode cL_average 12 = .ok (.bipush (-3), 2) := by decide +kernel
theorem dL_average_14 : decode cL_average 14 = .ok (.ireturn, 1) := by decide +kernel
theorem dL_house_0 : decode cL_house 0 = .ok (.new 77, 3) := by decide +kernel
theorem dL_house_3 : decode cL_house 3 = .ok (.dup, 1) := by decide +kernel
theorem dL_house_4 : decode cL_house 4 = .ok (.ldc 79, 2) := by decide +kernel
theorem dL_house_6 : decode cL_house 6 = .ok (.invokespecial 81, 3) := by decide +kernel
theorem dL_house_9 : decode cL_house 9 = .ok (.aload_n 1, 1) := by decide +kernel
theorem dL_house_10 : decode cL_house 10 = .ok (.invokestatic 84, 3) := by decide +kernel
theorem dL_house_13 : decode cL_house 13 = .ok (.bipush 20, 2) := by decide +kernel
theorem dL_house_15 : decode cL_house 15 = .ok (.irem, 1) := by decide +kernel
theorem dL_house_16 : decode cL_house 16 = .ok (.invokevirtual 88, 3) := by decide +kernel
theorem dL_house_19 : decode cL_house 19 = .ok (.bipush 32, 2) := by decide +kernel
theorem dL_house_21 : decode cL_house 21 = .ok (.invokevirtual 91, 3) := by decide +kernel
theorem dL_house_24 : decode cL_house 24 = .ok (.aload_n 1, 1) := by decide +kernel
theorem dL_house_25 : decode cL_house 25 = .ok (.invokestatic 84, 3) := by decide +kernel
theorem dL_house_28 : decode cL_house 28 = .ok (.bipush 30, 2) := by decide +kernel
theorem dL_house_30 : decode cL_house 30 = .ok (.irem, 1) := by decide +kernel
theorem dL_house_31 : decode cL_house 31 = .ok (.invokevirtual 88, 3) := by decide +kernel
theorem dL_house_34 : decode cL_house 34 = .ok (.ldc 94, 2) := by decide +kernel
theorem dL_house_36 : decode cL_house 36 = .ok (.invokevirtual 96, 3) := by decide +kernel
theorem dL_house_39 : decode cL_house 39 = .ok (.astore_n 2, 1) := by decide +kernel
theorem dL_house_40 : decode cL_house 40 = .ok (.iconst 0, 1) := by decide +kernel
theorem dL_house_41 : decode cL_house 41 = .ok (.istore_n 3, 1) := by decide +kernel
theorem dL_house_42 : decode cL_house 42 = .ok (.iload_n 3, 1) := by decide +kernel
theorem dL_house_43 : decode cL_house 43 = .ok (.iconst 5, 1) := by decide +kernel
theorem dL_house_44 : decode cL_house 44 = .ok (.if_icmp .ge 26, 3) := by decide +kernel
theorem dL_house_47 : decode cL_house 47 = .ok (.aload_n 2, 1) := by decide +kernel
theorem dL_house_48 : decode cL_house 48 = .ok (.bipush 32, 2) := by decide +kernel
theorem dL_house_50 : decode cL_house 50 = .ok (.invokevirtual 91, 3) := by decide +kernel
theorem dL_house_53 : decode cL_house 53 = .ok (.aload_n 1, 1) := by decide +kernel
theorem dL_house_54 : decode cL_house 54 = .ok (.invokestatic 84, 3) := by decide +kernel
theorem dL_house_57 : decode cL_house 57 = .ok (.bipush 10, 2) := by decide +kernel
theorem dL_house_59 : decode cL_house 59 = .ok (.irem, 1) := by decide +kernel
theorem dL_house_60 : decode cL_house 60 = .ok (.invokevirtual 88, 3) := by decide +kernel
theorem dL_house_63 : decode cL_house 63 = .ok (.pop, 1) := by decide +kernel
theorem dL_house_64 : decode cL_house 64 = .ok (.iinc 3 1, 3) := by decide +kernel
theorem dL_house_67 : decode cL_house 67 = .ok (.goto (-25), 3) := by decide +kernel
theorem dL_house_70 : decode cL_house 70 = .ok (.aload_n 1, 1) := by decide +kernel
theorem dL_house_71 : decode cL_house 71 = .ok (.invokestatic 84, 3) := by decide +kernel
theorem dL_house_74 : decode cL_house 74 = .ok (.iconst 5, 1) := by decide +kernel
theorem dL_house_75 : decode cL_house 75 = .ok (.irem, 1) := by decide +kernel
theorem dL_house_76 : decode cL_house 76 = .ok (.istore_n 3, 1) := by decide +kernel
theorem dL_house_77 : decode cL_house 77 = .ok (.iconst 0, 1) := by decide +kernel
theorem dL_house_78 : decode cL_house 78 = .ok (.istore 4, 2) := by decide +kernel
theorem dL_house_80 : decode cL_house 80 = .ok (.iload 4, 2) := by decide +kernel
theorem dL_house_82 : decode cL_house 82 = .ok (.iload_n 0, 1) := by decide +kernel
theorem dL_house_83 : decode cL_house 83 = .ok (.if_icmp .ge 89, 3) := by decide +kernel
theorem dL_house_86 : decode cL_house 86 = .ok (.aload_n 2, 1) := by decide +kernel
theorem dL_house_87 : decode cL_house 87 = .ok (.ldc 99, 2) := by decide +kernel
theorem dL_house_89 : decode cL_house 89 = .ok (.invokevirtual 96, 3) := by decide +kernel
theorem dL_house_92 : decode cL_house 92 = .ok (.bipush 97, 2) := by decide +kernel
theorem dL_house_94 : decode cL_house 94 = .ok (.iload 4, 2) := by decide +kernel
theorem dL_house_96 : decode cL_house 96 = .ok (.iadd, 1) := by decide +kernel
theorem dL_house_97 : decode cL_house 97 = .ok (.i2c, 1) := by decide +kernel
theorem dL_house_98 : decode cL_house 98 = .ok (.invokevirtual 91, 3) := by decide +kernel
theorem dL_house_101 : decode cL_house 101 = .ok (.bipush 32, 2) := by decide +kernel
theorem dL_house_103 : decode cL_house 103 = .ok (.invokevirtual 91, 3) := by decide +kernel
theorem dL_house_106 : decode cL_house 106 = .ok (.iload_n 3, 1) := by decide +kernel
theorem dL_house_107 : decode cL_house 107 = .ok (.iload 4, 2) := by decide +kernel
theorem dL_house_109 : decode cL_house 109 = .ok (.iconst 3, 1) := by decide +kernel
theorem dL_house_110 : decode cL_house 110 = .ok (.idiv, 1) := by decide +kernel
theorem dL_house_111 : decode cL_house 111 = .ok (.iadd, 1) := by decide +kernel
theorem dL_house_112 : decode cL_house 112 = .ok (.iconst 5, 1) := by decide +kernel
theorem dL_house_113 : decode cL_house 113 = .ok (.irem, 1) := by decide +kernel
theorem dL_house_114 : decode cL_house 114 = .ok (.invokevirtual 88, 3) := by decide +kernel
theorem dL_house_117 : decode cL_house 117 = .ok (.bipush 32, 2) := by decide +kernel
theorem dL_house_119 : decode cL_house 119 = .ok (.invokevirtual 91, 3) := by decide +kernel
theorem dL_house_122 : decode cL_house 122 = .ok (.aload_n 1, 1) := by decide +kernel
theorem dL_house_123 : decode cL_house 123 = .ok (.invokestatic 84, 3) := by decide +kernel
theorem dL_house_126 : decode cL_house 126 = .ok (.sipush 150, 3) := by decide +kernel
theorem dL_house_129 : decode cL_house 129 = .ok (.irem, 1) := by decide +kernel
theorem dL_house_130 : decode cL_house 130 = .ok (.invokevirtual 88, 3) := by decide +kernel
theorem dL_house_133 : decode cL_house 133 = .ok (.pop, 1) := by decide +kernel
theorem dL_house_134 : decode cL_house 134 = .ok (.iconst 0, 1) := by decide +kernel
theorem dL_house_135 : decode cL_house 135 = .ok (.istore 5, 2) := by decide +kernel
theorem dL_house_137 : decode cL_house 137 = .ok (.iload 5, 2) := by decide +kernel
theorem dL_house_139 : decode cL_house 139 = .ok (.iconst 5, 1) := by decide +kernel
theorem dL_house_140 : decode cL_house 140 = .ok (.if_icmp .ge 26, 3) := by decide +kernel
theorem dL_house_143 : decode cL_house 143 = .ok (.aload_n 2, 1) := by decide +kernel
theorem dL_house_144 : decode cL_house 144 = .ok (.bipush 32, 2) := by decide +kernel
theorem dL_house_146 : decode cL_house 146 = .ok (.invokevirtual 91, 3) := by decide +kernel
theorem dL_house_149 : decode cL_house 149 = .ok (.aload_n 1, 1) := by decide +kernel
theorem dL_house_150 : decode cL_house 150 = .ok (.invokestatic 84, 3) := by decide +kernel
theorem dL_house_153 : decode cL_house 153 = .ok (.bipush 10, 2) := by decide +kernel
theorem dL_house_155 : decode cL_house 155 = .ok (.irem, 1) := by decide +kernel
theorem dL_house_156 : decode cL_house 156 = .ok (.invokevirtual 88, 3) := by decide +kernel
theorem dL_house_159 : decode cL_house 159 = .ok (.pop, 1) := by decide +kernel
theorem dL_house_160 : decode cL_house 160 = .ok (.iinc 5 1, 3) := by decide +kernel
theorem dL_house_163 : decode cL_house 163 = .ok (.goto (-26), 3) := by decide +kernel
theorem dL_house_166 : decode cL_house 166 = .ok (.iinc 4 1, 3) := by decide +kernel
theorem dL_house_169 : decode cL_house 169 = .ok (.goto (-89), 3) := by decide +kernel
theorem dL_house_172 : decode cL_house 172 = .ok (.aload_n 2, 1) := by decide +kernel
theorem dL_house_173 : decode cL_house 173 = .ok (.ldc 101, 2) := by decide +kernel
theorem dL_house_175 : decode cL_house 175 = .ok (.invokevirtual 96, 3) := by decide +kernel
theorem dL_house_178 : decode cL_house 178 = .ok (.iconst 1, 1) := by decide +kernel
theorem dL_house_179 : decode cL_house 179 = .ok (.aload_n 1, 1) := by decide +kernel
theorem dL_house_180 : decode cL_house 180 = .ok (.invokestatic 84, 3) := by decide +kernel
theorem dL_house_183 : decode cL_house 183 = .ok (.iconst 5, 1) := by decide +kernel
theorem dL_house_184 : decode cL_house 184 = .ok (.irem, 1) := by decide +kernel
theorem dL_house_185 : decode cL_house 185 = .ok (.iadd, 1) := by decide +kernel
theorem dL_house_186 : decode cL_house 186 = .ok (.invokevirtual 88, 3) := by decide +kernel
theorem dL_house_189 : decode cL_house 189 = .ok (.invokevirtual 103, 3) := by decide +kernel
theorem dL_house_192 : decode cL_house 192 = .ok (.areturn, 1) := by decide +kernel
theorem dL_sum_0 : decode cL_sum 0 = .ok (.ldc2_w 107, 3) := by decide +kernel
theorem dL_sum_3 : decode cL_sum 3 = .ok (.ldc2_w 107, 3) := by decide +kernel
theorem dL_sum_6 : decode cL_sum 6 = .ok (.ldc2_w 107, 3) := by decide +kernel
theorem dL_sum_9 : decode cL_sum 9 = .ok (.aload_n 0, 1) := by decide +kernel
theorem dL_sum_10 : decode cL_sum 10 = .ok (.invokevirtual 109, 3) := by decide +kernel
theorem dL_sum_13 : decode cL_sum 13 = .ok (.i2l, 1) := by decide +kernel
theorem dL_sum_14 : decode cL_sum 14 = .ok (.lmul, 1) := by decide +kernel
theorem dL_sum_15 : decode cL_sum 15 = .ok (.aload_n 0, 1) := by decide +kernel
theorem dL_sum_16 : decode cL_sum 16 = .ok (.invokevirtual 112, 3) := by decide +kernel
theorem dL_sum_19 : decode cL_sum 19 = .ok (.i2l, 1) := by decide +kernel
theorem dL_sum_20 : decode cL_sum 20 = .ok (.ladd, 1) := by decide +kernel
theorem dL_sum_21 : decode cL_sum 21 = .ok (.lmul, 1) := by decide +kernel
theorem dL_sum_22 : decode cL_sum 22 = .ok (.aload_n 0, 1) := by decide +kernel
theorem dL_sum_23 : decode cL_sum 23 = .ok (.invokevirtual 115, 3) := by decide +kernel
theorem dL_sum_26 : decode cL_sum 26 = .ok (.i2l, 1) := by decide +kernel
theorem dL_sum_27 : decode cL_sum 27 = .ok (.ladd, 1) := by decide +kernel
theorem dL_sum_28 : decode cL_sum 28 = .ok (.lmul, 1) := by decide +kernel
theorem dL_sum_29 : decode cL_sum 29 = .ok (.aload_n 0, 1) := by decide +kernel
theorem dL_sum_30 : decode cL_sum 30 = .ok (.invokevirtual 118, 3) := by decide +kernel
theorem dL_sum_33 : decode cL_sum 33 = .ok (.i2l, 1) := by decide +kernel
theorem dL_sum_34 : decode cL_sum 34 = .ok (.ladd, 1) := by decide +kernel
theorem dL_sum_35 : decode cL_sum 35 = .ok (.lstore_n 1, 1) := by decide +kernel
theorem dL_sum_36 : decode cL_sum 36 = .ok (.ldc2_w 107, 3) := by decide +kernel
theorem dL_sum_39 : decode cL_sum 39 = .ok (.ldc2_w 107, 3) := by decide +kernel
theorem dL_sum_42 : decode cL_sum 42 = .ok (.ldc2_w 107, 3) := by decide +kernel
theorem dL_sum_45 : decode cL_sum 45 = .ok (.lload_n 1, 1) := by decide +kernel
theorem dL_sum_46 : decode cL_sum 46 = .ok (.lmul, 1) := by decide +kernel
theorem dL_sum_47 : decode cL_sum 47 = .ok (.aload_n 0, 1) := by decide +kernel
theorem dL_sum_48 : decode cL_sum 48 = .ok (.invokevirtual 121, 3) := by decide +kernel
theorem dL_sum_51 : decode cL_sum 51 = .ok (.i2l, 1) := by decide +kernel
theorem dL_sum_52 : decode cL_sum 52 = .ok (.ladd, 1) := by decide +kernel
theorem dL_sum_53 : decode cL_sum 53 = .ok (.lmul, 1) := by decide +kernel
theorem dL_sum_54 : decode cL_sum 54 = .ok (.aload_n 0, 1) := by decide +kernel
theorem dL_sum_55 : decode cL_sum 55 = .ok (.invokevirtual 124, 3) := by decide +kernel
theorem dL_sum_58 : decode cL_sum 58 = .ok (.i2l, 1) := by decide +kernel
theorem dL_sum_59 : decode cL_sum 59 = .ok (.ladd, 1) := by decide +kernel
theorem dL_sum_60 : decode cL_sum 60 = .ok (.lmul, 1) := by decide +kernel
theorem dL_sum_61 : decode cL_sum 61 = .ok (.aload_n 0, 1) := by decide +kernel
theorem dL_sum_62 : decode cL_sum 62 = .ok (.invokevirtual 127, 3) := by decide +kernel
theorem dL_sum_65 : decode cL_sum 65 = .ok (.i2l, 1) := by decide +kernel
theorem dL_sum_66 : decode cL_sum 66 = .ok (.ladd, 1) := by decide +kernel
theorem dL_sum_67 : decode cL_sum 67 = .ok (.lstore_n 1, 1) := by decide +kernel
theorem dL_sum_68 : decode cL_sum 68 = .ok (.iconst 0, 1) := by decide +kernel
theorem dL_sum_69 : decode cL_sum 69 = .ok (.istore_n 3, 1) := by decide +kernel
theorem dL_sum_70 : decode cL_sum 70 = .ok (.iload_n 3, 1) := by decide +kernel
theorem dL_sum_71 : decode cL_sum 71 = .ok (.iconst 5, 1) := by decide +kernel
theorem dL_sum_72 : decode cL_sum 72 = .ok (.if_icmp .ge 22, 3) := by decide +kernel
theorem dL_sum_75 : decode cL_sum 75 = .ok (.ldc2_w 107, 3) := by decide +kernel
theorem dL_sum_78 : decode cL_sum 78 = .ok (.lload_n 1, 1) := by decide +kernel
theorem dL_sum_79 : decode cL_sum 79 = .ok (.lmul, 1) := by decide +kernel
theorem dL_sum_80 : decode cL_sum 80 = .ok (.aload_n 0, 1) := by decide +kernel
theorem dL_sum_81 : decode cL_sum 81 = .ok (.iload_n 3, 1) := by decide +kernel
theorem dL_sum_82 : decode cL_sum 82 = .ok (.invokevirtual 130, 3) := by decide +kernel
theorem dL_sum_85 : decode cL_sum 85 = .ok (.i2l, 1) := by decide +kernel
theorem dL_sum_86 : decode cL_sum 86 = .ok (.ladd, 1) := by decide +kernel
theorem dL_sum_87 : decode cL_sum 87 = .ok (.lstore_n 1, 1) := by decide +kernel
theorem dL_sum_88 : decode cL_sum 88 = .ok (.iinc 3 1, 3) := by decide +kernel
theorem dL_sum_91 : decode cL_sum 91 = .ok (.goto (-21), 3) := by decide +kernel
theorem dL_sum_94 : decode cL_sum 94 = .ok (.iconst 0, 1) := by decide +kernel
theorem dL_sum_95 : decode cL_sum 95 = .ok (.istore_n 3, 1) := by decide +kernel
theorem dL_sum_96 : decode cL_sum 96 = .ok (.iload_n 3, 1) := by decide +kernel
theorem dL_sum_97 : decode cL_sum 97 = .ok (.aload_n 0, 1) := by decide +kernel
theorem dL_sum_98 : decode cL_sum 98 = .ok (.invokevirtual 133, 3) := by decide +kernel
theorem dL_sum_101 : decode cL_sum 101 = .ok (.if_icmp .ge 143, 3) := by decide +kernel
theorem dL_sum_104 : decode cL_sum 104 = .ok (.ldc2_w 107, 3) := by decide +kernel
theorem dL_sum_107 : decode cL_sum 107 = .ok (.ldc2_w 107, 3) := by decide +kernel
theorem dL_sum_110 : decode cL_sum 110 = .ok (.ldc2_w 107, 3) := by decide +kernel
theorem dL_sum_113 : decode cL_sum 113 = .ok (.lload_n 1, 1) := by decide +kernel
theorem dL_sum_114 : decode cL_sum 114 = .ok (.lmul, 1) := by decide +kernel
theorem dL_sum_115 : decode cL_sum 115 = .ok (.aload_n 0, 1) := by decide +kernel
theorem dL_sum_116 : decode cL_sum 116 = .ok (.iload_n 3, 1) := by decide +kernel
theorem dL_sum_117 : decode cL_sum 117 = .ok (.invokevirtual 136, 3) := by decide +kernel
theorem dL_sum_120 : decode cL_sum 120 = .ok (.i2l, 1) := by decide +kernel
theorem dL_sum_121 : decode cL_sum 121 = .ok (.ladd, 1) := by decide +kernel
theorem dL_sum_122 : decode cL_sum 122 = .ok (.lmul, 1) := by decide +kernel
theorem dL_sum_123 : decode cL_sum 123 = .ok (.aload_n 0, 1) := by decide +kernel
theorem dL_sum_124 : decode cL_sum 124 = .ok (.iload_n 3, 1) := by decide +kernel
theorem dL_sum_125 : decode cL_sum 125 = .ok (.invokevirtual 139, 3) := by decide +kernel
theorem dL_sum_128 : decode cL_sum 128 = .ok (.i2l, 1) := by decide +kernel
theorem dL_sum_129 : decode cL_sum 129 = .ok (.ladd, 1) := by decide +kernel
theorem dL_sum_130 : decode cL_sum 130 = .ok (.lmul, 1) := by decide +kernel
theorem dL_sum_131 : decode cL_sum 131 = .ok (.aload_n 0, 1) := by decide +kernel
theorem dL_sum_132 : decode cL_sum 132 = .ok (.iload_n 3, 1) := by decide +kernel
theorem dL_sum_133 : decode cL_sum 133 = .ok (.invokevirtual 142, 3) := by decide +kernel
theorem dL_sum_136 : decode cL_sum 136 = .ok (.i2l, 1) := by decide +kernel
theorem dL_sum_137 : decode cL_sum 137 = .ok (.ladd, 1) := by decide +kernel
theorem dL_sum_138 : decode cL_sum 138 = .ok (.lstore_n 1, 1) := by decide +kernel
theorem dL_sum_139 : decode cL_sum 139 = .ok (.ldc2_w 107, 3) := by decide +kernel
theorem dL_sum_142 : decode cL_sum 142 = .ok (.ldc2_w 107, 3) := by decide +kernel
theorem dL_sum_145 : decode cL_sum 145 = .ok (.ldc2_w 107, 3) := by decide +kernel
theorem dL_sum_148 : decode cL_sum 148 = .ok (.lload_n 1, 1) := by decide +kernel
theorem dL_sum_149 : decode cL_sum 149 = .ok (.lmul, 1) := by decide +kernel
theorem dL_sum_150 : decode cL_sum 150 = .ok (.aload_n 0, 1) := by decide +kernel
theorem dL_sum_151 : decode cL_sum 151 = .ok (.iload_n 3, 1) := by decide +kernel
theorem dL_sum_152 : decode cL_sum 152 = .ok (.invokevirtual 145, 3) := by decide +kernel
theorem dL_sum_155 : decode cL_sum 155 = .ok (.i2l, 1) := by decide +kernel
theorem dL_sum_156 : decode cL_sum 156 = .ok (.ladd, 1) := by decide +kernel
theorem dL_sum_157 : decode cL_sum 157 = .ok (.lmul, 1) := by decide +kernel
theorem dL_sum_158 : decode cL_sum 158 = .ok (.aload_n 0, 1) := by decide +kernel
theorem dL_sum_159 : decode cL_sum 159 = .ok (.iload_n 3, 1) := by decide +kernel
theorem dL_sum_160 : decode cL_sum 160 = .ok (.invokevirtual 148, 3) := by decide +kernel
theorem dL_sum_163 : decode cL_sum 163 = .ok (.i2l, 1) := by decide +kernel
theorem dL_sum_164 : decode cL_sum 164 = .ok (.ladd, 1) := by decide +kernel
theorem dL_sum_165 : decode cL_sum 165 = .ok (.lmul, 1) := by decide +kernel
theorem dL_sum_166 : decode cL_sum 166 = .ok (.aload_n 0, 1) := by decide +kernel
theorem dL_sum_167 : decode cL_sum 167 = .ok (.iload_n 3, 1) := by decide +kernel
theorem dL_sum_168 : decode cL_sum 168 = .ok (.invokevirtual 151, 3) := by decide +kernel
theorem dL_sum_171 : decode cL_sum 171 = .ok (.i2l, 1) := by decide +kernel
theorem dL_sum_172 : decode cL_sum 172 = .ok (.ladd, 1) := by decide +kernel
theorem dL_sum_173 : decode cL_sum 173 = .ok (.lstore_n 1, 1) := by decide +kernel
theorem dL_sum_174 : decode cL_sum 174 = .ok (.iconst 0, 1) := by decide +kernel
theorem dL_sum_175 : decode cL_sum 175 = .ok (.istore 4, 2) := by decide +kernel
theorem dL_sum_177 : decode cL_sum 177 = .ok (.iload 4, 2) := by decide +kernel
theorem dL_sum_179 : decode cL_sum 179 = .ok (.iconst 5, 1) := by decide +kernel
theorem dL_sum_180 : decode cL_sum 180 = .ok (.if_icmp .ge 24, 3) := by decide +kernel
theorem dL_sum_183 : decode cL_sum 183 = .ok (.ldc2_w 107, 3) := by decide +kernel
theorem dL_sum_186 : decode cL_sum 186 = .ok (.lload_n 1, 1) := by decide +kernel
theorem dL_sum_187 : decode cL_sum 187 = .ok (.lmul, 1) := by decide +kernel
theorem dL_sum_188 : decode cL_sum 188 = .ok (.aload_n 0, 1) := by decide +kernel
theorem dL_sum_189 : decode cL_sum 189 = .ok (.iload_n 3, 1) := by decide +kernel
theorem dL_sum_190 : decode cL_sum 190 = .ok (.iload 4, 2) := by decide +kernel
theorem dL_sum_192 : decode cL_sum 192 = .ok (.invokevirtual 154, 3) := by decide +kernel
theorem dL_sum_195 : decode cL_sum 195 = .ok (.i2l, 1) := by decide +kernel
theorem dL_sum_196 : decode cL_sum 196 = .ok (.ladd, 1) := by decide +kernel
theorem dL_sum_197 : decode cL_sum 197 = .ok (.lstore_n 1, 1) := by decide +kernel
theorem dL_sum_198 : decode cL_sum 198 = .ok (.iinc 4 1, 3) := by decide +kernel
theorem dL_sum_201 : decode cL_sum 201 = .ok (.goto (-24), 3) := by decide +kernel
theorem dL_sum_204 : decode cL_sum 204 = .ok (.iconst 0, 1) := by decide +kernel
theorem dL_sum_205 : decode cL_sum 205 = .ok (.istore 4, 2) := by decide +kernel
theorem dL_sum_207 : decode cL_sum 207 = .ok (.iload 4, 2) := by decide +kernel
theorem dL_sum_209 : decode cL_sum 209 = .ok (.aload_n 0, 1) := by decide +kernel
theorem dL_sum_210 : decode cL_sum 210 = .ok (.iload_n 3, 1) := by decide +kernel
theorem dL_sum_211 : decode cL_sum 211 = .ok (.invokevirtual 151, 3) := by decide +kernel
theorem dL_sum_214 : decode cL_sum 214 = .ok (.if_icmp .ge 24, 3) := by decide +kernel
theorem dL_sum_217 : decode cL_sum 217 = .ok (.ldc2_w 107, 3) := by decide +kernel
theorem dL_sum_220 : decode cL_sum 220 = .ok (.lload_n 1, 1) := by decide +kernel
theorem dL_sum_221 : decode cL_sum 221 = .ok (.lmul, 1) := by decide +kernel
theorem dL_sum_222 : decode cL_sum 222 = .ok (.aload_n 0, 1) := by decide +kernel
theorem dL_sum_223 : decode cL_sum 223 = .ok (.iload_n 3, 1) := by decide +kernel
theorem dL_sum_224 : decode cL_sum 224 = .ok (.iload 4, 2) := by decide +kernel
theorem dL_sum_226 : decode cL_sum 226 = .ok (.invokevirtual 157, 3) := by decide +kernel
theorem dL_sum_229 : decode cL_sum 229 = .ok (.i2l, 1) := by decide +kernel
theorem dL_sum_230 : decode cL_sum 230 = .ok (.ladd, 1) := by decide +kernel
theorem dL_sum_231 : decode cL_sum 231 = .ok (.lstore_n 1, 1) := by decide +kernel
theorem dL_sum_232 : decode cL_sum 232 = .ok (.iinc 4 1, 3) := by decide +kernel
theorem dL_sum_235 : decode cL_sum 235 = .ok (.goto (-28), 3) := by decide +kernel
theorem dL_sum_238 : decode cL_sum 238 = .ok (.iinc 3 1, 3) := by decide +kernel
theorem dL_sum_241 : decode cL_sum 241 = .ok (.goto (-145), 3) := by decide +kernel
theorem dL_sum_244 : decode cL_sum 244 = .ok (.lload_n 1, 1) := by decide +kernel
theorem dL_sum_245 : decode cL_sum 245 = .ok (.lreturn, 1) := by decide +kernel
theorem dL_floors_0 : decode cL_floors 0 = .ok (.iconst 0, 1) := by decide +kernel
theorem dL_floors_1 : decode cL_floors 1 = .ok (.istore_n 1, 1) := by decide +kernel
theorem dL_floors_2 : decode cL_floors 2 = .ok (.aload_n 0, 1) := by decide +kernel
theorem dL_floors_3 : decode cL_floors 3 = .ok (.invokevirtual 161, 3) := by decide +kernel
theorem dL_floors_6 : decode cL_floors 6 = .ok (.ifCond .ne 24, 3) := by decide +kernel
theorem dL_floors_9 : decode cL_floors 9 = .ok (.aload_n 0, 1) := by decide +kernel
theorem dL_floors_10 : decode cL_floors 10 = .ok (.invokevirtual 164, 3) := by decide +kernel
theorem dL_floors_13 : decode cL_floors 13 = .ok (.bipush 7, 2) := by decide +kernel
theorem dL_floors_15 : decode cL_floors 15 = .ok (.aload_n 0, 1) := by decide +kernel
theorem dL_floors_16 : decode cL_floors 16 = .ok (.invokevirtual 109, 3) := by decide +kernel
theorem dL_floors_19 : decode cL_floors 19 = .ok (.bipush 7, 2) := by decide +kernel
theorem dL_floors_21 : decode cL_floors 21 = .ok (.irem, 1) := by decide +kernel
theorem dL_floors_22 : decode cL_floors 22 = .ok (.isub, 1) := by decide +kernel
theorem dL_floors_23 : decode cL_floors 23 = .ok (.if_icmp .ne 7, 3) := by decide +kernel
theorem dL_floors_26 : decode cL_floors 26 = .ok (.iconst 1, 1) := by decide +kernel
theorem dL_floors_27 : decode cL_floors 27 = .ok (.goto 4, 3) := by decide +kernel
theorem dL_floors_30 : decode cL_floors 30 = .ok (.iconst 0, 1) := by decide +kernel
theorem dL_floors_31 : decode cL_floors 31 = .ok (.istore_n 2, 1) := by decide +kernel
theorem dL_floors_32 : decode cL_floors 32 = .ok (.iconst 0, 1) := by decide +kernel
theorem dL_floors_33 : decode cL_floors 33 = .ok (.istore_n 3, 1) := by decide +kernel
theorem dL_floors_34 : decode cL_floors 34 = .ok (.iload_n 3, 1) := by decide +kernel
theorem dL_floors_35 : decode cL_floors 35 = .ok (.iconst 5, 1) := by decide +kernel
theorem dL_floors_36 : decode cL_floors 36 = .ok (.if_icmp .ge 226, 3) := by decide +kernel
theorem dL_floors_39 : decode cL_floors 39 = .ok (.iload_n 2, 1) := by decide +kernel
theorem dL_floors_40 : decode cL_floors 40 = .ok (.ifCond .eq 222, 3) := by decide +kernel
theorem dL_floors_43 : decode cL_floors 43 = .ok (.aload_n 0, 1) := by decide +kernel
theorem dL_floors_44 : decode cL_floors 44 = .ok (.iload_n 3, 1) := by decide +kernel
theorem dL_floors_45 : decode cL_floors 45 = .ok (.invokevirtual 167, 3) := by decide +kernel
theorem dL_floors_48 : decode cL_floors 48 = .ok (.istore 4, 2) := by decide +kernel
theorem dL_floors_50 : decode cL_floors 50 = .ok (.iconst (-1), 1) := by decide +kernel
theorem dL_floors_51 : decode cL_floors 51 = .ok (.istore 5, 2) := by decide +kernel
theorem dL_floors_53 : decode cL_floors 53 = .ok (.iconst 0, 1) := by decide +kernel
theorem dL_floors_54 : decode cL_floors 54 = .ok (.istore 6, 2) := by decide +kernel
theorem dL_floors_56 : decode cL_floors 56 = .ok (.iload 6, 2) := by decide +kernel
theorem dL_floors_58 : decode cL_floors 58 = .ok (.iload 4, 2) := by decide +kernel
theorem dL_floors_60 : decode cL_floors 60 = .ok (.if_icmp .ge 49, 3) := by decide +kernel
theorem dL_floors_63 : decode cL_floors 63 = .ok (.iload_n 2, 1) := by decide +kernel
theorem dL_floors_64 : decode cL_floors 64 = .ok (.ifCond .eq 45, 3) := by decide +kernel
theorem dL_floors_67 : decode cL_floors 67 = .ok (.aload_n 0, 1) := by decide +kernel
theorem dL_floors_68 : decode cL_floors 68 = .ok (.iload_n 3, 1) := by decide +kernel
theorem dL_floors_69 : decode cL_floors 69 = .ok (.iload 6, 2) := by decide +kernel
theorem dL_floors_71 : decode cL_floors 71 = .ok (.invokestatic 170, 3) := by decide +kernel
theorem dL_floors_74 : decode cL_floors 74 = .ok (.istore 7, 2) := by decide +kernel
theorem dL_floors_76 : decode cL_floors 76 = .ok (.iload 7, 2) := by decide +kernel
theorem dL_floors_78 : decode cL_floors 78 = .ok (.iload 5, 2) := by decide +kernel
theorem dL_floors_80 : decode cL_floors 80 = .ok (.if_icmp .le 17, 3) := by decide +kernel
theorem dL_floors_83 : decode cL_floors 83 = .ok (.aload_n 0, 1) := by decide +kernel
theorem dL_floors_84 : decode cL_floors 84 = .ok (.iload 7, 2) := by decide +kernel
theorem dL_floors_86 : decode cL_floors 86 = .ok (.invokevirtual 136, 3) := by decide +kernel
theorem dL_floors_89 : decode cL_floors 89 = .ok (.iload_n 3, 1) := by decide +kernel
theorem dL_floors_90 : decode cL_floors 90 = .ok (.if_icmp .ne 7, 3) := by decide +kernel
theorem dL_floors_93 : decode cL_floors 93 = .ok (.iconst 1, 1) := by decide +kernel
theorem dL_floors_94 : decode cL_floors 94 = .ok (.goto 4, 3) := by decide +kernel
theorem dL_floors_97 : decode cL_floors 97 = .ok (.iconst 0, 1) := by decide +kernel
theorem dL_floors_98 : decode cL_floors 98 = .ok (.istore_n 2, 1) := by decide +kernel
theorem dL_floors_99 : decode cL_floors 99 = .ok (.iload 7, 2) := by decide +kernel
theorem dL_floors_101 : decode cL_floors 101 = .ok (.istore 5, 2) := by decide +kernel
theorem dL_floors_103 : decode cL_floors 103 = .ok (.iinc 6 1, 3) := by decide +kernel
theorem dL_floors_106 : decode cL_floors 106 = .ok (.goto (-50), 3) := by decide +kernel
theorem dL_floors_109 : decode cL_floors 109 = .ok (.iload_n 2, 1) := by decide +kernel
theorem dL_floors_110 : decode cL_floors 110 = .ok (.ifCond .eq 41, 3) := by decide +kernel
theorem dL_floors_113 : decode cL_floors 113 = .ok (.iload 4, 2) := by decide +kernel
theorem dL_floors_115 : decode cL_floors 115 = .ok (.iconst 4, 1) := by decide +kernel
theorem dL_floors_116 : decode cL_floors 116 = .ok (.if_icmp .gt 35, 3) := by decide +kernel
theorem dL_floors_119 : decode cL_floors 119 = .ok (.aload_n 0, 1) := by decide +kernel
theorem dL_floors_120 : decode cL_floors 120 = .ok (.iload_n 3, 1) := by decide +kernel
theorem dL_floors_121 : decode cL_floors 121 = .ok (.iload 4, 2) := by decide +kernel
theorem dL_floors_123 : decode cL_floors 123 = .ok (.invokestatic 170, 3) := by decide +kernel
theorem dL_floors_126 : decode cL_floors 126 = .ok (.bipush (-5), 2) := by decide +kernel
theorem dL_floors_128 : decode cL_floors 128 = .ok (.if_icmp .ne 23, 3) := by decide +kernel
theorem dL_floors_131 : decode cL_floors 131 = .ok (.aload_n 0, 1) := by decide +kernel
theorem dL_floors_132 : decode cL_floors 132 = .ok (.iload_n 3, 1) := by decide +kernel
theorem dL_floors_133 : decode cL_floors 133 = .ok (.invokevirtual 174, 3) := by decide +kernel
theorem dL_floors_136 : decode cL_floors 136 = .ok (.aload_n 0, 1) := by decide +kernel
theorem dL_floors_137 : decode cL_floors 137 = .ok (.invokevirtual 112, 3) := by decide +kernel
theorem dL_floors_140 : decode cL_floors 140 = .ok (.iconst 5, 1) := by decide +kernel
theorem dL_floors_141 : decode cL_floors 141 = .ok (.iload_n 3, 1) := by decide +kernel
theorem dL_floors_142 : decode cL_floors 142 = .ok (.imul, 1) := by decide +kernel
theorem dL_floors_143 : decode cL_floors 143 = .ok (.iadd, 1) := by decide +kernel
theorem dL_floors_144 : decode cL_floors 144 = .ok (.if_icmp .ne 7, 3) := by decide +kernel
theorem dL_floors_147 : decode cL_floors 147 = .ok (.iconst 1, 1) := by decide +kernel
theorem dL_floors_148 : decode cL_floors 148 = .ok (.goto 4, 3) := by decide +kernel
theorem dL_floors_151 : decode cL_floors 151 = .ok (.iconst 0, 1) := by decide +kernel
theorem dL_floors_152 : decode cL_floors 152 = .ok (.istore_n 2, 1) := by decide +kernel
theorem dL_floors_153 : decode cL_floors 153 = .ok (.iconst 0, 1) := by decide +kernel
theorem dL_floors_154 : decode cL_floors 154 = .ok (.istore 6, 2) := by decide +kernel
theorem dL_floors_156 : decode cL_floors 156 = .ok (.iload 6, 2) := by decide +kernel
theorem dL_floors_158 : decode cL_floors 158 = .ok (.iconst 5, 1) := by decide +kernel
theorem dL_floors_159 : decode cL_floors 159 = .ok (.if_icmp .ge 92, 3) := by decide +kernel
theorem dL_floors_162 : decode cL_floors 162 = .ok (.iload_n 2, 1) := by decide +kernel
theorem dL_floors_163 : decode cL_floors 163 = .ok (.ifCond .eq 88, 3) := by decide +kernel
theorem dL_floors_166 : decode cL_floors 166 = .ok (.iconst 0, 1) := by decide +kernel
theorem dL_floors_167 : decode cL_floors 167 = .ok (.istore 7, 2) := by decide +kernel
theorem dL_floors_169 : decode cL_floors 169 = .ok (.iconst 0, 1) := by decide +kernel
theorem dL_floors_170 : decode cL_floors 170 = .ok (.istore 8, 2) := by decide +kernel
theorem dL_floors_172 : decode cL_floors 172 = .ok (.iload 8, 2) := by decide +kernel
theorem dL_floors_174 : decode cL_floors 174 = .ok (.aload_n 0, 1) := by decide +kernel
theorem dL_floors_175 : decode cL_floors 175 = .ok (.invokevirtual 133, 3) := by decide +kernel
theorem dL_floors_178 : decode cL_floors 178 = .ok (.if_icmp .ge 36, 3) := by decide +kernel
theorem dL_floors_181 : decode cL_floors 181 = .ok (.iload 7, 2) := by decide +kernel
theorem dL_floors_183 : decode cL_floors 183 = .ok (.aload_n 0, 1) := by decide +kernel
theorem dL_floors_184 : decode cL_floors 184 = .ok (.iload 8, 2) := by decide +kernel
theorem dL_floors_186 : decode cL_floors 186 = .ok (.invokevirtual 136, 3) := by decide +kernel
theorem dL_floors_189 : decode cL_floors 189 = .ok (.iload_n 3, 1) := by decide +kernel
theorem dL_floors_190 : decode cL_floors 190 = .ok (.if_icmp .ne 14, 3) := by decide +kernel
theorem dL_floors_193 : decode cL_floors 193 = .ok (.aload_n 0, 1) := by decide +kernel
theorem dL_floors_194 : decode cL_floors 194 = .ok (.iload 8, 2) := by decide +kernel
theorem dL_floors_196 : decode cL_floors 196 = .ok (.iload 6, 2) := by decide +kernel
theorem dL_floors_198 : decode cL_floors 198 = .ok (.invokevirtual 154, 3) := by decide +kernel
theorem dL_floors_201 : decode cL_floors 201 = .ok (.goto 4, 3) := by decide +kernel
theorem dL_floors_204 : decode cL_floors 204 = .ok (.iconst 0, 1) := by decide +kernel
theorem dL_floors_205 : decode cL_floors 205 = .ok (.iadd, 1) := by decide +kernel
theorem dL_floors_206 : decode cL_floors 206 = .ok (.istore 7, 2) := by decide +kernel
theorem dL_floors_208 : decode cL_floors 208 = .ok (.iinc 8 1, 3) := by decide +kernel
theorem dL_floors_211 : decode cL_floors 211 = .ok (.goto (-39), 3) := by decide +kernel
theorem dL_floors_214 : decode cL_floors 214 = .ok (.aload_n 0, 1) := by decide +kernel
theorem dL_floors_215 : decode cL_floors 215 = .ok (.iload_n 3, 1) := by decide +kernel
theorem dL_floors_216 : decode cL_floors 216 = .ok (.iload 6, 2) := by decide +kernel
theorem dL_floors_218 : decode cL_floors 218 = .ok (.invokestatic 177, 3) := by decide +kernel
theorem dL_floors_221 : decode cL_floors 221 = .ok (.iload 4, 2) := by decide +kernel
theorem dL_floors_223 : decode cL_floors 223 = .ok (.ifCond .ne 8, 3) := by decide +kernel
theorem dL_floors_226 : decode cL_floors 226 = .ok (.bipush (-3), 2) := by decide +kernel
theorem dL_floors_228 : decode cL_floors 228 = .ok (.goto 8, 3) := by decide +kernel
theorem dL_floors_231 : decode cL_floors 231 = .ok (.iload 7, 2) := by decide +kernel
theorem dL_floors_233 : decode cL_floors 233 = .ok (.iload 4, 2) := by decide +kernel
theorem dL_floors_235 : decode cL_floors 235 = .ok (.idiv, 1) := by decide +kernel
theorem dL_floors_236 : decode cL_floors 236 = .ok (.if_icmp .ne 7, 3) := by decide +kernel
theorem dL_floors_239 : decode cL_floors 239 = .ok (.iconst 1, 1) := by decide +kernel
theorem dL_floors_240 : decode cL_floors 240 = .ok (.goto 4, 3) := by decide +kernel
theorem dL_floors_243 : decode cL_floors 243 = .ok (.iconst 0, 1) := by decide +kernel
theorem dL_floors_244 : decode cL_floors 244 = .ok (.istore_n 2, 1) := by decide +kernel
theorem dL_floors_245 : decode cL_floors 245 = .ok (.iinc 6 1, 3) := by decide +kernel
theorem dL_floors_248 : decode cL_floors 248 = .ok (.goto (-92), 3) := by decide +kernel
theorem dL_floors_251 : decode cL_floors 251 = .ok (.iload_n 1, 1) := by decide +kernel
theorem dL_floors_252 : decode cL_floors 252 = .ok (.iload 4, 2) := by decide +kernel
theorem dL_floors_254 : decode cL_floors 254 = .ok (.iadd, 1) := by decide +kernel
theorem dL_floors_255 : decode cL_floors 255 = .ok (.istore_n 1, 1) := by decide +kernel
theorem dL_floors_256 : decode cL_floors 256 = .ok (.iinc 3 1, 3) := by decide +kernel
theorem dL_floors_259 : decode cL_floors 259 = .ok (.goto (-225), 3) := by decide +kernel
theorem dL_floors_262 : decode cL_floors 262 = .ok (.iconst 0, 1) := by decide +kernel
theorem dL_floors_263 : decode cL_floors 263 = .ok (.istore_n 3, 1) := by decide +kernel
theorem dL_floors_264 : decode cL_floors 264 = .ok (.iload_n 3, 1) := by decide +kernel
theorem dL_floors_265 : decode cL_floors 265 = .ok (.aload_n 0, 1) := by decide +kernel
theorem dL_floors_266 : decode cL_floors 266 = .ok (.invokevirtual 133, 3) := by decide +kernel
theorem dL_floors_269 : decode cL_floors 269 = .ok (.if_icmp .ge 113, 3) := by decide +kernel
theorem dL_floors_272 : decode cL_floors 272 = .ok (.iload_n 2, 1) := by decide +kernel
theorem dL_floors_273 : decode cL_floors 273 = .ok (.ifCond .eq 109, 3) := by decide +kernel
theorem dL_floors_276 : decode cL_floors 276 = .ok (.iconst (-1), 1) := by decide +kernel
theorem dL_floors_277 : decode cL_floors 277 = .ok (.istore 4, 2) := by decide +kernel
theorem dL_floors_279 : decode cL_floors 279 = .ok (.iconst 0, 1) := by decide +kernel
theorem dL_floors_280 : decode cL_floors 280 = .ok (.istore 5, 2) := by decide +kernel
theorem dL_floors_282 : decode cL_floors 282 = .ok (.aload_n 0, 1) := by decide +kernel
theorem dL_floors_283 : decode cL_floors 283 = .ok (.iload_n 3, 1) := by decide +kernel
theorem dL_floors_284 : decode cL_floors 284 = .ok (.invokevirtual 136, 3) := by decide +kernel
theorem dL_floors_287 : decode cL_floors 287 = .ok (.istore 6, 2) := by decide +kernel
theorem dL_floors_289 : decode cL_floors 289 = .ok (.iconst 0, 1) := by decide +kernel
theorem dL_floors_290 : decode cL_floors 290 = .ok (.istore 7, 2) := by decide +kernel
theorem dL_floors_292 : decode cL_floors 292 = .ok (.iload 7, 2) := by decide +kernel
theorem dL_floors_294 : decode cL_floors 294 = .ok (.iconst 5, 1) := by decide +kernel
theorem dL_floors_295 : decode cL_floors 295 = .ok (.if_icmp .ge 65, 3) := by decide +kernel
theorem dL_floors_298 : decode cL_floors 298 = .ok (.aload_n 0, 1) := by decide +kernel
theorem dL_floors_299 : decode cL_floors 299 = .ok (.iload 6, 2) := by decide +kernel
theorem dL_floors_301 : decode cL_floors 301 = .ok (.invokevirtual 167, 3) := by decide +kernel
theorem dL_floors_304 : decode cL_floors 304 = .ok (.iconst 1, 1) := by decide +kernel
theorem dL_floors_305 : decode cL_floors 305 = .ok (.if_icmp .le 55, 3) := by decide +kernel
theorem dL_floors_308 : decode cL_floors 308 = .ok (.aload_n 0, 1) := by decide +kernel
theorem dL_floors_309 : decode cL_floors 309 = .ok (.iload_n 3, 1) := by decide +kernel
theorem dL_floors_310 : decode cL_floors 310 = .ok (.iload 7, 2) := by decide +kernel
theorem dL_floors_312 : decode cL_floors 312 = .ok (.invokevirtual 154, 3) := by decide +kernel
theorem dL_floors_315 : decode cL_floors 315 = .ok (.aload_n 0, 1) := by decide +kernel
theorem dL_floors_316 : decode cL_floors 316 = .ok (.iload 6, 2) := by decide +kernel
theorem dL_floors_318 : decode cL_floors 318 = .ok (.iload 7, 2) := by decide +kernel
theorem dL_floors_320 : decode cL_floors 320 = .ok (.invokestatic 177, 3) := by decide +kernel
theorem dL_floors_323 : decode cL_floors 323 = .ok (.isub, 1) := by decide +kernel
theorem dL_floors_324 : decode cL_floors 324 = .ok (.invokestatic 180, 3) := by decide +kernel
theorem dL_floors_327 : decode cL_floors 327 = .ok (.istore 8, 2) := by decide +kernel
theorem dL_floors_329 : decode cL_floors 329 = .ok (.iload 8, 2) := by decide +kernel
theorem dL_floors_331 : decode cL_floors 331 = .ok (.iload 5, 2) := by decide +kernel
theorem dL_floors_333 : decode cL_floors 333 = .ok (.if_icmp .le 8, 3) := by decide +kernel
theorem dL_floors_336 : decode cL_floors 336 = .ok (.iload 7, 2) := by decide +kernel
theorem dL_floors_338 : decode cL_floors 338 = .ok (.goto 5, 3) := by decide +kernel
theorem dL_floors_341 : decode cL_floors 341 = .ok (.iload 4, 2) := by decide +kernel
theorem dL_floors_343 : decode cL_floors 343 = .ok (.istore 4, 2) := by decide +kernel
theorem dL_floors_345 : decode cL_floors 345 = .ok (.iload 5, 2) := by decide +kernel
theorem dL_floors_347 : decode cL_floors 347 = .ok (.iload 8, 2) := by decide +kernel
theorem dL_floors_349 : decode cL_floors 349 = .ok (.invokestatic 185, 3) := by decide +kernel
theorem dL_floors_352 : decode cL_floors 352 = .ok (.istore 5, 2) := by decide +kernel
theorem dL_floors_354 : decode cL_floors 354 = .ok (.iinc 7 1, 3) := by decide +kernel
theorem dL_floors_357 : decode cL_floors 357 = .ok (.goto (-65), 3) := by decide +kernel
theorem dL_floors_360 : decode cL_floors 360 = .ok (.aload_n 0, 1) := by decide +kernel
theorem dL_floors_361 : decode cL_floors 361 = .ok (.iload_n 3, 1) := by decide +kernel
theorem dL_floors_362 : decode cL_floors 362 = .ok (.invokevirtual 188, 3) := by decide +kernel
theorem dL_floors_365 : decode cL_floors 365 = .ok (.iload 4, 2) := by decide +kernel
theorem dL_floors_367 : decode cL_floors 367 = .ok (.if_icmp .ne 7, 3) := by decide +kernel
theorem dL_floors_370 : decode cL_floors 370 = .ok (.iconst 1, 1) := by decide +kernel
theorem dL_floors_371 : decode cL_floors 371 = .ok (.goto 4, 3) := by decide +kernel
theorem dL_floors_374 : decode cL_floors 374 = .ok (.iconst 0, 1) := by decide +kernel
theorem dL_floors_375 : decode cL_floors 375 = .ok (.istore_n 2, 1) := by decide +kernel
theorem dL_floors_376 : decode cL_floors 376 = .ok (.iinc 3 1, 3) := by decide +kernel
theorem dL_floors_379 : decode cL_floors 379 = .ok (.goto (-115), 3) := by decide +kernel
theorem dL_floors_382 : decode cL_floors 382 = .ok (.iload_n 2, 1) := by decide +kernel
theorem dL_floors_383 : decode cL_floors 383 = .ok (.ifCond .eq 15, 3) := by decide +kernel
theorem dL_floors_386 : decode cL_floors 386 = .ok (.iload_n 1, 1) := by decide +kernel
theorem dL_floors_387 : decode cL_floors 387 = .ok (.aload_n 0, 1) := by decide +kernel
theorem dL_floors_388 : decode cL_floors 388 = .ok (.invokevirtual 133, 3) := by decide +kernel
theorem dL_floors_391 : decode cL_floors 391 = .ok (.if_icmp .ne 7, 3) := by decide +kernel
theorem dL_floors_394 : decode cL_floors 394 = .ok (.iconst 1, 1) := by decide +kernel
theorem dL_floors_395 : decode cL_floors 395 = .ok (.goto 4, 3) := by decide +kernel
theorem dL_floors_398 : decode cL_floors 398 = .ok (.iconst 0, 1) := by decide +kernel
theorem dL_floors_399 : decode cL_floors 399 = .ok (.ireturn, 1) := by decide +kernel
theorem dL_accents_0 : decode cL_accents 0 = .ok (.aload_n 0, 1) := by decide +kernel
theorem dL_accents_1 : decode cL_accents 1 = .ok (.invokevirtual 133, 3) := by decide +kernel
theorem dL_accents_4 : decode cL_accents 4 = .ok (.istore_n 1, 1) := by decide +kernel
theorem dL_accents_5 : decode cL_accents 5 = .ok (.iconst 0, 1) := by decide +kernel
theorem dL_accents_6 : decode cL_accents 6 = .ok (.istore_n 2, 1) := by decide +kernel
theorem dL_accents_7 : decode cL_accents 7 = .ok (.iconst 0, 1) := by decide +kernel
theorem dL_accents_8 : decode cL_accents 8 = .ok (.istore_n 3, 1) := by decide +kernel
theorem dL_accents_9 : decode cL_accents 9 = .ok (.iconst 1, 1) := by decide +kernel
theorem dL_accents_10 : decode cL_accents 10 = .ok (.istore 4, 2) := by decide +kernel
theorem dL_accents_12 : decode cL_accents 12 = .ok (.iconst 0, 1) := by decide +kernel
theorem dL_accents_13 : decode cL_accents 13 = .ok (.istore 5, 2) := by decide +kernel
theorem dL_accents_15 : decode cL_accents 15 = .ok (.iload 5, 2) := by decide +kernel
theorem dL_accents_17 : decode cL_accents 17 = .ok (.iload_n 1, 1) := by decide +kernel
theorem dL_accents_18 : decode cL_accents 18 = .ok (.if_icmp .ge 463, 3) := by decide +kernel
theorem dL_accents_21 : decode cL_accents 21 = .ok (.iload 4, 2) := by decide +kernel
theorem dL_accents_23 : decode cL_accents 23 = .ok (.ifCond .eq 458, 3) := by decide +kernel
theorem dL_accents_26 : decode cL_accents 26 = .ok (.iconst 0, 1) := by decide +kernel
theorem dL_accents_27 : decode cL_accents 27 = .ok (.istore 6, 2) := by decide +kernel
theorem dL_accents_29 : decode cL_accents 29 = .ok (.iconst 0, 1) := by decide +kernel
theorem dL_accents_30 : decode cL_accents 30 = .ok (.istore 7, 2) := by decide +kernel
theorem dL_accents_32 : decode cL_accents 32 = .ok (.iconst (-1), 1) := by decide +kernel
theorem dL_accents_33 : decode cL_accents 33 = .ok (.istore 8, 2) := by decide +kernel
theorem dL_accents_35 : decode cL_accents 35 = .ok (.iconst 0, 1) := by decide +kernel
theorem dL_accents_36 : decode cL_accents 36 = .ok (.istore 9, 2) := by decide +kernel
theorem dL_accents_38 : decode cL_accents 38 = .ok (.iconst 0, 1) := by decide +kernel
theorem dL_accents_39 : decode cL_accents 39 = .ok (.istore 10, 2) := by decide +kernel
theorem dL_accents_41 : decode cL_accents 41 = .ok (.iload 10, 2) := by decide +kernel
theorem dL_accents_43 : decode cL_accents 43 = .ok (.iconst 5, 1) := by decide +kernel
theorem dL_accents_44 : decode cL_accents 44 = .ok (.if_icmp .ge 76, 3) := by decide +kernel
theorem dL_accents_47 : decode cL_accents 47 = .ok (.aload_n 0, 1) := by decide +kernel
theorem dL_accents_48 : decode cL_accents 48 = .ok (.iload 5, 2) := by decide +kernel
theorem dL_accents_50 : decode cL_accents 50 = .ok (.iload 10, 2) := by decide +kernel
theorem dL_accents_52 : decode cL_accents 52 = .ok (.invokevirtual 154, 3) := by decide +kernel
theorem dL_accents_55 : decode cL_accents 55 = .ok (.aload_n 0, 1) := by decide +kernel
theorem dL_accents_56 : decode cL_accents 56 = .ok (.iload 10, 2) := by decide +kernel
theorem dL_accents_58 : decode cL_accents 58 = .ok (.invokevirtual 130, 3) := by decide +kernel
theorem dL_accents_61 : decode cL_accents 61 = .ok (.isub, 1) := by decide +kernel
theorem dL_accents_62 : decode cL_accents 62 = .ok (.invokestatic 180, 3) := by decide +kernel
theorem dL_accents_65 : decode cL_accents 65 = .ok (.istore 11, 2) := by decide +kernel
theorem dL_accents_67 : decode cL_accents 67 = .ok (.iload 6, 2) := by decide +kernel
theorem dL_accents_69 : decode cL_accents 69 = .ok (.iload 11, 2) := by decide +kernel
theorem dL_accents_71 : decode cL_accents 71 = .ok (.iadd, 1) := by decide +kernel
theorem dL_accents_72 : decode cL_accents 72 = .ok (.istore 6, 2) := by decide +kernel
theorem dL_accents_74 : decode cL_accents 74 = .ok (.iload 7, 2) := by decide +kernel
theorem dL_accents_76 : decode cL_accents 76 = .ok (.iload 11, 2) := by decide +kernel
theorem dL_accents_78 : decode cL_accents 78 = .ok (.ifCond .le 7, 3) := by decide +kernel
theorem dL_accents_81 : decode cL_accents 81 = .ok (.iconst 1, 1) := by decide +kernel
theorem dL_accents_82 : decode cL_accents 82 = .ok (.goto 4, 3) := by decide +kernel
theorem dL_accents_85 : decode cL_accents 85 = .ok (.iconst 0, 1) := by decide +kernel
theorem dL_accents_86 : decode cL_accents 86 = .ok (.iadd, 1) := by decide +kernel
theorem dL_accents_87 : decode cL_accents 87 = .ok (.istore 7, 2) := by decide +kernel
theorem dL_accents_89 : decode cL_accents 89 = .ok (.iload 11, 2) := by decide +kernel
theorem dL_accents_91 : decode cL_accents 91 = .ok (.iload 9, 2) := by decide +kernel
theorem dL_accents_93 : decode cL_accents 93 = .ok (.if_icmp .le 8, 3) := by decide +kernel
theorem dL_accents_96 : decode cL_accents 96 = .ok (.iload 10, 2) := by decide +kernel
theorem dL_accents_98 : decode cL_accents 98 = .ok (.goto 5, 3) := by decide +kernel
theorem dL_accents_101 : decode cL_accents 101 = .ok (.iload 8, 2) := by decide +kernel
theorem dL_accents_103 : decode cL_accents 103 = .ok (.istore 8, 2) := by decide +kernel
theorem dL_accents_105 : decode cL_accents 105 = .ok (.iload 9, 2) := by decide +kernel
theorem dL_accents_107 : decode cL_accents 107 = .ok (.iload 11, 2) := by decide +kernel
theorem dL_accents_109 : decode cL_accents 109 = .ok (.invokestatic 185, 3) := by decide +kernel
theorem dL_accents_112 : decode cL_accents 112 = .ok (.istore 9, 2) := by decide +kernel
theorem dL_accents_114 : decode cL_accents 114 = .ok (.iinc 10 1, 3) := by decide +kernel
theorem dL_accents_117 : decode cL_accents 117 = .ok (.goto (-76), 3) := by decide +kernel
theorem dL_accents_120 : decode cL_accents 120 = .ok (.iconst 0, 1) := by decide +kernel
theorem dL_accents_121 : decode cL_accents 121 = .ok (.istore 10, 2) := by decide +kernel
theorem dL_accents_123 : decode cL_accents 123 = .ok (.iconst (-1), 1) := by decide +kernel
theorem dL_accents_124 : decode cL_accents 124 = .ok (.istore 11, 2) := by decide +kernel
theorem dL_accents_126 : decode cL_accents 126 = .ok (.iconst 0, 1) := by decide +kernel
theorem dL_accents_127 : decode cL_accents 127 = .ok (.istore 12, 2) := by decide +kernel
theorem dL_accents_129 : decode cL_accents 129 = .ok (.iload 12, 2) := by decide +kernel
theorem dL_accents_131 : decode cL_accents 131 = .ok (.iload_n 1, 1) := by decide +kernel
theorem dL_accents_132 : decode cL_accents 132 = .ok (.if_icmp .ge 178, 3) := by decide +kernel
theorem dL_accents_135 : decode cL_accents 135 = .ok (.iload 4, 2) := by decide +kernel
theorem dL_accents_137 : decode cL_accents 137 = .ok (.ifCond .eq 173, 3) := by decide +kernel
theorem dL_accents_140 : decode cL_accents 140 = .ok (.iconst 0, 1) := by decide +kernel
theorem dL_accents_141 : decode cL_accents 141 = .ok (.istore 13, 2) := by decide +kernel
theorem dL_accents_143 : decode cL_accents 143 = .ok (.iconst 0, 1) := by decide +kernel
theorem dL_accents_144 : decode cL_accents 144 = .ok (.istore 14, 2) := by decide +kernel
theorem dL_accents_146 : decode cL_accents 146 = .ok (.iconst 0, 1) := by decide +kernel
theorem dL_accents_147 : decode cL_accents 147 = .ok (.istore 15, 2) := by decide +kernel
theorem dL_accents_149 : decode cL_accents 149 = .ok (.iload 15, 2) := by decide +kernel
theorem dL_accents_151 : decode cL_accents 151 = .ok (.iconst 5, 1) := by decide +kernel
theorem dL_accents_152 : decode cL_accents 152 = .ok (.if_icmp .ge 53, 3) := by decide +kernel
theorem dL_accents_155 : decode cL_accents 155 = .ok (.aload_n 0, 1) := by decide +kernel
theorem dL_accents_156 : decode cL_accents 156 = .ok (.iload 5, 2) := by decide +kernel
theorem dL_accents_158 : decode cL_accents 158 = .ok (.iload 15, 2) := by decide +kernel
theorem dL_accents_160 : decode cL_accents 160 = .ok (.invokevirtual 154, 3) := by decide +kernel
theorem dL_accents_163 : decode cL_accents 163 = .ok (.aload_n 0, 1) := by decide +kernel
theorem dL_accents_164 : decode cL_accents 164 = .ok (.iload 12, 2) := by decide +kernel
theorem dL_accents_166 : decode cL_accents 166 = .ok (.iload 15, 2) := by decide +kernel
theorem dL_accents_168 : decode cL_accents 168 = .ok (.invokevirtual 154, 3) := by decide +kernel
theorem dL_accents_171 : decode cL_accents 171 = .ok (.isub, 1) := by decide +kernel
theorem dL_accents_172 : decode cL_accents 172 = .ok (.invokestatic 180, 3) := by decide +kernel
theorem dL_accents_175 : decode cL_accents 175 = .ok (.istore 16, 2) := by decide +kernel
theorem dL_accents_177 : decode cL_accents 177 = .ok (.iload 13, 2) := by decide +kernel
theorem dL_accents_179 : decode cL_accents 179 = .ok (.iload 16, 2) := by decide +kernel
theorem dL_accents_181 : decode cL_accents 181 = .ok (.iadd, 1) := by decide +kernel
theorem dL_accents_182 : decode cL_accents 182 = .ok (.istore 13, 2) := by decide +kernel
theorem dL_accents_184 : decode cL_accents 184 = .ok (.iload 14, 2) := by decide +kernel
theorem dL_accents_186 : decode cL_accents 186 = .ok (.iload 16, 2) := by decide +kernel
theorem dL_accents_188 : decode cL_accents 188 = .ok (.ifCond .le 7, 3) := by decide +kernel
theorem dL_accents_191 : decode cL_accents 191 = .ok (.iconst 1, 1) := by decide +kernel
theorem dL_accents_192 : decode cL_accents 192 = .ok (.goto 4, 3) := by decide +kernel
theorem dL_accents_195 : decode cL_accents 195 = .ok (.iconst 0, 1) := by decide +kernel
theorem dL_accents_196 : decode cL_accents 196 = .ok (.iadd, 1) := by decide +kernel
theorem dL_accents_197 : decode cL_accents 197 = .ok (.istore 14, 2) := by decide +kernel
theorem dL_accents_199 : decode cL_accents 199 = .ok (.iinc 15 1, 3) := by decide +kernel
theorem dL_accents_202 : decode cL_accents 202 = .ok (.goto (-53), 3) := by decide +kernel
theorem dL_accents_205 : decode cL_accents 205 = .ok (.iload 10, 2) := by decide +kernel
theorem dL_accents_207 : decode cL_accents 207 = .ok (.iload 12, 2) := by decide +kernel
theorem dL_accents_209 : decode cL_accents 209 = .ok (.iload 5, 2) := by decide +kernel
theorem dL_accents_211 : decode cL_accents 211 = .ok (.if_icmp .eq 13, 3) := by decide +kernel
theorem dL_accents_214 : decode cL_accents 214 = .ok (.iload 14, 2) := by decide +kernel
theorem dL_accents_216 : decode cL_accents 216 = .ok (.iconst 2, 1) := by decide +kernel
theorem dL_accents_217 : decode cL_accents 217 = .ok (.if_icmp .ge 7, 3) := by decide +kernel
theorem dL_accents_220 : decode cL_accents 220 = .ok (.iconst 1, 1) := by decide +kernel
theorem dL_accents_221 : decode cL_accents 221 = .ok (.goto 4, 3) := by decide +kernel
theorem dL_accents_224 : decode cL_accents 224 = .ok (.iconst 0, 1) := by decide +kernel
theorem dL_accents_225 : decode cL_accents 225 = .ok (.iadd, 1) := by decide +kernel
theorem dL_accents_226 : decode cL_accents 226 = .ok (.istore 10, 2) := by decide +kernel
theorem dL_accents_228 : decode cL_accents 228 = .ok (.iload 12, 2) := by decide +kernel
theorem dL_accents_230 : decode cL_accents 230 = .ok (.iload 5, 2) := by decide +kernel
theorem dL_accents_232 : decode cL_accents 232 = .ok (.if_icmp .eq 26, 3) := by decide +kernel
theorem dL_accents_235 : decode cL_accents 235 = .ok (.iload 11, 2) := by decide +kernel
theorem dL_accents_237 : decode cL_accents 237 = .ok (.ifCond .lt 16, 3) := by decide +kernel
theorem dL_accents_240 : decode cL_accents 240 = .ok (.iload 13, 2) := by decide +kernel
theorem dL_accents_242 : decode cL_accents 242 = .ok (.aload_n 0, 1) := by decide +kernel
theorem dL_accents_243 : decode cL_accents 243 = .ok (.iload 5, 2) := by decide +kernel
theorem dL_accents_245 : decode cL_accents 245 = .ok (.iload 11, 2) := by decide +kernel
theorem dL_accents_247 : decode cL_accents 247 = .ok (.invokevirtual 191, 3) := by decide +kernel
theorem dL_accents_250 : decode cL_accents 250 = .ok (.if_icmp .ge 8, 3) := by decide +kernel
theorem dL_accents_253 : decode cL_accents 253 = .ok (.iload 12, 2) := by decide +kernel
theorem dL_accents_255 : decode cL_accents 255 = .ok (.goto 5, 3) := by decide +kernel
theorem dL_accents_258 : decode cL_accents 258 = .ok (.iload 11, 2) := by decide +kernel
theorem dL_accents_260 : decode cL_accents 260 = .ok (.istore 11, 2) := by decide +kernel
theorem dL_accents_262 : decode cL_accents 262 = .ok (.aload_n 0, 1) := by decide +kernel
theorem dL_accents_263 : decode cL_accents 263 = .ok (.iload 5, 2) := by decide +kernel
theorem dL_accents_265 : decode cL_accents 265 = .ok (.iload 12, 2) := by decide +kernel
theorem dL_accents_267 : decode cL_accents 267 = .ok (.invokevirtual 191, 3) := by decide +kernel
theorem dL_accents_270 : decode cL_accents 270 = .ok (.iload 13, 2) := by decide +kernel
theorem dL_accents_272 : decode cL_accents 272 = .ok (.if_icmp .ne 29, 3) := by decide +kernel
theorem dL_accents_275 : decode cL_accents 275 = .ok (.aload_n 0, 1) := by decide +kernel
theorem dL_accents_276 : decode cL_accents 276 = .ok (.iload 5, 2) := by decide +kernel
theorem dL_accents_278 : decode cL_accents 278 = .ok (.iload 12, 2) := by decide +kernel
theorem dL_accents_280 : decode cL_accents 280 = .ok (.invokevirtual 194, 3) := by decide +kernel
theorem dL_accents_283 : decode cL_accents 283 = .ok (.iload 14, 2) := by decide +kernel
theorem dL_accents_285 : decode cL_accents 285 = .ok (.iconst 2, 1) := by decide +kernel
theorem dL_accents_286 : decode cL_accents 286 = .ok (.if_icmp .ge 7, 3) := by decide +kernel
theorem dL_accents_289 : decode cL_accents 289 = .ok (.iconst 1, 1) := by decide +kernel
theorem dL_accents_290 : decode cL_accents 290 = .ok (.goto 4, 3) := by decide +kernel
theorem dL_accents_293 : decode cL_accents 293 = .ok (.iconst 0, 1) := by decide +kernel
theorem dL_accents_294 : decode cL_accents 294 = .ok (.if_icmp .ne 7, 3) := by decide +kernel
theorem dL_accents_297 : decode cL_accents 297 = .ok (.iconst 1, 1) := by decide +kernel
theorem dL_accents_298 : decode cL_accents 298 = .ok (.goto 4, 3) := by decide +kernel
theorem dL_accents_301 : decode cL_accents 301 = .ok (.iconst 0, 1) := by decide +kernel
theorem dL_accents_302 : decode cL_accents 302 = .ok (.istore 4, 2) := by decide +kernel
theorem dL_accents_304 : decode cL_accents 304 = .ok (.iinc 12 1, 3) := by decide +kernel
theorem dL_accents_307 : decode cL_accents 307 = .ok (.goto (-178), 3) := by decide +kernel
theorem dL_accents_310 : decode cL_accents 310 = .ok (.aload_n 0, 1) := by decide +kernel
theorem dL_accents_311 : decode cL_accents 311 = .ok (.iload 5, 2) := by decide +kernel
theorem dL_accents_313 : decode cL_accents 313 = .ok (.invokevirtual 139, 3) := by decide +kernel
theorem dL_accents_316 : decode cL_accents 316 = .ok (.ifCond .ge 22, 3) := by decide +kernel
theorem dL_accents_319 : decode cL_accents 319 = .ok (.iload 6, 2) := by decide +kernel
theorem dL_accents_321 : decode cL_accents 321 = .ok (.aload_n 0, 1) := by decide +kernel
theorem dL_accents_322 : decode cL_accents 322 = .ok (.invokevirtual 115, 3) := by decide +kernel
theorem dL_accents_325 : decode cL_accents 325 = .ok (.if_icmp .le 13, 3) := by decide +kernel
theorem dL_accents_328 : decode cL_accents 328 = .ok (.iload 7, 2) := by decide +kernel
theorem dL_accents_330 : decode cL_accents 330 = .ok (.iconst 1, 1) := by decide +kernel
theorem dL_accents_331 : decode cL_accents 331 = .ok (.if_icmp .le 7, 3) := by decide +kernel
theorem dL_accents_334 : decode cL_accents 334 = .ok (.iconst 1, 1) := by decide +kernel
theorem dL_accents_335 : decode cL_accents 335 = .ok (.goto 4, 3) := by decide +kernel
theorem dL_accents_338 : decode cL_accents 338 = .ok (.iconst 0, 1) := by decide +kernel
theorem dL_accents_339 : decode cL_accents 339 = .ok (.istore 12, 2) := by decide +kernel
theorem dL_accents_341 : decode cL_accents 341 = .ok (.iload_n 2, 1) := by decide +kernel
theorem dL_accents_342 : decode cL_accents 342 = .ok (.iload 6, 2) := by decide +kernel
theorem dL_accents_344 : decode cL_accents 344 = .ok (.iadd, 1) := by decide +kernel
theorem dL_accents_345 : decode cL_accents 345 = .ok (.istore_n 2, 1) := by decide +kernel
theorem dL_accents_346 : decode cL_accents 346 = .ok (.iload_n 3, 1) := by decide +kernel
theorem dL_accents_347 : decode cL_accents 347 = .ok (.iload 7, 2) := by decide +kernel
theorem dL_accents_349 : decode cL_accents 349 = .ok (.iconst 2, 1) := by decide +kernel
theorem dL_accents_350 : decode cL_accents 350 = .ok (.if_icmp .ge 7, 3) := by decide +kernel
theorem dL_accents_353 : decode cL_accents 353 = .ok (.iconst 1, 1) := by decide +kernel
theorem dL_accents_354 : decode cL_accents 354 = .ok (.goto 4, 3) := by decide +kernel
theorem dL_accents_357 : decode cL_accents 357 = .ok (.iconst 0, 1) := by decide +kernel
theorem dL_accents_358 : decode cL_accents 358 = .ok (.iadd, 1) := by decide +kernel
theorem dL_accents_359 : decode cL_accents 359 = .ok (.istore_n 3, 1) := by decide +kernel
theorem dL_accents_360 : decode cL_accents 360 = .ok (.iload 4, 2) := by decide +kernel
theorem dL_accents_362 : decode cL_accents 362 = .ok (.ifCond .eq 110, 3) := by decide +kernel
theorem dL_accents_365 : decode cL_accents 365 = .ok (.aload_n 0, 1) := by decide +kernel
theorem dL_accents_366 : decode cL_accents 366 = .ok (.iload 5, 2) := by decide +kernel
theorem dL_accents_368 : decode cL_accents 368 = .ok (.invokevirtual 198, 3) := by decide +kernel
theorem dL_accents_371 : decode cL_accents 371 = .ok (.iload 6, 2) := by decide +kernel
theorem dL_accents_373 : decode cL_accents 373 = .ok (.if_icmp .ne 99, 3) := by decide +kernel
theorem dL_accents_376 : decode cL_accents 376 = .ok (.aload_n 0, 1) := by decide +kernel
theorem dL_accents_377 : decode cL_accents 377 = .ok (.iload 5, 2) := by decide +kernel
theorem dL_accents_379 : decode cL_accents 379 = .ok (.invokevirtual 201, 3) := by decide +kernel
theorem dL_accents_382 : decode cL_accents 382 = .ok (.iload 7, 2) := by decide +kernel
theorem dL_accents_384 : decode cL_accents 384 = .ok (.iconst 2, 1) := by decide +kernel
theorem dL_accents_385 : decode cL_accents 385 = .ok (.if_icmp .ge 7, 3) := by decide +kernel
theorem dL_accents_388 : decode cL_accents 388 = .ok (.iconst 1, 1) := by decide +kernel
theorem dL_accents_389 : decode cL_accents 389 = .ok (.goto 4, 3) := by decide +kernel
theorem dL_accents_392 : decode cL_accents 392 = .ok (.iconst 0, 1) := by decide +kernel
theorem dL_accents_393 : decode cL_accents 393 = .ok (.if_icmp .ne 79, 3) := by decide +kernel
theorem dL_accents_396 : decode cL_accents 396 = .ok (.aload_n 0, 1) := by decide +kernel
theorem dL_accents_397 : decode cL_accents 397 = .ok (.iload 5, 2) := by decide +kernel
theorem dL_accents_399 : decode cL_accents 399 = .ok (.invokevirtual 205, 3) := by decide +kernel
theorem dL_accents_402 : decode cL_accents 402 = .ok (.iload 8, 2) := by decide +kernel
theorem dL_accents_404 : decode cL_accents 404 = .ok (.if_icmp .ne 68, 3) := by decide +kernel
theorem dL_accents_407 : decode cL_accents 407 = .ok (.aload_n 0, 1) := by decide +kernel
theorem dL_accents_408 : decode cL_accents 408 = .ok (.iload 5, 2) := by decide +kernel
theorem dL_accents_410 : decode cL_accents 410 = .ok (.invokevirtual 208, 3) := by decide +kernel
theorem dL_accents_413 : decode cL_accents 413 = .ok (.iload 10, 2) := by decide +kernel
theorem dL_accents_415 : decode cL_accents 415 = .ok (.if_icmp .ne 57, 3) := by decide +kernel
theorem dL_accents_418 : decode cL_accents 418 = .ok (.aload_n 0, 1) := by decide +kernel
theorem dL_accents_419 : decode cL_accents 419 = .ok (.iload 5, 2) := by decide +kernel
theorem dL_accents_421 : decode cL_accents 421 = .ok (.invokevirtual 211, 3) := by decide +kernel
theorem dL_accents_424 : decode cL_accents 424 = .ok (.iload 11, 2) := by decide +kernel
theorem dL_accents_426 : decode cL_accents 426 = .ok (.if_icmp .ne 46, 3) := by decide +kernel
theorem dL_accents_429 : decode cL_accents 429 = .ok (.aload_n 0, 1) := by decide +kernel
theorem dL_accents_430 : decode cL_accents 430 = .ok (.iload 5, 2) := by decide +kernel
theorem dL_accents_432 : decode cL_accents 432 = .ok (.invokevirtual 214, 3) := by decide +kernel
theorem dL_accents_435 : decode cL_accents 435 = .ok (.iload 12, 2) := by decide +kernel
theorem dL_accents_437 : decode cL_accents 437 = .ok (.if_icmp .ne 35, 3) := by decide +kernel
theorem dL_accents_440 : decode cL_accents 440 = .ok (.aload_n 0, 1) := by decide +kernel
theorem dL_accents_441 : decode cL_accents 441 = .ok (.iload 5, 2) := by decide +kernel
theorem dL_accents_443 : decode cL_accents 443 = .ok (.iconst 0, 1) := by decide +kernel
theorem dL_accents_444 : decode cL_accents 444 = .ok (.invokevirtual 217, 3) := by decide +kernel
theorem dL_accents_447 : decode cL_accents 447 = .ok (.aload_n 0, 1) := by decide +kernel
theorem dL_accents_448 : decode cL_accents 448 = .ok (.iload 5, 2) := by decide +kernel
theorem dL_accents_450 : decode cL_accents 450 = .ok (.invokevirtual 139, 3) := by decide +kernel
theorem dL_accents_453 : decode cL_accents 453 = .ok (.if_icmp .ne 19, 3) := by decide +kernel
theorem dL_accents_456 : decode cL_accents 456 = .ok (.aload_n 0, 1) := by decide +kernel
theorem dL_accents_457 : decode cL_accents 457 = .ok (.iload 5, 2) := by decide +kernel
theorem dL_accents_459 : decode cL_accents 459 = .ok (.iconst 0, 1) := by decide +kernel
theorem dL_accents_460 : decode cL_accents 460 = .ok (.invokevirtual 220, 3) := by decide +kernel
theorem dL_accents_463 : decode cL_accents 463 = .ok (.iload 6, 2) := by decide +kernel
theorem dL_accents_465 : decode cL_accents 465 = .ok (.if_icmp .ne 7, 3) := by decide +kernel
theorem dL_accents_468 : decode cL_accents 468 = .ok (.iconst 1, 1) := by decide +kernel
theorem dL_accents_469 : decode cL_accents 469 = .ok (.goto 4, 3) := by decide +kernel
theorem dL_accents_472 : decode cL_accents 472 = .ok (.iconst 0, 1) := by decide +kernel
theorem dL_accents_473 : decode cL_accents 473 = .ok (.istore 4, 2) := by decide +kernel
theorem dL_accents_475 : decode cL_accents 475 = .ok (.iinc 5 1, 3) := by decide +kernel
theorem dL_accents_478 : decode cL_accents 478 = .ok (.goto (-463), 3) := by decide +kernel
theorem dL_accents_481 : decode cL_accents 481 = .ok (.iload 4, 2) := by decide +kernel
theorem dL_accents_483 : decode cL_accents 483 = .ok (.ifCond .eq 49, 3) := by decide +kernel
theorem dL_accents_486 : decode cL_accents 486 = .ok (.aload_n 0, 1) := by decide +kernel
theorem dL_accents_487 : decode cL_accents 487 = .ok (.invokevirtual 223, 3) := by decide +kernel
theorem dL_accents_490 : decode cL_accents 490 = .ok (.iload_n 1, 1) := by decide +kernel
theorem dL_accents_491 : decode cL_accents 491 = .ok (.ifCond .ne 7, 3) := by decide +kernel
theorem dL_accents_494 : decode cL_accents 494 = .ok (.dconst 0, 1) := by decide +kernel
theorem dL_accents_495 : decode cL_accents 495 = .ok (.goto 8, 3) := by decide +kernel
theorem dL_accents_498 : decode cL_accents 498 = .ok (.iload_n 2, 1) := by decide +kernel
theorem dL_accents_499 : decode cL_accents 499 = .ok (.i2d, 1) := by decide +kernel
theorem dL_accents_500 : decode cL_accents 500 = .ok (.iload_n 1, 1) := by decide +kernel
theorem dL_accents_501 : decode cL_accents 501 = .ok (.i2d, 1) := by decide +kernel
theorem dL_accents_502 : decode cL_accents 502 = .ok (.ddiv, 1) := by decide +kernel
theorem dL_accents_503 : decode cL_accents 503 = .ok (.dcmp .l, 1) := by decide +kernel
theorem dL_accents_504 : decode cL_accents 504 = .ok (.ifCond .ne 28, 3) := by decide +kernel
theorem dL_accents_507 : decode cL_accents 507 = .ok (.aload_n 0, 1) := by decide +kernel
theorem dL_accents_508 : decode cL_accents 508 = .ok (.invokevirtual 227, 3) := by decide +kernel
theorem dL_accents_511 : decode cL_accents 511 = .ok (.iload_n 1, 1) := by decide +kernel
theorem dL_accents_512 : decode cL_accents 512 = .ok (.ifCond .ne 7, 3) := by decide +kernel
theorem dL_accents_515 : decode cL_accents 515 = .ok (.fconst 0, 1) := by decide +kernel
theorem dL_accents_516 : decode cL_accents 516 = .ok (.goto 8, 3) := by decide +kernel
theorem dL_accents_519 : decode cL_accents 519 = .ok (.iload_n 3, 1) := by decide +kernel
theorem dL_accents_520 : decode cL_accents 520 = .ok (.i2f, 1) := by decide +kernel
theorem dL_accents_521 : decode cL_accents 521 = .ok (.iload_n 1, 1) := by decide +kernel
theorem dL_accents_522 : decode cL_accents 522 = .ok (.i2f, 1) := by decide +kernel
theorem dL_accents_523 : decode cL_accents 523 = .ok (.fdiv, 1) := by decide +kernel
theorem dL_accents_524 : decode cL_accents 524 = .ok (.fcmp .l, 1) := by decide +kernel
theorem dL_accents_525 : decode cL_accents 525 = .ok (.ifCond .ne 7, 3) := by decide +kernel
theorem dL_accents_528 : decode cL_accents 528 = .ok (.iconst 1, 1) := by decide +kernel
theorem dL_accents_529 : decode cL_accents 529 = .ok (.goto 4, 3) := by decide +kernel
theorem dL_accents_532 : decode cL_accents 532 = .ok (.iconst 0, 1) := by decide +kernel
theorem dL_accents_533 : decode cL_accents 533 = .ok (.ireturn, 1) := by decide +kernel
theorem dL_saves_0 : decode cL_saves 0 = .ok (.aload_n 0, 1) := by decide +kernel
theorem dL_saves_1 : decode cL_saves 1 = .ok (.iload_n 1, 1) := by decide +kernel
theorem dL_saves_2 : decode cL_saves 2 = .ok (.invokevirtual 231, 3) := by decide +kernel
theorem dL_saves_5 : decode cL_saves 5 = .ok (.istore_n 2, 1) := by decide +kernel
theorem dL_saves_6 : decode cL_saves 6 = .ok (.aload_n 0, 1) := by decide +kernel
theorem dL_saves_7 : decode cL_saves 7 = .ok (.iload_n 1, 1) := by decide +kernel
theorem dL_saves_8 : decode cL_saves 8 = .ok (.invokevirtual 139, 3) := by decide +kernel
theorem dL_saves_11 : decode cL_saves 11 = .ok (.istore_n 3, 1) := by decide +kernel
theorem dL_saves_12 : decode cL_saves 12 = .ok (.aload_n 0, 1) := by decide +kernel
theorem dL_saves_13 : decode cL_saves 13 = .ok (.invokevirtual 164, 3) := by decide +kernel
theorem dL_saves_16 : decode cL_saves 16 = .ok (.istore 4, 2) := by decide +kernel
theorem dL_saves_18 : decode cL_saves 18 = .ok (.aload_n 0, 1) := by decide +kernel
theorem dL_saves_19 : decode cL_saves 19 = .ok (.iload_n 1, 1) := by decide +kernel
theorem dL_saves_20 : decode cL_saves 20 = .ok (.invokevirtual 234, 3) := by decide +kernel
theorem dL_saves_23 : decode cL_saves 23 = .ok (.istore 5, 2) := by decide +kernel
theorem dL_saves_25 : decode cL_saves 25 = .ok (.iload_n 2, 1) := by decide +kernel
theorem dL_saves_26 : decode cL_saves 26 = .ok (.ifCond .ne 7, 3) := by decide +kernel
theorem dL_saves_29 : decode cL_saves 29 = .ok (.iconst 1, 1) := by decide +kernel
theorem dL_saves_30 : decode cL_saves 30 = .ok (.goto 4, 3) := by decide +kernel
theorem dL_saves_33 : decode cL_saves 33 = .ok (.iconst 0, 1) := by decide +kernel
theorem dL_saves_34 : decode cL_saves 34 = .ok (.iload 5, 2) := by decide +kernel
theorem dL_saves_36 : decode cL_saves 36 = .ok (.iload 4, 2) := by decide +kernel
theorem dL_saves_38 : decode cL_saves 38 = .ok (.if_icmp .eq 7, 3) := by decide +kernel
theorem dL_saves_41 : decode cL_saves 41 = .ok (.iconst 1, 1) := by decide +kernel
theorem dL_saves_42 : decode cL_saves 42 = .ok (.goto 4, 3) := by decide +kernel
theorem dL_saves_45 : decode cL_saves 45 = .ok (.iconst 0, 1) := by decide +kernel
theorem dL_saves_46 : decode cL_saves 46 = .ok (.if_icmp .ne 7, 3) := by decide +kernel
theorem dL_saves_49 : decode cL_saves 49 = .ok (.iconst 1, 1) := by decide +kernel
theorem dL_saves_50 : decode cL_saves 50 = .ok (.goto 4, 3) := by decide +kernel
theorem dL_saves_53 : decode cL_saves 53 = .ok (.iconst 0, 1) := by decide +kernel
theorem dL_saves_54 : decode cL_saves 54 = .ok (.istore 6, 2) := by decide +kernel
theorem dL_saves_56 : decode cL_saves 56 = .ok (.iload 6, 2) := by decide +kernel
theorem dL_saves_58 : decode cL_saves 58 = .ok (.ifCond .eq 96, 3) := by decide +kernel
theorem dL_saves_61 : decode cL_saves 61 = .ok (.iload_n 2, 1) := by decide +kernel
theorem dL_saves_62 : decode cL_saves 62 = .ok (.ifCond .le 92, 3) := by decide +kernel
theorem dL_saves_65 : decode cL_saves 65 = .ok (.aload_n 0, 1) := by decide +kernel
theorem dL_saves_66 : decode cL_saves 66 = .ok (.iload_n 1, 1) := by decide +kernel
theorem dL_saves_67 : decode cL_saves 67 = .ok (.iload_n 2, 1) := by decide +kernel
theorem dL_saves_68 : decode cL_saves 68 = .ok (.invokestatic 237, 3) := by decide +kernel
theorem dL_saves_71 : decode cL_saves 71 = .ok (.iload_n 3, 1) := by decide +kernel
theorem dL_saves_72 : decode cL_saves 72 = .ok (.iload_n 2, 1) := by decide +kernel
theorem dL_saves_73 : decode cL_saves 73 = .ok (.iadd, 1) := by decide +kernel
theorem dL_saves_74 : decode cL_saves 74 = .ok (.if_icmp .ne 24, 3) := by decide +kernel
theorem dL_saves_77 : decode cL_saves 77 = .ok (.aload_n 0, 1) := by decide +kernel
theorem dL_saves_78 : decode cL_saves 78 = .ok (.iload_n 1, 1) := by decide +kernel
theorem dL_saves_79 : decode cL_saves 79 = .ok (.invokevirtual 234, 3) := by decide +kernel
theorem dL_saves_82 : decode cL_saves 82 = .ok (.iload 4, 2) := by decide +kernel
theorem dL_saves_84 : decode cL_saves 84 = .ok (.if_icmp .eq 14, 3) := by decide +kernel
theorem dL_saves_87 : decode cL_saves 87 = .ok (.aload_n 0, 1) := by decide +kernel
theorem dL_saves_88 : decode cL_saves 88 = .ok (.invokestatic 240, 3) := by decide +kernel
theorem dL_saves_91 : decode cL_saves 91 = .ok (.ifCond .lt 7, 3) := by decide +kernel
theorem dL_saves_94 : decode cL_saves 94 = .ok (.iconst 1, 1) := by decide +kernel
theorem dL_saves_95 : decode cL_saves 95 = .ok (.goto 4, 3) := by decide +kernel
theorem dL_saves_98 : decode cL_saves 98 = .ok (.iconst 0, 1) := by decide +kernel
theorem dL_saves_99 : decode cL_saves 99 = .ok (.istore 6, 2) := by decide +kernel
theorem dL_saves_101 : decode cL_saves 101 = .ok (.iload 6, 2) := by decide +kernel
theorem dL_saves_103 : decode cL_saves 103 = .ok (.ifCond .eq 100, 3) := by decide +kernel
theorem dL_saves_106 : decode cL_saves 106 = .ok (.iload_n 2, 1) := by decide +kernel
theorem dL_saves_107 : decode cL_saves 107 = .ok (.iconst 1, 1) := by decide +kernel
theorem dL_saves_108 : decode cL_saves 108 = .ok (.if_icmp .le 95, 3) := by decide +kernel
theorem dL_saves_111 : decode cL_saves 111 = .ok (.aload_n 0, 1) := by decide +kernel
theorem dL_saves_112 : decode cL_saves 112 = .ok (.iload_n 1, 1) := by decide +kernel
theorem dL_saves_113 : decode cL_saves 113 = .ok (.iload_n 2, 1) := by decide +kernel
theorem dL_saves_114 : decode cL_saves 114 = .ok (.iconst 1, 1) := by decide +kernel
theorem dL_saves_115 : decode cL_saves 115 = .ok (.isub, 1) := by decide +kernel
theorem dL_saves_116 : decode cL_saves 116 = .ok (.invokestatic 237, 3) := by decide +kernel
theorem dL_saves_119 : decode cL_saves 119 = .ok (.iload_n 3, 1) := by decide +kernel
theorem dL_saves_120 : decode cL_saves 120 = .ok (.iload_n 2, 1) := by decide +kernel
theorem dL_saves_121 : decode cL_saves 121 = .ok (.iadd, 1) := by decide +kernel
theorem dL_saves_122 : decode cL_saves 122 = .ok (.iconst 1, 1) := by decide +kernel
theorem dL_saves_123 : decode cL_saves 123 = .ok (.isub, 1) := by decide +kernel
theorem dL_saves_124 : decode cL_saves 124 = .ok (.if_icmp .ne 24, 3) := by decide +kernel
theorem dL_saves_127 : decode cL_saves 127 = .ok (.aload_n 0, 1) := by decide +kernel
theorem dL_saves_128 : decode cL_saves 128 = .ok (.iload_n 1, 1) := by decide +kernel
theorem dL_saves_129 : decode cL_saves 129 = .ok (.invokevirtual 234, 3) := by decide +kernel
theorem dL_saves_132 : decode cL_saves 132 = .ok (.iload 4, 2) := by decide +kernel
theorem dL_saves_134 : decode cL_saves 134 = .ok (.if_icmp .ne 14, 3) := by decide +kernel
theorem dL_saves_137 : decode cL_saves 137 = .ok (.aload_n 0, 1) := by decide +kernel
theorem dL_saves_138 : decode cL_saves 138 = .ok (.invokestatic 240, 3) := by decide +kernel
theorem dL_saves_141 : decode cL_saves 141 = .ok (.ifCond .lt 7, 3) := by decide +kernel
theorem dL_saves_144 : decode cL_saves 144 = .ok (.iconst 1, 1) := by decide +kernel
theorem dL_saves_145 : decode cL_saves 145 = .ok (.goto 4, 3) := by decide +kernel
theorem dL_saves_148 : decode cL_saves 148 = .ok (.iconst 0, 1) := by decide +kernel
theorem dL_saves_149 : decode cL_saves 149 = .ok (.istore 6, 2) := by decide +kernel
theorem dL_saves_151 : decode cL_saves 151 = .ok (.goto 52, 3) := by decide +kernel
theorem dL_saves_154 : decode cL_saves 154 = .ok (.iload 6, 2) := by decide +kernel
theorem dL_saves_156 : decode cL_saves 156 = .ok (.ifCond .eq 47, 3) := by decide +kernel
theorem dL_saves_159 : decode cL_saves 159 = .ok (.iload_n 2, 1) := by decide +kernel
theorem dL_saves_160 : decode cL_saves 160 = .ok (.ifCond .ge 43, 3) := by decide +kernel
theorem dL_saves_163 : decode cL_saves 163 = .ok (.aload_n 0, 1) := by decide +kernel
theorem dL_saves_164 : decode cL_saves 164 = .ok (.iload_n 1, 1) := by decide +kernel
theorem dL_saves_165 : decode cL_saves 165 = .ok (.sipush 999, 3) := by decide +kernel
theorem dL_saves_168 : decode cL_saves 168 = .ok (.invokestatic 237, 3) := by decide +kernel
theorem dL_saves_171 : decode cL_saves 171 = .ok (.iload_n 3, 1) := by decide +kernel
theorem dL_saves_172 : decode cL_saves 172 = .ok (.sipush 999, 3) := by decide +kernel
theorem dL_saves_175 : decode cL_saves 175 = .ok (.iadd, 1) := by decide +kernel
theorem dL_saves_176 : decode cL_saves 176 = .ok (.if_icmp .ne 24, 3) := by decide +kernel
theorem dL_saves_179 : decode cL_saves 179 = .ok (.aload_n 0, 1) := by decide +kernel
theorem dL_saves_180 : decode cL_saves 180 = .ok (.iload_n 1, 1) := by decide +kernel
theorem dL_saves_181 : decode cL_saves 181 = .ok (.invokevirtual 234, 3) := by decide +kernel
theorem dL_saves_184 : decode cL_saves 184 = .ok (.iload 4, 2) := by decide +kernel
theorem dL_saves_186 : decode cL_saves 186 = .ok (.if_icmp .ne 14, 3) := by decide +kernel
theorem dL_saves_189 : decode cL_saves 189 = .ok (.aload_n 0, 1) := by decide +kernel
theorem dL_saves_190 : decode cL_saves 190 = .ok (.invokestatic 240, 3) := by decide +kernel
theorem dL_saves_193 : decode cL_saves 193 = .ok (.ifCond .lt 7, 3) := by decide +kernel
theorem dL_saves_196 : decode cL_saves 196 = .ok (.iconst 1, 1) := by decide +kernel
theorem dL_saves_197 : decode cL_saves 197 = .ok (.goto 4, 3) := by decide +kernel
theorem dL_saves_200 : decode cL_saves 200 = .ok (.iconst 0, 1) := by decide +kernel
theorem dL_saves_201 : decode cL_saves 201 = .ok (.istore 6, 2) := by decide +kernel
theorem dL_saves_203 : decode cL_saves 203 = .ok (.iload 6, 2) := by decide +kernel
theorem dL_saves_205 : decode cL_saves 205 = .ok (.ireturn, 1) := by decide +kernel
theorem dL_act_0 : decode cL_act 0 = .ok (.aload_n 0, 1) := by decide +kernel
theorem dL_act_1 : decode cL_act 1 = .ok (.invokevirtual 133, 3) := by decide +kernel
theorem dL_act_4 : decode cL_act 4 = .ok (.istore_n 2, 1) := by decide +kernel
theorem dL_act_5 : decode cL_act 5 = .ok (.iload_n 2, 1) := by decide +kernel
theorem dL_act_6 : decode cL_act 6 = .ok (.ifCond .ne 7, 3) := by decide +kernel
theorem dL_act_9 : decode cL_act 9 = .ok (.iconst 0, 1) := by decide +kernel
theorem dL_act_10 : decode cL_act 10 = .ok (.goto 9, 3) := by decide +kernel
theorem dL_act_13 : decode cL_act 13 = .ok (.aload_n 1, 1) := by decide +kernel
theorem dL_act_14 : decode cL_act 14 = .ok (.invokestatic 84, 3) := by decide +kernel
theorem dL_act_17 : decode cL_act 17 = .ok (.iload_n 2, 1) := by decide +kernel
theorem dL_act_18 : decode cL_act 18 = .ok (.irem, 1) := by decide +kernel
theorem dL_act_19 : decode cL_act 19 = .ok (.istore_n 3, 1) := by decide +kernel
theorem dL_act_20 : decode cL_act 20 = .ok (.iload_n 2, 1) := by decide +kernel
theorem dL_act_21 : decode cL_act 21 = .ok (.ifCond .ne 7, 3) := by decide +kernel
theorem dL_act_24 : decode cL_act 24 = .ok (.iconst 0, 1) := by decide +kernel
theorem dL_act_25 : decode cL_act 25 = .ok (.goto 8, 3) := by decide +kernel
theorem dL_act_28 : decode cL_act 28 = .ok (.aload_n 0, 1) := by decide +kernel
theorem dL_act_29 : decode cL_act 29 = .ok (.iload_n 3, 1) := by decide +kernel
theorem dL_act_30 : decode cL_act 30 = .ok (.invokevirtual 139, 3) := by decide +kernel
theorem dL_act_33 : decode cL_act 33 = .ok (.istore 4, 2) := by decide +kernel
theorem dL_act_35 : decode cL_act 35 = .ok (.aload_n 1, 1) := by decide +kernel
theorem dL_act_36 : decode cL_act 36 = .ok (.invokestatic 84, 3) := by decide +kernel
theorem dL_act_39 : decode cL_act 39 = .ok (.bipush 8, 2) := by decide +kernel
theorem dL_act_41 : decode cL_act 41 = .ok (.irem, 1) := by decide +kernel
theorem dL_act_42 : decode cL_act 42 = .ok (.tableswitch 651 0 6 #[42, 42, 209, 352, 410, 521, 596], 42) := by decide +kernel
theorem dL_act_84 : decode cL_act 84 = .ok (.iconst 1, 1) := by decide +kernel
theorem dL_act_85 : decode cL_act 85 = .ok (.aload_n 1, 1) := by decide +kernel
theorem dL_act_86 : decode cL_act 86 = .ok (.invokestatic 84, 3) := by decide +kernel
theorem dL_act_89 : decode cL_act 89 = .ok (.bipush 9, 2) := by decide +kernel
theorem dL_act_91 : decode cL_act 91 = .ok (.irem, 1) := by decide +kernel
theorem dL_act_92 : decode cL_act 92 = .ok (.iadd, 1) := by decide +kernel
theorem dL_act_93 : decode cL_act 93 = .ok (.istore 5, 2) := by decide +kernel
theorem dL_act_95 : decode cL_act 95 = .ok (.iload_n 2, 1) := by decide +kernel
theorem dL_act_96 : decode cL_act 96 = .ok (.ifCond .ne 7, 3) := by decide +kernel
theorem dL_act_99 : decode cL_act 99 = .ok (.iconst 0, 1) := by decide +kernel
theorem dL_act_100 : decode cL_act 100 = .ok (.goto 10, 3) := by decide +kernel
theorem dL_act_103 : decode cL_act 103 = .ok (.aload_n 0, 1) := by decide +kernel
theorem dL_act_104 : decode cL_act 104 = .ok (.iload_n 3, 1) := by decide +kernel
theorem dL_act_105 : decode cL_act 105 = .ok (.iload 5, 2) := by decide +kernel
theorem dL_act_107 : decode cL_act 107 = .ok (.invokevirtual 217, 3) := by decide +kernel
theorem dL_act_110 : decode cL_act 110 = .ok (.istore 6, 2) := by decide +kernel
theorem dL_act_112 : decode cL_act 112 = .ok (.iload_n 2, 1) := by decide +kernel
theorem dL_act_113 : decode cL_act 113 = .ok (.ifCond .ne 7, 3) := by decide +kernel
theorem dL_act_116 : decode cL_act 116 = .ok (.iconst (-1), 1) := by decide +kernel
theorem dL_act_117 : decode cL_act 117 = .ok (.goto 8, 3) := by decide +kernel
theorem dL_act_120 : decode cL_act 120 = .ok (.aload_n 0, 1) := by decide +kernel
theorem dL_act_121 : decode cL_act 121 = .ok (.iload_n 3, 1) := by decide +kernel
theorem dL_act_122 : decode cL_act 122 = .ok (.invokevirtual 234, 3) := by decide +kernel
theorem dL_act_125 : decode cL_act 125 = .ok (.istore 7, 2) := by decide +kernel
theorem dL_act_127 : decode cL_act 127 = .ok (.aload_n 0, 1) := by decide +kernel
theorem dL_act_128 : decode cL_act 128 = .ok (.invokevirtual 127, 3) := by decide +kernel
theorem dL_act_131 : decode cL_act 131 = .ok (.istore 8, 2) := by decide +kernel
theorem dL_act_133 : decode cL_act 133 = .ok (.aload_n 0, 1) := by decide +kernel
theorem dL_act_134 : decode cL_act 134 = .ok (.invokevirtual 118, 3) := by decide +kernel
theorem dL_act_137 : decode cL_act 137 = .ok (.istore 9, 2) := by decide +kernel
theorem dL_act_139 : decode cL_act 139 = .ok (.aload_n 0, 1) := by decide +kernel
theorem dL_act_140 : decode cL_act 140 = .ok (.iload 5, 2) := by decide +kernel
theorem dL_act_142 : decode cL_act 142 = .ok (.invokestatic 244, 3) := by decide +kernel
theorem dL_act_145 : decode cL_act 145 = .ok (.istore 10, 2) := by decide +kernel
theorem dL_act_147 : decode cL_act 147 = .ok (.iload_n 2, 1) := by decide +kernel
theorem dL_act_148 : decode cL_act 148 = .ok (.ifCond .le 19, 3) := by decide +kernel
theorem dL_act_151 : decode cL_act 151 = .ok (.iload 7, 2) := by decide +kernel
theorem dL_act_153 : decode cL_act 153 = .ok (.ifCond .lt 10, 3) := by decide +kernel
theorem dL_act_156 : decode cL_act 156 = .ok (.iload 7, 2) := by decide +kernel
theorem dL_act_158 : decode cL_act 158 = .ok (.iload 5, 2) := by decide +kernel
theorem dL_act_160 : decode cL_act 160 = .ok (.if_icmp .le 7, 3) := by decide +kernel
theorem dL_act_163 : decode cL_act 163 = .ok (.iconst 1, 1) := by decide +kernel
theorem dL_act_164 : decode cL_act 164 = .ok (.goto 4, 3) := by decide +kernel
theorem dL_act_167 : decode cL_act 167 = .ok (.iconst 0, 1) := by decide +kernel
theorem dL_act_168 : decode cL_act 168 = .ok (.istore 11, 2) := by decide +kernel
theorem dL_act_170 : decode cL_act 170 = .ok (.aload_n 0, 1) := by decide +kernel
theorem dL_act_171 : decode cL_act 171 = .ok (.invokevirtual 118, 3) := by decide +kernel
theorem dL_act_174 : decode cL_act 174 = .ok (.iload 9, 2) := by decide +kernel
theorem dL_act_176 : decode cL_act 176 = .ok (.iload 10, 2) := by decide +kernel
theorem dL_act_178 : decode cL_act 178 = .ok (.iadd, 1) := by decide +kernel
theorem dL_act_179 : decode cL_act 179 = .ok (.if_icmp .ne 70, 3) := by decide +kernel
theorem dL_act_182 : decode cL_act 182 = .ok (.aload_n 0, 1) := by decide +kernel
theorem dL_act_183 : decode cL_act 183 = .ok (.invokevirtual 133, 3) := by decide +kernel
theorem dL_act_186 : decode cL_act 186 = .ok (.iload_n 2, 1) := by decide +kernel
theorem dL_act_187 : decode cL_act 187 = .ok (.iload 10, 2) := by decide +kernel
theorem dL_act_189 : decode cL_act 189 = .ok (.isub, 1) := by decide +kernel
theorem dL_act_190 : decode cL_act 190 = .ok (.if_icmp .ne 59, 3) := by decide +kernel
theorem dL_act_193 : decode cL_act 193 = .ok (.iload_n 2, 1) := by decide +kernel
theorem dL_act_194 : decode cL_act 194 = .ok (.ifCond .eq 23, 3) := by decide +kernel
theorem dL_act_197 : decode cL_act 197 = .ok (.iload 11, 2) := by decide +kernel
theorem dL_act_199 : decode cL_act 199 = .ok (.ifCond .eq 18, 3) := by decide +kernel
theorem dL_act_202 : decode cL_act 202 = .ok (.iload 10, 2) := by decide +kernel
theorem dL_act_204 : decode cL_act 204 = .ok (.ifCond .gt 13, 3) := by decide +kernel
theorem dL_act_207 : decode cL_act 207 = .ok (.aload_n 0, 1) := by decide +kernel
theorem dL_act_208 : decode cL_act 208 = .ok (.iload_n 3, 1) := by decide +kernel
theorem dL_act_209 : decode cL_act 209 = .ok (.invokevirtual 139, 3) := by decide +kernel
theorem dL_act_212 : decode cL_act 212 = .ok (.iload 6, 2) := by decide +kernel
theorem dL_act_214 : decode cL_act 214 = .ok (.if_icmp .ne 35, 3) := by decide +kernel
theorem dL_act_217 : decode cL_act 217 = .ok (.iload 11, 2) := by decide +kernel
theorem dL_act_219 : decode cL_act 219 = .ok (.ifCond .ne 12, 3) := by decide +kernel
theorem dL_act_222 : decode cL_act 222 = .ok (.iload_n 2, 1) := by decide +kernel
theorem dL_act_223 : decode cL_act 223 = .ok (.ifCond .eq 8, 3) := by decide +kernel
theorem dL_act_226 : decode cL_act 226 = .ok (.iload 10, 2) := by decide +kernel
theorem dL_act_228 : decode cL_act 228 = .ok (.ifCond .le 21, 3) := by decide +kernel
theorem dL_act_231 : decode cL_act 231 = .ok (.iload 10, 2) := by decide +kernel
theorem dL_act_233 : decode cL_act 233 = .ok (.ifCond .gt 12, 3) := by decide +kernel
theorem dL_act_236 : decode cL_act 236 = .ok (.aload_n 0, 1) := by decide +kernel
theorem dL_act_237 : decode cL_act 237 = .ok (.invokevirtual 127, 3) := by decide +kernel
theorem dL_act_240 : decode cL_act 240 = .ok (.iload 8, 2) := by decide +kernel
theorem dL_act_242 : decode cL_act 242 = .ok (.if_icmp .ne 7, 3) := by decide +kernel
theorem dL_act_245 : decode cL_act 245 = .ok (.iconst 1, 1) := by decide +kernel
theorem dL_act_246 : decode cL_act 246 = .ok (.goto 4, 3) := by decide +kernel
theorem dL_act_249 : decode cL_act 249 = .ok (.iconst 0, 1) := by decide +kernel
theorem dL_act_250 : decode cL_act 250 = .ok (.ireturn, 1) := by decide +kernel
theorem dL_act_251 : decode cL_act 251 = .ok (.aload_n 1, 1) := by decide +kernel
theorem dL_act_252 : decode cL_act 252 = .ok (.invokestatic 84, 3) := by decide +kernel
theorem dL_act_255 : decode cL_act 255 = .ok (.iconst 5, 1) := by decide +kernel
theorem dL_act_256 : decode cL_act 256 = .ok (.irem, 1) := by decide +kernel
theorem dL_act_257 : decode cL_act 257 = .ok (.istore 12, 2) := by decide +kernel
theorem dL_act_259 : decode cL_act 259 = .ok (.iload_n 2, 1) := by decide +kernel
theorem dL_act_260 : decode cL_act 260 = .ok (.bipush 12, 2) := by decide +kernel
theorem dL_act_262 : decode cL_act 262 = .ok (.if_icmp .ge 17, 3) := by decide +kernel
theorem dL_act_265 : decode cL_act 265 = .ok (.aload_n 0, 1) := by decide +kernel
theorem dL_act_266 : decode cL_act 266 = .ok (.iload 12, 2) := by decide +kernel
theorem dL_act_268 : decode cL_act 268 = .ok (.invokevirtual 167, 3) := by decide +kernel
theorem dL_act_271 : decode cL_act 271 = .ok (.iconst 4, 1) := by decide +kernel
theorem dL_act_272 : decode cL_act 272 = .ok (.if_icmp .ge 7, 3) := by decide +kernel
theorem dL_act_275 : decode cL_act 275 = .ok (.iconst 1, 1) := by decide +kernel
theorem dL_act_276 : decode cL_act 276 = .ok (.goto 4, 3) := by decide +kernel
theorem dL_act_279 : decode cL_act 279 = .ok (.iconst 0, 1) := by decide +kernel
theorem dL_act_280 : decode cL_act 280 = .ok (.istore 13, 2) := by decide +kernel
theorem dL_act_282 : decode cL_act 282 = .ok (.aload_n 1, 1) := by decide +kernel
theorem dL_act_283 : decode cL_act 283 = .ok (.invokestatic 84, 3) := by decide +kernel
theorem dL_act_286 : decode cL_act 286 = .ok (.ldc 248, 2) := by decide +kernel
theorem dL_act_288 : decode cL_act 288 = .ok (.irem, 1) := by decide +kernel
theorem dL_act_289 : decode cL_act 289 = .ok (.istore 14, 2) := by decide +kernel
theorem dL_act_291 : decode cL_act 291 = .ok (.aload_n 0, 1) := by decide +kernel
theorem dL_act_292 : decode cL_act 292 = .ok (.iload 12, 2) := by decide +kernel
theorem dL_act_294 : decode cL_act 294 = .ok (.bipush 7, 2) := by decide +kernel
theorem dL_act_296 : decode cL_act 296 = .ok (.iload 14, 2) := by decide +kernel
theorem dL_act_298 : decode cL_act 298 = .ok (.invokestatic 249, 3) := by decide +kernel
theorem dL_act_301 : decode cL_act 301 = .ok (.istore 15, 2) := by decide +kernel
theorem dL_act_303 : decode cL_act 303 = .ok (.iload 13, 2) := by decide +kernel
theorem dL_act_305 : decode cL_act 305 = .ok (.ifCond .eq 68, 3) := by decide +kernel
theorem dL_act_308 : decode cL_act 308 = .ok (.iload 15, 2) := by decide +kernel
theorem dL_act_310 : decode cL_act 310 = .ok (.iload_n 2, 1) := by decide +kernel
theorem dL_act_311 : decode cL_act 311 = .ok (.if_icmp .ne 58, 3) := by decide +kernel
theorem dL_act_314 : decode cL_act 314 = .ok (.aload_n 0, 1) := by decide +kernel
theorem dL_act_315 : decode cL_act 315 = .ok (.iload 15, 2) := by decide +kernel
theorem dL_act_317 : decode cL_act 317 = .ok (.iconst 4, 1) := by decide +kernel
theorem dL_act_318 : decode cL_act 318 = .ok (.invokevirtual 154, 3) := by decide +kernel
theorem dL_act_321 : decode cL_act 321 = .ok (.iload 14, 2) := by decide +kernel
theorem dL_act_323 : decode cL_act 323 = .ok (.bipush 10, 2) := by decide +kernel
theorem dL_act_325 : decode cL_act 325 = .ok (.irem, 1) := by decide +kernel
theorem dL_act_326 : decode cL_act 326 = .ok (.if_icmp .ne 43, 3) := by decide +kernel
theorem dL_act_329 : decode cL_act 329 = .ok (.aload_n 0, 1) := by decide +kernel
theorem dL_act_330 : decode cL_act 330 = .ok (.iload 15, 2) := by decide +kernel
theorem dL_act_332 : decode cL_act 332 = .ok (.iconst 0, 1) := by decide +kernel
theorem dL_act_333 : decode cL_act 333 = .ok (.invokevirtual 154, 3) := by decide +kernel
theorem dL_act_336 : decode cL_act 336 = .ok (.iload 14, 2) := by decide +kernel
theorem dL_act_338 : decode cL_act 338 = .ok (.sipush 10000, 3) := by decide +kernel
theorem dL_act_341 : decode cL_act 341 = .ok (.idiv, 1) := by decide +kernel
theorem dL_act_342 : decode cL_act 342 = .ok (.if_icmp .ne 27, 3) := by decide +kernel
theorem dL_act_345 : decode cL_act 345 = .ok (.aload_n 0, 1) := by decide +kernel
theorem dL_act_346 : decode cL_act 346 = .ok (.iload 15, 2) := by decide +kernel
theorem dL_act_348 : decode cL_act 348 = .ok (.invokevirtual 139, 3) := by decide +kernel
theorem dL_act_351 : decode cL_act 351 = .ok (.bipush 7, 2) := by decide +kernel
theorem dL_act_353 : decode cL_act 353 = .ok (.if_icmp .ne 16, 3) := by decide +kernel
theorem dL_act_356 : decode cL_act 356 = .ok (.aload_n 0, 1) := by decide +kernel
theorem dL_act_357 : decode cL_act 357 = .ok (.iload 15, 2) := by decide +kernel
theorem dL_act_359 : decode cL_act 359 = .ok (.invokevirtual 148, 3) := by decide +kernel
theorem dL_act_362 : decode cL_act 362 = .ok (.ifCond .ne 7, 3) := by decide +kernel
theorem dL_act_365 : decode cL_act 365 = .ok (.iconst 1, 1) := by decide +kernel
theorem dL_act_366 : decode cL_act 366 = .ok (.goto 27, 3) := by decide +kernel
theorem dL_act_369 : decode cL_act 369 = .ok (.iconst 0, 1) := by decide +kernel
theorem dL_act_370 : decode cL_act 370 = .ok (.goto 23, 3) := by decide +kernel
theorem dL_act_373 : decode cL_act 373 = .ok (.iload 15, 2) := by decide +kernel
theorem dL_act_375 : decode cL_act 375 = .ok (.bipush (-3), 2) := by decide +kernel
theorem dL_act_377 : decode cL_act 377 = .ok (.if_icmp .ne 15, 3) := by decide +kernel
theorem dL_act_380 : decode cL_act 380 = .ok (.aload_n 0, 1) := by decide +kernel
theorem dL_act_381 : decode cL_act 381 = .ok (.iconst 3, 1) := by decide +kernel
theorem dL_act_382 : decode cL_act 382 = .ok (.invokestatic 253, 3) := by decide +kernel
theorem dL_act_385 : decode cL_act 385 = .ok (.ifCond .lt 7, 3) := by decide +kernel
theorem dL_act_388 : decode cL_act 388 = .ok (.iconst 1, 1) := by decide +kernel
theorem dL_act_389 : decode cL_act 389 = .ok (.goto 4, 3) := by decide +kernel
theorem dL_act_392 : decode cL_act 392 = .ok (.iconst 0, 1) := by decide +kernel
theorem dL_act_393 : decode cL_act 393 = .ok (.ireturn, 1) := by decide +kernel
theorem dL_act_394 : decode cL_act 394 = .ok (.aload_n 0, 1) := by decide +kernel
theorem dL_act_395 : decode cL_act 395 = .ok (.iload_n 3, 1) := by decide +kernel
theorem dL_act_396 : decode cL_act 396 = .ok (.invokestatic 256, 3) := by decide +kernel
theorem dL_act_399 : decode cL_act 399 = .ok (.istore 16, 2) := by decide +kernel
theorem dL_act_401 : decode cL_act 401 = .ok (.iload_n 2, 1) := by decide +kernel
theorem dL_act_402 : decode cL_act 402 = .ok (.ifCond .ne 27, 3) := by decide +kernel
theorem dL_act_405 : decode cL_act 405 = .ok (.iload 16, 2) := by decide +kernel
theorem dL_act_407 : decode cL_act 407 = .ok (.sipush 9999, 3) := by decide +kernel
theorem dL_act_410 : decode cL_act 410 = .ok (.if_icmp .ne 15, 3) := by decide +kernel
theorem dL_act_413 : decode cL_act 413 = .ok (.aload_n 0, 1) := by decide +kernel
theorem dL_act_414 : decode cL_act 414 = .ok (.iconst 4, 1) := by decide +kernel
theorem dL_act_415 : decode cL_act 415 = .ok (.invokestatic 253, 3) := by decide +kernel
theorem dL_act_418 : decode cL_act 418 = .ok (.ifCond .lt 7, 3) := by decide +kernel
theorem dL_act_421 : decode cL_act 421 = .ok (.iconst 1, 1) := by decide +kernel
theorem dL_act_422 : decode cL_act 422 = .ok (.goto 29, 3) := by decide +kernel
theorem dL_act_425 : decode cL_act 425 = .ok (.iconst 0, 1) := by decide +kernel
theorem dL_act_426 : decode cL_act 426 = .ok (.goto 25, 3) := by decide +kernel
theorem dL_act_429 : decode cL_act 429 = .ok (.iload 16, 2) := by decide +kernel
theorem dL_act_431 : decode cL_act 431 = .ok (.iload 4, 2) := by decide +kernel
theorem dL_act_433 : decode cL_act 433 = .ok (.if_icmp .ne 17, 3) := by decide +kernel
theorem dL_act_436 : decode cL_act 436 = .ok (.aload_n 0, 1) := by decide +kernel
theorem dL_act_437 : decode cL_act 437 = .ok (.invokevirtual 133, 3) := by decide +kernel
theorem dL_act_440 : decode cL_act 440 = .ok (.iload_n 2, 1) := by decide +kernel
theorem dL_act_441 : decode cL_act 441 = .ok (.iconst 1, 1) := by decide +kernel
theorem dL_act_442 : decode cL_act 442 = .ok (.isub, 1) := by decide +kernel
theorem dL_act_443 : decode cL_act 443 = .ok (.if_icmp .ne 7, 3) := by decide +kernel
theorem dL_act_446 : decode cL_act 446 = .ok (.iconst 1, 1) := by decide +kernel
theorem dL_act_447 : decode cL_act 447 = .ok (.goto 4, 3) := by decide +kernel
theorem dL_act_450 : decode cL_act 450 = .ok (.iconst 0, 1) := by decide +kernel
theorem dL_act_451 : decode cL_act 451 = .ok (.ireturn, 1) := by decide +kernel
theorem dL_act_452 : decode cL_act 452 = .ok (.aload_n 1, 1) := by decide +kernel
theorem dL_act_453 : decode cL_act 453 = .ok (.invokestatic 84, 3) := by decide +kernel
theorem dL_act_456 : decode cL_act 456 = .ok (.iconst 5, 1) := by decide +kernel
theorem dL_act_457 : decode cL_act 457 = .ok (.irem, 1) := by decide +kernel
theorem dL_act_458 : decode cL_act 458 = .ok (.istore 17, 2) := by decide +kernel
theorem dL_act_460 : decode cL_act 460 = .ok (.iload_n 2, 1) := by decide +kernel
theorem dL_act_461 : decode cL_act 461 = .ok (.ifCond .ne 7, 3) := by decide +kernel
theorem dL_act_464 : decode cL_act 464 = .ok (.iconst 0, 1) := by decide +kernel
theorem dL_act_465 : decode cL_act 465 = .ok (.goto 8, 3) := by decide +kernel
theorem dL_act_468 : decode cL_act 468 = .ok (.aload_n 0, 1) := by decide +kernel
theorem dL_act_469 : decode cL_act 469 = .ok (.iload_n 3, 1) := by decide +kernel
theorem dL_act_470 : decode cL_act 470 = .ok (.invokevirtual 136, 3) := by decide +kernel
theorem dL_act_473 : decode cL_act 473 = .ok (.istore 18, 2) := by decide +kernel
theorem dL_act_475 : decode cL_act 475 = .ok (.iload_n 2, 1) := by decide +kernel
theorem dL_act_476 : decode cL_act 476 = .ok (.ifCond .le 24, 3) := by decide +kernel
theorem dL_act_479 : decode cL_act 479 = .ok (.iload 18, 2) := by decide +kernel
theorem dL_act_481 : decode cL_act 481 = .ok (.iload 17, 2) := by decide +kernel
theorem dL_act_483 : decode cL_act 483 = .ok (.if_icmp .eq 13, 3) := by decide +kernel
theorem dL_act_486 : decode cL_act 486 = .ok (.aload_n 0, 1) := by decide +kernel
theorem dL_act_487 : decode cL_act 487 = .ok (.iload 17, 2) := by decide +kernel
theorem dL_act_489 : decode cL_act 489 = .ok (.invokevirtual 167, 3) := by decide +kernel
theorem dL_act_492 : decode cL_act 492 = .ok (.iconst 4, 1) := by decide +kernel
theorem dL_act_493 : decode cL_act 493 = .ok (.if_icmp .ge 7, 3) := by decide +kernel
theorem dL_act_496 : decode cL_act 496 = .ok (.iconst 1, 1) := by decide +kernel
theorem dL_act_497 : decode cL_act 497 = .ok (.goto 4, 3) := by decide +kernel
theorem dL_act_500 : decode cL_act 500 = .ok (.iconst 0, 1) := by decide +kernel
theorem dL_act_501 : decode cL_act 501 = .ok (.istore 19, 2) := by decide +kernel
theorem dL_act_503 : decode cL_act 503 = .ok (.aload_n 0, 1) := by decide +kernel
theorem dL_act_504 : decode cL_act 504 = .ok (.iload_n 3, 1) := by decide +kernel
theorem dL_act_505 : decode cL_act 505 = .ok (.iload 17, 2) := by decide +kernel
theorem dL_act_507 : decode cL_act 507 = .ok (.invokestatic 259, 3) := by decide +kernel
theorem dL_act_510 : decode cL_act 510 = .ok (.istore 20, 2) := by decide +kernel
theorem dL_act_512 : decode cL_act 512 = .ok (.iload 19, 2) := by decide +kernel
theorem dL_act_514 : decode cL_act 514 = .ok (.ifCond .eq 28, 3) := by decide +kernel
theorem dL_act_517 : decode cL_act 517 = .ok (.iload 20, 2) := by decide +kernel
theorem dL_act_519 : decode cL_act 519 = .ok (.iload 18, 2) := by decide +kernel
theorem dL_act_521 : decode cL_act 521 = .ok (.if_icmp .ne 17, 3) := by decide +kernel
theorem dL_act_524 : decode cL_act 524 = .ok (.aload_n 0, 1) := by decide +kernel
theorem dL_act_525 : decode cL_act 525 = .ok (.iload_n 3, 1) := by decide +kernel
theorem dL_act_526 : decode cL_act 526 = .ok (.invokevirtual 136, 3) := by decide +kernel
theorem dL_act_529 : decode cL_act 529 = .ok (.iload 17, 2) := by decide +kernel
theorem dL_act_531 : decode cL_act 531 = .ok (.if_icmp .ne 7, 3) := by decide +kernel
theorem dL_act_534 : decode cL_act 534 = .ok (.iconst 1, 1) := by decide +kernel
theorem dL_act_535 : decode cL_act 535 = .ok (.goto 27, 3) := by decide +kernel
theorem dL_act_538 : decode cL_act 538 = .ok (.iconst 0, 1) := by decide +kernel
theorem dL_act_539 : decode cL_act 539 = .ok (.goto 23, 3) := by decide +kernel
theorem dL_act_542 : decode cL_act 542 = .ok (.iload 20, 2) := by decide +kernel
theorem dL_act_544 : decode cL_act 544 = .ok (.bipush (-2), 2) := by decide +kernel
theorem dL_act_546 : decode cL_act 546 = .ok (.if_icmp .ge 15, 3) := by decide +kernel
theorem dL_act_549 : decode cL_act 549 = .ok (.aload_n 0, 1) := by decide +kernel
theorem dL_act_550 : decode cL_act 550 = .ok (.iconst 5, 1) := by decide +kernel
theorem dL_act_551 : decode cL_act 551 = .ok (.invokestatic 253, 3) := by decide +kernel
theorem dL_act_554 : decode cL_act 554 = .ok (.ifCond .lt 7, 3) := by decide +kernel
theorem dL_act_557 : decode cL_act 557 = .ok (.iconst 1, 1) := by decide +kernel
theorem dL_act_558 : decode cL_act 558 = .ok (.goto 4, 3) := by decide +kernel
theorem dL_act_561 : decode cL_act 561 = .ok (.iconst 0, 1) := by decide +kernel
theorem dL_act_562 : decode cL_act 562 = .ok (.ireturn, 1) := by decide +kernel
theorem dL_act_563 : decode cL_act 563 = .ok (.iconst 1, 1) := by decide +kernel
theorem dL_act_564 : decode cL_act 564 = .ok (.aload_n 1, 1) := by decide +kernel
theorem dL_act_565 : decode cL_act 565 = .ok (.invokestatic 84, 3) := by decide +kernel
theorem dL_act_568 : decode cL_act 568 = .ok (.sipush 300, 3) := by decide +kernel
theorem dL_act_571 : decode cL_act 571 = .ok (.irem, 1) := by decide +kernel
theorem dL_act_572 : decode cL_act 572 = .ok (.iadd, 1) := by decide +kernel
theorem dL_act_573 : decode cL_act 573 = .ok (.istore 21, 2) := by decide +kernel
theorem dL_act_575 : decode cL_act 575 = .ok (.aload_n 0, 1) := by decide +kernel
theorem dL_act_576 : decode cL_act 576 = .ok (.iload_n 3, 1) := by decide +kernel
theorem dL_act_577 : decode cL_act 577 = .ok (.iload 21, 2) := by decide +kernel
theorem dL_act_579 : decode cL_act 579 = .ok (.invokestatic 237, 3) := by decide +kernel
theorem dL_act_582 : decode cL_act 582 = .ok (.istore 22, 2) := by decide +kernel
theorem dL_act_584 : decode cL_act 584 = .ok (.iload_n 2, 1) := by decide +kernel
theorem dL_act_585 : decode cL_act 585 = .ok (.ifCond .ne 27, 3) := by decide +kernel
theorem dL_act_588 : decode cL_act 588 = .ok (.iload 22, 2) := by decide +kernel
theorem dL_act_590 : decode cL_act 590 = .ok (.ldc 60, 2) := by decide +kernel
theorem dL_act_592 : decode cL_act 592 = .ok (.if_icmp .ne 16, 3) := by decide +kernel
theorem dL_act_595 : decode cL_act 595 = .ok (.aload_n 0, 1) := by decide +kernel
theorem dL_act_596 : decode cL_act 596 = .ok (.bipush 6, 2) := by decide +kernel
theorem dL_act_598 : decode cL_act 598 = .ok (.invokestatic 253, 3) := by decide +kernel
theorem dL_act_601 : decode cL_act 601 = .ok (.ifCond .lt 7, 3) := by decide +kernel
theorem dL_act_604 : decode cL_act 604 = .ok (.iconst 1, 1) := by decide +kernel
theorem dL_act_605 : decode cL_act 605 = .ok (.goto 32, 3) := by decide +kernel
theorem dL_act_608 : decode cL_act 608 = .ok (.iconst 0, 1) := by decide +kernel
theorem dL_act_609 : decode cL_act 609 = .ok (.goto 28, 3) := by decide +kernel
theorem dL_act_612 : decode cL_act 612 = .ok (.iload 22, 2) := by decide +kernel
theorem dL_act_614 : decode cL_act 614 = .ok (.iload 4, 2) := by decide +kernel
theorem dL_act_616 : decode cL_act 616 = .ok (.iload 21, 2) := by decide +kernel
theorem dL_act_618 : decode cL_act 618 = .ok (.iadd, 1) := by decide +kernel
theorem dL_act_619 : decode cL_act 619 = .ok (.if_icmp .ne 17, 3) := by decide +kernel
theorem dL_act_622 : decode cL_act 622 = .ok (.aload_n 0, 1) := by decide +kernel
theorem dL_act_623 : decode cL_act 623 = .ok (.iload_n 3, 1) := by decide +kernel
theorem dL_act_624 : decode cL_act 624 = .ok (.invokevirtual 139, 3) := by decide +kernel
theorem dL_act_627 : decode cL_act 627 = .ok (.iload 22, 2) := by decide +kernel
theorem dL_act_629 : decode cL_act 629 = .ok (.if_icmp .ne 7, 3) := by decide +kernel
theorem dL_act_632 : decode cL_act 632 = .ok (.iconst 1, 1) := by decide +kernel
theorem dL_act_633 : decode cL_act 633 = .ok (.goto 4, 3) := by decide +kernel
theorem dL_act_636 : decode cL_act 636 = .ok (.iconst 0, 1) := by decide +kernel
theorem dL_act_637 : decode cL_act 637 = .ok (.ireturn, 1) := by decide +kernel
theorem dL_act_638 : decode cL_act 638 = .ok (.aload_n 1, 1) := by decide +kernel
theorem dL_act_639 : decode cL_act 639 = .ok (.invokestatic 84, 3) := by decide +kernel
theorem dL_act_642 : decode cL_act 642 = .ok (.iconst 5, 1) := by decide +kernel
theorem dL_act_643 : decode cL_act 643 = .ok (.irem, 1) := by decide +kernel
theorem dL_act_644 : decode cL_act 644 = .ok (.istore 23, 2) := by decide +kernel
theorem dL_act_646 : decode cL_act 646 = .ok (.aload_n 0, 1) := by decide +kernel
theorem dL_act_647 : decode cL_act 647 = .ok (.iload 23, 2) := by decide +kernel
theorem dL_act_649 : decode cL_act 649 = .ok (.invokevirtual 130, 3) := by decide +kernel
theorem dL_act_652 : decode cL_act 652 = .ok (.istore 24, 2) := by decide +kernel
theorem dL_act_654 : decode cL_act 654 = .ok (.aload_n 1, 1) := by decide +kernel
theorem dL_act_655 : decode cL_act 655 = .ok (.invokestatic 84, 3) := by decide +kernel
theorem dL_act_658 : decode cL_act 658 = .ok (.bipush 10, 2) := by decide +kernel
theorem dL_act_660 : decode cL_act 660 = .ok (.irem, 1) := by decide +kernel
theorem dL_act_661 : decode cL_act 661 = .ok (.istore 25, 2) := by decide +kernel
theorem dL_act_663 : decode cL_act 663 = .ok (.aload_n 0, 1) := by decide +kernel
theorem dL_act_664 : decode cL_act 664 = .ok (.iload 23, 2) := by decide +kernel
theorem dL_act_666 : decode cL_act 666 = .ok (.iload 25, 2) := by decide +kernel
theorem dL_act_668 : decode cL_act 668 = .ok (.invokestatic 262, 3) := by decide +kernel
theorem dL_act_671 : decode cL_act 671 = .ok (.iload 24, 2) := by decide +kernel
theorem dL_act_673 : decode cL_act 673 = .ok (.if_icmp .ne 18, 3) := by decide +kernel
theorem dL_act_676 : decode cL_act 676 = .ok (.aload_n 0, 1) := by decide +kernel
theorem dL_act_677 : decode cL_act 677 = .ok (.iload 23, 2) := by decide +kernel
theorem dL_act_679 : decode cL_act 679 = .ok (.invokevirtual 130, 3) := by decide +kernel
theorem dL_act_682 : decode cL_act 682 = .ok (.iload 25, 2) := by decide +kernel
theorem dL_act_684 : decode cL_act 684 = .ok (.if_icmp .ne 7, 3) := by decide +kernel
theorem dL_act_687 : decode cL_act 687 = .ok (.iconst 1, 1) := by decide +kernel
theorem dL_act_688 : decode cL_act 688 = .ok (.goto 4, 3) := by decide +kernel
theorem dL_act_691 : decode cL_act 691 = .ok (.iconst 0, 1) := by decide +kernel
theorem dL_act_692 : decode cL_act 692 = .ok (.ireturn, 1) := by decide +kernel
theorem dL_act_693 : decode cL_act 693 = .ok (.aload_n 0, 1) := by decide +kernel
theorem dL_act_694 : decode cL_act 694 = .ok (.invokevirtual 115, 3) := by decide +kernel
theorem dL_act_697 : decode cL_act 697 = .ok (.istore 26, 2) := by decide +kernel
theorem dL_act_699 : decode cL_act 699 = .ok (.aload_n 1, 1) := by decide +kernel
theorem dL_act_700 : decode cL_act 700 = .ok (.invokestatic 84, 3) := by decide +kernel
theorem dL_act_703 : decode cL_act 703 = .ok (.bipush 46, 2) := by decide +kernel
theorem dL_act_705 : decode cL_act 705 = .ok (.irem, 1) := by decide +kernel
theorem dL_act_706 : decode cL_act 706 = .ok (.istore 27, 2) := by decide +kernel
theorem dL_act_708 : decode cL_act 708 = .ok (.aload_n 0, 1) := by decide +kernel
theorem dL_act_709 : decode cL_act 709 = .ok (.iload 27, 2) := by decide +kernel
theorem dL_act_711 : decode cL_act 711 = .ok (.invokestatic 265, 3) := by decide +kernel
theorem dL_act_714 : decode cL_act 714 = .ok (.iload 26, 2) := by decide +kernel
theorem dL_act_716 : decode cL_act 716 = .ok (.if_icmp .ne 16, 3) := by decide +kernel
theorem dL_act_719 : decode cL_act 719 = .ok (.aload_n 0, 1) := by decide +kernel
theorem dL_act_720 : decode cL_act 720 = .ok (.invokevirtual 115, 3) := by decide +kernel
theorem dL_act_723 : decode cL_act 723 = .ok (.iload 27, 2) := by decide +kernel
theorem dL_act_725 : decode cL_act 725 = .ok (.if_icmp .ne 7, 3) := by decide +kernel
theorem dL_act_728 : decode cL_act 728 = .ok (.iconst 1, 1) := by decide +kernel
theorem dL_act_729 : decode cL_act 729 = .ok (.goto 4, 3) := by decide +kernel
theorem dL_act_732 : decode cL_act 732 = .ok (.iconst 0, 1) := by decide +kernel
theorem dL_act_733 : decode cL_act 733 = .ok (.ireturn, 1) := by decide +kernel
theorem dL_law_0 : decode cL_law 0 = .ok (.new 19, 3) := by decide +kernel
theorem dL_law_3 : decode cL_law 3 = .ok (.dup, 1) := by decide +kernel
theorem dL_law_4 : decode cL_law 4 = .ok (.invokespecial 268, 3) := by decide +kernel
theorem dL_law_7 : decode cL_law 7 = .ok (.astore_n 1, 1) := by decide +kernel
theorem dL_law_8 : decode cL_law 8 = .ok (.iconst 1, 1) := by decide +kernel
theorem dL_law_9 : decode cL_law 9 = .ok (.newarray .int, 2) := by decide +kernel
theorem dL_law_11 : decode cL_law 11 = .ok (.dup, 1) := by decide +kernel
theorem dL_law_12 : decode cL_law 12 = .ok (.iconst 0, 1) := by decide +kernel
theorem dL_law_13 : decode cL_law 13 = .ok (.aload_n 0, 1) := by decide +kernel
theorem dL_law_14 : decode cL_law 14 = .ok (.arraylength, 1) := by decide +kernel
theorem dL_law_15 : decode cL_law 15 = .ok (.ifCond .ne 9, 3) := by decide +kernel
theorem dL_law_18 : decode cL_law 18 = .ok (.sipush 1813, 3) := by decide +kernel
theorem dL_law_21 : decode cL_law 21 = .ok (.goto 6, 3) := by decide +kernel
theorem dL_law_24 : decode cL_law 24 = .ok (.aload_n 0, 1) := by decide +kernel
theorem dL_law_25 : decode cL_law 25 = .ok (.iconst 0, 1) := by decide +kernel
theorem dL_law_26 : decode cL_law 26 = .ok (.iaload, 1) := by decide +kernel
theorem dL_law_27 : decode cL_law 27 = .ok (.iastore, 1) := by decide +kernel
theorem dL_law_28 : decode cL_law 28 = .ok (.astore_n 2, 1) := by decide +kernel
theorem dL_law_29 : decode cL_law 29 = .ok (.iconst 1, 1) := by decide +kernel
theorem dL_law_30 : decode cL_law 30 = .ok (.istore_n 3, 1) := by decide +kernel
theorem dL_law_31 : decode cL_law 31 = .ok (.iconst 0, 1) := by decide +kernel
theorem dL_law_32 : decode cL_law 32 = .ok (.istore 4, 2) := by decide +kernel
theorem dL_law_34 : decode cL_law 34 = .ok (.iload 4, 2) := by decide +kernel
theorem dL_law_36 : decode cL_law 36 = .ok (.iconst 2, 1) := by decide +kernel
theorem dL_law_37 : decode cL_law 37 = .ok (.if_icmp .ge 351, 3) := by decide +kernel
theorem dL_law_40 : decode cL_law 40 = .ok (.iload_n 3, 1) := by decide +kernel
theorem dL_law_41 : decode cL_law 41 = .ok (.ifCond .eq 347, 3) := by decide +kernel
theorem dL_law_44 : decode cL_law 44 = .ok (.aload_n 2, 1) := by decide +kernel
theorem dL_law_45 : decode cL_law 45 = .ok (.iconst 0, 1) := by decide +kernel
theorem dL_law_46 : decode cL_law 46 = .ok (.dup2, 1) := by decide +kernel
theorem dL_law_47 : decode cL_law 47 = .ok (.iaload, 1) := by decide +kernel
theorem dL_law_48 : decode cL_law 48 = .ok (.iload 4, 2) := by decide +kernel
theorem dL_law_50 : decode cL_law 50 = .ok (.aload_n 0, 1) := by decide +kernel
theorem dL_law_51 : decode cL_law 51 = .ok (.arraylength, 1) := by decide +kernel
theorem dL_law_52 : decode cL_law 52 = .ok (.if_icmp .ge 10, 3) := by decide +kernel
theorem dL_law_55 : decode cL_law 55 = .ok (.aload_n 0, 1) := by decide +kernel
theorem dL_law_56 : decode cL_law 56 = .ok (.iload 4, 2) := by decide +kernel
theorem dL_law_58 : decode cL_law 58 = .ok (.iaload, 1) := by decide +kernel
theorem dL_law_59 : decode cL_law 59 = .ok (.goto 4, 3) := by decide +kernel
theorem dL_law_62 : decode cL_law 62 = .ok (.iconst 0, 1) := by decide +kernel
theorem dL_law_63 : decode cL_law 63 = .ok (.ixor, 1) := by decide +kernel
theorem dL_law_64 : decode cL_law 64 = .ok (.iastore, 1) := by decide +kernel
theorem dL_law_65 : decode cL_law 65 = .ok (.aload_n 2, 1) := by decide +kernel
theorem dL_law_66 : decode cL_law 66 = .ok (.invokestatic 84, 3) := by decide +kernel
theorem dL_law_69 : decode cL_law 69 = .ok (.bipush 9, 2) := by decide +kernel
theorem dL_law_71 : decode cL_law 71 = .ok (.irem, 1) := by decide +kernel
theorem dL_law_72 : decode cL_law 72 = .ok (.istore 5, 2) := by decide +kernel
theorem dL_law_74 : decode cL_law 74 = .ok (.aload_n 1, 1) := by decide +kernel
theorem dL_law_75 : decode cL_law 75 = .ok (.iload 5, 2) := by decide +kernel
theorem dL_law_77 : decode cL_law 77 = .ok (.aload_n 2, 1) := by decide +kernel
theorem dL_law_78 : decode cL_law 78 = .ok (.invokestatic 269, 3) := by decide +kernel
theorem dL_law_81 : decode cL_law 81 = .ok (.invokestatic 273, 3) := by decide +kernel
theorem dL_law_84 : decode cL_law 84 = .ok (.iload 5, 2) := by decide +kernel
theorem dL_law_86 : decode cL_law 86 = .ok (.if_icmp .ne 20, 3) := by decide +kernel
theorem dL_law_89 : decode cL_law 89 = .ok (.aload_n 1, 1) := by decide +kernel
theorem dL_law_90 : decode cL_law 90 = .ok (.iload 4, 2) := by decide +kernel
theorem dL_law_92 : decode cL_law 92 = .ok (.invokevirtual 275, 3) := by decide +kernel
theorem dL_law_95 : decode cL_law 95 = .ok (.aload_n 1, 1) := by decide +kernel
theorem dL_law_96 : decode cL_law 96 = .ok (.invokevirtual 109, 3) := by decide +kernel
theorem dL_law_99 : decode cL_law 99 = .ok (.if_icmp .ne 7, 3) := by decide +kernel
theorem dL_law_102 : decode cL_law 102 = .ok (.iconst 1, 1) := by decide +kernel
theorem dL_law_103 : decode cL_law 103 = .ok (.goto 4, 3) := by decide +kernel
theorem dL_law_106 : decode cL_law 106 = .ok (.iconst 0, 1) := by decide +kernel
theorem dL_law_107 : decode cL_law 107 = .ok (.istore_n 3, 1) := by decide +kernel
theorem dL_law_108 : decode cL_law 108 = .ok (.aload_n 1, 1) := by decide +kernel
theorem dL_law_109 : decode cL_law 109 = .ok (.invokestatic 278, 3) := by decide +kernel
theorem dL_law_112 : decode cL_law 112 = .ok (.lstore 6, 2) := by decide +kernel
theorem dL_law_114 : decode cL_law 114 = .ok (.aload_n 1, 1) := by decide +kernel
theorem dL_law_115 : decode cL_law 115 = .ok (.invokevirtual 109, 3) := by decide +kernel
theorem dL_law_118 : decode cL_law 118 = .ok (.istore 8, 2) := by decide +kernel
theorem dL_law_120 : decode cL_law 120 = .ok (.iconst 0, 1) := by decide +kernel
theorem dL_law_121 : decode cL_law 121 = .ok (.istore 9, 2) := by decide +kernel
theorem dL_law_123 : decode cL_law 123 = .ok (.iload 9, 2) := by decide +kernel
theorem dL_law_125 : decode cL_law 125 = .ok (.bipush 8, 2) := by decide +kernel
theorem dL_law_127 : decode cL_law 127 = .ok (.if_icmp .ge 215, 3) := by decide +kernel
theorem dL_law_130 : decode cL_law 130 = .ok (.iload_n 3, 1) := by decide +kernel
theorem dL_law_131 : decode cL_law 131 = .ok (.ifCond .eq 211, 3) := by decide +kernel
theorem dL_law_134 : decode cL_law 134 = .ok (.aload_n 1, 1) := by decide +kernel
theorem dL_law_135 : decode cL_law 135 = .ok (.invokestatic 278, 3) := by decide +kernel
theorem dL_law_138 : decode cL_law 138 = .ok (.lstore 10, 2) := by decide +kernel
theorem dL_law_140 : decode cL_law 140 = .ok (.aload_n 1, 1) := by decide +kernel
theorem dL_law_141 : decode cL_law 141 = .ok (.iconst 0, 1) := by decide +kernel
theorem dL_law_142 : decode cL_law 142 = .ok (.invokestatic 244, 3) := by decide +kernel
theorem dL_law_145 : decode cL_law 145 = .ok (.bipush (-2), 2) := by decide +kernel
theorem dL_law_147 : decode cL_law 147 = .ok (.if_icmp .ne 96, 3) := by decide +kernel
theorem dL_law_150 : decode cL_law 150 = .ok (.aload_n 1, 1) := by decide +kernel
theorem dL_law_151 : decode cL_law 151 = .ok (.iconst 5, 1) := by decide +kernel
theorem dL_law_152 : decode cL_law 152 = .ok (.iconst 0, 1) := by decide +kernel
theorem dL_law_153 : decode cL_law 153 = .ok (.iconst 0, 1) := by decide +kernel
theorem dL_law_154 : decode cL_law 154 = .ok (.invokestatic 249, 3) := by decide +kernel
theorem dL_law_157 : decode cL_law 157 = .ok (.bipush (-2), 2) := by decide +kernel
theorem dL_law_159 : decode cL_law 159 = .ok (.if_icmp .ne 84, 3) := by decide +kernel
theorem dL_law_162 : decode cL_law 162 = .ok (.aload_n 1, 1) := by decide +kernel
theorem dL_law_163 : decode cL_law 163 = .ok (.bipush 12, 2) := by decide +kernel
theorem dL_law_165 : decode cL_law 165 = .ok (.invokestatic 256, 3) := by decide +kernel
theorem dL_law_168 : decode cL_law 168 = .ok (.sipush 9999, 3) := by decide +kernel
theorem dL_law_171 : decode cL_law 171 = .ok (.if_icmp .ne 72, 3) := by decide +kernel
theorem dL_law_174 : decode cL_law 174 = .ok (.aload_n 1, 1) := by decide +kernel
theorem dL_law_175 : decode cL_law 175 = .ok (.iconst (-1), 1) := by decide +kernel
theorem dL_law_176 : decode cL_law 176 = .ok (.iconst 0, 1) := by decide +kernel
theorem dL_law_177 : decode cL_law 177 = .ok (.invokestatic 259, 3) := by decide +kernel
theorem dL_law_180 : decode cL_law 180 = .ok (.bipush (-5), 2) := by decide +kernel
theorem dL_law_182 : decode cL_law 182 = .ok (.if_icmp .ne 61, 3) := by decide +kernel
theorem dL_law_185 : decode cL_law 185 = .ok (.aload_n 1, 1) := by decide +kernel
theorem dL_law_186 : decode cL_law 186 = .ok (.bipush 12, 2) := by decide +kernel
theorem dL_law_188 : decode cL_law 188 = .ok (.iconst 1, 1) := by decide +kernel
theorem dL_law_189 : decode cL_law 189 = .ok (.invokestatic 237, 3) := by decide +kernel
theorem dL_law_192 : decode cL_law 192 = .ok (.ldc 60, 2) := by decide +kernel
theorem dL_law_194 : decode cL_law 194 = .ok (.if_icmp .ne 49, 3) := by decide +kernel
theorem dL_law_197 : decode cL_law 197 = .ok (.aload_n 1, 1) := by decide +kernel
theorem dL_law_198 : decode cL_law 198 = .ok (.iconst 5, 1) := by decide +kernel
theorem dL_law_199 : decode cL_law 199 = .ok (.iconst 0, 1) := by decide +kernel
theorem dL_law_200 : decode cL_law 200 = .ok (.invokestatic 262, 3) := by decide +kernel
theorem dL_law_203 : decode cL_law 203 = .ok (.bipush (-5), 2) := by decide +kernel
theorem dL_law_205 : decode cL_law 205 = .ok (.if_icmp .ne 38, 3) := by decide +kernel
theorem dL_law_208 : decode cL_law 208 = .ok (.aload_n 1, 1) := by decide +kernel
theorem dL_law_209 : decode cL_law 209 = .ok (.bipush 46, 2) := by decide +kernel
theorem dL_law_211 : decode cL_law 211 = .ok (.invokestatic 265, 3) := by decide +kernel
theorem dL_law_214 : decode cL_law 214 = .ok (.bipush (-2), 2) := by decide +kernel
theorem dL_law_216 : decode cL_law 216 = .ok (.if_icmp .ne 27, 3) := by decide +kernel
theorem dL_law_219 : decode cL_law 219 = .ok (.aload_n 1, 1) := by decide +kernel
theorem dL_law_220 : decode cL_law 220 = .ok (.iconst (-1), 1) := by decide +kernel
theorem dL_law_221 : decode cL_law 221 = .ok (.invokestatic 253, 3) := by decide +kernel
theorem dL_law_224 : decode cL_law 224 = .ok (.bipush (-2), 2) := by decide +kernel
theorem dL_law_226 : decode cL_law 226 = .ok (.if_icmp .ne 17, 3) := by decide +kernel
theorem dL_law_229 : decode cL_law 229 = .ok (.aload_n 1, 1) := by decide +kernel
theorem dL_law_230 : decode cL_law 230 = .ok (.invokestatic 278, 3) := by decide +kernel
theorem dL_law_233 : decode cL_law 233 = .ok (.lload 10, 2) := by decide +kernel
theorem dL_law_235 : decode cL_law 235 = .ok (.lcmp, 1) := by decide +kernel
theorem dL_law_236 : decode cL_law 236 = .ok (.ifCond .ne 7, 3) := by decide +kernel
theorem dL_law_239 : decode cL_law 239 = .ok (.iconst 1, 1) := by decide +kernel
theorem dL_law_240 : decode cL_law 240 = .ok (.goto 4, 3) := by decide +kernel
theorem dL_law_243 : decode cL_law 243 = .ok (.iconst 0, 1) := by decide +kernel
theorem dL_law_244 : decode cL_law 244 = .ok (.istore_n 3, 1) := by decide +kernel
theorem dL_law_245 : decode cL_law 245 = .ok (.iload_n 3, 1) := by decide +kernel
theorem dL_law_246 : decode cL_law 246 = .ok (.ifCond .eq 52, 3) := by decide +kernel
theorem dL_law_249 : decode cL_law 249 = .ok (.aload_n 1, 1) := by decide +kernel
theorem dL_law_250 : decode cL_law 250 = .ok (.aload_n 2, 1) := by decide +kernel
theorem dL_law_251 : decode cL_law 251 = .ok (.invokestatic 282, 3) := by decide +kernel
theorem dL_law_254 : decode cL_law 254 = .ok (.ifCond .eq 44, 3) := by decide +kernel
theorem dL_law_257 : decode cL_law 257 = .ok (.aload_n 1, 1) := by decide +kernel
theorem dL_law_258 : decode cL_law 258 = .ok (.invokestatic 286, 3) := by decide +kernel
theorem dL_law_261 : decode cL_law 261 = .ok (.ifCond .eq 37, 3) := by decide +kernel
theorem dL_law_264 : decode cL_law 264 = .ok (.aload_n 1, 1) := by decide +kernel
theorem dL_law_265 : decode cL_law 265 = .ok (.invokestatic 290, 3) := by decide +kernel
theorem dL_law_268 : decode cL_law 268 = .ok (.ifCond .eq 30, 3) := by decide +kernel
theorem dL_law_271 : decode cL_law 271 = .ok (.aload_n 1, 1) := by decide +kernel
theorem dL_law_272 : decode cL_law 272 = .ok (.invokevirtual 133, 3) := by decide +kernel
theorem dL_law_275 : decode cL_law 275 = .ok (.ifCond .eq 19, 3) := by decide +kernel
theorem dL_law_278 : decode cL_law 278 = .ok (.aload_n 1, 1) := by decide +kernel
theorem dL_law_279 : decode cL_law 279 = .ok (.aload_n 2, 1) := by decide +kernel
theorem dL_law_280 : decode cL_law 280 = .ok (.invokestatic 84, 3) := by decide +kernel
theorem dL_law_283 : decode cL_law 283 = .ok (.aload_n 1, 1) := by decide +kernel
theorem dL_law_284 : decode cL_law 284 = .ok (.invokevirtual 133, 3) := by decide +kernel
theorem dL_law_287 : decode cL_law 287 = .ok (.irem, 1) := by decide +kernel
theorem dL_law_288 : decode cL_law 288 = .ok (.invokestatic 293, 3) := by decide +kernel
theorem dL_law_291 : decode cL_law 291 = .ok (.ifCond .eq 7, 3) := by decide +kernel
theorem dL_law_294 : decode cL_law 294 = .ok (.iconst 1, 1) := by decide +kernel
theorem dL_law_295 : decode cL_law 295 = .ok (.goto 4, 3) := by decide +kernel
theorem dL_law_298 : decode cL_law 298 = .ok (.iconst 0, 1) := by decide +kernel
theorem dL_law_299 : decode cL_law 299 = .ok (.istore_n 3, 1) := by decide +kernel
theorem dL_law_300 : decode cL_law 300 = .ok (.iload_n 3, 1) := by decide +kernel
theorem dL_law_301 : decode cL_law 301 = .ok (.ifCond .eq 35, 3) := by decide +kernel
theorem dL_law_304 : decode cL_law 304 = .ok (.aload_n 2, 1) := by decide +kernel
theorem dL_law_305 : decode cL_law 305 = .ok (.invokestatic 84, 3) := by decide +kernel
theorem dL_law_308 : decode cL_law 308 = .ok (.iconst 4, 1) := by decide +kernel
theorem dL_law_309 : decode cL_law 309 = .ok (.irem, 1) := by decide +kernel
theorem dL_law_310 : decode cL_law 310 = .ok (.ifCond .ne 26, 3) := by decide +kernel
theorem dL_law_313 : decode cL_law 313 = .ok (.aload_n 1, 1) := by decide +kernel
theorem dL_law_314 : decode cL_law 314 = .ok (.invokevirtual 297, 3) := by decide +kernel
theorem dL_law_317 : decode cL_law 317 = .ok (.istore 12, 2) := by decide +kernel
theorem dL_law_319 : decode cL_law 319 = .ok (.aload_n 1, 1) := by decide +kernel
theorem dL_law_320 : decode cL_law 320 = .ok (.invokestatic 240, 3) := by decide +kernel
theorem dL_law_323 : decode cL_law 323 = .ok (.iload 12, 2) := by decide +kernel
theorem dL_law_325 : decode cL_law 325 = .ok (.iconst 1, 1) := by decide +kernel
theorem dL_law_326 : decode cL_law 326 = .ok (.isub, 1) := by decide +kernel
theorem dL_law_327 : decode cL_law 327 = .ok (.if_icmp .ne 7, 3) := by decide +kernel
theorem dL_law_330 : decode cL_law 330 = .ok (.iconst 1, 1) := by decide +kernel
theorem dL_law_331 : decode cL_law 331 = .ok (.goto 4, 3) := by decide +kernel
theorem dL_law_334 : decode cL_law 334 = .ok (.iconst 0, 1) := by decide +kernel
theorem dL_law_335 : decode cL_law 335 = .ok (.istore_n 3, 1) := by decide +kernel
theorem dL_law_336 : decode cL_law 336 = .ok (.iinc 9 1, 3) := by decide +kernel
theorem dL_law_339 : decode cL_law 339 = .ok (.goto (-216), 3) := by decide +kernel
theorem dL_law_342 : decode cL_law 342 = .ok (.iload_n 3, 1) := by decide +kernel
theorem dL_law_343 : decode cL_law 343 = .ok (.ifCond .eq 39, 3) := by decide +kernel
theorem dL_law_346 : decode cL_law 346 = .ok (.aload_n 2, 1) := by decide +kernel
theorem dL_law_347 : decode cL_law 347 = .ok (.invokestatic 84, 3) := by decide +kernel
theorem dL_law_350 : decode cL_law 350 = .ok (.iconst 2, 1) := by decide +kernel
theorem dL_law_351 : decode cL_law 351 = .ok (.irem, 1) := by decide +kernel
theorem dL_law_352 : decode cL_law 352 = .ok (.ifCond .ne 30, 3) := by decide +kernel
theorem dL_law_355 : decode cL_law 355 = .ok (.aload_n 1, 1) := by decide +kernel
theorem dL_law_356 : decode cL_law 356 = .ok (.iload 4, 2) := by decide +kernel
theorem dL_law_358 : decode cL_law 358 = .ok (.invokevirtual 300, 3) := by decide +kernel
theorem dL_law_361 : decode cL_law 361 = .ok (.iload 8, 2) := by decide +kernel
theorem dL_law_363 : decode cL_law 363 = .ok (.if_icmp .ne 17, 3) := by decide +kernel
theorem dL_law_366 : decode cL_law 366 = .ok (.aload_n 1, 1) := by decide +kernel
theorem dL_law_367 : decode cL_law 367 = .ok (.invokestatic 278, 3) := by decide +kernel
theorem dL_law_370 : decode cL_law 370 = .ok (.lload 6, 2) := by decide +kernel
theorem dL_law_372 : decode cL_law 372 = .ok (.lcmp, 1) := by decide +kernel
theorem dL_law_373 : decode cL_law 373 = .ok (.ifCond .ne 7, 3) := by decide +kernel
theorem dL_law_376 : decode cL_law 376 = .ok (.iconst 1, 1) := by decide +kernel
theorem dL_law_377 : decode cL_law 377 = .ok (.goto 4, 3) := by decide +kernel
theorem dL_law_380 : decode cL_law 380 = .ok (.iconst 0, 1) := by decide +kernel
theorem dL_law_381 : decode cL_law 381 = .ok (.istore_n 3, 1) := by decide +kernel
theorem dL_law_382 : decode cL_law 382 = .ok (.iinc 4 1, 3) := by decide +kernel
theorem dL_law_385 : decode cL_law 385 = .ok (.goto (-351), 3) := by decide +kernel
theorem dL_law_388 : decode cL_law 388 = .ok (.iload_n 3, 1) := by decide +kernel
theorem dL_law_389 : decode cL_law 389 = .ok (.ireturn, 1) := by decide +kernel
