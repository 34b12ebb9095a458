section GM1
set_option maxRecDepth 100000 in
set_option maxHeartbeats 4000000 in
theorem c_X8_thrown {Γ : Gm} {mo n : Nat} {F : Hp} {I : Nat → Int32} {A : Nat → Nat → Int32} {f : Nat → Int32}   : Ct Γ 1 MX8_thrown 0 0 [.ref mo] (MW Γ mo F I A f) n (Rt (some (.int (I 2))) (MW Γ mo F I A f) n) X0 := by
  refine Ct.of (by decide +kernel) rfl (Nat.le_of_ble_eq_true rfl) ?_
  refine G.sub (lv2 := [(0, _)]) [0] rfl ?_
  refine m_get 0 rfl f_X8_63 rfl dX8_thrown_0 dX8_thrown_1 ?_
  exact g_iret ⟨rfl, rfl, rfl⟩ rfl rfl dX8_thrown_4
set_option maxRecDepth 100000 in
set_option maxHeartbeats 4000000 in
theorem c_X8_refuse {Γ : Gm} {mo n : Nat} {F : Hp} {I : Nat → Int32} {A : Nat → Nat → Int32} {f : Nat → Int32} {w : Int32}  : Ct Γ 1 MX8_refuse 0 0 [.ref mo, .int w] (MW Γ mo F I A f) n (Rt (some (.int (nI 0))) (MW Γ mo F (upd I 2 w) A f) n) X0 := by
  refine Ct.of (by decide +kernel) rfl (Nat.le_of_ble_eq_true rfl) ?_
  refine G.sub (lv2 := [(0, _), (1, _)]) [0, 1] rfl ?_
  refine g_aload_n 0 rfl dX8_refuse_0 ?_
  refine g_iload_n 1 rfl dX8_refuse_1 ?_
  refine m_put f_X8_63 w_X8_2 (by decide) rfl dX8_refuse_2 ?_
  refine gn_ic 0 (by decide) dX8_refuse_5 ?_
  exact g_iret ⟨rfl, rfl, rfl⟩ rfl rfl dX8_refuse_6
set_option maxRecDepth 100000 in
set_option maxHeartbeats 4000000 in
theorem c_X8_told {Γ : Gm} {mo n : Nat} {F : Hp} {I : Nat → Int32} {A : Nat → Nat → Int32} {f : Nat → Int32} {w : Int32}  : Ct Γ 1 MX8_told 0 0 [.ref mo, .int w] (MW Γ mo F I A f) n (Rt (some (.int (w))) (MW Γ mo F (upd I 2 (nI 0)) A f) n) X0 := by
  refine Ct.of (by decide +kernel) rfl (Nat.le_of_ble_eq_true rfl) ?_
  refine G.sub (lv2 := [(0, _), (1, _)]) [0, 1] rfl ?_
  refine g_aload_n 0 rfl dX8_told_0 ?_
  refine gn_ic 0 (by decide) dX8_told_1 ?_
  refine m_put f_X8_63 w_X8_2 (by decide) rfl dX8_told_2 ?_
  refine g_iload_n 1 rfl dX8_told_5 ?_
  exact g_iret ⟨rfl, rfl, rfl⟩ rfl rfl dX8_told_6
set_option maxRecDepth 100000 in
set_option maxHeartbeats 4000000 in
theorem c_X8_says {Γ : Gm} {mo n : Nat} {F : Hp} {I : Nat → Int32} {A : Nat → Nat → Int32} {f : Nat → Int32} {p : Prop} [Decidable p]  : Ct Γ 1 MX8_says 0 0 [.ref mo, .int (bi p)] (MW Γ mo F I A f) n (Rt (some (.int (bi p))) (MW Γ mo F (upd I 2 (nI 0)) A f) n) X0 := by
  refine Ct.of (by decide +kernel) rfl (Nat.le_of_ble_eq_true rfl) ?_
  refine G.sub (lv2 := [(0, _), (1, _)]) [0, 1] rfl ?_
  refine g_aload_n 0 rfl dX8_says_0 ?_
  refine gn_ic 0 (by decide) dX8_says_1 ?_
  refine m_put f_X8_63 w_X8_2 (by decide) rfl dX8_says_2 ?_
  refine g_iload_n 1 rfl dX8_says_5 ?_
  exact g_iret ⟨rfl, rfl, rfl⟩ bi_nar rfl dX8_says_6
set_option maxRecDepth 100000 in
set_option maxHeartbeats 4000000 in
theorem c_X8_in {Γ : Gm} {n : Nat} {E : Hp} {v a b : Int32}  : Ct Γ 1 MX8_in 0 0 [.int v, .int a, .int b] (E) n (Rt (some (.int (bi (a ≤ v ∧ v ≤ b)))) (E) n) X0 := by
  refine Ct.of (by decide +kernel) rfl (Nat.le_of_ble_eq_true rfl) ?_
  refine G.sub (lv2 := [(0, _), (1, _), (2, _)]) [0, 1, 2] rfl ?_
  refine g_iload_n 0 rfl dX8_in_0 ?_
  refine g_iload_n 1 rfl dX8_in_1 ?_
  refine g_icmp_lt (tgt := 14) (by decide) dX8_in_2 (fun h1 => ?_) (fun h1 => ?_)
  · -- t 14
    refine gn_ic 0 (by decide) dX8_in_14 ?_
    exact g_iret ⟨by unfold bi; split <;> first | rfl | grind | simp_all, rfl, rfl⟩ rfl rfl dX8_in_15
  · -- f 5
    refine g_iload_n 0 rfl dX8_in_5 ?_
    refine g_iload_n 2 rfl dX8_in_6 ?_
    refine g_icmp_gt (tgt := 14) (by decide) dX8_in_7 (fun h2 => ?_) (fun h2 => ?_)
    · -- t 14
      refine gn_ic 0 (by decide) dX8_in_14 ?_
      exact g_iret ⟨by unfold bi; split <;> first | rfl | grind | simp_all, rfl, rfl⟩ rfl rfl dX8_in_15
    · -- f 10
      refine gn_ic 1 (by decide) dX8_in_10 ?_
      refine g_goto (tgt := 15) (by decide) dX8_in_11 ?_
      exact g_iret ⟨by unfold bi; split <;> first | rfl | grind | simp_all, rfl, rfl⟩ rfl rfl dX8_in_15
set_option maxRecDepth 100000 in
set_option maxHeartbeats 4000000 in
theorem c_X8_without {Γ : Gm} {n : Nat} {E : Hp} {v : Int32}  : Ct Γ 1 MX8_without 0 0 [.int v] (E) n (Rt (some (.int (iabs v))) (E) n) X0 := by
  refine Ct.of (by decide +kernel) rfl (Nat.le_of_ble_eq_true rfl) ?_
  refine G.sub (lv2 := [(0, _)]) [0] rfl ?_
  refine g_iload_n 0 rfl dX8_without_0 ?_
  refine g_if_ge (tgt := 9) (by decide) dX8_without_1 (fun cc1 => ?_) (fun cc1 => ?_)
  · -- t 9
    refine g_iload_n 0 rfl dX8_without_9 ?_
    exact g_iret ⟨by unfold iabs; split <;> first | rfl | grind | simp_all, rfl, rfl⟩ rfl rfl dX8_without_10
  · -- f 4
    refine g_iload_n 0 rfl dX8_without_4 ?_
    refine g_ineg dX8_without_5 ?_
    refine g_goto (tgt := 10) (by decide) dX8_without_6 ?_
    exact g_iret ⟨by unfold iabs; split <;> first | rfl | grind | simp_all, rfl, rfl⟩ rfl rfl dX8_without_10
set_option maxRecDepth 100000 in
set_option maxHeartbeats 4000000 in
theorem c_X8_l {Γ : Gm} {n : Nat} {E : Hp} {k : Nat}  : Ct Γ 1 MX8_l 0 0 [.int (nI k)] (E) n (Rt (some (.int (nI (13 + 16 * k)))) (E) n) X0 := by
  refine Ct.of (by decide +kernel) rfl (Nat.le_of_ble_eq_true rfl) ?_
  refine G.sub (lv2 := [(0, _)]) [0] rfl ?_
  refine gn_bp 13 (by decide) dX8_l_0 ?_
  refine gn_bp 16 (by decide) dX8_l_2 ?_
  refine g_iload_n 0 rfl dX8_l_4 ?_
  refine gn_imul dX8_l_5 ?_
  refine gn_iadd dX8_l_6 ?_
  exact g_iret ⟨rfl, rfl, rfl⟩ rfl rfl dX8_l_7
set_option maxRecDepth 100000 in
set_option maxHeartbeats 4000000 in
theorem c_X8_isLodger {Γ : Gm} {mo n : Nat} {F : Hp} {I : Nat → Int32} {A : Nat → Nat → Int32} {f : Nat → Int32} {v : Int32} {c : Nat} (hc : f 7 = nI c) : Ct Γ 2 MX8_isLodger 0 0 [.ref mo, .int v] (MW Γ mo F I A f) n (Rt (some (.int (bi (nI 0 ≤ v ∧ v ≤ nI c - nI 1)))) (MW Γ mo F I A f) n) X0 := by
  refine Ct.of (by decide +kernel) rfl (Nat.le_of_ble_eq_true rfl) ?_
  refine G.sub (lv2 := [(0, _), (1, _)]) [0, 1] rfl ?_
  refine g_iload_n 1 rfl dX8_isLodger_0 ?_
  refine gn_ic 0 (by decide) dX8_isLodger_1 ?_
  refine m_get 0 rfl f_X8_19 rfl dX8_isLodger_2 dX8_isLodger_3 ?_
  refine gn_bp 7 (by decide) dX8_isLodger_6 ?_
  refine gn_iald MW_3 (by omega) (by decide) dX8_isLodger_8 ?_
  refine g_top (y := nI c) hc ?_
  refine gn_ic 1 (by decide) dX8_isLodger_9 ?_
  refine g_isub dX8_isLodger_10 ?_
  refine gv_S (c_X8_in ) l_X8_66 rfl (Nat.le_of_ble_eq_true rfl) (Nat.le_of_ble_eq_true rfl) rfl dX8_isLodger_11 ?_
  exact g_iret ⟨rfl, rfl, rfl⟩ bi_nar rfl dX8_isLodger_14
set_option maxRecDepth 100000 in
set_option maxHeartbeats 4000000 in
theorem c_X8_isFloor {Γ : Gm} {n : Nat} {E : Hp} {v : Int32}  : Ct Γ 2 MX8_isFloor 0 0 [.int v] (E) n (Rt (some (.int (bi (nI 0 ≤ v ∧ v ≤ nI 4)))) (E) n) X0 := by
  refine Ct.of (by decide +kernel) rfl (Nat.le_of_ble_eq_true rfl) ?_
  refine G.sub (lv2 := [(0, _)]) [0] rfl ?_
  refine g_iload_n 0 rfl dX8_isFloor_0 ?_
  refine gn_ic 0 (by decide) dX8_isFloor_1 ?_
  refine gn_ic 4 (by decide) dX8_isFloor_2 ?_
  refine gv_S (c_X8_in ) l_X8_66 rfl (Nat.le_of_ble_eq_true rfl) (Nat.le_of_ble_eq_true rfl) rfl dX8_isFloor_3 ?_
  exact g_iret ⟨rfl, rfl, rfl⟩ bi_nar rfl dX8_isFloor_6
set_option maxRecDepth 100000 in
set_option maxHeartbeats 4000000 in
theorem c_X8_isVowel {Γ : Gm} {n : Nat} {E : Hp} {v : Int32}  : Ct Γ 2 MX8_isVowel 0 0 [.int v] (E) n (Rt (some (.int (bi (nI 0 ≤ v ∧ v ≤ nI 4)))) (E) n) X0 := by
  refine Ct.of (by decide +kernel) rfl (Nat.le_of_ble_eq_true rfl) ?_
  refine G.sub (lv2 := [(0, _)]) [0] rfl ?_
  refine g_iload_n 0 rfl dX8_isVowel_0 ?_
  refine gn_ic 0 (by decide) dX8_isVowel_1 ?_
  refine gn_ic 4 (by decide) dX8_isVowel_2 ?_
  refine gv_S (c_X8_in ) l_X8_66 rfl (Nat.le_of_ble_eq_true rfl) (Nat.le_of_ble_eq_true rfl) rfl dX8_isVowel_3 ?_
  exact g_iret ⟨rfl, rfl, rfl⟩ bi_nar rfl dX8_isVowel_6
set_option maxRecDepth 100000 in
set_option maxHeartbeats 4000000 in
theorem c_X8_at {Γ : Gm} {mo n : Nat} {F : Hp} {I : Nat → Int32} {A : Nat → Nat → Int32} {f : Nat → Int32} {k v : Nat} (hk : k < 12) (hv : v < 5) : Ct Γ 2 MX8_at 0 0 [.ref mo, .int (nI k), .int (nI v)] (MW Γ mo F I A f) n (Rt (some (.int (f (13 + 16 * k + 5 + v)))) (MW Γ mo F I A f) n) X0 := by
  refine Ct.of (by decide +kernel) rfl (Nat.le_of_ble_eq_true rfl) ?_
  refine G.sub (lv2 := [(0, _), (1, _), (2, _)]) [0, 1, 2] rfl ?_
  refine m_get 0 rfl f_X8_19 rfl dX8_at_0 dX8_at_1 ?_
  refine g_iload_n 1 rfl dX8_at_4 ?_
  refine gv_S (c_X8_l ) l_X8_56 rfl (Nat.le_of_ble_eq_true rfl) (Nat.le_of_ble_eq_true rfl) rfl dX8_at_5 ?_
  refine gn_ic 5 (by decide) dX8_at_8 ?_
  refine gn_iadd dX8_at_9 ?_
  refine g_iload_n 2 rfl dX8_at_10 ?_
  refine gn_iadd dX8_at_11 ?_
  refine gn_iald MW_3 (by omega) (by decide) dX8_at_12 ?_
  exact g_iret ⟨rfl, rfl, rfl⟩ rfl rfl dX8_at_13
set_option maxRecDepth 100000 in
set_option maxHeartbeats 4000000 in
theorem c_X8_livingOn {Γ : Gm} {mo n : Nat} {F : Hp} {I : Nat → Int32} {A : Nat → Nat → Int32} {f : Nat → Int32} {fl but : Int32} {c : Nat} (hc : f 7 = nI c) (hc12 : c ≤ 12) : Ct Γ 2 MX8_livingOn 0 0 [.ref mo, .int fl, .int but] (MW Γ mo F I A f) n (Rt (some (.int (nI (cntOn f fl but c)))) (MW Γ mo F I A f) n) X0 := by
  refine Ct.of (by decide +kernel) rfl (Nat.le_of_ble_eq_true rfl) ?_
  refine G.sub (lv2 := [(0, _), (1, _), (2, _)]) [0, 1, 2] rfl ?_
  refine gn_ic 0 (by decide) dX8_livingOn_0 ?_
  refine g_istore_n (lv2 := [(3, _), (0, _), (1, _), (2, _)]) (by decide) rfl dX8_livingOn_1 ?_
  refine gn_ic 0 (by decide) dX8_livingOn_2 ?_
  refine g_istore (lv2 := [(4, _), (3, _), (0, _), (1, _), (2, _)]) (by decide) rfl dX8_livingOn_3 ?_
  have L5 : ∀ (m5 i5 : Nat), i5 + m5 = c → G Γ 2 MX8_livingOn (Rt (some (.int (nI (cntOn f fl but c)))) (MW Γ mo F I A f) n) X0 5 [(0, .ref mo), (1, .int fl), (2, .int but), (3, .int (nI (cntOn f fl but i5))), (4, .int (nI i5))] [] (MW Γ mo F I A f) n 0 0 := by
    intro m5
    induction m5 with
    | zero =>
      intro i5 hi5
      refine g_iload 4 rfl dX8_livingOn_5 ?_
      refine m_get 0 rfl f_X8_19 rfl dX8_livingOn_7 dX8_livingOn_8 ?_
      refine gn_bp 7 (by decide) dX8_livingOn_11 ?_
      refine gn_iald MW_3 (by omega) (by decide) dX8_livingOn_13 ?_
      refine g_top (y := nI c) hc ?_
      refine gn_icmp_ge (by omega) (by omega) (tgt := 53) (by decide) dX8_livingOn_14 (fun cc1 => ?_) (fun cc1 => ?_)
      · -- t 53
        refine g_iload_n 3 rfl dX8_livingOn_53 ?_
        exact g_iret ⟨by rw [show i5 = c by omega], rfl, rfl⟩ rfl rfl dX8_livingOn_54
      · -- f 17
        exfalso; omega
    | succ m5 ih5 =>
      intro i5 hi5
      refine g_iload 4 rfl dX8_livingOn_5 ?_
      refine m_get 0 rfl f_X8_19 rfl dX8_livingOn_7 dX8_livingOn_8 ?_
      refine gn_bp 7 (by decide) dX8_livingOn_11 ?_
      refine gn_iald MW_3 (by omega) (by decide) dX8_livingOn_13 ?_
      refine g_top (y := nI c) hc ?_
      refine gn_icmp_ge (by omega) (by omega) (tgt := 53) (by decide) dX8_livingOn_14 (fun cc2 => ?_) (fun cc2 => ?_)
      · -- t 53
        exfalso; omega
      · -- f 17
        refine g_iload_n 3 rfl dX8_livingOn_17 ?_
        refine g_iload 4 rfl dX8_livingOn_18 ?_
        refine g_iload_n 2 rfl dX8_livingOn_20 ?_
        refine g_icmp_eq (tgt := 44) (by decide) dX8_livingOn_21 (fun cc3 => ?_) (fun cc3 => ?_)
        · -- t 44
          refine gn_ic 0 (by decide) dX8_livingOn_44 ?_
          refine gn_iadd0 dX8_livingOn_45 ?_
          refine g_istore_n (lv2 := [(3, _), (0, _), (1, _), (2, _), (4, _)]) (by decide) rfl dX8_livingOn_46 ?_
          refine gn_inc (lv2 := [(4, _), (3, _), (0, _), (1, _), (2, _)]) 4 rfl (by decide) rfl dX8_livingOn_47 ?_
          refine g_goto (tgt := 5) (by decide) dX8_livingOn_50 ?_
          refine G.sub [2, 3, 4, 1, 0] rfl ?_
          (have h := ih5 (i5 + 1) (by omega); first | (rw [show cntOn f fl but (i5 + 1) = cntOn f fl but i5 + 1 from by simp [cntOn, *]] at h; exact h) | (rw [show cntOn f fl but (i5 + 1) = cntOn f fl but i5 from by simp [cntOn, *]] at h; exact h))
        · -- f 24
          refine m_get 0 rfl f_X8_19 rfl dX8_livingOn_24 dX8_livingOn_25 ?_
          refine g_iload 4 rfl dX8_livingOn_28 ?_
          refine gv_S (c_X8_l ) l_X8_56 rfl (Nat.le_of_ble_eq_true rfl) (Nat.le_of_ble_eq_true rfl) rfl dX8_livingOn_30 ?_
          refine gn_ic 0 (by decide) dX8_livingOn_33 ?_
          refine gn_iadd0 dX8_livingOn_34 ?_
          refine gn_iald MW_3 (by omega) (by decide) dX8_livingOn_35 ?_
          refine g_iload_n 1 rfl dX8_livingOn_36 ?_
          refine g_icmp_ne (tgt := 44) (by decide) dX8_livingOn_37 (fun cc4 => ?_) (fun cc4 => ?_)
          · -- t 44
            refine gn_ic 0 (by decide) dX8_livingOn_44 ?_
            refine gn_iadd0 dX8_livingOn_45 ?_
            refine g_istore_n (lv2 := [(3, _), (0, _), (1, _), (2, _), (4, _)]) (by decide) rfl dX8_livingOn_46 ?_
            refine gn_inc (lv2 := [(4, _), (3, _), (0, _), (1, _), (2, _)]) 4 rfl (by decide) rfl dX8_livingOn_47 ?_
            refine g_goto (tgt := 5) (by decide) dX8_livingOn_50 ?_
            refine G.sub [2, 3, 4, 1, 0] rfl ?_
            (have h := ih5 (i5 + 1) (by omega); first | (rw [show cntOn f fl but (i5 + 1) = cntOn f fl but i5 + 1 from by simp [cntOn, *]] at h; exact h) | (rw [show cntOn f fl but (i5 + 1) = cntOn f fl but i5 from by simp [cntOn, *]] at h; exact h))
          · -- f 40
            refine gn_ic 1 (by decide) dX8_livingOn_40 ?_
            refine g_goto (tgt := 45) (by decide) dX8_livingOn_41 ?_
            refine gn_iadd dX8_livingOn_45 ?_
            refine g_istore_n (lv2 := [(3, _), (0, _), (1, _), (2, _), (4, _)]) (by decide) rfl dX8_livingOn_46 ?_
            refine gn_inc (lv2 := [(4, _), (3, _), (0, _), (1, _), (2, _)]) 4 rfl (by decide) rfl dX8_livingOn_47 ?_
            refine g_goto (tgt := 5) (by decide) dX8_livingOn_50 ?_
            refine G.sub [2, 3, 4, 1, 0] rfl ?_
            (have h := ih5 (i5 + 1) (by omega); first | (rw [show cntOn f fl but (i5 + 1) = cntOn f fl but i5 + 1 from by simp [cntOn, *]] at h; exact h) | (rw [show cntOn f fl but (i5 + 1) = cntOn f fl but i5 from by simp [cntOn, *]] at h; exact h))
  refine G.sub [2, 3, 4, 1, 0] rfl ?_
  exact L5 _ 0 (Nat.zero_add _)
set_option maxRecDepth 100000 in
set_option maxHeartbeats 4000000 in
theorem c_X8_rentAt {Γ : Gm} {mo n : Nat} {F : Hp} {I : Nat → Int32} {A : Nat → Nat → Int32} {f : Nat → Int32} {fl : Int32}  : Ct Γ 1 MX8_rentAt 0 0 [.ref mo, .int fl] (MW Γ mo F I A f) n (Rt (some (.int (f 0 + nI 5 * fl))) (MW Γ mo F I A f) n) X0 := by
  refine Ct.of (by decide +kernel) rfl (Nat.le_of_ble_eq_true rfl) ?_
  refine G.sub (lv2 := [(0, _), (1, _)]) [0, 1] rfl ?_
  refine m_get 0 rfl f_X8_19 rfl dX8_rentAt_0 dX8_rentAt_1 ?_
  refine gn_ic 0 (by decide) dX8_rentAt_4 ?_
  refine gn_iald MW_3 (by omega) (by decide) dX8_rentAt_5 ?_
  refine gn_ic 5 (by decide) dX8_rentAt_6 ?_
  refine g_iload_n 1 rfl dX8_rentAt_7 ?_
  refine g_imul dX8_rentAt_8 ?_
  refine g_iadd dX8_rentAt_9 ?_
  exact g_iret ⟨rfl, rfl, rfl⟩ rfl rfl dX8_rentAt_10
set_option maxRecDepth 100000 in
set_option maxHeartbeats 4000000 in
theorem c_X8_averageAt {Γ : Gm} {mo n : Nat} {F : Hp} {I : Nat → Int32} {A : Nat → Nat → Int32} {f : Nat → Int32} {fl : Int32} {v c : Nat} (hc : f 7 = nI c) (hc12 : c ≤ 12) (hv : v < 5) : Ct Γ 3 MX8_averageAt 0 0 [.ref mo, .int fl, .int (nI v)] (MW Γ mo F I A f) n (Rt (some (.int (avgF f fl v c))) (MW Γ mo F I A f) n) X0 := by
  refine Ct.of (by decide +kernel) rfl (Nat.le_of_ble_eq_true rfl) ?_
  refine G.sub (lv2 := [(0, _), (1, _), (2, _)]) [0, 1, 2] rfl ?_
  refine gn_ic 0 (by decide) dX8_averageAt_0 ?_
  refine g_istore_n (lv2 := [(3, _), (0, _), (1, _), (2, _)]) (by decide) rfl dX8_averageAt_1 ?_
  refine gn_ic 0 (by decide) dX8_averageAt_2 ?_
  refine g_istore (lv2 := [(4, _), (3, _), (0, _), (1, _), (2, _)]) (by decide) rfl dX8_averageAt_3 ?_
  refine gn_ic 0 (by decide) dX8_averageAt_5 ?_
  refine g_istore (lv2 := [(5, _), (4, _), (3, _), (0, _), (1, _), (2, _)]) (by decide) rfl dX8_averageAt_6 ?_
  have L8 : ∀ (m8 i8 : Nat), i8 + m8 = c → G Γ 3 MX8_averageAt (Rt (some (.int (avgF f fl v c))) (MW Γ mo F I A f) n) X0 8 [(0, .ref mo), (1, .int fl), (2, .int (nI v)), (3, .int (sumA f fl v i8)), (4, .int (nI (cntA f fl i8))), (5, .int (nI i8))] [] (MW Γ mo F I A f) n 0 0 := by
    intro m8
    induction m8 with
    | zero =>
      intro i8 hi8
      refine g_iload 5 rfl dX8_averageAt_8 ?_
      refine m_get 0 rfl f_X8_19 rfl dX8_averageAt_10 dX8_averageAt_11 ?_
      refine gn_bp 7 (by decide) dX8_averageAt_14 ?_
      refine gn_iald MW_3 (by omega) (by decide) dX8_averageAt_16 ?_
      refine g_top (y := nI c) hc ?_
      refine gn_icmp_ge (by omega) (by omega) (tgt := 83) (by decide) dX8_averageAt_17 (fun cc1 => ?_) (fun cc1 => ?_)
      · -- t 83
        obtain rfl : i8 = c := by omega
        have hle := cntA_le f fl i8
        refine g_iload 4 rfl dX8_averageAt_83 ?_
        refine gn_if_ne (by omega) (tgt := 92) (by decide) dX8_averageAt_85 (fun cc2 => ?_) (fun cc2 => ?_)
        · -- t 92
          refine g_iload_n 3 rfl dX8_averageAt_92 ?_
          refine g_iload 4 rfl dX8_averageAt_93 ?_
          refine g_idiv (nI_ne0 (by omega) (by omega)) dX8_averageAt_95 ?_
          exact g_iret ⟨by simp [avgF, *], rfl, rfl⟩ rfl rfl dX8_averageAt_96
        · -- f 88
          refine gn_ic 0 (by decide) dX8_averageAt_88 ?_
          refine g_goto (tgt := 96) (by decide) dX8_averageAt_89 ?_
          exact g_iret ⟨by simp [avgF, *], rfl, rfl⟩ rfl rfl dX8_averageAt_96
      · -- f 20
        exfalso; omega
    | succ m8 ih8 =>
      intro i8 hi8
      refine g_iload 5 rfl dX8_averageAt_8 ?_
      refine m_get 0 rfl f_X8_19 rfl dX8_averageAt_10 dX8_averageAt_11 ?_
      refine gn_bp 7 (by decide) dX8_averageAt_14 ?_
      refine gn_iald MW_3 (by omega) (by decide) dX8_averageAt_16 ?_
      refine g_top (y := nI c) hc ?_
      refine gn_icmp_ge (by omega) (by omega) (tgt := 83) (by decide) dX8_averageAt_17 (fun cc3 => ?_) (fun cc3 => ?_)
      · -- t 83
        exfalso; omega
      · -- f 20
        refine m_get 0 rfl f_X8_19 rfl dX8_averageAt_20 dX8_averageAt_21 ?_
        refine g_iload 5 rfl dX8_averageAt_24 ?_
        refine gv_S (c_X8_l ) l_X8_56 rfl (Nat.le_of_ble_eq_true rfl) (Nat.le_of_ble_eq_true rfl) rfl dX8_averageAt_26 ?_
        refine gn_ic 0 (by decide) dX8_averageAt_29 ?_
        refine gn_iadd0 dX8_averageAt_30 ?_
        refine gn_iald MW_3 (by omega) (by decide) dX8_averageAt_31 ?_
        refine g_iload_n 1 rfl dX8_averageAt_32 ?_
        refine g_icmp_ne (tgt := 40) (by decide) dX8_averageAt_33 (fun cc4 => ?_) (fun cc4 => ?_)
        · -- t 40
          refine gn_ic 0 (by decide) dX8_averageAt_40 ?_
          refine g_istore (lv2 := [(6, _), (0, _), (1, _), (2, _), (3, _), (4, _), (5, _)]) (by decide) rfl dX8_averageAt_41 ?_
          refine g_iload_n 4 rfl dX8_averageAt_43 ?_
          refine g_iload 0 rfl dX8_averageAt_44 ?_
          refine gn_if_eq (by omega) (tgt := 59) (by decide) dX8_averageAt_46 (fun cc5 => ?_) (fun cc5 => ?_)
          · -- t 59
            refine gn_ic 0 (by decide) dX8_averageAt_59 ?_
            refine g_iadd dX8_averageAt_60 ?_
            refine g_istore_n (lv2 := [(3, _), (6, _), (0, _), (1, _), (2, _), (4, _), (5, _)]) (by decide) rfl dX8_averageAt_61 ?_
            refine g_iload 5 rfl dX8_averageAt_62 ?_
            refine g_iload 1 rfl dX8_averageAt_64 ?_
            refine gn_if_eq (by omega) (tgt := 73) (by decide) dX8_averageAt_66 (fun cc6 => ?_) (fun cc6 => ?_)
            · -- t 73
              refine gn_ic 0 (by decide) dX8_averageAt_73 ?_
              refine gn_iadd0 dX8_averageAt_74 ?_
              refine g_istore (lv2 := [(4, _), (3, _), (6, _), (0, _), (1, _), (2, _), (5, _)]) (by decide) rfl dX8_averageAt_75 ?_
              refine gn_inc (lv2 := [(5, _), (4, _), (3, _), (6, _), (0, _), (1, _), (2, _)]) 6 rfl (by decide) rfl dX8_averageAt_77 ?_
              refine g_goto (tgt := 8) (by decide) dX8_averageAt_80 ?_
              refine G.sub [4, 5, 6, 2, 1, 0] rfl ?_
              (have h := ih8 (i8 + 1) (by omega); first | (rw [show sumA f fl v (i8 + 1) = sumA f fl v i8 + f (13 + 16 * i8 + 5 + v) from by simp [sumA, *], show cntA f fl (i8 + 1) = cntA f fl i8 + 1 from by simp [cntA, *]] at h; exact h) | (rw [show sumA f fl v (i8 + 1) = sumA f fl v i8 + nI 0 from by simp [sumA, *], show cntA f fl (i8 + 1) = cntA f fl i8 from by simp [cntA, *]] at h; exact h))
            · -- f 69
              exact absurd cc6 (by decide)
          · -- f 49
            exact absurd cc5 (by decide)
        · -- f 36
          refine gn_ic 1 (by decide) dX8_averageAt_36 ?_
          refine g_goto (tgt := 41) (by decide) dX8_averageAt_37 ?_
          refine g_istore (lv2 := [(6, _), (0, _), (1, _), (2, _), (3, _), (4, _), (5, _)]) (by decide) rfl dX8_averageAt_41 ?_
          refine g_iload_n 4 rfl dX8_averageAt_43 ?_
          refine g_iload 0 rfl dX8_averageAt_44 ?_
          refine gn_if_eq (by omega) (tgt := 59) (by decide) dX8_averageAt_46 (fun cc7 => ?_) (fun cc7 => ?_)
          · -- t 59
            exact absurd cc7 (by decide)
          · -- f 49
            refine g_aload_n 1 rfl dX8_averageAt_49 ?_
            refine g_iload 6 rfl dX8_averageAt_50 ?_
            refine g_iload_n 3 rfl dX8_averageAt_52 ?_
            refine gv_V (c_X8_at (by omega) (by omega)) l_X8_73 rfl m_rcv (Nat.le_of_ble_eq_true rfl) (Nat.le_of_ble_eq_true rfl) rfl dX8_averageAt_53 ?_
            refine g_goto (tgt := 60) (by decide) dX8_averageAt_56 ?_
            refine g_iadd dX8_averageAt_60 ?_
            refine g_istore_n (lv2 := [(3, _), (6, _), (0, _), (1, _), (2, _), (4, _), (5, _)]) (by decide) rfl dX8_averageAt_61 ?_
            refine g_iload 5 rfl dX8_averageAt_62 ?_
            refine g_iload 1 rfl dX8_averageAt_64 ?_
            refine gn_if_eq (by omega) (tgt := 73) (by decide) dX8_averageAt_66 (fun cc8 => ?_) (fun cc8 => ?_)
            · -- t 73
              exact absurd cc8 (by decide)
            · -- f 69
              refine gn_ic 1 (by decide) dX8_averageAt_69 ?_
              refine g_goto (tgt := 74) (by decide) dX8_averageAt_70 ?_
              refine gn_iadd dX8_averageAt_74 ?_
              refine g_istore (lv2 := [(4, _), (3, _), (6, _), (0, _), (1, _), (2, _), (5, _)]) (by decide) rfl dX8_averageAt_75 ?_
              refine gn_inc (lv2 := [(5, _), (4, _), (3, _), (6, _), (0, _), (1, _), (2, _)]) 6 rfl (by decide) rfl dX8_averageAt_77 ?_
              refine g_goto (tgt := 8) (by decide) dX8_averageAt_80 ?_
              refine G.sub [4, 5, 6, 2, 1, 0] rfl ?_
              (have h := ih8 (i8 + 1) (by omega); first | (rw [show sumA f fl v (i8 + 1) = sumA f fl v i8 + f (13 + 16 * i8 + 5 + v) from by simp [sumA, *], show cntA f fl (i8 + 1) = cntA f fl i8 + 1 from by simp [cntA, *]] at h; exact h) | (rw [show sumA f fl v (i8 + 1) = sumA f fl v i8 + nI 0 from by simp [sumA, *], show cntA f fl (i8 + 1) = cntA f fl i8 from by simp [cntA, *]] at h; exact h))
  refine G.sub [3, 4, 5, 2, 1, 0] rfl ?_
  exact L8 _ 0 (Nat.zero_add _)
set_option maxRecDepth 100000 in
set_option maxHeartbeats 4000000 in
theorem c_X8_toLandlady {Γ : Gm} {mo n : Nat} {F : Hp} {I : Nat → Int32} {A : Nat → Nat → Int32} {f : Nat → Int32} {k : Nat} (hk : k < 12) : Ct Γ 3 MX8_toLandlady 0 0 [.ref mo, .int (nI k)] (MW Γ mo F I A f) n (Rt (some (.int (dst (rw5 f k) (la5 f) 5))) (MW Γ mo F I A f) n) X0 := by
  refine Ct.of (by decide +kernel) rfl (Nat.le_of_ble_eq_true rfl) ?_
  refine G.sub (lv2 := [(0, _), (1, _)]) [0, 1] rfl ?_
  refine gn_ic 0 (by decide) dX8_toLandlady_0 ?_
  refine g_istore_n (lv2 := [(2, _), (0, _), (1, _)]) (by decide) rfl dX8_toLandlady_1 ?_
  refine gn_ic 0 (by decide) dX8_toLandlady_2 ?_
  refine g_istore_n (lv2 := [(3, _), (2, _), (0, _), (1, _)]) (by decide) rfl dX8_toLandlady_3 ?_
  have L4 : ∀ (m4 i4 : Nat), i4 + m4 = 5 → G Γ 3 MX8_toLandlady (Rt (some (.int (dst (rw5 f k) (la5 f) 5))) (MW Γ mo F I A f) n) X0 4 [(0, .ref mo), (1, .int (nI k)), (2, .int (dst (rw5 f k) (la5 f) i4)), (3, .int (nI i4))] [] (MW Γ mo F I A f) n 0 0 := by
    intro m4
    induction m4 with
    | zero =>
      intro i4 hi4
      refine g_iload_n 3 rfl dX8_toLandlady_4 ?_
      refine gn_ic 5 (by decide) dX8_toLandlady_5 ?_
      refine gn_icmp_ge (by omega) (by omega) (tgt := 36) (by decide) dX8_toLandlady_6 (fun cc1 => ?_) (fun cc1 => ?_)
      · -- t 36
        refine g_iload_n 2 rfl dX8_toLandlady_36 ?_
        exact g_iret ⟨by rw [show i4 = 5 by omega], rfl, rfl⟩ rfl rfl dX8_toLandlady_37
      · -- f 9
        exfalso; omega
    | succ m4 ih4 =>
      intro i4 hi4
      refine g_iload_n 3 rfl dX8_toLandlady_4 ?_
      refine gn_ic 5 (by decide) dX8_toLandlady_5 ?_
      refine gn_icmp_ge (by omega) (by omega) (tgt := 36) (by decide) dX8_toLandlady_6 (fun cc2 => ?_) (fun cc2 => ?_)
      · -- t 36
        exfalso; omega
      · -- f 9
        refine g_iload_n 2 rfl dX8_toLandlady_9 ?_
        refine g_aload_n 0 rfl dX8_toLandlady_10 ?_
        refine g_iload_n 1 rfl dX8_toLandlady_11 ?_
        refine g_iload_n 3 rfl dX8_toLandlady_12 ?_
        refine gv_V (c_X8_at (by omega) (by omega)) l_X8_73 rfl m_rcv (Nat.le_of_ble_eq_true rfl) (Nat.le_of_ble_eq_true rfl) rfl dX8_toLandlady_13 ?_
        refine m_get 0 rfl f_X8_19 rfl dX8_toLandlady_16 dX8_toLandlady_17 ?_
        refine gn_ic 2 (by decide) dX8_toLandlady_20 ?_
        refine g_iload_n 3 rfl dX8_toLandlady_21 ?_
        refine gn_iadd dX8_toLandlady_22 ?_
        refine gn_iald MW_3 (by omega) (by decide) dX8_toLandlady_23 ?_
        refine g_isub dX8_toLandlady_24 ?_
        refine gv_S (c_X8_without ) l_X8_77 rfl (Nat.le_of_ble_eq_true rfl) (Nat.le_of_ble_eq_true rfl) rfl dX8_toLandlady_25 ?_
        refine g_iadd dX8_toLandlady_28 ?_
        refine g_istore_n (lv2 := [(2, _), (0, _), (1, _), (3, _)]) (by decide) rfl dX8_toLandlady_29 ?_
        refine gn_inc (lv2 := [(3, _), (2, _), (0, _), (1, _)]) 3 rfl (by decide) rfl dX8_toLandlady_30 ?_
        refine g_goto (tgt := 4) (by decide) dX8_toLandlady_33 ?_
        refine G.sub [2, 3, 1, 0] rfl ?_
        exact ih4 (i4 + 1) (by omega)
  refine G.sub [2, 3, 1, 0] rfl ?_
  exact L4 _ 0 (Nat.zero_add _)
set_option maxRecDepth 100000 in
set_option maxHeartbeats 4000000 in
theorem c_X8_rhymesHer {Γ : Gm} {mo n : Nat} {F : Hp} {I : Nat → Int32} {A : Nat → Nat → Int32} {f : Nat → Int32} {k : Nat} (hk : k < 12) : Ct Γ 3 MX8_rhymesHer 0 0 [.ref mo, .int (nI k)] (MW Γ mo F I A f) n (Rt (some (.int (bi (dif (rw5 f k) (la5 f) 5 ≤ 1)))) (MW Γ mo F I A f) n) X0 := by
  refine Ct.of (by decide +kernel) rfl (Nat.le_of_ble_eq_true rfl) ?_
  refine G.sub (lv2 := [(0, _), (1, _)]) [0, 1] rfl ?_
  refine gn_ic 0 (by decide) dX8_rhymesHer_0 ?_
  refine g_istore_n (lv2 := [(2, _), (0, _), (1, _)]) (by decide) rfl dX8_rhymesHer_1 ?_
  refine gn_ic 0 (by decide) dX8_rhymesHer_2 ?_
  refine g_istore_n (lv2 := [(3, _), (2, _), (0, _), (1, _)]) (by decide) rfl dX8_rhymesHer_3 ?_
  have L4 : ∀ (m4 i4 : Nat), i4 + m4 = 5 → G Γ 3 MX8_rhymesHer (Rt (some (.int (bi (dif (rw5 f k) (la5 f) 5 ≤ 1)))) (MW Γ mo F I A f) n) X0 4 [(0, .ref mo), (1, .int (nI k)), (2, .int (nI (dif (rw5 f k) (la5 f) i4))), (3, .int (nI i4))] [] (MW Γ mo F I A f) n 0 0 := by
    intro m4
    induction m4 with
    | zero =>
      intro i4 hi4
      refine g_iload_n 3 rfl dX8_rhymesHer_4 ?_
      refine gn_ic 5 (by decide) dX8_rhymesHer_5 ?_
      refine gn_icmp_ge (by omega) (by omega) (tgt := 40) (by decide) dX8_rhymesHer_6 (fun cc1 => ?_) (fun cc1 => ?_)
      · -- t 40
        obtain rfl : i4 = 5 := by omega
        have hle := dif_le (rw5 f k) (la5 f) 5
        refine g_iload_n 2 rfl dX8_rhymesHer_40 ?_
        refine gn_ic 1 (by decide) dX8_rhymesHer_41 ?_
        refine gn_icmp_gt (by omega) (by omega) (tgt := 49) (by decide) dX8_rhymesHer_42 (fun cc2 => ?_) (fun cc2 => ?_)
        · -- t 49
          refine gn_ic 0 (by decide) dX8_rhymesHer_49 ?_
          exact g_iret ⟨by unfold bi; split <;> first | rfl | (exfalso; omega), rfl, rfl⟩ (by decide +kernel) rfl dX8_rhymesHer_50
        · -- f 45
          refine gn_ic 1 (by decide) dX8_rhymesHer_45 ?_
          refine g_goto (tgt := 50) (by decide) dX8_rhymesHer_46 ?_
          exact g_iret ⟨by unfold bi; split <;> first | rfl | (exfalso; omega), rfl, rfl⟩ (by decide +kernel) rfl dX8_rhymesHer_50
      · -- f 9
        exfalso; omega
    | succ m4 ih4 =>
      intro i4 hi4
      refine g_iload_n 3 rfl dX8_rhymesHer_4 ?_
      refine gn_ic 5 (by decide) dX8_rhymesHer_5 ?_
      refine gn_icmp_ge (by omega) (by omega) (tgt := 40) (by decide) dX8_rhymesHer_6 (fun cc3 => ?_) (fun cc3 => ?_)
      · -- t 40
        exfalso; omega
      · -- f 9
        refine g_iload_n 2 rfl dX8_rhymesHer_9 ?_
        refine g_aload_n 0 rfl dX8_rhymesHer_10 ?_
        refine g_iload_n 1 rfl dX8_rhymesHer_11 ?_
        refine g_iload_n 3 rfl dX8_rhymesHer_12 ?_
        refine gv_V (c_X8_at (by omega) (by omega)) l_X8_73 rfl m_rcv (Nat.le_of_ble_eq_true rfl) (Nat.le_of_ble_eq_true rfl) rfl dX8_rhymesHer_13 ?_
        refine m_get 0 rfl f_X8_19 rfl dX8_rhymesHer_16 dX8_rhymesHer_17 ?_
        refine gn_ic 2 (by decide) dX8_rhymesHer_20 ?_
        refine g_iload_n 3 rfl dX8_rhymesHer_21 ?_
        refine gn_iadd dX8_rhymesHer_22 ?_
        refine gn_iald MW_3 (by omega) (by decide) dX8_rhymesHer_23 ?_
        refine g_icmp_ne (tgt := 31) (by decide) dX8_rhymesHer_24 (fun cc4 => ?_) (fun cc4 => ?_)
        · -- t 31
          refine gn_ic 1 (by decide) dX8_rhymesHer_31 ?_
          refine gn_iadd dX8_rhymesHer_32 ?_
          refine g_istore_n (lv2 := [(2, _), (0, _), (1, _), (3, _)]) (by decide) rfl dX8_rhymesHer_33 ?_
          refine gn_inc (lv2 := [(3, _), (2, _), (0, _), (1, _)]) 3 rfl (by decide) rfl dX8_rhymesHer_34 ?_
          refine g_goto (tgt := 4) (by decide) dX8_rhymesHer_37 ?_
          refine G.sub [2, 3, 1, 0] rfl ?_
          (have h := ih4 (i4 + 1) (by omega); first | (rw [show dif (rw5 f k) (la5 f) (i4 + 1) = dif (rw5 f k) (la5 f) i4 + 1 from by simp [dif, *]] at h; exact h) | (rw [show dif (rw5 f k) (la5 f) (i4 + 1) = dif (rw5 f k) (la5 f) i4 from by simp [dif, *]] at h; exact h))
        · -- f 27
          refine gn_ic 0 (by decide) dX8_rhymesHer_27 ?_
          refine g_goto (tgt := 32) (by decide) dX8_rhymesHer_28 ?_
          refine gn_iadd0 dX8_rhymesHer_32 ?_
          refine g_istore_n (lv2 := [(2, _), (0, _), (1, _), (3, _)]) (by decide) rfl dX8_rhymesHer_33 ?_
          refine gn_inc (lv2 := [(3, _), (2, _), (0, _), (1, _)]) 3 rfl (by decide) rfl dX8_rhymesHer_34 ?_
          refine g_goto (tgt := 4) (by decide) dX8_rhymesHer_37 ?_
          refine G.sub [2, 3, 1, 0] rfl ?_
          (have h := ih4 (i4 + 1) (by omega); first | (rw [show dif (rw5 f k) (la5 f) (i4 + 1) = dif (rw5 f k) (la5 f) i4 + 1 from by simp [dif, *]] at h; exact h) | (rw [show dif (rw5 f k) (la5 f) (i4 + 1) = dif (rw5 f k) (la5 f) i4 from by simp [dif, *]] at h; exact h))
  refine G.sub [2, 3, 1, 0] rfl ?_
  exact L4 _ 0 (Nat.zero_add _)
set_option maxRecDepth 100000 in
set_option maxHeartbeats 4000000 in
theorem c_X8_between {Γ : Gm} {mo n : Nat} {F : Hp} {I : Nat → Int32} {A : Nat → Nat → Int32} {f : Nat → Int32} {k j : Nat} (hk : k < 12) (hj : j < 12) : Ct Γ 3 MX8_between 0 0 [.ref mo, .int (nI k), .int (nI j)] (MW Γ mo F I A f) n (Rt (some (.int (dst (rw5 f k) (rw5 f j) 5))) (MW Γ mo F I A f) n) X0 := by
  refine Ct.of (by decide +kernel) rfl (Nat.le_of_ble_eq_true rfl) ?_
  refine G.sub (lv2 := [(0, _), (1, _), (2, _)]) [0, 1, 2] rfl ?_
  refine gn_ic 0 (by decide) dX8_between_0 ?_
  refine g_istore_n (lv2 := [(3, _), (0, _), (1, _), (2, _)]) (by decide) rfl dX8_between_1 ?_
  refine gn_ic 0 (by decide) dX8_between_2 ?_
  refine g_istore (lv2 := [(4, _), (3, _), (0, _), (1, _), (2, _)]) (by decide) rfl dX8_between_3 ?_
  have L5 : ∀ (m5 i5 : Nat), i5 + m5 = 5 → G Γ 3 MX8_between (Rt (some (.int (dst (rw5 f k) (rw5 f j) 5))) (MW Γ mo F I A f) n) X0 5 [(0, .ref mo), (1, .int (nI k)), (2, .int (nI j)), (3, .int (dst (rw5 f k) (rw5 f j) i5)), (4, .int (nI i5))] [] (MW Γ mo F I A f) n 0 0 := by
    intro m5
    induction m5 with
    | zero =>
      intro i5 hi5
      refine g_iload 4 rfl dX8_between_5 ?_
      refine gn_ic 5 (by decide) dX8_between_7 ?_
      refine gn_icmp_ge (by omega) (by omega) (tgt := 38) (by decide) dX8_between_8 (fun cc1 => ?_) (fun cc1 => ?_)
      · -- t 38
        refine g_iload_n 3 rfl dX8_between_38 ?_
        exact g_iret ⟨by rw [show i5 = 5 by omega], rfl, rfl⟩ rfl rfl dX8_between_39
      · -- f 11
        exfalso; omega
    | succ m5 ih5 =>
      intro i5 hi5
      refine g_iload 4 rfl dX8_between_5 ?_
      refine gn_ic 5 (by decide) dX8_between_7 ?_
      refine gn_icmp_ge (by omega) (by omega) (tgt := 38) (by decide) dX8_between_8 (fun cc2 => ?_) (fun cc2 => ?_)
      · -- t 38
        exfalso; omega
      · -- f 11
        refine g_iload_n 3 rfl dX8_between_11 ?_
        refine g_aload_n 0 rfl dX8_between_12 ?_
        refine g_iload_n 1 rfl dX8_between_13 ?_
        refine g_iload 4 rfl dX8_between_14 ?_
        refine gv_V (c_X8_at (by omega) (by omega)) l_X8_73 rfl m_rcv (Nat.le_of_ble_eq_true rfl) (Nat.le_of_ble_eq_true rfl) rfl dX8_between_16 ?_
        refine g_aload_n 0 rfl dX8_between_19 ?_
        refine g_iload_n 2 rfl dX8_between_20 ?_
        refine g_iload 4 rfl dX8_between_21 ?_
        refine gv_V (c_X8_at (by omega) (by omega)) l_X8_73 rfl m_rcv (Nat.le_of_ble_eq_true rfl) (Nat.le_of_ble_eq_true rfl) rfl dX8_between_23 ?_
        refine g_isub dX8_between_26 ?_
        refine gv_S (c_X8_without ) l_X8_77 rfl (Nat.le_of_ble_eq_true rfl) (Nat.le_of_ble_eq_true rfl) rfl dX8_between_27 ?_
        refine g_iadd dX8_between_30 ?_
        refine g_istore_n (lv2 := [(3, _), (0, _), (1, _), (2, _), (4, _)]) (by decide) rfl dX8_between_31 ?_
        refine gn_inc (lv2 := [(4, _), (3, _), (0, _), (1, _), (2, _)]) 4 rfl (by decide) rfl dX8_between_32 ?_
        refine g_goto (tgt := 5) (by decide) dX8_between_35 ?_
        refine G.sub [2, 3, 4, 1, 0] rfl ?_
        exact ih5 (i5 + 1) (by omega)
  refine G.sub [2, 3, 4, 1, 0] rfl ?_
  exact L5 _ 0 (Nat.zero_add _)
set_option maxRecDepth 100000 in
set_option maxHeartbeats 4000000 in
theorem c_X8_rhyme {Γ : Gm} {mo n : Nat} {F : Hp} {I : Nat → Int32} {A : Nat → Nat → Int32} {f : Nat → Int32} {k j : Nat} (hk : k < 12) (hj : j < 12) : Ct Γ 3 MX8_rhyme 0 0 [.ref mo, .int (nI k), .int (nI j)] (MW Γ mo F I A f) n (Rt (some (.int (bi (dif (rw5 f k) (rw5 f j) 5 ≤ 1)))) (MW Γ mo F I A f) n) X0 := by
  refine Ct.of (by decide +kernel) rfl (Nat.le_of_ble_eq_true rfl) ?_
  refine G.sub (lv2 := [(0, _), (1, _), (2, _)]) [0, 1, 2] rfl ?_
  refine gn_ic 0 (by decide) dX8_rhyme_0 ?_
  refine g_istore_n (lv2 := [(3, _), (0, _), (1, _), (2, _)]) (by decide) rfl dX8_rhyme_1 ?_
  refine gn_ic 0 (by decide) dX8_rhyme_2 ?_
  refine g_istore (lv2 := [(4, _), (3, _), (0, _), (1, _), (2, _)]) (by decide) rfl dX8_rhyme_3 ?_
  have L5 : ∀ (m5 i5 : Nat), i5 + m5 = 5 → G Γ 3 MX8_rhyme (Rt (some (.int (bi (dif (rw5 f k) (rw5 f j) 5 ≤ 1)))) (MW Γ mo F I A f) n) X0 5 [(0, .ref mo), (1, .int (nI k)), (2, .int (nI j)), (3, .int (nI (dif (rw5 f k) (rw5 f j) i5))), (4, .int (nI i5))] [] (MW Γ mo F I A f) n 0 0 := by
    intro m5
    induction m5 with
    | zero =>
      intro i5 hi5
      refine g_iload 4 rfl dX8_rhyme_5 ?_
      refine gn_ic 5 (by decide) dX8_rhyme_7 ?_
      refine gn_icmp_ge (by omega) (by omega) (tgt := 42) (by decide) dX8_rhyme_8 (fun cc1 => ?_) (fun cc1 => ?_)
      · -- t 42
        obtain rfl : i5 = 5 := by omega
        have hle := dif_le (rw5 f k) (rw5 f j) 5
        refine g_iload_n 3 rfl dX8_rhyme_42 ?_
        refine gn_ic 1 (by decide) dX8_rhyme_43 ?_
        refine gn_icmp_gt (by omega) (by omega) (tgt := 51) (by decide) dX8_rhyme_44 (fun cc2 => ?_) (fun cc2 => ?_)
        · -- t 51
          refine gn_ic 0 (by decide) dX8_rhyme_51 ?_
          exact g_iret ⟨by unfold bi; split <;> first | rfl | (exfalso; omega), rfl, rfl⟩ (by decide +kernel) rfl dX8_rhyme_52
        · -- f 47
          refine gn_ic 1 (by decide) dX8_rhyme_47 ?_
          refine g_goto (tgt := 52) (by decide) dX8_rhyme_48 ?_
          exact g_iret ⟨by unfold bi; split <;> first | rfl | (exfalso; omega), rfl, rfl⟩ (by decide +kernel) rfl dX8_rhyme_52
      · -- f 11
        exfalso; omega
    | succ m5 ih5 =>
      intro i5 hi5
      refine g_iload 4 rfl dX8_rhyme_5 ?_
      refine gn_ic 5 (by decide) dX8_rhyme_7 ?_
      refine gn_icmp_ge (by omega) (by omega) (tgt := 42) (by decide) dX8_rhyme_8 (fun cc3 => ?_) (fun cc3 => ?_)
      · -- t 42
        exfalso; omega
      · -- f 11
        refine g_iload_n 3 rfl dX8_rhyme_11 ?_
        refine g_aload_n 0 rfl dX8_rhyme_12 ?_
        refine g_iload_n 1 rfl dX8_rhyme_13 ?_
        refine g_iload 4 rfl dX8_rhyme_14 ?_
        refine gv_V (c_X8_at (by omega) (by omega)) l_X8_73 rfl m_rcv (Nat.le_of_ble_eq_true rfl) (Nat.le_of_ble_eq_true rfl) rfl dX8_rhyme_16 ?_
        refine g_aload_n 0 rfl dX8_rhyme_19 ?_
        refine g_iload_n 2 rfl dX8_rhyme_20 ?_
        refine g_iload 4 rfl dX8_rhyme_21 ?_
        refine gv_V (c_X8_at (by omega) (by omega)) l_X8_73 rfl m_rcv (Nat.le_of_ble_eq_true rfl) (Nat.le_of_ble_eq_true rfl) rfl dX8_rhyme_23 ?_
        refine g_icmp_ne (tgt := 33) (by decide) dX8_rhyme_26 (fun cc4 => ?_) (fun cc4 => ?_)
        · -- t 33
          refine gn_ic 1 (by decide) dX8_rhyme_33 ?_
          refine gn_iadd dX8_rhyme_34 ?_
          refine g_istore_n (lv2 := [(3, _), (0, _), (1, _), (2, _), (4, _)]) (by decide) rfl dX8_rhyme_35 ?_
          refine gn_inc (lv2 := [(4, _), (3, _), (0, _), (1, _), (2, _)]) 4 rfl (by decide) rfl dX8_rhyme_36 ?_
          refine g_goto (tgt := 5) (by decide) dX8_rhyme_39 ?_
          refine G.sub [2, 3, 4, 1, 0] rfl ?_
          (have h := ih5 (i5 + 1) (by omega); first | (rw [show dif (rw5 f k) (rw5 f j) (i5 + 1) = dif (rw5 f k) (rw5 f j) i5 + 1 from by simp [dif, *]] at h; exact h) | (rw [show dif (rw5 f k) (rw5 f j) (i5 + 1) = dif (rw5 f k) (rw5 f j) i5 from by simp [dif, *]] at h; exact h))
        · -- f 29
          refine gn_ic 0 (by decide) dX8_rhyme_29 ?_
          refine g_goto (tgt := 34) (by decide) dX8_rhyme_30 ?_
          refine gn_iadd0 dX8_rhyme_34 ?_
          refine g_istore_n (lv2 := [(3, _), (0, _), (1, _), (2, _), (4, _)]) (by decide) rfl dX8_rhyme_35 ?_
          refine gn_inc (lv2 := [(4, _), (3, _), (0, _), (1, _), (2, _)]) 4 rfl (by decide) rfl dX8_rhyme_36 ?_
          refine g_goto (tgt := 5) (by decide) dX8_rhyme_39 ?_
          refine G.sub [2, 3, 4, 1, 0] rfl ?_
          (have h := ih5 (i5 + 1) (by omega); first | (rw [show dif (rw5 f k) (rw5 f j) (i5 + 1) = dif (rw5 f k) (rw5 f j) i5 + 1 from by simp [dif, *]] at h; exact h) | (rw [show dif (rw5 f k) (rw5 f j) (i5 + 1) = dif (rw5 f k) (rw5 f j) i5 from by simp [dif, *]] at h; exact h))
  refine G.sub [2, 3, 4, 1, 0] rfl ?_
  exact L5 _ 0 (Nat.zero_add _)
set_option maxRecDepth 100000 in
set_option maxHeartbeats 4000000 in
theorem c_X8_lessonFor {Γ : Gm} {mo n : Nat} {F : Hp} {I : Nat → Int32} {A : Nat → Nat → Int32} {f : Nat → Int32} {k : Nat} (hk : k < 12) : Ct Γ 3 MX8_lessonFor 0 0 [.ref mo, .int (nI k)] (MW Γ mo F I A f) n (Rt (some (.int ((far (rw5 f k) (la5 f) 5).1))) (MW Γ mo F I A f) n) X0 := by
  refine Ct.of (by decide +kernel) rfl (Nat.le_of_ble_eq_true rfl) ?_
  refine G.sub (lv2 := [(0, _), (1, _)]) [0, 1] rfl ?_
  refine g_iconst (v := -1) dX8_lessonFor_0 (by decide) ?_
  refine g_istore_n (lv2 := [(2, _), (0, _), (1, _)]) (by decide) rfl dX8_lessonFor_1 ?_
  refine gn_ic 0 (by decide) dX8_lessonFor_2 ?_
  refine g_istore_n (lv2 := [(3, _), (2, _), (0, _), (1, _)]) (by decide) rfl dX8_lessonFor_3 ?_
  refine gn_ic 0 (by decide) dX8_lessonFor_4 ?_
  refine g_istore (lv2 := [(4, _), (3, _), (2, _), (0, _), (1, _)]) (by decide) rfl dX8_lessonFor_5 ?_
  have L7 : ∀ (m7 i7 : Nat), i7 + m7 = 5 → G Γ 3 MX8_lessonFor (Rt (some (.int ((far (rw5 f k) (la5 f) 5).1))) (MW Γ mo F I A f) n) X0 7 [(0, .ref mo), (1, .int (nI k)), (2, .int (far (rw5 f k) (la5 f) i7).1), (3, .int (far (rw5 f k) (la5 f) i7).2), (4, .int (nI i7))] [] (MW Γ mo F I A f) n 0 0 := by
    intro m7
    induction m7 with
    | zero =>
      intro i7 hi7
      refine g_iload 4 rfl dX8_lessonFor_7 ?_
      refine gn_ic 5 (by decide) dX8_lessonFor_9 ?_
      refine gn_icmp_ge (by omega) (by omega) (tgt := 67) (by decide) dX8_lessonFor_10 (fun cc1 => ?_) (fun cc1 => ?_)
      · -- t 67
        refine g_iload_n 2 rfl dX8_lessonFor_67 ?_
        exact g_iret ⟨by rw [show i7 = 5 by omega], rfl, rfl⟩ rfl rfl dX8_lessonFor_68
      · -- f 13
        exfalso; omega
    | succ m7 ih7 =>
      intro i7 hi7
      refine g_iload 4 rfl dX8_lessonFor_7 ?_
      refine gn_ic 5 (by decide) dX8_lessonFor_9 ?_
      refine gn_icmp_ge (by omega) (by omega) (tgt := 67) (by decide) dX8_lessonFor_10 (fun cc2 => ?_) (fun cc2 => ?_)
      · -- t 67
        exfalso; omega
      · -- f 13
        refine g_aload_n 0 rfl dX8_lessonFor_13 ?_
        refine g_iload_n 1 rfl dX8_lessonFor_14 ?_
        refine g_iload 4 rfl dX8_lessonFor_15 ?_
        refine gv_V (c_X8_at (by omega) (by omega)) l_X8_73 rfl m_rcv (Nat.le_of_ble_eq_true rfl) (Nat.le_of_ble_eq_true rfl) rfl dX8_lessonFor_17 ?_
        refine m_get 0 rfl f_X8_19 rfl dX8_lessonFor_20 dX8_lessonFor_21 ?_
        refine gn_ic 2 (by decide) dX8_lessonFor_24 ?_
        refine g_iload 4 rfl dX8_lessonFor_25 ?_
        refine gn_iadd dX8_lessonFor_27 ?_
        refine gn_iald MW_3 (by omega) (by decide) dX8_lessonFor_28 ?_
        refine g_isub dX8_lessonFor_29 ?_
        refine gv_S (c_X8_without ) l_X8_77 rfl (Nat.le_of_ble_eq_true rfl) (Nat.le_of_ble_eq_true rfl) rfl dX8_lessonFor_30 ?_
        refine g_istore (lv2 := [(5, _), (0, _), (1, _), (2, _), (3, _), (4, _)]) (by decide) rfl dX8_lessonFor_33 ?_
        refine g_iload 0 rfl dX8_lessonFor_35 ?_
        refine g_iload_n 4 rfl dX8_lessonFor_37 ?_
        refine g_icmp_le (tgt := 46) (by decide) dX8_lessonFor_38 (fun h1 => ?_) (fun h1 => ?_)
        · -- t 46
          refine g_iload_n 3 rfl dX8_lessonFor_46 ?_
          refine g_istore_n (lv2 := [(2, _), (5, _), (0, _), (1, _), (3, _), (4, _)]) (by decide) rfl dX8_lessonFor_47 ?_
          refine g_iload 1 rfl dX8_lessonFor_48 ?_
          refine g_iload_n 4 rfl dX8_lessonFor_50 ?_
          refine g_icmp_le (tgt := 59) (by decide) dX8_lessonFor_51 (fun h2 => ?_) (fun h2 => ?_)
          · -- t 59
            refine g_iload_n 4 rfl dX8_lessonFor_59 ?_
            refine g_istore_n (lv2 := [(3, _), (2, _), (5, _), (0, _), (1, _), (4, _)]) (by decide) rfl dX8_lessonFor_60 ?_
            refine gn_inc (lv2 := [(4, _), (3, _), (2, _), (5, _), (0, _), (1, _)]) 5 rfl (by decide) rfl dX8_lessonFor_61 ?_
            refine g_goto (tgt := 7) (by decide) dX8_lessonFor_64 ?_
            refine G.sub [4, 5, 2, 1, 0] rfl ?_
            (have h := ih7 (i7 + 1) (by omega); rw [far_p (g := rw5 f k) (h := la5 f) (v := i7) h1] at h; exact h)
          · -- f 54
            exact absurd h1 h2
        · -- f 41
          refine g_iload 5 rfl dX8_lessonFor_41 ?_
          refine g_goto (tgt := 47) (by decide) dX8_lessonFor_43 ?_
          refine g_istore_n (lv2 := [(2, _), (5, _), (0, _), (1, _), (3, _), (4, _)]) (by decide) rfl dX8_lessonFor_47 ?_
          refine g_iload 1 rfl dX8_lessonFor_48 ?_
          refine g_iload_n 4 rfl dX8_lessonFor_50 ?_
          refine g_icmp_le (tgt := 59) (by decide) dX8_lessonFor_51 (fun h2 => ?_) (fun h2 => ?_)
          · -- t 59
            exact absurd h2 h1
          · -- f 54
            refine g_iload 1 rfl dX8_lessonFor_54 ?_
            refine g_goto (tgt := 60) (by decide) dX8_lessonFor_56 ?_
            refine g_istore_n (lv2 := [(3, _), (2, _), (5, _), (0, _), (1, _), (4, _)]) (by decide) rfl dX8_lessonFor_60 ?_
            refine gn_inc (lv2 := [(4, _), (3, _), (2, _), (5, _), (0, _), (1, _)]) 5 rfl (by decide) rfl dX8_lessonFor_61 ?_
            refine g_goto (tgt := 7) (by decide) dX8_lessonFor_64 ?_
            refine G.sub [4, 5, 2, 1, 0] rfl ?_
            (have h := ih7 (i7 + 1) (by omega); rw [far_n (g := rw5 f k) (h := la5 f) (v := i7) h1] at h; exact h)
  refine G.sub [3, 4, 2, 1, 0] rfl ?_
  exact L7 _ 0 (Nat.zero_add _)
end GM1
