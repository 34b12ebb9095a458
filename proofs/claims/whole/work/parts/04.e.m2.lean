section GM2
set_option maxRecDepth 100000 in
set_option maxHeartbeats 4000000 in
theorem c_X8_averagesNow {Γ : Gm} {mo n : Nat} {F : Hp} {I : Nat → Int32} {A : Nat → Nat → Int32} {f : Nat → Int32} {c : Nat} (hc : f 7 = nI c) (hc12 : c ≤ 12) : Ct Γ 4 MX8_averagesNow 0 0 [.ref mo] (MW Γ mo F I A f) n (Rt none (MW Γ mo F I (avA A (onU f (A 7) c 5) (avU f (A 6) c 25)) f) n) X0 := by
  refine Ct.of (by decide +kernel) rfl (Nat.le_of_ble_eq_true rfl) ?_
  rw [show MW Γ mo F I A f = MW Γ mo F I (avA A (onU f (A 7) c 0) (avU f (A 6) c 0)) f from by rw [avA_0]]
  refine G.sub (lv2 := [(0, _)]) [0] rfl ?_
  refine gn_ic 0 (by decide) dX8_averagesNow_0 ?_
  refine g_istore_n (lv2 := [(1, _), (0, _)]) (by decide) rfl dX8_averagesNow_1 ?_
  have L2 : ∀ (m2 i2 : Nat), i2 + m2 = 5 → G Γ 4 MX8_averagesNow (Rt none (MW Γ mo F I (avA A (onU f (A 7) c 5) (avU f (A 6) c 25)) f) n) X0 2 [(0, .ref mo), (1, .int (nI i2))] [] (MW Γ mo F I (avA A (onU f (A 7) c i2) (avU f (A 6) c (5 * i2))) f) n 0 0 := by
    intro m2
    induction m2 with
    | zero =>
      intro i2 hi2
      refine g_iload_n 1 rfl dX8_averagesNow_2 ?_
      refine gn_ic 5 (by decide) dX8_averagesNow_3 ?_
      refine gn_icmp_ge (by omega) (by omega) (tgt := 54) (by decide) dX8_averagesNow_4 (fun cc1 => ?_) (fun cc1 => ?_)
      · -- t 54
        obtain rfl : i2 = 5 := by omega
        exact g_vret ⟨rfl, rfl, rfl⟩ rfl dX8_averagesNow_54
      · -- f 7
        exfalso; omega
    | succ m2 ih2 =>
      intro i2 hi2
      refine g_iload_n 1 rfl dX8_averagesNow_2 ?_
      refine gn_ic 5 (by decide) dX8_averagesNow_3 ?_
      refine gn_icmp_ge (by omega) (by omega) (tgt := 54) (by decide) dX8_averagesNow_4 (fun cc2 => ?_) (fun cc2 => ?_)
      · -- t 54
        exfalso; omega
      · -- f 7
        refine m_get 0 rfl f_X8_34 rfl dX8_averagesNow_7 dX8_averagesNow_8 ?_
        refine g_iload_n 1 rfl dX8_averagesNow_11 ?_
        refine g_aload_n 0 rfl dX8_averagesNow_12 ?_
        refine g_iload_n 1 rfl dX8_averagesNow_13 ?_
        refine g_iconst (v := -1) dX8_averagesNow_14 (by decide) ?_
        refine gv_V (c_X8_livingOn hc hc12) l_X8_80 rfl m_rcv (Nat.le_of_ble_eq_true rfl) (Nat.le_of_ble_eq_true rfl) rfl dX8_averagesNow_15 ?_
        refine gn_iast (E2 := MW Γ mo F I (avA A (onU f (A 7) c (i2 + 1)) (avU f (A 6) c (5 * i2))) f) MW_8 (by omega) (by decide) (by rw [MW_s8, updA_7]; exact congrArg (fun z => MW Γ mo F I (avA A z _) f) onU_s) dX8_averagesNow_18 ?_
        refine gn_ic 0 (by decide) dX8_averagesNow_19 ?_
        refine g_istore_n (lv2 := [(2, _), (0, _), (1, _)]) (by decide) rfl dX8_averagesNow_20 ?_
        have L21 : ∀ (m21 i21 : Nat), i21 + m21 = 5 → G Γ 4 MX8_averagesNow (Rt none (MW Γ mo F I (avA A (onU f (A 7) c 5) (avU f (A 6) c 25)) f) n) X0 21 [(0, .ref mo), (1, .int (nI i2)), (2, .int (nI i21))] [] (MW Γ mo F I (avA A (onU f (A 7) c (i2 + 1)) (avU f (A 6) c (5 * i2 + i21))) f) n 0 0 := by
          intro m21
          induction m21 with
          | zero =>
            intro i21 hi21
            refine g_iload_n 2 rfl dX8_averagesNow_21 ?_
            refine gn_ic 5 (by decide) dX8_averagesNow_22 ?_
            refine gn_icmp_ge (by omega) (by omega) (tgt := 48) (by decide) dX8_averagesNow_23 (fun cc3 => ?_) (fun cc3 => ?_)
            · -- t 48
              obtain rfl : i21 = 5 := by omega
              refine gn_inc (lv2 := [(1, _), (0, _), (2, _)]) 1 rfl (by decide) rfl dX8_averagesNow_48 ?_
              refine g_goto (tgt := 2) (by decide) dX8_averagesNow_51 ?_
              refine G.sub [1, 0] rfl ?_
              exact ih2 (i2 + 1) (by omega)
            · -- f 26
              exfalso; omega
          | succ m21 ih21 =>
            intro i21 hi21
            refine g_iload_n 2 rfl dX8_averagesNow_21 ?_
            refine gn_ic 5 (by decide) dX8_averagesNow_22 ?_
            refine gn_icmp_ge (by omega) (by omega) (tgt := 48) (by decide) dX8_averagesNow_23 (fun cc4 => ?_) (fun cc4 => ?_)
            · -- t 48
              exfalso; omega
            · -- f 26
              refine m_get 0 rfl f_X8_31 rfl dX8_averagesNow_26 dX8_averagesNow_27 ?_
              refine gn_ic 5 (by decide) dX8_averagesNow_30 ?_
              refine g_iload_n 1 rfl dX8_averagesNow_31 ?_
              refine gn_imul dX8_averagesNow_32 ?_
              refine g_iload_n 2 rfl dX8_averagesNow_33 ?_
              refine gn_iadd dX8_averagesNow_34 ?_
              refine g_aload_n 0 rfl dX8_averagesNow_35 ?_
              refine g_iload_n 1 rfl dX8_averagesNow_36 ?_
              refine g_iload_n 2 rfl dX8_averagesNow_37 ?_
              refine gv_V (c_X8_averageAt hc hc12 (by omega)) l_X8_83 rfl m_rcv (Nat.le_of_ble_eq_true rfl) (Nat.le_of_ble_eq_true rfl) rfl dX8_averagesNow_38 ?_
              refine gn_iast (E2 := MW Γ mo F I (avA A (onU f (A 7) c (i2 + 1)) (avU f (A 6) c (5 * i2 + i21 + 1))) f) MW_7 (by omega) (by decide) (by rw [MW_s7, updA_6]; exact congrArg (fun z => MW Γ mo F I (avA A _ z) f) (avU_s (by omega))) dX8_averagesNow_41 ?_
              refine gn_inc (lv2 := [(2, _), (0, _), (1, _)]) 2 rfl (by decide) rfl dX8_averagesNow_42 ?_
              refine g_goto (tgt := 21) (by decide) dX8_averagesNow_45 ?_
              refine G.sub [1, 2, 0] rfl ?_
              exact ih21 (i21 + 1) (by omega)
        refine G.sub [1, 2, 0] rfl ?_
        exact L21 _ 0 (Nat.zero_add _)
  refine G.sub [1, 0] rfl ?_
  exact L2 _ 0 (Nat.zero_add _)
set_option maxRecDepth 100000 in
set_option maxHeartbeats 4000000 in
theorem c_X8_slipFor {Γ : Gm} {mo n : Nat} {F : Hp} {I : Nat → Int32} {A : Nat → Nat → Int32} {f : Nat → Int32} {k φ : Nat} (hk : k < 12) (hφ : f (13 + 16 * k) = nI φ) (hφ5 : φ < 5) : Ct Γ 3 MX8_slipFor 0 0 [.ref mo, .int (nI k)] (MW Γ mo F I A f) n (Rt (some (.int (slpF f (A 6) (A 7) k))) (MW Γ mo F I A f) n) X0 := by
  refine Ct.of (by decide +kernel) rfl (Nat.le_of_ble_eq_true rfl) ?_
  refine G.sub (lv2 := [(0, _), (1, _)]) [0, 1] rfl ?_
  refine m_get 0 rfl f_X8_19 rfl dX8_slipFor_0 dX8_slipFor_1 ?_
  refine g_iload_n 1 rfl dX8_slipFor_4 ?_
  refine gv_S (c_X8_l ) l_X8_56 rfl (Nat.le_of_ble_eq_true rfl) (Nat.le_of_ble_eq_true rfl) rfl dX8_slipFor_5 ?_
  refine gn_ic 0 (by decide) dX8_slipFor_8 ?_
  refine gn_iadd0 dX8_slipFor_9 ?_
  refine gn_iald MW_3 (by omega) (by decide) dX8_slipFor_10 ?_
  refine g_top (y := nI φ) hφ ?_
  refine g_istore_n (lv2 := [(2, _), (0, _), (1, _)]) (by decide) rfl dX8_slipFor_11 ?_
  refine m_get 1 rfl f_X8_34 rfl dX8_slipFor_12 dX8_slipFor_13 ?_
  refine g_iload_n 0 rfl dX8_slipFor_16 ?_
  refine gn_iald MW_8 (by omega) (by decide) dX8_slipFor_17 ?_
  refine gn_ic 2 (by decide) dX8_slipFor_18 ?_
  refine g_icmp_ge (tgt := 24) (by decide) dX8_slipFor_19 (fun h9 => ?_) (fun h9 => ?_)
  · -- t 24
    refine g_iconst (v := -1) dX8_slipFor_24 (by decide) ?_
    refine g_istore_n (lv2 := [(3, _), (2, _), (0, _), (1, _)]) (by decide) rfl dX8_slipFor_25 ?_
    refine gn_ic 0 (by decide) dX8_slipFor_26 ?_
    refine g_istore (lv2 := [(4, _), (3, _), (2, _), (0, _), (1, _)]) (by decide) rfl dX8_slipFor_27 ?_
    refine gn_ic 0 (by decide) dX8_slipFor_29 ?_
    refine g_istore (lv2 := [(5, _), (4, _), (3, _), (2, _), (0, _), (1, _)]) (by decide) rfl dX8_slipFor_30 ?_
    have L32 : ∀ (m32 i32 : Nat), i32 + m32 = 5 → G Γ 3 MX8_slipFor (Rt (some (.int (slpF f (A 6) (A 7) k))) (MW Γ mo F I A f) n) X0 32 [(0, .ref mo), (1, .int (nI k)), (2, .int (nI φ)), (3, .int (far (rw5 f k) (fun v => A 6 (5 * φ + v)) i32).1), (4, .int (far (rw5 f k) (fun v => A 6 (5 * φ + v)) i32).2), (5, .int (nI i32))] [] (MW Γ mo F I A f) n 0 0 := by
      intro m32
      induction m32 with
      | zero =>
        intro i32 hi32
        refine g_iload 5 rfl dX8_slipFor_32 ?_
        refine gn_ic 5 (by decide) dX8_slipFor_34 ?_
        refine gn_icmp_ge (by omega) (by omega) (tgt := 98) (by decide) dX8_slipFor_35 (fun cc1 => ?_) (fun cc1 => ?_)
        · -- t 98
          refine g_iload_n 3 rfl dX8_slipFor_98 ?_
          exact g_iret ⟨by rw [slpF_eq hφ hφ5, if_neg (Int32.not_lt.mpr h9), show i32 = 5 by omega], rfl, rfl⟩ rfl rfl dX8_slipFor_99
        · -- f 38
          exfalso; omega
      | succ m32 ih32 =>
        intro i32 hi32
        refine g_iload 5 rfl dX8_slipFor_32 ?_
        refine gn_ic 5 (by decide) dX8_slipFor_34 ?_
        refine gn_icmp_ge (by omega) (by omega) (tgt := 98) (by decide) dX8_slipFor_35 (fun cc2 => ?_) (fun cc2 => ?_)
        · -- t 98
          exfalso; omega
        · -- f 38
          refine g_aload_n 0 rfl dX8_slipFor_38 ?_
          refine g_iload_n 1 rfl dX8_slipFor_39 ?_
          refine g_iload 5 rfl dX8_slipFor_40 ?_
          refine gv_V (c_X8_at (by omega) (by omega)) l_X8_73 rfl m_rcv (Nat.le_of_ble_eq_true rfl) (Nat.le_of_ble_eq_true rfl) rfl dX8_slipFor_42 ?_
          refine m_get 0 rfl f_X8_31 rfl dX8_slipFor_45 dX8_slipFor_46 ?_
          refine gn_ic 5 (by decide) dX8_slipFor_49 ?_
          refine g_iload_n 2 rfl dX8_slipFor_50 ?_
          refine gn_imul dX8_slipFor_51 ?_
          refine g_iload 5 rfl dX8_slipFor_52 ?_
          refine gn_iadd dX8_slipFor_54 ?_
          refine gn_iald MW_7 (by omega) (by decide) dX8_slipFor_55 ?_
          refine g_isub dX8_slipFor_56 ?_
          refine gv_S (c_X8_without ) l_X8_77 rfl (Nat.le_of_ble_eq_true rfl) (Nat.le_of_ble_eq_true rfl) rfl dX8_slipFor_57 ?_
          refine g_istore (lv2 := [(6, _), (0, _), (1, _), (2, _), (3, _), (4, _), (5, _)]) (by decide) rfl dX8_slipFor_60 ?_
          refine g_iload 0 rfl dX8_slipFor_62 ?_
          refine g_iload 5 rfl dX8_slipFor_64 ?_
          refine g_icmp_le (tgt := 74) (by decide) dX8_slipFor_66 (fun h1 => ?_) (fun h1 => ?_)
          · -- t 74
            refine g_iload_n 4 rfl dX8_slipFor_74 ?_
            refine g_istore_n (lv2 := [(3, _), (6, _), (0, _), (1, _), (2, _), (4, _), (5, _)]) (by decide) rfl dX8_slipFor_75 ?_
            refine g_iload 1 rfl dX8_slipFor_76 ?_
            refine g_iload 5 rfl dX8_slipFor_78 ?_
            refine g_icmp_le (tgt := 88) (by decide) dX8_slipFor_80 (fun h2 => ?_) (fun h2 => ?_)
            · -- t 88
              refine g_iload 5 rfl dX8_slipFor_88 ?_
              refine g_istore (lv2 := [(4, _), (3, _), (6, _), (0, _), (1, _), (2, _), (5, _)]) (by decide) rfl dX8_slipFor_90 ?_
              refine gn_inc (lv2 := [(5, _), (4, _), (3, _), (6, _), (0, _), (1, _), (2, _)]) 6 rfl (by decide) rfl dX8_slipFor_92 ?_
              refine g_goto (tgt := 32) (by decide) dX8_slipFor_95 ?_
              refine G.sub [4, 5, 6, 2, 1, 0] rfl ?_
              (have h := ih32 (i32 + 1) (by omega); rw [far_p (g := rw5 f k) (h := fun v => A 6 (5 * φ + v)) (v := i32) h1] at h; exact h)
            · -- f 83
              exact absurd h1 h2
          · -- f 69
            refine g_iload 6 rfl dX8_slipFor_69 ?_
            refine g_goto (tgt := 75) (by decide) dX8_slipFor_71 ?_
            refine g_istore_n (lv2 := [(3, _), (6, _), (0, _), (1, _), (2, _), (4, _), (5, _)]) (by decide) rfl dX8_slipFor_75 ?_
            refine g_iload 1 rfl dX8_slipFor_76 ?_
            refine g_iload 5 rfl dX8_slipFor_78 ?_
            refine g_icmp_le (tgt := 88) (by decide) dX8_slipFor_80 (fun h2 => ?_) (fun h2 => ?_)
            · -- t 88
              exact absurd h2 h1
            · -- f 83
              refine g_iload 1 rfl dX8_slipFor_83 ?_
              refine g_goto (tgt := 90) (by decide) dX8_slipFor_85 ?_
              refine g_istore (lv2 := [(4, _), (3, _), (6, _), (0, _), (1, _), (2, _), (5, _)]) (by decide) rfl dX8_slipFor_90 ?_
              refine gn_inc (lv2 := [(5, _), (4, _), (3, _), (6, _), (0, _), (1, _), (2, _)]) 6 rfl (by decide) rfl dX8_slipFor_92 ?_
              refine g_goto (tgt := 32) (by decide) dX8_slipFor_95 ?_
              refine G.sub [4, 5, 6, 2, 1, 0] rfl ?_
              (have h := ih32 (i32 + 1) (by omega); rw [far_n (g := rw5 f k) (h := fun v => A 6 (5 * φ + v)) (v := i32) h1] at h; exact h)
    refine G.sub [4, 5, 3, 2, 1, 0] rfl ?_
    exact L32 _ 0 (Nat.zero_add _)
  · -- f 22
    refine g_iconst (v := -1) dX8_slipFor_22 (by decide) ?_
    exact g_iret ⟨by rw [slpF_eq hφ hφ5, if_pos (Int32.not_le.mp h9)], rfl, rfl⟩ rfl rfl dX8_slipFor_23
set_option maxRecDepth 100000 in
set_option maxHeartbeats 4000000 in
theorem c_X8_hasToGo {Γ : Gm} {mo n : Nat} {F : Hp} {I : Nat → Int32} {A : Nat → Nat → Int32} {f : Nat → Int32} {k : Nat} (hk : k < 12) : Ct Γ 4 MX8_hasToGo 0 0 [.ref mo, .int (nI k)] (MW Γ mo F I A f) n (Rt (some (.int (bi (MustB f k = true)))) (MW Γ mo F I A f) n) X0 := by
  refine Ct.of (by decide +kernel) rfl (Nat.le_of_ble_eq_true rfl) ?_
  refine G.sub (lv2 := [(0, _), (1, _)]) [0, 1] rfl ?_
  refine m_get 0 rfl f_X8_19 rfl dX8_hasToGo_0 dX8_hasToGo_1 ?_
  refine g_iload_n 1 rfl dX8_hasToGo_4 ?_
  refine gv_S (c_X8_l ) l_X8_56 rfl (Nat.le_of_ble_eq_true rfl) (Nat.le_of_ble_eq_true rfl) rfl dX8_hasToGo_5 ?_
  refine gn_ic 1 (by decide) dX8_hasToGo_8 ?_
  refine gn_iadd dX8_hasToGo_9 ?_
  refine gn_iald MW_3 (by omega) (by decide) dX8_hasToGo_10 ?_
  refine g_if_ge (tgt := 40) (by decide) dX8_hasToGo_11 (fun h1 => ?_) (fun h1 => ?_)
  · -- t 40
    refine gn_ic 0 (by decide) dX8_hasToGo_40 ?_
    exact g_iret ⟨by rw [bi_f (fun z => absurd (must_t.mp z).1 (Int32.not_lt.mpr h1))], rfl, rfl⟩ (by decide +kernel) rfl dX8_hasToGo_41
  · -- f 14
    refine g_aload_n 0 rfl dX8_hasToGo_14 ?_
    refine g_iload_n 1 rfl dX8_hasToGo_15 ?_
    refine gv_V (c_X8_toLandlady (by omega)) l_X8_86 rfl m_rcv (Nat.le_of_ble_eq_true rfl) (Nat.le_of_ble_eq_true rfl) rfl dX8_hasToGo_16 ?_
    refine m_get 0 rfl f_X8_19 rfl dX8_hasToGo_19 dX8_hasToGo_20 ?_
    refine gn_ic 1 (by decide) dX8_hasToGo_23 ?_
    refine gn_iald MW_3 (by omega) (by decide) dX8_hasToGo_24 ?_
    refine g_icmp_le (tgt := 40) (by decide) dX8_hasToGo_25 (fun h2 => ?_) (fun h2 => ?_)
    · -- t 40
      refine gn_ic 0 (by decide) dX8_hasToGo_40 ?_
      exact g_iret ⟨by rw [bi_f (fun z => absurd (must_t.mp z).2.1 (Int32.not_lt.mpr h2))], rfl, rfl⟩ (by decide +kernel) rfl dX8_hasToGo_41
    · -- f 28
      refine g_aload_n 0 rfl dX8_hasToGo_28 ?_
      refine g_iload_n 1 rfl dX8_hasToGo_29 ?_
      refine gv_V (c_X8_rhymesHer (by omega)) l_X8_89 rfl m_rcv (Nat.le_of_ble_eq_true rfl) (Nat.le_of_ble_eq_true rfl) rfl dX8_hasToGo_30 ?_
      refine g_if_ne (tgt := 40) (by decide) dX8_hasToGo_33 (fun h3 => ?_) (fun h3 => ?_)
      · -- t 40
        refine gn_ic 0 (by decide) dX8_hasToGo_40 ?_
        exact g_iret ⟨by rw [bi_f (fun z => (must_t.mp z).2.2 (bi_n0 h3))], rfl, rfl⟩ (by decide +kernel) rfl dX8_hasToGo_41
      · -- f 36
        refine gn_ic 1 (by decide) dX8_hasToGo_36 ?_
        refine g_goto (tgt := 41) (by decide) dX8_hasToGo_37 ?_
        exact g_iret ⟨by rw [bi_t (must_t.mpr ⟨Int32.not_le.mp h1, Int32.not_le.mp h2, bi_0 h3⟩)], rfl, rfl⟩ (by decide +kernel) rfl dX8_hasToGo_41
set_option maxRecDepth 100000 in
set_option maxHeartbeats 4000000 in
theorem c_X8_moves {Γ : Gm} {mo n : Nat} {F : Hp} {I : Nat → Int32} {A : Nat → Nat → Int32} {f : Nat → Int32} {k v : Nat} {t : Int32} (hk : k < 12) (hv : v < 5) : Ct Γ 2 MX8_moves 0 0 [.ref mo, .int (nI k), .int (nI v), .int t] (MW Γ mo F I A f) n (Rt none (MW Γ mo F I A (mvF f (13 + 16 * k + 5 + v) t)) n) X0 := by
  refine Ct.of (by decide +kernel) rfl (Nat.le_of_ble_eq_true rfl) ?_
  refine G.sub (lv2 := [(0, _), (1, _), (2, _), (3, _)]) [0, 1, 2, 3] rfl ?_
  refine g_iload_n 1 rfl dX8_moves_0 ?_
  refine gv_S (c_X8_l ) l_X8_56 rfl (Nat.le_of_ble_eq_true rfl) (Nat.le_of_ble_eq_true rfl) rfl dX8_moves_1 ?_
  refine gn_ic 5 (by decide) dX8_moves_4 ?_
  refine gn_iadd dX8_moves_5 ?_
  refine g_iload_n 2 rfl dX8_moves_6 ?_
  refine gn_iadd dX8_moves_7 ?_
  refine g_istore (lv2 := [(4, _), (0, _), (1, _), (2, _), (3, _)]) (by decide) rfl dX8_moves_8 ?_
  refine m_get 1 rfl f_X8_19 rfl dX8_moves_10 dX8_moves_11 ?_
  refine g_iload 0 rfl dX8_moves_14 ?_
  refine g_dup2 rfl rfl dX8_moves_16 ?_
  refine gn_iald MW_3 (by omega) (by decide) dX8_moves_17 ?_
  refine m_get 1 rfl f_X8_19 rfl dX8_moves_18 dX8_moves_19 ?_
  refine g_iload 0 rfl dX8_moves_22 ?_
  refine gn_iald MW_3 (by omega) (by decide) dX8_moves_24 ?_
  refine g_iload_n 4 rfl dX8_moves_25 ?_
  refine g_icmp_ge (tgt := 33) (by decide) dX8_moves_26 (fun h1 => ?_) (fun h1 => ?_)
  · -- t 33
    refine g_iconst (v := -1) dX8_moves_33 (by decide) ?_
    refine g_iadd dX8_moves_34 ?_
    refine gn_iast MW_3 (by omega) (by decide) MW_s3 dX8_moves_35 ?_
    exact g_vret ⟨rfl, by unfold mvF; rw [if_neg (Int32.not_lt.mpr h1)], rfl⟩ rfl dX8_moves_36
  · -- f 29
    refine gn_ic 1 (by decide) dX8_moves_29 ?_
    refine g_goto (tgt := 34) (by decide) dX8_moves_30 ?_
    refine g_iadd dX8_moves_34 ?_
    refine gn_iast MW_3 (by omega) (by decide) MW_s3 dX8_moves_35 ?_
    exact g_vret ⟨rfl, by unfold mvF; rw [if_pos (Int32.not_le.mp h1)], rfl⟩ rfl dX8_moves_36
set_option maxRecDepth 100000 in
set_option maxHeartbeats 4000000 in
theorem c_X8_charges {Γ : Gm} {mo n : Nat} {F : Hp} {I : Nat → Int32} {A : Nat → Nat → Int32} {f : Nat → Int32} {k : Nat} (hk : k < 12) : Ct Γ 2 MX8_charges 0 0 [.ref mo, .int (nI k)] (MW Γ mo F I A f) n (Rt none (MW Γ mo F I A (chgF f k)) n) X0 := by
  refine Ct.of (by decide +kernel) rfl (Nat.le_of_ble_eq_true rfl) ?_
  refine G.sub (lv2 := [(0, _), (1, _)]) [0, 1] rfl ?_
  refine g_aload_n 0 rfl dX8_charges_0 ?_
  refine m_get 0 rfl f_X8_19 rfl dX8_charges_1 dX8_charges_2 ?_
  refine g_iload_n 1 rfl dX8_charges_5 ?_
  refine gv_S (c_X8_l ) l_X8_56 rfl (Nat.le_of_ble_eq_true rfl) (Nat.le_of_ble_eq_true rfl) rfl dX8_charges_6 ?_
  refine gn_ic 0 (by decide) dX8_charges_9 ?_
  refine gn_iadd0 dX8_charges_10 ?_
  refine gn_iald MW_3 (by omega) (by decide) dX8_charges_11 ?_
  refine gv_V (c_X8_rentAt ) l_X8_93 rfl m_rcv (Nat.le_of_ble_eq_true rfl) (Nat.le_of_ble_eq_true rfl) rfl dX8_charges_12 ?_
  refine g_istore_n (lv2 := [(2, _), (0, _), (1, _)]) (by decide) rfl dX8_charges_15 ?_
  refine m_get 1 rfl f_X8_19 rfl dX8_charges_16 dX8_charges_17 ?_
  refine g_iload_n 2 rfl dX8_charges_20 ?_
  refine gv_S (c_X8_l ) l_X8_56 rfl (Nat.le_of_ble_eq_true rfl) (Nat.le_of_ble_eq_true rfl) rfl dX8_charges_21 ?_
  refine gn_ic 1 (by decide) dX8_charges_24 ?_
  refine gn_iadd dX8_charges_25 ?_
  refine g_dup2 rfl rfl dX8_charges_26 ?_
  refine gn_iald MW_3 (by omega) (by decide) dX8_charges_27 ?_
  refine g_iload_n 0 rfl dX8_charges_28 ?_
  refine g_isub dX8_charges_29 ?_
  refine gn_iast MW_3 (by omega) (by decide) MW_s3 dX8_charges_30 ?_
  refine m_get 1 rfl f_X8_19 rfl dX8_charges_31 dX8_charges_32 ?_
  refine gn_bp 11 (by decide) dX8_charges_35 ?_
  refine g_dup2 rfl rfl dX8_charges_37 ?_
  refine gn_iald MW_3 (by omega) (by decide) dX8_charges_38 ?_
  refine g_iload_n 0 rfl dX8_charges_39 ?_
  refine g_iadd dX8_charges_40 ?_
  refine gn_iast MW_3 (by omega) (by decide) MW_s3 dX8_charges_41 ?_
  exact g_vret ⟨rfl, rfl, rfl⟩ rfl dX8_charges_42
set_option maxRecDepth 100000 in
set_option maxHeartbeats 4000000 in
theorem c_X8_teaches {Γ : Gm} {mo n : Nat} {F : Hp} {I : Nat → Int32} {A : Nat → Nat → Int32} {f : Nat → Int32} {k : Nat} (hk : k < 12) : Ct Γ 4 MX8_teaches 0 0 [.ref mo, .int (nI k)] (MW Γ mo F I A f) n (Rt none (MW Γ mo F I A (tchF f k)) n) X0 := by
  refine Ct.of (by decide +kernel) rfl (Nat.le_of_ble_eq_true rfl) ?_
  refine G.sub (lv2 := [(0, _), (1, _)]) [0, 1] rfl ?_
  refine g_aload_n 0 rfl dX8_teaches_0 ?_
  refine g_iload_n 1 rfl dX8_teaches_1 ?_
  refine gv_V (c_X8_lessonFor (by omega)) l_X8_96 rfl m_rcv (Nat.le_of_ble_eq_true rfl) (Nat.le_of_ble_eq_true rfl) rfl dX8_teaches_2 ?_
  refine g_istore_n (lv2 := [(2, _), (0, _), (1, _)]) (by decide) rfl dX8_teaches_5 ?_
  refine m_get 1 rfl f_X8_19 rfl dX8_teaches_6 dX8_teaches_7 ?_
  refine g_iload_n 2 rfl dX8_teaches_10 ?_
  refine gv_S (c_X8_l ) l_X8_56 rfl (Nat.le_of_ble_eq_true rfl) (Nat.le_of_ble_eq_true rfl) rfl dX8_teaches_11 ?_
  refine gn_ic 1 (by decide) dX8_teaches_14 ?_
  refine gn_iadd dX8_teaches_15 ?_
  refine gn_iald MW_3 (by omega) (by decide) dX8_teaches_16 ?_
  refine g_if_lt (tgt := 54) (by decide) dX8_teaches_17 (fun h1 => ?_) (fun h1 => ?_)
  · -- t 54
    exact g_vret ⟨rfl, by rw [tch_f (Or.inl h1)], rfl⟩ rfl dX8_teaches_54
  · -- f 20
    refine g_iload_n 0 rfl dX8_teaches_20 ?_
    refine g_iconst (v := -1) dX8_teaches_21 (by decide) ?_
    refine g_icmp_eq (tgt := 54) (by decide) dX8_teaches_22 (fun h2 => ?_) (fun h2 => ?_)
    · -- t 54
      exact g_vret ⟨rfl, by rw [tch_f (Or.inr h2)], rfl⟩ rfl dX8_teaches_54
    · -- f 25
      obtain ⟨v, hv, ev⟩ := (far_or (rw5 f k) (la5 f) 5).resolve_left h2
      rw [ev]
      refine g_aload_n 1 rfl dX8_teaches_25 ?_
      refine g_iload_n 2 rfl dX8_teaches_26 ?_
      refine g_iload_n 0 rfl dX8_teaches_27 ?_
      refine m_get 1 rfl f_X8_19 rfl dX8_teaches_28 dX8_teaches_29 ?_
      refine gn_ic 2 (by decide) dX8_teaches_32 ?_
      refine g_iload_n 0 rfl dX8_teaches_33 ?_
      refine gn_iadd dX8_teaches_34 ?_
      refine gn_iald MW_3 (by omega) (by decide) dX8_teaches_35 ?_
      refine gu_V (c_X8_moves hk hv) l_X8_99 rfl m_rcv (Nat.le_of_ble_eq_true rfl) (Nat.le_of_ble_eq_true rfl) rfl dX8_teaches_36 ?_
      refine m_get 1 rfl f_X8_19 rfl dX8_teaches_39 dX8_teaches_40 ?_
      refine g_iload_n 2 rfl dX8_teaches_43 ?_
      refine gv_S (c_X8_l ) l_X8_56 rfl (Nat.le_of_ble_eq_true rfl) (Nat.le_of_ble_eq_true rfl) rfl dX8_teaches_44 ?_
      refine gn_ic 2 (by decide) dX8_teaches_47 ?_
      refine gn_iadd dX8_teaches_48 ?_
      refine g_dup2 rfl rfl dX8_teaches_49 ?_
      refine gn_iald MW_3 (by omega) (by decide) dX8_teaches_50 ?_
      refine gn_ic 1 (by decide) dX8_teaches_51 ?_
      refine g_iadd dX8_teaches_52 ?_
      refine gn_iast MW_3 (by omega) (by decide) MW_s3 dX8_teaches_53 ?_
      exact g_vret ⟨rfl, by rw [tch_t h1 hv ev], rfl⟩ rfl dX8_teaches_54
set_option maxRecDepth 100000 in
set_option maxHeartbeats 4000000 in
theorem c_X8_dines {Γ : Gm} {mo n : Nat} {F : Hp} {I : Nat → Int32} {A : Nat → Nat → Int32} {f : Nat → Int32} {k φ : Nat} (hk : k < 12) (hφ : f (13 + 16 * k) = nI φ) (hφ5 : φ < 5) : Ct Γ 4 MX8_dines 0 0 [.ref mo, .int (nI k)] (MW Γ mo F I A f) n (Rt none (MW Γ mo F I A (dinF f (A 6) (A 7) k)) n) X0 := by
  refine Ct.of (by decide +kernel) rfl (Nat.le_of_ble_eq_true rfl) ?_
  refine G.sub (lv2 := [(0, _), (1, _)]) [0, 1] rfl ?_
  refine g_aload_n 0 rfl dX8_dines_0 ?_
  refine g_iload_n 1 rfl dX8_dines_1 ?_
  refine gv_V (c_X8_slipFor hk hφ hφ5) l_X8_102 rfl m_rcv (Nat.le_of_ble_eq_true rfl) (Nat.le_of_ble_eq_true rfl) rfl dX8_dines_2 ?_
  refine g_istore_n (lv2 := [(2, _), (0, _), (1, _)]) (by decide) rfl dX8_dines_5 ?_
  refine g_iload_n 0 rfl dX8_dines_6 ?_
  refine g_iconst (v := -1) dX8_dines_7 (by decide) ?_
  refine g_icmp_eq (tgt := 52) (by decide) dX8_dines_8 (fun h2 => ?_) (fun h2 => ?_)
  · -- t 52
    exact g_vret ⟨rfl, by rw [din_f h2], rfl⟩ rfl dX8_dines_52
  · -- f 11
    obtain ⟨v, hv, ev⟩ := (slp_or f (A 6) (A 7) k).resolve_left h2
    rw [ev]
    refine g_aload_n 1 rfl dX8_dines_11 ?_
    refine g_iload_n 2 rfl dX8_dines_12 ?_
    refine g_iload_n 0 rfl dX8_dines_13 ?_
    refine m_get 1 rfl f_X8_31 rfl dX8_dines_14 dX8_dines_15 ?_
    refine gn_ic 5 (by decide) dX8_dines_18 ?_
    refine m_get 1 rfl f_X8_19 rfl dX8_dines_19 dX8_dines_20 ?_
    refine g_iload_n 2 rfl dX8_dines_23 ?_
    refine gv_S (c_X8_l ) l_X8_56 rfl (Nat.le_of_ble_eq_true rfl) (Nat.le_of_ble_eq_true rfl) rfl dX8_dines_24 ?_
    refine gn_ic 0 (by decide) dX8_dines_27 ?_
    refine gn_iadd0 dX8_dines_28 ?_
    refine gn_iald MW_3 (by omega) (by decide) dX8_dines_29 ?_
    refine g_top (y := nI φ) hφ ?_
    refine gn_imul dX8_dines_30 ?_
    refine g_iload_n 0 rfl dX8_dines_31 ?_
    refine gn_iadd dX8_dines_32 ?_
    refine gn_iald MW_7 (by omega) (by decide) dX8_dines_33 ?_
    refine gu_V (c_X8_moves hk hv) l_X8_99 rfl m_rcv (Nat.le_of_ble_eq_true rfl) (Nat.le_of_ble_eq_true rfl) rfl dX8_dines_34 ?_
    refine m_get 1 rfl f_X8_19 rfl dX8_dines_37 dX8_dines_38 ?_
    refine g_iload_n 2 rfl dX8_dines_41 ?_
    refine gv_S (c_X8_l ) l_X8_56 rfl (Nat.le_of_ble_eq_true rfl) (Nat.le_of_ble_eq_true rfl) rfl dX8_dines_42 ?_
    refine gn_ic 3 (by decide) dX8_dines_45 ?_
    refine gn_iadd dX8_dines_46 ?_
    refine g_dup2 rfl rfl dX8_dines_47 ?_
    refine gn_iald MW_3 (by omega) (by decide) dX8_dines_48 ?_
    refine gn_ic 1 (by decide) dX8_dines_49 ?_
    refine g_iadd dX8_dines_50 ?_
    refine gn_iast MW_3 (by omega) (by decide) MW_s3 dX8_dines_51 ?_
    exact g_vret ⟨rfl, by rw [din_t hφ hφ5 hv ev], rfl⟩ rfl dX8_dines_52
set_option maxRecDepth 100000 in
set_option maxHeartbeats 4000000 in
theorem c_X8_goes {Γ : Gm} {mo n : Nat} {F : Hp} {I : Nat → Int32} {A : Nat → Nat → Int32} {f : Nat → Int32} {k c : Nat} (hc : f 7 = nI c) (hc12 : c ≤ 12) (hkc : k < c) : Ct Γ 2 MX8_goes 0 0 [.ref mo, .int (nI k)] (MW Γ mo F I A f) n (Rt none (MW Γ mo F (trkF I f k) A (gonF f k c)) n) X0 := by
  refine Ct.of (by decide +kernel) rfl (Nat.le_of_ble_eq_true rfl) ?_
  refine G.sub (lv2 := [(0, _), (1, _)]) [0, 1] rfl ?_
  refine m_get 0 rfl f_X8_19 rfl dX8_goes_0 dX8_goes_1 ?_
  refine g_iload_n 1 rfl dX8_goes_4 ?_
  refine gv_S (c_X8_l ) l_X8_56 rfl (Nat.le_of_ble_eq_true rfl) (Nat.le_of_ble_eq_true rfl) rfl dX8_goes_5 ?_
  refine gn_ic 1 (by decide) dX8_goes_8 ?_
  refine gn_iadd dX8_goes_9 ?_
  refine gn_iald MW_3 (by omega) (by decide) dX8_goes_10 ?_
  refine g_istore_n (lv2 := [(2, _), (0, _), (1, _)]) (by decide) rfl dX8_goes_11 ?_
  refine m_get 1 rfl f_X8_19 rfl dX8_goes_12 dX8_goes_13 ?_
  refine gn_bp 12 (by decide) dX8_goes_16 ?_
  refine g_dup2 rfl rfl dX8_goes_18 ?_
  refine gn_iald MW_3 (by omega) (by decide) dX8_goes_19 ?_
  refine g_iload_n 0 rfl dX8_goes_20 ?_
  refine g_iadd dX8_goes_21 ?_
  refine gn_iast MW_3 (by omega) (by decide) MW_s3 dX8_goes_22 ?_
  refine m_get 1 rfl f_X8_19 rfl dX8_goes_23 dX8_goes_24 ?_
  refine gn_bp 7 (by decide) dX8_goes_27 ?_
  refine g_dup2 rfl rfl dX8_goes_29 ?_
  refine gn_iald MW_3 (by omega) (by decide) dX8_goes_30 ?_
  refine gn_ic 1 (by decide) dX8_goes_31 ?_
  refine g_isub dX8_goes_32 ?_
  refine gn_iast MW_3 (by omega) (by decide) MW_s3 dX8_goes_33 ?_
  refine g_iload_n 2 rfl dX8_goes_34 ?_
  refine gv_S (c_X8_l ) l_X8_56 rfl (Nat.le_of_ble_eq_true rfl) (Nat.le_of_ble_eq_true rfl) rfl dX8_goes_35 ?_
  refine g_istore_n (lv2 := [(3, _), (2, _), (0, _), (1, _)]) (by decide) rfl dX8_goes_38 ?_
  have L39 : ∀ (m39 i39 : Nat), i39 + m39 = 16 * (c - 1 - k) → G Γ 2 MX8_goes (Rt none (MW Γ mo F (trkF I f k) A (gonF f k c)) n) X0 39 [(0, .ref mo), (1, .int (nI k)), (2, .int (f (13 + 16 * k + 1))), (3, .int (nI (13 + 16 * k + i39)))] [] (MW Γ mo F I A (shf (gon2 f k) (13 + 16 * k) i39)) n 0 0 := by
    intro m39
    induction m39 with
    | zero =>
      intro i39 hi39
      refine g_iload_n 3 rfl dX8_goes_39 ?_
      refine m_get 0 rfl f_X8_19 rfl dX8_goes_40 dX8_goes_41 ?_
      refine gn_bp 7 (by decide) dX8_goes_44 ?_
      refine gn_iald MW_3 (by omega) (by decide) dX8_goes_46 ?_
      refine g_top (y := nI (c - 1)) (gon_7 hc (by omega)) ?_
      refine gv_S (c_X8_l ) l_X8_56 rfl (Nat.le_of_ble_eq_true rfl) (Nat.le_of_ble_eq_true rfl) rfl dX8_goes_47 ?_
      refine gn_icmp_ge (by omega) (by omega) (tgt := 74) (by decide) dX8_goes_50 (fun cc1 => ?_) (fun cc1 => ?_)
      · -- t 74
        obtain rfl : i39 = 16 * (c - 1 - k) := by omega
        refine m_get 0 rfl f_X8_37 rfl dX8_goes_74 dX8_goes_75 ?_
        refine g_iload_n 1 rfl dX8_goes_78 ?_
        refine g_icmp_ne (tgt := 95) (by decide) dX8_goes_79 (fun h1 => ?_) (fun h1 => ?_)
        · -- t 95
          refine m_get 0 rfl f_X8_37 rfl dX8_goes_95 dX8_goes_96 ?_
          refine g_iload_n 1 rfl dX8_goes_99 ?_
          refine g_icmp_le (tgt := 113) (by decide) dX8_goes_100 (fun h2 => ?_) (fun h2 => ?_)
          · -- t 113
            exact g_vret ⟨rfl, by unfold gonF trkF; rw [if_neg h1, if_neg (Int32.not_lt.mpr h2)], rfl⟩ rfl dX8_goes_113
          · -- f 103
            refine g_aload_n 0 rfl dX8_goes_103 ?_
            refine g_dup rfl dX8_goes_104 ?_
            refine m_getS f_X8_37 rfl dX8_goes_105 ?_
            refine gn_ic 1 (by decide) dX8_goes_108 ?_
            refine g_isub dX8_goes_109 ?_
            refine m_put f_X8_37 w_X8_11 (by decide) rfl dX8_goes_110 ?_
            exact g_vret ⟨rfl, by unfold gonF trkF; rw [if_neg h1, if_pos (Int32.not_le.mp h2)], rfl⟩ rfl dX8_goes_113
        · -- f 82
          refine g_aload_n 0 rfl dX8_goes_82 ?_
          refine g_iconst (v := -1) dX8_goes_83 (by decide) ?_
          refine m_put f_X8_37 w_X8_11 (by decide) rfl dX8_goes_84 ?_
          refine g_aload_n 0 rfl dX8_goes_87 ?_
          refine g_iload_n 2 rfl dX8_goes_88 ?_
          refine m_put f_X8_70 w_X8_12 (by decide) rfl dX8_goes_89 ?_
          refine g_goto (tgt := 113) (by decide) dX8_goes_92 ?_
          exact g_vret ⟨rfl, by unfold gonF trkF; rw [if_pos h1], rfl⟩ rfl dX8_goes_113
      · -- f 53
        exfalso; omega
    | succ m39 ih39 =>
      intro i39 hi39
      refine g_iload_n 3 rfl dX8_goes_39 ?_
      refine m_get 0 rfl f_X8_19 rfl dX8_goes_40 dX8_goes_41 ?_
      refine gn_bp 7 (by decide) dX8_goes_44 ?_
      refine gn_iald MW_3 (by omega) (by decide) dX8_goes_46 ?_
      refine g_top (y := nI (c - 1)) (gon_7 hc (by omega)) ?_
      refine gv_S (c_X8_l ) l_X8_56 rfl (Nat.le_of_ble_eq_true rfl) (Nat.le_of_ble_eq_true rfl) rfl dX8_goes_47 ?_
      refine gn_icmp_ge (by omega) (by omega) (tgt := 74) (by decide) dX8_goes_50 (fun cc2 => ?_) (fun cc2 => ?_)
      · -- t 74
        exfalso; omega
      · -- f 53
        refine m_get 0 rfl f_X8_19 rfl dX8_goes_53 dX8_goes_54 ?_
        refine g_iload_n 3 rfl dX8_goes_57 ?_
        refine m_get 0 rfl f_X8_19 rfl dX8_goes_58 dX8_goes_59 ?_
        refine g_iload_n 3 rfl dX8_goes_62 ?_
        refine gn_bp 16 (by decide) dX8_goes_63 ?_
        refine gn_iadd dX8_goes_65 ?_
        refine gn_iald MW_3 (by omega) (by decide) dX8_goes_66 ?_
        refine gn_iast (E2 := MW Γ mo F I A (shf (gon2 f k) (13 + 16 * k) (i39 + 1))) MW_3 (by omega) (by decide) (by rw [MW_s3]; exact congrArg (fun z => MW Γ mo F I A z) shf_s) dX8_goes_67 ?_
        refine gn_inc (lv2 := [(3, _), (0, _), (1, _), (2, _)]) 3 rfl (by decide) rfl dX8_goes_68 ?_
        refine g_goto (tgt := 39) (by decide) dX8_goes_71 ?_
        refine G.sub [1, 2, 3, 0] rfl ?_
        exact ih39 (i39 + 1) (by omega)
  refine G.sub [2, 3, 1, 0] rfl ?_
  refine g_world (E2 := MW Γ mo F I A (shf (gon2 f k) (13 + 16 * k) 0)) (by rw [shf_0]; rfl) ?_
  exact L39 _ 0 (Nat.zero_add _)
end GM2
