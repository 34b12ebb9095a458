section GM3
set_option maxRecDepth 100000 in
set_option maxHeartbeats 4000000 in
theorem c_X8_inspects {Γ : Gm} {mo n : Nat} {F : Hp} {I : Nat → Int32} {A : Nat → Nat → Int32} {f : Nat → Int32} {c : Nat} (h : Okr f c) : Ct Γ 5 MX8_inspects 0 0 [.ref mo] (MW Γ mo F I A f) n (Rt none (MW Γ mo F (insM c 0 f I).2 A (insM c 0 f I).1) n) X0 := by
  refine Ct.of (by decide +kernel) rfl (Nat.le_of_ble_eq_true rfl) ?_
  refine G.sub (lv2 := [(0, _)]) [0] rfl ?_
  refine gn_ic 0 (by decide) dX8_inspects_0 ?_
  refine g_istore_n (lv2 := [(1, _), (0, _)]) (by decide) rfl dX8_inspects_1 ?_
  have L2 : ∀ (m2 : Nat) (p : Nat) (f1 I1 : Nat → Int32), (Okr f1 (p + m2)) → (insM m2 p f1 I1 = insM c 0 f I) → G Γ 5 MX8_inspects (Rt none (MW Γ mo F (insM c 0 f I).2 A (insM c 0 f I).1) n) X0 2 [(0, .ref mo), (1, .int (nI p))] [] (MW Γ mo F I1 A f1) n 0 0 := by
    intro m2
    induction m2 with
    | zero =>
      intro p f1 I1 h7 hE
      have h12 := h7.2.1
      refine g_iload_n 1 rfl dX8_inspects_2 ?_
      refine m_get 0 rfl f_X8_19 rfl dX8_inspects_3 dX8_inspects_4 ?_
      refine gn_bp 7 (by decide) dX8_inspects_7 ?_
      refine gn_iald MW_3 (by omega) (by decide) dX8_inspects_9 ?_
      refine g_top (y := _) h7.1 ?_
      refine gn_icmp_ge (by omega) (by omega) (tgt := 46) (by decide) dX8_inspects_10 (fun cc1 => ?_) (fun cc1 => ?_)
      · -- t 46
        exact g_vret ⟨rfl, by rw [← hE]; rfl, rfl⟩ rfl dX8_inspects_46
      · -- f 13
        exfalso; omega
    | succ m2 ih2 =>
      intro p f1 I1 h7 hE
      have h12 := h7.2.1
      refine g_iload_n 1 rfl dX8_inspects_2 ?_
      refine m_get 0 rfl f_X8_19 rfl dX8_inspects_3 dX8_inspects_4 ?_
      refine gn_bp 7 (by decide) dX8_inspects_7 ?_
      refine gn_iald MW_3 (by omega) (by decide) dX8_inspects_9 ?_
      refine g_top (y := _) h7.1 ?_
      refine gn_icmp_ge (by omega) (by omega) (tgt := 46) (by decide) dX8_inspects_10 (fun cc2 => ?_) (fun cc2 => ?_)
      · -- t 46
        exfalso; omega
      · -- f 13
        refine g_aload_n 0 rfl dX8_inspects_13 ?_
        refine g_iload_n 1 rfl dX8_inspects_14 ?_
        refine gv_V (c_X8_hasToGo (by omega)) l_X8_105 rfl m_rcv (Nat.le_of_ble_eq_true rfl) (Nat.le_of_ble_eq_true rfl) rfl dX8_inspects_15 ?_
        refine g_if_eq (tgt := 40) (by decide) dX8_inspects_18 (fun h1 => ?_) (fun h1 => ?_)
        · -- t 40
          refine gn_inc (lv2 := [(1, _), (0, _)]) 1 rfl (by decide) rfl dX8_inspects_40 ?_
          refine g_goto (tgt := 2) (by decide) dX8_inspects_43 ?_
          refine G.sub [1, 0] rfl ?_
          exact ih2 (p + 1) f1 I1 (by rw [show p + 1 + m2 = p + (m2 + 1) by omega]; exact h7) ((insM_f (bi_0 h1)).symm.trans hE)
        · -- f 21
          refine g_aload_n 0 rfl dX8_inspects_21 ?_
          refine g_iload_n 1 rfl dX8_inspects_22 ?_
          refine gu_V (c_X8_goes (c := p + (m2 + 1)) h7.1 h12 (by omega)) l_X8_108 rfl m_rcv (Nat.le_of_ble_eq_true rfl) (Nat.le_of_ble_eq_true rfl) rfl dX8_inspects_23 ?_
          refine m_get 0 rfl f_X8_19 rfl dX8_inspects_26 dX8_inspects_27 ?_
          refine gn_bp 9 (by decide) dX8_inspects_30 ?_
          refine g_dup2 rfl rfl dX8_inspects_32 ?_
          refine gn_iald MW_3 (by omega) (by decide) dX8_inspects_33 ?_
          refine gn_ic 1 (by decide) dX8_inspects_34 ?_
          refine g_iadd dX8_inspects_35 ?_
          refine gn_iast MW_3 (by omega) (by decide) MW_s3 dX8_inspects_36 ?_
          refine g_goto (tgt := 2) (by decide) dX8_inspects_37 ?_
          refine G.sub [0, 1] rfl ?_
          exact ih2 p _ _ (h7.gone (k := p) (by omega)) ((insM_t (bi_n0 h1)).symm.trans hE)
  refine G.sub [1, 0] rfl ?_
  exact L2 c 0 f I (by rw [Nat.zero_add]; exact h) rfl
set_option maxRecDepth 100000 in
set_option maxHeartbeats 4000000 in
theorem c_X8_passesDay {Γ : Gm} {mo n : Nat} {F : Hp} {I : Nat → Int32} {A : Nat → Nat → Int32} {f : Nat → Int32} {c : Nat} (h : Okr f c) : Ct Γ 6 MX8_passesDay 0 0 [.ref mo] (MW Γ mo F I A f) n (fun v E1 n1 => v = none ∧ n1 = n ∧ ∃ A2, Sc A A2 ∧ E1 = MW Γ mo F (dayM f I c).2 A2 (dayM f I c).1) X0 := by
  refine Ct.of (by decide +kernel) rfl (Nat.le_of_ble_eq_true rfl) ?_
  have hA := dayA_ok h
  have h12 := h.2.1
  have hB : dinN (tchN (chgN f c) c) (avU (tchN (chgN f c) c) (A 6) c 25) (onU (tchN (chgN f c) c) (A 7) c 5) c = dayB f c := dinN_c hA.2.2 (fun j hj => by unfold avU; rw [if_pos hj, if_pos hj]; rfl) (fun j hj => by unfold onU; rw [if_pos hj, if_pos hj]; rfl) c (Nat.le_refl c)
  refine G.sub (lv2 := [(0, _)]) [0] rfl ?_
  refine gn_ic 0 (by decide) dX8_passesDay_0 ?_
  refine g_istore_n (lv2 := [(1, _), (0, _)]) (by decide) rfl dX8_passesDay_1 ?_
  have L2 : ∀ (m2 i2 : Nat), i2 + m2 = c → G Γ 6 MX8_passesDay (fun v E1 n1 => v = none ∧ n1 = n ∧ ∃ A2, Sc A A2 ∧ E1 = MW Γ mo F (dayM f I c).2 A2 (dayM f I c).1) X0 2 [(0, .ref mo), (1, .int (nI i2))] [] (MW Γ mo F I A (chgN f i2)) n 0 0 := by
    intro m2
    induction m2 with
    | zero =>
      intro i2 hi2
      refine g_iload_n 1 rfl dX8_passesDay_2 ?_
      refine m_get 0 rfl f_X8_19 rfl dX8_passesDay_3 dX8_passesDay_4 ?_
      refine gn_bp 7 (by decide) dX8_passesDay_7 ?_
      refine gn_iald MW_3 (by omega) (by decide) dX8_passesDay_9 ?_
      refine g_top (y := nI c) (by rw [chgN_7]; exact h.1) ?_
      refine gn_icmp_ge (by omega) (by omega) (tgt := 24) (by decide) dX8_passesDay_10 (fun cc1 => ?_) (fun cc1 => ?_)
      · -- t 24
        obtain rfl : c = i2 := by omega
        refine gn_ic 0 (by decide) dX8_passesDay_24 ?_
        refine g_istore_n (lv2 := [(1, _), (0, _)]) (by decide) rfl dX8_passesDay_25 ?_
        have L26 : ∀ (m26 i26 : Nat), i26 + m26 = c → G Γ 6 MX8_passesDay (fun v E1 n1 => v = none ∧ n1 = n ∧ ∃ A2, Sc A A2 ∧ E1 = MW Γ mo F (dayM f I c).2 A2 (dayM f I c).1) X0 26 [(0, .ref mo), (1, .int (nI i26))] [] (MW Γ mo F I A (tchN (chgN f c) i26)) n 0 0 := by
          intro m26
          induction m26 with
          | zero =>
            intro i26 hi26
            refine g_iload_n 1 rfl dX8_passesDay_26 ?_
            refine m_get 0 rfl f_X8_19 rfl dX8_passesDay_27 dX8_passesDay_28 ?_
            refine gn_bp 7 (by decide) dX8_passesDay_31 ?_
            refine gn_iald MW_3 (by omega) (by decide) dX8_passesDay_33 ?_
            refine g_top (y := nI c) (by rw [tchN_7, chgN_7]; exact h.1) ?_
            refine gn_icmp_ge (by omega) (by omega) (tgt := 48) (by decide) dX8_passesDay_34 (fun cc2 => ?_) (fun cc2 => ?_)
            · -- t 48
              obtain rfl : c = i26 := by omega
              refine g_aload_n 0 rfl dX8_passesDay_48 ?_
              refine gu_V (c_X8_averagesNow (c := c) (by rw [tchN_7, chgN_7]; exact h.1) h12) l_X8_118 rfl m_rcv (Nat.le_of_ble_eq_true rfl) (Nat.le_of_ble_eq_true rfl) rfl dX8_passesDay_49 ?_
              refine gn_ic 0 (by decide) dX8_passesDay_52 ?_
              refine g_istore_n (lv2 := [(1, _), (0, _)]) (by decide) rfl dX8_passesDay_53 ?_
              have L54 : ∀ (m54 i54 : Nat), i54 + m54 = c → G Γ 6 MX8_passesDay (fun v E1 n1 => v = none ∧ n1 = n ∧ ∃ A2, Sc A A2 ∧ E1 = MW Γ mo F (dayM f I c).2 A2 (dayM f I c).1) X0 54 [(0, .ref mo), (1, .int (nI i54))] [] (MW Γ mo F I (avA A (onU (tchN (chgN f c) c) (A 7) c 5) (avU (tchN (chgN f c) c) (A 6) c 25)) (dinN (tchN (chgN f c) c) (avU (tchN (chgN f c) c) (A 6) c 25) (onU (tchN (chgN f c) c) (A 7) c 5) i54)) n 0 0 := by
                intro m54
                induction m54 with
                | zero =>
                  intro i54 hi54
                  refine g_iload_n 1 rfl dX8_passesDay_54 ?_
                  refine m_get 0 rfl f_X8_19 rfl dX8_passesDay_55 dX8_passesDay_56 ?_
                  refine gn_bp 7 (by decide) dX8_passesDay_59 ?_
                  refine gn_iald MW_3 (by omega) (by decide) dX8_passesDay_61 ?_
                  refine g_top (y := nI c) ((dinN_7 hA.2.2 i54 (by omega)).trans hA.1) ?_
                  refine gn_icmp_ge (by omega) (by omega) (tgt := 76) (by decide) dX8_passesDay_62 (fun cc3 => ?_) (fun cc3 => ?_)
                  · -- t 76
                    obtain rfl : c = i54 := by omega
                    rw [hB]
                    refine m_get 0 rfl f_X8_19 rfl dX8_passesDay_76 dX8_passesDay_77 ?_
                    refine gn_bp 8 (by decide) dX8_passesDay_80 ?_
                    refine g_dup2 rfl rfl dX8_passesDay_82 ?_
                    refine gn_iald MW_3 (by omega) (by decide) dX8_passesDay_83 ?_
                    refine gn_ic 1 (by decide) dX8_passesDay_84 ?_
                    refine g_iadd dX8_passesDay_85 ?_
                    refine gn_iast MW_3 (by omega) (by decide) MW_s3 dX8_passesDay_86 ?_
                    refine m_get 0 rfl f_X8_19 rfl dX8_passesDay_87 dX8_passesDay_88 ?_
                    refine gn_bp 8 (by decide) dX8_passesDay_91 ?_
                    refine gn_iald MW_3 (by omega) (by decide) dX8_passesDay_93 ?_
                    refine gn_bp 7 (by decide) dX8_passesDay_94 ?_
                    refine g_irem (by decide) dX8_passesDay_96 ?_
                    refine g_if_ne (tgt := 104) (by decide) dX8_passesDay_97 (fun h1 => ?_) (fun h1 => ?_)
                    · -- t 104
                      exact g_vret ⟨rfl, rfl, _, Sc.av, by rw [dayM_f (f := f) (c := c) (fun z => h1 (InsB_t.mp z))] <;> rfl⟩ rfl dX8_passesDay_104
                    · -- f 100
                      refine g_aload_n 0 rfl dX8_passesDay_100 ?_
                      refine gu_V (c_X8_inspects (c := c) (dayC_ok h)) l_X8_124 rfl m_rcv (Nat.le_of_ble_eq_true rfl) (Nat.le_of_ble_eq_true rfl) rfl dX8_passesDay_101 ?_
                      exact g_vret ⟨rfl, rfl, _, Sc.av, by rw [dayM_t (f := f) (c := c) (InsB_t.mpr h1)] <;> rfl⟩ rfl dX8_passesDay_104
                  · -- f 65
                    exfalso; omega
                | succ m54 ih54 =>
                  intro i54 hi54
                  refine g_iload_n 1 rfl dX8_passesDay_54 ?_
                  refine m_get 0 rfl f_X8_19 rfl dX8_passesDay_55 dX8_passesDay_56 ?_
                  refine gn_bp 7 (by decide) dX8_passesDay_59 ?_
                  refine gn_iald MW_3 (by omega) (by decide) dX8_passesDay_61 ?_
                  refine g_top (y := nI c) ((dinN_7 hA.2.2 i54 (by omega)).trans hA.1) ?_
                  refine gn_icmp_ge (by omega) (by omega) (tgt := 76) (by decide) dX8_passesDay_62 (fun cc4 => ?_) (fun cc4 => ?_)
                  · -- t 76
                    exfalso; omega
                  · -- f 65
                    refine g_aload_n 0 rfl dX8_passesDay_65 ?_
                    refine g_iload_n 1 rfl dX8_passesDay_66 ?_
                    obtain ⟨φ, hφ5, hφ⟩ := hA.2.2 i54 (by omega)
                    refine gu_V (c_X8_dines (φ := φ) (by omega) ((dinN_fl hA.2.2 i54 (by omega)).trans hφ) hφ5) l_X8_121 rfl m_rcv (Nat.le_of_ble_eq_true rfl) (Nat.le_of_ble_eq_true rfl) rfl dX8_passesDay_67 ?_
                    refine gn_inc (lv2 := [(1, _), (0, _)]) 1 rfl (by decide) rfl dX8_passesDay_70 ?_
                    refine g_goto (tgt := 54) (by decide) dX8_passesDay_73 ?_
                    refine G.sub [1, 0] rfl ?_
                    exact ih54 (i54 + 1) (by omega)
              refine G.sub [1, 0] rfl ?_
              exact L54 _ 0 (Nat.zero_add _)
            · -- f 37
              exfalso; omega
          | succ m26 ih26 =>
            intro i26 hi26
            refine g_iload_n 1 rfl dX8_passesDay_26 ?_
            refine m_get 0 rfl f_X8_19 rfl dX8_passesDay_27 dX8_passesDay_28 ?_
            refine gn_bp 7 (by decide) dX8_passesDay_31 ?_
            refine gn_iald MW_3 (by omega) (by decide) dX8_passesDay_33 ?_
            refine g_top (y := nI c) (by rw [tchN_7, chgN_7]; exact h.1) ?_
            refine gn_icmp_ge (by omega) (by omega) (tgt := 48) (by decide) dX8_passesDay_34 (fun cc5 => ?_) (fun cc5 => ?_)
            · -- t 48
              exfalso; omega
            · -- f 37
              refine g_aload_n 0 rfl dX8_passesDay_37 ?_
              refine g_iload_n 1 rfl dX8_passesDay_38 ?_
              refine gu_V (c_X8_teaches (by omega)) l_X8_115 rfl m_rcv (Nat.le_of_ble_eq_true rfl) (Nat.le_of_ble_eq_true rfl) rfl dX8_passesDay_39 ?_
              refine gn_inc (lv2 := [(1, _), (0, _)]) 1 rfl (by decide) rfl dX8_passesDay_42 ?_
              refine g_goto (tgt := 26) (by decide) dX8_passesDay_45 ?_
              refine G.sub [1, 0] rfl ?_
              exact ih26 (i26 + 1) (by omega)
        refine G.sub [1, 0] rfl ?_
        exact L26 _ 0 (Nat.zero_add _)
      · -- f 13
        exfalso; omega
    | succ m2 ih2 =>
      intro i2 hi2
      refine g_iload_n 1 rfl dX8_passesDay_2 ?_
      refine m_get 0 rfl f_X8_19 rfl dX8_passesDay_3 dX8_passesDay_4 ?_
      refine gn_bp 7 (by decide) dX8_passesDay_7 ?_
      refine gn_iald MW_3 (by omega) (by decide) dX8_passesDay_9 ?_
      refine g_top (y := nI c) (by rw [chgN_7]; exact h.1) ?_
      refine gn_icmp_ge (by omega) (by omega) (tgt := 24) (by decide) dX8_passesDay_10 (fun cc6 => ?_) (fun cc6 => ?_)
      · -- t 24
        exfalso; omega
      · -- f 13
        refine g_aload_n 0 rfl dX8_passesDay_13 ?_
        refine g_iload_n 1 rfl dX8_passesDay_14 ?_
        refine gu_V (c_X8_charges (by omega)) l_X8_112 rfl m_rcv (Nat.le_of_ble_eq_true rfl) (Nat.le_of_ble_eq_true rfl) rfl dX8_passesDay_15 ?_
        refine gn_inc (lv2 := [(1, _), (0, _)]) 1 rfl (by decide) rfl dX8_passesDay_18 ?_
        refine g_goto (tgt := 2) (by decide) dX8_passesDay_21 ?_
        refine G.sub [1, 0] rfl ?_
        exact ih2 (i2 + 1) (by omega)
  refine G.sub [1, 0] rfl ?_
  exact L2 _ 0 (Nat.zero_add _)
set_option maxRecDepth 100000 in
set_option maxHeartbeats 4000000 in
theorem c_X8_passes {Γ : Gm} {mo n : Nat} {F : Hp} {I : Nat → Int32} {A : Nat → Nat → Int32} {f : Nat → Int32} {c t : Nat} (h : Okr f c) (ht : t < 2 ^ 31) : Ct Γ 7 MX8_passes 0 0 [.ref mo, .int (nI t)] (MW Γ mo F I A f) n (fun v E1 n1 => v = none ∧ n1 = n ∧ ∃ A2, Sc A A2 ∧ E1 = MW Γ mo F (dysM f I t).2 A2 (dysM f I t).1) X0 := by
  refine Ct.of (by decide +kernel) rfl (Nat.le_of_ble_eq_true rfl) ?_
  refine G.sub (lv2 := [(0, _), (1, _)]) [0, 1] rfl ?_
  refine gn_ic 0 (by decide) dX8_passes_0 ?_
  refine g_istore_n (lv2 := [(2, _), (0, _), (1, _)]) (by decide) rfl dX8_passes_1 ?_
  have L2 : ∀ (m2 : Nat) (i : Nat) (A1 : Nat → Nat → Int32), (i + m2 = t) → (Sc A A1) → G Γ 7 MX8_passes (fun v E1 n1 => v = none ∧ n1 = n ∧ ∃ A2, Sc A A2 ∧ E1 = MW Γ mo F (dysM f I t).2 A2 (dysM f I t).1) X0 2 [(0, .ref mo), (1, .int (nI t)), (2, .int (nI i))] [] (MW Γ mo F (dysM f I i).2 A1 (dysM f I i).1) n 0 0 := by
    intro m2
    induction m2 with
    | zero =>
      intro i A1 hi hS
      obtain rfl : t = i := by omega
      refine g_iload_n 2 rfl dX8_passes_2 ?_
      refine g_iload_n 1 rfl dX8_passes_3 ?_
      refine gn_icmp_ge (by omega) (by omega) (tgt := 17) (by decide) dX8_passes_4 (fun cc1 => ?_) (fun cc1 => ?_)
      · -- t 17
        exact g_vret ⟨rfl, rfl, A1, hS, rfl⟩ rfl dX8_passes_17
      · -- f 7
        exfalso; omega
    | succ m2 ih2 =>
      intro i A1 hi hS
      obtain ⟨c2, hc2, h2⟩ := dysM_ok (I := I) h i
      refine g_iload_n 2 rfl dX8_passes_2 ?_
      refine g_iload_n 1 rfl dX8_passes_3 ?_
      refine gn_icmp_ge (by omega) (by omega) (tgt := 17) (by decide) dX8_passes_4 (fun cc2 => ?_) (fun cc2 => ?_)
      · -- t 17
        exfalso; omega
      · -- f 7
        refine g_aload_n 0 rfl dX8_passes_7 ?_
        refine gx_V0 (c_X8_passesDay h2) l_X8_60 rfl m_rcv (Nat.le_of_ble_eq_true rfl) (Nat.le_of_ble_eq_true rfl) rfl dX8_passes_8 (fun _ _ _ z => z.1) (fun E1 n1 z => ?_)
        obtain ⟨-, rfl, A2, hS2, rfl⟩ := z
        rw [show (dayM (dysM f I i).1 (dysM f I i).2 c2) = dysM f I (i + 1) from by rw [dysM, mny_eq h2]]
        refine gn_inc (lv2 := [(2, _), (0, _), (1, _)]) 2 rfl (by decide) rfl dX8_passes_11 ?_
        refine g_goto (tgt := 2) (by decide) dX8_passes_14 ?_
        refine G.sub [1, 2, 0] rfl ?_
        exact ih2 (i + 1) A2 (by omega) (hS.tr hS2)
  refine G.sub [1, 2, 0] rfl ?_
  exact L2 t 0 A (by omega) Sc.rf
end GM3
