section GM6
set_option maxRecDepth 100000 in
set_option maxHeartbeats 4000000 in
theorem c_X8_errs {Γ : Gm} {mo n : Nat} {F : Hp} {J : Nat → Int32} {A : Nat → Nat → Int32} {f : Nat → Int32} {s : PS} {e : Nat} {k : Nat} (hs : PV e s) : Ct Γ 1 MX8_errs 0 0 [.ref mo, .int (nI k)] (MW Γ mo F (pI J s) A f) n (Rt none (MW Γ mo F (pI J (erP k s)) A f) n) X0 := by
  refine Ct.of (by decide +kernel) rfl (Nat.le_of_ble_eq_true rfl) ?_
  have h6 := hs.2.2.2.2.1
  refine G.sub (lv2 := [(0, _), (1, _)]) [0, 1] rfl ?_
  refine m_get (v := .int (nI ((s).2.2.2.2.1))) 0 rfl f_X8_151 rfl dX8_errs_0 dX8_errs_1 ?_
  have bb1 := (show PV e (s) from hs).2.2.2.2.1
  refine gn_if_ne (by omega) (tgt := 20) (by decide) dX8_errs_4 (fun h1 => ?_) (fun h1 => ?_)
  · -- t 20
    exact g_vret ⟨rfl, by rw [erP_f h1], rfl⟩ rfl dX8_errs_20
  · -- f 7
    refine g_aload_n 0 rfl dX8_errs_7 ?_
    refine g_iload_n 1 rfl dX8_errs_8 ?_
    refine m_putP24 f_X8_151 dX8_errs_9 ?_
    refine g_aload_n 0 rfl dX8_errs_12 ?_
    refine m_get (v := .int (nI ((s).2.1))) 0 rfl f_X8_136 rfl dX8_errs_13 dX8_errs_14 ?_
    refine m_putP25 f_X8_154 dX8_errs_17 ?_
    exact g_vret ⟨rfl, by rw [erP_t h1], rfl⟩ rfl dX8_errs_20
set_option maxRecDepth 100000 in
set_option maxHeartbeats 4000000 in
theorem c_X8_isKey {Γ : Gm} {mo n : Nat} {F : Hp} {J : Nat → Int32} {A : Nat → Nat → Int32} {f : Nat → Int32} {s : PS} {e : Nat} {key : Nat} (hJ : J 19 = nI e) (he : e ≤ 600) (hs : PV e s) (hK : A 0 = kyF) (hk6 : key < 6) : Ct Γ 1 MX8_isKey 0 0 [.ref mo, .int (nI key)] (MW Γ mo F (pI J s) A f) n (Rt (some (.int (bi (keyP (A 8) s key = true)))) (MW Γ mo F (pI J (s)) A f) n) X0 := by
  refine Ct.of (by decide +kernel) rfl (Nat.le_of_ble_eq_true rfl) ?_
  obtain ⟨hs1, hs2, hs3, hs4, hs5, hs6, hs7, hs8, hs9⟩ := id hs
  refine G.sub (lv2 := [(0, _), (1, _)]) [0, 1] rfl ?_
  refine m_get (v := .int (nI ((s).1))) 0 rfl f_X8_130 rfl dX8_isKey_0 dX8_isKey_1 ?_
  have bb1 := (show PV e (s) from hs).1
  refine gn_ic 1 (by decide) dX8_isKey_4 ?_
  refine gn_icmp_ne (by omega) (by omega) (tgt := 22) (by decide) dX8_isKey_5 (fun h1 => ?_) (fun h1 => ?_)
  · -- t 22
    refine gn_ic 0 (by decide) dX8_isKey_22 ?_
    exact g_iret ⟨by rw [bi_f (fun z => by have := keyP_i z; omega)], rfl, rfl⟩ (by decide +kernel) rfl dX8_isKey_23
  · -- f 8
    refine m_get (v := .int (nI ((s).2.2.1))) 0 rfl f_X8_133 rfl dX8_isKey_8 dX8_isKey_9 ?_
    refine m_get (v := .int (nI ((s).2.1))) 0 rfl f_X8_136 rfl dX8_isKey_12 dX8_isKey_13 ?_
    refine gn_isub (by omega) dX8_isKey_16 ?_
    refine gn_bp 8 (by decide) dX8_isKey_17 ?_
    refine gn_icmp_le (by omega) (by omega) (tgt := 24) (by decide) dX8_isKey_19 (fun h2 => ?_) (fun h2 => ?_)
    · -- t 24
      refine gn_ic 0 (by decide) dX8_isKey_24 ?_
      refine g_istore_n (lv2 := [(2, _), (0, _), (1, _)]) (by decide) rfl dX8_isKey_25 ?_
      have L26 : ∀ (m26 : Nat) (i : Nat), (i + m26 = 8) → (eqK (A 8) s key i = true) → G Γ 1 MX8_isKey (Rt (some (.int (bi (keyP (A 8) s key = true)))) (MW Γ mo F (pI J (s)) A f) n) X0 26 [(0, .ref mo), (1, .int (nI key)), (2, .int (nI i))] [] (MW Γ mo F (pI J s) A f) n 0 0 := by
        intro m26
        induction m26 with
        | zero =>
          intro i hi hE
          refine g_iload_n 2 rfl dX8_isKey_26 ?_
          refine gn_bp 8 (by decide) dX8_isKey_27 ?_
          refine gn_icmp_ge (by omega) (by omega) (tgt := 84) (by decide) dX8_isKey_29 (fun cc2 => ?_) (fun cc2 => ?_)
          · -- t 84
            obtain rfl : i = 8 := by omega
            refine gn_ic 1 (by decide) dX8_isKey_84 ?_
            exact g_iret ⟨by rw [bi_t (keyP_t h1 h2 hE)], rfl, rfl⟩ (by decide +kernel) rfl dX8_isKey_85
          · -- f 32
            exfalso; omega
        | succ m26 ih26 =>
          intro i hi hE
          refine g_iload_n 2 rfl dX8_isKey_26 ?_
          refine gn_bp 8 (by decide) dX8_isKey_27 ?_
          refine gn_icmp_ge (by omega) (by omega) (tgt := 84) (by decide) dX8_isKey_29 (fun cc3 => ?_) (fun cc3 => ?_)
          · -- t 84
            exfalso; omega
          · -- f 32
            refine g_iload_n 2 rfl dX8_isKey_32 ?_
            refine m_get (v := .int (nI ((s).2.2.1))) 0 rfl f_X8_133 rfl dX8_isKey_33 dX8_isKey_34 ?_
            refine m_get (v := .int (nI ((s).2.1))) 0 rfl f_X8_136 rfl dX8_isKey_37 dX8_isKey_38 ?_
            refine gn_isub (by omega) dX8_isKey_41 ?_
            refine gn_icmp_ge (by omega) (by omega) (tgt := 59) (by decide) dX8_isKey_42 (fun h3 => ?_) (fun h3 => ?_)
            · -- t 59
              refine gn_ic 0 (by decide) dX8_isKey_59 ?_
              refine g_istore_n (lv2 := [(3, _), (0, _), (1, _), (2, _)]) (by decide) rfl dX8_isKey_60 ?_
              refine g_iload_n 0 rfl dX8_isKey_61 ?_
              refine m_get 1 rfl f_X8_7 rfl dX8_isKey_62 dX8_isKey_63 ?_
              refine gn_bp 8 (by decide) dX8_isKey_66 ?_
              refine g_iload_n 2 rfl dX8_isKey_68 ?_
              refine gn_imul dX8_isKey_69 ?_
              refine g_iload_n 3 rfl dX8_isKey_70 ?_
              refine gn_iadd dX8_isKey_71 ?_
              refine gn_iald MW_1 (by omega) (by decide) dX8_isKey_72 ?_
              refine g_icmp_eq (tgt := 78) (by decide) dX8_isKey_73 (fun h9 => ?_) (fun h9 => ?_)
              · -- t 78
                refine gn_inc (lv2 := [(2, _), (3, _), (0, _), (1, _)]) 3 rfl (by decide) rfl dX8_isKey_78 ?_
                refine g_goto (tgt := 26) (by decide) dX8_isKey_81 ?_
                refine G.sub [2, 3, 0] rfl ?_
                exact ih26 (i + 1) (by omega) (eqK_s hE (by rw [← hK, letP_f (by omega)]; exact h9))
              · -- f 76
                refine gn_ic 0 (by decide) dX8_isKey_76 ?_
                exact g_iret ⟨by rw [bi_f (fun z => h9 (by rw [hK, ← eqK_at 8 (keyP_i z).2.2 i (by omega), letP_f (by omega)]))], rfl, rfl⟩ (by decide +kernel) rfl dX8_isKey_77
            · -- f 45
              refine m_get 0 rfl f_X8_41 rfl dX8_isKey_45 dX8_isKey_46 ?_
              refine m_get (v := .int (nI ((s).2.1))) 0 rfl f_X8_136 rfl dX8_isKey_49 dX8_isKey_50 ?_
              refine g_iload_n 2 rfl dX8_isKey_53 ?_
              refine gn_iadd dX8_isKey_54 ?_
              refine gn_bald MW_9 (by omega) (by decide) dX8_isKey_55 ?_
              refine g_goto (tgt := 60) (by decide) dX8_isKey_56 ?_
              refine g_istore_n (lv2 := [(3, _), (0, _), (1, _), (2, _)]) (by decide) rfl dX8_isKey_60 ?_
              refine g_iload_n 0 rfl dX8_isKey_61 ?_
              refine m_get 1 rfl f_X8_7 rfl dX8_isKey_62 dX8_isKey_63 ?_
              refine gn_bp 8 (by decide) dX8_isKey_66 ?_
              refine g_iload_n 2 rfl dX8_isKey_68 ?_
              refine gn_imul dX8_isKey_69 ?_
              refine g_iload_n 3 rfl dX8_isKey_70 ?_
              refine gn_iadd dX8_isKey_71 ?_
              refine gn_iald MW_1 (by omega) (by decide) dX8_isKey_72 ?_
              refine g_icmp_eq (tgt := 78) (by decide) dX8_isKey_73 (fun h9 => ?_) (fun h9 => ?_)
              · -- t 78
                refine gn_inc (lv2 := [(2, _), (3, _), (0, _), (1, _)]) 3 rfl (by decide) rfl dX8_isKey_78 ?_
                refine g_goto (tgt := 26) (by decide) dX8_isKey_81 ?_
                refine G.sub [2, 3, 0] rfl ?_
                exact ih26 (i + 1) (by omega) (eqK_s hE (by rw [← hK, letP_t (by omega)]; exact h9))
              · -- f 76
                refine gn_ic 0 (by decide) dX8_isKey_76 ?_
                exact g_iret ⟨by rw [bi_f (fun z => h9 (by rw [hK, ← eqK_at 8 (keyP_i z).2.2 i (by omega), letP_t (by omega)]))], rfl, rfl⟩ (by decide +kernel) rfl dX8_isKey_77
      refine G.sub [1, 2, 0] rfl ?_
      exact L26 8 0 (by omega) rfl
    · -- f 22
      refine gn_ic 0 (by decide) dX8_isKey_22 ?_
      exact g_iret ⟨by rw [bi_f (fun z => by have := keyP_i z; omega)], rfl, rfl⟩ (by decide +kernel) rfl dX8_isKey_23
set_option maxRecDepth 100000 in
set_option maxHeartbeats 4000000 in
theorem c_X8_goesOn {Γ : Gm} {mo n : Nat} {F : Hp} {J : Nat → Int32} {A : Nat → Nat → Int32} {f : Nat → Int32} {s : PS} {e : Nat}  (hJ : J 19 = nI e) (he : e ≤ 600) (hs : PV e s) : Ct Γ 3 MX8_goesOn 0 0 [.ref mo] (MW Γ mo F (pI J s) A f) n (Rt none (MW Γ mo F (pI J (goP (A 8) e s)) A f) n) X0 := by
  refine Ct.of (by decide +kernel) rfl (Nat.le_of_ble_eq_true rfl) ?_
  refine G.sub (lv2 := [(0, _)]) [0] rfl ?_
  refine m_get (v := .int (nI ((s).2.2.2.2.1))) 0 rfl f_X8_151 rfl dX8_goesOn_0 dX8_goesOn_1 ?_
  have bb1 := (show PV e (s) from hs).2.2.2.2.1
  refine gn_if_ne (by omega) (tgt := 11) (by decide) dX8_goesOn_4 (fun h1 => ?_) (fun h1 => ?_)
  · -- t 11
    exact g_vret ⟨rfl, by rw [goP_f h1], rfl⟩ rfl dX8_goesOn_11
  · -- f 7
    refine g_aload_n 0 rfl dX8_goesOn_7 ?_
    refine gu_V (c_X8_next (e := e) hJ he hs.1 hs.2.2.1) l_X8_157 rfl m_rcv (Nat.le_of_ble_eq_true rfl) (Nat.le_of_ble_eq_true rfl) rfl dX8_goesOn_8 ?_
    exact g_vret ⟨rfl, by rw [goP_t h1], rfl⟩ rfl dX8_goesOn_11
set_option maxRecDepth 100000 in
set_option maxHeartbeats 4000000 in
theorem c_X8_here {Γ : Gm} {mo n : Nat} {F : Hp} {J : Nat → Int32} {A : Nat → Nat → Int32} {f : Nat → Int32} {s : PS} {e : Nat} {lo hi : Nat} (hlo : lo < 2 ^ 31) (hhi : hi < 2 ^ 31) (hs : PV e s) : Ct Γ 2 MX8_here 0 0 [.ref mo, .int (nI lo), .int (nI hi)] (MW Γ mo F (pI J s) A f) n (Rt (some (.int (nI (hvP lo hi s)))) (MW Γ mo F (pI J (hrP lo hi s)) A f) n) X0 := by
  refine Ct.of (by decide +kernel) rfl (Nat.le_of_ble_eq_true rfl) ?_
  obtain ⟨hs1, hs2, hs3, hs4, hs5, hs6, hs7, hs8, hs9⟩ := id hs
  refine G.sub (lv2 := [(0, _), (1, _), (2, _)]) [0, 1, 2] rfl ?_
  refine m_get (v := .int (nI ((s).2.2.2.2.1))) 0 rfl f_X8_151 rfl dX8_here_0 dX8_here_1 ?_
  have bb1 := (show PV e (s) from hs).2.2.2.2.1
  refine gn_if_ne (by omega) (tgt := 20) (by decide) dX8_here_4 (fun h4 => ?_) (fun h4 => ?_)
  · -- t 20
    refine m_get (v := .int (nI ((s).2.2.2.2.1))) 0 rfl f_X8_151 rfl dX8_here_20 dX8_here_21 ?_
    have bb2 := (show PV e (s) from hs).2.2.2.2.1
    refine gn_if_ne (by omega) (tgt := 44) (by decide) dX8_here_24 (fun h24 => ?_) (fun h24 => ?_)
    · -- t 44
      refine m_get (v := .int (nI ((s).2.2.2.2.1))) 0 rfl f_X8_151 rfl dX8_here_44 dX8_here_45 ?_
      have bb3 := (show PV e (s) from hs).2.2.2.2.1
      refine gn_if_ne (by omega) (tgt := 58) (by decide) dX8_here_48 (fun h48 => ?_) (fun h48 => ?_)
      · -- t 58
        refine g_iload_n 1 rfl dX8_here_58 ?_
        exact g_iret ⟨by have e9 : hrP lo hi s = _ := hrP_f h4; rw [hvP_f (by rw [e9]; exact h4)], by have e9 : hrP lo hi s = _ := hrP_f h4; rw [e9], rfl⟩ rfl rfl dX8_here_59
      · -- f 51
        exact absurd h48 h4
    · -- f 27
      exact absurd h24 h4
  · -- f 7
    refine m_get (v := .int (nI ((s).1))) 0 rfl f_X8_130 rfl dX8_here_7 dX8_here_8 ?_
    have bb4 := (show PV e (s) from hs).1
    refine gn_ic 2 (by decide) dX8_here_11 ?_
    refine gn_icmp_eq (by omega) (by omega) (tgt := 20) (by decide) dX8_here_12 (fun h12 => ?_) (fun h12 => ?_)
    · -- t 20
      refine m_get (v := .int (nI ((s).2.2.2.2.1))) 0 rfl f_X8_151 rfl dX8_here_20 dX8_here_21 ?_
      have bb5 := (show PV e (s) from hs).2.2.2.2.1
      refine gn_if_ne (by omega) (tgt := 44) (by decide) dX8_here_24 (fun h24 => ?_) (fun h24 => ?_)
      · -- t 44
        exact absurd h4 h24
      · -- f 27
        refine m_get (v := .int (nI ((s).2.2.2.1))) 0 rfl f_X8_148 rfl dX8_here_27 dX8_here_28 ?_
        refine g_iload_n 1 rfl dX8_here_31 ?_
        refine g_iload_n 2 rfl dX8_here_32 ?_
        refine gv_S (c_X8_in ) l_X8_66 rfl (Nat.le_of_ble_eq_true rfl) (Nat.le_of_ble_eq_true rfl) rfl dX8_here_33 ?_
        refine g_if_ne (tgt := 44) (by decide) dX8_here_36 (fun h36 => ?_) (fun h36 => ?_)
        · -- t 44
          refine m_get (v := .int (nI ((s).2.2.2.2.1))) 0 rfl f_X8_151 rfl dX8_here_44 dX8_here_45 ?_
          have bb6 := (show PV e (s) from hs).2.2.2.2.1
          refine gn_if_ne (by omega) (tgt := 58) (by decide) dX8_here_48 (fun h48 => ?_) (fun h48 => ?_)
          · -- t 58
            exact absurd h4 h48
          · -- f 51
            refine m_get (v := .int (nI ((s).2.2.2.1))) 0 rfl f_X8_148 rfl dX8_here_51 dX8_here_52 ?_
            refine g_goto (tgt := 59) (by decide) dX8_here_55 ?_
            exact g_iret ⟨by have e9 : hrP lo hi s = _ := hrP_o h4 h12 ⟨(nI_leI hlo (by omega)).mp (bi_n0 h36).1, (nI_leI (by omega) hhi).mp (bi_n0 h36).2⟩; rw [hvP_t (by rw [e9]; exact h4)], by have e9 : hrP lo hi s = _ := hrP_o h4 h12 ⟨(nI_leI hlo (by omega)).mp (bi_n0 h36).1, (nI_leI (by omega) hhi).mp (bi_n0 h36).2⟩; rw [e9], rfl⟩ rfl rfl dX8_here_59
        · -- f 39
          refine g_aload_n 0 rfl dX8_here_39 ?_
          refine gn_ic 2 (by decide) dX8_here_40 ?_
          refine gu_V (c_X8_errs (e := e) hs) l_X8_160 rfl m_rcv (Nat.le_of_ble_eq_true rfl) (Nat.le_of_ble_eq_true rfl) rfl dX8_here_41 ?_
          refine m_get (v := .int (nI ((erP 2 s).2.2.2.2.1))) 0 rfl f_X8_151 rfl dX8_here_44 dX8_here_45 ?_
          have bb7 := (show PV e (erP 2 s) from erP_v hs (by decide)).2.2.2.2.1
          refine gn_if_ne (by omega) (tgt := 58) (by decide) dX8_here_48 (fun h48 => ?_) (fun h48 => ?_)
          · -- t 58
            refine g_iload_n 1 rfl dX8_here_58 ?_
            exact g_iret ⟨by have e9 : hrP lo hi s = _ := hrP_r h4 h12 (fun z => bi_0 h36 ⟨(nI_leI hlo (by omega)).mpr z.1, (nI_leI (by omega) hhi).mpr z.2⟩); rw [hvP_f (by rw [e9]; exact erP_ne (by decide))], by have e9 : hrP lo hi s = _ := hrP_r h4 h12 (fun z => bi_0 h36 ⟨(nI_leI hlo (by omega)).mpr z.1, (nI_leI (by omega) hhi).mpr z.2⟩); rw [e9], rfl⟩ rfl rfl dX8_here_59
          · -- f 51
            exact absurd h48 (erP_ne (by decide))
    · -- f 15
      refine g_aload_n 0 rfl dX8_here_15 ?_
      refine gn_ic 1 (by decide) dX8_here_16 ?_
      refine gu_V (c_X8_errs (e := e) hs) l_X8_160 rfl m_rcv (Nat.le_of_ble_eq_true rfl) (Nat.le_of_ble_eq_true rfl) rfl dX8_here_17 ?_
      refine m_get (v := .int (nI ((erP 1 s).2.2.2.2.1))) 0 rfl f_X8_151 rfl dX8_here_20 dX8_here_21 ?_
      have bb8 := (show PV e (erP 1 s) from erP_v hs (by decide)).2.2.2.2.1
      refine gn_if_ne (by omega) (tgt := 44) (by decide) dX8_here_24 (fun h24 => ?_) (fun h24 => ?_)
      · -- t 44
        refine m_get (v := .int (nI ((erP 1 s).2.2.2.2.1))) 0 rfl f_X8_151 rfl dX8_here_44 dX8_here_45 ?_
        have bb9 := (show PV e (erP 1 s) from erP_v hs (by decide)).2.2.2.2.1
        refine gn_if_ne (by omega) (tgt := 58) (by decide) dX8_here_48 (fun h48 => ?_) (fun h48 => ?_)
        · -- t 58
          refine g_iload_n 1 rfl dX8_here_58 ?_
          exact g_iret ⟨by have e9 : hrP lo hi s = _ := hrP_k h4 h12; rw [hvP_f (by rw [e9]; exact erP_ne (by decide))], by have e9 : hrP lo hi s = _ := hrP_k h4 h12; rw [e9], rfl⟩ rfl rfl dX8_here_59
        · -- f 51
          exact absurd h48 (erP_ne (by decide))
      · -- f 27
        exact absurd h24 (erP_ne (by decide))
set_option maxRecDepth 100000 in
set_option maxHeartbeats 4000000 in
theorem c_X8_takesNumber {Γ : Gm} {mo n : Nat} {F : Hp} {J : Nat → Int32} {A : Nat → Nat → Int32} {f : Nat → Int32} {s : PS} {e : Nat} {lo hi : Nat} (hJ : J 19 = nI e) (he : e ≤ 600) (hs : PV e s) (hlo : lo < 2 ^ 31) (hhi : hi < 2 ^ 31) : Ct Γ 4 MX8_takesNumber 0 0 [.ref mo, .int (nI lo), .int (nI hi)] (MW Γ mo F (pI J s) A f) n (Rt (some (.int (nI (hvP lo hi s)))) (MW Γ mo F (pI J (tnP (A 8) e lo hi s)) A f) n) X0 := by
  refine Ct.of (by decide +kernel) rfl (Nat.le_of_ble_eq_true rfl) ?_
  refine G.sub (lv2 := [(0, _), (1, _), (2, _)]) [0, 1, 2] rfl ?_
  refine g_aload_n 0 rfl dX8_takesNumber_0 ?_
  refine g_iload_n 1 rfl dX8_takesNumber_1 ?_
  refine g_iload_n 2 rfl dX8_takesNumber_2 ?_
  refine gv_V (c_X8_here (e := e) (by omega) (by omega) (by assumption)) l_X8_163 rfl m_rcv (Nat.le_of_ble_eq_true rfl) (Nat.le_of_ble_eq_true rfl) rfl dX8_takesNumber_3 ?_
  refine g_istore_n (lv2 := [(3, _), (0, _), (1, _), (2, _)]) (by decide) rfl dX8_takesNumber_6 ?_
  refine g_aload_n 1 rfl dX8_takesNumber_7 ?_
  refine gu_V (c_X8_goesOn (e := e) (by assumption) (by assumption) (hrP_v hs)) l_X8_166 rfl m_rcv (Nat.le_of_ble_eq_true rfl) (Nat.le_of_ble_eq_true rfl) rfl dX8_takesNumber_8 ?_
  refine g_iload_n 0 rfl dX8_takesNumber_11 ?_
  exact g_iret ⟨rfl, rfl, rfl⟩ rfl rfl dX8_takesNumber_12
set_option maxRecDepth 100000 in
set_option maxHeartbeats 4000000 in
theorem c_X8_takesWord {Γ : Gm} {mo n : Nat} {F : Hp} {J : Nat → Int32} {A : Nat → Nat → Int32} {f : Nat → Int32} {s : PS} {e : Nat} {key : Nat} (hJ : J 19 = nI e) (he : e ≤ 600) (hs : PV e s) (hK : A 0 = kyF) (hk6 : key < 6) : Ct Γ 4 MX8_takesWord 0 0 [.ref mo, .int (nI key)] (MW Γ mo F (pI J s) A f) n (Rt none (MW Γ mo F (pI J (twP (A 8) e key s)) A f) n) X0 := by
  refine Ct.of (by decide +kernel) rfl (Nat.le_of_ble_eq_true rfl) ?_
  refine G.sub (lv2 := [(0, _), (1, _)]) [0, 1] rfl ?_
  refine m_get (v := .int (nI ((s).2.2.2.2.1))) 0 rfl f_X8_151 rfl dX8_takesWord_0 dX8_takesWord_1 ?_
  have bb1 := (show PV e (s) from hs).2.2.2.2.1
  refine gn_if_ne (by omega) (tgt := 20) (by decide) dX8_takesWord_4 (fun h4 => ?_) (fun h4 => ?_)
  · -- t 20
    refine g_aload_n 0 rfl dX8_takesWord_20 ?_
    refine gu_V (c_X8_goesOn (e := e) (by assumption) (by assumption) (hs)) l_X8_166 rfl m_rcv (Nat.le_of_ble_eq_true rfl) (Nat.le_of_ble_eq_true rfl) rfl dX8_takesWord_21 ?_
    exact g_vret ⟨rfl, by unfold twP; rw [op_eq, if_neg (fun z => h4 z.1)], rfl⟩ rfl dX8_takesWord_24
  · -- f 7
    refine g_aload_n 0 rfl dX8_takesWord_7 ?_
    refine g_iload_n 1 rfl dX8_takesWord_8 ?_
    refine gv_V (c_X8_isKey (e := e) (by assumption) (by assumption) (by assumption) (by assumption) (by omega)) l_X8_169 rfl m_rcv (Nat.le_of_ble_eq_true rfl) (Nat.le_of_ble_eq_true rfl) rfl dX8_takesWord_9 ?_
    refine g_if_ne (tgt := 20) (by decide) dX8_takesWord_12 (fun h12 => ?_) (fun h12 => ?_)
    · -- t 20
      refine g_aload_n 0 rfl dX8_takesWord_20 ?_
      refine gu_V (c_X8_goesOn (e := e) (by assumption) (by assumption) (hs)) l_X8_166 rfl m_rcv (Nat.le_of_ble_eq_true rfl) (Nat.le_of_ble_eq_true rfl) rfl dX8_takesWord_21 ?_
      exact g_vret ⟨rfl, by unfold twP; rw [op_eq, if_neg (fun z => z.2 (bi_n0 h12))], rfl⟩ rfl dX8_takesWord_24
    · -- f 15
      refine g_aload_n 0 rfl dX8_takesWord_15 ?_
      refine gn_ic 1 (by decide) dX8_takesWord_16 ?_
      refine gu_V (c_X8_errs (e := e) hs) l_X8_160 rfl m_rcv (Nat.le_of_ble_eq_true rfl) (Nat.le_of_ble_eq_true rfl) rfl dX8_takesWord_17 ?_
      refine g_aload_n 0 rfl dX8_takesWord_20 ?_
      refine gu_V (c_X8_goesOn (e := e) (by assumption) (by assumption) (erP_v hs (by decide))) l_X8_166 rfl m_rcv (Nat.le_of_ble_eq_true rfl) (Nat.le_of_ble_eq_true rfl) rfl dX8_takesWord_21 ?_
      exact g_vret ⟨rfl, by unfold twP; rw [op_eq, if_pos ⟨h4, bi_0 h12⟩], rfl⟩ rfl dX8_takesWord_24
set_option maxRecDepth 100000 in
set_option maxHeartbeats 4000000 in
theorem c_X8_takesSemicolon {Γ : Gm} {mo n : Nat} {F : Hp} {J : Nat → Int32} {A : Nat → Nat → Int32} {f : Nat → Int32} {s : PS} {e : Nat}  (hJ : J 19 = nI e) (he : e ≤ 600) (hs : PV e s) : Ct Γ 4 MX8_takesSemicolon 0 0 [.ref mo] (MW Γ mo F (pI J s) A f) n (Rt none (MW Γ mo F (pI J (tsP (A 8) e s)) A f) n) X0 := by
  refine Ct.of (by decide +kernel) rfl (Nat.le_of_ble_eq_true rfl) ?_
  obtain ⟨hs1, hs2, hs3, hs4, hs5, hs6, hs7, hs8, hs9⟩ := id hs
  refine G.sub (lv2 := [(0, _)]) [0] rfl ?_
  refine m_get (v := .int (nI ((s).2.2.2.2.1))) 0 rfl f_X8_151 rfl dX8_takesSemicolon_0 dX8_takesSemicolon_1 ?_
  have bb1 := (show PV e (s) from hs).2.2.2.2.1
  refine gn_if_ne (by omega) (tgt := 20) (by decide) dX8_takesSemicolon_4 (fun h4 => ?_) (fun h4 => ?_)
  · -- t 20
    refine g_aload_n 0 rfl dX8_takesSemicolon_20 ?_
    refine gu_V (c_X8_goesOn (e := e) (by assumption) (by assumption) (hs)) l_X8_166 rfl m_rcv (Nat.le_of_ble_eq_true rfl) (Nat.le_of_ble_eq_true rfl) rfl dX8_takesSemicolon_21 ?_
    exact g_vret ⟨rfl, by unfold tsP; rw [op_eq, if_neg (fun z => h4 z.1)], rfl⟩ rfl dX8_takesSemicolon_24
  · -- f 7
    refine m_get (v := .int (nI ((s).1))) 0 rfl f_X8_130 rfl dX8_takesSemicolon_7 dX8_takesSemicolon_8 ?_
    have bb2 := (show PV e (s) from hs).1
    refine gn_ic 3 (by decide) dX8_takesSemicolon_11 ?_
    refine gn_icmp_eq (by omega) (by omega) (tgt := 20) (by decide) dX8_takesSemicolon_12 (fun h12 => ?_) (fun h12 => ?_)
    · -- t 20
      refine g_aload_n 0 rfl dX8_takesSemicolon_20 ?_
      refine gu_V (c_X8_goesOn (e := e) (by assumption) (by assumption) (hs)) l_X8_166 rfl m_rcv (Nat.le_of_ble_eq_true rfl) (Nat.le_of_ble_eq_true rfl) rfl dX8_takesSemicolon_21 ?_
      exact g_vret ⟨rfl, by unfold tsP; rw [op_eq, if_neg (fun z => z.2 h12)], rfl⟩ rfl dX8_takesSemicolon_24
    · -- f 15
      refine g_aload_n 0 rfl dX8_takesSemicolon_15 ?_
      refine gn_ic 1 (by decide) dX8_takesSemicolon_16 ?_
      refine gu_V (c_X8_errs (e := e) hs) l_X8_160 rfl m_rcv (Nat.le_of_ble_eq_true rfl) (Nat.le_of_ble_eq_true rfl) rfl dX8_takesSemicolon_17 ?_
      refine g_aload_n 0 rfl dX8_takesSemicolon_20 ?_
      refine gu_V (c_X8_goesOn (e := e) (by assumption) (by assumption) (erP_v hs (by decide))) l_X8_166 rfl m_rcv (Nat.le_of_ble_eq_true rfl) (Nat.le_of_ble_eq_true rfl) rfl dX8_takesSemicolon_21 ?_
      exact g_vret ⟨rfl, by unfold tsP; rw [op_eq, if_pos ⟨h4, h12⟩], rfl⟩ rfl dX8_takesSemicolon_24
set_option maxRecDepth 100000 in
set_option maxHeartbeats 4000000 in
theorem c_X8_isName {Γ : Gm} {mo n : Nat} {F : Hp} {J : Nat → Int32} {A : Nat → Nat → Int32} {f : Nat → Int32} {s : PS} {e : Nat}  (hs : PV e s) (he : e ≤ 600) : Ct Γ 2 MX8_isName 0 0 [.ref mo] (MW Γ mo F (pI J s) A f) n (Rt none (MW Γ mo F (pI J (nmP s)) A f) n) X0 := by
  refine Ct.of (by decide +kernel) rfl (Nat.le_of_ble_eq_true rfl) ?_
  obtain ⟨hs1, hs2, hs3, hs4, hs5, hs6, hs7, hs8, hs9⟩ := id hs
  refine G.sub (lv2 := [(0, _)]) [0] rfl ?_
  refine m_get (v := .int (nI ((s).2.2.2.2.1))) 0 rfl f_X8_151 rfl dX8_isName_0 dX8_isName_1 ?_
  have bb1 := (show PV e (s) from hs).2.2.2.2.1
  refine gn_if_ne (by omega) (tgt := 34) (by decide) dX8_isName_4 (fun h4 => ?_) (fun h4 => ?_)
  · -- t 34
    exact g_vret ⟨rfl, by unfold nmP; rw [op_eq, if_neg (fun z => h4 z.1)], rfl⟩ rfl dX8_isName_34
  · -- f 7
    refine m_get (v := .int (nI ((s).1))) 0 rfl f_X8_130 rfl dX8_isName_7 dX8_isName_8 ?_
    have bb2 := (show PV e (s) from hs).1
    refine gn_ic 1 (by decide) dX8_isName_11 ?_
    refine gn_icmp_ne (by omega) (by omega) (tgt := 29) (by decide) dX8_isName_12 (fun h12 => ?_) (fun h12 => ?_)
    · -- t 29
      refine g_aload_n 0 rfl dX8_isName_29 ?_
      refine gn_ic 1 (by decide) dX8_isName_30 ?_
      refine gu_V (c_X8_errs (e := e) hs) l_X8_160 rfl m_rcv (Nat.le_of_ble_eq_true rfl) (Nat.le_of_ble_eq_true rfl) rfl dX8_isName_31 ?_
      exact g_vret ⟨rfl, by unfold nmP; rw [op_eq, if_pos ⟨h4, Or.inl h12⟩], rfl⟩ rfl dX8_isName_34
    · -- f 15
      refine m_get (v := .int (nI ((s).2.2.1))) 0 rfl f_X8_133 rfl dX8_isName_15 dX8_isName_16 ?_
      refine m_get (v := .int (nI ((s).2.1))) 0 rfl f_X8_136 rfl dX8_isName_19 dX8_isName_20 ?_
      refine gn_isub (by omega) dX8_isName_23 ?_
      refine gn_bp 6 (by decide) dX8_isName_24 ?_
      refine gn_icmp_le (by omega) (by omega) (tgt := 34) (by decide) dX8_isName_26 (fun h26 => ?_) (fun h26 => ?_)
      · -- t 34
        exact g_vret ⟨rfl, by unfold nmP; rw [op_eq, if_neg (fun z => z.2.elim (fun y => y h12) (by omega))], rfl⟩ rfl dX8_isName_34
      · -- f 29
        refine g_aload_n 0 rfl dX8_isName_29 ?_
        refine gn_ic 1 (by decide) dX8_isName_30 ?_
        refine gu_V (c_X8_errs (e := e) hs) l_X8_160 rfl m_rcv (Nat.le_of_ble_eq_true rfl) (Nat.le_of_ble_eq_true rfl) rfl dX8_isName_31 ?_
        exact g_vret ⟨rfl, by unfold nmP; rw [op_eq, if_pos ⟨h4, Or.inr (by omega)⟩], rfl⟩ rfl dX8_isName_34
set_option maxRecDepth 100000 in
set_option maxHeartbeats 4000000 in
theorem c_X8_lodgerNamed {Γ : Gm} {mo n : Nat} {F : Hp} {I : Nat → Int32} {A : Nat → Nat → Int32} {f : Nat → Int32} {b x c : Nat} (hc : f 7 = nI c) (hc12 : c ≤ 12) (hbx : b ≤ x) (hx : x ≤ 600) : Ct Γ 2 MX8_lodgerNamed 0 0 [.ref mo, .int (nI b), .int (nI x)] (MW Γ mo F I A f) n (Rt (some (.int (fndF (A 8) f b (x - b) c))) (MW Γ mo F I A f) n) X0 := by
  refine Ct.of (by decide +kernel) rfl (Nat.le_of_ble_eq_true rfl) ?_
  refine G.sub (lv2 := [(0, _), (1, _), (2, _)]) [0, 1, 2] rfl ?_
  refine gn_ic 0 (by decide) dX8_lodgerNamed_0 ?_
  refine g_istore_n (lv2 := [(3, _), (0, _), (1, _), (2, _)]) (by decide) rfl dX8_lodgerNamed_1 ?_
  have L2 : ∀ (m2 : Nat) (k : Nat), (k + m2 = c) → (fstK (fun k => nmE (A 8) f k b (x - b) 6) m2 k = fndF (A 8) f b (x - b) c) → G Γ 2 MX8_lodgerNamed (Rt (some (.int (fndF (A 8) f b (x - b) c))) (MW Γ mo F I A f) n) X0 2 [(0, .ref mo), (1, .int (nI b)), (2, .int (nI x)), (3, .int (nI k))] [] (MW Γ mo F I A f) n 0 0 := by
    intro m2
    induction m2 with
    | zero =>
      intro k hk hE
      refine g_iload_n 3 rfl dX8_lodgerNamed_2 ?_
      refine m_get 0 rfl f_X8_19 rfl dX8_lodgerNamed_3 dX8_lodgerNamed_4 ?_
      refine gn_bp 7 (by decide) dX8_lodgerNamed_7 ?_
      refine gn_iald MW_3 (by omega) (by decide) dX8_lodgerNamed_9 ?_
      refine g_top (y := nI c) hc ?_
      refine gn_icmp_ge (by omega) (by omega) (tgt := 133) (by decide) dX8_lodgerNamed_10 (fun cc1 => ?_) (fun cc1 => ?_)
      · -- t 133
        refine g_iconst (v := -1) dX8_lodgerNamed_133 (by decide) ?_
        exact g_iret ⟨by rw [← hE]; rfl, rfl, rfl⟩ rfl rfl dX8_lodgerNamed_134
      · -- f 13
        exfalso; omega
    | succ m2 ih2 =>
      intro k hk hE
      refine g_iload_n 3 rfl dX8_lodgerNamed_2 ?_
      refine m_get 0 rfl f_X8_19 rfl dX8_lodgerNamed_3 dX8_lodgerNamed_4 ?_
      refine gn_bp 7 (by decide) dX8_lodgerNamed_7 ?_
      refine gn_iald MW_3 (by omega) (by decide) dX8_lodgerNamed_9 ?_
      refine g_top (y := nI c) hc ?_
      refine gn_icmp_ge (by omega) (by omega) (tgt := 133) (by decide) dX8_lodgerNamed_10 (fun cc2 => ?_) (fun cc2 => ?_)
      · -- t 133
        exfalso; omega
      · -- f 13
        have K120 : G Γ 2 MX8_lodgerNamed (Rt (some (.int (fndF (A 8) f b (x - b) c))) (MW Γ mo F I A f) n) X0 120 [(0, .ref mo), (1, .int (nI b)), (2, .int (nI x)), (3, .int (nI k)), (4, .int (bi (nmE (A 8) f k b (x - b) 6 = true)))] [] (MW Γ mo F I A f) n 0 0 := by
          refine g_iload 4 rfl dX8_lodgerNamed_120 ?_
          refine g_if_eq (tgt := 127) (by decide) dX8_lodgerNamed_122 (fun h122 => ?_) (fun h122 => ?_)
          · -- t 127
            refine gn_inc (lv2 := [(3, _), (0, _), (1, _), (2, _), (4, _)]) 3 rfl (by decide) rfl dX8_lodgerNamed_127 ?_
            refine g_goto (tgt := 2) (by decide) dX8_lodgerNamed_130 ?_
            refine G.sub [1, 2, 3, 0] rfl ?_
            exact ih2 (k + 1) (by omega) ((fstK_f (p := (fun k => nmE (A 8) f k b (x - b) 6)) (bi_0 h122)).symm.trans hE)
          · -- f 125
            refine g_iload_n 3 rfl dX8_lodgerNamed_125 ?_
            exact g_iret ⟨by rw [← hE, fstK_t (p := (fun k => nmE (A 8) f k b (x - b) 6)) (bi_n0 h122)], rfl, rfl⟩ rfl rfl dX8_lodgerNamed_126
        refine g_iload_n 2 rfl dX8_lodgerNamed_13 ?_
        refine g_iload_n 1 rfl dX8_lodgerNamed_14 ?_
        refine gn_isub (by omega) dX8_lodgerNamed_15 ?_
        refine gn_bp 6 (by decide) dX8_lodgerNamed_16 ?_
        refine gn_icmp_gt (by omega) (by omega) (tgt := 30) (by decide) dX8_lodgerNamed_18 (fun h18 => ?_) (fun h18 => ?_)
        · -- t 30
          refine gn_ic 0 (by decide) dX8_lodgerNamed_30 ?_
          refine g_istore (lv2 := [(4, _), (0, _), (1, _), (2, _), (3, _)]) (by decide) rfl dX8_lodgerNamed_31 ?_
          refine gn_ic 0 (by decide) dX8_lodgerNamed_33 ?_
          refine g_istore (lv2 := [(5, _), (4, _), (0, _), (1, _), (2, _), (3, _)]) (by decide) rfl dX8_lodgerNamed_34 ?_
          have L36 : ∀ (m36 : Nat) (i : Nat), (i + m36 = 6) → G Γ 2 MX8_lodgerNamed (Rt (some (.int (fndF (A 8) f b (x - b) c))) (MW Γ mo F I A f) n) X0 36 [(0, .ref mo), (1, .int (nI b)), (2, .int (nI x)), (3, .int (nI k)), (4, .int (bi (nmE (A 8) f k b (x - b) i = true))), (5, .int (nI i))] [] (MW Γ mo F I A f) n 0 0 := by
            intro m36
            induction m36 with
            | zero =>
              intro i hi
              refine g_iload 5 rfl dX8_lodgerNamed_36 ?_
              refine gn_bp 6 (by decide) dX8_lodgerNamed_38 ?_
              refine gn_icmp_ge (by omega) (by omega) (tgt := 120) (by decide) dX8_lodgerNamed_40 (fun cc3 => ?_) (fun cc3 => ?_)
              · -- t 120
                refine G.sub [0, 1, 2, 3, 4] rfl ?_
                obtain rfl : i = 6 := by omega
                exact K120
              · -- f 43
                exfalso; omega
            | succ m36 ih36 =>
              intro i hi
              refine g_iload 5 rfl dX8_lodgerNamed_36 ?_
              refine gn_bp 6 (by decide) dX8_lodgerNamed_38 ?_
              refine gn_icmp_ge (by omega) (by omega) (tgt := 120) (by decide) dX8_lodgerNamed_40 (fun cc4 => ?_) (fun cc4 => ?_)
              · -- t 120
                exfalso; omega
              · -- f 43
                refine g_iload 4 rfl dX8_lodgerNamed_43 ?_
                refine g_if_eq (tgt := 120) (by decide) dX8_lodgerNamed_45 (fun h45 => ?_) (fun h45 => ?_)
                · -- t 120
                  refine G.sub [0, 1, 2, 3, 4] rfl ?_
                  rw [bi_f (show ¬ nmE (A 8) f k b (x - b) 6 = true from fun z => bi_0 h45 (nmE_mono (by omega) z)), ← bi_f (bi_0 h45)] at K120
                  exact K120
                · -- f 48
                  refine m_get 0 rfl f_X8_19 rfl dX8_lodgerNamed_48 dX8_lodgerNamed_49 ?_
                  refine g_iload_n 3 rfl dX8_lodgerNamed_52 ?_
                  refine gv_S (c_X8_l ) l_X8_56 rfl (Nat.le_of_ble_eq_true rfl) (Nat.le_of_ble_eq_true rfl) rfl dX8_lodgerNamed_53 ?_
                  refine gn_bp 10 (by decide) dX8_lodgerNamed_56 ?_
                  refine gn_iadd dX8_lodgerNamed_58 ?_
                  refine g_iload 5 rfl dX8_lodgerNamed_59 ?_
                  refine gn_iadd dX8_lodgerNamed_61 ?_
                  refine gn_iald MW_3 (by omega) (by decide) dX8_lodgerNamed_62 ?_
                  refine g_iload 5 rfl dX8_lodgerNamed_63 ?_
                  refine g_iload_n 2 rfl dX8_lodgerNamed_65 ?_
                  refine g_iload_n 1 rfl dX8_lodgerNamed_66 ?_
                  refine gn_isub (by omega) dX8_lodgerNamed_67 ?_
                  refine gn_icmp_ge (by omega) (by omega) (tgt := 83) (by decide) dX8_lodgerNamed_68 (fun cc5 => ?_) (fun cc5 => ?_)
                  · -- t 83
                    refine gn_ic 0 (by decide) dX8_lodgerNamed_83 ?_
                    refine g_icmp_ne (tgt := 111) (by decide) dX8_lodgerNamed_84 (fun h84 => ?_) (fun h84 => ?_)
                    · -- t 111
                      refine gn_ic 0 (by decide) dX8_lodgerNamed_111 ?_
                      refine g_istore (lv2 := [(4, _), (0, _), (1, _), (2, _), (3, _), (5, _)]) (by decide) rfl dX8_lodgerNamed_112 ?_
                      refine gn_inc (lv2 := [(5, _), (4, _), (0, _), (1, _), (2, _), (3, _)]) 5 rfl (by decide) rfl dX8_lodgerNamed_114 ?_
                      refine g_goto (tgt := 36) (by decide) dX8_lodgerNamed_117 ?_
                      refine G.sub [2, 3, 4, 5, 1, 0] rfl ?_
                      exact (by have h := ih36 (i + 1) (by omega); rw [bi_f (nmE_n (fun z => h84 (by rw [z.1, if_neg (by omega)])))] at h; exact h)
                    · -- f 87
                      refine g_iload 5 rfl dX8_lodgerNamed_87 ?_
                      refine g_iload_n 2 rfl dX8_lodgerNamed_89 ?_
                      refine g_iload_n 1 rfl dX8_lodgerNamed_90 ?_
                      refine gn_isub (by omega) dX8_lodgerNamed_91 ?_
                      refine gn_icmp_ge (by omega) (by omega) (tgt := 107) (by decide) dX8_lodgerNamed_92 (fun cc6 => ?_) (fun cc6 => ?_)
                      · -- t 107
                        refine gn_ic 1 (by decide) dX8_lodgerNamed_107 ?_
                        refine g_goto (tgt := 112) (by decide) dX8_lodgerNamed_108 ?_
                        refine g_istore (lv2 := [(4, _), (0, _), (1, _), (2, _), (3, _), (5, _)]) (by decide) rfl dX8_lodgerNamed_112 ?_
                        refine gn_inc (lv2 := [(5, _), (4, _), (0, _), (1, _), (2, _), (3, _)]) 5 rfl (by decide) rfl dX8_lodgerNamed_114 ?_
                        refine g_goto (tgt := 36) (by decide) dX8_lodgerNamed_117 ?_
                        refine G.sub [2, 3, 4, 5, 1, 0] rfl ?_
                        exact (by have h := ih36 (i + 1) (by omega); rw [bi_t (nmE_s (bi_n0 h45) (by rw [h84, if_neg (by omega)]) (fun z => absurd z (by omega)))] at h; exact h)
                      · -- f 95
                        refine m_get 0 rfl f_X8_41 rfl dX8_lodgerNamed_95 dX8_lodgerNamed_96 ?_
                        refine g_iload_n 1 rfl dX8_lodgerNamed_99 ?_
                        refine g_iload 5 rfl dX8_lodgerNamed_100 ?_
                        refine gn_iadd dX8_lodgerNamed_102 ?_
                        refine gn_bald MW_9 (by omega) (by decide) dX8_lodgerNamed_103 ?_
                        refine g_if_eq (tgt := 111) (by decide) dX8_lodgerNamed_104 (fun h104 => ?_) (fun h104 => ?_)
                        · -- t 111
                          refine gn_ic 0 (by decide) dX8_lodgerNamed_111 ?_
                          refine g_istore (lv2 := [(4, _), (0, _), (1, _), (2, _), (3, _), (5, _)]) (by decide) rfl dX8_lodgerNamed_112 ?_
                          refine gn_inc (lv2 := [(5, _), (4, _), (0, _), (1, _), (2, _), (3, _)]) 5 rfl (by decide) rfl dX8_lodgerNamed_114 ?_
                          refine g_goto (tgt := 36) (by decide) dX8_lodgerNamed_117 ?_
                          refine G.sub [2, 3, 4, 5, 1, 0] rfl ?_
                          exact (by have h := ih36 (i + 1) (by omega); rw [bi_f (nmE_n (fun z => z.2 (by omega) h104))] at h; exact h)
                        · -- f 107
                          refine gn_ic 1 (by decide) dX8_lodgerNamed_107 ?_
                          refine g_goto (tgt := 112) (by decide) dX8_lodgerNamed_108 ?_
                          refine g_istore (lv2 := [(4, _), (0, _), (1, _), (2, _), (3, _), (5, _)]) (by decide) rfl dX8_lodgerNamed_112 ?_
                          refine gn_inc (lv2 := [(5, _), (4, _), (0, _), (1, _), (2, _), (3, _)]) 5 rfl (by decide) rfl dX8_lodgerNamed_114 ?_
                          refine g_goto (tgt := 36) (by decide) dX8_lodgerNamed_117 ?_
                          refine G.sub [2, 3, 4, 5, 1, 0] rfl ?_
                          exact (by have h := ih36 (i + 1) (by omega); rw [bi_t (nmE_s (bi_n0 h45) (by rw [h84, if_neg (by omega)]) (fun _ => h104))] at h; exact h)
                  · -- f 71
                    refine m_get 0 rfl f_X8_41 rfl dX8_lodgerNamed_71 dX8_lodgerNamed_72 ?_
                    refine g_iload_n 1 rfl dX8_lodgerNamed_75 ?_
                    refine g_iload 5 rfl dX8_lodgerNamed_76 ?_
                    refine gn_iadd dX8_lodgerNamed_78 ?_
                    refine gn_bald MW_9 (by omega) (by decide) dX8_lodgerNamed_79 ?_
                    refine g_goto (tgt := 84) (by decide) dX8_lodgerNamed_80 ?_
                    refine g_icmp_ne (tgt := 111) (by decide) dX8_lodgerNamed_84 (fun h84 => ?_) (fun h84 => ?_)
                    · -- t 111
                      refine gn_ic 0 (by decide) dX8_lodgerNamed_111 ?_
                      refine g_istore (lv2 := [(4, _), (0, _), (1, _), (2, _), (3, _), (5, _)]) (by decide) rfl dX8_lodgerNamed_112 ?_
                      refine gn_inc (lv2 := [(5, _), (4, _), (0, _), (1, _), (2, _), (3, _)]) 5 rfl (by decide) rfl dX8_lodgerNamed_114 ?_
                      refine g_goto (tgt := 36) (by decide) dX8_lodgerNamed_117 ?_
                      refine G.sub [2, 3, 4, 5, 1, 0] rfl ?_
                      exact (by have h := ih36 (i + 1) (by omega); rw [bi_f (nmE_n (fun z => h84 (by rw [z.1, if_pos (by omega)])))] at h; exact h)
                    · -- f 87
                      refine g_iload 5 rfl dX8_lodgerNamed_87 ?_
                      refine g_iload_n 2 rfl dX8_lodgerNamed_89 ?_
                      refine g_iload_n 1 rfl dX8_lodgerNamed_90 ?_
                      refine gn_isub (by omega) dX8_lodgerNamed_91 ?_
                      refine gn_icmp_ge (by omega) (by omega) (tgt := 107) (by decide) dX8_lodgerNamed_92 (fun cc7 => ?_) (fun cc7 => ?_)
                      · -- t 107
                        refine gn_ic 1 (by decide) dX8_lodgerNamed_107 ?_
                        refine g_goto (tgt := 112) (by decide) dX8_lodgerNamed_108 ?_
                        refine g_istore (lv2 := [(4, _), (0, _), (1, _), (2, _), (3, _), (5, _)]) (by decide) rfl dX8_lodgerNamed_112 ?_
                        refine gn_inc (lv2 := [(5, _), (4, _), (0, _), (1, _), (2, _), (3, _)]) 5 rfl (by decide) rfl dX8_lodgerNamed_114 ?_
                        refine g_goto (tgt := 36) (by decide) dX8_lodgerNamed_117 ?_
                        refine G.sub [2, 3, 4, 5, 1, 0] rfl ?_
                        exact (by have h := ih36 (i + 1) (by omega); rw [bi_t (nmE_s (bi_n0 h45) (by rw [h84, if_pos (by omega)]) (fun z => absurd z (by omega)))] at h; exact h)
                      · -- f 95
                        refine m_get 0 rfl f_X8_41 rfl dX8_lodgerNamed_95 dX8_lodgerNamed_96 ?_
                        refine g_iload_n 1 rfl dX8_lodgerNamed_99 ?_
                        refine g_iload 5 rfl dX8_lodgerNamed_100 ?_
                        refine gn_iadd dX8_lodgerNamed_102 ?_
                        refine gn_bald MW_9 (by omega) (by decide) dX8_lodgerNamed_103 ?_
                        refine g_if_eq (tgt := 111) (by decide) dX8_lodgerNamed_104 (fun h104 => ?_) (fun h104 => ?_)
                        · -- t 111
                          refine gn_ic 0 (by decide) dX8_lodgerNamed_111 ?_
                          refine g_istore (lv2 := [(4, _), (0, _), (1, _), (2, _), (3, _), (5, _)]) (by decide) rfl dX8_lodgerNamed_112 ?_
                          refine gn_inc (lv2 := [(5, _), (4, _), (0, _), (1, _), (2, _), (3, _)]) 5 rfl (by decide) rfl dX8_lodgerNamed_114 ?_
                          refine g_goto (tgt := 36) (by decide) dX8_lodgerNamed_117 ?_
                          refine G.sub [2, 3, 4, 5, 1, 0] rfl ?_
                          exact (by have h := ih36 (i + 1) (by omega); rw [bi_f (nmE_n (fun z => z.2 (by omega) h104))] at h; exact h)
                        · -- f 107
                          refine gn_ic 1 (by decide) dX8_lodgerNamed_107 ?_
                          refine g_goto (tgt := 112) (by decide) dX8_lodgerNamed_108 ?_
                          refine g_istore (lv2 := [(4, _), (0, _), (1, _), (2, _), (3, _), (5, _)]) (by decide) rfl dX8_lodgerNamed_112 ?_
                          refine gn_inc (lv2 := [(5, _), (4, _), (0, _), (1, _), (2, _), (3, _)]) 5 rfl (by decide) rfl dX8_lodgerNamed_114 ?_
                          refine g_goto (tgt := 36) (by decide) dX8_lodgerNamed_117 ?_
                          refine G.sub [2, 3, 4, 5, 1, 0] rfl ?_
                          exact (by have h := ih36 (i + 1) (by omega); rw [bi_t (nmE_s (bi_n0 h45) (by rw [h84, if_pos (by omega)]) (fun _ => h104))] at h; exact h)
          refine G.sub [2, 3, 4, 5, 1, 0] rfl ?_
          have h36 := L36 6 0 (by omega)
          rw [bi_f (show ¬ nmE (A 8) f k b (x - b) 0 = true from fun z => by have := nmE_0 z; omega)] at h36
          exact h36
        · -- f 21
          refine g_iload_n 2 rfl dX8_lodgerNamed_21 ?_
          refine g_iload_n 1 rfl dX8_lodgerNamed_22 ?_
          refine gn_icmp_le (by omega) (by omega) (tgt := 30) (by decide) dX8_lodgerNamed_23 (fun h23 => ?_) (fun h23 => ?_)
          · -- t 30
            refine gn_ic 0 (by decide) dX8_lodgerNamed_30 ?_
            refine g_istore (lv2 := [(4, _), (0, _), (1, _), (2, _), (3, _)]) (by decide) rfl dX8_lodgerNamed_31 ?_
            refine gn_ic 0 (by decide) dX8_lodgerNamed_33 ?_
            refine g_istore (lv2 := [(5, _), (4, _), (0, _), (1, _), (2, _), (3, _)]) (by decide) rfl dX8_lodgerNamed_34 ?_
            have L36 : ∀ (m36 : Nat) (i : Nat), (i + m36 = 6) → G Γ 2 MX8_lodgerNamed (Rt (some (.int (fndF (A 8) f b (x - b) c))) (MW Γ mo F I A f) n) X0 36 [(0, .ref mo), (1, .int (nI b)), (2, .int (nI x)), (3, .int (nI k)), (4, .int (bi (nmE (A 8) f k b (x - b) i = true))), (5, .int (nI i))] [] (MW Γ mo F I A f) n 0 0 := by
              intro m36
              induction m36 with
              | zero =>
                intro i hi
                refine g_iload 5 rfl dX8_lodgerNamed_36 ?_
                refine gn_bp 6 (by decide) dX8_lodgerNamed_38 ?_
                refine gn_icmp_ge (by omega) (by omega) (tgt := 120) (by decide) dX8_lodgerNamed_40 (fun cc8 => ?_) (fun cc8 => ?_)
                · -- t 120
                  refine G.sub [0, 1, 2, 3, 4] rfl ?_
                  obtain rfl : i = 6 := by omega
                  exact K120
                · -- f 43
                  exfalso; omega
              | succ m36 ih36 =>
                intro i hi
                refine g_iload 5 rfl dX8_lodgerNamed_36 ?_
                refine gn_bp 6 (by decide) dX8_lodgerNamed_38 ?_
                refine gn_icmp_ge (by omega) (by omega) (tgt := 120) (by decide) dX8_lodgerNamed_40 (fun cc9 => ?_) (fun cc9 => ?_)
                · -- t 120
                  exfalso; omega
                · -- f 43
                  refine g_iload 4 rfl dX8_lodgerNamed_43 ?_
                  refine g_if_eq (tgt := 120) (by decide) dX8_lodgerNamed_45 (fun h45 => ?_) (fun h45 => ?_)
                  · -- t 120
                    refine G.sub [0, 1, 2, 3, 4] rfl ?_
                    rw [bi_f (show ¬ nmE (A 8) f k b (x - b) 6 = true from fun z => bi_0 h45 (nmE_mono (by omega) z)), ← bi_f (bi_0 h45)] at K120
                    exact K120
                  · -- f 48
                    refine m_get 0 rfl f_X8_19 rfl dX8_lodgerNamed_48 dX8_lodgerNamed_49 ?_
                    refine g_iload_n 3 rfl dX8_lodgerNamed_52 ?_
                    refine gv_S (c_X8_l ) l_X8_56 rfl (Nat.le_of_ble_eq_true rfl) (Nat.le_of_ble_eq_true rfl) rfl dX8_lodgerNamed_53 ?_
                    refine gn_bp 10 (by decide) dX8_lodgerNamed_56 ?_
                    refine gn_iadd dX8_lodgerNamed_58 ?_
                    refine g_iload 5 rfl dX8_lodgerNamed_59 ?_
                    refine gn_iadd dX8_lodgerNamed_61 ?_
                    refine gn_iald MW_3 (by omega) (by decide) dX8_lodgerNamed_62 ?_
                    refine g_iload 5 rfl dX8_lodgerNamed_63 ?_
                    refine g_iload_n 2 rfl dX8_lodgerNamed_65 ?_
                    refine g_iload_n 1 rfl dX8_lodgerNamed_66 ?_
                    refine gn_isub (by omega) dX8_lodgerNamed_67 ?_
                    refine gn_icmp_ge (by omega) (by omega) (tgt := 83) (by decide) dX8_lodgerNamed_68 (fun cc10 => ?_) (fun cc10 => ?_)
                    · -- t 83
                      refine gn_ic 0 (by decide) dX8_lodgerNamed_83 ?_
                      refine g_icmp_ne (tgt := 111) (by decide) dX8_lodgerNamed_84 (fun h84 => ?_) (fun h84 => ?_)
                      · -- t 111
                        refine gn_ic 0 (by decide) dX8_lodgerNamed_111 ?_
                        refine g_istore (lv2 := [(4, _), (0, _), (1, _), (2, _), (3, _), (5, _)]) (by decide) rfl dX8_lodgerNamed_112 ?_
                        refine gn_inc (lv2 := [(5, _), (4, _), (0, _), (1, _), (2, _), (3, _)]) 5 rfl (by decide) rfl dX8_lodgerNamed_114 ?_
                        refine g_goto (tgt := 36) (by decide) dX8_lodgerNamed_117 ?_
                        refine G.sub [2, 3, 4, 5, 1, 0] rfl ?_
                        exact (by have h := ih36 (i + 1) (by omega); rw [bi_f (nmE_n (fun z => h84 (by rw [z.1, if_neg (by omega)])))] at h; exact h)
                      · -- f 87
                        refine g_iload 5 rfl dX8_lodgerNamed_87 ?_
                        refine g_iload_n 2 rfl dX8_lodgerNamed_89 ?_
                        refine g_iload_n 1 rfl dX8_lodgerNamed_90 ?_
                        refine gn_isub (by omega) dX8_lodgerNamed_91 ?_
                        refine gn_icmp_ge (by omega) (by omega) (tgt := 107) (by decide) dX8_lodgerNamed_92 (fun cc11 => ?_) (fun cc11 => ?_)
                        · -- t 107
                          refine gn_ic 1 (by decide) dX8_lodgerNamed_107 ?_
                          refine g_goto (tgt := 112) (by decide) dX8_lodgerNamed_108 ?_
                          refine g_istore (lv2 := [(4, _), (0, _), (1, _), (2, _), (3, _), (5, _)]) (by decide) rfl dX8_lodgerNamed_112 ?_
                          refine gn_inc (lv2 := [(5, _), (4, _), (0, _), (1, _), (2, _), (3, _)]) 5 rfl (by decide) rfl dX8_lodgerNamed_114 ?_
                          refine g_goto (tgt := 36) (by decide) dX8_lodgerNamed_117 ?_
                          refine G.sub [2, 3, 4, 5, 1, 0] rfl ?_
                          exact (by have h := ih36 (i + 1) (by omega); rw [bi_t (nmE_s (bi_n0 h45) (by rw [h84, if_neg (by omega)]) (fun z => absurd z (by omega)))] at h; exact h)
                        · -- f 95
                          refine m_get 0 rfl f_X8_41 rfl dX8_lodgerNamed_95 dX8_lodgerNamed_96 ?_
                          refine g_iload_n 1 rfl dX8_lodgerNamed_99 ?_
                          refine g_iload 5 rfl dX8_lodgerNamed_100 ?_
                          refine gn_iadd dX8_lodgerNamed_102 ?_
                          refine gn_bald MW_9 (by omega) (by decide) dX8_lodgerNamed_103 ?_
                          refine g_if_eq (tgt := 111) (by decide) dX8_lodgerNamed_104 (fun h104 => ?_) (fun h104 => ?_)
                          · -- t 111
                            refine gn_ic 0 (by decide) dX8_lodgerNamed_111 ?_
                            refine g_istore (lv2 := [(4, _), (0, _), (1, _), (2, _), (3, _), (5, _)]) (by decide) rfl dX8_lodgerNamed_112 ?_
                            refine gn_inc (lv2 := [(5, _), (4, _), (0, _), (1, _), (2, _), (3, _)]) 5 rfl (by decide) rfl dX8_lodgerNamed_114 ?_
                            refine g_goto (tgt := 36) (by decide) dX8_lodgerNamed_117 ?_
                            refine G.sub [2, 3, 4, 5, 1, 0] rfl ?_
                            exact (by have h := ih36 (i + 1) (by omega); rw [bi_f (nmE_n (fun z => z.2 (by omega) h104))] at h; exact h)
                          · -- f 107
                            refine gn_ic 1 (by decide) dX8_lodgerNamed_107 ?_
                            refine g_goto (tgt := 112) (by decide) dX8_lodgerNamed_108 ?_
                            refine g_istore (lv2 := [(4, _), (0, _), (1, _), (2, _), (3, _), (5, _)]) (by decide) rfl dX8_lodgerNamed_112 ?_
                            refine gn_inc (lv2 := [(5, _), (4, _), (0, _), (1, _), (2, _), (3, _)]) 5 rfl (by decide) rfl dX8_lodgerNamed_114 ?_
                            refine g_goto (tgt := 36) (by decide) dX8_lodgerNamed_117 ?_
                            refine G.sub [2, 3, 4, 5, 1, 0] rfl ?_
                            exact (by have h := ih36 (i + 1) (by omega); rw [bi_t (nmE_s (bi_n0 h45) (by rw [h84, if_neg (by omega)]) (fun _ => h104))] at h; exact h)
                    · -- f 71
                      refine m_get 0 rfl f_X8_41 rfl dX8_lodgerNamed_71 dX8_lodgerNamed_72 ?_
                      refine g_iload_n 1 rfl dX8_lodgerNamed_75 ?_
                      refine g_iload 5 rfl dX8_lodgerNamed_76 ?_
                      refine gn_iadd dX8_lodgerNamed_78 ?_
                      refine gn_bald MW_9 (by omega) (by decide) dX8_lodgerNamed_79 ?_
                      refine g_goto (tgt := 84) (by decide) dX8_lodgerNamed_80 ?_
                      refine g_icmp_ne (tgt := 111) (by decide) dX8_lodgerNamed_84 (fun h84 => ?_) (fun h84 => ?_)
                      · -- t 111
                        refine gn_ic 0 (by decide) dX8_lodgerNamed_111 ?_
                        refine g_istore (lv2 := [(4, _), (0, _), (1, _), (2, _), (3, _), (5, _)]) (by decide) rfl dX8_lodgerNamed_112 ?_
                        refine gn_inc (lv2 := [(5, _), (4, _), (0, _), (1, _), (2, _), (3, _)]) 5 rfl (by decide) rfl dX8_lodgerNamed_114 ?_
                        refine g_goto (tgt := 36) (by decide) dX8_lodgerNamed_117 ?_
                        refine G.sub [2, 3, 4, 5, 1, 0] rfl ?_
                        exact (by have h := ih36 (i + 1) (by omega); rw [bi_f (nmE_n (fun z => h84 (by rw [z.1, if_pos (by omega)])))] at h; exact h)
                      · -- f 87
                        refine g_iload 5 rfl dX8_lodgerNamed_87 ?_
                        refine g_iload_n 2 rfl dX8_lodgerNamed_89 ?_
                        refine g_iload_n 1 rfl dX8_lodgerNamed_90 ?_
                        refine gn_isub (by omega) dX8_lodgerNamed_91 ?_
                        refine gn_icmp_ge (by omega) (by omega) (tgt := 107) (by decide) dX8_lodgerNamed_92 (fun cc12 => ?_) (fun cc12 => ?_)
                        · -- t 107
                          refine gn_ic 1 (by decide) dX8_lodgerNamed_107 ?_
                          refine g_goto (tgt := 112) (by decide) dX8_lodgerNamed_108 ?_
                          refine g_istore (lv2 := [(4, _), (0, _), (1, _), (2, _), (3, _), (5, _)]) (by decide) rfl dX8_lodgerNamed_112 ?_
                          refine gn_inc (lv2 := [(5, _), (4, _), (0, _), (1, _), (2, _), (3, _)]) 5 rfl (by decide) rfl dX8_lodgerNamed_114 ?_
                          refine g_goto (tgt := 36) (by decide) dX8_lodgerNamed_117 ?_
                          refine G.sub [2, 3, 4, 5, 1, 0] rfl ?_
                          exact (by have h := ih36 (i + 1) (by omega); rw [bi_t (nmE_s (bi_n0 h45) (by rw [h84, if_pos (by omega)]) (fun z => absurd z (by omega)))] at h; exact h)
                        · -- f 95
                          refine m_get 0 rfl f_X8_41 rfl dX8_lodgerNamed_95 dX8_lodgerNamed_96 ?_
                          refine g_iload_n 1 rfl dX8_lodgerNamed_99 ?_
                          refine g_iload 5 rfl dX8_lodgerNamed_100 ?_
                          refine gn_iadd dX8_lodgerNamed_102 ?_
                          refine gn_bald MW_9 (by omega) (by decide) dX8_lodgerNamed_103 ?_
                          refine g_if_eq (tgt := 111) (by decide) dX8_lodgerNamed_104 (fun h104 => ?_) (fun h104 => ?_)
                          · -- t 111
                            refine gn_ic 0 (by decide) dX8_lodgerNamed_111 ?_
                            refine g_istore (lv2 := [(4, _), (0, _), (1, _), (2, _), (3, _), (5, _)]) (by decide) rfl dX8_lodgerNamed_112 ?_
                            refine gn_inc (lv2 := [(5, _), (4, _), (0, _), (1, _), (2, _), (3, _)]) 5 rfl (by decide) rfl dX8_lodgerNamed_114 ?_
                            refine g_goto (tgt := 36) (by decide) dX8_lodgerNamed_117 ?_
                            refine G.sub [2, 3, 4, 5, 1, 0] rfl ?_
                            exact (by have h := ih36 (i + 1) (by omega); rw [bi_f (nmE_n (fun z => z.2 (by omega) h104))] at h; exact h)
                          · -- f 107
                            refine gn_ic 1 (by decide) dX8_lodgerNamed_107 ?_
                            refine g_goto (tgt := 112) (by decide) dX8_lodgerNamed_108 ?_
                            refine g_istore (lv2 := [(4, _), (0, _), (1, _), (2, _), (3, _), (5, _)]) (by decide) rfl dX8_lodgerNamed_112 ?_
                            refine gn_inc (lv2 := [(5, _), (4, _), (0, _), (1, _), (2, _), (3, _)]) 5 rfl (by decide) rfl dX8_lodgerNamed_114 ?_
                            refine g_goto (tgt := 36) (by decide) dX8_lodgerNamed_117 ?_
                            refine G.sub [2, 3, 4, 5, 1, 0] rfl ?_
                            exact (by have h := ih36 (i + 1) (by omega); rw [bi_t (nmE_s (bi_n0 h45) (by rw [h84, if_pos (by omega)]) (fun _ => h104))] at h; exact h)
            refine G.sub [2, 3, 4, 5, 1, 0] rfl ?_
            have h36 := L36 6 0 (by omega)
            rw [bi_f (show ¬ nmE (A 8) f k b (x - b) 0 = true from fun z => by have := nmE_0 z; omega)] at h36
            exact h36
          · -- f 26
            refine gn_ic 1 (by decide) dX8_lodgerNamed_26 ?_
            refine g_goto (tgt := 31) (by decide) dX8_lodgerNamed_27 ?_
            refine g_istore (lv2 := [(4, _), (0, _), (1, _), (2, _), (3, _)]) (by decide) rfl dX8_lodgerNamed_31 ?_
            refine gn_ic 0 (by decide) dX8_lodgerNamed_33 ?_
            refine g_istore (lv2 := [(5, _), (4, _), (0, _), (1, _), (2, _), (3, _)]) (by decide) rfl dX8_lodgerNamed_34 ?_
            have L36 : ∀ (m36 : Nat) (i : Nat), (i + m36 = 6) → G Γ 2 MX8_lodgerNamed (Rt (some (.int (fndF (A 8) f b (x - b) c))) (MW Γ mo F I A f) n) X0 36 [(0, .ref mo), (1, .int (nI b)), (2, .int (nI x)), (3, .int (nI k)), (4, .int (bi (nmE (A 8) f k b (x - b) i = true))), (5, .int (nI i))] [] (MW Γ mo F I A f) n 0 0 := by
              intro m36
              induction m36 with
              | zero =>
                intro i hi
                refine g_iload 5 rfl dX8_lodgerNamed_36 ?_
                refine gn_bp 6 (by decide) dX8_lodgerNamed_38 ?_
                refine gn_icmp_ge (by omega) (by omega) (tgt := 120) (by decide) dX8_lodgerNamed_40 (fun cc13 => ?_) (fun cc13 => ?_)
                · -- t 120
                  refine G.sub [0, 1, 2, 3, 4] rfl ?_
                  obtain rfl : i = 6 := by omega
                  exact K120
                · -- f 43
                  exfalso; omega
              | succ m36 ih36 =>
                intro i hi
                refine g_iload 5 rfl dX8_lodgerNamed_36 ?_
                refine gn_bp 6 (by decide) dX8_lodgerNamed_38 ?_
                refine gn_icmp_ge (by omega) (by omega) (tgt := 120) (by decide) dX8_lodgerNamed_40 (fun cc14 => ?_) (fun cc14 => ?_)
                · -- t 120
                  exfalso; omega
                · -- f 43
                  refine g_iload 4 rfl dX8_lodgerNamed_43 ?_
                  refine g_if_eq (tgt := 120) (by decide) dX8_lodgerNamed_45 (fun h45 => ?_) (fun h45 => ?_)
                  · -- t 120
                    refine G.sub [0, 1, 2, 3, 4] rfl ?_
                    rw [bi_f (show ¬ nmE (A 8) f k b (x - b) 6 = true from fun z => bi_0 h45 (nmE_mono (by omega) z)), ← bi_f (bi_0 h45)] at K120
                    exact K120
                  · -- f 48
                    refine m_get 0 rfl f_X8_19 rfl dX8_lodgerNamed_48 dX8_lodgerNamed_49 ?_
                    refine g_iload_n 3 rfl dX8_lodgerNamed_52 ?_
                    refine gv_S (c_X8_l ) l_X8_56 rfl (Nat.le_of_ble_eq_true rfl) (Nat.le_of_ble_eq_true rfl) rfl dX8_lodgerNamed_53 ?_
                    refine gn_bp 10 (by decide) dX8_lodgerNamed_56 ?_
                    refine gn_iadd dX8_lodgerNamed_58 ?_
                    refine g_iload 5 rfl dX8_lodgerNamed_59 ?_
                    refine gn_iadd dX8_lodgerNamed_61 ?_
                    refine gn_iald MW_3 (by omega) (by decide) dX8_lodgerNamed_62 ?_
                    refine g_iload 5 rfl dX8_lodgerNamed_63 ?_
                    refine g_iload_n 2 rfl dX8_lodgerNamed_65 ?_
                    refine g_iload_n 1 rfl dX8_lodgerNamed_66 ?_
                    refine gn_isub (by omega) dX8_lodgerNamed_67 ?_
                    refine gn_icmp_ge (by omega) (by omega) (tgt := 83) (by decide) dX8_lodgerNamed_68 (fun cc15 => ?_) (fun cc15 => ?_)
                    · -- t 83
                      refine gn_ic 0 (by decide) dX8_lodgerNamed_83 ?_
                      refine g_icmp_ne (tgt := 111) (by decide) dX8_lodgerNamed_84 (fun h84 => ?_) (fun h84 => ?_)
                      · -- t 111
                        refine gn_ic 0 (by decide) dX8_lodgerNamed_111 ?_
                        refine g_istore (lv2 := [(4, _), (0, _), (1, _), (2, _), (3, _), (5, _)]) (by decide) rfl dX8_lodgerNamed_112 ?_
                        refine gn_inc (lv2 := [(5, _), (4, _), (0, _), (1, _), (2, _), (3, _)]) 5 rfl (by decide) rfl dX8_lodgerNamed_114 ?_
                        refine g_goto (tgt := 36) (by decide) dX8_lodgerNamed_117 ?_
                        refine G.sub [2, 3, 4, 5, 1, 0] rfl ?_
                        exact (by have h := ih36 (i + 1) (by omega); rw [bi_f (nmE_n (fun z => h84 (by rw [z.1, if_neg (by omega)])))] at h; exact h)
                      · -- f 87
                        refine g_iload 5 rfl dX8_lodgerNamed_87 ?_
                        refine g_iload_n 2 rfl dX8_lodgerNamed_89 ?_
                        refine g_iload_n 1 rfl dX8_lodgerNamed_90 ?_
                        refine gn_isub (by omega) dX8_lodgerNamed_91 ?_
                        refine gn_icmp_ge (by omega) (by omega) (tgt := 107) (by decide) dX8_lodgerNamed_92 (fun cc16 => ?_) (fun cc16 => ?_)
                        · -- t 107
                          refine gn_ic 1 (by decide) dX8_lodgerNamed_107 ?_
                          refine g_goto (tgt := 112) (by decide) dX8_lodgerNamed_108 ?_
                          refine g_istore (lv2 := [(4, _), (0, _), (1, _), (2, _), (3, _), (5, _)]) (by decide) rfl dX8_lodgerNamed_112 ?_
                          refine gn_inc (lv2 := [(5, _), (4, _), (0, _), (1, _), (2, _), (3, _)]) 5 rfl (by decide) rfl dX8_lodgerNamed_114 ?_
                          refine g_goto (tgt := 36) (by decide) dX8_lodgerNamed_117 ?_
                          refine G.sub [2, 3, 4, 5, 1, 0] rfl ?_
                          exact (by have h := ih36 (i + 1) (by omega); rw [bi_t (nmE_s (bi_n0 h45) (by rw [h84, if_neg (by omega)]) (fun z => absurd z (by omega)))] at h; exact h)
                        · -- f 95
                          refine m_get 0 rfl f_X8_41 rfl dX8_lodgerNamed_95 dX8_lodgerNamed_96 ?_
                          refine g_iload_n 1 rfl dX8_lodgerNamed_99 ?_
                          refine g_iload 5 rfl dX8_lodgerNamed_100 ?_
                          refine gn_iadd dX8_lodgerNamed_102 ?_
                          refine gn_bald MW_9 (by omega) (by decide) dX8_lodgerNamed_103 ?_
                          refine g_if_eq (tgt := 111) (by decide) dX8_lodgerNamed_104 (fun h104 => ?_) (fun h104 => ?_)
                          · -- t 111
                            refine gn_ic 0 (by decide) dX8_lodgerNamed_111 ?_
                            refine g_istore (lv2 := [(4, _), (0, _), (1, _), (2, _), (3, _), (5, _)]) (by decide) rfl dX8_lodgerNamed_112 ?_
                            refine gn_inc (lv2 := [(5, _), (4, _), (0, _), (1, _), (2, _), (3, _)]) 5 rfl (by decide) rfl dX8_lodgerNamed_114 ?_
                            refine g_goto (tgt := 36) (by decide) dX8_lodgerNamed_117 ?_
                            refine G.sub [2, 3, 4, 5, 1, 0] rfl ?_
                            exact (by have h := ih36 (i + 1) (by omega); rw [bi_f (nmE_n (fun z => z.2 (by omega) h104))] at h; exact h)
                          · -- f 107
                            refine gn_ic 1 (by decide) dX8_lodgerNamed_107 ?_
                            refine g_goto (tgt := 112) (by decide) dX8_lodgerNamed_108 ?_
                            refine g_istore (lv2 := [(4, _), (0, _), (1, _), (2, _), (3, _), (5, _)]) (by decide) rfl dX8_lodgerNamed_112 ?_
                            refine gn_inc (lv2 := [(5, _), (4, _), (0, _), (1, _), (2, _), (3, _)]) 5 rfl (by decide) rfl dX8_lodgerNamed_114 ?_
                            refine g_goto (tgt := 36) (by decide) dX8_lodgerNamed_117 ?_
                            refine G.sub [2, 3, 4, 5, 1, 0] rfl ?_
                            exact (by have h := ih36 (i + 1) (by omega); rw [bi_t (nmE_s (bi_n0 h45) (by rw [h84, if_neg (by omega)]) (fun _ => h104))] at h; exact h)
                    · -- f 71
                      refine m_get 0 rfl f_X8_41 rfl dX8_lodgerNamed_71 dX8_lodgerNamed_72 ?_
                      refine g_iload_n 1 rfl dX8_lodgerNamed_75 ?_
                      refine g_iload 5 rfl dX8_lodgerNamed_76 ?_
                      refine gn_iadd dX8_lodgerNamed_78 ?_
                      refine gn_bald MW_9 (by omega) (by decide) dX8_lodgerNamed_79 ?_
                      refine g_goto (tgt := 84) (by decide) dX8_lodgerNamed_80 ?_
                      refine g_icmp_ne (tgt := 111) (by decide) dX8_lodgerNamed_84 (fun h84 => ?_) (fun h84 => ?_)
                      · -- t 111
                        refine gn_ic 0 (by decide) dX8_lodgerNamed_111 ?_
                        refine g_istore (lv2 := [(4, _), (0, _), (1, _), (2, _), (3, _), (5, _)]) (by decide) rfl dX8_lodgerNamed_112 ?_
                        refine gn_inc (lv2 := [(5, _), (4, _), (0, _), (1, _), (2, _), (3, _)]) 5 rfl (by decide) rfl dX8_lodgerNamed_114 ?_
                        refine g_goto (tgt := 36) (by decide) dX8_lodgerNamed_117 ?_
                        refine G.sub [2, 3, 4, 5, 1, 0] rfl ?_
                        exact (by have h := ih36 (i + 1) (by omega); rw [bi_f (nmE_n (fun z => h84 (by rw [z.1, if_pos (by omega)])))] at h; exact h)
                      · -- f 87
                        refine g_iload 5 rfl dX8_lodgerNamed_87 ?_
                        refine g_iload_n 2 rfl dX8_lodgerNamed_89 ?_
                        refine g_iload_n 1 rfl dX8_lodgerNamed_90 ?_
                        refine gn_isub (by omega) dX8_lodgerNamed_91 ?_
                        refine gn_icmp_ge (by omega) (by omega) (tgt := 107) (by decide) dX8_lodgerNamed_92 (fun cc17 => ?_) (fun cc17 => ?_)
                        · -- t 107
                          refine gn_ic 1 (by decide) dX8_lodgerNamed_107 ?_
                          refine g_goto (tgt := 112) (by decide) dX8_lodgerNamed_108 ?_
                          refine g_istore (lv2 := [(4, _), (0, _), (1, _), (2, _), (3, _), (5, _)]) (by decide) rfl dX8_lodgerNamed_112 ?_
                          refine gn_inc (lv2 := [(5, _), (4, _), (0, _), (1, _), (2, _), (3, _)]) 5 rfl (by decide) rfl dX8_lodgerNamed_114 ?_
                          refine g_goto (tgt := 36) (by decide) dX8_lodgerNamed_117 ?_
                          refine G.sub [2, 3, 4, 5, 1, 0] rfl ?_
                          exact (by have h := ih36 (i + 1) (by omega); rw [bi_t (nmE_s (bi_n0 h45) (by rw [h84, if_pos (by omega)]) (fun z => absurd z (by omega)))] at h; exact h)
                        · -- f 95
                          refine m_get 0 rfl f_X8_41 rfl dX8_lodgerNamed_95 dX8_lodgerNamed_96 ?_
                          refine g_iload_n 1 rfl dX8_lodgerNamed_99 ?_
                          refine g_iload 5 rfl dX8_lodgerNamed_100 ?_
                          refine gn_iadd dX8_lodgerNamed_102 ?_
                          refine gn_bald MW_9 (by omega) (by decide) dX8_lodgerNamed_103 ?_
                          refine g_if_eq (tgt := 111) (by decide) dX8_lodgerNamed_104 (fun h104 => ?_) (fun h104 => ?_)
                          · -- t 111
                            refine gn_ic 0 (by decide) dX8_lodgerNamed_111 ?_
                            refine g_istore (lv2 := [(4, _), (0, _), (1, _), (2, _), (3, _), (5, _)]) (by decide) rfl dX8_lodgerNamed_112 ?_
                            refine gn_inc (lv2 := [(5, _), (4, _), (0, _), (1, _), (2, _), (3, _)]) 5 rfl (by decide) rfl dX8_lodgerNamed_114 ?_
                            refine g_goto (tgt := 36) (by decide) dX8_lodgerNamed_117 ?_
                            refine G.sub [2, 3, 4, 5, 1, 0] rfl ?_
                            exact (by have h := ih36 (i + 1) (by omega); rw [bi_f (nmE_n (fun z => z.2 (by omega) h104))] at h; exact h)
                          · -- f 107
                            refine gn_ic 1 (by decide) dX8_lodgerNamed_107 ?_
                            refine g_goto (tgt := 112) (by decide) dX8_lodgerNamed_108 ?_
                            refine g_istore (lv2 := [(4, _), (0, _), (1, _), (2, _), (3, _), (5, _)]) (by decide) rfl dX8_lodgerNamed_112 ?_
                            refine gn_inc (lv2 := [(5, _), (4, _), (0, _), (1, _), (2, _), (3, _)]) 5 rfl (by decide) rfl dX8_lodgerNamed_114 ?_
                            refine g_goto (tgt := 36) (by decide) dX8_lodgerNamed_117 ?_
                            refine G.sub [2, 3, 4, 5, 1, 0] rfl ?_
                            exact (by have h := ih36 (i + 1) (by omega); rw [bi_t (nmE_s (bi_n0 h45) (by rw [h84, if_pos (by omega)]) (fun _ => h104))] at h; exact h)
            refine G.sub [2, 3, 4, 5, 1, 0] rfl ?_
            have h36 := L36 6 0 (by omega)
            rw [bi_t (show nmE (A 8) f k b (x - b) 0 = true from decide_eq_true ⟨by omega, by omega⟩)] at h36
            exact h36
  refine G.sub [1, 2, 3, 0] rfl ?_
  exact L2 c 0 (by omega) rfl
set_option maxRecDepth 100000 in
set_option maxHeartbeats 4000000 in
theorem c_X8_takesAccent {Γ : Gm} {mo n : Nat} {F : Hp} {J : Nat → Int32} {A : Nat → Nat → Int32} {f : Nat → Int32} {s : PS} {e : Nat}  (hJ : J 19 = nI e) (he : e ≤ 600) (hs : PV e s) : Ct Γ 5 MX8_takesAccent 0 0 [.ref mo] (MW Γ mo F (pI J s) A f) n (Rt (some (.int (nI (acP (A 8) e s 5).1))) (MW Γ mo F (pI J ((acP (A 8) e s 5).2)) A f) n) X0 := by
  refine Ct.of (by decide +kernel) rfl (Nat.le_of_ble_eq_true rfl) ?_
  refine G.sub (lv2 := [(0, _)]) [0] rfl ?_
  refine gn_ic 0 (by decide) dX8_takesAccent_0 ?_
  refine g_istore_n (lv2 := [(1, _), (0, _)]) (by decide) rfl dX8_takesAccent_1 ?_
  refine gn_ic 0 (by decide) dX8_takesAccent_2 ?_
  refine g_istore_n (lv2 := [(2, _), (1, _), (0, _)]) (by decide) rfl dX8_takesAccent_3 ?_
  have L4 : ∀ (m4 i4 : Nat), i4 + m4 = 5 → G Γ 5 MX8_takesAccent (Rt (some (.int (nI (acP (A 8) e s 5).1))) (MW Γ mo F (pI J ((acP (A 8) e s 5).2)) A f) n) X0 4 [(0, .ref mo), (1, .int (nI (acP (A 8) e s i4).1)), (2, .int (nI i4))] [] (MW Γ mo F (pI J ((acP (A 8) e s i4).2)) A f) n 0 0 := by
    intro m4
    induction m4 with
    | zero =>
      intro i4 hi4
      refine g_iload_n 2 rfl dX8_takesAccent_4 ?_
      refine gn_ic 5 (by decide) dX8_takesAccent_5 ?_
      refine gn_icmp_ge (by omega) (by omega) (tgt := 28) (by decide) dX8_takesAccent_6 (fun cc1 => ?_) (fun cc1 => ?_)
      · -- t 28
        obtain rfl : i4 = 5 := by omega
        refine g_iload_n 1 rfl dX8_takesAccent_28 ?_
        exact g_iret ⟨rfl, rfl, rfl⟩ rfl rfl dX8_takesAccent_29
      · -- f 9
        exfalso; omega
    | succ m4 ih4 =>
      intro i4 hi4
      refine g_iload_n 2 rfl dX8_takesAccent_4 ?_
      refine gn_ic 5 (by decide) dX8_takesAccent_5 ?_
      refine gn_icmp_ge (by omega) (by omega) (tgt := 28) (by decide) dX8_takesAccent_6 (fun cc2 => ?_) (fun cc2 => ?_)
      · -- t 28
        exfalso; omega
      · -- f 9
        refine gn_bp 10 (by decide) dX8_takesAccent_9 ?_
        refine g_iload_n 1 rfl dX8_takesAccent_11 ?_
        refine gn_imul dX8_takesAccent_12 ?_
        refine g_aload_n 0 rfl dX8_takesAccent_13 ?_
        refine gn_ic 0 (by decide) dX8_takesAccent_14 ?_
        refine gn_bp 9 (by decide) dX8_takesAccent_15 ?_
        refine gv_V (c_X8_takesNumber (e := e) (by assumption) (by assumption) (acP_v hs i4) (by decide) (by decide)) l_X8_172 rfl m_rcv (Nat.le_of_ble_eq_true rfl) (Nat.le_of_ble_eq_true rfl) rfl dX8_takesAccent_17 ?_
        refine gn_iadd dX8_takesAccent_20 ?_
        refine g_istore_n (lv2 := [(1, _), (0, _), (2, _)]) (by decide) rfl dX8_takesAccent_21 ?_
        refine gn_inc (lv2 := [(2, _), (1, _), (0, _)]) 2 rfl (by decide) rfl dX8_takesAccent_22 ?_
        refine g_goto (tgt := 4) (by decide) dX8_takesAccent_25 ?_
        refine G.sub [2, 1, 0] rfl ?_
        exact ih4 (i4 + 1) (by omega)
  refine G.sub [2, 1, 0] rfl ?_
  exact L4 _ 0 (Nat.zero_add _)
set_option maxRecDepth 100000 in
set_option maxHeartbeats 4000000 in
theorem c_X8_readsLodger {Γ : Gm} {mo n : Nat} {F : Hp} {J : Nat → Int32} {A : Nat → Nat → Int32} {f : Nat → Int32} {s : PS} {e : Nat} {c : Nat} (hJ : J 19 = nI e) (he : e ≤ 600) (hs : PV e s) (hc : f 7 = nI c) (hc12 : c ≤ 12) : Ct Γ 6 MX8_readsLodger 0 0 [.ref mo] (MW Γ mo F (pI J s) A f) n (Rt none (MW Γ mo F (pI J (rlP (A 8) e f c s)) A (rlF (A 8) e f c s)) n) X0 := by
  refine Ct.of (by decide +kernel) rfl (Nat.le_of_ble_eq_true rfl) ?_
  have hvA : PV e (rlA (A 8) e f c s) := rl3_v (nmP_v (nxP_v hs))
  have hvB : PV e (rlB (A 8) e f c s) := goP_v hvA
  have hv6 : PV e (rl6 f (hvP 0 4 (rlB (A 8) e f c s)) (-1) c (hrP 0 4 (rlB (A 8) e f c s))) := rl6_v (hrP_v hvB)
  have hvC : PV e (rlC (A 8) e f c s) := goP_v hv6
  have hvD : PV e (rlD (A 8) e f c s) := tnP_v hvC
  have hvE : PV e ((rlE (A 8) e f c s).2) := acP_v hvD 5
  have hfl : (hvP 0 4 (rlB (A 8) e f c s)) ≤ 4 := (hvP_b (by decide)).2
  have hac : (rlE (A 8) e f c s).1 < 100000 := acP_5
  obtain ⟨hs1, hs2, hs3, hs4, hs5, hs6, hs7, hs8, hs9⟩ := id hs
  obtain ⟨ha1, ha2, ha3, ha4, ha5, ha6, ha7, ha8, ha9⟩ := id hvA
  refine G.sub (lv2 := [(0, _)]) [0] rfl ?_
  refine m_get 0 rfl f_X8_19 rfl dX8_readsLodger_0 dX8_readsLodger_1 ?_
  refine gn_bp 7 (by decide) dX8_readsLodger_4 ?_
  refine gn_iald MW_3 (by omega) (by decide) dX8_readsLodger_6 ?_
  refine g_top (y := nI c) hc ?_
  refine gn_bp 12 (by decide) dX8_readsLodger_7 ?_
  refine gn_icmp_ne (by omega) (by omega) (tgt := 18) (by decide) dX8_readsLodger_9 (fun h9 => ?_) (fun h9 => ?_)
  · -- t 18
    have K54 : G Γ 6 MX8_readsLodger (Rt none (MW Γ mo F (pI J (rlP (A 8) e f c s)) A (rlF (A 8) e f c s)) n) X0 54 [(0, .ref mo)] [] (MW Γ mo F (pI J (rlA (A 8) e f c s)) A f) n 0 0 := by
      have hn12 : ¬ f 7 = nI 12 := fun z => h9 ((nI_eq (by omega) (by decide)).mp (hc.symm.trans z))
      refine m_get (v := .int (nI (((rlA (A 8) e f c s)).2.1))) 0 rfl f_X8_136 rfl dX8_readsLodger_54 dX8_readsLodger_55 ?_
      refine g_istore_n (lv2 := [(1, _), (0, _)]) (by decide) rfl dX8_readsLodger_58 ?_
      refine m_get (v := .int (nI (((rlA (A 8) e f c s)).2.2.1))) 1 rfl f_X8_133 rfl dX8_readsLodger_59 dX8_readsLodger_60 ?_
      refine m_get (v := .int (nI (((rlA (A 8) e f c s)).2.1))) 1 rfl f_X8_136 rfl dX8_readsLodger_63 dX8_readsLodger_64 ?_
      refine gn_isub ha2 dX8_readsLodger_67 ?_
      refine g_istore_n (lv2 := [(2, _), (1, _), (0, _)]) (by decide) rfl dX8_readsLodger_68 ?_
      refine g_aload_n 2 rfl dX8_readsLodger_69 ?_
      refine gu_V (c_X8_goesOn (e := e) (by assumption) (by assumption) (hvA)) l_X8_166 rfl m_rcv (Nat.le_of_ble_eq_true rfl) (Nat.le_of_ble_eq_true rfl) rfl dX8_readsLodger_70 ?_
      have K103 : G Γ 6 MX8_readsLodger (Rt none (MW Γ mo F (pI J (rlP (A 8) e f c s)) A (rlF (A 8) e f c s)) n) X0 103 [(0, .ref mo), (1, .int (nI ((rlA (A 8) e f c s).2.1))), (2, .int (nI ((rlA (A 8) e f c s).2.2.1 - (rlA (A 8) e f c s).2.1))), (3, .int (nI (hvP 0 4 (rlB (A 8) e f c s))))] [] (MW Γ mo F (pI J (rl6 f (hvP 0 4 (rlB (A 8) e f c s)) (-1) c (hrP 0 4 (rlB (A 8) e f c s)))) A f) n 0 0 := by
        refine g_aload_n 0 rfl dX8_readsLodger_103 ?_
        refine gu_V (c_X8_goesOn (e := e) (by assumption) (by assumption) (hv6)) l_X8_166 rfl m_rcv (Nat.le_of_ble_eq_true rfl) (Nat.le_of_ble_eq_true rfl) rfl dX8_readsLodger_104 ?_
        refine g_aload_n 0 rfl dX8_readsLodger_107 ?_
        refine gn_ic 0 (by decide) dX8_readsLodger_108 ?_
        refine gn_sp 999 (by decide) dX8_readsLodger_109 ?_
        refine gv_V (c_X8_takesNumber (e := e) (by assumption) (by assumption) (hvC) (by decide) (by decide)) l_X8_172 rfl m_rcv (Nat.le_of_ble_eq_true rfl) (Nat.le_of_ble_eq_true rfl) rfl dX8_readsLodger_112 ?_
        refine g_istore (lv2 := [(4, _), (0, _), (1, _), (2, _), (3, _)]) (by decide) rfl dX8_readsLodger_115 ?_
        refine g_aload_n 1 rfl dX8_readsLodger_117 ?_
        refine gv_V (c_X8_takesAccent (e := e) (by assumption) (by assumption) (hvD)) l_X8_181 rfl m_rcv (Nat.le_of_ble_eq_true rfl) (Nat.le_of_ble_eq_true rfl) rfl dX8_readsLodger_118 ?_
        refine g_istore (lv2 := [(5, _), (4, _), (0, _), (1, _), (2, _), (3, _)]) (by decide) rfl dX8_readsLodger_121 ?_
        refine m_get (v := .int (nI ((((rlE (A 8) e f c s).2)).2.2.2.2.1))) 2 rfl f_X8_151 rfl dX8_readsLodger_123 dX8_readsLodger_124 ?_
        have bb1 := (show PV e (((rlE (A 8) e f c s).2)) from hvE).2.2.2.2.1
        refine gn_if_ne (by omega) (tgt := 186) (by decide) dX8_readsLodger_127 (fun h127 => ?_) (fun h127 => ?_)
        · -- t 186
          exact g_vret ⟨rfl, by unfold rlP rlF; rw [op_eq, if_neg hn12, if_neg (fun z => h127 z.2)], rfl⟩ rfl dX8_readsLodger_186
        · -- f 130
          obtain ⟨e1, -, -, e4, -⟩ := rlA_ok (rlA_len h127 hs)
          have hlen : (rlA (A 8) e f c s).2.2.1 - (rlA (A 8) e f c s).2.1 ≤ 6 := by rw [e1]; exact e4
          refine g_aload_n 2 rfl dX8_readsLodger_130 ?_
          refine g_iload_n 5 rfl dX8_readsLodger_131 ?_
          refine g_iload 1 rfl dX8_readsLodger_132 ?_
          refine g_iload 0 rfl dX8_readsLodger_134 ?_
          refine gu_V (c_X8_comes (c := c) hc (by omega) (Nat.lt_trans hac (by decide))) l_X8_52 rfl m_rcv (Nat.le_of_ble_eq_true rfl) (Nat.le_of_ble_eq_true rfl) rfl dX8_readsLodger_136 ?_
          refine gn_ic 0 (by decide) dX8_readsLodger_139 ?_
          refine g_istore (lv2 := [(6, _), (5, _), (4, _), (0, _), (1, _), (2, _), (3, _)]) (by decide) rfl dX8_readsLodger_140 ?_
          have L142 : ∀ (m142 i142 : Nat), i142 + m142 = ((rlA (A 8) e f c s).2.2.1 - (rlA (A 8) e f c s).2.1) → G Γ 6 MX8_readsLodger (Rt none (MW Γ mo F (pI J (rlP (A 8) e f c s)) A (rlF (A 8) e f c s)) n) X0 142 [(0, .ref mo), (1, .int (nI ((rlA (A 8) e f c s).2.1))), (2, .int (nI ((rlA (A 8) e f c s).2.2.1 - (rlA (A 8) e f c s).2.1))), (6, .int (nI i142))] [] (MW Γ mo F (pI J ((rlE (A 8) e f c s).2)) A (nmF (comF f (nI (hvP 0 4 (rlB (A 8) e f c s))) (nI (hvP 0 999 (rlC (A 8) e f c s))) (rlE (A 8) e f c s).1 c) (A 8) (13 + 16 * c + 10) (rlA (A 8) e f c s).2.1 i142)) n 0 0 := by
            intro m142
            induction m142 with
            | zero =>
              intro i142 hi142
              have hcm : (nmF (comF f (nI (hvP 0 4 (rlB (A 8) e f c s))) (nI (hvP 0 999 (rlC (A 8) e f c s))) (rlE (A 8) e f c s).1 c) (A 8) (13 + 16 * c + 10) (rlA (A 8) e f c s).2.1 i142) 7 = nI (c + 1) := by rw [nmF_o _ (by omega), comF_7 hc]
              refine g_iload 3 rfl dX8_readsLodger_142 ?_
              refine g_iload_n 2 rfl dX8_readsLodger_144 ?_
              refine gn_icmp_ge (by omega) (by omega) (tgt := 186) (by decide) dX8_readsLodger_145 (fun cc2 => ?_) (fun cc2 => ?_)
              · -- t 186
                obtain rfl : i142 = (rlA (A 8) e f c s).2.2.1 - (rlA (A 8) e f c s).2.1 := by omega
                exact g_vret ⟨rfl, by unfold rlP rlF; rw [op_eq, if_neg hn12, if_pos ⟨hn12, h127⟩], rfl⟩ rfl dX8_readsLodger_186
              · -- f 148
                exfalso; omega
            | succ m142 ih142 =>
              intro i142 hi142
              have hcm : (nmF (comF f (nI (hvP 0 4 (rlB (A 8) e f c s))) (nI (hvP 0 999 (rlC (A 8) e f c s))) (rlE (A 8) e f c s).1 c) (A 8) (13 + 16 * c + 10) (rlA (A 8) e f c s).2.1 i142) 7 = nI (c + 1) := by rw [nmF_o _ (by omega), comF_7 hc]
              refine g_iload 3 rfl dX8_readsLodger_142 ?_
              refine g_iload_n 2 rfl dX8_readsLodger_144 ?_
              refine gn_icmp_ge (by omega) (by omega) (tgt := 186) (by decide) dX8_readsLodger_145 (fun cc3 => ?_) (fun cc3 => ?_)
              · -- t 186
                exfalso; omega
              · -- f 148
                refine m_get 0 rfl f_X8_19 rfl dX8_readsLodger_148 dX8_readsLodger_149 ?_
                refine m_get 0 rfl f_X8_19 rfl dX8_readsLodger_152 dX8_readsLodger_153 ?_
                refine gn_bp 7 (by decide) dX8_readsLodger_156 ?_
                refine gn_iald MW_3 (by omega) (by decide) dX8_readsLodger_158 ?_
                refine g_top (y := nI (c + 1)) hcm ?_
                refine gn_ic 1 (by decide) dX8_readsLodger_159 ?_
                refine gn_isub (by omega) dX8_readsLodger_160 ?_
                refine gv_S (c_X8_l ) l_X8_56 rfl (Nat.le_of_ble_eq_true rfl) (Nat.le_of_ble_eq_true rfl) rfl dX8_readsLodger_161 ?_
                refine gn_bp 10 (by decide) dX8_readsLodger_164 ?_
                refine gn_iadd dX8_readsLodger_166 ?_
                refine g_iload 3 rfl dX8_readsLodger_167 ?_
                refine gn_iadd dX8_readsLodger_169 ?_
                refine m_get 0 rfl f_X8_41 rfl dX8_readsLodger_170 dX8_readsLodger_171 ?_
                refine g_iload_n 1 rfl dX8_readsLodger_174 ?_
                refine g_iload 3 rfl dX8_readsLodger_175 ?_
                refine gn_iadd dX8_readsLodger_177 ?_
                refine gn_bald MW_9 (by omega) (by decide) dX8_readsLodger_178 ?_
                refine gn_iast (E2 := MW Γ mo F (pI J ((rlE (A 8) e f c s).2)) A (nmF (comF f (nI (hvP 0 4 (rlB (A 8) e f c s))) (nI (hvP 0 999 (rlC (A 8) e f c s))) (rlE (A 8) e f c s).1 c) (A 8) (13 + 16 * c + 10) (rlA (A 8) e f c s).2.1 (i142 + 1))) MW_3 (by omega) (by decide) (by rw [MW_s3]; simp only [nmF, Nat.add_sub_cancel]) dX8_readsLodger_179 ?_
                refine gn_inc (lv2 := [(6, _), (0, _), (1, _), (2, _)]) 3 rfl (by decide) rfl dX8_readsLodger_180 ?_
                refine g_goto (tgt := 142) (by decide) dX8_readsLodger_183 ?_
                refine G.sub [1, 2, 3, 0] rfl ?_
                exact ih142 (i142 + 1) (by omega)
          refine G.sub [3, 4, 5, 0] rfl ?_
          exact L142 _ 0 (Nat.zero_add _)
      refine g_aload_n 2 rfl dX8_readsLodger_73 ?_
      refine gn_ic 0 (by decide) dX8_readsLodger_74 ?_
      refine gn_ic 4 (by decide) dX8_readsLodger_75 ?_
      refine gv_V (c_X8_here (e := e) (by decide) (by decide) hvB) l_X8_163 rfl m_rcv (Nat.le_of_ble_eq_true rfl) (Nat.le_of_ble_eq_true rfl) rfl dX8_readsLodger_76 ?_
      refine g_istore_n (lv2 := [(3, _), (2, _), (1, _), (0, _)]) (by decide) rfl dX8_readsLodger_79 ?_
      refine m_get (v := .int (nI (((hrP 0 4 (rlB (A 8) e f c s))).2.2.2.2.1))) 3 rfl f_X8_151 rfl dX8_readsLodger_80 dX8_readsLodger_81 ?_
      have bb4 := (show PV e ((hrP 0 4 (rlB (A 8) e f c s))) from hrP_v hvB).2.2.2.2.1
      refine gn_if_ne (by omega) (tgt := 103) (by decide) dX8_readsLodger_84 (fun h84 => ?_) (fun h84 => ?_)
      · -- t 103
        refine G.sub [3, 2, 1, 0] rfl ?_
        refine g_world (E2 := MW Γ mo F (pI J (rl6 f (hvP 0 4 (rlB (A 8) e f c s)) (-1) c (hrP 0 4 (rlB (A 8) e f c s)))) A f) (by unfold rl6; rw [op_eq, if_neg (fun z => h84 z.1)]) ?_
        exact K103
      · -- f 87
        refine g_aload_n 3 rfl dX8_readsLodger_87 ?_
        refine g_iload_n 0 rfl dX8_readsLodger_88 ?_
        refine g_iconst (v := -1) dX8_readsLodger_89 (by decide) ?_
        refine gv_V (c_X8_livingOn (c := c) hc hc12) l_X8_80 rfl m_rcv (Nat.le_of_ble_eq_true rfl) (Nat.le_of_ble_eq_true rfl) rfl dX8_readsLodger_90 ?_
        refine gn_ic 4 (by decide) dX8_readsLodger_93 ?_
        refine gn_icmp_ne (by have := cntOn_le f (nI (hvP 0 4 (rlB (A 8) e f c s))) (-1) c; omega) (by omega) (tgt := 103) (by decide) dX8_readsLodger_94 (fun h94 => ?_) (fun h94 => ?_)
        · -- t 103
          refine G.sub [3, 2, 1, 0] rfl ?_
          refine g_world (E2 := MW Γ mo F (pI J (rl6 f (hvP 0 4 (rlB (A 8) e f c s)) (-1) c (hrP 0 4 (rlB (A 8) e f c s)))) A f) (by unfold rl6; rw [op_eq, if_neg (fun z => h94 (z.2))]) ?_
          exact K103
        · -- f 97
          refine g_aload_n 3 rfl dX8_readsLodger_97 ?_
          refine gn_bp 6 (by decide) dX8_readsLodger_98 ?_
          refine gu_V (c_X8_errs (e := e) (hrP_v hvB)) l_X8_160 rfl m_rcv (Nat.le_of_ble_eq_true rfl) (Nat.le_of_ble_eq_true rfl) rfl dX8_readsLodger_100 ?_
          refine G.sub [3, 2, 1, 0] rfl ?_
          refine g_world (E2 := MW Γ mo F (pI J (rl6 f (hvP 0 4 (rlB (A 8) e f c s)) (-1) c (hrP 0 4 (rlB (A 8) e f c s)))) A f) (by unfold rl6; rw [op_eq, if_pos ⟨h84, h94⟩]) ?_
          exact K103
    refine g_aload_n 0 rfl dX8_readsLodger_18 ?_
    refine gu_V (c_X8_next (e := e) hJ he hs1 hs3) l_X8_157 rfl m_rcv (Nat.le_of_ble_eq_true rfl) (Nat.le_of_ble_eq_true rfl) rfl dX8_readsLodger_19 ?_
    refine g_aload_n 0 rfl dX8_readsLodger_22 ?_
    refine gu_V (c_X8_isName (e := e) (nxP_v hs) he) l_X8_175 rfl m_rcv (Nat.le_of_ble_eq_true rfl) (Nat.le_of_ble_eq_true rfl) rfl dX8_readsLodger_23 ?_
    refine m_get (v := .int (nI (((nmP (nxP (A 8) e s))).2.2.2.2.1))) 0 rfl f_X8_151 rfl dX8_readsLodger_26 dX8_readsLodger_27 ?_
    have bb5 := (show PV e ((nmP (nxP (A 8) e s))) from nmP_v (nxP_v hs)).2.2.2.2.1
    refine gn_if_ne (by omega) (tgt := 54) (by decide) dX8_readsLodger_30 (fun h30 => ?_) (fun h30 => ?_)
    · -- t 54
      refine G.sub [0] rfl ?_
      refine g_world (E2 := MW Γ mo F (pI J (rlA (A 8) e f c s)) A f) (by show _ = MW _ _ _ (pI J (rl3 _ _ _ _)) _ _; unfold rl3; rw [op_eq, if_neg (fun z => h30 z.1)]) ?_
      exact K54
    · -- f 33
      refine g_aload_n 0 rfl dX8_readsLodger_33 ?_
      refine m_get (v := .int (nI (((nmP (nxP (A 8) e s))).2.1))) 0 rfl f_X8_136 rfl dX8_readsLodger_34 dX8_readsLodger_35 ?_
      refine m_get (v := .int (nI (((nmP (nxP (A 8) e s))).2.2.1))) 0 rfl f_X8_133 rfl dX8_readsLodger_38 dX8_readsLodger_39 ?_
      have hv2 : PV e (nmP (nxP (A 8) e s)) := nmP_v (nxP_v hs)
      refine gv_V (c_X8_lodgerNamed (c := c) hc hc12 hv2.2.1 (Nat.le_trans hv2.2.2.1 he)) l_X8_178 rfl m_rcv (Nat.le_of_ble_eq_true rfl) (Nat.le_of_ble_eq_true rfl) rfl dX8_readsLodger_42 ?_
      refine g_iconst (v := -1) dX8_readsLodger_45 (by decide) ?_
      refine g_icmp_eq (tgt := 54) (by decide) dX8_readsLodger_46 (fun h46 => ?_) (fun h46 => ?_)
      · -- t 54
        refine G.sub [0] rfl ?_
        refine g_world (E2 := MW Γ mo F (pI J (rlA (A 8) e f c s)) A f) (by show _ = MW _ _ _ (pI J (rl3 _ _ _ _)) _ _; unfold rl3; rw [op_eq, if_neg (fun z => z.2 h46)]) ?_
        exact K54
      · -- f 49
        refine g_aload_n 0 rfl dX8_readsLodger_49 ?_
        refine gn_ic 4 (by decide) dX8_readsLodger_50 ?_
        refine gu_V (c_X8_errs (e := e) hv2) l_X8_160 rfl m_rcv (Nat.le_of_ble_eq_true rfl) (Nat.le_of_ble_eq_true rfl) rfl dX8_readsLodger_51 ?_
        refine G.sub [0] rfl ?_
        refine g_world (E2 := MW Γ mo F (pI J (rlA (A 8) e f c s)) A f) (by show _ = MW _ _ _ (pI J (rl3 _ _ _ _)) _ _; unfold rl3; rw [op_eq, if_pos ⟨h30, h46⟩]) ?_
        exact K54
  · -- f 12
    refine g_aload_n 0 rfl dX8_readsLodger_12 ?_
    refine gn_ic 5 (by decide) dX8_readsLodger_13 ?_
    refine gu_V (c_X8_errs (e := e) hs) l_X8_160 rfl m_rcv (Nat.le_of_ble_eq_true rfl) (Nat.le_of_ble_eq_true rfl) rfl dX8_readsLodger_14 ?_
    exact g_vret ⟨rfl, by unfold rlP rlF; rw [op_eq, if_pos (by rw [hc, h9]), if_neg (fun z => z.1 (by rw [hc, h9]))], rfl⟩ rfl dX8_readsLodger_17
end GM6
