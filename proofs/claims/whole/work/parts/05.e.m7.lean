section GM7
set_option maxRecDepth 100000 in
set_option maxHeartbeats 4000000 in
theorem c_X8_takesLodger {Γ : Gm} {mo n : Nat} {F : Hp} {J : Nat → Int32} {A : Nat → Nat → Int32} {f : Nat → Int32} {s : PS} {e : Nat} {c : Nat} (hJ : J 19 = nI e) (he : e ≤ 600) (hs : PV e s) (hc : f 7 = nI c) (hc12 : c ≤ 12) : Ct Γ 4 MX8_takesLodger 0 0 [.ref mo] (MW Γ mo F (pI J s) A f) n (Rt (some (.int (nI (tlV (A 8) e f c s)))) (MW Γ mo F (pI J ((tlP (A 8) e f c s))) A f) n) X0 := by
  refine Ct.of (by decide +kernel) rfl (Nat.le_of_ble_eq_true rfl) ?_
  have hv := nmP_v hs
  have hv2 : PV e (tl2 (A 8) f c s) := tl2_v hs
  refine G.sub (lv2 := [(0, _)]) [0] rfl ?_
  have K38 : G Γ 4 MX8_takesLodger (Rt (some (.int (nI (tlV (A 8) e f c s)))) (MW Γ mo F (pI J ((tlP (A 8) e f c s))) A f) n) X0 38 [(0, .ref mo), (1, .int (tl1 (A 8) f c s))] [] (MW Γ mo F (pI J (tl2 (A 8) f c s)) A f) n 0 0 := by
    refine g_aload_n 0 rfl dX8_takesLodger_38 ?_
    refine gu_V (c_X8_goesOn (e := e) hJ he hv2) l_X8_166 rfl m_rcv (Nat.le_of_ble_eq_true rfl) (Nat.le_of_ble_eq_true rfl) rfl dX8_takesLodger_39 ?_
    rw [tlP_eq]
    refine m_get (v := .int (nI (((tlP (A 8) e f c s)).2.2.2.2.1))) 0 rfl f_X8_151 rfl dX8_takesLodger_42 dX8_takesLodger_43 ?_
    have bb1 := (show PV e ((tlP (A 8) e f c s)) from tlP_v hs).2.2.2.2.1
    refine gn_if_ne (by omega) (tgt := 53) (by decide) dX8_takesLodger_46 (fun h46 => ?_) (fun h46 => ?_)
    · -- t 53
      refine gn_ic 0 (by decide) dX8_takesLodger_53 ?_
      exact g_iret ⟨by rw [tlV, if_neg h46], rfl, rfl⟩ rfl rfl dX8_takesLodger_54
    · -- f 49
      refine g_iload_n 1 rfl dX8_takesLodger_49 ?_
      refine g_goto (tgt := 54) (by decide) dX8_takesLodger_50 ?_
      exact g_iret ⟨by obtain ⟨-, -, -, k, hk, h5, -⟩ := tl_live h46; rw [tlV, if_pos h46, h5, nI_clamp (by omega)], rfl, rfl⟩ rfl rfl dX8_takesLodger_54
  have K28 : G Γ 4 MX8_takesLodger (Rt (some (.int (nI (tlV (A 8) e f c s)))) (MW Γ mo F (pI J ((tlP (A 8) e f c s))) A f) n) X0 28 [(0, .ref mo), (1, .int (tl1 (A 8) f c s))] [] (MW Γ mo F (pI J (nmP s)) A f) n 0 0 := by
    refine g_iload_n 1 rfl dX8_takesLodger_28 ?_
    refine g_iconst (v := -1) dX8_takesLodger_29 (by decide) ?_
    refine g_icmp_ne (tgt := 38) (by decide) dX8_takesLodger_30 (fun h30 => ?_) (fun h30 => ?_)
    · -- t 38
      refine G.sub [0, 1] rfl ?_
      refine g_world (E2 := MW Γ mo F (pI J (tl2 (A 8) f c s)) A f) (by unfold tl2; rw [op_eq, if_neg h30]) ?_
      exact K38
    · -- f 33
      refine g_aload_n 0 rfl dX8_takesLodger_33 ?_
      refine gn_ic 3 (by decide) dX8_takesLodger_34 ?_
      refine gu_V (c_X8_errs (e := e) hv) l_X8_160 rfl m_rcv (Nat.le_of_ble_eq_true rfl) (Nat.le_of_ble_eq_true rfl) rfl dX8_takesLodger_35 ?_
      refine G.sub [0, 1] rfl ?_
      refine g_world (E2 := MW Γ mo F (pI J (tl2 (A 8) f c s)) A f) (by unfold tl2; rw [op_eq, if_pos h30]) ?_
      exact K38
  refine g_aload_n 0 rfl dX8_takesLodger_0 ?_
  refine gu_V (c_X8_isName (e := e) hs he) l_X8_175 rfl m_rcv (Nat.le_of_ble_eq_true rfl) (Nat.le_of_ble_eq_true rfl) rfl dX8_takesLodger_1 ?_
  refine m_get (v := .int (nI (((nmP s)).2.2.2.2.1))) 0 rfl f_X8_151 rfl dX8_takesLodger_4 dX8_takesLodger_5 ?_
  have bb2 := (show PV e ((nmP s)) from hv).2.2.2.2.1
  refine gn_if_ne (by omega) (tgt := 26) (by decide) dX8_takesLodger_8 (fun h8 => ?_) (fun h8 => ?_)
  · -- t 26
    refine gn_ic 0 (by decide) dX8_takesLodger_26 ?_
    refine g_istore_n (lv2 := [(1, _), (0, _)]) (by decide) rfl dX8_takesLodger_27 ?_
    refine G.sub [1, 0] rfl ?_
    rw [show (tl1 (A 8) f c s) = _ from if_neg h8] at K28
    exact K28
  · -- f 11
    refine g_aload_n 0 rfl dX8_takesLodger_11 ?_
    refine m_get (v := .int (nI (((nmP s)).2.1))) 0 rfl f_X8_136 rfl dX8_takesLodger_12 dX8_takesLodger_13 ?_
    refine m_get (v := .int (nI (((nmP s)).2.2.1))) 0 rfl f_X8_133 rfl dX8_takesLodger_16 dX8_takesLodger_17 ?_
    refine gv_V (c_X8_lodgerNamed (c := c) hc hc12 hv.2.1 (Nat.le_trans hv.2.2.1 he)) l_X8_178 rfl m_rcv (Nat.le_of_ble_eq_true rfl) (Nat.le_of_ble_eq_true rfl) rfl dX8_takesLodger_20 ?_
    refine g_goto (tgt := 27) (by decide) dX8_takesLodger_23 ?_
    refine g_istore_n (lv2 := [(1, _), (0, _)]) (by decide) rfl dX8_takesLodger_27 ?_
    refine G.sub [1, 0] rfl ?_
    rw [show (tl1 (A 8) f c s) = _ from if_pos h8] at K28
    exact K28
set_option maxRecDepth 100000 in
set_option maxHeartbeats 4000000 in
theorem c_X8_readsPay {Γ : Gm} {mo n : Nat} {F : Hp} {J : Nat → Int32} {A : Nat → Nat → Int32} {f : Nat → Int32} {s : PS} {e : Nat} {c : Nat} (hJ : J 19 = nI e) (he : e ≤ 600) (hs : PV e s) (hc : f 7 = nI c) (hc12 : c ≤ 12) : Ct Γ 5 MX8_readsPay 0 0 [.ref mo] (MW Γ mo F (pI J s) A f) n (Rt none (MW Γ mo F (pI J ((ryP (A 8) e f c s))) A ((ryF (A 8) e f c s))) n) X0 := by
  refine Ct.of (by decide +kernel) rfl (Nat.le_of_ble_eq_true rfl) ?_
  have hvN := nxP_v (inp := A 8) hs
  have hvA := ryA_v (inp := A 8) (f := f) (c := c) hs
  have h12 : (tlV (A 8) e f c (nxP (A 8) e s)) < 12 := tlV_lt hc12
  refine G.sub (lv2 := [(0, _)]) [0] rfl ?_
  refine g_aload_n 0 rfl dX8_readsPay_0 ?_
  refine gu_V (c_X8_next (e := e) hJ he hs.1 hs.2.2.1) l_X8_157 rfl m_rcv (Nat.le_of_ble_eq_true rfl) (Nat.le_of_ble_eq_true rfl) rfl dX8_readsPay_1 ?_
  refine g_aload_n 0 rfl dX8_readsPay_4 ?_
  refine gv_V (c_X8_takesLodger (e := e) (c := c) hJ he (hvN) hc hc12) l_X8_185 rfl m_rcv (Nat.le_of_ble_eq_true rfl) (Nat.le_of_ble_eq_true rfl) rfl dX8_readsPay_5 ?_
  refine g_istore_n (lv2 := [(1, _), (0, _)]) (by decide) rfl dX8_readsPay_8 ?_
  refine g_aload_n 1 rfl dX8_readsPay_9 ?_
  refine gn_ic 1 (by decide) dX8_readsPay_10 ?_
  refine gn_sp 999 (by decide) dX8_readsPay_11 ?_
  refine gv_V (c_X8_takesNumber (e := e) hJ he hvA (by decide) (by decide)) l_X8_172 rfl m_rcv (Nat.le_of_ble_eq_true rfl) (Nat.le_of_ble_eq_true rfl) rfl dX8_readsPay_14 ?_
  rw [ryP_eq]
  refine g_istore_n (lv2 := [(2, _), (1, _), (0, _)]) (by decide) rfl dX8_readsPay_17 ?_
  refine m_get (v := .int (nI (((ryP (A 8) e f c s)).2.2.2.2.1))) 2 rfl f_X8_151 rfl dX8_readsPay_18 dX8_readsPay_19 ?_
  have bb1 := (show PV e ((ryP (A 8) e f c s)) from ryP_v hs).2.2.2.2.1
  refine gn_if_ne (by omega) (tgt := 31) (by decide) dX8_readsPay_22 (fun h22 => ?_) (fun h22 => ?_)
  · -- t 31
    exact g_vret ⟨rfl, by unfold ryF; rw [if_neg h22], rfl⟩ rfl dX8_readsPay_31
  · -- f 25
    refine g_aload_n 2 rfl dX8_readsPay_25 ?_
    refine g_iload_n 1 rfl dX8_readsPay_26 ?_
    refine g_iload_n 0 rfl dX8_readsPay_27 ?_
    refine gu_V (c_X8_pays (k := (tlV (A 8) e f c (nxP (A 8) e s))) h12) l_X8_188 rfl m_rcv (Nat.le_of_ble_eq_true rfl) (Nat.le_of_ble_eq_true rfl) rfl dX8_readsPay_28 ?_
    exact g_vret ⟨rfl, by unfold ryF; rw [if_pos h22], rfl⟩ rfl dX8_readsPay_31
set_option maxRecDepth 100000 in
set_option maxHeartbeats 4000000 in
theorem c_X8_readsMove {Γ : Gm} {mo n : Nat} {F : Hp} {J : Nat → Int32} {A : Nat → Nat → Int32} {f : Nat → Int32} {s : PS} {e : Nat} {c : Nat} (hJ : J 19 = nI e) (he : e ≤ 600) (hs : PV e s) (hc : f 7 = nI c) (hc12 : c ≤ 12) : Ct Γ 5 MX8_readsMove 0 0 [.ref mo] (MW Γ mo F (pI J s) A f) n (Rt none (MW Γ mo F (pI J ((rmP (A 8) e f c s))) A ((rmF (A 8) e f c s))) n) X0 := by
  refine Ct.of (by decide +kernel) rfl (Nat.le_of_ble_eq_true rfl) ?_
  have hvN := nxP_v (inp := A 8) hs
  have hvA := ryA_v (inp := A 8) (f := f) (c := c) hs
  have h12 : (tlV (A 8) e f c (nxP (A 8) e s)) < 12 := tlV_lt hc12
  have hvR := hrP_v (lo := 0) (hi := 4) hvA
  have hv6 : PV e (rl6 f (hvP 0 4 (ryA (A 8) e f c s)) (nI (tlV (A 8) e f c (nxP (A 8) e s))) c (hrP 0 4 (ryA (A 8) e f c s))) := rl6_v hvR
  refine G.sub (lv2 := [(0, _)]) [0] rfl ?_
  refine g_aload_n 0 rfl dX8_readsMove_0 ?_
  refine gu_V (c_X8_next (e := e) hJ he hs.1 hs.2.2.1) l_X8_157 rfl m_rcv (Nat.le_of_ble_eq_true rfl) (Nat.le_of_ble_eq_true rfl) rfl dX8_readsMove_1 ?_
  refine g_aload_n 0 rfl dX8_readsMove_4 ?_
  refine gv_V (c_X8_takesLodger (e := e) (c := c) hJ he (hvN) hc hc12) l_X8_185 rfl m_rcv (Nat.le_of_ble_eq_true rfl) (Nat.le_of_ble_eq_true rfl) rfl dX8_readsMove_5 ?_
  refine g_istore_n (lv2 := [(1, _), (0, _)]) (by decide) rfl dX8_readsMove_8 ?_
  refine g_aload_n 1 rfl dX8_readsMove_9 ?_
  refine gn_ic 0 (by decide) dX8_readsMove_10 ?_
  refine gn_ic 4 (by decide) dX8_readsMove_11 ?_
  refine gv_V (c_X8_here (e := e) (by decide) (by decide) hvA) l_X8_163 rfl m_rcv (Nat.le_of_ble_eq_true rfl) (Nat.le_of_ble_eq_true rfl) rfl dX8_readsMove_12 ?_
  refine g_istore_n (lv2 := [(2, _), (1, _), (0, _)]) (by decide) rfl dX8_readsMove_15 ?_
  have K39 : G Γ 5 MX8_readsMove (Rt none (MW Γ mo F (pI J ((rmP (A 8) e f c s))) A ((rmF (A 8) e f c s))) n) X0 39 [(0, .ref mo), (1, .int (nI (tlV (A 8) e f c (nxP (A 8) e s)))), (2, .int (nI (hvP 0 4 (ryA (A 8) e f c s))))] [] (MW Γ mo F (pI J (rl6 f (hvP 0 4 (ryA (A 8) e f c s)) (nI (tlV (A 8) e f c (nxP (A 8) e s))) c (hrP 0 4 (ryA (A 8) e f c s)))) A f) n 0 0 := by
    refine g_aload_n 0 rfl dX8_readsMove_39 ?_
    refine gu_V (c_X8_goesOn (e := e) hJ he hv6) l_X8_166 rfl m_rcv (Nat.le_of_ble_eq_true rfl) (Nat.le_of_ble_eq_true rfl) rfl dX8_readsMove_40 ?_
    rw [rmP_eq]
    refine m_get (v := .int (nI (((rmP (A 8) e f c s)).2.2.2.2.1))) 0 rfl f_X8_151 rfl dX8_readsMove_43 dX8_readsMove_44 ?_
    have bb1 := (show PV e ((rmP (A 8) e f c s)) from rmP_v hs).2.2.2.2.1
    refine gn_if_ne (by omega) (tgt := 62) (by decide) dX8_readsMove_47 (fun h47 => ?_) (fun h47 => ?_)
    · -- t 62
      exact g_vret ⟨rfl, by unfold rmF; rw [if_neg h47], rfl⟩ rfl dX8_readsMove_62
    · -- f 50
      refine m_get 0 rfl f_X8_19 rfl dX8_readsMove_50 dX8_readsMove_51 ?_
      refine g_iload_n 1 rfl dX8_readsMove_54 ?_
      refine gv_S (c_X8_l ) l_X8_56 rfl (Nat.le_of_ble_eq_true rfl) (Nat.le_of_ble_eq_true rfl) rfl dX8_readsMove_55 ?_
      refine gn_ic 0 (by decide) dX8_readsMove_58 ?_
      refine gn_iadd0 dX8_readsMove_59 ?_
      refine g_iload_n 2 rfl dX8_readsMove_60 ?_
      refine gn_iast MW_3 (by omega) (by decide) MW_s3 dX8_readsMove_61 ?_
      exact g_vret ⟨rfl, by unfold rmF; rw [if_pos h47], rfl⟩ rfl dX8_readsMove_62
  refine m_get (v := .int (nI (((hrP 0 4 (ryA (A 8) e f c s))).2.2.2.2.1))) 2 rfl f_X8_151 rfl dX8_readsMove_16 dX8_readsMove_17 ?_
  have bb2 := (show PV e ((hrP 0 4 (ryA (A 8) e f c s))) from hvR).2.2.2.2.1
  refine gn_if_ne (by omega) (tgt := 39) (by decide) dX8_readsMove_20 (fun h20 => ?_) (fun h20 => ?_)
  · -- t 39
    refine G.sub [2, 1, 0] rfl ?_
    refine g_world (E2 := MW Γ mo F (pI J (rl6 f (hvP 0 4 (ryA (A 8) e f c s)) (nI (tlV (A 8) e f c (nxP (A 8) e s))) c (hrP 0 4 (ryA (A 8) e f c s)))) A f) (by unfold rl6; rw [op_eq, if_neg (fun z => h20 z.1)]) ?_
    exact K39
  · -- f 23
    refine g_aload_n 2 rfl dX8_readsMove_23 ?_
    refine g_iload_n 0 rfl dX8_readsMove_24 ?_
    refine g_iload_n 1 rfl dX8_readsMove_25 ?_
    refine gv_V (c_X8_livingOn (c := c) hc hc12) l_X8_80 rfl m_rcv (Nat.le_of_ble_eq_true rfl) (Nat.le_of_ble_eq_true rfl) rfl dX8_readsMove_26 ?_
    refine gn_ic 4 (by decide) dX8_readsMove_29 ?_
    refine gn_icmp_ne (by have := cntOn_le f (nI (hvP 0 4 (ryA (A 8) e f c s))) (nI (tlV (A 8) e f c (nxP (A 8) e s))) c; omega) (by omega) (tgt := 39) (by decide) dX8_readsMove_30 (fun h30 => ?_) (fun h30 => ?_)
    · -- t 39
      refine G.sub [2, 1, 0] rfl ?_
      refine g_world (E2 := MW Γ mo F (pI J (rl6 f (hvP 0 4 (ryA (A 8) e f c s)) (nI (tlV (A 8) e f c (nxP (A 8) e s))) c (hrP 0 4 (ryA (A 8) e f c s)))) A f) (by unfold rl6; rw [op_eq, if_neg (fun z => h30 (z.2))]) ?_
      exact K39
    · -- f 33
      refine g_aload_n 2 rfl dX8_readsMove_33 ?_
      refine gn_bp 6 (by decide) dX8_readsMove_34 ?_
      refine gu_V (c_X8_errs (e := e) hvR) l_X8_160 rfl m_rcv (Nat.le_of_ble_eq_true rfl) (Nat.le_of_ble_eq_true rfl) rfl dX8_readsMove_36 ?_
      refine G.sub [2, 1, 0] rfl ?_
      refine g_world (E2 := MW Γ mo F (pI J (rl6 f (hvP 0 4 (ryA (A 8) e f c s)) (nI (tlV (A 8) e f c (nxP (A 8) e s))) c (hrP 0 4 (ryA (A 8) e f c s)))) A f) (by unfold rl6; rw [op_eq, if_pos ⟨h20, h30⟩]) ?_
      exact K39
set_option maxRecDepth 100000 in
set_option maxHeartbeats 4000000 in
theorem c_X8_readsLine {Γ : Gm} {mo n : Nat} {F : Hp} {J : Nat → Int32} {A : Nat → Nat → Int32} {f : Nat → Int32} {s : PS} {e : Nat} {c : Nat} (hJ : J 19 = nI e) (he : e ≤ 600) (hs : PV e s) (hK : A 0 = kyF) (h : Okr f c) (h11 : J 11 = -1) : Ct Γ 8 MX8_readsLine 0 0 [.ref mo] (MW Γ mo F (pI J s) A f) n (fun v E1 n1 => v = none ∧ n1 = n ∧ ∃ A2, Sc A A2 ∧ E1 = MW Γ mo F (pI J (lnP (A 8) e f c s)) A2 (lnF (A 8) e f J c s)) X0 := by
  refine Ct.of (by decide +kernel) rfl (Nat.le_of_ble_eq_true rfl) ?_
  obtain ⟨hc, hc12, hfl⟩ := id h
  have hvN := nxP_v (inp := A 8) hs
  have hp11 : pI J (rdP (A 8) e s) 11 = -1 := (pI_o (by decide)).trans h11
  refine G.sub (lv2 := [(0, _)]) [0] rfl ?_
  refine g_aload_n 0 rfl dX8_readsLine_0 ?_
  refine gn_ic 2 (by decide) dX8_readsLine_1 ?_
  refine gv_V (c_X8_isKey (e := e) hJ he hs hK (by decide)) l_X8_169 rfl m_rcv (Nat.le_of_ble_eq_true rfl) (Nat.le_of_ble_eq_true rfl) rfl dX8_readsLine_2 ?_
  refine g_if_eq (tgt := 15) (by decide) dX8_readsLine_5 (fun h5 => ?_) (fun h5 => ?_)
  · -- t 15
    refine g_aload_n 0 rfl dX8_readsLine_15 ?_
    refine gn_ic 3 (by decide) dX8_readsLine_16 ?_
    refine gv_V (c_X8_isKey (e := e) hJ he hs hK (by decide)) l_X8_169 rfl m_rcv (Nat.le_of_ble_eq_true rfl) (Nat.le_of_ble_eq_true rfl) rfl dX8_readsLine_17 ?_
    refine g_if_eq (tgt := 30) (by decide) dX8_readsLine_20 (fun h20 => ?_) (fun h20 => ?_)
    · -- t 30
      refine g_aload_n 0 rfl dX8_readsLine_30 ?_
      refine gn_ic 4 (by decide) dX8_readsLine_31 ?_
      refine gv_V (c_X8_isKey (e := e) hJ he hs hK (by decide)) l_X8_169 rfl m_rcv (Nat.le_of_ble_eq_true rfl) (Nat.le_of_ble_eq_true rfl) rfl dX8_readsLine_32 ?_
      refine g_if_eq (tgt := 45) (by decide) dX8_readsLine_35 (fun h35 => ?_) (fun h35 => ?_)
      · -- t 45
        refine g_aload_n 0 rfl dX8_readsLine_45 ?_
        refine gn_ic 5 (by decide) dX8_readsLine_46 ?_
        refine gv_V (c_X8_isKey (e := e) hJ he hs hK (by decide)) l_X8_169 rfl m_rcv (Nat.le_of_ble_eq_true rfl) (Nat.le_of_ble_eq_true rfl) rfl dX8_readsLine_47 ?_
        refine g_if_eq (tgt := 84) (by decide) dX8_readsLine_50 (fun h50 => ?_) (fun h50 => ?_)
        · -- t 84
          refine g_aload_n 0 rfl dX8_readsLine_84 ?_
          refine gn_ic 1 (by decide) dX8_readsLine_85 ?_
          refine gu_V (c_X8_errs (e := e) hs) l_X8_160 rfl m_rcv (Nat.le_of_ble_eq_true rfl) (Nat.le_of_ble_eq_true rfl) rfl dX8_readsLine_86 ?_
          exact g_vret ⟨rfl, rfl, A, Sc.rf, by unfold lnP lnF; rw [op_eq, if_neg (bi_0 h5), if_neg (bi_0 h20), if_neg (bi_0 h35), if_neg (bi_0 h50), if_neg (bi_0 h5), if_neg (bi_0 h20), if_neg (bi_0 h35), if_neg (bi_0 h50)]⟩ rfl dX8_readsLine_89
        · -- f 53
          refine g_aload_n 0 rfl dX8_readsLine_53 ?_
          refine gu_V (c_X8_next (e := e) hJ he hs.1 hs.2.2.1) l_X8_157 rfl m_rcv (Nat.le_of_ble_eq_true rfl) (Nat.le_of_ble_eq_true rfl) rfl dX8_readsLine_54 ?_
          refine g_aload_n 0 rfl dX8_readsLine_57 ?_
          refine gn_ic 1 (by decide) dX8_readsLine_58 ?_
          refine gn_bp 100 (by decide) dX8_readsLine_59 ?_
          refine gv_V (c_X8_takesNumber (e := e) hJ he hvN (by decide) (by decide)) l_X8_172 rfl m_rcv (Nat.le_of_ble_eq_true rfl) (Nat.le_of_ble_eq_true rfl) rfl dX8_readsLine_61 ?_
          rw [rdP_eq]
          refine g_istore_n (lv2 := [(1, _), (0, _)]) (by decide) rfl dX8_readsLine_64 ?_
          have K78 : G Γ 8 MX8_readsLine (fun v E1 n1 => v = none ∧ n1 = n ∧ ∃ A2, Sc A A2 ∧ E1 = MW Γ mo F (pI J (lnP (A 8) e f c s)) A2 (lnF (A 8) e f J c s)) X0 78 [(0, .ref mo), (1, .int (nI (hvP 1 100 (nxP (A 8) e s))))] [.int (nI (rdN (A 8) e s)), .ref mo] (MW Γ mo F (pI J (rdP (A 8) e s)) A f) n 0 0 := by
            refine gx_V0 (c_X8_passes h (t := (rdN (A 8) e s)) (by unfold rdN; split <;> have := (hvP_b (s := (nxP (A 8) e s)) (show 1 ≤ 100 by decide)).2 <;> omega)) l_X8_201 rfl m_rcv (Nat.le_of_ble_eq_true rfl) (Nat.le_of_ble_eq_true rfl) rfl dX8_readsLine_78 (fun _ _ _ z => z.1) (fun E1 n1 z => ?_)
            obtain ⟨-, rfl, A2, hS2, rfl⟩ := z
            rw [dysM_I hp11, dysM_1 (pI J (rdP (A 8) e s)) J]
            refine g_goto (tgt := 89) (by decide) dX8_readsLine_81 ?_
            exact g_vret ⟨rfl, rfl, A2, hS2, by unfold lnP lnF; rw [op_eq, if_neg (bi_0 h5), if_neg (bi_0 h20), if_neg (bi_0 h35), if_pos (bi_n0 h50), if_neg (bi_0 h5), if_neg (bi_0 h20), if_neg (bi_0 h35), if_pos (bi_n0 h50)]⟩ rfl dX8_readsLine_89
          refine g_aload_n 1 rfl dX8_readsLine_65 ?_
          refine m_get (v := .int (nI (((rdP (A 8) e s)).2.2.2.2.1))) 1 rfl f_X8_151 rfl dX8_readsLine_66 dX8_readsLine_67 ?_
          have bb1 := (show PV e ((rdP (A 8) e s)) from rdP_v hs).2.2.2.2.1
          refine gn_if_ne (by omega) (tgt := 77) (by decide) dX8_readsLine_70 (fun h70 => ?_) (fun h70 => ?_)
          · -- t 77
            refine gn_ic 0 (by decide) dX8_readsLine_77 ?_
            refine G.sub [1, 0] rfl ?_
            rw [show (rdN (A 8) e s) = _ from if_neg h70] at K78
            exact K78
          · -- f 73
            refine g_iload_n 0 rfl dX8_readsLine_73 ?_
            refine g_goto (tgt := 78) (by decide) dX8_readsLine_74 ?_
            refine G.sub [1, 0] rfl ?_
            rw [show (rdN (A 8) e s) = _ from if_pos h70] at K78
            exact K78
      · -- f 38
        refine g_aload_n 0 rfl dX8_readsLine_38 ?_
        refine gu_V (c_X8_readsMove (e := e) (c := c) hJ he (hs) hc hc12) l_X8_198 rfl m_rcv (Nat.le_of_ble_eq_true rfl) (Nat.le_of_ble_eq_true rfl) rfl dX8_readsLine_39 ?_
        refine g_goto (tgt := 89) (by decide) dX8_readsLine_42 ?_
        exact g_vret ⟨rfl, rfl, A, Sc.rf, by unfold lnP lnF; rw [op_eq, if_neg (bi_0 h5), if_neg (bi_0 h20), if_pos (bi_n0 h35), if_neg (bi_0 h5), if_neg (bi_0 h20), if_pos (bi_n0 h35)]⟩ rfl dX8_readsLine_89
    · -- f 23
      refine g_aload_n 0 rfl dX8_readsLine_23 ?_
      refine gu_V (c_X8_readsPay (e := e) (c := c) hJ he (hs) hc hc12) l_X8_195 rfl m_rcv (Nat.le_of_ble_eq_true rfl) (Nat.le_of_ble_eq_true rfl) rfl dX8_readsLine_24 ?_
      refine g_goto (tgt := 89) (by decide) dX8_readsLine_27 ?_
      exact g_vret ⟨rfl, rfl, A, Sc.rf, by unfold lnP lnF; rw [op_eq, if_neg (bi_0 h5), if_pos (bi_n0 h20), if_neg (bi_0 h5), if_pos (bi_n0 h20)]⟩ rfl dX8_readsLine_89
  · -- f 8
    refine g_aload_n 0 rfl dX8_readsLine_8 ?_
    refine gu_V (c_X8_readsLodger (e := e) (c := c) hJ he (hs) hc hc12) l_X8_192 rfl m_rcv (Nat.le_of_ble_eq_true rfl) (Nat.le_of_ble_eq_true rfl) rfl dX8_readsLine_9 ?_
    refine g_goto (tgt := 89) (by decide) dX8_readsLine_12 ?_
    exact g_vret ⟨rfl, rfl, A, Sc.rf, by unfold lnP lnF; rw [op_eq, if_pos (bi_n0 h5), if_pos (bi_n0 h5)]⟩ rfl dX8_readsLine_89
set_option maxRecDepth 100000 in
set_option maxHeartbeats 4000000 in
theorem c_X8_readsText {Γ : Gm} {mo n : Nat} {F : Hp} {J : Nat → Int32} {A : Nat → Nat → Int32} {f : Nat → Int32} {s : PS} {e : Nat}  (he : e ≤ 600) (hv31 : s.2.2.2.1 < 2 ^ 31) (hfa : s.2.2.2.2.2 ≤ 600) (hK : A 0 = kyF) (h11 : J 11 = -1) : Ct Γ 9 MX8_readsText 0 0 [.ref mo, .int (nI e)] (MW Γ mo F (pI J s) A f) n (fun v E1 n1 => v = none ∧ n1 = n ∧ ∃ A2, Sc A A2 ∧ E1 = MW Γ mo F (pI (upd J 19 (nI e)) ((txP (A 8) e (upd J 19 (nI e)) (z0 s))).2) A2 ((txP (A 8) e (upd J 19 (nI e)) (z0 s))).1) X0 := by
  refine Ct.of (by decide +kernel) rfl (Nat.le_of_ble_eq_true rfl) ?_
  have hvN : PV e (nxP (A 8) e (z0 s)) := (show PV e (nxP (A 8) e (z0 s)) from nxP_v0 (Nat.zero_le _) he hv31 (Nat.zero_le 6) hfa)
  have hvB : PV e (rtB (A 8) e (z0 s)) := twP_v hvN
  have hvC : PV e (rtC (A 8) e (z0 s)) := tnP_v hvB
  have hvD : PV e (rtD (A 8) e (z0 s)) := tnP_v hvC
  have hvT : PV e (tsP (A 8) e (rtD (A 8) e (z0 s))) := tsP_v hvD
  have hvE : PV e (rtE (A 8) e (z0 s)) := twP_v hvT
  have h9 : (upd J 19 (nI e)) 11 = -1 := (pk_un (by decide)).trans h11
  rw [show MW Γ mo F (pI J s) A f = MW Γ mo F (pI J s) A (zro f 0 0) from by rw [zro_0]]
  refine G.sub (lv2 := [(0, _), (1, _)]) [0, 1] rfl ?_
  refine gn_ic 0 (by decide) dX8_readsText_0 ?_
  refine g_istore_n (lv2 := [(2, _), (0, _), (1, _)]) (by decide) rfl dX8_readsText_1 ?_
  have L2 : ∀ (m2 i2 : Nat), i2 + m2 = 205 → G Γ 9 MX8_readsText (fun v E1 n1 => v = none ∧ n1 = n ∧ ∃ A2, Sc A A2 ∧ E1 = MW Γ mo F (pI (upd J 19 (nI e)) ((txP (A 8) e (upd J 19 (nI e)) (z0 s))).2) A2 ((txP (A 8) e (upd J 19 (nI e)) (z0 s))).1) X0 2 [(0, .ref mo), (1, .int (nI e)), (2, .int (nI i2))] [] (MW Γ mo F (pI J s) A (zro f 0 i2)) n 0 0 := by
    intro m2
    induction m2 with
    | zero =>
      intro i2 hi2
      refine g_iload_n 2 rfl dX8_readsText_2 ?_
      refine gn_sp 205 (by decide) dX8_readsText_3 ?_
      refine gn_icmp_ge (by omega) (by omega) (tgt := 22) (by decide) dX8_readsText_6 (fun cc1 => ?_) (fun cc1 => ?_)
      · -- t 22
        obtain rfl : i2 = 205 := by omega
        refine m_ag (g := (fun _ => nI 0)) (fun j hj => by unfold zro; rw [if_pos (by omega)]) ?_
        refine g_aload_n 0 rfl dX8_readsText_22 ?_
        refine g_iload_n 1 rfl dX8_readsText_23 ?_
        refine m_putJ f_X8_139 w_X8_19 (by decide) (by decide) rfl dX8_readsText_24 ?_
        refine g_aload_n 0 rfl dX8_readsText_27 ?_
        refine gn_ic 0 (by decide) dX8_readsText_28 ?_
        refine m_putP24 f_X8_151 dX8_readsText_29 ?_
        refine g_aload_n 0 rfl dX8_readsText_32 ?_
        refine gn_ic 0 (by decide) dX8_readsText_33 ?_
        refine m_putP20 f_X8_130 dX8_readsText_34 ?_
        refine g_aload_n 0 rfl dX8_readsText_37 ?_
        refine gn_ic 0 (by decide) dX8_readsText_38 ?_
        refine m_putP22 f_X8_133 dX8_readsText_39 ?_
        refine g_aload_n 0 rfl dX8_readsText_42 ?_
        refine gu_V (c_X8_next (e := e) (J := (upd J 19 (nI e))) (s := (z0 s)) pk_us he (Nat.zero_le 4) (Nat.zero_le e)) l_X8_157 rfl m_rcv (Nat.le_of_ble_eq_true rfl) (Nat.le_of_ble_eq_true rfl) rfl dX8_readsText_43 ?_
        refine g_aload_n 0 rfl dX8_readsText_46 ?_
        refine gn_ic 0 (by decide) dX8_readsText_47 ?_
        refine gu_V (c_X8_takesWord (e := e) (J := (upd J 19 (nI e))) pk_us he (hvN) hK (by decide)) l_X8_204 rfl m_rcv (Nat.le_of_ble_eq_true rfl) (Nat.le_of_ble_eq_true rfl) rfl dX8_readsText_48 ?_
        refine m_get 0 rfl f_X8_19 rfl dX8_readsText_51 dX8_readsText_52 ?_
        refine gn_ic 0 (by decide) dX8_readsText_55 ?_
        refine g_aload_n 0 rfl dX8_readsText_56 ?_
        refine gn_ic 0 (by decide) dX8_readsText_57 ?_
        refine gn_bp 50 (by decide) dX8_readsText_58 ?_
        refine gv_V (c_X8_takesNumber (e := e) (J := (upd J 19 (nI e))) pk_us he (hvB) (by decide) (by decide)) l_X8_172 rfl m_rcv (Nat.le_of_ble_eq_true rfl) (Nat.le_of_ble_eq_true rfl) rfl dX8_readsText_60 ?_
        refine gn_iast MW_3 (by omega) (by decide) MW_s3 dX8_readsText_63 ?_
        refine m_get 0 rfl f_X8_19 rfl dX8_readsText_64 dX8_readsText_65 ?_
        refine gn_ic 1 (by decide) dX8_readsText_68 ?_
        refine g_aload_n 0 rfl dX8_readsText_69 ?_
        refine gn_ic 0 (by decide) dX8_readsText_70 ?_
        refine gn_bp 45 (by decide) dX8_readsText_71 ?_
        refine gv_V (c_X8_takesNumber (e := e) (J := (upd J 19 (nI e))) pk_us he (hvC) (by decide) (by decide)) l_X8_172 rfl m_rcv (Nat.le_of_ble_eq_true rfl) (Nat.le_of_ble_eq_true rfl) rfl dX8_readsText_73 ?_
        refine gn_iast MW_3 (by omega) (by decide) MW_s3 dX8_readsText_76 ?_
        refine g_aload_n 0 rfl dX8_readsText_77 ?_
        refine gu_V (c_X8_takesSemicolon (e := e) (J := (upd J 19 (nI e))) pk_us he (hvD)) l_X8_207 rfl m_rcv (Nat.le_of_ble_eq_true rfl) (Nat.le_of_ble_eq_true rfl) rfl dX8_readsText_78 ?_
        refine g_aload_n 0 rfl dX8_readsText_81 ?_
        refine gn_ic 1 (by decide) dX8_readsText_82 ?_
        refine gu_V (c_X8_takesWord (e := e) (J := (upd J 19 (nI e))) pk_us he (hvT) hK (by decide)) l_X8_204 rfl m_rcv (Nat.le_of_ble_eq_true rfl) (Nat.le_of_ble_eq_true rfl) rfl dX8_readsText_83 ?_
        refine gn_ic 0 (by decide) dX8_readsText_86 ?_
        refine g_istore_n (lv2 := [(2, _), (0, _), (1, _)]) (by decide) rfl dX8_readsText_87 ?_
        have L88 : ∀ (m88 i88 : Nat), i88 + m88 = 5 → G Γ 9 MX8_readsText (fun v E1 n1 => v = none ∧ n1 = n ∧ ∃ A2, Sc A A2 ∧ E1 = MW Γ mo F (pI (upd J 19 (nI e)) ((txP (A 8) e (upd J 19 (nI e)) (z0 s))).2) A2 ((txP (A 8) e (upd J 19 (nI e)) (z0 s))).1) X0 88 [(0, .ref mo), (2, .int (nI i88))] [] (MW Γ mo F (pI (upd J 19 (nI e)) ((lpP (A 8) e (rtE (A 8) e (z0 s)) i88))) (A) ((hdF (A 8) e (z0 s) i88))) n 0 0 := by
          intro m88
          induction m88 with
          | zero =>
            intro i88 hi88
            refine g_iload_n 1 rfl dX8_readsText_88 ?_
            refine gn_ic 5 (by decide) dX8_readsText_89 ?_
            refine gn_icmp_ge (by omega) (by omega) (tgt := 114) (by decide) dX8_readsText_90 (fun cc2 => ?_) (fun cc2 => ?_)
            · -- t 114
              obtain rfl : i88 = 5 := by omega
              have L114 : ∀ (m114 : Nat) (f1 : Nat → Int32) (s1 : PS) (A1 : Nat → Nat → Int32), (PV e s1) → (Okr f1 (mny f1)) → (s1.2.2.2.2.1 = 0 → e - s1.2.1 ≤ m114) → (Sc A A1) → (lsP (A 8) e (upd J 19 (nI e)) m114 (f1, s1) = (txP (A 8) e (upd J 19 (nI e)) (z0 s))) → G Γ 9 MX8_readsText (fun v E1 n1 => v = none ∧ n1 = n ∧ ∃ A2, Sc A A2 ∧ E1 = MW Γ mo F (pI (upd J 19 (nI e)) ((txP (A 8) e (upd J 19 (nI e)) (z0 s))).2) A2 ((txP (A 8) e (upd J 19 (nI e)) (z0 s))).1) X0 114 [(0, .ref mo)] [] (MW Γ mo F (pI (upd J 19 (nI e)) (s1)) (A1) (f1)) n 0 0 := by
                intro m114
                induction m114 with
                | zero =>
                  intro f1 s1 A1 hv hO hm hS hE
                  obtain ⟨hs1, hs2, hs3, hs4, hs5, hs6, hs7, hs8, hs9⟩ := id hv
                  refine m_get (v := .int (nI ((s1).2.2.2.2.1))) 0 rfl f_X8_151 rfl dX8_readsText_114 dX8_readsText_115 ?_
                  have bb3 := (show PV e (s1) from hv).2.2.2.2.1
                  refine gn_if_ne (by omega) (tgt := 146) (by decide) dX8_readsText_118 (fun h118 => ?_) (fun h118 => ?_)
                  · -- t 146
                    exact g_vret ⟨rfl, rfl, A1, hS, by rw [← hE, lsP_x (x := (f1, s1)) (fun z => h118 z.1)]⟩ rfl dX8_readsText_146
                  · -- f 121
                    refine m_get (v := .int (nI ((s1).1))) 0 rfl f_X8_130 rfl dX8_readsText_121 dX8_readsText_122 ?_
                    have bb4 := (show PV e (s1) from hv).1
                    refine gn_if_eq (by omega) (tgt := 146) (by decide) dX8_readsText_125 (fun h125 => ?_) (fun h125 => ?_)
                    · -- t 146
                      exact g_vret ⟨rfl, rfl, A1, hS, by rw [← hE, lsP_x (x := (f1, s1)) (fun z => z.2 h125)]⟩ rfl dX8_readsText_146
                    · -- f 128
                      exfalso; have := hm h118; have := hs8 h125; omega
                | succ m114 ih114 =>
                  intro f1 s1 A1 hv hO hm hS hE
                  obtain ⟨hs1, hs2, hs3, hs4, hs5, hs6, hs7, hs8, hs9⟩ := id hv
                  have e8 : A1 8 = A 8 := hS 8 (by decide) (by decide)
                  have e0 : A1 0 = kyF := (hS 0 (by decide) (by decide)).trans hK
                  refine m_get (v := .int (nI ((s1).2.2.2.2.1))) 0 rfl f_X8_151 rfl dX8_readsText_114 dX8_readsText_115 ?_
                  have bb5 := (show PV e (s1) from hv).2.2.2.2.1
                  refine gn_if_ne (by omega) (tgt := 146) (by decide) dX8_readsText_118 (fun h118 => ?_) (fun h118 => ?_)
                  · -- t 146
                    exact g_vret ⟨rfl, rfl, A1, hS, by rw [← hE, lsP_x (x := (f1, s1)) (fun z => h118 z.1)]⟩ rfl dX8_readsText_146
                  · -- f 121
                    refine m_get (v := .int (nI ((s1).1))) 0 rfl f_X8_130 rfl dX8_readsText_121 dX8_readsText_122 ?_
                    have bb6 := (show PV e (s1) from hv).1
                    refine gn_if_eq (by omega) (tgt := 146) (by decide) dX8_readsText_125 (fun h125 => ?_) (fun h125 => ?_)
                    · -- t 146
                      exact g_vret ⟨rfl, rfl, A1, hS, by rw [← hE, lsP_x (x := (f1, s1)) (fun z => z.2 h125)]⟩ rfl dX8_readsText_146
                    · -- f 128
                      refine g_aload_n 0 rfl dX8_readsText_128 ?_
                      refine gu_V (c_X8_takesSemicolon (e := e) (J := (upd J 19 (nI e))) pk_us he (hv)) l_X8_207 rfl m_rcv (Nat.le_of_ble_eq_true rfl) (Nat.le_of_ble_eq_true rfl) rfl dX8_readsText_129 ?_
                      rw [e8]
                      refine m_get (v := .int (nI (((tsP (A 8) e s1)).2.2.2.2.1))) 0 rfl f_X8_151 rfl dX8_readsText_132 dX8_readsText_133 ?_
                      have bb7 := (show PV e ((tsP (A 8) e s1)) from tsP_v hv).2.2.2.2.1
                      refine gn_if_ne (by omega) (tgt := 114) (by decide) dX8_readsText_136 (fun h136 => ?_) (fun h136 => ?_)
                      · -- t 114
                        refine G.sub [0] rfl ?_
                        exact ih114 f1 (tsP (A 8) e s1) A1 (tsP_v hv) hO (fun z => absurd z h136) hS ((lsP_x (x := (f1, tsP (A 8) e s1)) (fun z => h136 z.1)).trans ((lsP_e (x := (f1, s1)) ⟨h118, h125⟩ h136).symm.trans hE))
                      · -- f 139
                        refine g_aload_n 0 rfl dX8_readsText_139 ?_
                        refine gx_V0 (c_X8_readsLine (e := e) (c := mny f1) (J := (upd J 19 (nI e))) pk_us he (tsP_v hv) e0 hO h9) l_X8_210 rfl m_rcv (Nat.le_of_ble_eq_true rfl) (Nat.le_of_ble_eq_true rfl) rfl dX8_readsText_140 (fun _ _ _ z => z.1) (fun E1 n1 z => ?_)
                        obtain ⟨-, rfl, A2, hS2, rfl⟩ := z
                        rw [e8]
                        refine g_goto (tgt := 114) (by decide) dX8_readsText_143 ?_
                        refine G.sub [0] rfl ?_
                        exact (by have hl := tsP_live (inp := A 8) hv h136; have hl2 := lnP_fr (inp := A 8) (f := f1) (c := mny f1) (tsP_v (inp := A 8) hv); obtain ⟨c2, hc2, hO2⟩ := lnF_ok (inp := A 8) (J := (upd J 19 (nI e))) hO (tsP_v (inp := A 8) hv); exact ih114 _ _ A2 (lnP_v (tsP_v hv)) (by rw [mny_eq hO2]; exact hO2) (fun _ => by have := hm h118; omega) (hS.tr hS2) ((lsP_s (x := (f1, s1)) ⟨h118, h125⟩ h136).symm.trans hE))
              refine G.sub [0] rfl ?_
              exact L114 (e + 1) (hdF (A 8) e (z0 s) 5) (lpP (A 8) e (rtE (A 8) e (z0 s)) 5) A (lpP_v hvE 5) (by have e5 : (hdF (A 8) e (z0 s) 5) 7 = nI 0 := hdF_hi (by decide) 5 (by decide); have e6 : mny (hdF (A 8) e (z0 s) 5) = 0 := (by unfold mny; rw [e5]; rfl); rw [e6]; exact ⟨e5, by decide, fun k hk => by omega⟩) (fun _ => by omega) Sc.rf (by unfold txP; rfl)
            · -- f 93
              exfalso; omega
          | succ m88 ih88 =>
            intro i88 hi88
            refine g_iload_n 1 rfl dX8_readsText_88 ?_
            refine gn_ic 5 (by decide) dX8_readsText_89 ?_
            refine gn_icmp_ge (by omega) (by omega) (tgt := 114) (by decide) dX8_readsText_90 (fun cc8 => ?_) (fun cc8 => ?_)
            · -- t 114
              exfalso; omega
            · -- f 93
              refine m_get 0 rfl f_X8_19 rfl dX8_readsText_93 dX8_readsText_94 ?_
              refine gn_ic 2 (by decide) dX8_readsText_97 ?_
              refine g_iload_n 1 rfl dX8_readsText_98 ?_
              refine gn_iadd dX8_readsText_99 ?_
              refine g_aload_n 0 rfl dX8_readsText_100 ?_
              refine gn_ic 0 (by decide) dX8_readsText_101 ?_
              refine gn_bp 9 (by decide) dX8_readsText_102 ?_
              refine gv_V (c_X8_takesNumber (e := e) (J := (upd J 19 (nI e))) pk_us he (lpP_v hvE i88) (by decide) (by decide)) l_X8_172 rfl m_rcv (Nat.le_of_ble_eq_true rfl) (Nat.le_of_ble_eq_true rfl) rfl dX8_readsText_104 ?_
              refine gn_iast (E2 := MW Γ mo F (pI (upd J 19 (nI e)) ((lpP (A 8) e (rtE (A 8) e (z0 s)) (i88 + 1)))) (A) ((hdF (A 8) e (z0 s) (i88 + 1)))) MW_3 (by omega) (by decide) (by rw [MW_s3]; rfl) dX8_readsText_107 ?_
              refine gn_inc (lv2 := [(2, _), (0, _)]) 1 rfl (by decide) rfl dX8_readsText_108 ?_
              refine g_goto (tgt := 88) (by decide) dX8_readsText_111 ?_
              refine G.sub [1, 0] rfl ?_
              exact ih88 (i88 + 1) (by omega)
        refine G.sub [1, 0] rfl ?_
        exact L88 _ 0 (Nat.zero_add _)
      · -- f 9
        exfalso; omega
    | succ m2 ih2 =>
      intro i2 hi2
      refine g_iload_n 2 rfl dX8_readsText_2 ?_
      refine gn_sp 205 (by decide) dX8_readsText_3 ?_
      refine gn_icmp_ge (by omega) (by omega) (tgt := 22) (by decide) dX8_readsText_6 (fun cc9 => ?_) (fun cc9 => ?_)
      · -- t 22
        exfalso; omega
      · -- f 9
        refine m_get 0 rfl f_X8_19 rfl dX8_readsText_9 dX8_readsText_10 ?_
        refine g_iload_n 2 rfl dX8_readsText_13 ?_
        refine gn_ic 0 (by decide) dX8_readsText_14 ?_
        refine gn_iast (E2 := MW Γ mo F (pI J s) A (zro f 0 (i2 + 1))) MW_3 (by omega) (by decide) (by rw [MW_s3]; exact congrArg (fun z => MW Γ mo F (pI J s) A z) (by have := zro_s (f := f) (r := 0) (i := i2); rw [Nat.zero_add] at this; exact this)) dX8_readsText_15 ?_
        refine gn_inc (lv2 := [(2, _), (0, _), (1, _)]) 2 rfl (by decide) rfl dX8_readsText_16 ?_
        refine g_goto (tgt := 2) (by decide) dX8_readsText_19 ?_
        refine G.sub [1, 2, 0] rfl ?_
        exact ih2 (i2 + 1) (by omega)
  refine G.sub [1, 2, 0] rfl ?_
  exact L2 _ 0 (Nat.zero_add _)
set_option maxRecDepth 100000 in
set_option maxHeartbeats 4000000 in
theorem c_X8_feeds {Γ : Gm} {mo n : Nat} {F : Hp} {I : Nat → Int32} {A : Nat → Nat → Int32} {f : Nat → Int32} {m : Nat} {w : Int32} (hm : I 14 = nI m) (hm6 : m + 4 ≤ 600) : Ct Γ 1 MX8_feeds 0 0 [.ref mo, .int w] (MW Γ mo F I A f) n (Rt none (MW Γ mo F (upd I 14 (nI (m + 4))) (updA A 8 (fdF (A 8) m w)) f) n) X0 := by
  refine Ct.of (by decide +kernel) rfl (Nat.le_of_ble_eq_true rfl) ?_
  refine G.sub (lv2 := [(0, _), (1, _)]) [0, 1] rfl ?_
  refine m_get 0 rfl f_X8_41 rfl dX8_feeds_0 dX8_feeds_1 ?_
  refine m_get 0 rfl f_X8_213 rfl dX8_feeds_4 dX8_feeds_5 ?_
  refine g_top (y := nI m) hm ?_
  refine g_iload_n 1 rfl dX8_feeds_8 ?_
  refine gn_bp 24 (by decide) dX8_feeds_9 ?_
  refine g_ishr dX8_feeds_11 ?_
  refine g_i2b dX8_feeds_12 ?_
  refine gn_bast (E2 := MW Γ mo F I (updA A 8 (upd (A 8) m (byt w 0))) f) MW_9 (by omega) (by decide) (by rw [MW_s9, b2b]; rfl) dX8_feeds_13 ?_
  refine m_get 0 rfl f_X8_41 rfl dX8_feeds_14 dX8_feeds_15 ?_
  refine m_get 0 rfl f_X8_213 rfl dX8_feeds_18 dX8_feeds_19 ?_
  refine g_top (y := nI m) hm ?_
  refine gn_ic 1 (by decide) dX8_feeds_22 ?_
  refine gn_iadd dX8_feeds_23 ?_
  refine g_iload_n 1 rfl dX8_feeds_24 ?_
  refine gn_bp 16 (by decide) dX8_feeds_25 ?_
  refine g_ishr dX8_feeds_27 ?_
  refine g_i2b dX8_feeds_28 ?_
  refine gn_bast (E2 := MW Γ mo F I (updA A 8 (upd (upd (A 8) m (byt w 0)) (m + 1) (byt w 1))) f) MW_9 (by omega) (by decide) (by rw [MW_s9, b2b, updA_updA, updA_s]; rfl) dX8_feeds_29 ?_
  refine m_get 0 rfl f_X8_41 rfl dX8_feeds_30 dX8_feeds_31 ?_
  refine m_get 0 rfl f_X8_213 rfl dX8_feeds_34 dX8_feeds_35 ?_
  refine g_top (y := nI m) hm ?_
  refine gn_ic 2 (by decide) dX8_feeds_38 ?_
  refine gn_iadd dX8_feeds_39 ?_
  refine g_iload_n 1 rfl dX8_feeds_40 ?_
  refine gn_bp 8 (by decide) dX8_feeds_41 ?_
  refine g_ishr dX8_feeds_43 ?_
  refine g_i2b dX8_feeds_44 ?_
  refine gn_bast (E2 := MW Γ mo F I (updA A 8 (upd (upd (upd (A 8) m (byt w 0)) (m + 1) (byt w 1)) (m + 2) (byt w 2))) f) MW_9 (by omega) (by decide) (by rw [MW_s9, b2b, updA_updA, updA_s]; rfl) dX8_feeds_45 ?_
  refine m_get 0 rfl f_X8_41 rfl dX8_feeds_46 dX8_feeds_47 ?_
  refine m_get 0 rfl f_X8_213 rfl dX8_feeds_50 dX8_feeds_51 ?_
  refine g_top (y := nI m) hm ?_
  refine gn_ic 3 (by decide) dX8_feeds_54 ?_
  refine gn_iadd dX8_feeds_55 ?_
  refine g_iload_n 1 rfl dX8_feeds_56 ?_
  refine g_i2b dX8_feeds_57 ?_
  refine gn_bast (E2 := MW Γ mo F I (updA A 8 (fdF (A 8) m w)) f) MW_9 (by omega) (by decide) (by rw [MW_s9, b2b, updA_updA, updA_s]; rfl) dX8_feeds_58 ?_
  refine g_aload_n 0 rfl dX8_feeds_59 ?_
  refine g_dup rfl dX8_feeds_60 ?_
  refine m_getS f_X8_213 rfl dX8_feeds_61 ?_
  refine g_top (y := nI m) hm ?_
  refine gn_ic 4 (by decide) dX8_feeds_64 ?_
  refine gn_iadd dX8_feeds_65 ?_
  refine m_put f_X8_213 w_X8_14 (by decide) rfl dX8_feeds_66 ?_
  exact g_vret ⟨rfl, rfl, rfl⟩ rfl dX8_feeds_69
end GM7
