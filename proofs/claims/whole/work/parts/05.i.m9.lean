section GM9
theorem kc_X8_282 : Cond.constant RX8 282 (nI 99999) ∈ wl := (wl_9 18 rfl rfl)
set_option maxRecDepth 100000 in
set_option maxHeartbeats 4000000 in
theorem c_X8_append_ok {Γ : Gm} {mo n : Nat} {F : Hp} {I : Nat → Int32} {A : Nat → Nat → Int32} {f : Nat → Int32} {m : Nat} {w1 w2 w3 w4 w5 : Int32} (hm : I 14 = nI m) (hm6 : m + 20 ≤ 600) : Ct Γ 2 MX8_append 0 0 [.ref mo, .int w1, .int w2, .int w3, .int w4, .int w5] (MW Γ mo F I A f) n (Rt (some (.int (nI (m + 4 + 4 + 4 + 4 + 4)))) (MW Γ mo F (upd (upd I 14 (nI (m + 4 + 4 + 4 + 4 + 4))) 2 (nI 0)) (updA A 8 (fd5 (A 8) m w1 w2 w3 w4 w5)) f) n) X0 := by
  refine Ct.of (by decide +kernel) rfl (Nat.le_of_ble_eq_true rfl) ?_
  refine G.sub (lv2 := [(0, _), (1, _), (2, _), (3, _), (4, _), (5, _)]) [0, 1, 2, 3, 4, 5] rfl ?_
  refine m_get 0 rfl f_X8_213 rfl dX8_append_0 dX8_append_1 ?_
  refine g_top (y := nI m) hm ?_
  refine gn_sp 580 (by decide) dX8_append_4 ?_
  refine gn_icmp_le (by omega) (by omega) (tgt := 16) (by decide) dX8_append_7 (fun h7 => ?_) (fun h7 => ?_)
  · -- t 16
    refine g_aload_n 0 rfl dX8_append_16 ?_
    refine g_iload_n 1 rfl dX8_append_17 ?_
    refine gu_V (c_X8_feeds (m := m) hm (by omega)) l_X8_219 rfl m_rcv (Nat.le_of_ble_eq_true rfl) (Nat.le_of_ble_eq_true rfl) rfl dX8_append_18 ?_
    refine g_aload_n 0 rfl dX8_append_21 ?_
    refine g_iload_n 2 rfl dX8_append_22 ?_
    refine gu_V (c_X8_feeds (m := m + 4) pk_us (by omega)) l_X8_219 rfl m_rcv (Nat.le_of_ble_eq_true rfl) (Nat.le_of_ble_eq_true rfl) rfl dX8_append_23 ?_
    rw [upd_upd, updA_updA, updA_s]
    refine g_aload_n 0 rfl dX8_append_26 ?_
    refine g_iload_n 3 rfl dX8_append_27 ?_
    refine gu_V (c_X8_feeds (m := m + 4 + 4) pk_us (by omega)) l_X8_219 rfl m_rcv (Nat.le_of_ble_eq_true rfl) (Nat.le_of_ble_eq_true rfl) rfl dX8_append_28 ?_
    rw [upd_upd, updA_updA, updA_s]
    refine g_aload_n 0 rfl dX8_append_31 ?_
    refine g_iload 4 rfl dX8_append_32 ?_
    refine gu_V (c_X8_feeds (m := m + 4 + 4 + 4) pk_us (by omega)) l_X8_219 rfl m_rcv (Nat.le_of_ble_eq_true rfl) (Nat.le_of_ble_eq_true rfl) rfl dX8_append_34 ?_
    rw [upd_upd, updA_updA, updA_s]
    refine g_aload_n 0 rfl dX8_append_37 ?_
    refine g_iload 5 rfl dX8_append_38 ?_
    refine gu_V (c_X8_feeds (m := m + 4 + 4 + 4 + 4) pk_us (by omega)) l_X8_219 rfl m_rcv (Nat.le_of_ble_eq_true rfl) (Nat.le_of_ble_eq_true rfl) rfl dX8_append_40 ?_
    rw [upd_upd, updA_updA, updA_s]
    refine g_aload_n 0 rfl dX8_append_43 ?_
    refine m_get 0 rfl f_X8_213 rfl dX8_append_44 dX8_append_45 ?_
    refine g_top (y := nI (m + 4 + 4 + 4 + 4 + 4)) pk_us ?_
    refine gv_V (c_X8_told ) l_X8_222 rfl m_rcv (Nat.le_of_ble_eq_true rfl) (Nat.le_of_ble_eq_true rfl) rfl dX8_append_48 ?_
    exact g_iret ⟨rfl, rfl, rfl⟩ rfl rfl dX8_append_51
  · -- f 10
    omega
set_option maxRecDepth 100000 in
set_option maxHeartbeats 4000000 in
theorem c_X8_append_no {Γ : Gm} {mo n : Nat} {F : Hp} {I : Nat → Int32} {A : Nat → Nat → Int32} {f : Nat → Int32} {m : Nat} {w1 w2 w3 w4 w5 : Int32} (hm : I 14 = nI m) (hm6 : 580 < m) (hm7 : m ≤ 600) : Ct Γ 2 MX8_append 0 0 [.ref mo, .int w1, .int w2, .int w3, .int w4, .int w5] (MW Γ mo F I A f) n (Rt (some (.int (nI 0))) (MW Γ mo F (upd I 2 (nI 1)) A f) n) X0 := by
  refine Ct.of (by decide +kernel) rfl (Nat.le_of_ble_eq_true rfl) ?_
  refine G.sub (lv2 := [(0, _), (1, _), (2, _), (3, _), (4, _), (5, _)]) [0, 1, 2, 3, 4, 5] rfl ?_
  refine m_get 0 rfl f_X8_213 rfl dX8_append_0 dX8_append_1 ?_
  refine g_top (y := nI m) hm ?_
  refine gn_sp 580 (by decide) dX8_append_4 ?_
  refine gn_icmp_le (by omega) (by omega) (tgt := 16) (by decide) dX8_append_7 (fun h7 => ?_) (fun h7 => ?_)
  · -- t 16
    omega
  · -- f 10
    refine g_aload_n 0 rfl dX8_append_10 ?_
    refine gn_ic 1 (by decide) dX8_append_11 ?_
    refine gv_V (c_X8_refuse ) l_X8_216 rfl m_rcv (Nat.le_of_ble_eq_true rfl) (Nat.le_of_ble_eq_true rfl) rfl dX8_append_12 ?_
    exact g_iret ⟨rfl, rfl, rfl⟩ rfl rfl dX8_append_15
set_option maxRecDepth 100000 in
set_option maxHeartbeats 4000000 in
theorem c_X8_load_no {Γ : Gm} {mo n : Nat} {F : Hp} {J : Nat → Int32} {A : Nat → Nat → Int32} {f : Nat → Int32} {s : PS} {m : Nat} {x : Int32} (hm : J 14 = nI m) (hm6 : m ≤ 600) (hx : ¬ (nI 0 ≤ x ∧ x ≤ nI m)) : Ct Γ 10 MX8_load 0 0 [.ref mo, .int x] (MW Γ mo F (pI J s) A f) n (Rt (some (.int (nI 0))) (MW Γ mo F (upd (pI J s) 2 (nI 1)) A f) n) X0 := by
  refine Ct.of (by decide +kernel) rfl (Nat.le_of_ble_eq_true rfl) ?_
  refine G.sub (lv2 := [(0, _), (1, _)]) [0, 1] rfl ?_
  refine g_iload_n 1 rfl dX8_load_0 ?_
  refine gn_ic 0 (by decide) dX8_load_1 ?_
  refine m_get 0 rfl f_X8_213 rfl dX8_load_2 dX8_load_3 ?_
  refine g_top (y := nI m) ((pI_o (by decide)).trans hm) ?_
  refine gv_S (c_X8_in ) l_X8_66 rfl (Nat.le_of_ble_eq_true rfl) (Nat.le_of_ble_eq_true rfl) rfl dX8_load_6 ?_
  refine g_if_ne (tgt := 18) (by decide) dX8_load_9 (fun h9 => ?_) (fun h9 => ?_)
  · -- t 18
    exact absurd (bi_n0 h9) hx
  · -- f 12
    refine g_aload_n 0 rfl dX8_load_12 ?_
    refine gn_ic 1 (by decide) dX8_load_13 ?_
    refine gv_V (c_X8_refuse ) l_X8_216 rfl m_rcv (Nat.le_of_ble_eq_true rfl) (Nat.le_of_ble_eq_true rfl) rfl dX8_load_14 ?_
    exact g_iret ⟨rfl, rfl, rfl⟩ rfl rfl dX8_load_17
set_option maxRecDepth 100000 in
set_option maxHeartbeats 4000000 in
theorem c_X8_load_er {Γ : Gm} {mo n : Nat} {F : Hp} {J : Nat → Int32} {A : Nat → Nat → Int32} {f : Nat → Int32} {s : PS} {m e : Nat} (hm : J 14 = nI m) (hm6 : m ≤ 600) (hem : e ≤ m) (hv31 : s.2.2.2.1 < 2 ^ 31) (hfa : s.2.2.2.2.2 ≤ 600) (hK : A 0 = kyF) (h11 : J 11 = -1) (hb : (txP (A 8) e (upd J 19 (nI e)) (z0 s)).2.2.2.2.2.1 < 2 ^ 31) (hft : ¬ (txP (A 8) e (upd J 19 (nI e)) (z0 s)).2.2.2.2.2.1 = 0) : Ct Γ 10 MX8_load 0 0 [.ref mo, .int (nI e)] (MW Γ mo F (pI J s) A f) n (fun v E1 n1 => v = some (.int (nI 0)) ∧ n1 = n ∧ ∃ A2, Sc3 A A2 ∧ E1 = MW Γ mo F (upd (pI (upd (upd (upd (upd (upd J 19 (nI e)) 14 (nI 0)) 17 (nI (txP (A 8) e (upd J 19 (nI e)) (z0 s)).2.2.2.2.2.1)) 18 (nI (txP (A 8) e (upd J 19 (nI e)) (z0 s)).2.2.2.2.2.2)) 11 (-1)) (txP (A 8) e (upd J 19 (nI e)) (z0 s)).2) 2 (nI 2)) A2 f) X0 := by
  refine Ct.of (by decide +kernel) rfl (Nat.le_of_ble_eq_true rfl) ?_
  have hft6 : (txP (A 8) e (upd J 19 (nI e)) (z0 s)).2.2.2.2.2.1 < 2 ^ 31 := hb
  refine G.sub (lv2 := [(0, _), (1, _)]) [0, 1] rfl ?_
  refine g_iload_n 1 rfl dX8_load_0 ?_
  refine gn_ic 0 (by decide) dX8_load_1 ?_
  refine m_get 0 rfl f_X8_213 rfl dX8_load_2 dX8_load_3 ?_
  refine g_top (y := nI m) ((pI_o (by decide)).trans hm) ?_
  refine gv_S (c_X8_in ) l_X8_66 rfl (Nat.le_of_ble_eq_true rfl) (Nat.le_of_ble_eq_true rfl) rfl dX8_load_6 ?_
  refine g_if_ne (tgt := 18) (by decide) dX8_load_9 (fun h9 => ?_) (fun h9 => ?_)
  · -- t 18
    refine g_aload_n 0 rfl dX8_load_18 ?_
    refine gu_V (c_X8_putsAside ) l_X8_225 rfl m_rcv (Nat.le_of_ble_eq_true rfl) (Nat.le_of_ble_eq_true rfl) rfl dX8_load_19 ?_
    refine g_aload_n 0 rfl dX8_load_22 ?_
    refine g_iload_n 1 rfl dX8_load_23 ?_
    refine gx_V0 (c_X8_readsText (e := e) (A := (updA A 3 (cpO (A 3) f 0 205))) (by omega) hv31 hfa ((updA_n (by decide)).trans hK) h11) l_X8_228 rfl m_rcv (Nat.le_of_ble_eq_true rfl) (Nat.le_of_ble_eq_true rfl) rfl dX8_load_24 (fun _ _ _ z => z.1) (fun E1 n1 z => ?_)
    obtain ⟨-, rfl, A2, hS2, rfl⟩ := z
    rw [updA_n (by decide)]
    refine g_aload_n 0 rfl dX8_load_27 ?_
    refine gn_ic 0 (by decide) dX8_load_28 ?_
    refine m_putJ f_X8_213 w_X8_14 (by decide) (by decide) rfl dX8_load_29 ?_
    refine g_aload_n 0 rfl dX8_load_32 ?_
    refine m_get (v := .int (nI ((((txP (A 8) e (upd J 19 (nI e)) (z0 s)).2)).2.2.2.2.1))) 0 rfl f_X8_151 rfl dX8_load_33 dX8_load_34 ?_
    refine m_putJ f_X8_231 w_X8_17 (by decide) (by decide) rfl dX8_load_37 ?_
    refine g_aload_n 0 rfl dX8_load_40 ?_
    refine m_get (v := .int (nI ((((txP (A 8) e (upd J 19 (nI e)) (z0 s)).2)).2.2.2.2.1))) 0 rfl f_X8_151 rfl dX8_load_41 dX8_load_42 ?_
    refine gn_if_ne (by omega) (tgt := 52) (by decide) dX8_load_45 (fun h45 => ?_) (fun h45 => ?_)
    · -- t 52
      refine m_get (v := .int (nI ((((txP (A 8) e (upd J 19 (nI e)) (z0 s)).2)).2.2.2.2.2))) 0 rfl f_X8_154 rfl dX8_load_52 dX8_load_53 ?_
      refine m_putJ f_X8_49 w_X8_18 (by decide) (by decide) rfl dX8_load_56 ?_
      refine m_get (v := .int (nI ((((txP (A 8) e (upd J 19 (nI e)) (z0 s)).2)).2.2.2.2.1))) 0 rfl f_X8_151 rfl dX8_load_59 dX8_load_60 ?_
      refine gn_if_eq (by omega) (tgt := 76) (by decide) dX8_load_63 (fun h63 => ?_) (fun h63 => ?_)
      · -- t 76
        exact absurd h63 hft
      · -- f 66
        refine g_aload_n 0 rfl dX8_load_66 ?_
        refine gu_V (c_X8_putsBack ) l_X8_234 rfl m_rcv (Nat.le_of_ble_eq_true rfl) (Nat.le_of_ble_eq_true rfl) rfl dX8_load_67 ?_
        rw [pI_J (by decide)]
        refine m_ag (g := f) (tk_cp (hS2 3 (by decide) (by decide))) ?_
        refine g_aload_n 0 rfl dX8_load_70 ?_
        refine gn_ic 2 (by decide) dX8_load_71 ?_
        refine gv_V (c_X8_refuse ) l_X8_216 rfl m_rcv (Nat.le_of_ble_eq_true rfl) (Nat.le_of_ble_eq_true rfl) rfl dX8_load_72 ?_
        exact g_iret ⟨rfl, rfl, A2, Sc3.u3.tr (Sc3.of hS2), rfl⟩ rfl rfl dX8_load_75
    · -- f 48
      exact absurd h45 hft
  · -- f 12
    exact absurd (rg_ok (Nat.zero_le _) hem (by omega)) (bi_0 h9)
set_option maxRecDepth 100000 in
set_option maxHeartbeats 4000000 in
theorem c_X8_load_ok {Γ : Gm} {mo n : Nat} {F : Hp} {J : Nat → Int32} {A : Nat → Nat → Int32} {f : Nat → Int32} {s : PS} {m e : Nat} (hm : J 14 = nI m) (hm6 : m ≤ 600) (hem : e ≤ m) (hv31 : s.2.2.2.1 < 2 ^ 31) (hfa : s.2.2.2.2.2 ≤ 600) (hK : A 0 = kyF) (h11 : J 11 = -1) (hft : (txP (A 8) e (upd J 19 (nI e)) (z0 s)).2.2.2.2.2.1 = 0) : Ct Γ 10 MX8_load 0 0 [.ref mo, .int (nI e)] (MW Γ mo F (pI J s) A f) n (fun v E1 n1 => v = some (.int ((txP (A 8) e (upd J 19 (nI e)) (z0 s)).1 7)) ∧ n1 = n ∧ ∃ A2, Sc3 A A2 ∧ E1 = MW Γ mo F (upd (pI (upd (upd (upd (upd (upd (upd J 19 (nI e)) 14 (nI 0)) 17 (nI (txP (A 8) e (upd J 19 (nI e)) (z0 s)).2.2.2.2.2.1)) 18 (-1)) 6 (nI 0)) 8 (nI 0)) (txP (A 8) e (upd J 19 (nI e)) (z0 s)).2) 2 (nI 0)) A2 (txP (A 8) e (upd J 19 (nI e)) (z0 s)).1) X0 := by
  refine Ct.of (by decide +kernel) rfl (Nat.le_of_ble_eq_true rfl) ?_
  have hb : (txP (A 8) e (upd J 19 (nI e)) (z0 s)).2.2.2.2.2.1 < 2 ^ 31 := by rw [hft]; decide
  refine G.sub (lv2 := [(0, _), (1, _)]) [0, 1] rfl ?_
  refine g_iload_n 1 rfl dX8_load_0 ?_
  refine gn_ic 0 (by decide) dX8_load_1 ?_
  refine m_get 0 rfl f_X8_213 rfl dX8_load_2 dX8_load_3 ?_
  refine g_top (y := nI m) ((pI_o (by decide)).trans hm) ?_
  refine gv_S (c_X8_in ) l_X8_66 rfl (Nat.le_of_ble_eq_true rfl) (Nat.le_of_ble_eq_true rfl) rfl dX8_load_6 ?_
  refine g_if_ne (tgt := 18) (by decide) dX8_load_9 (fun h9 => ?_) (fun h9 => ?_)
  · -- t 18
    refine g_aload_n 0 rfl dX8_load_18 ?_
    refine gu_V (c_X8_putsAside ) l_X8_225 rfl m_rcv (Nat.le_of_ble_eq_true rfl) (Nat.le_of_ble_eq_true rfl) rfl dX8_load_19 ?_
    refine g_aload_n 0 rfl dX8_load_22 ?_
    refine g_iload_n 1 rfl dX8_load_23 ?_
    refine gx_V0 (c_X8_readsText (e := e) (A := (updA A 3 (cpO (A 3) f 0 205))) (by omega) hv31 hfa ((updA_n (by decide)).trans hK) h11) l_X8_228 rfl m_rcv (Nat.le_of_ble_eq_true rfl) (Nat.le_of_ble_eq_true rfl) rfl dX8_load_24 (fun _ _ _ z => z.1) (fun E1 n1 z => ?_)
    obtain ⟨-, rfl, A2, hS2, rfl⟩ := z
    rw [updA_n (by decide)]
    refine g_aload_n 0 rfl dX8_load_27 ?_
    refine gn_ic 0 (by decide) dX8_load_28 ?_
    refine m_putJ f_X8_213 w_X8_14 (by decide) (by decide) rfl dX8_load_29 ?_
    refine g_aload_n 0 rfl dX8_load_32 ?_
    refine m_get (v := .int (nI ((((txP (A 8) e (upd J 19 (nI e)) (z0 s)).2)).2.2.2.2.1))) 0 rfl f_X8_151 rfl dX8_load_33 dX8_load_34 ?_
    refine m_putJ f_X8_231 w_X8_17 (by decide) (by decide) rfl dX8_load_37 ?_
    refine g_aload_n 0 rfl dX8_load_40 ?_
    refine m_get (v := .int (nI ((((txP (A 8) e (upd J 19 (nI e)) (z0 s)).2)).2.2.2.2.1))) 0 rfl f_X8_151 rfl dX8_load_41 dX8_load_42 ?_
    refine gn_if_ne (by omega) (tgt := 52) (by decide) dX8_load_45 (fun h45 => ?_) (fun h45 => ?_)
    · -- t 52
      exact absurd hft h45
    · -- f 48
      refine g_iconst (v := -1) dX8_load_48 (by decide) ?_
      refine g_goto (tgt := 56) (by decide) dX8_load_49 ?_
      refine m_putJ f_X8_49 w_X8_18 (by decide) (by decide) rfl dX8_load_56 ?_
      refine m_get (v := .int (nI ((((txP (A 8) e (upd J 19 (nI e)) (z0 s)).2)).2.2.2.2.1))) 0 rfl f_X8_151 rfl dX8_load_59 dX8_load_60 ?_
      refine gn_if_eq (by omega) (tgt := 76) (by decide) dX8_load_63 (fun h63 => ?_) (fun h63 => ?_)
      · -- t 76
        refine g_aload_n 0 rfl dX8_load_76 ?_
        refine gn_ic 0 (by decide) dX8_load_77 ?_
        refine m_putJ f_X8_127 w_X8_6 (by decide) (by decide) rfl dX8_load_78 ?_
        refine g_aload_n 0 rfl dX8_load_81 ?_
        refine gn_ic 0 (by decide) dX8_load_82 ?_
        refine m_putJ f_X8_237 w_X8_8 (by decide) (by decide) rfl dX8_load_83 ?_
        refine g_aload_n 0 rfl dX8_load_86 ?_
        refine m_get 0 rfl f_X8_19 rfl dX8_load_87 dX8_load_88 ?_
        refine gn_bp 7 (by decide) dX8_load_91 ?_
        refine gn_iald MW_3 (by omega) (by decide) dX8_load_93 ?_
        refine gv_V (c_X8_told ) l_X8_222 rfl m_rcv (Nat.le_of_ble_eq_true rfl) (Nat.le_of_ble_eq_true rfl) rfl dX8_load_94 ?_
        exact g_iret ⟨rfl, rfl, A2, Sc3.u3.tr (Sc3.of hS2), rfl⟩ rfl rfl dX8_load_97
      · -- f 66
        exact absurd hft h63
  · -- f 12
    exact absurd (rg_ok (Nat.zero_le _) hem (by omega)) (bi_0 h9)
set_option maxRecDepth 100000 in
set_option maxHeartbeats 4000000 in
theorem c_X8_tracks {Γ : Gm} {mo n : Nat} {F : Hp} {I : Nat → Int32} {A : Nat → Nat → Int32} {f : Nat → Int32} {k : Nat}  : Ct Γ 2 MX8_tracks 0 0 [.ref mo, .int (nI k)] (MW Γ mo F I A f) n (Rt none (MW Γ mo F (upd I 11 (nI k)) (updA A 3 (cpO (A 3) f 0 205)) f) n) X0 := by
  refine Ct.of (by decide +kernel) rfl (Nat.le_of_ble_eq_true rfl) ?_
  refine G.sub (lv2 := [(0, _), (1, _)]) [0, 1] rfl ?_
  refine g_aload_n 0 rfl dX8_tracks_0 ?_
  refine gu_V (c_X8_putsAside ) l_X8_225 rfl m_rcv (Nat.le_of_ble_eq_true rfl) (Nat.le_of_ble_eq_true rfl) rfl dX8_tracks_1 ?_
  refine g_aload_n 0 rfl dX8_tracks_4 ?_
  refine g_iload_n 1 rfl dX8_tracks_5 ?_
  refine m_put f_X8_37 w_X8_11 (by decide) rfl dX8_tracks_6 ?_
  exact g_vret ⟨rfl, rfl, rfl⟩ rfl dX8_tracks_9
set_option maxRecDepth 100000 in
set_option maxHeartbeats 4000000 in
theorem c_X8_balanceAfter_ok {Γ : Gm} {mo n : Nat} {F : Hp} {I : Nat → Int32} {A : Nat → Nat → Int32} {f : Nat → Int32} {k c t : Nat} (h : Okr f c) (hk : k < c) (ht : t ≤ 100) : Ct Γ 8 MX8_balanceAfter 0 0 [.ref mo, .int (nI k), .int (nI t)] (MW Γ mo F I A f) n (fun v E1 n1 => v = some (.int (balR (dysM f (wI k) t))) ∧ n1 = n ∧ ∃ A2 I2, Sc3 A A2 ∧ Si I I2 ∧ E1 = MW Γ mo F I2 A2 f) X0 := by
  refine Ct.of (by decide +kernel) rfl (Nat.le_of_ble_eq_true rfl) ?_
  obtain ⟨hc, hc12, hfl⟩ := id h
  obtain ⟨⟨hR1, hR2⟩, hW⟩ := dysM_R h (Wr.w (I := I) hk) (wI_R (I := I) (k := k) (by omega)) t
  have e1 : (dysM f (wI k) t).1 = (dysM f (upd I 11 (nI k)) t).1 := dysM_1 _ _ t
  obtain ⟨c2, hc2, ho2⟩ := dysM_ok (I := upd I 11 (nI k)) h t
  rw [mny_eq ho2] at hW
  have h212 := ho2.2.1
  refine G.sub (lv2 := [(0, _), (1, _), (2, _)]) [0, 1, 2] rfl ?_
  refine g_aload_n 0 rfl dX8_balanceAfter_0 ?_
  refine g_iload_n 1 rfl dX8_balanceAfter_1 ?_
  refine gv_V (c_X8_isLodger hc) l_X8_249 rfl m_rcv (Nat.le_of_ble_eq_true rfl) (Nat.le_of_ble_eq_true rfl) rfl dX8_balanceAfter_2 ?_
  refine g_if_ne (tgt := 14) (by decide) dX8_balanceAfter_5 (fun h5 => ?_) (fun h5 => ?_)
  · -- t 14
    refine g_iload_n 2 rfl dX8_balanceAfter_14 ?_
    refine gn_ic 0 (by decide) dX8_balanceAfter_15 ?_
    refine gn_bp 100 (by decide) dX8_balanceAfter_16 ?_
    refine gv_S (c_X8_in ) l_X8_66 rfl (Nat.le_of_ble_eq_true rfl) (Nat.le_of_ble_eq_true rfl) rfl dX8_balanceAfter_18 ?_
    refine g_if_ne (tgt := 30) (by decide) dX8_balanceAfter_21 (fun h21 => ?_) (fun h21 => ?_)
    · -- t 30
      refine g_aload_n 0 rfl dX8_balanceAfter_30 ?_
      refine g_iload_n 1 rfl dX8_balanceAfter_31 ?_
      refine gu_V (c_X8_tracks ) l_X8_273 rfl m_rcv (Nat.le_of_ble_eq_true rfl) (Nat.le_of_ble_eq_true rfl) rfl dX8_balanceAfter_32 ?_
      refine g_aload_n 0 rfl dX8_balanceAfter_35 ?_
      refine g_iload_n 2 rfl dX8_balanceAfter_36 ?_
      refine gx_V0 (c_X8_passes h (t := t) (by omega)) l_X8_201 rfl m_rcv (Nat.le_of_ble_eq_true rfl) (Nat.le_of_ble_eq_true rfl) rfl dX8_balanceAfter_37 (fun _ _ _ z => z.1) (fun E1 n1 z => ?_)
      obtain ⟨-, rfl, A2, hS2, rfl⟩ := z
      refine m_get 0 rfl f_X8_37 rfl dX8_balanceAfter_40 dX8_balanceAfter_41 ?_
      refine g_iconst (v := -1) dX8_balanceAfter_44 (by decide) ?_
      refine g_icmp_ne (tgt := 55) (by decide) dX8_balanceAfter_45 (fun h45 => ?_) (fun h45 => ?_)
      · -- t 55
        obtain ⟨j, hj, hj2⟩ := hW.resolve_left h45
        refine m_get 0 rfl f_X8_19 rfl dX8_balanceAfter_55 dX8_balanceAfter_56 ?_
        refine m_get 0 rfl f_X8_37 rfl dX8_balanceAfter_59 dX8_balanceAfter_60 ?_
        refine g_top (y := nI j) hj2 ?_
        refine gv_S (c_X8_l ) l_X8_56 rfl (Nat.le_of_ble_eq_true rfl) (Nat.le_of_ble_eq_true rfl) rfl dX8_balanceAfter_63 ?_
        refine gn_ic 1 (by decide) dX8_balanceAfter_66 ?_
        refine gn_iadd dX8_balanceAfter_67 ?_
        refine gn_iald MW_3 (by omega) (by decide) dX8_balanceAfter_68 ?_
        refine g_istore_n (lv2 := [(3, _), (0, _), (1, _), (2, _)]) (by decide) rfl dX8_balanceAfter_69 ?_
        refine g_aload_n 1 rfl dX8_balanceAfter_70 ?_
        refine gu_V (c_X8_putsBack ) l_X8_234 rfl m_rcv (Nat.le_of_ble_eq_true rfl) (Nat.le_of_ble_eq_true rfl) rfl dX8_balanceAfter_71 ?_
        refine m_ag (g := f) (tk_cp (hS2 3 (by decide) (by decide))) ?_
        refine g_aload_n 1 rfl dX8_balanceAfter_74 ?_
        refine g_iload_n 0 rfl dX8_balanceAfter_75 ?_
        refine gv_V (c_X8_told ) l_X8_222 rfl m_rcv (Nat.le_of_ble_eq_true rfl) (Nat.le_of_ble_eq_true rfl) rfl dX8_balanceAfter_76 ?_
        exact g_iret ⟨by rw [balR, ← hR1, if_neg h45, hj2, nI_clamp (by omega), e1], rfl, A2, _, Sc3.u3.tr (Sc3.of hS2), Sj.told Sj.dys, rfl⟩ rfl rfl dX8_balanceAfter_79
      · -- f 48
        refine m_get 0 rfl f_X8_70 rfl dX8_balanceAfter_48 dX8_balanceAfter_49 ?_
        refine g_goto (tgt := 69) (by decide) dX8_balanceAfter_52 ?_
        refine g_istore_n (lv2 := [(3, _), (0, _), (1, _), (2, _)]) (by decide) rfl dX8_balanceAfter_69 ?_
        refine g_aload_n 1 rfl dX8_balanceAfter_70 ?_
        refine gu_V (c_X8_putsBack ) l_X8_234 rfl m_rcv (Nat.le_of_ble_eq_true rfl) (Nat.le_of_ble_eq_true rfl) rfl dX8_balanceAfter_71 ?_
        refine m_ag (g := f) (tk_cp (hS2 3 (by decide) (by decide))) ?_
        refine g_aload_n 1 rfl dX8_balanceAfter_74 ?_
        refine g_iload_n 0 rfl dX8_balanceAfter_75 ?_
        refine gv_V (c_X8_told ) l_X8_222 rfl m_rcv (Nat.le_of_ble_eq_true rfl) (Nat.le_of_ble_eq_true rfl) rfl dX8_balanceAfter_76 ?_
        exact g_iret ⟨by rw [balR, ← hR1, if_pos h45, hR2 h45], rfl, A2, _, Sc3.u3.tr (Sc3.of hS2), Sj.told Sj.dys, rfl⟩ rfl rfl dX8_balanceAfter_79
    · -- f 24
      exact absurd (rg_ok (Nat.zero_le _) ht (by decide)) (bi_0 h21)
  · -- f 8
    exact absurd (lod_ok hk hc12) (bi_0 h5)
set_option maxRecDepth 100000 in
set_option maxHeartbeats 4000000 in
theorem c_X8_balanceAfter_no {Γ : Gm} {mo n : Nat} {F : Hp} {I : Nat → Int32} {A : Nat → Nat → Int32} {f : Nat → Int32} {x : Int32} {c : Nat} {y : Int32} (hc : f 7 = nI c) (hc12 : c ≤ 12) (hx : ¬ (nI 0 ≤ x ∧ x ≤ nI c - nI 1)) : Ct Γ 8 MX8_balanceAfter 0 0 [.ref mo, .int x, .int y] (MW Γ mo F I A f) n (Rt (some (.int (nI 0))) (MW Γ mo F (upd I 2 (nI 1)) A f) n) X0 := by
  refine Ct.of (by decide +kernel) rfl (Nat.le_of_ble_eq_true rfl) ?_
  refine G.sub (lv2 := [(0, _), (1, _), (2, _)]) [0, 1, 2] rfl ?_
  refine g_aload_n 0 rfl dX8_balanceAfter_0 ?_
  refine g_iload_n 1 rfl dX8_balanceAfter_1 ?_
  refine gv_V (c_X8_isLodger hc) l_X8_249 rfl m_rcv (Nat.le_of_ble_eq_true rfl) (Nat.le_of_ble_eq_true rfl) rfl dX8_balanceAfter_2 ?_
  refine g_if_ne (tgt := 14) (by decide) dX8_balanceAfter_5 (fun h5 => ?_) (fun h5 => ?_)
  · -- t 14
    exact absurd (bi_n0 h5) hx
  · -- f 8
    refine g_aload_n 0 rfl dX8_balanceAfter_8 ?_
    refine gn_ic 1 (by decide) dX8_balanceAfter_9 ?_
    refine gv_V (c_X8_refuse ) l_X8_216 rfl m_rcv (Nat.le_of_ble_eq_true rfl) (Nat.le_of_ble_eq_true rfl) rfl dX8_balanceAfter_10 ?_
    exact g_iret ⟨rfl, rfl, rfl⟩ (by decide +kernel) rfl dX8_balanceAfter_13
set_option maxRecDepth 100000 in
set_option maxHeartbeats 4000000 in
theorem c_X8_balanceAfter_no2 {Γ : Gm} {mo n : Nat} {F : Hp} {I : Nat → Int32} {A : Nat → Nat → Int32} {f : Nat → Int32} {k c : Nat} {y : Int32} (hc : f 7 = nI c) (hc12 : c ≤ 12) (hk : k < c) (hy : ¬ (nI 0 ≤ y ∧ y ≤ nI 100)) : Ct Γ 8 MX8_balanceAfter 0 0 [.ref mo, .int (nI k), .int y] (MW Γ mo F I A f) n (Rt (some (.int (nI 0))) (MW Γ mo F (upd I 2 (nI 2)) A f) n) X0 := by
  refine Ct.of (by decide +kernel) rfl (Nat.le_of_ble_eq_true rfl) ?_
  refine G.sub (lv2 := [(0, _), (1, _), (2, _)]) [0, 1, 2] rfl ?_
  refine g_aload_n 0 rfl dX8_balanceAfter_0 ?_
  refine g_iload_n 1 rfl dX8_balanceAfter_1 ?_
  refine gv_V (c_X8_isLodger hc) l_X8_249 rfl m_rcv (Nat.le_of_ble_eq_true rfl) (Nat.le_of_ble_eq_true rfl) rfl dX8_balanceAfter_2 ?_
  refine g_if_ne (tgt := 14) (by decide) dX8_balanceAfter_5 (fun h5 => ?_) (fun h5 => ?_)
  · -- t 14
    refine g_iload_n 2 rfl dX8_balanceAfter_14 ?_
    refine gn_ic 0 (by decide) dX8_balanceAfter_15 ?_
    refine gn_bp 100 (by decide) dX8_balanceAfter_16 ?_
    refine gv_S (c_X8_in ) l_X8_66 rfl (Nat.le_of_ble_eq_true rfl) (Nat.le_of_ble_eq_true rfl) rfl dX8_balanceAfter_18 ?_
    refine g_if_ne (tgt := 30) (by decide) dX8_balanceAfter_21 (fun h21 => ?_) (fun h21 => ?_)
    · -- t 30
      exact absurd (bi_n0 h21) hy
    · -- f 24
      refine g_aload_n 0 rfl dX8_balanceAfter_24 ?_
      refine gn_ic 2 (by decide) dX8_balanceAfter_25 ?_
      refine gv_V (c_X8_refuse ) l_X8_216 rfl m_rcv (Nat.le_of_ble_eq_true rfl) (Nat.le_of_ble_eq_true rfl) rfl dX8_balanceAfter_26 ?_
      exact g_iret ⟨rfl, rfl, rfl⟩ rfl rfl dX8_balanceAfter_29
  · -- f 8
    exact absurd (lod_ok hk hc12) (bi_0 h5)
set_option maxRecDepth 100000 in
set_option maxHeartbeats 4000000 in
theorem c_X8_distanceAfter_ok {Γ : Gm} {mo n : Nat} {F : Hp} {I : Nat → Int32} {A : Nat → Nat → Int32} {f : Nat → Int32} {k c t : Nat} (h : Okr f c) (hk : k < c) (ht : t ≤ 100) : Ct Γ 8 MX8_distanceAfter 0 0 [.ref mo, .int (nI k), .int (nI t)] (MW Γ mo F I A f) n (fun v E1 n1 => v = some (.int (dsR (dysM f (wI k) t))) ∧ n1 = n ∧ ∃ A2 I2, Sc3 A A2 ∧ Si I I2 ∧ E1 = MW Γ mo F I2 A2 f) X0 := by
  refine Ct.of (by decide +kernel) rfl (Nat.le_of_ble_eq_true rfl) ?_
  obtain ⟨hc, hc12, hfl⟩ := id h
  obtain ⟨⟨hR1, hR2⟩, hW⟩ := dysM_R h (Wr.w (I := I) hk) (wI_R (I := I) (k := k) (by omega)) t
  have e1 : (dysM f (wI k) t).1 = (dysM f (upd I 11 (nI k)) t).1 := dysM_1 _ _ t
  obtain ⟨c2, hc2, ho2⟩ := dysM_ok (I := upd I 11 (nI k)) h t
  rw [mny_eq ho2] at hW
  have h212 := ho2.2.1
  refine G.sub (lv2 := [(0, _), (1, _), (2, _)]) [0, 1, 2] rfl ?_
  refine g_aload_n 0 rfl dX8_distanceAfter_0 ?_
  refine g_iload_n 1 rfl dX8_distanceAfter_1 ?_
  refine gv_V (c_X8_isLodger hc) l_X8_249 rfl m_rcv (Nat.le_of_ble_eq_true rfl) (Nat.le_of_ble_eq_true rfl) rfl dX8_distanceAfter_2 ?_
  refine g_if_ne (tgt := 14) (by decide) dX8_distanceAfter_5 (fun h5 => ?_) (fun h5 => ?_)
  · -- t 14
    refine g_iload_n 2 rfl dX8_distanceAfter_14 ?_
    refine gn_ic 0 (by decide) dX8_distanceAfter_15 ?_
    refine gn_bp 100 (by decide) dX8_distanceAfter_16 ?_
    refine gv_S (c_X8_in ) l_X8_66 rfl (Nat.le_of_ble_eq_true rfl) (Nat.le_of_ble_eq_true rfl) rfl dX8_distanceAfter_18 ?_
    refine g_if_ne (tgt := 30) (by decide) dX8_distanceAfter_21 (fun h21 => ?_) (fun h21 => ?_)
    · -- t 30
      refine g_aload_n 0 rfl dX8_distanceAfter_30 ?_
      refine g_iload_n 1 rfl dX8_distanceAfter_31 ?_
      refine gu_V (c_X8_tracks ) l_X8_273 rfl m_rcv (Nat.le_of_ble_eq_true rfl) (Nat.le_of_ble_eq_true rfl) rfl dX8_distanceAfter_32 ?_
      refine g_aload_n 0 rfl dX8_distanceAfter_35 ?_
      refine g_iload_n 2 rfl dX8_distanceAfter_36 ?_
      refine gx_V0 (c_X8_passes h (t := t) (by omega)) l_X8_201 rfl m_rcv (Nat.le_of_ble_eq_true rfl) (Nat.le_of_ble_eq_true rfl) rfl dX8_distanceAfter_37 (fun _ _ _ z => z.1) (fun E1 n1 z => ?_)
      obtain ⟨-, rfl, A2, hS2, rfl⟩ := z
      refine m_get 0 rfl f_X8_37 rfl dX8_distanceAfter_40 dX8_distanceAfter_41 ?_
      refine g_iconst (v := -1) dX8_distanceAfter_44 (by decide) ?_
      refine g_icmp_ne (tgt := 52) (by decide) dX8_distanceAfter_45 (fun h45 => ?_) (fun h45 => ?_)
      · -- t 52
        obtain ⟨j, hj, hj2⟩ := hW.resolve_left h45
        refine g_aload_n 0 rfl dX8_distanceAfter_52 ?_
        refine m_get 0 rfl f_X8_37 rfl dX8_distanceAfter_53 dX8_distanceAfter_54 ?_
        refine g_top (y := nI j) hj2 ?_
        refine gv_V (c_X8_toLandlady (by omega)) l_X8_86 rfl m_rcv (Nat.le_of_ble_eq_true rfl) (Nat.le_of_ble_eq_true rfl) rfl dX8_distanceAfter_57 ?_
        refine g_istore_n (lv2 := [(3, _), (0, _), (1, _), (2, _)]) (by decide) rfl dX8_distanceAfter_60 ?_
        refine g_aload_n 1 rfl dX8_distanceAfter_61 ?_
        refine gu_V (c_X8_putsBack ) l_X8_234 rfl m_rcv (Nat.le_of_ble_eq_true rfl) (Nat.le_of_ble_eq_true rfl) rfl dX8_distanceAfter_62 ?_
        refine m_ag (g := f) (tk_cp (hS2 3 (by decide) (by decide))) ?_
        refine g_aload_n 1 rfl dX8_distanceAfter_65 ?_
        refine g_iload_n 0 rfl dX8_distanceAfter_66 ?_
        refine gv_V (c_X8_told ) l_X8_222 rfl m_rcv (Nat.le_of_ble_eq_true rfl) (Nat.le_of_ble_eq_true rfl) rfl dX8_distanceAfter_67 ?_
        exact g_iret ⟨by rw [dsR, ← hR1, if_neg h45, hj2, nI_clamp (by omega), e1], rfl, A2, _, Sc3.u3.tr (Sc3.of hS2), Sj.told Sj.dys, rfl⟩ rfl rfl dX8_distanceAfter_70
      · -- f 48
        refine g_iconst (v := -1) dX8_distanceAfter_48 (by decide) ?_
        refine g_goto (tgt := 60) (by decide) dX8_distanceAfter_49 ?_
        refine g_istore_n (lv2 := [(3, _), (0, _), (1, _), (2, _)]) (by decide) rfl dX8_distanceAfter_60 ?_
        refine g_aload_n 1 rfl dX8_distanceAfter_61 ?_
        refine gu_V (c_X8_putsBack ) l_X8_234 rfl m_rcv (Nat.le_of_ble_eq_true rfl) (Nat.le_of_ble_eq_true rfl) rfl dX8_distanceAfter_62 ?_
        refine m_ag (g := f) (tk_cp (hS2 3 (by decide) (by decide))) ?_
        refine g_aload_n 1 rfl dX8_distanceAfter_65 ?_
        refine g_iload_n 0 rfl dX8_distanceAfter_66 ?_
        refine gv_V (c_X8_told ) l_X8_222 rfl m_rcv (Nat.le_of_ble_eq_true rfl) (Nat.le_of_ble_eq_true rfl) rfl dX8_distanceAfter_67 ?_
        exact g_iret ⟨by rw [dsR, ← hR1, if_pos h45], rfl, A2, _, Sc3.u3.tr (Sc3.of hS2), Sj.told Sj.dys, rfl⟩ rfl rfl dX8_distanceAfter_70
    · -- f 24
      exact absurd (rg_ok (Nat.zero_le _) ht (by decide)) (bi_0 h21)
  · -- f 8
    exact absurd (lod_ok hk hc12) (bi_0 h5)
set_option maxRecDepth 100000 in
set_option maxHeartbeats 4000000 in
theorem c_X8_distanceAfter_no {Γ : Gm} {mo n : Nat} {F : Hp} {I : Nat → Int32} {A : Nat → Nat → Int32} {f : Nat → Int32} {x : Int32} {c : Nat} {y : Int32} (hc : f 7 = nI c) (hc12 : c ≤ 12) (hx : ¬ (nI 0 ≤ x ∧ x ≤ nI c - nI 1)) : Ct Γ 8 MX8_distanceAfter 0 0 [.ref mo, .int x, .int y] (MW Γ mo F I A f) n (Rt (some (.int (nI 0))) (MW Γ mo F (upd I 2 (nI 1)) A f) n) X0 := by
  refine Ct.of (by decide +kernel) rfl (Nat.le_of_ble_eq_true rfl) ?_
  refine G.sub (lv2 := [(0, _), (1, _), (2, _)]) [0, 1, 2] rfl ?_
  refine g_aload_n 0 rfl dX8_distanceAfter_0 ?_
  refine g_iload_n 1 rfl dX8_distanceAfter_1 ?_
  refine gv_V (c_X8_isLodger hc) l_X8_249 rfl m_rcv (Nat.le_of_ble_eq_true rfl) (Nat.le_of_ble_eq_true rfl) rfl dX8_distanceAfter_2 ?_
  refine g_if_ne (tgt := 14) (by decide) dX8_distanceAfter_5 (fun h5 => ?_) (fun h5 => ?_)
  · -- t 14
    exact absurd (bi_n0 h5) hx
  · -- f 8
    refine g_aload_n 0 rfl dX8_distanceAfter_8 ?_
    refine gn_ic 1 (by decide) dX8_distanceAfter_9 ?_
    refine gv_V (c_X8_refuse ) l_X8_216 rfl m_rcv (Nat.le_of_ble_eq_true rfl) (Nat.le_of_ble_eq_true rfl) rfl dX8_distanceAfter_10 ?_
    exact g_iret ⟨rfl, rfl, rfl⟩ (by decide +kernel) rfl dX8_distanceAfter_13
set_option maxRecDepth 100000 in
set_option maxHeartbeats 4000000 in
theorem c_X8_distanceAfter_no2 {Γ : Gm} {mo n : Nat} {F : Hp} {I : Nat → Int32} {A : Nat → Nat → Int32} {f : Nat → Int32} {k c : Nat} {y : Int32} (hc : f 7 = nI c) (hc12 : c ≤ 12) (hk : k < c) (hy : ¬ (nI 0 ≤ y ∧ y ≤ nI 100)) : Ct Γ 8 MX8_distanceAfter 0 0 [.ref mo, .int (nI k), .int y] (MW Γ mo F I A f) n (Rt (some (.int (nI 0))) (MW Γ mo F (upd I 2 (nI 2)) A f) n) X0 := by
  refine Ct.of (by decide +kernel) rfl (Nat.le_of_ble_eq_true rfl) ?_
  refine G.sub (lv2 := [(0, _), (1, _), (2, _)]) [0, 1, 2] rfl ?_
  refine g_aload_n 0 rfl dX8_distanceAfter_0 ?_
  refine g_iload_n 1 rfl dX8_distanceAfter_1 ?_
  refine gv_V (c_X8_isLodger hc) l_X8_249 rfl m_rcv (Nat.le_of_ble_eq_true rfl) (Nat.le_of_ble_eq_true rfl) rfl dX8_distanceAfter_2 ?_
  refine g_if_ne (tgt := 14) (by decide) dX8_distanceAfter_5 (fun h5 => ?_) (fun h5 => ?_)
  · -- t 14
    refine g_iload_n 2 rfl dX8_distanceAfter_14 ?_
    refine gn_ic 0 (by decide) dX8_distanceAfter_15 ?_
    refine gn_bp 100 (by decide) dX8_distanceAfter_16 ?_
    refine gv_S (c_X8_in ) l_X8_66 rfl (Nat.le_of_ble_eq_true rfl) (Nat.le_of_ble_eq_true rfl) rfl dX8_distanceAfter_18 ?_
    refine g_if_ne (tgt := 30) (by decide) dX8_distanceAfter_21 (fun h21 => ?_) (fun h21 => ?_)
    · -- t 30
      exact absurd (bi_n0 h21) hy
    · -- f 24
      refine g_aload_n 0 rfl dX8_distanceAfter_24 ?_
      refine gn_ic 2 (by decide) dX8_distanceAfter_25 ?_
      refine gv_V (c_X8_refuse ) l_X8_216 rfl m_rcv (Nat.le_of_ble_eq_true rfl) (Nat.le_of_ble_eq_true rfl) rfl dX8_distanceAfter_26 ?_
      exact g_iret ⟨rfl, rfl, rfl⟩ rfl rfl dX8_distanceAfter_29
  · -- f 8
    exact absurd (lod_ok hk hc12) (bi_0 h5)
set_option maxRecDepth 100000 in
set_option maxHeartbeats 4000000 in
theorem c_X8_daysToEviction_ok {Γ : Gm} {mo n : Nat} {F : Hp} {I : Nat → Int32} {A : Nat → Nat → Int32} {f : Nat → Int32} {k c : Nat} (h : Okr f c) (hk : k < c) : Ct Γ 7 MX8_daysToEviction 0 0 [.ref mo, .int (nI k)] (MW Γ mo F I A f) n (fun v E1 n1 => v = some (.int (evF f k 100 0)) ∧ n1 = n ∧ ∃ A2 I2, Sc3 A A2 ∧ Si I I2 ∧ E1 = MW Γ mo F I2 A2 f) X0 := by
  refine Ct.of (by decide +kernel) rfl (Nat.le_of_ble_eq_true rfl) ?_
  obtain ⟨hc, hc12, hfl⟩ := id h
  have hgb : ∀ i, gonB f k i = true ↔ (dysM f (upd I 11 (nI k)) i).2 11 = -1 := fun i => by unfold gonB; rw [decide_eq_true_eq, (dysM_R h (Wr.w (I := I) hk) (wI_R (I := I) (k := k) (by omega)) i).1.1]
  refine G.sub (lv2 := [(0, _), (1, _)]) [0, 1] rfl ?_
  refine g_aload_n 0 rfl dX8_daysToEviction_0 ?_
  refine g_iload_n 1 rfl dX8_daysToEviction_1 ?_
  refine gv_V (c_X8_isLodger hc) l_X8_249 rfl m_rcv (Nat.le_of_ble_eq_true rfl) (Nat.le_of_ble_eq_true rfl) rfl dX8_daysToEviction_2 ?_
  refine g_if_ne (tgt := 14) (by decide) dX8_daysToEviction_5 (fun h5 => ?_) (fun h5 => ?_)
  · -- t 14
    refine g_aload_n 0 rfl dX8_daysToEviction_14 ?_
    refine g_iload_n 1 rfl dX8_daysToEviction_15 ?_
    refine gu_V (c_X8_tracks ) l_X8_273 rfl m_rcv (Nat.le_of_ble_eq_true rfl) (Nat.le_of_ble_eq_true rfl) rfl dX8_daysToEviction_16 ?_
    refine gn_ic 0 (by decide) dX8_daysToEviction_19 ?_
    refine g_istore_n (lv2 := [(2, _), (0, _), (1, _)]) (by decide) rfl dX8_daysToEviction_20 ?_
    have L21 : ∀ (m21 : Nat) (i : Nat) (A1 : Nat → Nat → Int32), (i + m21 = 100) → (Sc (updA A 3 (cpO (A 3) f 0 205)) A1) → (evF f k m21 i = evF f k 100 0) → G Γ 7 MX8_daysToEviction (fun v E1 n1 => v = some (.int (evF f k 100 0)) ∧ n1 = n ∧ ∃ A2 I2, Sc3 A A2 ∧ Si I I2 ∧ E1 = MW Γ mo F I2 A2 f) X0 21 [(0, .ref mo), (1, .int (nI k)), (2, .int (nI i))] [] (MW Γ mo F (dysM f (upd I 11 (nI k)) i).2 A1 (dysM f (upd I 11 (nI k)) i).1) n 0 0 := by
      intro m21
      induction m21 with
      | zero =>
        intro i A1 hi hS hE
        refine m_get 0 rfl f_X8_37 rfl dX8_daysToEviction_21 dX8_daysToEviction_22 ?_
        refine g_iconst (v := -1) dX8_daysToEviction_25 (by decide) ?_
        refine g_icmp_eq (tgt := 45) (by decide) dX8_daysToEviction_26 (fun h26 => ?_) (fun h26 => ?_)
        · -- t 45
          refine m_get 0 rfl f_X8_37 rfl dX8_daysToEviction_45 dX8_daysToEviction_46 ?_
          refine g_iconst (v := -1) dX8_daysToEviction_49 (by decide) ?_
          refine g_icmp_ne (tgt := 57) (by decide) dX8_daysToEviction_50 (fun h50 => ?_) (fun h50 => ?_)
          · -- t 57
            exact absurd h26 h50
          · -- f 53
            refine gn_ic 1 (by decide) dX8_daysToEviction_53 ?_
            refine g_goto (tgt := 58) (by decide) dX8_daysToEviction_54 ?_
            refine g_istore_n (lv2 := [(3, _), (0, _), (1, _), (2, _)]) (by decide) rfl dX8_daysToEviction_58 ?_
            refine g_aload_n 1 rfl dX8_daysToEviction_59 ?_
            refine gu_V (c_X8_putsBack ) l_X8_234 rfl m_rcv (Nat.le_of_ble_eq_true rfl) (Nat.le_of_ble_eq_true rfl) rfl dX8_daysToEviction_60 ?_
            refine m_ag (g := f) (tk_cp (hS 3 (by decide) (by decide))) ?_
            refine g_aload_n 1 rfl dX8_daysToEviction_63 ?_
            refine g_iload_n 0 rfl dX8_daysToEviction_64 ?_
            refine gn_if_eq (by omega) (tgt := 72) (by decide) dX8_daysToEviction_65 (fun h65 => ?_) (fun h65 => ?_)
            · -- t 72
              exact absurd h65 (by decide)
            · -- f 68
              refine g_iload_n 3 rfl dX8_daysToEviction_68 ?_
              refine g_goto (tgt := 73) (by decide) dX8_daysToEviction_69 ?_
              refine gv_V (c_X8_told ) l_X8_222 rfl m_rcv (Nat.le_of_ble_eq_true rfl) (Nat.le_of_ble_eq_true rfl) rfl dX8_daysToEviction_73 ?_
              exact g_iret ⟨by rw [← hE, evF_t ((hgb i).mpr h26)], rfl, A1, _, Sc3.u3.tr (Sc3.of hS), Sj.told Sj.dys, rfl⟩ rfl rfl dX8_daysToEviction_76
        · -- f 29
          refine g_iload_n 2 rfl dX8_daysToEviction_29 ?_
          refine gn_bp 100 (by decide) dX8_daysToEviction_30 ?_
          refine gn_icmp_ge (by omega) (by omega) (tgt := 45) (by decide) dX8_daysToEviction_32 (fun h32 => ?_) (fun h32 => ?_)
          · -- t 45
            refine m_get 0 rfl f_X8_37 rfl dX8_daysToEviction_45 dX8_daysToEviction_46 ?_
            refine g_iconst (v := -1) dX8_daysToEviction_49 (by decide) ?_
            refine g_icmp_ne (tgt := 57) (by decide) dX8_daysToEviction_50 (fun h50 => ?_) (fun h50 => ?_)
            · -- t 57
              refine gn_ic 0 (by decide) dX8_daysToEviction_57 ?_
              refine g_istore_n (lv2 := [(3, _), (0, _), (1, _), (2, _)]) (by decide) rfl dX8_daysToEviction_58 ?_
              refine g_aload_n 1 rfl dX8_daysToEviction_59 ?_
              refine gu_V (c_X8_putsBack ) l_X8_234 rfl m_rcv (Nat.le_of_ble_eq_true rfl) (Nat.le_of_ble_eq_true rfl) rfl dX8_daysToEviction_60 ?_
              refine m_ag (g := f) (tk_cp (hS 3 (by decide) (by decide))) ?_
              refine g_aload_n 1 rfl dX8_daysToEviction_63 ?_
              refine g_iload_n 0 rfl dX8_daysToEviction_64 ?_
              refine gn_if_eq (by omega) (tgt := 72) (by decide) dX8_daysToEviction_65 (fun h65 => ?_) (fun h65 => ?_)
              · -- t 72
                refine g_iconst (v := -1) dX8_daysToEviction_72 (by decide) ?_
                refine gv_V (c_X8_told ) l_X8_222 rfl m_rcv (Nat.le_of_ble_eq_true rfl) (Nat.le_of_ble_eq_true rfl) rfl dX8_daysToEviction_73 ?_
                exact g_iret ⟨by rw [← hE, evF_0 (fun z => h26 ((hgb i).mp z))], rfl, A1, _, Sc3.u3.tr (Sc3.of hS), Sj.told Sj.dys, rfl⟩ rfl rfl dX8_daysToEviction_76
              · -- f 68
                exact absurd h65 (by decide)
            · -- f 53
              exact absurd h50 h26
          · -- f 35
            exfalso; omega
      | succ m21 ih21 =>
        intro i A1 hi hS hE
        obtain ⟨c2, hc2, h2⟩ := dysM_ok (I := (upd I 11 (nI k))) h i
        refine m_get 0 rfl f_X8_37 rfl dX8_daysToEviction_21 dX8_daysToEviction_22 ?_
        refine g_iconst (v := -1) dX8_daysToEviction_25 (by decide) ?_
        refine g_icmp_eq (tgt := 45) (by decide) dX8_daysToEviction_26 (fun h26 => ?_) (fun h26 => ?_)
        · -- t 45
          refine m_get 0 rfl f_X8_37 rfl dX8_daysToEviction_45 dX8_daysToEviction_46 ?_
          refine g_iconst (v := -1) dX8_daysToEviction_49 (by decide) ?_
          refine g_icmp_ne (tgt := 57) (by decide) dX8_daysToEviction_50 (fun h50 => ?_) (fun h50 => ?_)
          · -- t 57
            exact absurd h26 h50
          · -- f 53
            refine gn_ic 1 (by decide) dX8_daysToEviction_53 ?_
            refine g_goto (tgt := 58) (by decide) dX8_daysToEviction_54 ?_
            refine g_istore_n (lv2 := [(3, _), (0, _), (1, _), (2, _)]) (by decide) rfl dX8_daysToEviction_58 ?_
            refine g_aload_n 1 rfl dX8_daysToEviction_59 ?_
            refine gu_V (c_X8_putsBack ) l_X8_234 rfl m_rcv (Nat.le_of_ble_eq_true rfl) (Nat.le_of_ble_eq_true rfl) rfl dX8_daysToEviction_60 ?_
            refine m_ag (g := f) (tk_cp (hS 3 (by decide) (by decide))) ?_
            refine g_aload_n 1 rfl dX8_daysToEviction_63 ?_
            refine g_iload_n 0 rfl dX8_daysToEviction_64 ?_
            refine gn_if_eq (by omega) (tgt := 72) (by decide) dX8_daysToEviction_65 (fun h65 => ?_) (fun h65 => ?_)
            · -- t 72
              exact absurd h65 (by decide)
            · -- f 68
              refine g_iload_n 3 rfl dX8_daysToEviction_68 ?_
              refine g_goto (tgt := 73) (by decide) dX8_daysToEviction_69 ?_
              refine gv_V (c_X8_told ) l_X8_222 rfl m_rcv (Nat.le_of_ble_eq_true rfl) (Nat.le_of_ble_eq_true rfl) rfl dX8_daysToEviction_73 ?_
              exact g_iret ⟨by rw [← hE, evF_t ((hgb i).mpr h26)], rfl, A1, _, Sc3.u3.tr (Sc3.of hS), Sj.told Sj.dys, rfl⟩ rfl rfl dX8_daysToEviction_76
        · -- f 29
          refine g_iload_n 2 rfl dX8_daysToEviction_29 ?_
          refine gn_bp 100 (by decide) dX8_daysToEviction_30 ?_
          refine gn_icmp_ge (by omega) (by omega) (tgt := 45) (by decide) dX8_daysToEviction_32 (fun h32 => ?_) (fun h32 => ?_)
          · -- t 45
            exfalso; omega
          · -- f 35
            refine g_aload_n 0 rfl dX8_daysToEviction_35 ?_
            refine gx_V0 (c_X8_passesDay h2) l_X8_60 rfl m_rcv (Nat.le_of_ble_eq_true rfl) (Nat.le_of_ble_eq_true rfl) rfl dX8_daysToEviction_36 (fun _ _ _ z => z.1) (fun E1 n1 z => ?_)
            obtain ⟨-, rfl, A2, hS2, rfl⟩ := z
            rw [show dayM (dysM f (upd I 11 (nI k)) i).1 (dysM f (upd I 11 (nI k)) i).2 c2 = dysM f (upd I 11 (nI k)) (i + 1) from by rw [dysM, mny_eq h2]]
            refine gn_inc (lv2 := [(2, _), (0, _), (1, _)]) 2 rfl (by decide) rfl dX8_daysToEviction_39 ?_
            refine g_goto (tgt := 21) (by decide) dX8_daysToEviction_42 ?_
            refine G.sub [1, 2, 0] rfl ?_
            exact ih21 (i + 1) A2 (by omega) (hS.tr hS2) ((evF_f (fun z => h26 ((hgb i).mp z))).symm.trans hE)
    refine G.sub [1, 2, 0] rfl ?_
    exact L21 100 0 (updA A 3 (cpO (A 3) f 0 205)) (by omega) Sc.rf rfl
  · -- f 8
    exact absurd (lod_ok hk hc12) (bi_0 h5)
set_option maxRecDepth 100000 in
set_option maxHeartbeats 4000000 in
theorem c_X8_daysToEviction_no {Γ : Gm} {mo n : Nat} {F : Hp} {I : Nat → Int32} {A : Nat → Nat → Int32} {f : Nat → Int32} {x : Int32} {c : Nat}  (hc : f 7 = nI c) (hc12 : c ≤ 12) (hx : ¬ (nI 0 ≤ x ∧ x ≤ nI c - nI 1)) : Ct Γ 7 MX8_daysToEviction 0 0 [.ref mo, .int x] (MW Γ mo F I A f) n (Rt (some (.int (nI 0))) (MW Γ mo F (upd I 2 (nI 1)) A f) n) X0 := by
  refine Ct.of (by decide +kernel) rfl (Nat.le_of_ble_eq_true rfl) ?_
  refine G.sub (lv2 := [(0, _), (1, _)]) [0, 1] rfl ?_
  refine g_aload_n 0 rfl dX8_daysToEviction_0 ?_
  refine g_iload_n 1 rfl dX8_daysToEviction_1 ?_
  refine gv_V (c_X8_isLodger hc) l_X8_249 rfl m_rcv (Nat.le_of_ble_eq_true rfl) (Nat.le_of_ble_eq_true rfl) rfl dX8_daysToEviction_2 ?_
  refine g_if_ne (tgt := 14) (by decide) dX8_daysToEviction_5 (fun h5 => ?_) (fun h5 => ?_)
  · -- t 14
    exact absurd (bi_n0 h5) hx
  · -- f 8
    refine g_aload_n 0 rfl dX8_daysToEviction_8 ?_
    refine gn_ic 1 (by decide) dX8_daysToEviction_9 ?_
    refine gv_V (c_X8_refuse ) l_X8_216 rfl m_rcv (Nat.le_of_ble_eq_true rfl) (Nat.le_of_ble_eq_true rfl) rfl dX8_daysToEviction_10 ?_
    exact g_iret ⟨rfl, rfl, rfl⟩ (by decide +kernel) rfl dX8_daysToEviction_13
set_option maxRecDepth 100000 in
set_option maxHeartbeats 4000000 in
theorem c_X8_staysWith {Γ : Gm} {mo n : Nat} {F : Hp} {I : Nat → Int32} {A : Nat → Nat → Int32} {f : Nat → Int32} {k c dy : Nat} {x : Int32} (h : Okr f c) (hk : k < c) (hdy : f 8 = nI dy) (hdy31 : dy < 2 ^ 31) : Ct Γ 8 MX8_staysWith 0 0 [.ref mo, .int (nI k), .int x] (MW Γ mo F I A f) n (fun v E1 n1 => v = some (.int (bi (styB f k x (7 - dy % 7) = true))) ∧ n1 = n ∧ ∃ A2 I2, Sc3 A A2 ∧ Sj I I2 ∧ E1 = MW Γ mo F I2 A2 f) X0 := by
  refine Ct.of (by decide +kernel) rfl (Nat.le_of_ble_eq_true rfl) ?_
  obtain ⟨hc, hc12, hfl⟩ := id h
  have hx := payx_ok (k := k) (x := x) h
  have hg : gonB (payx f k x) k (7 - dy % 7) = true ↔ (dysM (payx f k x) (upd I 11 (nI k)) (7 - dy % 7)).2 11 = -1 := by unfold gonB; rw [decide_eq_true_eq, (dysM_R hx (Wr.w (I := I) hk) (wI_R (I := I) (k := k) (by omega)) (7 - dy % 7)).1.1]
  refine G.sub (lv2 := [(0, _), (1, _), (2, _)]) [0, 1, 2] rfl ?_
  refine g_aload_n 0 rfl dX8_staysWith_0 ?_
  refine gv_V (c_X8_daysLeft ) l_X8_246 rfl m_rcv (Nat.le_of_ble_eq_true rfl) (Nat.le_of_ble_eq_true rfl) rfl dX8_staysWith_1 ?_
  refine g_top (y := nI (7 - dy % 7)) (dl_eq hdy hdy31) ?_
  refine g_istore_n (lv2 := [(3, _), (0, _), (1, _), (2, _)]) (by decide) rfl dX8_staysWith_4 ?_
  refine g_aload_n 1 rfl dX8_staysWith_5 ?_
  refine g_iload_n 2 rfl dX8_staysWith_6 ?_
  refine gu_V (c_X8_tracks ) l_X8_273 rfl m_rcv (Nat.le_of_ble_eq_true rfl) (Nat.le_of_ble_eq_true rfl) rfl dX8_staysWith_7 ?_
  refine m_get 1 rfl f_X8_19 rfl dX8_staysWith_10 dX8_staysWith_11 ?_
  refine g_iload_n 2 rfl dX8_staysWith_14 ?_
  refine gv_S (c_X8_l ) l_X8_56 rfl (Nat.le_of_ble_eq_true rfl) (Nat.le_of_ble_eq_true rfl) rfl dX8_staysWith_15 ?_
  refine gn_ic 1 (by decide) dX8_staysWith_18 ?_
  refine gn_iadd dX8_staysWith_19 ?_
  refine g_dup2 rfl rfl dX8_staysWith_20 ?_
  refine gn_iald MW_3 (by omega) (by decide) dX8_staysWith_21 ?_
  refine g_iload_n 3 rfl dX8_staysWith_22 ?_
  refine g_iadd dX8_staysWith_23 ?_
  refine gn_iast MW_3 (by omega) (by decide) MW_s3 dX8_staysWith_24 ?_
  refine g_world (E2 := MW Γ mo F (upd I 11 (nI k)) (updA A 3 (cpO (A 3) f 0 205)) (payx f k x)) rfl ?_
  refine g_aload_n 1 rfl dX8_staysWith_25 ?_
  refine g_iload_n 0 rfl dX8_staysWith_26 ?_
  refine gx_V0 (c_X8_passes hx (t := (7 - dy % 7)) (by omega)) l_X8_201 rfl m_rcv (Nat.le_of_ble_eq_true rfl) (Nat.le_of_ble_eq_true rfl) rfl dX8_staysWith_27 (fun _ _ _ z => z.1) (fun E1 n1 z => ?_)
  obtain ⟨-, rfl, A2, hS2, rfl⟩ := z
  refine m_get 1 rfl f_X8_37 rfl dX8_staysWith_30 dX8_staysWith_31 ?_
  refine g_iconst (v := -1) dX8_staysWith_34 (by decide) ?_
  refine g_icmp_eq (tgt := 42) (by decide) dX8_staysWith_35 (fun h35 => ?_) (fun h35 => ?_)
  · -- t 42
    refine gn_ic 0 (by decide) dX8_staysWith_42 ?_
    refine g_istore (lv2 := [(4, _), (3, _), (0, _), (1, _), (2, _)]) (by decide) rfl dX8_staysWith_43 ?_
    refine g_aload_n 2 rfl dX8_staysWith_45 ?_
    refine gu_V (c_X8_putsBack ) l_X8_234 rfl m_rcv (Nat.le_of_ble_eq_true rfl) (Nat.le_of_ble_eq_true rfl) rfl dX8_staysWith_46 ?_
    refine m_ag (g := f) (tk_cp (hS2 3 (by decide) (by decide))) ?_
    refine g_iload 0 rfl dX8_staysWith_49 ?_
    exact g_iret ⟨by rw [bi_f (fun z => by unfold styB at z; rw [hg.mpr h35] at z; cases z)], rfl, A2, _, Sc3.u3.tr (Sc3.of hS2), Sj.dys, rfl⟩ (by decide +kernel) rfl dX8_staysWith_51
  · -- f 38
    refine gn_ic 1 (by decide) dX8_staysWith_38 ?_
    refine g_goto (tgt := 43) (by decide) dX8_staysWith_39 ?_
    refine g_istore (lv2 := [(4, _), (3, _), (0, _), (1, _), (2, _)]) (by decide) rfl dX8_staysWith_43 ?_
    refine g_aload_n 2 rfl dX8_staysWith_45 ?_
    refine gu_V (c_X8_putsBack ) l_X8_234 rfl m_rcv (Nat.le_of_ble_eq_true rfl) (Nat.le_of_ble_eq_true rfl) rfl dX8_staysWith_46 ?_
    refine m_ag (g := f) (tk_cp (hS2 3 (by decide) (by decide))) ?_
    refine g_iload 0 rfl dX8_staysWith_49 ?_
    exact g_iret ⟨by rw [bi_t (show styB f k x _ = true by unfold styB; rw [Bool.not_eq_true', Bool.eq_false_iff]; exact fun z => h35 (hg.mp z))], rfl, A2, _, Sc3.u3.tr (Sc3.of hS2), Sj.dys, rfl⟩ (by decide +kernel) rfl dX8_staysWith_51
set_option maxRecDepth 100000 in
set_option maxHeartbeats 4000000 in
theorem c_X8_paymentToStay_ok {Γ : Gm} {mo n : Nat} {F : Hp} {I : Nat → Int32} {A : Nat → Nat → Int32} {f : Nat → Int32} {k c dy : Nat} (h : Okr f c) (hk : k < c) (hdy : f 8 = nI dy) (hdy31 : dy < 2 ^ 31) : Ct Γ 9 MX8_paymentToStay 0 0 [.ref mo, .int (nI k)] (MW Γ mo F I A f) n (fun v E1 n1 => v = some (.int (ptR f k (7 - dy % 7))) ∧ n1 = n ∧ ∃ A2 I2, Sc3 A A2 ∧ Si I I2 ∧ E1 = MW Γ mo F I2 A2 f) X0 := by
  refine Ct.of (by decide +kernel) rfl (Nat.le_of_ble_eq_true rfl) ?_
  obtain ⟨hc, hc12, hfl⟩ := id h
  refine G.sub (lv2 := [(0, _), (1, _)]) [0, 1] rfl ?_
  refine g_aload_n 0 rfl dX8_paymentToStay_0 ?_
  refine g_iload_n 1 rfl dX8_paymentToStay_1 ?_
  refine gv_V (c_X8_isLodger hc) l_X8_249 rfl m_rcv (Nat.le_of_ble_eq_true rfl) (Nat.le_of_ble_eq_true rfl) rfl dX8_paymentToStay_2 ?_
  refine g_if_ne (tgt := 14) (by decide) dX8_paymentToStay_5 (fun h5 => ?_) (fun h5 => ?_)
  · -- t 14
    refine g_aload_n 0 rfl dX8_paymentToStay_14 ?_
    refine g_iload_n 1 rfl dX8_paymentToStay_15 ?_
    refine gn_ic 0 (by decide) dX8_paymentToStay_16 ?_
    refine gx_Vi (c_X8_staysWith (k := k) (c := c) (x := nI 0) (I := I) (A := A) h hk hdy hdy31) l_X8_276 rfl m_rcv (Nat.le_of_ble_eq_true rfl) (Nat.le_of_ble_eq_true rfl) rfl dX8_paymentToStay_17 (fun _ _ _ z => ⟨_, z.1⟩) (fun z9 E1 n1 z => ?_)
    obtain ⟨z1, hn1, A2, I2, hS2, hJ2, rfl⟩ := z
    obtain rfl := hn1.symm
    cases z1
    refine g_if_eq (tgt := 29) (by decide) dX8_paymentToStay_20 (fun h20 => ?_) (fun h20 => ?_)
    · -- t 29
      refine m_get 0 rfl f_X8_19 rfl dX8_paymentToStay_29 dX8_paymentToStay_30 ?_
      refine g_iload_n 1 rfl dX8_paymentToStay_33 ?_
      refine gv_S (c_X8_l ) l_X8_56 rfl (Nat.le_of_ble_eq_true rfl) (Nat.le_of_ble_eq_true rfl) rfl dX8_paymentToStay_34 ?_
      refine gn_ic 1 (by decide) dX8_paymentToStay_37 ?_
      refine gn_iadd dX8_paymentToStay_38 ?_
      refine gn_iald MW_3 (by omega) (by decide) dX8_paymentToStay_39 ?_
      refine g_istore_n (lv2 := [(2, _), (0, _), (1, _)]) (by decide) rfl dX8_paymentToStay_40 ?_
      refine g_aload_n 1 rfl dX8_paymentToStay_41 ?_
      refine m_get 1 rfl f_X8_19 rfl dX8_paymentToStay_42 dX8_paymentToStay_43 ?_
      refine g_iload_n 2 rfl dX8_paymentToStay_46 ?_
      refine gv_S (c_X8_l ) l_X8_56 rfl (Nat.le_of_ble_eq_true rfl) (Nat.le_of_ble_eq_true rfl) rfl dX8_paymentToStay_47 ?_
      refine gn_ic 0 (by decide) dX8_paymentToStay_50 ?_
      refine gn_iadd0 dX8_paymentToStay_51 ?_
      refine gn_iald MW_3 (by omega) (by decide) dX8_paymentToStay_52 ?_
      refine gv_V (c_X8_rentAt ) l_X8_93 rfl m_rcv (Nat.le_of_ble_eq_true rfl) (Nat.le_of_ble_eq_true rfl) rfl dX8_paymentToStay_53 ?_
      refine g_istore_n (lv2 := [(3, _), (2, _), (0, _), (1, _)]) (by decide) rfl dX8_paymentToStay_56 ?_
      refine gn_ic 1 (by decide) dX8_paymentToStay_57 ?_
      refine g_istore (lv2 := [(4, _), (3, _), (2, _), (0, _), (1, _)]) (by decide) rfl dX8_paymentToStay_58 ?_
      have L60 : ∀ (m60 : Nat) (d : Nat) (A1 : Nat → Nat → Int32) (I1 : Nat → Int32), (d + m60 = 8 - dy % 7) → (0 < d) → (Sc3 A A1) → (Sj I I1) → (ptF f k (7 - dy % 7) m60 d = ptF f k (7 - dy % 7) (7 - dy % 7) 1) → G Γ 9 MX8_paymentToStay (fun v E1 n1 => v = some (.int (ptR f k (7 - dy % 7))) ∧ n1 = n ∧ ∃ A2 I2, Sc3 A A2 ∧ Si I I2 ∧ E1 = MW Γ mo F I2 A2 f) X0 60 [(0, .ref mo), (1, .int (nI k)), (2, .int (f (13 + 16 * k + 1))), (3, .int (f 0 + nI 5 * f (13 + 16 * k))), (4, .int (nI d))] [] (MW Γ mo F I1 A1 f) n 0 0 := by
        intro m60
        induction m60 with
        | zero =>
          intro d A1 I1 hd hd0 hS hJ hE
          refine g_iload 4 rfl dX8_paymentToStay_60 ?_
          refine g_aload_n 0 rfl dX8_paymentToStay_62 ?_
          refine gv_V (c_X8_daysLeft ) l_X8_246 rfl m_rcv (Nat.le_of_ble_eq_true rfl) (Nat.le_of_ble_eq_true rfl) rfl dX8_paymentToStay_63 ?_
          refine g_top (y := nI (7 - dy % 7)) (dl_eq hdy hdy31) ?_
          refine gn_icmp_gt (by omega) (by omega) (tgt := 112) (by decide) dX8_paymentToStay_66 (fun cc1 => ?_) (fun cc1 => ?_)
          · -- t 112
            refine g_aload_n 0 rfl dX8_paymentToStay_112 ?_
            refine g_iconst (v := -1) dX8_paymentToStay_113 (by decide) ?_
            refine gv_V (c_X8_told ) l_X8_222 rfl m_rcv (Nat.le_of_ble_eq_true rfl) (Nat.le_of_ble_eq_true rfl) rfl dX8_paymentToStay_114 ?_
            exact g_iret ⟨by rw [ptR, if_neg (bi_0 h20), ← hE]; rfl, rfl, A1, _, hS, Sj.told hJ, rfl⟩ rfl rfl dX8_paymentToStay_117
          · -- f 69
            exfalso; omega
        | succ m60 ih60 =>
          intro d A1 I1 hd hd0 hS hJ hE
          refine g_iload 4 rfl dX8_paymentToStay_60 ?_
          refine g_aload_n 0 rfl dX8_paymentToStay_62 ?_
          refine gv_V (c_X8_daysLeft ) l_X8_246 rfl m_rcv (Nat.le_of_ble_eq_true rfl) (Nat.le_of_ble_eq_true rfl) rfl dX8_paymentToStay_63 ?_
          refine g_top (y := nI (7 - dy % 7)) (dl_eq hdy hdy31) ?_
          refine gn_icmp_gt (by omega) (by omega) (tgt := 112) (by decide) dX8_paymentToStay_66 (fun cc2 => ?_) (fun cc2 => ?_)
          · -- t 112
            exfalso; omega
          · -- f 69
            refine g_iload_n 3 rfl dX8_paymentToStay_69 ?_
            refine g_iload 4 rfl dX8_paymentToStay_70 ?_
            refine g_imul dX8_paymentToStay_72 ?_
            refine g_iload_n 2 rfl dX8_paymentToStay_73 ?_
            refine g_isub dX8_paymentToStay_74 ?_
            refine g_istore (lv2 := [(5, _), (0, _), (1, _), (2, _), (3, _), (4, _)]) (by decide) rfl dX8_paymentToStay_75 ?_
            refine g_iload 0 rfl dX8_paymentToStay_77 ?_
            refine gn_ic 1 (by decide) dX8_paymentToStay_79 ?_
            refine gn_sp 999 (by decide) dX8_paymentToStay_80 ?_
            refine gv_S (c_X8_in ) l_X8_66 rfl (Nat.le_of_ble_eq_true rfl) (Nat.le_of_ble_eq_true rfl) rfl dX8_paymentToStay_83 ?_
            refine g_if_eq (tgt := 106) (by decide) dX8_paymentToStay_86 (fun h86 => ?_) (fun h86 => ?_)
            · -- t 106
              refine gn_inc (lv2 := [(4, _), (5, _), (0, _), (1, _), (2, _), (3, _)]) 5 rfl (by decide) rfl dX8_paymentToStay_106 ?_
              refine g_goto (tgt := 60) (by decide) dX8_paymentToStay_109 ?_
              refine G.sub [2, 3, 4, 5, 0] rfl ?_
              exact ih60 (d + 1) A1 I1 (by omega) (by omega) hS hJ ((ptF_f (fun z => bi_0 h86 z.1)).symm.trans hE)
            · -- f 89
              refine g_aload_n 1 rfl dX8_paymentToStay_89 ?_
              refine g_iload_n 2 rfl dX8_paymentToStay_90 ?_
              refine g_iload 0 rfl dX8_paymentToStay_91 ?_
              refine gx_Vi (c_X8_staysWith (k := k) (c := c) (x := pmt f k d) (I := I1) (A := A1) h hk hdy hdy31) l_X8_276 rfl m_rcv (Nat.le_of_ble_eq_true rfl) (Nat.le_of_ble_eq_true rfl) rfl dX8_paymentToStay_93 (fun _ _ _ z => ⟨_, z.1⟩) (fun z9 E1 n1 z => ?_)
              obtain ⟨z1, hn1, A2, I2, hS2, hJ2, rfl⟩ := z
              obtain rfl := hn1.symm
              cases z1
              refine g_if_eq (tgt := 106) (by decide) dX8_paymentToStay_96 (fun h96 => ?_) (fun h96 => ?_)
              · -- t 106
                refine gn_inc (lv2 := [(4, _), (5, _), (0, _), (1, _), (2, _), (3, _)]) 5 rfl (by decide) rfl dX8_paymentToStay_106 ?_
                refine g_goto (tgt := 60) (by decide) dX8_paymentToStay_109 ?_
                refine G.sub [2, 3, 4, 5, 0] rfl ?_
                exact ih60 (d + 1) A2 I2 (by omega) (by omega) (hS.tr hS2) (hJ.tr hJ2) ((ptF_f (fun z => bi_0 h96 z.2)).symm.trans hE)
              · -- f 99
                refine g_aload_n 1 rfl dX8_paymentToStay_99 ?_
                refine g_iload 0 rfl dX8_paymentToStay_100 ?_
                refine gv_V (c_X8_told ) l_X8_222 rfl m_rcv (Nat.le_of_ble_eq_true rfl) (Nat.le_of_ble_eq_true rfl) rfl dX8_paymentToStay_102 ?_
                exact g_iret ⟨by rw [ptR, if_neg (bi_0 h20), ← hE, ptF_t (bi_n0 h86) (bi_n0 h96)]; rfl, rfl, A2, _, hS.tr hS2, Sj.told (hJ.tr hJ2), rfl⟩ rfl rfl dX8_paymentToStay_105
      refine G.sub [3, 4, 2, 1, 0] rfl ?_
      exact L60 (7 - dy % 7) 1 A2 I2 (by omega) (by decide) hS2 hJ2 rfl
    · -- f 23
      refine g_aload_n 0 rfl dX8_paymentToStay_23 ?_
      refine gn_ic 0 (by decide) dX8_paymentToStay_24 ?_
      refine gv_V (c_X8_told ) l_X8_222 rfl m_rcv (Nat.le_of_ble_eq_true rfl) (Nat.le_of_ble_eq_true rfl) rfl dX8_paymentToStay_25 ?_
      exact g_iret ⟨by rw [ptR, if_pos (bi_n0 h20)], rfl, A2, _, hS2, Sj.told hJ2, rfl⟩ rfl rfl dX8_paymentToStay_28
  · -- f 8
    exact absurd (lod_ok hk hc12) (bi_0 h5)
set_option maxRecDepth 100000 in
set_option maxHeartbeats 4000000 in
theorem c_X8_paymentToStay_no {Γ : Gm} {mo n : Nat} {F : Hp} {I : Nat → Int32} {A : Nat → Nat → Int32} {f : Nat → Int32} {x : Int32} {c : Nat}  (hc : f 7 = nI c) (hc12 : c ≤ 12) (hx : ¬ (nI 0 ≤ x ∧ x ≤ nI c - nI 1)) : Ct Γ 9 MX8_paymentToStay 0 0 [.ref mo, .int x] (MW Γ mo F I A f) n (Rt (some (.int (nI 0))) (MW Γ mo F (upd I 2 (nI 1)) A f) n) X0 := by
  refine Ct.of (by decide +kernel) rfl (Nat.le_of_ble_eq_true rfl) ?_
  refine G.sub (lv2 := [(0, _), (1, _)]) [0, 1] rfl ?_
  refine g_aload_n 0 rfl dX8_paymentToStay_0 ?_
  refine g_iload_n 1 rfl dX8_paymentToStay_1 ?_
  refine gv_V (c_X8_isLodger hc) l_X8_249 rfl m_rcv (Nat.le_of_ble_eq_true rfl) (Nat.le_of_ble_eq_true rfl) rfl dX8_paymentToStay_2 ?_
  refine g_if_ne (tgt := 14) (by decide) dX8_paymentToStay_5 (fun h5 => ?_) (fun h5 => ?_)
  · -- t 14
    exact absurd (bi_n0 h5) hx
  · -- f 8
    refine g_aload_n 0 rfl dX8_paymentToStay_8 ?_
    refine gn_ic 1 (by decide) dX8_paymentToStay_9 ?_
    refine gv_V (c_X8_refuse ) l_X8_216 rfl m_rcv (Nat.le_of_ble_eq_true rfl) (Nat.le_of_ble_eq_true rfl) rfl dX8_paymentToStay_10 ?_
    exact g_iret ⟨rfl, rfl, rfl⟩ (by decide +kernel) rfl dX8_paymentToStay_13
set_option maxRecDepth 100000 in
set_option maxHeartbeats 4000000 in
theorem c_X8_ledgerDifference {Γ : Gm} {mo n : Nat} {F : Hp} {I : Nat → Int32} {A : Nat → Nat → Int32} {f : Nat → Int32} {c : Nat} (hc : f 7 = nI c) (hc12 : c ≤ 12) : Ct Γ 2 MX8_ledgerDifference 0 0 [.ref mo] (MW Γ mo F I A f) n (Rt (some (.int (ldN f c))) (MW Γ mo F (upd I 2 (nI 0)) A f) n) X0 := by
  refine Ct.of (by decide +kernel) rfl (Nat.le_of_ble_eq_true rfl) ?_
  refine G.sub (lv2 := [(0, _)]) [0] rfl ?_
  refine m_get 0 rfl f_X8_19 rfl dX8_ledgerDifference_0 dX8_ledgerDifference_1 ?_
  refine gn_bp 12 (by decide) dX8_ledgerDifference_4 ?_
  refine gn_iald MW_3 (by omega) (by decide) dX8_ledgerDifference_6 ?_
  refine m_get 0 rfl f_X8_19 rfl dX8_ledgerDifference_7 dX8_ledgerDifference_8 ?_
  refine gn_bp 10 (by decide) dX8_ledgerDifference_11 ?_
  refine gn_iald MW_3 (by omega) (by decide) dX8_ledgerDifference_13 ?_
  refine g_isub dX8_ledgerDifference_14 ?_
  refine m_get 0 rfl f_X8_19 rfl dX8_ledgerDifference_15 dX8_ledgerDifference_16 ?_
  refine gn_bp 11 (by decide) dX8_ledgerDifference_19 ?_
  refine gn_iald MW_3 (by omega) (by decide) dX8_ledgerDifference_21 ?_
  refine g_iadd dX8_ledgerDifference_22 ?_
  refine g_istore_n (lv2 := [(1, _), (0, _)]) (by decide) rfl dX8_ledgerDifference_23 ?_
  refine gn_ic 0 (by decide) dX8_ledgerDifference_24 ?_
  refine g_istore_n (lv2 := [(2, _), (1, _), (0, _)]) (by decide) rfl dX8_ledgerDifference_25 ?_
  have L26 : ∀ (m26 i26 : Nat), i26 + m26 = c → G Γ 2 MX8_ledgerDifference (Rt (some (.int (ldN f c))) (MW Γ mo F (upd I 2 (nI 0)) A f) n) X0 26 [(0, .ref mo), (1, .int (ldN f i26)), (2, .int (nI i26))] [] (MW Γ mo F I A f) n 0 0 := by
    intro m26
    induction m26 with
    | zero =>
      intro i26 hi26
      refine g_iload_n 2 rfl dX8_ledgerDifference_26 ?_
      refine m_get 0 rfl f_X8_19 rfl dX8_ledgerDifference_27 dX8_ledgerDifference_28 ?_
      refine gn_bp 7 (by decide) dX8_ledgerDifference_31 ?_
      refine gn_iald MW_3 (by omega) (by decide) dX8_ledgerDifference_33 ?_
      refine g_top (y := nI c) hc ?_
      refine gn_icmp_ge (by omega) (by omega) (tgt := 57) (by decide) dX8_ledgerDifference_34 (fun cc1 => ?_) (fun cc1 => ?_)
      · -- t 57
        obtain rfl : c = i26 := by omega
        refine g_aload_n 0 rfl dX8_ledgerDifference_57 ?_
        refine g_iload_n 1 rfl dX8_ledgerDifference_58 ?_
        refine gv_V (c_X8_told ) l_X8_222 rfl m_rcv (Nat.le_of_ble_eq_true rfl) (Nat.le_of_ble_eq_true rfl) rfl dX8_ledgerDifference_59 ?_
        exact g_iret ⟨rfl, rfl, rfl⟩ rfl rfl dX8_ledgerDifference_62
      · -- f 37
        exfalso; omega
    | succ m26 ih26 =>
      intro i26 hi26
      refine g_iload_n 2 rfl dX8_ledgerDifference_26 ?_
      refine m_get 0 rfl f_X8_19 rfl dX8_ledgerDifference_27 dX8_ledgerDifference_28 ?_
      refine gn_bp 7 (by decide) dX8_ledgerDifference_31 ?_
      refine gn_iald MW_3 (by omega) (by decide) dX8_ledgerDifference_33 ?_
      refine g_top (y := nI c) hc ?_
      refine gn_icmp_ge (by omega) (by omega) (tgt := 57) (by decide) dX8_ledgerDifference_34 (fun cc2 => ?_) (fun cc2 => ?_)
      · -- t 57
        exfalso; omega
      · -- f 37
        refine g_iload_n 1 rfl dX8_ledgerDifference_37 ?_
        refine m_get 0 rfl f_X8_19 rfl dX8_ledgerDifference_38 dX8_ledgerDifference_39 ?_
        refine g_iload_n 2 rfl dX8_ledgerDifference_42 ?_
        refine gv_S (c_X8_l ) l_X8_56 rfl (Nat.le_of_ble_eq_true rfl) (Nat.le_of_ble_eq_true rfl) rfl dX8_ledgerDifference_43 ?_
        refine gn_ic 1 (by decide) dX8_ledgerDifference_46 ?_
        refine gn_iadd dX8_ledgerDifference_47 ?_
        refine gn_iald MW_3 (by omega) (by decide) dX8_ledgerDifference_48 ?_
        refine g_iadd dX8_ledgerDifference_49 ?_
        refine g_istore_n (lv2 := [(1, _), (0, _), (2, _)]) (by decide) rfl dX8_ledgerDifference_50 ?_
        refine gn_inc (lv2 := [(2, _), (1, _), (0, _)]) 2 rfl (by decide) rfl dX8_ledgerDifference_51 ?_
        refine g_goto (tgt := 26) (by decide) dX8_ledgerDifference_54 ?_
        refine G.sub [2, 1, 0] rfl ?_
        exact ih26 (i26 + 1) (by omega)
  refine G.sub [2, 1, 0] rfl ?_
  exact L26 _ 0 (Nat.zero_add _)
end GM9
