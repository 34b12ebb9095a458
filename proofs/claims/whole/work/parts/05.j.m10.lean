section GM10
set_option maxRecDepth 100000 in
set_option maxHeartbeats 4000000 in
theorem c_X8_advance_ok {Γ : Gm} {mo n : Nat} {F : Hp} {I : Nat → Int32} {A : Nat → Nat → Int32} {f : Nat → Int32} {c t m : Nat} (h : Okr f c) (ht1 : 1 ≤ t) (ht2 : t ≤ 100) (h9 : ¬ nI 9999 < f 8 + nI t) (hm : I 6 = nI m) (hm10 : m ≤ 10) (h11 : I 11 = -1) : Ct Γ 8 MX8_advance 0 0 [.ref mo, .int (nI t)] (MW Γ mo F I A f) n (fun v E1 n1 => v = some (.int ((dysM f I t).1 9 - f 9)) ∧ n1 = n ∧ ∃ A2, Sc3 (updA A 4 (remO (A 4) f m)) A2 ∧ E1 = MW Γ mo F (upd (upd I 6 (nI (remM m))) 2 (nI 0)) A2 (dysM f I t).1) X0 := by
  refine Ct.of (by decide +kernel) rfl (Nat.le_of_ble_eq_true rfl) ?_
  refine G.sub (lv2 := [(0, _), (1, _)]) [0, 1] rfl ?_
  refine g_iload_n 1 rfl dX8_advance_0 ?_
  refine gn_ic 1 (by decide) dX8_advance_1 ?_
  refine gn_bp 100 (by decide) dX8_advance_2 ?_
  refine gv_S (c_X8_in ) l_X8_66 rfl (Nat.le_of_ble_eq_true rfl) (Nat.le_of_ble_eq_true rfl) rfl dX8_advance_4 ?_
  refine g_if_ne (tgt := 16) (by decide) dX8_advance_7 (fun h7 => ?_) (fun h7 => ?_)
  · -- t 16
    refine m_get 0 rfl f_X8_19 rfl dX8_advance_16 dX8_advance_17 ?_
    refine gn_bp 8 (by decide) dX8_advance_20 ?_
    refine gn_iald MW_3 (by omega) (by decide) dX8_advance_22 ?_
    refine g_iload_n 1 rfl dX8_advance_23 ?_
    refine g_iadd dX8_advance_24 ?_
    refine gn_sp 9999 (by decide) dX8_advance_25 ?_
    refine g_icmp_le (tgt := 37) (by decide) dX8_advance_28 (fun h28 => ?_) (fun h28 => ?_)
    · -- t 37
      refine g_aload_n 0 rfl dX8_advance_37 ?_
      refine gu_V (c_X8_remembers (m := m) hm hm10) l_X8_279 rfl m_rcv (Nat.le_of_ble_eq_true rfl) (Nat.le_of_ble_eq_true rfl) rfl dX8_advance_38 ?_
      refine m_get 0 rfl f_X8_19 rfl dX8_advance_41 dX8_advance_42 ?_
      refine gn_bp 9 (by decide) dX8_advance_45 ?_
      refine gn_iald MW_3 (by omega) (by decide) dX8_advance_47 ?_
      refine g_istore_n (lv2 := [(2, _), (0, _), (1, _)]) (by decide) rfl dX8_advance_48 ?_
      refine g_aload_n 1 rfl dX8_advance_49 ?_
      refine g_iload_n 2 rfl dX8_advance_50 ?_
      refine gx_V0 (c_X8_passes h (t := t) (by omega)) l_X8_201 rfl m_rcv (Nat.le_of_ble_eq_true rfl) (Nat.le_of_ble_eq_true rfl) rfl dX8_advance_51 (fun _ _ _ z => z.1) (fun E1 n1 z => ?_)
      obtain ⟨-, rfl, A2, hS2, rfl⟩ := z
      rw [dysM_I (I := (upd I 6 (nI (remM m)))) ((pk_un (by decide)).trans h11), dysM_1 (upd I 6 (nI (remM m))) I]
      refine g_aload_n 1 rfl dX8_advance_54 ?_
      refine m_get 1 rfl f_X8_19 rfl dX8_advance_55 dX8_advance_56 ?_
      refine gn_bp 9 (by decide) dX8_advance_59 ?_
      refine gn_iald MW_3 (by omega) (by decide) dX8_advance_61 ?_
      refine g_iload_n 0 rfl dX8_advance_62 ?_
      refine g_isub dX8_advance_63 ?_
      refine gv_V (c_X8_told ) l_X8_222 rfl m_rcv (Nat.le_of_ble_eq_true rfl) (Nat.le_of_ble_eq_true rfl) rfl dX8_advance_64 ?_
      exact g_iret ⟨rfl, rfl, A2, Sc3.of hS2, rfl⟩ rfl rfl dX8_advance_67
    · -- f 31
      exact absurd (Int32.not_le.mp h28) h9
  · -- f 10
    exact absurd (rg_ok ht1 ht2 (by decide)) (bi_0 h7)
set_option maxRecDepth 100000 in
set_option maxHeartbeats 4000000 in
theorem c_X8_advance_no1 {Γ : Gm} {mo n : Nat} {F : Hp} {I : Nat → Int32} {A : Nat → Nat → Int32} {f : Nat → Int32} {x : Int32} (hx : ¬ (nI 1 ≤ x ∧ x ≤ nI 100)) : Ct Γ 8 MX8_advance 0 0 [.ref mo, .int x] (MW Γ mo F I A f) n (Rt (some (.int (nI 0))) (MW Γ mo F (upd I 2 (nI 1)) A f) n) X0 := by
  refine Ct.of (by decide +kernel) rfl (Nat.le_of_ble_eq_true rfl) ?_
  refine G.sub (lv2 := [(0, _), (1, _)]) [0, 1] rfl ?_
  refine g_iload_n 1 rfl dX8_advance_0 ?_
  refine gn_ic 1 (by decide) dX8_advance_1 ?_
  refine gn_bp 100 (by decide) dX8_advance_2 ?_
  refine gv_S (c_X8_in ) l_X8_66 rfl (Nat.le_of_ble_eq_true rfl) (Nat.le_of_ble_eq_true rfl) rfl dX8_advance_4 ?_
  refine g_if_ne (tgt := 16) (by decide) dX8_advance_7 (fun h7 => ?_) (fun h7 => ?_)
  · -- t 16
    exact absurd (bi_n0 h7) hx
  · -- f 10
    refine g_aload_n 0 rfl dX8_advance_10 ?_
    refine gn_ic 1 (by decide) dX8_advance_11 ?_
    refine gv_V (c_X8_refuse ) l_X8_216 rfl m_rcv (Nat.le_of_ble_eq_true rfl) (Nat.le_of_ble_eq_true rfl) rfl dX8_advance_12 ?_
    exact g_iret ⟨rfl, rfl, rfl⟩ rfl rfl dX8_advance_15
set_option maxRecDepth 100000 in
set_option maxHeartbeats 4000000 in
theorem c_X8_advance_no2 {Γ : Gm} {mo n : Nat} {F : Hp} {I : Nat → Int32} {A : Nat → Nat → Int32} {f : Nat → Int32} {t : Nat} (ht1 : 1 ≤ t) (ht2 : t ≤ 100) (h9 : nI 9999 < f 8 + nI t) : Ct Γ 8 MX8_advance 0 0 [.ref mo, .int (nI t)] (MW Γ mo F I A f) n (Rt (some (.int (nI 0))) (MW Γ mo F (upd I 2 (nI 2)) A f) n) X0 := by
  refine Ct.of (by decide +kernel) rfl (Nat.le_of_ble_eq_true rfl) ?_
  refine G.sub (lv2 := [(0, _), (1, _)]) [0, 1] rfl ?_
  refine g_iload_n 1 rfl dX8_advance_0 ?_
  refine gn_ic 1 (by decide) dX8_advance_1 ?_
  refine gn_bp 100 (by decide) dX8_advance_2 ?_
  refine gv_S (c_X8_in ) l_X8_66 rfl (Nat.le_of_ble_eq_true rfl) (Nat.le_of_ble_eq_true rfl) rfl dX8_advance_4 ?_
  refine g_if_ne (tgt := 16) (by decide) dX8_advance_7 (fun h7 => ?_) (fun h7 => ?_)
  · -- t 16
    refine m_get 0 rfl f_X8_19 rfl dX8_advance_16 dX8_advance_17 ?_
    refine gn_bp 8 (by decide) dX8_advance_20 ?_
    refine gn_iald MW_3 (by omega) (by decide) dX8_advance_22 ?_
    refine g_iload_n 1 rfl dX8_advance_23 ?_
    refine g_iadd dX8_advance_24 ?_
    refine gn_sp 9999 (by decide) dX8_advance_25 ?_
    refine g_icmp_le (tgt := 37) (by decide) dX8_advance_28 (fun h28 => ?_) (fun h28 => ?_)
    · -- t 37
      exact absurd h9 (Int32.not_lt.mpr h28)
    · -- f 31
      refine g_aload_n 0 rfl dX8_advance_31 ?_
      refine gn_ic 2 (by decide) dX8_advance_32 ?_
      refine gv_V (c_X8_refuse ) l_X8_216 rfl m_rcv (Nat.le_of_ble_eq_true rfl) (Nat.le_of_ble_eq_true rfl) rfl dX8_advance_33 ?_
      exact g_iret ⟨rfl, rfl, rfl⟩ rfl rfl dX8_advance_36
  · -- f 10
    exact absurd (rg_ok ht1 ht2 (by decide)) (bi_0 h7)
set_option maxRecDepth 100000 in
set_option maxHeartbeats 4000000 in
theorem c_X8_isTakenLetter {Γ : Gm} {mo n : Nat} {F : Hp} {I : Nat → Int32} {A : Nat → Nat → Int32} {f : Nat → Int32} {x c : Nat} (hc : f 7 = nI c) (hc12 : c ≤ 12) : Ct Γ 3 MX8_isTakenLetter 0 0 [.ref mo, .int (nI x)] (MW Γ mo F I A f) n (Rt (some (.int (bi (tkB f (nI x) c = true)))) (MW Γ mo F I A f) n) X0 := by
  refine Ct.of (by decide +kernel) rfl (Nat.le_of_ble_eq_true rfl) ?_
  refine G.sub (lv2 := [(0, _), (1, _)]) [0, 1] rfl ?_
  refine gn_ic 0 (by decide) dX8_isTakenLetter_0 ?_
  refine g_istore_n (lv2 := [(2, _), (0, _), (1, _)]) (by decide) rfl dX8_isTakenLetter_1 ?_
  have L2 : ∀ (m2 : Nat) (k : Nat), (k + m2 = c) → (¬ tkB f (nI x) k = true) → G Γ 3 MX8_isTakenLetter (Rt (some (.int (bi (tkB f (nI x) c = true)))) (MW Γ mo F I A f) n) X0 2 [(0, .ref mo), (1, .int (nI x)), (2, .int (nI k))] [] (MW Γ mo F I A f) n 0 0 := by
    intro m2
    induction m2 with
    | zero =>
      intro k hk hE
      refine g_iload_n 2 rfl dX8_isTakenLetter_2 ?_
      refine m_get 0 rfl f_X8_19 rfl dX8_isTakenLetter_3 dX8_isTakenLetter_4 ?_
      refine gn_bp 7 (by decide) dX8_isTakenLetter_7 ?_
      refine gn_iald MW_3 (by omega) (by decide) dX8_isTakenLetter_9 ?_
      refine g_top (y := nI c) hc ?_
      refine gn_icmp_ge (by omega) (by omega) (tgt := 46) (by decide) dX8_isTakenLetter_10 (fun cc1 => ?_) (fun cc1 => ?_)
      · -- t 46
        obtain rfl : c = k := by omega
        refine gn_ic 0 (by decide) dX8_isTakenLetter_46 ?_
        exact g_iret ⟨by rw [bi_f hE], rfl, rfl⟩ (by decide +kernel) rfl dX8_isTakenLetter_47
      · -- f 13
        exfalso; omega
    | succ m2 ih2 =>
      intro k hk hE
      refine g_iload_n 2 rfl dX8_isTakenLetter_2 ?_
      refine m_get 0 rfl f_X8_19 rfl dX8_isTakenLetter_3 dX8_isTakenLetter_4 ?_
      refine gn_bp 7 (by decide) dX8_isTakenLetter_7 ?_
      refine gn_iald MW_3 (by omega) (by decide) dX8_isTakenLetter_9 ?_
      refine g_top (y := nI c) hc ?_
      refine gn_icmp_ge (by omega) (by omega) (tgt := 46) (by decide) dX8_isTakenLetter_10 (fun cc2 => ?_) (fun cc2 => ?_)
      · -- t 46
        exfalso; omega
      · -- f 13
        refine m_get 0 rfl f_X8_19 rfl dX8_isTakenLetter_13 dX8_isTakenLetter_14 ?_
        refine g_iload_n 2 rfl dX8_isTakenLetter_17 ?_
        refine gv_S (c_X8_l ) l_X8_56 rfl (Nat.le_of_ble_eq_true rfl) (Nat.le_of_ble_eq_true rfl) rfl dX8_isTakenLetter_18 ?_
        refine gn_bp 10 (by decide) dX8_isTakenLetter_21 ?_
        refine gn_iadd dX8_isTakenLetter_23 ?_
        refine gn_iald MW_3 (by omega) (by decide) dX8_isTakenLetter_24 ?_
        refine g_iload_n 1 rfl dX8_isTakenLetter_25 ?_
        refine g_icmp_ne (tgt := 40) (by decide) dX8_isTakenLetter_26 (fun h26 => ?_) (fun h26 => ?_)
        · -- t 40
          refine gn_inc (lv2 := [(2, _), (0, _), (1, _)]) 2 rfl (by decide) rfl dX8_isTakenLetter_40 ?_
          refine g_goto (tgt := 2) (by decide) dX8_isTakenLetter_43 ?_
          refine G.sub [1, 2, 0] rfl ?_
          exact ih2 (k + 1) (by omega) (tkB_s hE (fun z => h26 z.1))
        · -- f 29
          refine g_aload_n 0 rfl dX8_isTakenLetter_29 ?_
          refine g_iload_n 2 rfl dX8_isTakenLetter_30 ?_
          refine gv_V (c_X8_lettersOf (by omega)) l_X8_255 rfl m_rcv (Nat.le_of_ble_eq_true rfl) (Nat.le_of_ble_eq_true rfl) rfl dX8_isTakenLetter_31 ?_
          refine gn_ic 1 (by decide) dX8_isTakenLetter_34 ?_
          refine gn_icmp_ne (by have := lenN_le (f := f) (k := k); omega) (by omega) (tgt := 40) (by decide) dX8_isTakenLetter_35 (fun h35 => ?_) (fun h35 => ?_)
          · -- t 40
            refine gn_inc (lv2 := [(2, _), (0, _), (1, _)]) 2 rfl (by decide) rfl dX8_isTakenLetter_40 ?_
            refine g_goto (tgt := 2) (by decide) dX8_isTakenLetter_43 ?_
            refine G.sub [1, 2, 0] rfl ?_
            exact ih2 (k + 1) (by omega) (tkB_s hE (fun z => h35 z.2))
          · -- f 38
            refine gn_ic 1 (by decide) dX8_isTakenLetter_38 ?_
            exact g_iret ⟨by rw [bi_t (tkB_i (k := k) (by omega) h26 h35)], rfl, rfl⟩ (by decide +kernel) rfl dX8_isTakenLetter_39
  refine G.sub [1, 2, 0] rfl ?_
  exact L2 c 0 (by omega) (fun z => by cases z)
set_option maxRecDepth 100000 in
set_option maxHeartbeats 4000000 in
theorem c_X8_moveIn_ok {Γ : Gm} {mo n : Nat} {F : Hp} {I : Nat → Int32} {A : Nat → Nat → Int32} {f : Nat → Int32} {φ p a c m : Nat} (hc : f 7 = nI c) (hc12 : c < 12) (hφ : φ < 5) (hp : p ≤ 999) (ha : a ≤ 99999) (hfu : ¬ cntOn f (nI φ) (-1) c = 4) (hfree : ¬ tkB f (nI (frL f c 26 97)) c = true) (hm : I 6 = nI m) (hm10 : m ≤ 10) : Ct Γ 4 MX8_moveIn 0 0 [.ref mo, .int (nI φ), .int (nI p), .int (nI a)] (MW Γ mo F I A f) n (Rt (some (.int (nI c))) (MW Γ mo F (upd (upd I 6 (nI (remM m))) 2 (nI 0)) (updA A 4 (remO (A 4) f m)) (upd (comF f (nI φ) (nI p) a c) (13 + 16 * c + 10) (nI (frL f c 26 97)))) n) X0 := by
  refine Ct.of (by decide +kernel) rfl (Nat.le_of_ble_eq_true rfl) ?_
  have hcl := cntOn_le f (nI φ) (-1) c
  have hL1 : 97 ≤ (frL f c 26 97) := frL_ge 26 97
  have hL2 : (frL f c 26 97) ≤ 123 := frL_le 26 97
  have hcm : (comF f (nI φ) (nI p) a c) 7 = nI (c + 1) := comF_7 hc
  refine G.sub (lv2 := [(0, _), (1, _), (2, _), (3, _)]) [0, 1, 2, 3] rfl ?_
  refine g_iload_n 1 rfl dX8_moveIn_0 ?_
  refine gv_S (c_X8_isFloor ) l_X8_240 rfl (Nat.le_of_ble_eq_true rfl) (Nat.le_of_ble_eq_true rfl) rfl dX8_moveIn_1 ?_
  refine g_if_eq (tgt := 29) (by decide) dX8_moveIn_4 (fun h4 => ?_) (fun h4 => ?_)
  · -- t 29
    exact absurd (rg_ok (Nat.zero_le _) (show φ ≤ 4 by omega) (by decide)) (bi_0 h4)
  · -- f 7
    refine g_iload_n 2 rfl dX8_moveIn_7 ?_
    refine gn_ic 0 (by decide) dX8_moveIn_8 ?_
    refine gn_sp 999 (by decide) dX8_moveIn_9 ?_
    refine gv_S (c_X8_in ) l_X8_66 rfl (Nat.le_of_ble_eq_true rfl) (Nat.le_of_ble_eq_true rfl) rfl dX8_moveIn_12 ?_
    refine g_if_eq (tgt := 29) (by decide) dX8_moveIn_15 (fun h15 => ?_) (fun h15 => ?_)
    · -- t 29
      exact absurd (rg_ok (Nat.zero_le _) hp (by decide)) (bi_0 h15)
    · -- f 18
      refine g_iload_n 3 rfl dX8_moveIn_18 ?_
      refine gn_ic 0 (by decide) dX8_moveIn_19 ?_
      refine gn_ldcw kc_X8_282 dX8_moveIn_20 ?_
      refine gv_S (c_X8_in ) l_X8_66 rfl (Nat.le_of_ble_eq_true rfl) (Nat.le_of_ble_eq_true rfl) rfl dX8_moveIn_23 ?_
      refine g_if_ne (tgt := 35) (by decide) dX8_moveIn_26 (fun h26 => ?_) (fun h26 => ?_)
      · -- t 35
        refine m_get 0 rfl f_X8_19 rfl dX8_moveIn_35 dX8_moveIn_36 ?_
        refine gn_bp 7 (by decide) dX8_moveIn_39 ?_
        refine gn_iald MW_3 (by omega) (by decide) dX8_moveIn_41 ?_
        refine g_top (y := nI c) hc ?_
        refine gn_bp 12 (by decide) dX8_moveIn_42 ?_
        refine gn_icmp_eq (by omega) (by omega) (tgt := 57) (by decide) dX8_moveIn_44 (fun h44 => ?_) (fun h44 => ?_)
        · -- t 57
          omega
        · -- f 47
          refine g_aload_n 0 rfl dX8_moveIn_47 ?_
          refine g_iload_n 1 rfl dX8_moveIn_48 ?_
          refine g_iconst (v := -1) dX8_moveIn_49 (by decide) ?_
          refine gv_V (c_X8_livingOn (c := c) hc (by omega)) l_X8_80 rfl m_rcv (Nat.le_of_ble_eq_true rfl) (Nat.le_of_ble_eq_true rfl) rfl dX8_moveIn_50 ?_
          refine gn_ic 4 (by decide) dX8_moveIn_53 ?_
          refine gn_icmp_ne (by omega) (by omega) (tgt := 63) (by decide) dX8_moveIn_54 (fun h54 => ?_) (fun h54 => ?_)
          · -- t 63
            have K86 : G Γ 4 MX8_moveIn (Rt (some (.int (nI c))) (MW Γ mo F (upd (upd I 6 (nI (remM m))) 2 (nI 0)) (updA A 4 (remO (A 4) f m)) (upd (comF f (nI φ) (nI p) a c) (13 + 16 * c + 10) (nI (frL f c 26 97)))) n) X0 86 [(0, .ref mo), (1, .int (nI φ)), (2, .int (nI p)), (3, .int (nI a)), (4, .int (nI (frL f c 26 97)))] [] (MW Γ mo F (upd I 6 (nI (remM m))) (updA A 4 (remO (A 4) f m)) f) n 0 0 := by
              refine g_aload_n 0 rfl dX8_moveIn_86 ?_
              refine g_iload_n 1 rfl dX8_moveIn_87 ?_
              refine g_iload_n 2 rfl dX8_moveIn_88 ?_
              refine g_iload_n 3 rfl dX8_moveIn_89 ?_
              refine gu_V (c_X8_comes (c := c) hc hc12 (by omega)) l_X8_52 rfl m_rcv (Nat.le_of_ble_eq_true rfl) (Nat.le_of_ble_eq_true rfl) rfl dX8_moveIn_90 ?_
              refine m_get 0 rfl f_X8_19 rfl dX8_moveIn_93 dX8_moveIn_94 ?_
              refine m_get 0 rfl f_X8_19 rfl dX8_moveIn_97 dX8_moveIn_98 ?_
              refine gn_bp 7 (by decide) dX8_moveIn_101 ?_
              refine gn_iald MW_3 (by omega) (by decide) dX8_moveIn_103 ?_
              refine g_top (y := nI (c + 1)) hcm ?_
              refine gn_ic 1 (by decide) dX8_moveIn_104 ?_
              refine gn_isub (by omega) dX8_moveIn_105 ?_
              refine gv_S (c_X8_l ) l_X8_56 rfl (Nat.le_of_ble_eq_true rfl) (Nat.le_of_ble_eq_true rfl) rfl dX8_moveIn_106 ?_
              refine gn_bp 10 (by decide) dX8_moveIn_109 ?_
              refine gn_iadd dX8_moveIn_111 ?_
              refine g_iload 4 rfl dX8_moveIn_112 ?_
              refine gn_iast MW_3 (by omega) (by decide) MW_s3 dX8_moveIn_114 ?_
              refine g_aload_n 0 rfl dX8_moveIn_115 ?_
              refine m_get 0 rfl f_X8_19 rfl dX8_moveIn_116 dX8_moveIn_117 ?_
              refine gn_bp 7 (by decide) dX8_moveIn_120 ?_
              refine gn_iald MW_3 (by omega) (by decide) dX8_moveIn_122 ?_
              refine g_top (y := nI (c + 1)) ((pk_un (by omega)).trans hcm) ?_
              refine gn_ic 1 (by decide) dX8_moveIn_123 ?_
              refine gn_isub (by omega) dX8_moveIn_124 ?_
              refine gv_V (c_X8_told ) l_X8_222 rfl m_rcv (Nat.le_of_ble_eq_true rfl) (Nat.le_of_ble_eq_true rfl) rfl dX8_moveIn_125 ?_
              exact g_iret ⟨by rw [Nat.add_sub_cancel], by rw [Nat.add_sub_cancel], rfl⟩ rfl rfl dX8_moveIn_128
            refine g_aload_n 0 rfl dX8_moveIn_63 ?_
            refine gu_V (c_X8_remembers (m := m) hm hm10) l_X8_279 rfl m_rcv (Nat.le_of_ble_eq_true rfl) (Nat.le_of_ble_eq_true rfl) rfl dX8_moveIn_64 ?_
            refine gn_bp 97 (by decide) dX8_moveIn_67 ?_
            refine g_istore (lv2 := [(4, _), (0, _), (1, _), (2, _), (3, _)]) (by decide) rfl dX8_moveIn_69 ?_
            have L71 : ∀ (m71 : Nat) (x : Nat), (x + m71 = 123) → (frL f c m71 x = (frL f c 26 97)) → G Γ 4 MX8_moveIn (Rt (some (.int (nI c))) (MW Γ mo F (upd (upd I 6 (nI (remM m))) 2 (nI 0)) (updA A 4 (remO (A 4) f m)) (upd (comF f (nI φ) (nI p) a c) (13 + 16 * c + 10) (nI (frL f c 26 97)))) n) X0 71 [(0, .ref mo), (1, .int (nI φ)), (2, .int (nI p)), (3, .int (nI a)), (4, .int (nI x))] [] (MW Γ mo F (upd I 6 (nI (remM m))) (updA A 4 (remO (A 4) f m)) f) n 0 0 := by
              intro m71
              induction m71 with
              | zero =>
                intro x hx hE
                refine g_aload_n 0 rfl dX8_moveIn_71 ?_
                refine g_iload 4 rfl dX8_moveIn_72 ?_
                refine gv_V (c_X8_isTakenLetter (c := c) hc (by omega)) l_X8_283 rfl m_rcv (Nat.le_of_ble_eq_true rfl) (Nat.le_of_ble_eq_true rfl) rfl dX8_moveIn_74 ?_
                refine g_if_eq (tgt := 86) (by decide) dX8_moveIn_77 (fun h77 => ?_) (fun h77 => ?_)
                · -- t 86
                  obtain rfl : x = (frL f c 26 97) := (frL_f (m := 0) (bi_0 h77)).symm.trans hE
                  refine G.sub [0, 1, 2, 3, 4] rfl ?_
                  exact K86
                · -- f 80
                  exact absurd (bi_n0 h77) (by rw [show x = (frL f c 26 97) from hE]; exact hfree)
              | succ m71 ih71 =>
                intro x hx hE
                refine g_aload_n 0 rfl dX8_moveIn_71 ?_
                refine g_iload 4 rfl dX8_moveIn_72 ?_
                refine gv_V (c_X8_isTakenLetter (c := c) hc (by omega)) l_X8_283 rfl m_rcv (Nat.le_of_ble_eq_true rfl) (Nat.le_of_ble_eq_true rfl) rfl dX8_moveIn_74 ?_
                refine g_if_eq (tgt := 86) (by decide) dX8_moveIn_77 (fun h77 => ?_) (fun h77 => ?_)
                · -- t 86
                  obtain rfl : x = (frL f c 26 97) := (frL_f (m := m71 + 1) (bi_0 h77)).symm.trans hE
                  refine G.sub [0, 1, 2, 3, 4] rfl ?_
                  exact K86
                · -- f 80
                  refine gn_inc (lv2 := [(4, _), (0, _), (1, _), (2, _), (3, _)]) 4 rfl (by decide) rfl dX8_moveIn_80 ?_
                  refine g_goto (tgt := 71) (by decide) dX8_moveIn_83 ?_
                  refine G.sub [1, 2, 3, 4, 0] rfl ?_
                  exact ih71 (x + 1) (by omega) ((frL_t (bi_n0 h77)).symm.trans hE)
            refine G.sub [1, 2, 3, 4, 0] rfl ?_
            exact L71 26 97 rfl rfl
          · -- f 57
            exact absurd h54 hfu
      · -- f 29
        exact absurd (rg_ok (Nat.zero_le _) ha (by decide)) (bi_0 h26)
set_option maxRecDepth 100000 in
set_option maxHeartbeats 4000000 in
theorem c_X8_moveIn_no1 {Γ : Gm} {mo n : Nat} {F : Hp} {I : Nat → Int32} {A : Nat → Nat → Int32} {f : Nat → Int32} {x y z : Int32} (hx : ¬ (nI 0 ≤ x ∧ x ≤ nI 4)) : Ct Γ 4 MX8_moveIn 0 0 [.ref mo, .int x, .int y, .int z] (MW Γ mo F I A f) n (Rt (some (.int (nI 0))) (MW Γ mo F (upd I 2 (nI 1)) A f) n) X0 := by
  refine Ct.of (by decide +kernel) rfl (Nat.le_of_ble_eq_true rfl) ?_
  refine G.sub (lv2 := [(0, _), (1, _), (2, _), (3, _)]) [0, 1, 2, 3] rfl ?_
  refine g_iload_n 1 rfl dX8_moveIn_0 ?_
  refine gv_S (c_X8_isFloor ) l_X8_240 rfl (Nat.le_of_ble_eq_true rfl) (Nat.le_of_ble_eq_true rfl) rfl dX8_moveIn_1 ?_
  refine g_if_eq (tgt := 29) (by decide) dX8_moveIn_4 (fun h4 => ?_) (fun h4 => ?_)
  · -- t 29
    refine g_aload_n 0 rfl dX8_moveIn_29 ?_
    refine gn_ic 1 (by decide) dX8_moveIn_30 ?_
    refine gv_V (c_X8_refuse ) l_X8_216 rfl m_rcv (Nat.le_of_ble_eq_true rfl) (Nat.le_of_ble_eq_true rfl) rfl dX8_moveIn_31 ?_
    exact g_iret ⟨rfl, rfl, rfl⟩ rfl rfl dX8_moveIn_34
  · -- f 7
    exact absurd (bi_n0 h4) hx
set_option maxRecDepth 100000 in
set_option maxHeartbeats 4000000 in
theorem c_X8_moveIn_no2 {Γ : Gm} {mo n : Nat} {F : Hp} {I : Nat → Int32} {A : Nat → Nat → Int32} {f : Nat → Int32} {φ : Nat} {y z : Int32} (hφ : φ < 5) (hy : ¬ (nI 0 ≤ y ∧ y ≤ nI 999)) : Ct Γ 4 MX8_moveIn 0 0 [.ref mo, .int (nI φ), .int y, .int z] (MW Γ mo F I A f) n (Rt (some (.int (nI 0))) (MW Γ mo F (upd I 2 (nI 1)) A f) n) X0 := by
  refine Ct.of (by decide +kernel) rfl (Nat.le_of_ble_eq_true rfl) ?_
  refine G.sub (lv2 := [(0, _), (1, _), (2, _), (3, _)]) [0, 1, 2, 3] rfl ?_
  refine g_iload_n 1 rfl dX8_moveIn_0 ?_
  refine gv_S (c_X8_isFloor ) l_X8_240 rfl (Nat.le_of_ble_eq_true rfl) (Nat.le_of_ble_eq_true rfl) rfl dX8_moveIn_1 ?_
  refine g_if_eq (tgt := 29) (by decide) dX8_moveIn_4 (fun h4 => ?_) (fun h4 => ?_)
  · -- t 29
    exact absurd (rg_ok (Nat.zero_le _) (show φ ≤ 4 by omega) (by decide)) (bi_0 h4)
  · -- f 7
    refine g_iload_n 2 rfl dX8_moveIn_7 ?_
    refine gn_ic 0 (by decide) dX8_moveIn_8 ?_
    refine gn_sp 999 (by decide) dX8_moveIn_9 ?_
    refine gv_S (c_X8_in ) l_X8_66 rfl (Nat.le_of_ble_eq_true rfl) (Nat.le_of_ble_eq_true rfl) rfl dX8_moveIn_12 ?_
    refine g_if_eq (tgt := 29) (by decide) dX8_moveIn_15 (fun h15 => ?_) (fun h15 => ?_)
    · -- t 29
      refine g_aload_n 0 rfl dX8_moveIn_29 ?_
      refine gn_ic 1 (by decide) dX8_moveIn_30 ?_
      refine gv_V (c_X8_refuse ) l_X8_216 rfl m_rcv (Nat.le_of_ble_eq_true rfl) (Nat.le_of_ble_eq_true rfl) rfl dX8_moveIn_31 ?_
      exact g_iret ⟨rfl, rfl, rfl⟩ rfl rfl dX8_moveIn_34
    · -- f 18
      exact absurd (bi_n0 h15) hy
set_option maxRecDepth 100000 in
set_option maxHeartbeats 4000000 in
theorem c_X8_moveIn_no3 {Γ : Gm} {mo n : Nat} {F : Hp} {I : Nat → Int32} {A : Nat → Nat → Int32} {f : Nat → Int32} {φ p : Nat} {y : Int32} (hφ : φ < 5) (hp : p ≤ 999) (hy : ¬ (nI 0 ≤ y ∧ y ≤ nI 99999)) : Ct Γ 4 MX8_moveIn 0 0 [.ref mo, .int (nI φ), .int (nI p), .int y] (MW Γ mo F I A f) n (Rt (some (.int (nI 0))) (MW Γ mo F (upd I 2 (nI 1)) A f) n) X0 := by
  refine Ct.of (by decide +kernel) rfl (Nat.le_of_ble_eq_true rfl) ?_
  refine G.sub (lv2 := [(0, _), (1, _), (2, _), (3, _)]) [0, 1, 2, 3] rfl ?_
  refine g_iload_n 1 rfl dX8_moveIn_0 ?_
  refine gv_S (c_X8_isFloor ) l_X8_240 rfl (Nat.le_of_ble_eq_true rfl) (Nat.le_of_ble_eq_true rfl) rfl dX8_moveIn_1 ?_
  refine g_if_eq (tgt := 29) (by decide) dX8_moveIn_4 (fun h4 => ?_) (fun h4 => ?_)
  · -- t 29
    exact absurd (rg_ok (Nat.zero_le _) (show φ ≤ 4 by omega) (by decide)) (bi_0 h4)
  · -- f 7
    refine g_iload_n 2 rfl dX8_moveIn_7 ?_
    refine gn_ic 0 (by decide) dX8_moveIn_8 ?_
    refine gn_sp 999 (by decide) dX8_moveIn_9 ?_
    refine gv_S (c_X8_in ) l_X8_66 rfl (Nat.le_of_ble_eq_true rfl) (Nat.le_of_ble_eq_true rfl) rfl dX8_moveIn_12 ?_
    refine g_if_eq (tgt := 29) (by decide) dX8_moveIn_15 (fun h15 => ?_) (fun h15 => ?_)
    · -- t 29
      exact absurd (rg_ok (Nat.zero_le _) hp (by decide)) (bi_0 h15)
    · -- f 18
      refine g_iload_n 3 rfl dX8_moveIn_18 ?_
      refine gn_ic 0 (by decide) dX8_moveIn_19 ?_
      refine gn_ldcw kc_X8_282 dX8_moveIn_20 ?_
      refine gv_S (c_X8_in ) l_X8_66 rfl (Nat.le_of_ble_eq_true rfl) (Nat.le_of_ble_eq_true rfl) rfl dX8_moveIn_23 ?_
      refine g_if_ne (tgt := 35) (by decide) dX8_moveIn_26 (fun h26 => ?_) (fun h26 => ?_)
      · -- t 35
        exact absurd (bi_n0 h26) hy
      · -- f 29
        refine g_aload_n 0 rfl dX8_moveIn_29 ?_
        refine gn_ic 1 (by decide) dX8_moveIn_30 ?_
        refine gv_V (c_X8_refuse ) l_X8_216 rfl m_rcv (Nat.le_of_ble_eq_true rfl) (Nat.le_of_ble_eq_true rfl) rfl dX8_moveIn_31 ?_
        exact g_iret ⟨rfl, rfl, rfl⟩ rfl rfl dX8_moveIn_34
set_option maxRecDepth 100000 in
set_option maxHeartbeats 4000000 in
theorem c_X8_moveIn_no4 {Γ : Gm} {mo n : Nat} {F : Hp} {I : Nat → Int32} {A : Nat → Nat → Int32} {f : Nat → Int32} {φ p a c : Nat} (hc : f 7 = nI c) (hc12 : c ≤ 12) (hφ : φ < 5) (hp : p ≤ 999) (ha : a ≤ 99999) (hfu : c = 12 ∨ cntOn f (nI φ) (-1) c = 4) : Ct Γ 4 MX8_moveIn 0 0 [.ref mo, .int (nI φ), .int (nI p), .int (nI a)] (MW Γ mo F I A f) n (Rt (some (.int (nI 0))) (MW Γ mo F (upd I 2 (nI 2)) A f) n) X0 := by
  refine Ct.of (by decide +kernel) rfl (Nat.le_of_ble_eq_true rfl) ?_
  have hcl := cntOn_le f (nI φ) (-1) c
  refine G.sub (lv2 := [(0, _), (1, _), (2, _), (3, _)]) [0, 1, 2, 3] rfl ?_
  refine g_iload_n 1 rfl dX8_moveIn_0 ?_
  refine gv_S (c_X8_isFloor ) l_X8_240 rfl (Nat.le_of_ble_eq_true rfl) (Nat.le_of_ble_eq_true rfl) rfl dX8_moveIn_1 ?_
  refine g_if_eq (tgt := 29) (by decide) dX8_moveIn_4 (fun h4 => ?_) (fun h4 => ?_)
  · -- t 29
    exact absurd (rg_ok (Nat.zero_le _) (show φ ≤ 4 by omega) (by decide)) (bi_0 h4)
  · -- f 7
    refine g_iload_n 2 rfl dX8_moveIn_7 ?_
    refine gn_ic 0 (by decide) dX8_moveIn_8 ?_
    refine gn_sp 999 (by decide) dX8_moveIn_9 ?_
    refine gv_S (c_X8_in ) l_X8_66 rfl (Nat.le_of_ble_eq_true rfl) (Nat.le_of_ble_eq_true rfl) rfl dX8_moveIn_12 ?_
    refine g_if_eq (tgt := 29) (by decide) dX8_moveIn_15 (fun h15 => ?_) (fun h15 => ?_)
    · -- t 29
      exact absurd (rg_ok (Nat.zero_le _) hp (by decide)) (bi_0 h15)
    · -- f 18
      refine g_iload_n 3 rfl dX8_moveIn_18 ?_
      refine gn_ic 0 (by decide) dX8_moveIn_19 ?_
      refine gn_ldcw kc_X8_282 dX8_moveIn_20 ?_
      refine gv_S (c_X8_in ) l_X8_66 rfl (Nat.le_of_ble_eq_true rfl) (Nat.le_of_ble_eq_true rfl) rfl dX8_moveIn_23 ?_
      refine g_if_ne (tgt := 35) (by decide) dX8_moveIn_26 (fun h26 => ?_) (fun h26 => ?_)
      · -- t 35
        refine m_get 0 rfl f_X8_19 rfl dX8_moveIn_35 dX8_moveIn_36 ?_
        refine gn_bp 7 (by decide) dX8_moveIn_39 ?_
        refine gn_iald MW_3 (by omega) (by decide) dX8_moveIn_41 ?_
        refine g_top (y := nI c) hc ?_
        refine gn_bp 12 (by decide) dX8_moveIn_42 ?_
        refine gn_icmp_eq (by omega) (by omega) (tgt := 57) (by decide) dX8_moveIn_44 (fun h44 => ?_) (fun h44 => ?_)
        · -- t 57
          refine g_aload_n 0 rfl dX8_moveIn_57 ?_
          refine gn_ic 2 (by decide) dX8_moveIn_58 ?_
          refine gv_V (c_X8_refuse ) l_X8_216 rfl m_rcv (Nat.le_of_ble_eq_true rfl) (Nat.le_of_ble_eq_true rfl) rfl dX8_moveIn_59 ?_
          exact g_iret ⟨rfl, rfl, rfl⟩ rfl rfl dX8_moveIn_62
        · -- f 47
          refine g_aload_n 0 rfl dX8_moveIn_47 ?_
          refine g_iload_n 1 rfl dX8_moveIn_48 ?_
          refine g_iconst (v := -1) dX8_moveIn_49 (by decide) ?_
          refine gv_V (c_X8_livingOn (c := c) hc (by omega)) l_X8_80 rfl m_rcv (Nat.le_of_ble_eq_true rfl) (Nat.le_of_ble_eq_true rfl) rfl dX8_moveIn_50 ?_
          refine gn_ic 4 (by decide) dX8_moveIn_53 ?_
          refine gn_icmp_ne (by omega) (by omega) (tgt := 63) (by decide) dX8_moveIn_54 (fun h54 => ?_) (fun h54 => ?_)
          · -- t 63
            exact absurd hfu (fun z => z.elim h44 h54)
          · -- f 57
            refine g_aload_n 0 rfl dX8_moveIn_57 ?_
            refine gn_ic 2 (by decide) dX8_moveIn_58 ?_
            refine gv_V (c_X8_refuse ) l_X8_216 rfl m_rcv (Nat.le_of_ble_eq_true rfl) (Nat.le_of_ble_eq_true rfl) rfl dX8_moveIn_59 ?_
            exact g_iret ⟨rfl, rfl, rfl⟩ rfl rfl dX8_moveIn_62
      · -- f 29
        exact absurd (rg_ok (Nat.zero_le _) ha (by decide)) (bi_0 h26)
set_option maxRecDepth 100000 in
set_option maxHeartbeats 4000000 in
theorem c_X8_moveOut_ok {Γ : Gm} {mo n : Nat} {F : Hp} {I : Nat → Int32} {A : Nat → Nat → Int32} {f : Nat → Int32} {k c m : Nat} (hc : f 7 = nI c) (hc12 : c ≤ 12) (hk : k < c) (hm : I 6 = nI m) (hm10 : m ≤ 10) (h11 : I 11 = -1) : Ct Γ 3 MX8_moveOut 0 0 [.ref mo, .int (nI k)] (MW Γ mo F I A f) n (Rt (some (.int (f (13 + 16 * k + 1)))) (MW Γ mo F (upd (upd I 6 (nI (remM m))) 2 (nI 0)) (updA A 4 (remO (A 4) f m)) (gonF f k c)) n) X0 := by
  refine Ct.of (by decide +kernel) rfl (Nat.le_of_ble_eq_true rfl) ?_
  refine G.sub (lv2 := [(0, _), (1, _)]) [0, 1] rfl ?_
  refine g_aload_n 0 rfl dX8_moveOut_0 ?_
  refine g_iload_n 1 rfl dX8_moveOut_1 ?_
  refine gv_V (c_X8_isLodger hc) l_X8_249 rfl m_rcv (Nat.le_of_ble_eq_true rfl) (Nat.le_of_ble_eq_true rfl) rfl dX8_moveOut_2 ?_
  refine g_if_ne (tgt := 14) (by decide) dX8_moveOut_5 (fun h5 => ?_) (fun h5 => ?_)
  · -- t 14
    refine g_aload_n 0 rfl dX8_moveOut_14 ?_
    refine gu_V (c_X8_remembers (m := m) hm hm10) l_X8_279 rfl m_rcv (Nat.le_of_ble_eq_true rfl) (Nat.le_of_ble_eq_true rfl) rfl dX8_moveOut_15 ?_
    refine m_get 0 rfl f_X8_19 rfl dX8_moveOut_18 dX8_moveOut_19 ?_
    refine g_iload_n 1 rfl dX8_moveOut_22 ?_
    refine gv_S (c_X8_l ) l_X8_56 rfl (Nat.le_of_ble_eq_true rfl) (Nat.le_of_ble_eq_true rfl) rfl dX8_moveOut_23 ?_
    refine gn_ic 1 (by decide) dX8_moveOut_26 ?_
    refine gn_iadd dX8_moveOut_27 ?_
    refine gn_iald MW_3 (by omega) (by decide) dX8_moveOut_28 ?_
    refine g_istore_n (lv2 := [(2, _), (0, _), (1, _)]) (by decide) rfl dX8_moveOut_29 ?_
    refine g_aload_n 1 rfl dX8_moveOut_30 ?_
    refine g_iload_n 2 rfl dX8_moveOut_31 ?_
    refine gu_V (c_X8_goes (c := c) hc hc12 hk) l_X8_108 rfl m_rcv (Nat.le_of_ble_eq_true rfl) (Nat.le_of_ble_eq_true rfl) rfl dX8_moveOut_32 ?_
    rw [trkF_n (I := (upd I 6 (nI (remM m)))) ((pk_un (by decide)).trans h11) (by omega)]
    refine g_aload_n 1 rfl dX8_moveOut_35 ?_
    refine g_iload_n 0 rfl dX8_moveOut_36 ?_
    refine gv_V (c_X8_told ) l_X8_222 rfl m_rcv (Nat.le_of_ble_eq_true rfl) (Nat.le_of_ble_eq_true rfl) rfl dX8_moveOut_37 ?_
    exact g_iret ⟨rfl, rfl, rfl⟩ rfl rfl dX8_moveOut_40
  · -- f 8
    exact absurd (lod_ok hk hc12) (bi_0 h5)
set_option maxRecDepth 100000 in
set_option maxHeartbeats 4000000 in
theorem c_X8_moveOut_no {Γ : Gm} {mo n : Nat} {F : Hp} {I : Nat → Int32} {A : Nat → Nat → Int32} {f : Nat → Int32} {x : Int32} {c : Nat}  (hc : f 7 = nI c) (hc12 : c ≤ 12) (hx : ¬ (nI 0 ≤ x ∧ x ≤ nI c - nI 1)) : Ct Γ 3 MX8_moveOut 0 0 [.ref mo, .int x] (MW Γ mo F I A f) n (Rt (some (.int (nI 0))) (MW Γ mo F (upd I 2 (nI 1)) A f) n) X0 := by
  refine Ct.of (by decide +kernel) rfl (Nat.le_of_ble_eq_true rfl) ?_
  refine G.sub (lv2 := [(0, _), (1, _)]) [0, 1] rfl ?_
  refine g_aload_n 0 rfl dX8_moveOut_0 ?_
  refine g_iload_n 1 rfl dX8_moveOut_1 ?_
  refine gv_V (c_X8_isLodger hc) l_X8_249 rfl m_rcv (Nat.le_of_ble_eq_true rfl) (Nat.le_of_ble_eq_true rfl) rfl dX8_moveOut_2 ?_
  refine g_if_ne (tgt := 14) (by decide) dX8_moveOut_5 (fun h5 => ?_) (fun h5 => ?_)
  · -- t 14
    exact absurd (bi_n0 h5) hx
  · -- f 8
    refine g_aload_n 0 rfl dX8_moveOut_8 ?_
    refine gn_ic 1 (by decide) dX8_moveOut_9 ?_
    refine gv_V (c_X8_refuse ) l_X8_216 rfl m_rcv (Nat.le_of_ble_eq_true rfl) (Nat.le_of_ble_eq_true rfl) rfl dX8_moveOut_10 ?_
    exact g_iret ⟨rfl, rfl, rfl⟩ (by decide +kernel) rfl dX8_moveOut_13
set_option maxRecDepth 100000 in
set_option maxHeartbeats 4000000 in
theorem c_X8_moveTo_ok {Γ : Gm} {mo n : Nat} {F : Hp} {I : Nat → Int32} {A : Nat → Nat → Int32} {f : Nat → Int32} {k c φ m : Nat} (hc : f 7 = nI c) (hc12 : c ≤ 12) (hk : k < c) (hφ : φ < 5) (h4 : ¬ cntOn f (nI φ) (nI k) c = 4) (hm : I 6 = nI m) (hm10 : m ≤ 10) : Ct Γ 3 MX8_moveTo 0 0 [.ref mo, .int (nI k), .int (nI φ)] (MW Γ mo F I A f) n (Rt (some (.int (f (13 + 16 * k)))) (MW Γ mo F (upd (upd I 6 (nI (remM m))) 2 (nI 0)) (updA A 4 (remO (A 4) f m)) (upd f (13 + 16 * k) (nI φ))) n) X0 := by
  refine Ct.of (by decide +kernel) rfl (Nat.le_of_ble_eq_true rfl) ?_
  have hcl := cntOn_le f (nI φ) (nI k) c
  refine G.sub (lv2 := [(0, _), (1, _), (2, _)]) [0, 1, 2] rfl ?_
  refine g_aload_n 0 rfl dX8_moveTo_0 ?_
  refine g_iload_n 1 rfl dX8_moveTo_1 ?_
  refine gv_V (c_X8_isLodger hc) l_X8_249 rfl m_rcv (Nat.le_of_ble_eq_true rfl) (Nat.le_of_ble_eq_true rfl) rfl dX8_moveTo_2 ?_
  refine g_if_ne (tgt := 14) (by decide) dX8_moveTo_5 (fun h5 => ?_) (fun h5 => ?_)
  · -- t 14
    refine g_iload_n 2 rfl dX8_moveTo_14 ?_
    refine gv_S (c_X8_isFloor ) l_X8_240 rfl (Nat.le_of_ble_eq_true rfl) (Nat.le_of_ble_eq_true rfl) rfl dX8_moveTo_15 ?_
    refine g_if_ne (tgt := 27) (by decide) dX8_moveTo_18 (fun h18 => ?_) (fun h18 => ?_)
    · -- t 27
      refine g_aload_n 0 rfl dX8_moveTo_27 ?_
      refine g_iload_n 2 rfl dX8_moveTo_28 ?_
      refine g_iload_n 1 rfl dX8_moveTo_29 ?_
      refine gv_V (c_X8_livingOn (c := c) hc hc12) l_X8_80 rfl m_rcv (Nat.le_of_ble_eq_true rfl) (Nat.le_of_ble_eq_true rfl) rfl dX8_moveTo_30 ?_
      refine gn_ic 4 (by decide) dX8_moveTo_33 ?_
      refine gn_icmp_ne (by omega) (by omega) (tgt := 43) (by decide) dX8_moveTo_34 (fun h34 => ?_) (fun h34 => ?_)
      · -- t 43
        refine g_aload_n 0 rfl dX8_moveTo_43 ?_
        refine g_aload_n 0 rfl dX8_moveTo_44 ?_
        refine g_iload_n 1 rfl dX8_moveTo_45 ?_
        refine gv_S (c_X8_l ) l_X8_56 rfl (Nat.le_of_ble_eq_true rfl) (Nat.le_of_ble_eq_true rfl) rfl dX8_moveTo_46 ?_
        refine gn_ic 0 (by decide) dX8_moveTo_49 ?_
        refine gn_iadd0 dX8_moveTo_50 ?_
        refine g_iload_n 2 rfl dX8_moveTo_51 ?_
        refine gv_V (c_X8_sets (p := 13 + 16 * k) (m := m) hm hm10 (by omega)) l_X8_286 rfl m_rcv (Nat.le_of_ble_eq_true rfl) (Nat.le_of_ble_eq_true rfl) rfl dX8_moveTo_52 ?_
        refine gv_V (c_X8_told ) l_X8_222 rfl m_rcv (Nat.le_of_ble_eq_true rfl) (Nat.le_of_ble_eq_true rfl) rfl dX8_moveTo_55 ?_
        exact g_iret ⟨rfl, rfl, rfl⟩ rfl rfl dX8_moveTo_58
      · -- f 37
        exact absurd h34 h4
    · -- f 21
      exact absurd (rg_ok (Nat.zero_le _) (show φ ≤ 4 by omega) (by decide)) (bi_0 h18)
  · -- f 8
    exact absurd (lod_ok hk hc12) (bi_0 h5)
set_option maxRecDepth 100000 in
set_option maxHeartbeats 4000000 in
theorem c_X8_moveTo_no {Γ : Gm} {mo n : Nat} {F : Hp} {I : Nat → Int32} {A : Nat → Nat → Int32} {f : Nat → Int32} {x : Int32} {c : Nat} {y : Int32} (hc : f 7 = nI c) (hc12 : c ≤ 12) (hx : ¬ (nI 0 ≤ x ∧ x ≤ nI c - nI 1)) : Ct Γ 3 MX8_moveTo 0 0 [.ref mo, .int x, .int y] (MW Γ mo F I A f) n (Rt (some (.int (nI 0))) (MW Γ mo F (upd I 2 (nI 1)) A f) n) X0 := by
  refine Ct.of (by decide +kernel) rfl (Nat.le_of_ble_eq_true rfl) ?_
  refine G.sub (lv2 := [(0, _), (1, _), (2, _)]) [0, 1, 2] rfl ?_
  refine g_aload_n 0 rfl dX8_moveTo_0 ?_
  refine g_iload_n 1 rfl dX8_moveTo_1 ?_
  refine gv_V (c_X8_isLodger hc) l_X8_249 rfl m_rcv (Nat.le_of_ble_eq_true rfl) (Nat.le_of_ble_eq_true rfl) rfl dX8_moveTo_2 ?_
  refine g_if_ne (tgt := 14) (by decide) dX8_moveTo_5 (fun h5 => ?_) (fun h5 => ?_)
  · -- t 14
    exact absurd (bi_n0 h5) hx
  · -- f 8
    refine g_aload_n 0 rfl dX8_moveTo_8 ?_
    refine gn_ic 1 (by decide) dX8_moveTo_9 ?_
    refine gv_V (c_X8_refuse ) l_X8_216 rfl m_rcv (Nat.le_of_ble_eq_true rfl) (Nat.le_of_ble_eq_true rfl) rfl dX8_moveTo_10 ?_
    exact g_iret ⟨rfl, rfl, rfl⟩ (by decide +kernel) rfl dX8_moveTo_13
set_option maxRecDepth 100000 in
set_option maxHeartbeats 4000000 in
theorem c_X8_moveTo_no2 {Γ : Gm} {mo n : Nat} {F : Hp} {I : Nat → Int32} {A : Nat → Nat → Int32} {f : Nat → Int32} {k c : Nat} {y : Int32} (hc : f 7 = nI c) (hc12 : c ≤ 12) (hk : k < c) (hy : ¬ (nI 0 ≤ y ∧ y ≤ nI 4)) : Ct Γ 3 MX8_moveTo 0 0 [.ref mo, .int (nI k), .int y] (MW Γ mo F I A f) n (Rt (some (.int (nI 0))) (MW Γ mo F (upd I 2 (nI 2)) A f) n) X0 := by
  refine Ct.of (by decide +kernel) rfl (Nat.le_of_ble_eq_true rfl) ?_
  refine G.sub (lv2 := [(0, _), (1, _), (2, _)]) [0, 1, 2] rfl ?_
  refine g_aload_n 0 rfl dX8_moveTo_0 ?_
  refine g_iload_n 1 rfl dX8_moveTo_1 ?_
  refine gv_V (c_X8_isLodger hc) l_X8_249 rfl m_rcv (Nat.le_of_ble_eq_true rfl) (Nat.le_of_ble_eq_true rfl) rfl dX8_moveTo_2 ?_
  refine g_if_ne (tgt := 14) (by decide) dX8_moveTo_5 (fun h5 => ?_) (fun h5 => ?_)
  · -- t 14
    refine g_iload_n 2 rfl dX8_moveTo_14 ?_
    refine gv_S (c_X8_isFloor ) l_X8_240 rfl (Nat.le_of_ble_eq_true rfl) (Nat.le_of_ble_eq_true rfl) rfl dX8_moveTo_15 ?_
    refine g_if_ne (tgt := 27) (by decide) dX8_moveTo_18 (fun h18 => ?_) (fun h18 => ?_)
    · -- t 27
      exact absurd (bi_n0 h18) hy
    · -- f 21
      refine g_aload_n 0 rfl dX8_moveTo_21 ?_
      refine gn_ic 2 (by decide) dX8_moveTo_22 ?_
      refine gv_V (c_X8_refuse ) l_X8_216 rfl m_rcv (Nat.le_of_ble_eq_true rfl) (Nat.le_of_ble_eq_true rfl) rfl dX8_moveTo_23 ?_
      exact g_iret ⟨rfl, rfl, rfl⟩ rfl rfl dX8_moveTo_26
  · -- f 8
    exact absurd (lod_ok hk hc12) (bi_0 h5)
set_option maxRecDepth 100000 in
set_option maxHeartbeats 4000000 in
theorem c_X8_moveTo_no3 {Γ : Gm} {mo n : Nat} {F : Hp} {I : Nat → Int32} {A : Nat → Nat → Int32} {f : Nat → Int32} {k c φ : Nat} (hc : f 7 = nI c) (hc12 : c ≤ 12) (hk : k < c) (hφ : φ < 5) (h4 : cntOn f (nI φ) (nI k) c = 4) : Ct Γ 3 MX8_moveTo 0 0 [.ref mo, .int (nI k), .int (nI φ)] (MW Γ mo F I A f) n (Rt (some (.int (nI 0))) (MW Γ mo F (upd I 2 (nI 3)) A f) n) X0 := by
  refine Ct.of (by decide +kernel) rfl (Nat.le_of_ble_eq_true rfl) ?_
  have hcl := cntOn_le f (nI φ) (nI k) c
  refine G.sub (lv2 := [(0, _), (1, _), (2, _)]) [0, 1, 2] rfl ?_
  refine g_aload_n 0 rfl dX8_moveTo_0 ?_
  refine g_iload_n 1 rfl dX8_moveTo_1 ?_
  refine gv_V (c_X8_isLodger hc) l_X8_249 rfl m_rcv (Nat.le_of_ble_eq_true rfl) (Nat.le_of_ble_eq_true rfl) rfl dX8_moveTo_2 ?_
  refine g_if_ne (tgt := 14) (by decide) dX8_moveTo_5 (fun h5 => ?_) (fun h5 => ?_)
  · -- t 14
    refine g_iload_n 2 rfl dX8_moveTo_14 ?_
    refine gv_S (c_X8_isFloor ) l_X8_240 rfl (Nat.le_of_ble_eq_true rfl) (Nat.le_of_ble_eq_true rfl) rfl dX8_moveTo_15 ?_
    refine g_if_ne (tgt := 27) (by decide) dX8_moveTo_18 (fun h18 => ?_) (fun h18 => ?_)
    · -- t 27
      refine g_aload_n 0 rfl dX8_moveTo_27 ?_
      refine g_iload_n 2 rfl dX8_moveTo_28 ?_
      refine g_iload_n 1 rfl dX8_moveTo_29 ?_
      refine gv_V (c_X8_livingOn (c := c) hc hc12) l_X8_80 rfl m_rcv (Nat.le_of_ble_eq_true rfl) (Nat.le_of_ble_eq_true rfl) rfl dX8_moveTo_30 ?_
      refine gn_ic 4 (by decide) dX8_moveTo_33 ?_
      refine gn_icmp_ne (by omega) (by omega) (tgt := 43) (by decide) dX8_moveTo_34 (fun h34 => ?_) (fun h34 => ?_)
      · -- t 43
        exact absurd h4 h34
      · -- f 37
        refine g_aload_n 0 rfl dX8_moveTo_37 ?_
        refine gn_ic 3 (by decide) dX8_moveTo_38 ?_
        refine gv_V (c_X8_refuse ) l_X8_216 rfl m_rcv (Nat.le_of_ble_eq_true rfl) (Nat.le_of_ble_eq_true rfl) rfl dX8_moveTo_39 ?_
        exact g_iret ⟨rfl, rfl, rfl⟩ rfl rfl dX8_moveTo_42
    · -- f 21
      exact absurd (rg_ok (Nat.zero_le _) (show φ ≤ 4 by omega) (by decide)) (bi_0 h18)
  · -- f 8
    exact absurd (lod_ok hk hc12) (bi_0 h5)
set_option maxRecDepth 100000 in
set_option maxHeartbeats 4000000 in
theorem c_X8_pay_ok {Γ : Gm} {mo n : Nat} {F : Hp} {I : Nat → Int32} {A : Nat → Nat → Int32} {f : Nat → Int32} {k c p m : Nat} (hc : f 7 = nI c) (hc12 : c ≤ 12) (hk : k < c) (hp1 : 1 ≤ p) (hp : p ≤ 999) (hm : I 6 = nI m) (hm10 : m ≤ 10) : Ct Γ 3 MX8_pay 0 0 [.ref mo, .int (nI k), .int (nI p)] (MW Γ mo F I A f) n (Rt (some (.int (payF f k (nI p) (13 + 16 * k + 1)))) (MW Γ mo F (upd (upd I 6 (nI (remM m))) 2 (nI 0)) (updA A 4 (remO (A 4) f m)) (payF f k (nI p))) n) X0 := by
  refine Ct.of (by decide +kernel) rfl (Nat.le_of_ble_eq_true rfl) ?_
  refine G.sub (lv2 := [(0, _), (1, _), (2, _)]) [0, 1, 2] rfl ?_
  refine g_aload_n 0 rfl dX8_pay_0 ?_
  refine g_iload_n 1 rfl dX8_pay_1 ?_
  refine gv_V (c_X8_isLodger hc) l_X8_249 rfl m_rcv (Nat.le_of_ble_eq_true rfl) (Nat.le_of_ble_eq_true rfl) rfl dX8_pay_2 ?_
  refine g_if_ne (tgt := 14) (by decide) dX8_pay_5 (fun h5 => ?_) (fun h5 => ?_)
  · -- t 14
    refine g_iload_n 2 rfl dX8_pay_14 ?_
    refine gn_ic 1 (by decide) dX8_pay_15 ?_
    refine gn_sp 999 (by decide) dX8_pay_16 ?_
    refine gv_S (c_X8_in ) l_X8_66 rfl (Nat.le_of_ble_eq_true rfl) (Nat.le_of_ble_eq_true rfl) rfl dX8_pay_19 ?_
    refine g_if_ne (tgt := 31) (by decide) dX8_pay_22 (fun h22 => ?_) (fun h22 => ?_)
    · -- t 31
      refine g_aload_n 0 rfl dX8_pay_31 ?_
      refine gu_V (c_X8_remembers (m := m) hm hm10) l_X8_279 rfl m_rcv (Nat.le_of_ble_eq_true rfl) (Nat.le_of_ble_eq_true rfl) rfl dX8_pay_32 ?_
      refine g_aload_n 0 rfl dX8_pay_35 ?_
      refine g_iload_n 1 rfl dX8_pay_36 ?_
      refine g_iload_n 2 rfl dX8_pay_37 ?_
      refine gu_V (c_X8_pays (k := k) (by omega)) l_X8_188 rfl m_rcv (Nat.le_of_ble_eq_true rfl) (Nat.le_of_ble_eq_true rfl) rfl dX8_pay_38 ?_
      refine g_aload_n 0 rfl dX8_pay_41 ?_
      refine m_get 0 rfl f_X8_19 rfl dX8_pay_42 dX8_pay_43 ?_
      refine g_iload_n 1 rfl dX8_pay_46 ?_
      refine gv_S (c_X8_l ) l_X8_56 rfl (Nat.le_of_ble_eq_true rfl) (Nat.le_of_ble_eq_true rfl) rfl dX8_pay_47 ?_
      refine gn_ic 1 (by decide) dX8_pay_50 ?_
      refine gn_iadd dX8_pay_51 ?_
      refine gn_iald MW_3 (by omega) (by decide) dX8_pay_52 ?_
      refine gv_V (c_X8_told ) l_X8_222 rfl m_rcv (Nat.le_of_ble_eq_true rfl) (Nat.le_of_ble_eq_true rfl) rfl dX8_pay_53 ?_
      exact g_iret ⟨rfl, rfl, rfl⟩ rfl rfl dX8_pay_56
    · -- f 25
      exact absurd (rg_ok hp1 hp (by decide)) (bi_0 h22)
  · -- f 8
    exact absurd (lod_ok hk hc12) (bi_0 h5)
set_option maxRecDepth 100000 in
set_option maxHeartbeats 4000000 in
theorem c_X8_pay_no {Γ : Gm} {mo n : Nat} {F : Hp} {I : Nat → Int32} {A : Nat → Nat → Int32} {f : Nat → Int32} {x : Int32} {c : Nat} {y : Int32} (hc : f 7 = nI c) (hc12 : c ≤ 12) (hx : ¬ (nI 0 ≤ x ∧ x ≤ nI c - nI 1)) : Ct Γ 3 MX8_pay 0 0 [.ref mo, .int x, .int y] (MW Γ mo F I A f) n (Rt (some (.int (nI 0))) (MW Γ mo F (upd I 2 (nI 1)) A f) n) X0 := by
  refine Ct.of (by decide +kernel) rfl (Nat.le_of_ble_eq_true rfl) ?_
  refine G.sub (lv2 := [(0, _), (1, _), (2, _)]) [0, 1, 2] rfl ?_
  refine g_aload_n 0 rfl dX8_pay_0 ?_
  refine g_iload_n 1 rfl dX8_pay_1 ?_
  refine gv_V (c_X8_isLodger hc) l_X8_249 rfl m_rcv (Nat.le_of_ble_eq_true rfl) (Nat.le_of_ble_eq_true rfl) rfl dX8_pay_2 ?_
  refine g_if_ne (tgt := 14) (by decide) dX8_pay_5 (fun h5 => ?_) (fun h5 => ?_)
  · -- t 14
    exact absurd (bi_n0 h5) hx
  · -- f 8
    refine g_aload_n 0 rfl dX8_pay_8 ?_
    refine gn_ic 1 (by decide) dX8_pay_9 ?_
    refine gv_V (c_X8_refuse ) l_X8_216 rfl m_rcv (Nat.le_of_ble_eq_true rfl) (Nat.le_of_ble_eq_true rfl) rfl dX8_pay_10 ?_
    exact g_iret ⟨rfl, rfl, rfl⟩ (by decide +kernel) rfl dX8_pay_13
set_option maxRecDepth 100000 in
set_option maxHeartbeats 4000000 in
theorem c_X8_pay_no2 {Γ : Gm} {mo n : Nat} {F : Hp} {I : Nat → Int32} {A : Nat → Nat → Int32} {f : Nat → Int32} {k c : Nat} {y : Int32} (hc : f 7 = nI c) (hc12 : c ≤ 12) (hk : k < c) (hy : ¬ (nI 1 ≤ y ∧ y ≤ nI 999)) : Ct Γ 3 MX8_pay 0 0 [.ref mo, .int (nI k), .int y] (MW Γ mo F I A f) n (Rt (some (.int (nI 0))) (MW Γ mo F (upd I 2 (nI 2)) A f) n) X0 := by
  refine Ct.of (by decide +kernel) rfl (Nat.le_of_ble_eq_true rfl) ?_
  refine G.sub (lv2 := [(0, _), (1, _), (2, _)]) [0, 1, 2] rfl ?_
  refine g_aload_n 0 rfl dX8_pay_0 ?_
  refine g_iload_n 1 rfl dX8_pay_1 ?_
  refine gv_V (c_X8_isLodger hc) l_X8_249 rfl m_rcv (Nat.le_of_ble_eq_true rfl) (Nat.le_of_ble_eq_true rfl) rfl dX8_pay_2 ?_
  refine g_if_ne (tgt := 14) (by decide) dX8_pay_5 (fun h5 => ?_) (fun h5 => ?_)
  · -- t 14
    refine g_iload_n 2 rfl dX8_pay_14 ?_
    refine gn_ic 1 (by decide) dX8_pay_15 ?_
    refine gn_sp 999 (by decide) dX8_pay_16 ?_
    refine gv_S (c_X8_in ) l_X8_66 rfl (Nat.le_of_ble_eq_true rfl) (Nat.le_of_ble_eq_true rfl) rfl dX8_pay_19 ?_
    refine g_if_ne (tgt := 31) (by decide) dX8_pay_22 (fun h22 => ?_) (fun h22 => ?_)
    · -- t 31
      exact absurd (bi_n0 h22) hy
    · -- f 25
      refine g_aload_n 0 rfl dX8_pay_25 ?_
      refine gn_ic 2 (by decide) dX8_pay_26 ?_
      refine gv_V (c_X8_refuse ) l_X8_216 rfl m_rcv (Nat.le_of_ble_eq_true rfl) (Nat.le_of_ble_eq_true rfl) rfl dX8_pay_27 ?_
      exact g_iret ⟨rfl, rfl, rfl⟩ rfl rfl dX8_pay_30
  · -- f 8
    exact absurd (lod_ok hk hc12) (bi_0 h5)
set_option maxRecDepth 100000 in
set_option maxHeartbeats 4000000 in
theorem c_X8_setLandladyVowel_ok {Γ : Gm} {mo n : Nat} {F : Hp} {I : Nat → Int32} {A : Nat → Nat → Int32} {f : Nat → Int32} {v p m : Nat} (hv : v < 5) (hp : p ≤ 9) (hm : I 6 = nI m) (hm10 : m ≤ 10) : Ct Γ 3 MX8_setLandladyVowel 0 0 [.ref mo, .int (nI v), .int (nI p)] (MW Γ mo F I A f) n (Rt (some (.int (f (2 + v)))) (MW Γ mo F (upd (upd I 6 (nI (remM m))) 2 (nI 0)) (updA A 4 (remO (A 4) f m)) (upd f (2 + v) (nI p))) n) X0 := by
  refine Ct.of (by decide +kernel) rfl (Nat.le_of_ble_eq_true rfl) ?_
  refine G.sub (lv2 := [(0, _), (1, _), (2, _)]) [0, 1, 2] rfl ?_
  refine g_iload_n 1 rfl dX8_setLandladyVowel_0 ?_
  refine gv_S (c_X8_isVowel ) l_X8_243 rfl (Nat.le_of_ble_eq_true rfl) (Nat.le_of_ble_eq_true rfl) rfl dX8_setLandladyVowel_1 ?_
  refine g_if_ne (tgt := 13) (by decide) dX8_setLandladyVowel_4 (fun h4 => ?_) (fun h4 => ?_)
  · -- t 13
    refine g_iload_n 2 rfl dX8_setLandladyVowel_13 ?_
    refine gn_ic 0 (by decide) dX8_setLandladyVowel_14 ?_
    refine gn_bp 9 (by decide) dX8_setLandladyVowel_15 ?_
    refine gv_S (c_X8_in ) l_X8_66 rfl (Nat.le_of_ble_eq_true rfl) (Nat.le_of_ble_eq_true rfl) rfl dX8_setLandladyVowel_17 ?_
    refine g_if_ne (tgt := 29) (by decide) dX8_setLandladyVowel_20 (fun h20 => ?_) (fun h20 => ?_)
    · -- t 29
      refine g_aload_n 0 rfl dX8_setLandladyVowel_29 ?_
      refine g_aload_n 0 rfl dX8_setLandladyVowel_30 ?_
      refine gn_ic 2 (by decide) dX8_setLandladyVowel_31 ?_
      refine g_iload_n 1 rfl dX8_setLandladyVowel_32 ?_
      refine gn_iadd dX8_setLandladyVowel_33 ?_
      refine g_iload_n 2 rfl dX8_setLandladyVowel_34 ?_
      refine gv_V (c_X8_sets (p := 2 + v) (m := m) hm hm10 (by omega)) l_X8_286 rfl m_rcv (Nat.le_of_ble_eq_true rfl) (Nat.le_of_ble_eq_true rfl) rfl dX8_setLandladyVowel_35 ?_
      refine gv_V (c_X8_told ) l_X8_222 rfl m_rcv (Nat.le_of_ble_eq_true rfl) (Nat.le_of_ble_eq_true rfl) rfl dX8_setLandladyVowel_38 ?_
      exact g_iret ⟨rfl, rfl, rfl⟩ rfl rfl dX8_setLandladyVowel_41
    · -- f 23
      exact absurd (rg_ok (Nat.zero_le _) hp (by decide)) (bi_0 h20)
  · -- f 7
    exact absurd (rg_ok (Nat.zero_le _) (show v ≤ 4 by omega) (by decide)) (bi_0 h4)
set_option maxRecDepth 100000 in
set_option maxHeartbeats 4000000 in
theorem c_X8_setLandladyVowel_no1 {Γ : Gm} {mo n : Nat} {F : Hp} {I : Nat → Int32} {A : Nat → Nat → Int32} {f : Nat → Int32} {x y : Int32} (hx : ¬ (nI 0 ≤ x ∧ x ≤ nI 4)) : Ct Γ 3 MX8_setLandladyVowel 0 0 [.ref mo, .int x, .int y] (MW Γ mo F I A f) n (Rt (some (.int (nI 0))) (MW Γ mo F (upd I 2 (nI 1)) A f) n) X0 := by
  refine Ct.of (by decide +kernel) rfl (Nat.le_of_ble_eq_true rfl) ?_
  refine G.sub (lv2 := [(0, _), (1, _), (2, _)]) [0, 1, 2] rfl ?_
  refine g_iload_n 1 rfl dX8_setLandladyVowel_0 ?_
  refine gv_S (c_X8_isVowel ) l_X8_243 rfl (Nat.le_of_ble_eq_true rfl) (Nat.le_of_ble_eq_true rfl) rfl dX8_setLandladyVowel_1 ?_
  refine g_if_ne (tgt := 13) (by decide) dX8_setLandladyVowel_4 (fun h4 => ?_) (fun h4 => ?_)
  · -- t 13
    exact absurd (bi_n0 h4) hx
  · -- f 7
    refine g_aload_n 0 rfl dX8_setLandladyVowel_7 ?_
    refine gn_ic 1 (by decide) dX8_setLandladyVowel_8 ?_
    refine gv_V (c_X8_refuse ) l_X8_216 rfl m_rcv (Nat.le_of_ble_eq_true rfl) (Nat.le_of_ble_eq_true rfl) rfl dX8_setLandladyVowel_9 ?_
    exact g_iret ⟨rfl, rfl, rfl⟩ rfl rfl dX8_setLandladyVowel_12
set_option maxRecDepth 100000 in
set_option maxHeartbeats 4000000 in
theorem c_X8_setLandladyVowel_no2 {Γ : Gm} {mo n : Nat} {F : Hp} {I : Nat → Int32} {A : Nat → Nat → Int32} {f : Nat → Int32} {v : Nat} {y : Int32} (hv : v < 5) (hy : ¬ (nI 0 ≤ y ∧ y ≤ nI 9)) : Ct Γ 3 MX8_setLandladyVowel 0 0 [.ref mo, .int (nI v), .int y] (MW Γ mo F I A f) n (Rt (some (.int (nI 0))) (MW Γ mo F (upd I 2 (nI 2)) A f) n) X0 := by
  refine Ct.of (by decide +kernel) rfl (Nat.le_of_ble_eq_true rfl) ?_
  refine G.sub (lv2 := [(0, _), (1, _), (2, _)]) [0, 1, 2] rfl ?_
  refine g_iload_n 1 rfl dX8_setLandladyVowel_0 ?_
  refine gv_S (c_X8_isVowel ) l_X8_243 rfl (Nat.le_of_ble_eq_true rfl) (Nat.le_of_ble_eq_true rfl) rfl dX8_setLandladyVowel_1 ?_
  refine g_if_ne (tgt := 13) (by decide) dX8_setLandladyVowel_4 (fun h4 => ?_) (fun h4 => ?_)
  · -- t 13
    refine g_iload_n 2 rfl dX8_setLandladyVowel_13 ?_
    refine gn_ic 0 (by decide) dX8_setLandladyVowel_14 ?_
    refine gn_bp 9 (by decide) dX8_setLandladyVowel_15 ?_
    refine gv_S (c_X8_in ) l_X8_66 rfl (Nat.le_of_ble_eq_true rfl) (Nat.le_of_ble_eq_true rfl) rfl dX8_setLandladyVowel_17 ?_
    refine g_if_ne (tgt := 29) (by decide) dX8_setLandladyVowel_20 (fun h20 => ?_) (fun h20 => ?_)
    · -- t 29
      exact absurd (bi_n0 h20) hy
    · -- f 23
      refine g_aload_n 0 rfl dX8_setLandladyVowel_23 ?_
      refine gn_ic 2 (by decide) dX8_setLandladyVowel_24 ?_
      refine gv_V (c_X8_refuse ) l_X8_216 rfl m_rcv (Nat.le_of_ble_eq_true rfl) (Nat.le_of_ble_eq_true rfl) rfl dX8_setLandladyVowel_25 ?_
      exact g_iret ⟨rfl, rfl, rfl⟩ rfl rfl dX8_setLandladyVowel_28
  · -- f 7
    exact absurd (rg_ok (Nat.zero_le _) (show v ≤ 4 by omega) (by decide)) (bi_0 h4)
set_option maxRecDepth 100000 in
set_option maxHeartbeats 4000000 in
theorem c_X8_setTolerance_ok {Γ : Gm} {mo n : Nat} {F : Hp} {I : Nat → Int32} {A : Nat → Nat → Int32} {f : Nat → Int32} {p m : Nat} (hp : p ≤ 45) (hm : I 6 = nI m) (hm10 : m ≤ 10) : Ct Γ 3 MX8_setTolerance 0 0 [.ref mo, .int (nI p)] (MW Γ mo F I A f) n (Rt (some (.int (f 1))) (MW Γ mo F (upd (upd I 6 (nI (remM m))) 2 (nI 0)) (updA A 4 (remO (A 4) f m)) (upd f 1 (nI p))) n) X0 := by
  refine Ct.of (by decide +kernel) rfl (Nat.le_of_ble_eq_true rfl) ?_
  refine G.sub (lv2 := [(0, _), (1, _)]) [0, 1] rfl ?_
  refine g_iload_n 1 rfl dX8_setTolerance_0 ?_
  refine gn_ic 0 (by decide) dX8_setTolerance_1 ?_
  refine gn_bp 45 (by decide) dX8_setTolerance_2 ?_
  refine gv_S (c_X8_in ) l_X8_66 rfl (Nat.le_of_ble_eq_true rfl) (Nat.le_of_ble_eq_true rfl) rfl dX8_setTolerance_4 ?_
  refine g_if_eq (tgt := 23) (by decide) dX8_setTolerance_7 (fun h7 => ?_) (fun h7 => ?_)
  · -- t 23
    exact absurd (rg_ok (Nat.zero_le _) hp (by decide)) (bi_0 h7)
  · -- f 10
    refine g_aload_n 0 rfl dX8_setTolerance_10 ?_
    refine g_aload_n 0 rfl dX8_setTolerance_11 ?_
    refine gn_ic 1 (by decide) dX8_setTolerance_12 ?_
    refine g_iload_n 1 rfl dX8_setTolerance_13 ?_
    refine gv_V (c_X8_sets (p := 1) (m := m) hm hm10 (by decide)) l_X8_286 rfl m_rcv (Nat.le_of_ble_eq_true rfl) (Nat.le_of_ble_eq_true rfl) rfl dX8_setTolerance_14 ?_
    refine gv_V (c_X8_told ) l_X8_222 rfl m_rcv (Nat.le_of_ble_eq_true rfl) (Nat.le_of_ble_eq_true rfl) rfl dX8_setTolerance_17 ?_
    refine g_goto (tgt := 28) (by decide) dX8_setTolerance_20 ?_
    exact g_iret ⟨rfl, rfl, rfl⟩ rfl rfl dX8_setTolerance_28
set_option maxRecDepth 100000 in
set_option maxHeartbeats 4000000 in
theorem c_X8_setTolerance_no {Γ : Gm} {mo n : Nat} {F : Hp} {I : Nat → Int32} {A : Nat → Nat → Int32} {f : Nat → Int32} {x : Int32} (hx : ¬ (nI 0 ≤ x ∧ x ≤ nI 45)) : Ct Γ 3 MX8_setTolerance 0 0 [.ref mo, .int x] (MW Γ mo F I A f) n (Rt (some (.int (nI 0))) (MW Γ mo F (upd I 2 (nI 1)) A f) n) X0 := by
  refine Ct.of (by decide +kernel) rfl (Nat.le_of_ble_eq_true rfl) ?_
  refine G.sub (lv2 := [(0, _), (1, _)]) [0, 1] rfl ?_
  refine g_iload_n 1 rfl dX8_setTolerance_0 ?_
  refine gn_ic 0 (by decide) dX8_setTolerance_1 ?_
  refine gn_bp 45 (by decide) dX8_setTolerance_2 ?_
  refine gv_S (c_X8_in ) l_X8_66 rfl (Nat.le_of_ble_eq_true rfl) (Nat.le_of_ble_eq_true rfl) rfl dX8_setTolerance_4 ?_
  refine g_if_eq (tgt := 23) (by decide) dX8_setTolerance_7 (fun h7 => ?_) (fun h7 => ?_)
  · -- t 23
    refine g_aload_n 0 rfl dX8_setTolerance_23 ?_
    refine gn_ic 1 (by decide) dX8_setTolerance_24 ?_
    refine gv_V (c_X8_refuse ) l_X8_216 rfl m_rcv (Nat.le_of_ble_eq_true rfl) (Nat.le_of_ble_eq_true rfl) rfl dX8_setTolerance_25 ?_
    exact g_iret ⟨rfl, rfl, rfl⟩ rfl rfl dX8_setTolerance_28
  · -- f 10
    exact absurd (bi_n0 h7) hx
set_option maxRecDepth 100000 in
set_option maxHeartbeats 4000000 in
theorem c_X8_setBaseRent_ok {Γ : Gm} {mo n : Nat} {F : Hp} {I : Nat → Int32} {A : Nat → Nat → Int32} {f : Nat → Int32} {p m : Nat} (hp : p ≤ 50) (hm : I 6 = nI m) (hm10 : m ≤ 10) : Ct Γ 3 MX8_setBaseRent 0 0 [.ref mo, .int (nI p)] (MW Γ mo F I A f) n (Rt (some (.int (f 0))) (MW Γ mo F (upd (upd I 6 (nI (remM m))) 2 (nI 0)) (updA A 4 (remO (A 4) f m)) (upd f 0 (nI p))) n) X0 := by
  refine Ct.of (by decide +kernel) rfl (Nat.le_of_ble_eq_true rfl) ?_
  refine G.sub (lv2 := [(0, _), (1, _)]) [0, 1] rfl ?_
  refine g_iload_n 1 rfl dX8_setBaseRent_0 ?_
  refine gn_ic 0 (by decide) dX8_setBaseRent_1 ?_
  refine gn_bp 50 (by decide) dX8_setBaseRent_2 ?_
  refine gv_S (c_X8_in ) l_X8_66 rfl (Nat.le_of_ble_eq_true rfl) (Nat.le_of_ble_eq_true rfl) rfl dX8_setBaseRent_4 ?_
  refine g_if_eq (tgt := 23) (by decide) dX8_setBaseRent_7 (fun h7 => ?_) (fun h7 => ?_)
  · -- t 23
    exact absurd (rg_ok (Nat.zero_le _) hp (by decide)) (bi_0 h7)
  · -- f 10
    refine g_aload_n 0 rfl dX8_setBaseRent_10 ?_
    refine g_aload_n 0 rfl dX8_setBaseRent_11 ?_
    refine gn_ic 0 (by decide) dX8_setBaseRent_12 ?_
    refine g_iload_n 1 rfl dX8_setBaseRent_13 ?_
    refine gv_V (c_X8_sets (p := 0) (m := m) hm hm10 (by decide)) l_X8_286 rfl m_rcv (Nat.le_of_ble_eq_true rfl) (Nat.le_of_ble_eq_true rfl) rfl dX8_setBaseRent_14 ?_
    refine gv_V (c_X8_told ) l_X8_222 rfl m_rcv (Nat.le_of_ble_eq_true rfl) (Nat.le_of_ble_eq_true rfl) rfl dX8_setBaseRent_17 ?_
    refine g_goto (tgt := 28) (by decide) dX8_setBaseRent_20 ?_
    exact g_iret ⟨rfl, rfl, rfl⟩ rfl rfl dX8_setBaseRent_28
set_option maxRecDepth 100000 in
set_option maxHeartbeats 4000000 in
theorem c_X8_setBaseRent_no {Γ : Gm} {mo n : Nat} {F : Hp} {I : Nat → Int32} {A : Nat → Nat → Int32} {f : Nat → Int32} {x : Int32} (hx : ¬ (nI 0 ≤ x ∧ x ≤ nI 50)) : Ct Γ 3 MX8_setBaseRent 0 0 [.ref mo, .int x] (MW Γ mo F I A f) n (Rt (some (.int (nI 0))) (MW Γ mo F (upd I 2 (nI 1)) A f) n) X0 := by
  refine Ct.of (by decide +kernel) rfl (Nat.le_of_ble_eq_true rfl) ?_
  refine G.sub (lv2 := [(0, _), (1, _)]) [0, 1] rfl ?_
  refine g_iload_n 1 rfl dX8_setBaseRent_0 ?_
  refine gn_ic 0 (by decide) dX8_setBaseRent_1 ?_
  refine gn_bp 50 (by decide) dX8_setBaseRent_2 ?_
  refine gv_S (c_X8_in ) l_X8_66 rfl (Nat.le_of_ble_eq_true rfl) (Nat.le_of_ble_eq_true rfl) rfl dX8_setBaseRent_4 ?_
  refine g_if_eq (tgt := 23) (by decide) dX8_setBaseRent_7 (fun h7 => ?_) (fun h7 => ?_)
  · -- t 23
    refine g_aload_n 0 rfl dX8_setBaseRent_23 ?_
    refine gn_ic 1 (by decide) dX8_setBaseRent_24 ?_
    refine gv_V (c_X8_refuse ) l_X8_216 rfl m_rcv (Nat.le_of_ble_eq_true rfl) (Nat.le_of_ble_eq_true rfl) rfl dX8_setBaseRent_25 ?_
    exact g_iret ⟨rfl, rfl, rfl⟩ rfl rfl dX8_setBaseRent_28
  · -- f 10
    exact absurd (bi_n0 h7) hx
set_option maxRecDepth 100000 in
set_option maxHeartbeats 4000000 in
theorem c_X8_restore_no1 {Γ : Gm} {mo n : Nat} {F : Hp} {I : Nat → Int32} {A : Nat → Nat → Int32} {f : Nat → Int32} {x : Int32} (hx : ¬ (nI 0 ≤ x ∧ x ≤ nI 1)) : Ct Γ 2 MX8_restore 0 0 [.ref mo, .int x] (MW Γ mo F I A f) n (Rt (some (.int (nI 0))) (MW Γ mo F (upd I 2 (nI 1)) A f) n) X0 := by
  refine Ct.of (by decide +kernel) rfl (Nat.le_of_ble_eq_true rfl) ?_
  refine G.sub (lv2 := [(0, _), (1, _)]) [0, 1] rfl ?_
  refine g_iload_n 1 rfl dX8_restore_0 ?_
  refine gn_ic 0 (by decide) dX8_restore_1 ?_
  refine gn_ic 1 (by decide) dX8_restore_2 ?_
  refine gv_S (c_X8_in ) l_X8_66 rfl (Nat.le_of_ble_eq_true rfl) (Nat.le_of_ble_eq_true rfl) rfl dX8_restore_3 ?_
  refine g_if_ne (tgt := 15) (by decide) dX8_restore_6 (fun h6 => ?_) (fun h6 => ?_)
  · -- t 15
    exact absurd (bi_n0 h6) hx
  · -- f 9
    refine g_aload_n 0 rfl dX8_restore_9 ?_
    refine gn_ic 1 (by decide) dX8_restore_10 ?_
    refine gv_V (c_X8_refuse ) l_X8_216 rfl m_rcv (Nat.le_of_ble_eq_true rfl) (Nat.le_of_ble_eq_true rfl) rfl dX8_restore_11 ?_
    exact g_iret ⟨rfl, rfl, rfl⟩ rfl rfl dX8_restore_14
set_option maxRecDepth 100000 in
set_option maxHeartbeats 4000000 in
theorem c_X8_restore_no2 {Γ : Gm} {mo n : Nat} {F : Hp} {I : Nat → Int32} {A : Nat → Nat → Int32} {f : Nat → Int32} {s : Nat} (hs : s < 2) (hb : (I 8 >>> (nI s &&& 31)) &&& nI 1 = 0) : Ct Γ 2 MX8_restore 0 0 [.ref mo, .int (nI s)] (MW Γ mo F I A f) n (Rt (some (.int (nI 0))) (MW Γ mo F (upd I 2 (nI 2)) A f) n) X0 := by
  refine Ct.of (by decide +kernel) rfl (Nat.le_of_ble_eq_true rfl) ?_
  refine G.sub (lv2 := [(0, _), (1, _)]) [0, 1] rfl ?_
  refine g_iload_n 1 rfl dX8_restore_0 ?_
  refine gn_ic 0 (by decide) dX8_restore_1 ?_
  refine gn_ic 1 (by decide) dX8_restore_2 ?_
  refine gv_S (c_X8_in ) l_X8_66 rfl (Nat.le_of_ble_eq_true rfl) (Nat.le_of_ble_eq_true rfl) rfl dX8_restore_3 ?_
  refine g_if_ne (tgt := 15) (by decide) dX8_restore_6 (fun h6 => ?_) (fun h6 => ?_)
  · -- t 15
    refine m_get 0 rfl f_X8_237 rfl dX8_restore_15 dX8_restore_16 ?_
    refine g_iload_n 1 rfl dX8_restore_19 ?_
    refine g_ishr dX8_restore_20 ?_
    refine gn_ic 1 (by decide) dX8_restore_21 ?_
    refine g_iand dX8_restore_22 ?_
    refine g_if_ne (tgt := 32) (by decide) dX8_restore_23 (fun h23 => ?_) (fun h23 => ?_)
    · -- t 32
      exact absurd hb h23
    · -- f 26
      refine g_aload_n 0 rfl dX8_restore_26 ?_
      refine gn_ic 2 (by decide) dX8_restore_27 ?_
      refine gv_V (c_X8_refuse ) l_X8_216 rfl m_rcv (Nat.le_of_ble_eq_true rfl) (Nat.le_of_ble_eq_true rfl) rfl dX8_restore_28 ?_
      exact g_iret ⟨rfl, rfl, rfl⟩ rfl rfl dX8_restore_31
  · -- f 9
    exact absurd (rg_ok (Nat.zero_le _) (show s ≤ 1 by omega) (by decide)) (bi_0 h6)
set_option maxRecDepth 100000 in
set_option maxHeartbeats 4000000 in
theorem c_X8_restore_ok {Γ : Gm} {mo n : Nat} {F : Hp} {I : Nat → Int32} {A : Nat → Nat → Int32} {f : Nat → Int32} {s m : Nat} (hs : s < 2) (hb : ¬ (I 8 >>> (nI s &&& 31)) &&& nI 1 = 0) (hm : I 6 = nI m) (hm10 : m ≤ 10) : Ct Γ 2 MX8_restore 0 0 [.ref mo, .int (nI s)] (MW Γ mo F I A f) n (Rt (some (.int (A 5 (s * 205 + 8)))) (MW Γ mo F (upd (upd I 6 (nI (remM m))) 2 (nI 0)) (updA A 4 (remO (A 4) f m)) (rowO (A 5) s)) n) X0 := by
  refine Ct.of (by decide +kernel) rfl (Nat.le_of_ble_eq_true rfl) ?_
  refine G.sub (lv2 := [(0, _), (1, _)]) [0, 1] rfl ?_
  refine g_iload_n 1 rfl dX8_restore_0 ?_
  refine gn_ic 0 (by decide) dX8_restore_1 ?_
  refine gn_ic 1 (by decide) dX8_restore_2 ?_
  refine gv_S (c_X8_in ) l_X8_66 rfl (Nat.le_of_ble_eq_true rfl) (Nat.le_of_ble_eq_true rfl) rfl dX8_restore_3 ?_
  refine g_if_ne (tgt := 15) (by decide) dX8_restore_6 (fun h6 => ?_) (fun h6 => ?_)
  · -- t 15
    refine m_get 0 rfl f_X8_237 rfl dX8_restore_15 dX8_restore_16 ?_
    refine g_iload_n 1 rfl dX8_restore_19 ?_
    refine g_ishr dX8_restore_20 ?_
    refine gn_ic 1 (by decide) dX8_restore_21 ?_
    refine g_iand dX8_restore_22 ?_
    refine g_if_ne (tgt := 32) (by decide) dX8_restore_23 (fun h23 => ?_) (fun h23 => ?_)
    · -- t 32
      refine g_aload_n 0 rfl dX8_restore_32 ?_
      refine gu_V (c_X8_remembers (m := m) hm hm10) l_X8_279 rfl m_rcv (Nat.le_of_ble_eq_true rfl) (Nat.le_of_ble_eq_true rfl) rfl dX8_restore_33 ?_
      refine gn_ic 0 (by decide) dX8_restore_36 ?_
      refine g_istore_n (lv2 := [(2, _), (0, _), (1, _)]) (by decide) rfl dX8_restore_37 ?_
      have L38 : ∀ (m38 i38 : Nat), i38 + m38 = 205 → G Γ 2 MX8_restore (Rt (some (.int (A 5 (s * 205 + 8)))) (MW Γ mo F (upd (upd I 6 (nI (remM m))) 2 (nI 0)) (updA A 4 (remO (A 4) f m)) (rowO (A 5) s)) n) X0 38 [(0, .ref mo), (1, .int (nI s)), (2, .int (nI i38))] [] (MW Γ mo F (upd I 6 (nI (remM m))) (updA A 4 (remO (A 4) f m)) (tkO (A 5) f (s * 205) i38)) n 0 0 := by
        intro m38
        induction m38 with
        | zero =>
          intro i38 hi38
          refine g_iload_n 2 rfl dX8_restore_38 ?_
          refine gn_sp 205 (by decide) dX8_restore_39 ?_
          refine gn_icmp_ge (by omega) (by omega) (tgt := 69) (by decide) dX8_restore_42 (fun cc1 => ?_) (fun cc1 => ?_)
          · -- t 69
            obtain rfl : i38 = 205 := by omega
            refine m_ag (g := rowO (A 5) s) tk_row ?_
            refine g_aload_n 0 rfl dX8_restore_69 ?_
            refine m_get 0 rfl f_X8_19 rfl dX8_restore_70 dX8_restore_71 ?_
            refine gn_bp 8 (by decide) dX8_restore_74 ?_
            refine gn_iald MW_3 (by omega) (by decide) dX8_restore_76 ?_
            refine gv_V (c_X8_told ) l_X8_222 rfl m_rcv (Nat.le_of_ble_eq_true rfl) (Nat.le_of_ble_eq_true rfl) rfl dX8_restore_77 ?_
            exact g_iret ⟨rfl, rfl, rfl⟩ rfl rfl dX8_restore_80
          · -- f 45
            exfalso; omega
        | succ m38 ih38 =>
          intro i38 hi38
          refine g_iload_n 2 rfl dX8_restore_38 ?_
          refine gn_sp 205 (by decide) dX8_restore_39 ?_
          refine gn_icmp_ge (by omega) (by omega) (tgt := 69) (by decide) dX8_restore_42 (fun cc2 => ?_) (fun cc2 => ?_)
          · -- t 69
            exfalso; omega
          · -- f 45
            refine m_get 0 rfl f_X8_19 rfl dX8_restore_45 dX8_restore_46 ?_
            refine g_iload_n 2 rfl dX8_restore_49 ?_
            refine m_get 0 rfl f_X8_28 rfl dX8_restore_50 dX8_restore_51 ?_
            refine g_iload_n 1 rfl dX8_restore_54 ?_
            refine gn_sp 205 (by decide) dX8_restore_55 ?_
            refine gn_imul dX8_restore_58 ?_
            refine g_iload_n 2 rfl dX8_restore_59 ?_
            refine gn_iadd dX8_restore_60 ?_
            refine gn_iald MW_6 (by omega) (by decide) dX8_restore_61 ?_
            refine gn_iast (E2 := MW Γ mo F (upd I 6 (nI (remM m))) (updA A 4 (remO (A 4) f m)) (tkO (A 5) f (s * 205) (i38 + 1))) MW_3 (by omega) (by decide) (by rw [MW_s3]; exact congrArg (fun z => MW Γ mo F (upd I 6 (nI (remM m))) (updA A 4 (remO (A 4) f m)) z) (by have := tkO_s (o := A 5) (f := f) (b := s * 205) (i := i38); exact this)) dX8_restore_62 ?_
            refine gn_inc (lv2 := [(2, _), (0, _), (1, _)]) 2 rfl (by decide) rfl dX8_restore_63 ?_
            refine g_goto (tgt := 38) (by decide) dX8_restore_66 ?_
            refine G.sub [1, 2, 0] rfl ?_
            exact ih38 (i38 + 1) (by omega)
      refine G.sub [1, 2, 0] rfl ?_
      refine g_world (E2 := MW Γ mo F (upd I 6 (nI (remM m))) (updA A 4 (remO (A 4) f m)) (tkO (A 5) f (s * 205) 0)) (by rw [tkO_0]) ?_
      exact L38 _ 0 (Nat.zero_add _)
    · -- f 26
      exact absurd h23 hb
  · -- f 9
    exact absurd (rg_ok (Nat.zero_le _) (show s ≤ 1 by omega) (by decide)) (bi_0 h6)
set_option maxRecDepth 100000 in
set_option maxHeartbeats 4000000 in
theorem c_X8_undo_no {Γ : Gm} {mo n : Nat} {F : Hp} {I : Nat → Int32} {A : Nat → Nat → Int32} {f : Nat → Int32}  (hm : I 6 = nI 0) : Ct Γ 2 MX8_undo 0 0 [.ref mo] (MW Γ mo F I A f) n (Rt (some (.int (nI 0))) (MW Γ mo F (upd I 2 (nI 1)) A f) n) X0 := by
  refine Ct.of (by decide +kernel) rfl (Nat.le_of_ble_eq_true rfl) ?_
  refine G.sub (lv2 := [(0, _)]) [0] rfl ?_
  refine m_get 0 rfl f_X8_127 rfl dX8_undo_0 dX8_undo_1 ?_
  refine g_top (y := nI 0) hm ?_
  refine gn_if_ne (by omega) (tgt := 13) (by decide) dX8_undo_4 (fun h4 => ?_) (fun h4 => ?_)
  · -- t 13
    exact absurd rfl h4
  · -- f 7
    refine g_aload_n 0 rfl dX8_undo_7 ?_
    refine gn_ic 1 (by decide) dX8_undo_8 ?_
    refine gv_V (c_X8_refuse ) l_X8_216 rfl m_rcv (Nat.le_of_ble_eq_true rfl) (Nat.le_of_ble_eq_true rfl) rfl dX8_undo_9 ?_
    exact g_iret ⟨rfl, rfl, rfl⟩ rfl rfl dX8_undo_12
set_option maxRecDepth 100000 in
set_option maxHeartbeats 4000000 in
theorem c_X8_undo_ok {Γ : Gm} {mo n : Nat} {F : Hp} {I : Nat → Int32} {A : Nat → Nat → Int32} {f : Nat → Int32} {m : Nat} (hm : I 6 = nI m) (hm0 : 0 < m) (hm10 : m ≤ 10) : Ct Γ 2 MX8_undo 0 0 [.ref mo] (MW Γ mo F I A f) n (Rt (some (.int (nI (m - 1)))) (MW Γ mo F (upd (upd I 6 (nI (m - 1))) 2 (nI 0)) A (rowO (A 4) (m - 1))) n) X0 := by
  refine Ct.of (by decide +kernel) rfl (Nat.le_of_ble_eq_true rfl) ?_
  refine G.sub (lv2 := [(0, _)]) [0] rfl ?_
  refine m_get 0 rfl f_X8_127 rfl dX8_undo_0 dX8_undo_1 ?_
  refine g_top (y := nI m) hm ?_
  refine gn_if_ne (by omega) (tgt := 13) (by decide) dX8_undo_4 (fun h4 => ?_) (fun h4 => ?_)
  · -- t 13
    refine g_aload_n 0 rfl dX8_undo_13 ?_
    refine g_dup rfl dX8_undo_14 ?_
    refine m_getS f_X8_127 rfl dX8_undo_15 ?_
    refine g_top (y := nI m) hm ?_
    refine gn_ic 1 (by decide) dX8_undo_18 ?_
    refine gn_isub (by omega) dX8_undo_19 ?_
    refine m_put f_X8_127 w_X8_6 (by decide) rfl dX8_undo_20 ?_
    refine gn_ic 0 (by decide) dX8_undo_23 ?_
    refine g_istore_n (lv2 := [(1, _), (0, _)]) (by decide) rfl dX8_undo_24 ?_
    have L25 : ∀ (m25 i25 : Nat), i25 + m25 = 205 → G Γ 2 MX8_undo (Rt (some (.int (nI (m - 1)))) (MW Γ mo F (upd (upd I 6 (nI (m - 1))) 2 (nI 0)) A (rowO (A 4) (m - 1))) n) X0 25 [(0, .ref mo), (1, .int (nI i25))] [] (MW Γ mo F (upd I 6 (nI (m - 1))) A (tkO (A 4) f ((m - 1) * 205) i25)) n 0 0 := by
      intro m25
      induction m25 with
      | zero =>
        intro i25 hi25
        refine g_iload_n 1 rfl dX8_undo_25 ?_
        refine gn_sp 205 (by decide) dX8_undo_26 ?_
        refine gn_icmp_ge (by omega) (by omega) (tgt := 59) (by decide) dX8_undo_29 (fun cc1 => ?_) (fun cc1 => ?_)
        · -- t 59
          obtain rfl : i25 = 205 := by omega
          refine m_ag (g := rowO (A 4) (m - 1)) tk_row ?_
          refine g_aload_n 0 rfl dX8_undo_59 ?_
          refine m_get 0 rfl f_X8_127 rfl dX8_undo_60 dX8_undo_61 ?_
          refine g_top (y := nI (m - 1)) pk_us ?_
          refine gv_V (c_X8_told ) l_X8_222 rfl m_rcv (Nat.le_of_ble_eq_true rfl) (Nat.le_of_ble_eq_true rfl) rfl dX8_undo_64 ?_
          exact g_iret ⟨rfl, rfl, rfl⟩ rfl rfl dX8_undo_67
        · -- f 32
          exfalso; omega
      | succ m25 ih25 =>
        intro i25 hi25
        refine g_iload_n 1 rfl dX8_undo_25 ?_
        refine gn_sp 205 (by decide) dX8_undo_26 ?_
        refine gn_icmp_ge (by omega) (by omega) (tgt := 59) (by decide) dX8_undo_29 (fun cc2 => ?_) (fun cc2 => ?_)
        · -- t 59
          exfalso; omega
        · -- f 32
          refine m_get 0 rfl f_X8_19 rfl dX8_undo_32 dX8_undo_33 ?_
          refine g_iload_n 1 rfl dX8_undo_36 ?_
          refine m_get 0 rfl f_X8_25 rfl dX8_undo_37 dX8_undo_38 ?_
          refine m_get 0 rfl f_X8_127 rfl dX8_undo_41 dX8_undo_42 ?_
          refine g_top (y := nI (m - 1)) pk_us ?_
          refine gn_sp 205 (by decide) dX8_undo_45 ?_
          refine gn_imul dX8_undo_48 ?_
          refine g_iload_n 1 rfl dX8_undo_49 ?_
          refine gn_iadd dX8_undo_50 ?_
          refine gn_iald MW_5 (by omega) (by decide) dX8_undo_51 ?_
          refine gn_iast (E2 := MW Γ mo F (upd I 6 (nI (m - 1))) A (tkO (A 4) f ((m - 1) * 205) (i25 + 1))) MW_3 (by omega) (by decide) (by rw [MW_s3]; exact congrArg (fun z => MW Γ mo F (upd I 6 (nI (m - 1))) A z) (by have := tkO_s (o := A 4) (f := f) (b := (m - 1) * 205) (i := i25); exact this)) dX8_undo_52 ?_
          refine gn_inc (lv2 := [(1, _), (0, _)]) 1 rfl (by decide) rfl dX8_undo_53 ?_
          refine g_goto (tgt := 25) (by decide) dX8_undo_56 ?_
          refine G.sub [1, 0] rfl ?_
          exact ih25 (i25 + 1) (by omega)
    refine G.sub [1, 0] rfl ?_
    refine g_world (E2 := MW Γ mo F (upd I 6 (nI (m - 1))) A (tkO (A 4) f ((m - 1) * 205) 0)) (by rw [tkO_0]) ?_
    exact L25 _ 0 (Nat.zero_add _)
  · -- f 7
    omega
set_option maxRecDepth 100000 in
set_option maxHeartbeats 4000000 in
theorem c_X8_save_no {Γ : Gm} {mo n : Nat} {F : Hp} {I : Nat → Int32} {A : Nat → Nat → Int32} {f : Nat → Int32} {x : Int32} (hx : ¬ (nI 0 ≤ x ∧ x ≤ nI 1)) : Ct Γ 2 MX8_save 0 0 [.ref mo, .int x] (MW Γ mo F I A f) n (Rt (some (.int (nI 0))) (MW Γ mo F (upd I 2 (nI 1)) A f) n) X0 := by
  refine Ct.of (by decide +kernel) rfl (Nat.le_of_ble_eq_true rfl) ?_
  refine G.sub (lv2 := [(0, _), (1, _)]) [0, 1] rfl ?_
  refine g_iload_n 1 rfl dX8_save_0 ?_
  refine gn_ic 0 (by decide) dX8_save_1 ?_
  refine gn_ic 1 (by decide) dX8_save_2 ?_
  refine gv_S (c_X8_in ) l_X8_66 rfl (Nat.le_of_ble_eq_true rfl) (Nat.le_of_ble_eq_true rfl) rfl dX8_save_3 ?_
  refine g_if_ne (tgt := 15) (by decide) dX8_save_6 (fun h6 => ?_) (fun h6 => ?_)
  · -- t 15
    exact absurd (bi_n0 h6) hx
  · -- f 9
    refine g_aload_n 0 rfl dX8_save_9 ?_
    refine gn_ic 1 (by decide) dX8_save_10 ?_
    refine gv_V (c_X8_refuse ) l_X8_216 rfl m_rcv (Nat.le_of_ble_eq_true rfl) (Nat.le_of_ble_eq_true rfl) rfl dX8_save_11 ?_
    exact g_iret ⟨rfl, rfl, rfl⟩ rfl rfl dX8_save_14
set_option maxRecDepth 100000 in
set_option maxHeartbeats 4000000 in
theorem c_X8_save_ok {Γ : Gm} {mo n : Nat} {F : Hp} {I : Nat → Int32} {A : Nat → Nat → Int32} {f : Nat → Int32} {s : Nat} (hs : s < 2) : Ct Γ 2 MX8_save 0 0 [.ref mo, .int (nI s)] (MW Γ mo F I A f) n (Rt (some (.int (f 8))) (MW Γ mo F (upd (upd I 8 (I 8 ||| (nI 1 <<< (nI s &&& 31)))) 2 (nI 0)) (updA A 5 (cpO (A 5) f (s * 205) 205)) f) n) X0 := by
  refine Ct.of (by decide +kernel) rfl (Nat.le_of_ble_eq_true rfl) ?_
  rw [show MW Γ mo F I A f = MW Γ mo F I (updA A 5 (cpO (A 5) f (s * 205) 0)) f from by rw [cpO_0, updA_id]]
  refine G.sub (lv2 := [(0, _), (1, _)]) [0, 1] rfl ?_
  refine g_iload_n 1 rfl dX8_save_0 ?_
  refine gn_ic 0 (by decide) dX8_save_1 ?_
  refine gn_ic 1 (by decide) dX8_save_2 ?_
  refine gv_S (c_X8_in ) l_X8_66 rfl (Nat.le_of_ble_eq_true rfl) (Nat.le_of_ble_eq_true rfl) rfl dX8_save_3 ?_
  refine g_if_ne (tgt := 15) (by decide) dX8_save_6 (fun h6 => ?_) (fun h6 => ?_)
  · -- t 15
    refine gn_ic 0 (by decide) dX8_save_15 ?_
    refine g_istore_n (lv2 := [(2, _), (0, _), (1, _)]) (by decide) rfl dX8_save_16 ?_
    have L17 : ∀ (m17 i17 : Nat), i17 + m17 = 205 → G Γ 2 MX8_save (Rt (some (.int (f 8))) (MW Γ mo F (upd (upd I 8 (I 8 ||| (nI 1 <<< (nI s &&& 31)))) 2 (nI 0)) (updA A 5 (cpO (A 5) f (s * 205) 205)) f) n) X0 17 [(0, .ref mo), (1, .int (nI s)), (2, .int (nI i17))] [] (MW Γ mo F I (updA A 5 (cpO (A 5) f (s * 205) i17)) f) n 0 0 := by
      intro m17
      induction m17 with
      | zero =>
        intro i17 hi17
        refine g_iload_n 2 rfl dX8_save_17 ?_
        refine gn_sp 205 (by decide) dX8_save_18 ?_
        refine gn_icmp_ge (by omega) (by omega) (tgt := 48) (by decide) dX8_save_21 (fun cc1 => ?_) (fun cc1 => ?_)
        · -- t 48
          obtain rfl : i17 = 205 := by omega
          refine g_aload_n 0 rfl dX8_save_48 ?_
          refine g_dup rfl dX8_save_49 ?_
          refine m_getS f_X8_237 rfl dX8_save_50 ?_
          refine gn_ic 1 (by decide) dX8_save_53 ?_
          refine g_iload_n 1 rfl dX8_save_54 ?_
          refine g_ishl dX8_save_55 ?_
          refine g_ior dX8_save_56 ?_
          refine m_put f_X8_237 w_X8_8 (by decide) rfl dX8_save_57 ?_
          refine g_aload_n 0 rfl dX8_save_60 ?_
          refine m_get 0 rfl f_X8_19 rfl dX8_save_61 dX8_save_62 ?_
          refine gn_bp 8 (by decide) dX8_save_65 ?_
          refine gn_iald MW_3 (by omega) (by decide) dX8_save_67 ?_
          refine gv_V (c_X8_told ) l_X8_222 rfl m_rcv (Nat.le_of_ble_eq_true rfl) (Nat.le_of_ble_eq_true rfl) rfl dX8_save_68 ?_
          exact g_iret ⟨rfl, rfl, rfl⟩ rfl rfl dX8_save_71
        · -- f 24
          exfalso; omega
      | succ m17 ih17 =>
        intro i17 hi17
        refine g_iload_n 2 rfl dX8_save_17 ?_
        refine gn_sp 205 (by decide) dX8_save_18 ?_
        refine gn_icmp_ge (by omega) (by omega) (tgt := 48) (by decide) dX8_save_21 (fun cc2 => ?_) (fun cc2 => ?_)
        · -- t 48
          exfalso; omega
        · -- f 24
          refine m_get 0 rfl f_X8_28 rfl dX8_save_24 dX8_save_25 ?_
          refine g_iload_n 1 rfl dX8_save_28 ?_
          refine gn_sp 205 (by decide) dX8_save_29 ?_
          refine gn_imul dX8_save_32 ?_
          refine g_iload_n 2 rfl dX8_save_33 ?_
          refine gn_iadd dX8_save_34 ?_
          refine m_get 0 rfl f_X8_19 rfl dX8_save_35 dX8_save_36 ?_
          refine g_iload_n 2 rfl dX8_save_39 ?_
          refine gn_iald MW_3 (by omega) (by decide) dX8_save_40 ?_
          refine gn_iast (E2 := MW Γ mo F I (updA A 5 (cpO (A 5) f (s * 205) (i17 + 1))) f) MW_6 (by omega) (by decide) (by rw [MW_s6, updA_updA, updA_s, cpO_s]) dX8_save_41 ?_
          refine gn_inc (lv2 := [(2, _), (0, _), (1, _)]) 2 rfl (by decide) rfl dX8_save_42 ?_
          refine g_goto (tgt := 17) (by decide) dX8_save_45 ?_
          refine G.sub [1, 2, 0] rfl ?_
          exact ih17 (i17 + 1) (by omega)
    refine G.sub [1, 2, 0] rfl ?_
    exact L17 _ 0 (Nat.zero_add _)
  · -- f 9
    exact absurd (rg_ok (Nat.zero_le _) (show s ≤ 1 by omega) (by decide)) (bi_0 h6)
end GM10
