section GM4
set_option maxRecDepth 100000 in
set_option maxHeartbeats 4000000 in
theorem c_X8_putsAside {Γ : Gm} {mo n : Nat} {F : Hp} {I : Nat → Int32} {A : Nat → Nat → Int32} {f : Nat → Int32}   : Ct Γ 1 MX8_putsAside 0 0 [.ref mo] (MW Γ mo F I A f) n (Rt none (MW Γ mo F I (updA A 3 (cpO (A 3) f 0 205)) f) n) X0 := by
  refine Ct.of (by decide +kernel) rfl (Nat.le_of_ble_eq_true rfl) ?_
  rw [show MW Γ mo F I A f = MW Γ mo F I (updA A 3 (cpO (A 3) f 0 0)) f from by rw [cpO_0, updA_id]]
  refine G.sub (lv2 := [(0, _)]) [0] rfl ?_
  refine gn_ic 0 (by decide) dX8_putsAside_0 ?_
  refine g_istore_n (lv2 := [(1, _), (0, _)]) (by decide) rfl dX8_putsAside_1 ?_
  have L2 : ∀ (m2 i2 : Nat), i2 + m2 = 205 → G Γ 1 MX8_putsAside (Rt none (MW Γ mo F I (updA A 3 (cpO (A 3) f 0 205)) f) n) X0 2 [(0, .ref mo), (1, .int (nI i2))] [] (MW Γ mo F I (updA A 3 (cpO (A 3) f 0 i2)) f) n 0 0 := by
    intro m2
    induction m2 with
    | zero =>
      intro i2 hi2
      refine g_iload_n 1 rfl dX8_putsAside_2 ?_
      refine gn_sp 205 (by decide) dX8_putsAside_3 ?_
      refine gn_icmp_ge (by omega) (by omega) (tgt := 27) (by decide) dX8_putsAside_6 (fun cc1 => ?_) (fun cc1 => ?_)
      · -- t 27
        obtain rfl : i2 = 205 := by omega
        exact g_vret ⟨rfl, rfl, rfl⟩ rfl dX8_putsAside_27
      · -- f 9
        exfalso; omega
    | succ m2 ih2 =>
      intro i2 hi2
      refine g_iload_n 1 rfl dX8_putsAside_2 ?_
      refine gn_sp 205 (by decide) dX8_putsAside_3 ?_
      refine gn_icmp_ge (by omega) (by omega) (tgt := 27) (by decide) dX8_putsAside_6 (fun cc2 => ?_) (fun cc2 => ?_)
      · -- t 27
        exfalso; omega
      · -- f 9
        refine m_get 0 rfl f_X8_22 rfl dX8_putsAside_9 dX8_putsAside_10 ?_
        refine g_iload_n 1 rfl dX8_putsAside_13 ?_
        refine m_get 0 rfl f_X8_19 rfl dX8_putsAside_14 dX8_putsAside_15 ?_
        refine g_iload_n 1 rfl dX8_putsAside_18 ?_
        refine gn_iald MW_3 (by omega) (by decide) dX8_putsAside_19 ?_
        refine gn_iast (E2 := MW Γ mo F I (updA A 3 (cpO (A 3) f 0 (i2 + 1))) f) MW_4 (by omega) (by decide) (by rw [MW_s4, updA_updA, updA_s, cpO_00]) dX8_putsAside_20 ?_
        refine gn_inc (lv2 := [(1, _), (0, _)]) 1 rfl (by decide) rfl dX8_putsAside_21 ?_
        refine g_goto (tgt := 2) (by decide) dX8_putsAside_24 ?_
        refine G.sub [1, 0] rfl ?_
        exact ih2 (i2 + 1) (by omega)
  refine G.sub [1, 0] rfl ?_
  exact L2 _ 0 (Nat.zero_add _)
set_option maxRecDepth 100000 in
set_option maxHeartbeats 4000000 in
theorem c_X8_putsBack {Γ : Gm} {mo n : Nat} {F : Hp} {I : Nat → Int32} {A : Nat → Nat → Int32} {f : Nat → Int32}   : Ct Γ 1 MX8_putsBack 0 0 [.ref mo] (MW Γ mo F I A f) n (Rt none (MW Γ mo F (upd I 11 (-1)) A (tkO (A 3) f 0 205)) n) X0 := by
  refine Ct.of (by decide +kernel) rfl (Nat.le_of_ble_eq_true rfl) ?_
  rw [show MW Γ mo F I A f = MW Γ mo F I A (tkO (A 3) f 0 0) from by rw [tkO_0]]
  refine G.sub (lv2 := [(0, _)]) [0] rfl ?_
  refine gn_ic 0 (by decide) dX8_putsBack_0 ?_
  refine g_istore_n (lv2 := [(1, _), (0, _)]) (by decide) rfl dX8_putsBack_1 ?_
  have L2 : ∀ (m2 i2 : Nat), i2 + m2 = 205 → G Γ 1 MX8_putsBack (Rt none (MW Γ mo F (upd I 11 (-1)) A (tkO (A 3) f 0 205)) n) X0 2 [(0, .ref mo), (1, .int (nI i2))] [] (MW Γ mo F I A (tkO (A 3) f 0 i2)) n 0 0 := by
    intro m2
    induction m2 with
    | zero =>
      intro i2 hi2
      refine g_iload_n 1 rfl dX8_putsBack_2 ?_
      refine gn_sp 205 (by decide) dX8_putsBack_3 ?_
      refine gn_icmp_ge (by omega) (by omega) (tgt := 27) (by decide) dX8_putsBack_6 (fun cc1 => ?_) (fun cc1 => ?_)
      · -- t 27
        obtain rfl : i2 = 205 := by omega
        refine g_aload_n 0 rfl dX8_putsBack_27 ?_
        refine g_iconst (v := -1) dX8_putsBack_28 (by decide) ?_
        refine m_put f_X8_37 w_X8_11 (by decide) rfl dX8_putsBack_29 ?_
        exact g_vret ⟨rfl, rfl, rfl⟩ rfl dX8_putsBack_32
      · -- f 9
        exfalso; omega
    | succ m2 ih2 =>
      intro i2 hi2
      refine g_iload_n 1 rfl dX8_putsBack_2 ?_
      refine gn_sp 205 (by decide) dX8_putsBack_3 ?_
      refine gn_icmp_ge (by omega) (by omega) (tgt := 27) (by decide) dX8_putsBack_6 (fun cc2 => ?_) (fun cc2 => ?_)
      · -- t 27
        exfalso; omega
      · -- f 9
        refine m_get 0 rfl f_X8_19 rfl dX8_putsBack_9 dX8_putsBack_10 ?_
        refine g_iload_n 1 rfl dX8_putsBack_13 ?_
        refine m_get 0 rfl f_X8_22 rfl dX8_putsBack_14 dX8_putsBack_15 ?_
        refine g_iload_n 1 rfl dX8_putsBack_18 ?_
        refine gn_iald MW_4 (by omega) (by decide) dX8_putsBack_19 ?_
        refine gn_iast (E2 := MW Γ mo F I A (tkO (A 3) f 0 (i2 + 1))) MW_3 (by omega) (by decide) (by rw [MW_s3, tkO_00]) dX8_putsBack_20 ?_
        refine gn_inc (lv2 := [(1, _), (0, _)]) 1 rfl (by decide) rfl dX8_putsBack_21 ?_
        refine g_goto (tgt := 2) (by decide) dX8_putsBack_24 ?_
        refine G.sub [1, 0] rfl ?_
        exact ih2 (i2 + 1) (by omega)
  refine G.sub [1, 0] rfl ?_
  exact L2 _ 0 (Nat.zero_add _)
set_option maxRecDepth 100000 in
set_option maxHeartbeats 4000000 in
theorem r_remembers {Γ : Gm} {mo n : Nat} {F : Hp} {I : Nat → Int32} {A : Nat → Nat → Int32} {f : Nat → Int32} {q : Nat} {o : Nat → Int32} {J : Nat → Int32} (hq : J 6 = nI q) (hq10 : q < 10) (hJ : ∀ x, upd J 6 x = upd I 6 x) : G Γ 1 MX8_remembers (Rt none (MW Γ mo F (upd I 6 (nI (q + 1))) (updA A 4 (cpO o f (q * 205) 205)) f) n) X0 52 [(0, .ref mo)] [] (MW Γ mo F J (updA A 4 o) f) n 0 0 := by
  refine G.sub (lv2 := [(0, _)]) [0] rfl ?_
  refine gn_ic 0 (by decide) dX8_remembers_52 ?_
  refine g_istore_n (lv2 := [(1, _), (0, _)]) (by decide) rfl dX8_remembers_53 ?_
  have L54 : ∀ (m54 i54 : Nat), i54 + m54 = 205 → G Γ 1 MX8_remembers (Rt none (MW Γ mo F (upd I 6 (nI (q + 1))) (updA A 4 (cpO o f (q * 205) 205)) f) n) X0 54 [(0, .ref mo), (1, .int (nI i54))] [] (MW Γ mo F J (updA A 4 (cpO o f (q * 205) i54)) f) n 0 0 := by
    intro m54
    induction m54 with
    | zero =>
      intro i54 hi54
      refine g_iload_n 1 rfl dX8_remembers_54 ?_
      refine gn_sp 205 (by decide) dX8_remembers_55 ?_
      refine gn_icmp_ge (by omega) (by omega) (tgt := 88) (by decide) dX8_remembers_58 (fun cc1 => ?_) (fun cc1 => ?_)
      · -- t 88
        obtain rfl : i54 = 205 := by omega
        refine g_aload_n 0 rfl dX8_remembers_88 ?_
        refine g_dup rfl dX8_remembers_89 ?_
        refine m_getS f_X8_127 rfl dX8_remembers_90 ?_
        refine g_top (y := nI q) hq ?_
        refine gn_ic 1 (by decide) dX8_remembers_93 ?_
        refine gn_iadd dX8_remembers_94 ?_
        refine m_put f_X8_127 w_X8_6 (by decide) rfl dX8_remembers_95 ?_
        exact g_vret ⟨rfl, by rw [hJ], rfl⟩ rfl dX8_remembers_98
      · -- f 61
        exfalso; omega
    | succ m54 ih54 =>
      intro i54 hi54
      refine g_iload_n 1 rfl dX8_remembers_54 ?_
      refine gn_sp 205 (by decide) dX8_remembers_55 ?_
      refine gn_icmp_ge (by omega) (by omega) (tgt := 88) (by decide) dX8_remembers_58 (fun cc2 => ?_) (fun cc2 => ?_)
      · -- t 88
        exfalso; omega
      · -- f 61
        refine m_get 0 rfl f_X8_25 rfl dX8_remembers_61 dX8_remembers_62 ?_
        refine m_get 0 rfl f_X8_127 rfl dX8_remembers_65 dX8_remembers_66 ?_
        refine g_top (y := nI q) hq ?_
        refine gn_sp 205 (by decide) dX8_remembers_69 ?_
        refine gn_imul dX8_remembers_72 ?_
        refine g_iload_n 1 rfl dX8_remembers_73 ?_
        refine gn_iadd dX8_remembers_74 ?_
        refine m_get 0 rfl f_X8_19 rfl dX8_remembers_75 dX8_remembers_76 ?_
        refine g_iload_n 1 rfl dX8_remembers_79 ?_
        refine gn_iald MW_3 (by omega) (by decide) dX8_remembers_80 ?_
        refine gn_iast (E2 := MW Γ mo F J (updA A 4 (cpO o f (q * 205) (i54 + 1))) f) MW_5 (by omega) (by decide) (by rw [MW_s5, updA_updA, updA_s, cpO_s]) dX8_remembers_81 ?_
        refine gn_inc (lv2 := [(1, _), (0, _)]) 1 rfl (by decide) rfl dX8_remembers_82 ?_
        refine g_goto (tgt := 54) (by decide) dX8_remembers_85 ?_
        refine G.sub [1, 0] rfl ?_
        exact ih54 (i54 + 1) (by omega)
  refine G.sub [1, 0] rfl ?_
  refine g_world (E2 := MW Γ mo F J (updA A 4 (cpO o f (q * 205) 0)) f) (by rw [cpO_0]) ?_
  exact L54 _ 0 (Nat.zero_add _)
set_option maxRecDepth 100000 in
set_option maxHeartbeats 4000000 in
theorem c_X8_remembers {Γ : Gm} {mo n : Nat} {F : Hp} {I : Nat → Int32} {A : Nat → Nat → Int32} {f : Nat → Int32} {m : Nat} (hm : I 6 = nI m) (hm10 : m ≤ 10) : Ct Γ 1 MX8_remembers 0 0 [.ref mo] (MW Γ mo F I A f) n (Rt none (MW Γ mo F (upd I 6 (nI (remM m))) (updA A 4 (remO (A 4) f m)) f) n) X0 := by
  refine Ct.of (by decide +kernel) rfl (Nat.le_of_ble_eq_true rfl) ?_
  refine G.sub (lv2 := [(0, _)]) [0] rfl ?_
  refine m_get 0 rfl f_X8_127 rfl dX8_remembers_0 dX8_remembers_1 ?_
  refine g_top (y := nI m) hm ?_
  refine gn_bp 10 (by decide) dX8_remembers_4 ?_
  refine gn_icmp_ne (by omega) (by omega) (tgt := 52) (by decide) dX8_remembers_6 (fun h1 => ?_) (fun h1 => ?_)
  · -- t 52
    refine G.weak (P := Rt none (MW Γ mo F (upd I 6 (nI (m + 1))) (updA A 4 (cpO (A 4) f (m * 205) 205)) f) n) (X := X0) ?_ (fun v E1 n1 z => by unfold remO remM; rw [if_neg h1, if_neg h1]; exact z) (fun _ _ _ z => z)
    refine g_world (E2 := MW Γ mo F I (updA A 4 (A 4)) f) (by rw [updA_id]) ?_
    exact r_remembers (J := I) hm (by omega) (fun _ => rfl)
  · -- f 9
    refine gn_sp 205 (by decide) dX8_remembers_9 ?_
    refine g_istore_n (lv2 := [(1, _), (0, _)]) (by decide) rfl dX8_remembers_12 ?_
    have L13 : ∀ (m13 i13 : Nat), i13 + m13 = 1845 → G Γ 1 MX8_remembers (Rt none (MW Γ mo F (upd I 6 (nI (remM m))) (updA A 4 (remO (A 4) f m)) f) n) X0 13 [(0, .ref mo), (1, .int (nI (205 + i13)))] [] (MW Γ mo F I (updA A 4 (dnO (A 4) i13)) f) n 0 0 := by
      intro m13
      induction m13 with
      | zero =>
        intro i13 hi13
        refine g_iload_n 1 rfl dX8_remembers_13 ?_
        refine gn_sp 2050 (by decide) dX8_remembers_14 ?_
        refine gn_icmp_ge (by omega) (by omega) (tgt := 42) (by decide) dX8_remembers_17 (fun cc1 => ?_) (fun cc1 => ?_)
        · -- t 42
          obtain rfl : i13 = 1845 := by omega
          refine g_aload_n 0 rfl dX8_remembers_42 ?_
          refine g_dup rfl dX8_remembers_43 ?_
          refine m_getS f_X8_127 rfl dX8_remembers_44 ?_
          refine g_top (y := nI 10) (by rw [hm, h1]) ?_
          refine gn_ic 1 (by decide) dX8_remembers_47 ?_
          refine gn_isub (by omega) dX8_remembers_48 ?_
          refine m_put f_X8_127 w_X8_6 (by decide) rfl dX8_remembers_49 ?_
          exact G.sub [0] rfl (G.weak (P := Rt none (MW Γ mo F (upd I 6 (nI (9 + 1))) (updA A 4 (cpO (dnO (A 4) 1845) f (9 * 205) 205)) f) n) (X := X0) (r_remembers (I := I) (J := upd I 6 (nI 9)) (q := 9) (o := dnO (A 4) 1845) rfl (by omega) (fun _ => upd_upd)) (fun v E1 n1 z => by unfold remO remM; rw [if_pos h1, if_pos h1]; exact z) (fun _ _ _ z => z))
        · -- f 20
          exfalso; omega
      | succ m13 ih13 =>
        intro i13 hi13
        refine g_iload_n 1 rfl dX8_remembers_13 ?_
        refine gn_sp 2050 (by decide) dX8_remembers_14 ?_
        refine gn_icmp_ge (by omega) (by omega) (tgt := 42) (by decide) dX8_remembers_17 (fun cc2 => ?_) (fun cc2 => ?_)
        · -- t 42
          exfalso; omega
        · -- f 20
          refine m_get 0 rfl f_X8_25 rfl dX8_remembers_20 dX8_remembers_21 ?_
          refine g_iload_n 1 rfl dX8_remembers_24 ?_
          refine gn_sp 205 (by decide) dX8_remembers_25 ?_
          refine gn_isub (by omega) dX8_remembers_28 ?_
          refine m_get 0 rfl f_X8_25 rfl dX8_remembers_29 dX8_remembers_30 ?_
          refine g_iload_n 1 rfl dX8_remembers_33 ?_
          refine gn_iald MW_5 (by omega) (by decide) dX8_remembers_34 ?_
          refine gn_iast (E2 := MW Γ mo F I (updA A 4 (dnO (A 4) (i13 + 1))) f) MW_5 (by omega) (by decide) (by rw [MW_s5, updA_updA, updA_s, dnO_s]) dX8_remembers_35 ?_
          refine gn_inc (lv2 := [(1, _), (0, _)]) 1 rfl (by decide) rfl dX8_remembers_36 ?_
          refine g_goto (tgt := 13) (by decide) dX8_remembers_39 ?_
          refine G.sub [1, 0] rfl ?_
          exact ih13 (i13 + 1) (by omega)
    refine G.sub [1, 0] rfl ?_
    refine g_world (E2 := MW Γ mo F I (updA A 4 (dnO (A 4) 0)) f) (by rw [dnO_0, updA_id]) ?_
    exact L13 _ 0 (Nat.zero_add _)
set_option maxRecDepth 100000 in
set_option maxHeartbeats 4000000 in
theorem c_X8_comes {Γ : Gm} {mo n : Nat} {F : Hp} {I : Nat → Int32} {A : Nat → Nat → Int32} {f : Nat → Int32} {fl pay : Int32} {a c : Nat} (hc : f 7 = nI c) (hc12 : c < 12) (ha : a < 2 ^ 31) : Ct Γ 2 MX8_comes 0 0 [.ref mo, .int fl, .int pay, .int (nI a)] (MW Γ mo F I A f) n (Rt none (MW Γ mo F I A (comF f fl pay a c)) n) X0 := by
  refine Ct.of (by decide +kernel) rfl (Nat.le_of_ble_eq_true rfl) ?_
  refine G.sub (lv2 := [(0, _), (1, _), (2, _), (3, _)]) [0, 1, 2, 3] rfl ?_
  refine m_get 0 rfl f_X8_19 rfl dX8_comes_0 dX8_comes_1 ?_
  refine gn_bp 7 (by decide) dX8_comes_4 ?_
  refine gn_iald MW_3 (by omega) (by decide) dX8_comes_6 ?_
  refine g_top (y := nI c) hc ?_
  refine gv_S (c_X8_l ) l_X8_56 rfl (Nat.le_of_ble_eq_true rfl) (Nat.le_of_ble_eq_true rfl) rfl dX8_comes_7 ?_
  refine g_istore (lv2 := [(4, _), (0, _), (1, _), (2, _), (3, _)]) (by decide) rfl dX8_comes_10 ?_
  refine gn_ic 0 (by decide) dX8_comes_12 ?_
  refine g_istore (lv2 := [(5, _), (4, _), (0, _), (1, _), (2, _), (3, _)]) (by decide) rfl dX8_comes_13 ?_
  have L15 : ∀ (m15 i15 : Nat), i15 + m15 = 16 → G Γ 2 MX8_comes (Rt none (MW Γ mo F I A (comF f fl pay a c)) n) X0 15 [(0, .ref mo), (1, .int fl), (2, .int pay), (3, .int (nI a)), (4, .int (nI (13 + 16 * c))), (5, .int (nI i15))] [] (MW Γ mo F I A (zro f (13 + 16 * c) i15)) n 0 0 := by
    intro m15
    induction m15 with
    | zero =>
      intro i15 hi15
      refine g_iload 5 rfl dX8_comes_15 ?_
      refine gn_bp 16 (by decide) dX8_comes_17 ?_
      refine gn_icmp_ge (by omega) (by omega) (tgt := 39) (by decide) dX8_comes_19 (fun cc1 => ?_) (fun cc1 => ?_)
      · -- t 39
        obtain rfl : i15 = 16 := by omega
        refine m_get 0 rfl f_X8_19 rfl dX8_comes_39 dX8_comes_40 ?_
        refine g_iload 4 rfl dX8_comes_43 ?_
        refine gn_ic 0 (by decide) dX8_comes_45 ?_
        refine gn_iadd0 dX8_comes_46 ?_
        refine g_iload_n 1 rfl dX8_comes_47 ?_
        refine gn_iast MW_3 (by omega) (by decide) MW_s3 dX8_comes_48 ?_
        refine m_get 0 rfl f_X8_19 rfl dX8_comes_49 dX8_comes_50 ?_
        refine g_iload 4 rfl dX8_comes_53 ?_
        refine gn_ic 1 (by decide) dX8_comes_55 ?_
        refine gn_iadd dX8_comes_56 ?_
        refine g_iload_n 2 rfl dX8_comes_57 ?_
        refine gn_iast MW_3 (by omega) (by decide) MW_s3 dX8_comes_58 ?_
        refine m_get 0 rfl f_X8_19 rfl dX8_comes_59 dX8_comes_60 ?_
        refine g_iload 4 rfl dX8_comes_63 ?_
        refine gn_ic 4 (by decide) dX8_comes_65 ?_
        refine gn_iadd dX8_comes_66 ?_
        refine m_get 0 rfl f_X8_19 rfl dX8_comes_67 dX8_comes_68 ?_
        refine gn_bp 8 (by decide) dX8_comes_71 ?_
        refine gn_iald MW_3 (by omega) (by decide) dX8_comes_73 ?_
        refine gn_iast MW_3 (by omega) (by decide) MW_s3 dX8_comes_74 ?_
        refine m_get 0 rfl f_X8_19 rfl dX8_comes_75 dX8_comes_76 ?_
        refine gn_bp 10 (by decide) dX8_comes_79 ?_
        refine g_dup2 rfl rfl dX8_comes_81 ?_
        refine gn_iald MW_3 (by omega) (by decide) dX8_comes_82 ?_
        refine g_iload_n 2 rfl dX8_comes_83 ?_
        refine g_iadd dX8_comes_84 ?_
        refine gn_iast MW_3 (by omega) (by decide) MW_s3 dX8_comes_85 ?_
        refine g_iload_n 3 rfl dX8_comes_86 ?_
        refine g_istore (lv2 := [(5, _), (0, _), (1, _), (2, _), (3, _), (4, _)]) (by decide) rfl dX8_comes_87 ?_
        refine gn_ic 4 (by decide) dX8_comes_89 ?_
        refine g_istore (lv2 := [(6, _), (5, _), (0, _), (1, _), (2, _), (3, _), (4, _)]) (by decide) rfl dX8_comes_90 ?_
        refine g_iload 0 rfl dX8_comes_92 ?_
        refine g_if_lt (tgt := 127) (by decide) dX8_comes_94 (fun cc2 => ?_) (fun cc2 => ?_)
        · -- t 127
          exact absurd cc2 (by decide)
        · -- f 97
          refine m_get 2 rfl f_X8_19 rfl dX8_comes_97 dX8_comes_98 ?_
          refine g_iload 6 rfl dX8_comes_101 ?_
          refine gn_ic 5 (by decide) dX8_comes_103 ?_
          refine gn_iadd dX8_comes_104 ?_
          refine g_iload 0 rfl dX8_comes_105 ?_
          refine gn_iadd dX8_comes_107 ?_
          refine g_iload 1 rfl dX8_comes_108 ?_
          refine gn_bp 10 (by decide) dX8_comes_110 ?_
          refine gn_irem (by omega) (by omega) (by omega) dX8_comes_112 ?_
          refine gn_iast MW_3 (by omega) (by decide) MW_s3 dX8_comes_113 ?_
          refine g_iload 1 rfl dX8_comes_114 ?_
          refine gn_bp 10 (by decide) dX8_comes_116 ?_
          refine gn_idiv (by omega) (by omega) (by omega) dX8_comes_118 ?_
          refine g_istore (lv2 := [(5, _), (6, _), (0, _), (1, _), (2, _), (3, _), (4, _)]) (by decide) rfl dX8_comes_119 ?_
          refine g_iinc (v := nI 3) (lv2 := [(6, _), (5, _), (0, _), (1, _), (2, _), (3, _), (4, _)]) 1 rfl (by decide) (by decide) rfl dX8_comes_121 ?_
          refine g_goto (tgt := 92) (by decide) dX8_comes_124 ?_
          refine g_iload 0 rfl dX8_comes_92 ?_
          refine g_if_lt (tgt := 127) (by decide) dX8_comes_94 (fun cc3 => ?_) (fun cc3 => ?_)
          · -- t 127
            exact absurd cc3 (by decide)
          · -- f 97
            refine m_get 2 rfl f_X8_19 rfl dX8_comes_97 dX8_comes_98 ?_
            refine g_iload 6 rfl dX8_comes_101 ?_
            refine gn_ic 5 (by decide) dX8_comes_103 ?_
            refine gn_iadd dX8_comes_104 ?_
            refine g_iload 0 rfl dX8_comes_105 ?_
            refine gn_iadd dX8_comes_107 ?_
            refine g_iload 1 rfl dX8_comes_108 ?_
            refine gn_bp 10 (by decide) dX8_comes_110 ?_
            refine gn_irem (by omega) (by omega) (by omega) dX8_comes_112 ?_
            refine gn_iast MW_3 (by omega) (by decide) MW_s3 dX8_comes_113 ?_
            refine g_iload 1 rfl dX8_comes_114 ?_
            refine gn_bp 10 (by decide) dX8_comes_116 ?_
            refine gn_idiv (by omega) (by omega) (by omega) dX8_comes_118 ?_
            refine g_istore (lv2 := [(5, _), (6, _), (0, _), (1, _), (2, _), (3, _), (4, _)]) (by decide) rfl dX8_comes_119 ?_
            refine g_iinc (v := nI 2) (lv2 := [(6, _), (5, _), (0, _), (1, _), (2, _), (3, _), (4, _)]) 1 rfl (by decide) (by decide) rfl dX8_comes_121 ?_
            refine g_goto (tgt := 92) (by decide) dX8_comes_124 ?_
            refine g_iload 0 rfl dX8_comes_92 ?_
            refine g_if_lt (tgt := 127) (by decide) dX8_comes_94 (fun cc4 => ?_) (fun cc4 => ?_)
            · -- t 127
              exact absurd cc4 (by decide)
            · -- f 97
              refine m_get 2 rfl f_X8_19 rfl dX8_comes_97 dX8_comes_98 ?_
              refine g_iload 6 rfl dX8_comes_101 ?_
              refine gn_ic 5 (by decide) dX8_comes_103 ?_
              refine gn_iadd dX8_comes_104 ?_
              refine g_iload 0 rfl dX8_comes_105 ?_
              refine gn_iadd dX8_comes_107 ?_
              refine g_iload 1 rfl dX8_comes_108 ?_
              refine gn_bp 10 (by decide) dX8_comes_110 ?_
              refine gn_irem (by omega) (by omega) (by omega) dX8_comes_112 ?_
              refine gn_iast MW_3 (by omega) (by decide) MW_s3 dX8_comes_113 ?_
              refine g_iload 1 rfl dX8_comes_114 ?_
              refine gn_bp 10 (by decide) dX8_comes_116 ?_
              refine gn_idiv (by omega) (by omega) (by omega) dX8_comes_118 ?_
              refine g_istore (lv2 := [(5, _), (6, _), (0, _), (1, _), (2, _), (3, _), (4, _)]) (by decide) rfl dX8_comes_119 ?_
              refine g_iinc (v := nI 1) (lv2 := [(6, _), (5, _), (0, _), (1, _), (2, _), (3, _), (4, _)]) 1 rfl (by decide) (by decide) rfl dX8_comes_121 ?_
              refine g_goto (tgt := 92) (by decide) dX8_comes_124 ?_
              refine g_iload 0 rfl dX8_comes_92 ?_
              refine g_if_lt (tgt := 127) (by decide) dX8_comes_94 (fun cc5 => ?_) (fun cc5 => ?_)
              · -- t 127
                exact absurd cc5 (by decide)
              · -- f 97
                refine m_get 2 rfl f_X8_19 rfl dX8_comes_97 dX8_comes_98 ?_
                refine g_iload 6 rfl dX8_comes_101 ?_
                refine gn_ic 5 (by decide) dX8_comes_103 ?_
                refine gn_iadd dX8_comes_104 ?_
                refine g_iload 0 rfl dX8_comes_105 ?_
                refine gn_iadd dX8_comes_107 ?_
                refine g_iload 1 rfl dX8_comes_108 ?_
                refine gn_bp 10 (by decide) dX8_comes_110 ?_
                refine gn_irem (by omega) (by omega) (by omega) dX8_comes_112 ?_
                refine gn_iast MW_3 (by omega) (by decide) MW_s3 dX8_comes_113 ?_
                refine g_iload 1 rfl dX8_comes_114 ?_
                refine gn_bp 10 (by decide) dX8_comes_116 ?_
                refine gn_idiv (by omega) (by omega) (by omega) dX8_comes_118 ?_
                refine g_istore (lv2 := [(5, _), (6, _), (0, _), (1, _), (2, _), (3, _), (4, _)]) (by decide) rfl dX8_comes_119 ?_
                refine g_iinc (v := nI 0) (lv2 := [(6, _), (5, _), (0, _), (1, _), (2, _), (3, _), (4, _)]) 1 rfl (by decide) (by decide) rfl dX8_comes_121 ?_
                refine g_goto (tgt := 92) (by decide) dX8_comes_124 ?_
                refine g_iload 0 rfl dX8_comes_92 ?_
                refine g_if_lt (tgt := 127) (by decide) dX8_comes_94 (fun cc6 => ?_) (fun cc6 => ?_)
                · -- t 127
                  exact absurd cc6 (by decide)
                · -- f 97
                  refine m_get 2 rfl f_X8_19 rfl dX8_comes_97 dX8_comes_98 ?_
                  refine g_iload 6 rfl dX8_comes_101 ?_
                  refine gn_ic 5 (by decide) dX8_comes_103 ?_
                  refine gn_iadd dX8_comes_104 ?_
                  refine g_iload 0 rfl dX8_comes_105 ?_
                  refine gn_iadd0 dX8_comes_107 ?_
                  refine g_iload 1 rfl dX8_comes_108 ?_
                  refine gn_bp 10 (by decide) dX8_comes_110 ?_
                  refine gn_irem (by omega) (by omega) (by omega) dX8_comes_112 ?_
                  refine gn_iast MW_3 (by omega) (by decide) MW_s3 dX8_comes_113 ?_
                  refine g_iload 1 rfl dX8_comes_114 ?_
                  refine gn_bp 10 (by decide) dX8_comes_116 ?_
                  refine gn_idiv (by omega) (by omega) (by omega) dX8_comes_118 ?_
                  refine g_istore (lv2 := [(5, _), (6, _), (0, _), (1, _), (2, _), (3, _), (4, _)]) (by decide) rfl dX8_comes_119 ?_
                  refine g_iinc (v := -1) (lv2 := [(6, _), (5, _), (0, _), (1, _), (2, _), (3, _), (4, _)]) 1 rfl (by decide) (by decide) rfl dX8_comes_121 ?_
                  refine g_goto (tgt := 92) (by decide) dX8_comes_124 ?_
                  refine g_iload 0 rfl dX8_comes_92 ?_
                  refine g_if_lt (tgt := 127) (by decide) dX8_comes_94 (fun cc7 => ?_) (fun cc7 => ?_)
                  · -- t 127
                    refine m_get 2 rfl f_X8_19 rfl dX8_comes_127 dX8_comes_128 ?_
                    refine gn_bp 7 (by decide) dX8_comes_131 ?_
                    refine g_dup2 rfl rfl dX8_comes_133 ?_
                    refine gn_iald MW_3 (by omega) (by decide) dX8_comes_134 ?_
                    refine gn_ic 1 (by decide) dX8_comes_135 ?_
                    refine g_iadd dX8_comes_136 ?_
                    refine gn_iast MW_3 (by omega) (by decide) MW_s3 dX8_comes_137 ?_
                    exact g_vret ⟨rfl, rfl, rfl⟩ rfl dX8_comes_138
                  · -- f 97
                    exact absurd cc7 (by decide)
      · -- f 22
        exfalso; omega
    | succ m15 ih15 =>
      intro i15 hi15
      refine g_iload 5 rfl dX8_comes_15 ?_
      refine gn_bp 16 (by decide) dX8_comes_17 ?_
      refine gn_icmp_ge (by omega) (by omega) (tgt := 39) (by decide) dX8_comes_19 (fun cc8 => ?_) (fun cc8 => ?_)
      · -- t 39
        exfalso; omega
      · -- f 22
        refine m_get 0 rfl f_X8_19 rfl dX8_comes_22 dX8_comes_23 ?_
        refine g_iload 4 rfl dX8_comes_26 ?_
        refine g_iload 5 rfl dX8_comes_28 ?_
        refine gn_iadd dX8_comes_30 ?_
        refine gn_ic 0 (by decide) dX8_comes_31 ?_
        refine gn_iast (E2 := MW Γ mo F I A (zro f (13 + 16 * c) (i15 + 1))) MW_3 (by omega) (by decide) (by rw [MW_s3, zro_s]) dX8_comes_32 ?_
        refine gn_inc (lv2 := [(5, _), (0, _), (1, _), (2, _), (3, _), (4, _)]) 5 rfl (by decide) rfl dX8_comes_33 ?_
        refine g_goto (tgt := 15) (by decide) dX8_comes_36 ?_
        refine G.sub [1, 2, 3, 4, 5, 0] rfl ?_
        exact ih15 (i15 + 1) (by omega)
  refine G.sub [2, 3, 4, 5, 1, 0] rfl ?_
  refine g_world (E2 := MW Γ mo F I A (zro f (13 + 16 * c) 0)) (by rw [zro_0]) ?_
  exact L15 _ 0 (Nat.zero_add _)
set_option maxRecDepth 100000 in
set_option maxHeartbeats 4000000 in
theorem c_X8_pays {Γ : Gm} {mo n : Nat} {F : Hp} {I : Nat → Int32} {A : Nat → Nat → Int32} {f : Nat → Int32} {k : Nat} {x : Int32} (hk : k < 12) : Ct Γ 2 MX8_pays 0 0 [.ref mo, .int (nI k), .int x] (MW Γ mo F I A f) n (Rt none (MW Γ mo F I A (payF f k x)) n) X0 := by
  refine Ct.of (by decide +kernel) rfl (Nat.le_of_ble_eq_true rfl) ?_
  refine G.sub (lv2 := [(0, _), (1, _), (2, _)]) [0, 1, 2] rfl ?_
  refine m_get 0 rfl f_X8_19 rfl dX8_pays_0 dX8_pays_1 ?_
  refine g_iload_n 1 rfl dX8_pays_4 ?_
  refine gv_S (c_X8_l ) l_X8_56 rfl (Nat.le_of_ble_eq_true rfl) (Nat.le_of_ble_eq_true rfl) rfl dX8_pays_5 ?_
  refine gn_ic 1 (by decide) dX8_pays_8 ?_
  refine gn_iadd dX8_pays_9 ?_
  refine g_dup2 rfl rfl dX8_pays_10 ?_
  refine gn_iald MW_3 (by omega) (by decide) dX8_pays_11 ?_
  refine g_iload_n 2 rfl dX8_pays_12 ?_
  refine g_iadd dX8_pays_13 ?_
  refine gn_iast MW_3 (by omega) (by decide) MW_s3 dX8_pays_14 ?_
  refine m_get 0 rfl f_X8_19 rfl dX8_pays_15 dX8_pays_16 ?_
  refine gn_bp 10 (by decide) dX8_pays_19 ?_
  refine g_dup2 rfl rfl dX8_pays_21 ?_
  refine gn_iald MW_3 (by omega) (by decide) dX8_pays_22 ?_
  refine g_iload_n 2 rfl dX8_pays_23 ?_
  refine g_iadd dX8_pays_24 ?_
  refine gn_iast MW_3 (by omega) (by decide) MW_s3 dX8_pays_25 ?_
  exact g_vret ⟨rfl, rfl, rfl⟩ rfl dX8_pays_26
set_option maxRecDepth 100000 in
set_option maxHeartbeats 4000000 in
theorem c_X8_sets {Γ : Gm} {mo n : Nat} {F : Hp} {I : Nat → Int32} {A : Nat → Nat → Int32} {f : Nat → Int32} {p m : Nat} {x : Int32} (hm : I 6 = nI m) (hm10 : m ≤ 10) (hp : p < 205) : Ct Γ 2 MX8_sets 0 0 [.ref mo, .int (nI p), .int x] (MW Γ mo F I A f) n (Rt (some (.int (f p))) (MW Γ mo F (upd I 6 (nI (remM m))) (updA A 4 (remO (A 4) f m)) (upd f p x)) n) X0 := by
  refine Ct.of (by decide +kernel) rfl (Nat.le_of_ble_eq_true rfl) ?_
  refine G.sub (lv2 := [(0, _), (1, _), (2, _)]) [0, 1, 2] rfl ?_
  refine g_aload_n 0 rfl dX8_sets_0 ?_
  refine gu_V (c_X8_remembers (by assumption) (by assumption)) l_X8_279 rfl m_rcv (Nat.le_of_ble_eq_true rfl) (Nat.le_of_ble_eq_true rfl) rfl dX8_sets_1 ?_
  refine m_get 0 rfl f_X8_19 rfl dX8_sets_4 dX8_sets_5 ?_
  refine g_iload_n 1 rfl dX8_sets_8 ?_
  refine gn_iald MW_3 (by omega) (by decide) dX8_sets_9 ?_
  refine g_istore_n (lv2 := [(3, _), (0, _), (1, _), (2, _)]) (by decide) rfl dX8_sets_10 ?_
  refine m_get 1 rfl f_X8_19 rfl dX8_sets_11 dX8_sets_12 ?_
  refine g_iload_n 2 rfl dX8_sets_15 ?_
  refine g_iload_n 3 rfl dX8_sets_16 ?_
  refine gn_iast MW_3 (by omega) (by decide) MW_s3 dX8_sets_17 ?_
  refine g_iload_n 0 rfl dX8_sets_18 ?_
  exact g_iret ⟨rfl, rfl, rfl⟩ rfl rfl dX8_sets_19
end GM4
