section GM11
set_option maxRecDepth 100000 in
set_option maxHeartbeats 4000000 in
theorem c_X8_writes {Γ : Gm} {mo n : Nat} {F : Hp} {I : Nat → Int32} {A : Nat → Nat → Int32} {f : Nat → Int32} {m : Nat} {x : Int32} (hm : I 16 = nI m) (hm6 : m < 60) : Ct Γ 1 MX8_writes 0 0 [.ref mo, .int x] (MW Γ mo F I A f) n (Rt none (MW Γ mo F (upd I 16 (nI (m + 1))) (updA A 9 (upd (A 9) m (chr x))) f) n) X0 := by
  refine Ct.of (by decide +kernel) rfl (Nat.le_of_ble_eq_true rfl) ?_
  refine G.sub (lv2 := [(0, _), (1, _)]) [0, 1] rfl ?_
  refine m_get 0 rfl f_X8_45 rfl dX8_writes_0 dX8_writes_1 ?_
  refine m_get 0 rfl f_X8_289 rfl dX8_writes_4 dX8_writes_5 ?_
  refine g_top (y := nI m) hm ?_
  refine g_iload_n 1 rfl dX8_writes_8 ?_
  refine g_i2c dX8_writes_9 ?_
  refine gn_cast (E2 := MW Γ mo F I (updA A 9 (upd (A 9) m (chr x))) f) MW_10 (by omega) (by decide) (by rw [show vp_nar .char ((x.toUInt32 % 65536).toInt32) = chr x from chr_v, MW_s10]) dX8_writes_10 ?_
  refine g_aload_n 0 rfl dX8_writes_11 ?_
  refine g_dup rfl dX8_writes_12 ?_
  refine m_getS f_X8_289 rfl dX8_writes_13 ?_
  refine g_top (y := nI m) hm ?_
  refine gn_ic 1 (by decide) dX8_writes_16 ?_
  refine gn_iadd dX8_writes_17 ?_
  refine m_put f_X8_289 w_X8_16 (by decide) rfl dX8_writes_18 ?_
  exact g_vret ⟨rfl, rfl, rfl⟩ rfl dX8_writes_21
set_option maxRecDepth 100000 in
set_option maxHeartbeats 4000000 in
theorem c_X8_writesName {Γ : Gm} {mo n : Nat} {F : Hp} {I : Nat → Int32} {A : Nat → Nat → Int32} {f : Nat → Int32} {k m : Nat} (hm : I 16 = nI m) (hk : k < 12) (hm6 : m + (lenN f k) ≤ 60) : Ct Γ 3 MX8_writesName 0 0 [.ref mo, .int (nI k)] (MW Γ mo F I A f) n (Rt none (MW Γ mo F (upd I 16 (nI (m + (lenN f k)))) (updA A 9 (wrN (A 9) f m k (lenN f k))) f) n) X0 := by
  refine Ct.of (by decide +kernel) rfl (Nat.le_of_ble_eq_true rfl) ?_
  rw [show MW Γ mo F I A f = MW Γ mo F (upd I 16 (nI (m + 0))) (updA A 9 (wrN (A 9) f m k 0)) f from by rw [upd_id (show I 16 = nI (m + 0) from hm), show wrN (A 9) f m k 0 = A 9 from rfl, updA_id]]
  have hl6 := lenN_le (f := f) (k := k)
  refine G.sub (lv2 := [(0, _), (1, _)]) [0, 1] rfl ?_
  refine gn_ic 0 (by decide) dX8_writesName_0 ?_
  refine g_istore_n (lv2 := [(2, _), (0, _), (1, _)]) (by decide) rfl dX8_writesName_1 ?_
  have L2 : ∀ (m2 i2 : Nat), i2 + m2 = (lenN f k) → G Γ 3 MX8_writesName (Rt none (MW Γ mo F (upd I 16 (nI (m + (lenN f k)))) (updA A 9 (wrN (A 9) f m k (lenN f k))) f) n) X0 2 [(0, .ref mo), (1, .int (nI k)), (2, .int (nI i2))] [] (MW Γ mo F (upd I 16 (nI (m + i2))) (updA A 9 (wrN (A 9) f m k i2)) f) n 0 0 := by
    intro m2
    induction m2 with
    | zero =>
      intro i2 hi2
      refine g_iload_n 2 rfl dX8_writesName_2 ?_
      refine g_aload_n 0 rfl dX8_writesName_3 ?_
      refine g_iload_n 1 rfl dX8_writesName_4 ?_
      refine gv_V (c_X8_lettersOf (by omega)) l_X8_255 rfl m_rcv (Nat.le_of_ble_eq_true rfl) (Nat.le_of_ble_eq_true rfl) rfl dX8_writesName_5 ?_
      refine gn_icmp_ge (by omega) (by omega) (tgt := 35) (by decide) dX8_writesName_8 (fun cc1 => ?_) (fun cc1 => ?_)
      · -- t 35
        obtain rfl : i2 = (lenN f k) := by omega
        exact g_vret ⟨rfl, rfl, rfl⟩ rfl dX8_writesName_35
      · -- f 11
        exfalso; omega
    | succ m2 ih2 =>
      intro i2 hi2
      refine g_iload_n 2 rfl dX8_writesName_2 ?_
      refine g_aload_n 0 rfl dX8_writesName_3 ?_
      refine g_iload_n 1 rfl dX8_writesName_4 ?_
      refine gv_V (c_X8_lettersOf (by omega)) l_X8_255 rfl m_rcv (Nat.le_of_ble_eq_true rfl) (Nat.le_of_ble_eq_true rfl) rfl dX8_writesName_5 ?_
      refine gn_icmp_ge (by omega) (by omega) (tgt := 35) (by decide) dX8_writesName_8 (fun cc2 => ?_) (fun cc2 => ?_)
      · -- t 35
        exfalso; omega
      · -- f 11
        refine g_aload_n 0 rfl dX8_writesName_11 ?_
        refine m_get 0 rfl f_X8_19 rfl dX8_writesName_12 dX8_writesName_13 ?_
        refine g_iload_n 1 rfl dX8_writesName_16 ?_
        refine gv_S (c_X8_l ) l_X8_56 rfl (Nat.le_of_ble_eq_true rfl) (Nat.le_of_ble_eq_true rfl) rfl dX8_writesName_17 ?_
        refine gn_bp 10 (by decide) dX8_writesName_20 ?_
        refine gn_iadd dX8_writesName_22 ?_
        refine g_iload_n 2 rfl dX8_writesName_23 ?_
        refine gn_iadd dX8_writesName_24 ?_
        refine gn_iald MW_3 (by omega) (by decide) dX8_writesName_25 ?_
        refine gu_V (c_X8_writes (m := m + i2) pk_us (by omega)) l_X8_292 rfl m_rcv (Nat.le_of_ble_eq_true rfl) (Nat.le_of_ble_eq_true rfl) rfl dX8_writesName_26 ?_
        rw [upd_upd, updA_updA, updA_s]
        refine gn_inc (lv2 := [(2, _), (0, _), (1, _)]) 2 rfl (by decide) rfl dX8_writesName_29 ?_
        refine g_goto (tgt := 2) (by decide) dX8_writesName_32 ?_
        refine G.sub [1, 2, 0] rfl ?_
        exact ih2 (i2 + 1) (by omega)
  refine G.sub [1, 2, 0] rfl ?_
  exact L2 _ 0 (Nat.zero_add _)
set_option maxRecDepth 100000 in
set_option maxHeartbeats 4000000 in
theorem r_wn {Γ : Gm} {mo n : Nat} {F : Hp} {I : Nat → Int32} {A : Nat → Nat → Int32} {f : Nat → Int32} {m w : Nat} {v : Int32} (hm : I 16 = nI m) (hw : iabs v = nI w) (hw31 : w < 2 ^ 31) (hm6 : m + 10 ≤ 60) : G Γ 2 MX8_writesNumber (Rt none (MW Γ mo F (upd I 16 (nI (m + (sb_dg w)))) (updA A 9 (wrD (A 9) m w (sb_dg w) (sb_dg w))) f) n) X0 10 [(0, .ref mo), (1, .int v)] [] (MW Γ mo F I A f) n 0 0 := by
  have hD := sb_dg_in w
  refine G.sub (lv2 := [(0, _), (1, _)]) [0, 1] rfl ?_
  refine g_iload_n 1 rfl dX8_writesNumber_10 ?_
  refine gv_S (c_X8_without ) l_X8_77 rfl (Nat.le_of_ble_eq_true rfl) (Nat.le_of_ble_eq_true rfl) rfl dX8_writesNumber_11 ?_
  refine g_top (y := nI w) hw ?_
  refine g_istore_n (lv2 := [(2, _), (0, _), (1, _)]) (by decide) rfl dX8_writesNumber_14 ?_
  refine gn_ic 1 (by decide) dX8_writesNumber_15 ?_
  refine g_istore_n (lv2 := [(3, _), (2, _), (0, _), (1, _)]) (by decide) rfl dX8_writesNumber_16 ?_
  have L17 : ∀ (m17 : Nat) (j : Nat), (j + m17 = 9) → (j = 0 ∨ 10 ^ j ≤ w) → G Γ 2 MX8_writesNumber (Rt none (MW Γ mo F (upd I 16 (nI (m + (sb_dg w)))) (updA A 9 (wrD (A 9) m w (sb_dg w) (sb_dg w))) f) n) X0 17 [(0, .ref mo), (1, .int v), (2, .int (nI w)), (3, .int (nI (10 ^ j)))] [] (MW Γ mo F I A f) n 0 0 := by
    intro m17
    induction m17 with
    | zero =>
      intro j hj h1
      have hp := p10_le (show j ≤ 9 by omega)
      have hp0 := p10_pos j
      refine g_iload_n 2 rfl dX8_writesNumber_17 ?_
      refine g_iload_n 3 rfl dX8_writesNumber_18 ?_
      refine gn_idiv (by omega) hp0 (by omega) dX8_writesNumber_19 ?_
      refine gn_bp 9 (by decide) dX8_writesNumber_20 ?_
      refine gn_icmp_le (by have := Nat.div_le_self w (10 ^ j); omega) (by omega) (tgt := 33) (by decide) dX8_writesNumber_22 (fun h22 => ?_) (fun h22 => ?_)
      · -- t 33
        have hdj : (sb_dg w) = j + 1 := dg_is hw31 (by omega) h1 (by omega)
        have L33 : ∀ (m33 : Nat) (i : Nat), (i + m33 = (sb_dg w)) → G Γ 2 MX8_writesNumber (Rt none (MW Γ mo F (upd I 16 (nI (m + (sb_dg w)))) (updA A 9 (wrD (A 9) m w (sb_dg w) (sb_dg w))) f) n) X0 33 [(0, .ref mo), (2, .int (nI w)), (3, .int (nI (unD (sb_dg w) i)))] [] (MW Γ mo F (upd I 16 (nI (m + i))) (updA A 9 (wrD (A 9) m w (sb_dg w) i)) f) n 0 0 := by
          intro m33
          induction m33 with
          | zero =>
            intro i hi
            have hu : (unD (sb_dg w) i) = 0 := if_neg (by omega)
            refine g_iload_n 2 rfl dX8_writesNumber_33 ?_
            refine gn_if_le (by omega) (tgt := 58) (by decide) dX8_writesNumber_34 (fun h34 => ?_) (fun h34 => ?_)
            · -- t 58
              obtain rfl : i = (sb_dg w) := by omega
              exact g_vret ⟨rfl, rfl, rfl⟩ rfl dX8_writesNumber_58
            · -- f 37
              exact absurd hu h34
          | succ m33 ih33 =>
            intro i hi
            have hu := unD_lt (D := (sb_dg w)) (i := i) hD.2
            have hu2 := unD_t (show i < (sb_dg w) by omega)
            have hp0 := p10_pos ((sb_dg w) - 1 - i)
            refine g_iload_n 2 rfl dX8_writesNumber_33 ?_
            refine gn_if_le (by omega) (tgt := 58) (by decide) dX8_writesNumber_34 (fun h34 => ?_) (fun h34 => ?_)
            · -- t 58
              exfalso; omega
            · -- f 37
              refine g_aload_n 0 rfl dX8_writesNumber_37 ?_
              refine gn_bp 48 (by decide) dX8_writesNumber_38 ?_
              refine g_iload_n 1 rfl dX8_writesNumber_40 ?_
              refine g_iload_n 2 rfl dX8_writesNumber_41 ?_
              refine gn_idiv (by omega) (by omega) (by omega) dX8_writesNumber_42 ?_
              refine gn_bp 10 (by decide) dX8_writesNumber_43 ?_
              refine gn_irem (by have := Nat.div_le_self w (unD (sb_dg w) i); omega) (by decide) (by decide) dX8_writesNumber_45 ?_
              refine gn_iadd dX8_writesNumber_46 ?_
              refine gu_V (c_X8_writes (m := m + i) pk_us (by omega)) l_X8_292 rfl m_rcv (Nat.le_of_ble_eq_true rfl) (Nat.le_of_ble_eq_true rfl) rfl dX8_writesNumber_47 ?_
              rw [upd_upd, updA_updA, updA_s]
              rw [hu2]
              refine g_iload_n 2 rfl dX8_writesNumber_50 ?_
              refine gn_bp 10 (by decide) dX8_writesNumber_51 ?_
              refine gn_idiv (by have := p10_le (show (sb_dg w) - 1 - i ≤ 9 by omega); omega) (by decide) (by decide) dX8_writesNumber_53 ?_
              refine g_istore_n (lv2 := [(3, _), (0, _), (2, _)]) (by decide) rfl dX8_writesNumber_54 ?_
              refine g_goto (tgt := 33) (by decide) dX8_writesNumber_55 ?_
              refine G.sub [1, 2, 0] rfl ?_
              exact (by have h := ih33 (i + 1) (by omega); rw [← unD_s (show i < (sb_dg w) by omega), hu2] at h; exact h)
        refine G.sub [0, 2, 3] rfl ?_
        rw [show MW Γ mo F I A f = MW Γ mo F (upd I 16 (nI (m + 0))) (updA A 9 (wrD (A 9) m w (sb_dg w) 0)) f from by rw [upd_id (show I 16 = nI (m + 0) from hm), show wrD (A 9) m w (sb_dg w) 0 = A 9 from rfl, updA_id]]
        rw [show 10 ^ j = (unD (sb_dg w) 0) from by rw [hdj, unD_t (by omega)]; rfl]
        exact L33 (sb_dg w) 0 (by omega)
      · -- f 25
        exact absurd (show w / 10 ^ j ≤ 9 by rw [show j = 9 by omega, show 10 ^ 9 = 1000000000 from by decide]; omega) h22
    | succ m17 ih17 =>
      intro j hj h1
      have hp := p10_le (show j ≤ 9 by omega)
      have hp0 := p10_pos j
      refine g_iload_n 2 rfl dX8_writesNumber_17 ?_
      refine g_iload_n 3 rfl dX8_writesNumber_18 ?_
      refine gn_idiv (by omega) hp0 (by omega) dX8_writesNumber_19 ?_
      refine gn_bp 9 (by decide) dX8_writesNumber_20 ?_
      refine gn_icmp_le (by have := Nat.div_le_self w (10 ^ j); omega) (by omega) (tgt := 33) (by decide) dX8_writesNumber_22 (fun h22 => ?_) (fun h22 => ?_)
      · -- t 33
        have hdj : (sb_dg w) = j + 1 := dg_is hw31 (by omega) h1 (by omega)
        have L33 : ∀ (m33 : Nat) (i : Nat), (i + m33 = (sb_dg w)) → G Γ 2 MX8_writesNumber (Rt none (MW Γ mo F (upd I 16 (nI (m + (sb_dg w)))) (updA A 9 (wrD (A 9) m w (sb_dg w) (sb_dg w))) f) n) X0 33 [(0, .ref mo), (2, .int (nI w)), (3, .int (nI (unD (sb_dg w) i)))] [] (MW Γ mo F (upd I 16 (nI (m + i))) (updA A 9 (wrD (A 9) m w (sb_dg w) i)) f) n 0 0 := by
          intro m33
          induction m33 with
          | zero =>
            intro i hi
            have hu : (unD (sb_dg w) i) = 0 := if_neg (by omega)
            refine g_iload_n 2 rfl dX8_writesNumber_33 ?_
            refine gn_if_le (by omega) (tgt := 58) (by decide) dX8_writesNumber_34 (fun h34 => ?_) (fun h34 => ?_)
            · -- t 58
              obtain rfl : i = (sb_dg w) := by omega
              exact g_vret ⟨rfl, rfl, rfl⟩ rfl dX8_writesNumber_58
            · -- f 37
              exact absurd hu h34
          | succ m33 ih33 =>
            intro i hi
            have hu := unD_lt (D := (sb_dg w)) (i := i) hD.2
            have hu2 := unD_t (show i < (sb_dg w) by omega)
            have hp0 := p10_pos ((sb_dg w) - 1 - i)
            refine g_iload_n 2 rfl dX8_writesNumber_33 ?_
            refine gn_if_le (by omega) (tgt := 58) (by decide) dX8_writesNumber_34 (fun h34 => ?_) (fun h34 => ?_)
            · -- t 58
              exfalso; omega
            · -- f 37
              refine g_aload_n 0 rfl dX8_writesNumber_37 ?_
              refine gn_bp 48 (by decide) dX8_writesNumber_38 ?_
              refine g_iload_n 1 rfl dX8_writesNumber_40 ?_
              refine g_iload_n 2 rfl dX8_writesNumber_41 ?_
              refine gn_idiv (by omega) (by omega) (by omega) dX8_writesNumber_42 ?_
              refine gn_bp 10 (by decide) dX8_writesNumber_43 ?_
              refine gn_irem (by have := Nat.div_le_self w (unD (sb_dg w) i); omega) (by decide) (by decide) dX8_writesNumber_45 ?_
              refine gn_iadd dX8_writesNumber_46 ?_
              refine gu_V (c_X8_writes (m := m + i) pk_us (by omega)) l_X8_292 rfl m_rcv (Nat.le_of_ble_eq_true rfl) (Nat.le_of_ble_eq_true rfl) rfl dX8_writesNumber_47 ?_
              rw [upd_upd, updA_updA, updA_s]
              rw [hu2]
              refine g_iload_n 2 rfl dX8_writesNumber_50 ?_
              refine gn_bp 10 (by decide) dX8_writesNumber_51 ?_
              refine gn_idiv (by have := p10_le (show (sb_dg w) - 1 - i ≤ 9 by omega); omega) (by decide) (by decide) dX8_writesNumber_53 ?_
              refine g_istore_n (lv2 := [(3, _), (0, _), (2, _)]) (by decide) rfl dX8_writesNumber_54 ?_
              refine g_goto (tgt := 33) (by decide) dX8_writesNumber_55 ?_
              refine G.sub [1, 2, 0] rfl ?_
              exact (by have h := ih33 (i + 1) (by omega); rw [← unD_s (show i < (sb_dg w) by omega), hu2] at h; exact h)
        refine G.sub [0, 2, 3] rfl ?_
        rw [show MW Γ mo F I A f = MW Γ mo F (upd I 16 (nI (m + 0))) (updA A 9 (wrD (A 9) m w (sb_dg w) 0)) f from by rw [upd_id (show I 16 = nI (m + 0) from hm), show wrD (A 9) m w (sb_dg w) 0 = A 9 from rfl, updA_id]]
        rw [show 10 ^ j = (unD (sb_dg w) 0) from by rw [hdj, unD_t (by omega)]; rfl]
        exact L33 (sb_dg w) 0 (by omega)
      · -- f 25
        refine g_iload_n 3 rfl dX8_writesNumber_25 ?_
        refine gn_bp 10 (by decide) dX8_writesNumber_26 ?_
        refine gn_imul dX8_writesNumber_28 ?_
        refine g_istore_n (lv2 := [(3, _), (0, _), (1, _), (2, _)]) (by decide) rfl dX8_writesNumber_29 ?_
        refine g_goto (tgt := 17) (by decide) dX8_writesNumber_30 ?_
        refine G.sub [1, 2, 3, 0] rfl ?_
        exact (by have h := ih17 (j + 1) (by omega) (Or.inr (by have := Nat.div_mul_le_self w (10 ^ j); have h8 : 10 * 10 ^ j ≤ w / 10 ^ j * 10 ^ j := Nat.mul_le_mul_right _ (by omega); rw [Nat.pow_succ]; omega)); rw [Nat.pow_succ] at h; exact h)
  refine G.sub [2, 3, 1, 0] rfl ?_
  exact L17 9 0 rfl (Or.inl rfl)
set_option maxRecDepth 100000 in
set_option maxHeartbeats 4000000 in
theorem c_X8_writesNumber {Γ : Gm} {mo n : Nat} {F : Hp} {I : Nat → Int32} {A : Nat → Nat → Int32} {f : Nat → Int32} {m w : Nat} {v : Int32} (hm : I 16 = nI m) (hw : iabs v = nI w) (hw31 : w < 2 ^ 31) (hm6 : m + 11 ≤ 60) : Ct Γ 2 MX8_writesNumber 0 0 [.ref mo, .int v] (MW Γ mo F I A f) n (Rt none (MW Γ mo F (upd I 16 (nI (wnM m v))) (updA A 9 (wnO (A 9) m v)) f) n) X0 := by
  refine Ct.of (by decide +kernel) rfl (Nat.le_of_ble_eq_true rfl) ?_
  have hw2 : (iabs v).toNatClampNeg = w := by rw [hw, nI_clamp hw31]
  refine G.sub (lv2 := [(0, _), (1, _)]) [0, 1] rfl ?_
  refine g_iload_n 1 rfl dX8_writesNumber_0 ?_
  refine g_if_ge (tgt := 10) (by decide) dX8_writesNumber_1 (fun h1 => ?_) (fun h1 => ?_)
  · -- t 10
    refine G.weak (P := (Rt none (MW Γ mo F (upd I 16 (nI (m + (sb_dg w)))) (updA A 9 (wrD (A 9) m w (sb_dg w) (sb_dg w))) f) n)) (X := X0) ?_ (fun v1 E1 n1 z => by unfold wnO wnM; rw [if_neg (Int32.not_lt.mpr h1), if_neg (Int32.not_lt.mpr h1), hw2]; exact z) (fun _ _ _ z => z)
    exact G.sub [0, 1] rfl (r_wn hm hw hw31 (by omega))
  · -- f 4
    refine g_aload_n 0 rfl dX8_writesNumber_4 ?_
    refine gn_bp 45 (by decide) dX8_writesNumber_5 ?_
    refine gu_V (c_X8_writes (m := m) hm (by omega)) l_X8_292 rfl m_rcv (Nat.le_of_ble_eq_true rfl) (Nat.le_of_ble_eq_true rfl) rfl dX8_writesNumber_7 ?_
    refine G.weak (P := (Rt none (MW Γ mo F (upd (upd I 16 (nI (m + 1))) 16 (nI (m + 1 + (sb_dg w)))) (updA (updA A 9 (upd (A 9) m (chr (nI 45)))) 9 (wrD (updA A 9 (upd (A 9) m (chr (nI 45))) 9) (m + 1) w (sb_dg w) (sb_dg w))) f) n)) (X := X0) ?_ (fun v1 E1 n1 z => by unfold wnO wnM; rw [if_pos (Int32.not_le.mp h1), if_pos (Int32.not_le.mp h1), hw2]; rw [upd_upd, updA_updA, updA_s] at z; exact z) (fun _ _ _ z => z)
    exact G.sub [0, 1] rfl (r_wn (m := m + 1) pk_us hw hw31 (by omega))
set_option maxRecDepth 100000 in
set_option maxHeartbeats 4000000 in
theorem c_X8_writeLodger_ok {Γ : Gm} {mo n : Nat} {F : Hp} {I : Nat → Int32} {A : Nat → Nat → Int32} {f : Nat → Int32} {k c w : Nat} (hc : f 7 = nI c) (hc12 : c ≤ 12) (hk : k < c) (hw : iabs (f (13 + 16 * k + 1)) = nI w) (hw31 : w < 2 ^ 31) : Ct Γ 4 MX8_writeLodger 0 0 [.ref mo, .int (nI k)] (MW Γ mo F I A f) n (Rt (some (.int (nI (wnM ((lenN f k) + 1 + 5 + 1) (f (13 + 16 * k + 1)))))) (MW Γ mo F (upd (upd I 16 (nI ((wnM ((lenN f k) + 1 + 5 + 1) (f (13 + 16 * k + 1)))))) 2 (nI 0)) (updA A 9 ((wnO (upd (wrP (upd (wrN (A 9) f 0 k (lenN f k)) (lenN f k) (chr (nI 32))) f ((lenN f k) + 1) k 5) ((lenN f k) + 1 + 5) (chr (nI 32))) ((lenN f k) + 1 + 5 + 1) (f (13 + 16 * k + 1))))) f) n) X0 := by
  refine Ct.of (by decide +kernel) rfl (Nat.le_of_ble_eq_true rfl) ?_
  have hl6 := lenN_le (f := f) (k := k)
  refine G.sub (lv2 := [(0, _), (1, _)]) [0, 1] rfl ?_
  refine g_aload_n 0 rfl dX8_writeLodger_0 ?_
  refine g_iload_n 1 rfl dX8_writeLodger_1 ?_
  refine gv_V (c_X8_isLodger hc) l_X8_249 rfl m_rcv (Nat.le_of_ble_eq_true rfl) (Nat.le_of_ble_eq_true rfl) rfl dX8_writeLodger_2 ?_
  refine g_if_ne (tgt := 14) (by decide) dX8_writeLodger_5 (fun h5 => ?_) (fun h5 => ?_)
  · -- t 14
    refine g_aload_n 0 rfl dX8_writeLodger_14 ?_
    refine gn_ic 0 (by decide) dX8_writeLodger_15 ?_
    refine m_put f_X8_289 w_X8_16 (by decide) rfl dX8_writeLodger_16 ?_
    refine g_aload_n 0 rfl dX8_writeLodger_19 ?_
    refine g_iload_n 1 rfl dX8_writeLodger_20 ?_
    refine gu_V (c_X8_writesName (m := 0) pk_us (by omega) (by omega)) l_X8_295 rfl m_rcv (Nat.le_of_ble_eq_true rfl) (Nat.le_of_ble_eq_true rfl) rfl dX8_writeLodger_21 ?_
    rw [upd_upd, Nat.zero_add]
    refine g_aload_n 0 rfl dX8_writeLodger_24 ?_
    refine gn_bp 32 (by decide) dX8_writeLodger_25 ?_
    refine gu_V (c_X8_writes (m := (lenN f k)) pk_us (by omega)) l_X8_292 rfl m_rcv (Nat.le_of_ble_eq_true rfl) (Nat.le_of_ble_eq_true rfl) rfl dX8_writeLodger_27 ?_
    rw [upd_upd, updA_updA, updA_s]
    refine gn_ic 0 (by decide) dX8_writeLodger_30 ?_
    refine g_istore_n (lv2 := [(2, _), (0, _), (1, _)]) (by decide) rfl dX8_writeLodger_31 ?_
    have L32 : ∀ (m32 i32 : Nat), i32 + m32 = 5 → G Γ 4 MX8_writeLodger (Rt (some (.int (nI (wnM ((lenN f k) + 1 + 5 + 1) (f (13 + 16 * k + 1)))))) (MW Γ mo F (upd (upd I 16 (nI ((wnM ((lenN f k) + 1 + 5 + 1) (f (13 + 16 * k + 1)))))) 2 (nI 0)) (updA A 9 ((wnO (upd (wrP (upd (wrN (A 9) f 0 k (lenN f k)) (lenN f k) (chr (nI 32))) f ((lenN f k) + 1) k 5) ((lenN f k) + 1 + 5) (chr (nI 32))) ((lenN f k) + 1 + 5 + 1) (f (13 + 16 * k + 1))))) f) n) X0 32 [(0, .ref mo), (1, .int (nI k)), (2, .int (nI i32))] [] (MW Γ mo F (upd I 16 (nI ((lenN f k) + 1 + i32))) (updA A 9 ((wrP (upd (wrN (A 9) f 0 k (lenN f k)) (lenN f k) (chr (nI 32))) f ((lenN f k) + 1) k i32))) f) n 0 0 := by
      intro m32
      induction m32 with
      | zero =>
        intro i32 hi32
        refine g_iload_n 2 rfl dX8_writeLodger_32 ?_
        refine gn_ic 5 (by decide) dX8_writeLodger_33 ?_
        refine gn_icmp_ge (by omega) (by omega) (tgt := 56) (by decide) dX8_writeLodger_34 (fun cc1 => ?_) (fun cc1 => ?_)
        · -- t 56
          obtain rfl : i32 = 5 := by omega
          refine g_aload_n 0 rfl dX8_writeLodger_56 ?_
          refine gn_bp 32 (by decide) dX8_writeLodger_57 ?_
          refine gu_V (c_X8_writes (m := (lenN f k) + 1 + 5) pk_us (by omega)) l_X8_292 rfl m_rcv (Nat.le_of_ble_eq_true rfl) (Nat.le_of_ble_eq_true rfl) rfl dX8_writeLodger_59 ?_
          rw [upd_upd, updA_updA, updA_s]
          refine g_aload_n 0 rfl dX8_writeLodger_62 ?_
          refine m_get 0 rfl f_X8_19 rfl dX8_writeLodger_63 dX8_writeLodger_64 ?_
          refine g_iload_n 1 rfl dX8_writeLodger_67 ?_
          refine gv_S (c_X8_l ) l_X8_56 rfl (Nat.le_of_ble_eq_true rfl) (Nat.le_of_ble_eq_true rfl) rfl dX8_writeLodger_68 ?_
          refine gn_ic 1 (by decide) dX8_writeLodger_71 ?_
          refine gn_iadd dX8_writeLodger_72 ?_
          refine gn_iald MW_3 (by omega) (by decide) dX8_writeLodger_73 ?_
          refine gu_V (c_X8_writesNumber (m := (lenN f k) + 1 + 5 + 1) pk_us hw hw31 (by omega)) l_X8_298 rfl m_rcv (Nat.le_of_ble_eq_true rfl) (Nat.le_of_ble_eq_true rfl) rfl dX8_writeLodger_74 ?_
          rw [upd_upd, updA_updA, updA_s]
          refine g_aload_n 0 rfl dX8_writeLodger_77 ?_
          refine m_get 0 rfl f_X8_289 rfl dX8_writeLodger_78 dX8_writeLodger_79 ?_
          refine g_top (y := nI (wnM ((lenN f k) + 1 + 5 + 1) (f (13 + 16 * k + 1)))) pk_us ?_
          refine gv_V (c_X8_told ) l_X8_222 rfl m_rcv (Nat.le_of_ble_eq_true rfl) (Nat.le_of_ble_eq_true rfl) rfl dX8_writeLodger_82 ?_
          exact g_iret ⟨rfl, rfl, rfl⟩ rfl rfl dX8_writeLodger_85
        · -- f 37
          exfalso; omega
      | succ m32 ih32 =>
        intro i32 hi32
        refine g_iload_n 2 rfl dX8_writeLodger_32 ?_
        refine gn_ic 5 (by decide) dX8_writeLodger_33 ?_
        refine gn_icmp_ge (by omega) (by omega) (tgt := 56) (by decide) dX8_writeLodger_34 (fun cc2 => ?_) (fun cc2 => ?_)
        · -- t 56
          exfalso; omega
        · -- f 37
          refine g_aload_n 0 rfl dX8_writeLodger_37 ?_
          refine gn_bp 48 (by decide) dX8_writeLodger_38 ?_
          refine g_aload_n 0 rfl dX8_writeLodger_40 ?_
          refine g_iload_n 1 rfl dX8_writeLodger_41 ?_
          refine g_iload_n 2 rfl dX8_writeLodger_42 ?_
          refine gv_V (c_X8_at (by omega) (by omega)) l_X8_73 rfl m_rcv (Nat.le_of_ble_eq_true rfl) (Nat.le_of_ble_eq_true rfl) rfl dX8_writeLodger_43 ?_
          refine g_iadd dX8_writeLodger_46 ?_
          refine gu_V (c_X8_writes (m := (lenN f k) + 1 + i32) pk_us (by omega)) l_X8_292 rfl m_rcv (Nat.le_of_ble_eq_true rfl) (Nat.le_of_ble_eq_true rfl) rfl dX8_writeLodger_47 ?_
          rw [upd_upd, updA_updA, updA_s]
          refine gn_inc (lv2 := [(2, _), (0, _), (1, _)]) 2 rfl (by decide) rfl dX8_writeLodger_50 ?_
          refine g_goto (tgt := 32) (by decide) dX8_writeLodger_53 ?_
          refine G.sub [1, 2, 0] rfl ?_
          exact ih32 (i32 + 1) (by omega)
    refine G.sub [1, 2, 0] rfl ?_
    refine g_world (E2 := MW Γ mo F (upd I 16 (nI ((lenN f k) + 1 + 0))) (updA A 9 ((wrP (upd (wrN (A 9) f 0 k (lenN f k)) (lenN f k) (chr (nI 32))) f ((lenN f k) + 1) k 0))) f) rfl ?_
    exact L32 _ 0 (Nat.zero_add _)
  · -- f 8
    exact absurd (lod_ok hk hc12) (bi_0 h5)
set_option maxRecDepth 100000 in
set_option maxHeartbeats 4000000 in
theorem c_X8_writeLodger_no {Γ : Gm} {mo n : Nat} {F : Hp} {I : Nat → Int32} {A : Nat → Nat → Int32} {f : Nat → Int32} {x : Int32} {c : Nat}  (hc : f 7 = nI c) (hc12 : c ≤ 12) (hx : ¬ (nI 0 ≤ x ∧ x ≤ nI c - nI 1)) : Ct Γ 4 MX8_writeLodger 0 0 [.ref mo, .int x] (MW Γ mo F I A f) n (Rt (some (.int (nI 0))) (MW Γ mo F (upd I 2 (nI 1)) A f) n) X0 := by
  refine Ct.of (by decide +kernel) rfl (Nat.le_of_ble_eq_true rfl) ?_
  refine G.sub (lv2 := [(0, _), (1, _)]) [0, 1] rfl ?_
  refine g_aload_n 0 rfl dX8_writeLodger_0 ?_
  refine g_iload_n 1 rfl dX8_writeLodger_1 ?_
  refine gv_V (c_X8_isLodger hc) l_X8_249 rfl m_rcv (Nat.le_of_ble_eq_true rfl) (Nat.le_of_ble_eq_true rfl) rfl dX8_writeLodger_2 ?_
  refine g_if_ne (tgt := 14) (by decide) dX8_writeLodger_5 (fun h5 => ?_) (fun h5 => ?_)
  · -- t 14
    exact absurd (bi_n0 h5) hx
  · -- f 8
    refine g_aload_n 0 rfl dX8_writeLodger_8 ?_
    refine gn_ic 1 (by decide) dX8_writeLodger_9 ?_
    refine gv_V (c_X8_refuse ) l_X8_216 rfl m_rcv (Nat.le_of_ble_eq_true rfl) (Nat.le_of_ble_eq_true rfl) rfl dX8_writeLodger_10 ?_
    exact g_iret ⟨rfl, rfl, rfl⟩ (by decide +kernel) rfl dX8_writeLodger_13
set_option maxRecDepth 100000 in
set_option maxHeartbeats 4000000 in
theorem c_X8_writeFloor_ok {Γ : Gm} {mo n : Nat} {F : Hp} {I : Nat → Int32} {A : Nat → Nat → Int32} {f : Nat → Int32} {φ c : Nat} (hc : f 7 = nI c) (hc12 : c ≤ 12) (hφ : φ < 5) (hr : (wfP f (nI φ) (A 9) c).2 ≤ 60) : Ct Γ 4 MX8_writeFloor 0 0 [.ref mo, .int (nI φ)] (MW Γ mo F I A f) n (Rt (some (.int (nI (wfP f (nI φ) (A 9) c).2))) (MW Γ mo F (upd (upd I 16 (nI ((wfP f (nI φ) (A 9) c).2))) 2 (nI 0)) (updA A 9 ((wfP f (nI φ) (A 9) c).1)) f) n) X0 := by
  refine Ct.of (by decide +kernel) rfl (Nat.le_of_ble_eq_true rfl) ?_
  refine G.sub (lv2 := [(0, _), (1, _)]) [0, 1] rfl ?_
  refine g_iload_n 1 rfl dX8_writeFloor_0 ?_
  refine gv_S (c_X8_isFloor ) l_X8_240 rfl (Nat.le_of_ble_eq_true rfl) (Nat.le_of_ble_eq_true rfl) rfl dX8_writeFloor_1 ?_
  refine g_if_ne (tgt := 13) (by decide) dX8_writeFloor_4 (fun h4 => ?_) (fun h4 => ?_)
  · -- t 13
    refine g_aload_n 0 rfl dX8_writeFloor_13 ?_
    refine gn_ic 0 (by decide) dX8_writeFloor_14 ?_
    refine m_put f_X8_289 w_X8_16 (by decide) rfl dX8_writeFloor_15 ?_
    refine gn_ic 0 (by decide) dX8_writeFloor_18 ?_
    refine g_istore_n (lv2 := [(2, _), (0, _), (1, _)]) (by decide) rfl dX8_writeFloor_19 ?_
    have L20 : ∀ (m20 i20 : Nat), i20 + m20 = c → G Γ 4 MX8_writeFloor (Rt (some (.int (nI (wfP f (nI φ) (A 9) c).2))) (MW Γ mo F (upd (upd I 16 (nI ((wfP f (nI φ) (A 9) c).2))) 2 (nI 0)) (updA A 9 ((wfP f (nI φ) (A 9) c).1)) f) n) X0 20 [(0, .ref mo), (1, .int (nI φ)), (2, .int (nI i20))] [] (MW Γ mo F (upd I 16 (nI ((wfP f (nI φ) (A 9) i20).2))) (updA A 9 ((wfP f (nI φ) (A 9) i20).1)) f) n 0 0 := by
      intro m20
      induction m20 with
      | zero =>
        intro i20 hi20
        refine g_iload_n 2 rfl dX8_writeFloor_20 ?_
        refine m_get 0 rfl f_X8_19 rfl dX8_writeFloor_21 dX8_writeFloor_22 ?_
        refine gn_bp 7 (by decide) dX8_writeFloor_25 ?_
        refine gn_iald MW_3 (by omega) (by decide) dX8_writeFloor_27 ?_
        refine g_top (y := nI c) hc ?_
        refine gn_icmp_ge (by omega) (by omega) (tgt := 70) (by decide) dX8_writeFloor_28 (fun cc1 => ?_) (fun cc1 => ?_)
        · -- t 70
          obtain rfl : c = i20 := by omega
          refine g_aload_n 0 rfl dX8_writeFloor_70 ?_
          refine m_get 0 rfl f_X8_289 rfl dX8_writeFloor_71 dX8_writeFloor_72 ?_
          refine g_top (y := nI (wfP f (nI φ) (A 9) c).2) pk_us ?_
          refine gv_V (c_X8_told ) l_X8_222 rfl m_rcv (Nat.le_of_ble_eq_true rfl) (Nat.le_of_ble_eq_true rfl) rfl dX8_writeFloor_75 ?_
          exact g_iret ⟨rfl, rfl, rfl⟩ rfl rfl dX8_writeFloor_78
        · -- f 31
          exfalso; omega
      | succ m20 ih20 =>
        intro i20 hi20
        have hk1 := wfP_mono (f := f) (fl := nI φ) (o := A 9) (show i20 + 1 ≤ c by omega)
        have hk0 := wfP_s (f := f) (fl := nI φ) (o := A 9) (k := i20)
        refine g_iload_n 2 rfl dX8_writeFloor_20 ?_
        refine m_get 0 rfl f_X8_19 rfl dX8_writeFloor_21 dX8_writeFloor_22 ?_
        refine gn_bp 7 (by decide) dX8_writeFloor_25 ?_
        refine gn_iald MW_3 (by omega) (by decide) dX8_writeFloor_27 ?_
        refine g_top (y := nI c) hc ?_
        refine gn_icmp_ge (by omega) (by omega) (tgt := 70) (by decide) dX8_writeFloor_28 (fun cc2 => ?_) (fun cc2 => ?_)
        · -- t 70
          exfalso; omega
        · -- f 31
          refine m_get 0 rfl f_X8_19 rfl dX8_writeFloor_31 dX8_writeFloor_32 ?_
          refine g_iload_n 2 rfl dX8_writeFloor_35 ?_
          refine gv_S (c_X8_l ) l_X8_56 rfl (Nat.le_of_ble_eq_true rfl) (Nat.le_of_ble_eq_true rfl) rfl dX8_writeFloor_36 ?_
          refine gn_ic 0 (by decide) dX8_writeFloor_39 ?_
          refine gn_iadd0 dX8_writeFloor_40 ?_
          refine gn_iald MW_3 (by omega) (by decide) dX8_writeFloor_41 ?_
          refine g_iload_n 1 rfl dX8_writeFloor_42 ?_
          refine g_icmp_ne (tgt := 64) (by decide) dX8_writeFloor_43 (fun h43 => ?_) (fun h43 => ?_)
          · -- t 64
            refine gn_inc (lv2 := [(2, _), (0, _), (1, _)]) 2 rfl (by decide) rfl dX8_writeFloor_64 ?_
            refine g_goto (tgt := 20) (by decide) dX8_writeFloor_67 ?_
            refine G.sub [1, 2, 0] rfl ?_
            exact (by have h := ih20 (i20 + 1) (by omega); rw [wfP_n h43] at h; exact h)
          · -- f 46
            refine m_get 0 rfl f_X8_289 rfl dX8_writeFloor_46 dX8_writeFloor_47 ?_
            refine g_top (y := nI (wfP f (nI φ) (A 9) i20).2) pk_us ?_
            refine gn_if_le (by omega) (tgt := 59) (by decide) dX8_writeFloor_50 (fun h50 => ?_) (fun h50 => ?_)
            · -- t 59
              have hk2 := wfP_0 h43 h50
              refine g_aload_n 0 rfl dX8_writeFloor_59 ?_
              refine g_iload_n 2 rfl dX8_writeFloor_60 ?_
              refine gu_V (c_X8_writesName (m := 0) (by rw [pk_us, h50]) (by omega) (by have := lenN_le (f := f) (k := i20); omega)) l_X8_295 rfl m_rcv (Nat.le_of_ble_eq_true rfl) (Nat.le_of_ble_eq_true rfl) rfl dX8_writeFloor_61 ?_
              rw [upd_upd, updA_updA, updA_s, Nat.zero_add]
              refine gn_inc (lv2 := [(2, _), (0, _), (1, _)]) 2 rfl (by decide) rfl dX8_writeFloor_64 ?_
              refine g_goto (tgt := 20) (by decide) dX8_writeFloor_67 ?_
              refine G.sub [1, 2, 0] rfl ?_
              exact (by have h := ih20 (i20 + 1) (by omega); rw [wfP_0 h43 h50] at h; exact h)
            · -- f 53
              have hk2 := wfP_1 h43 h50
              refine g_aload_n 0 rfl dX8_writeFloor_53 ?_
              refine gn_bp 44 (by decide) dX8_writeFloor_54 ?_
              refine gu_V (c_X8_writes (m := (wfP f (nI φ) (A 9) i20).2) pk_us (by rw [hk2] at hk1; have hk3 : (wfP f (nI φ) (A 9) i20).2 + 1 + lenN f i20 ≤ _ := hk1; omega)) l_X8_292 rfl m_rcv (Nat.le_of_ble_eq_true rfl) (Nat.le_of_ble_eq_true rfl) rfl dX8_writeFloor_56 ?_
              rw [upd_upd, updA_updA, updA_s]
              refine g_aload_n 0 rfl dX8_writeFloor_59 ?_
              refine g_iload_n 2 rfl dX8_writeFloor_60 ?_
              refine gu_V (c_X8_writesName (m := (wfP f (nI φ) (A 9) i20).2 + 1) pk_us (by omega) (by rw [hk2] at hk1; exact Nat.le_trans hk1 hr)) l_X8_295 rfl m_rcv (Nat.le_of_ble_eq_true rfl) (Nat.le_of_ble_eq_true rfl) rfl dX8_writeFloor_61 ?_
              rw [upd_upd, updA_updA, updA_s]
              refine gn_inc (lv2 := [(2, _), (0, _), (1, _)]) 2 rfl (by decide) rfl dX8_writeFloor_64 ?_
              refine g_goto (tgt := 20) (by decide) dX8_writeFloor_67 ?_
              refine G.sub [1, 2, 0] rfl ?_
              exact (by have h := ih20 (i20 + 1) (by omega); rw [wfP_1 h43 h50] at h; exact h)
    refine G.sub [1, 2, 0] rfl ?_
    refine g_world (E2 := MW Γ mo F (upd I 16 (nI ((wfP f (nI φ) (A 9) 0).2))) (updA A 9 ((wfP f (nI φ) (A 9) 0).1)) f) (by show _ = MW Γ mo F (upd I 16 (nI 0)) (updA A 9 (A 9)) f; rw [updA_id]) ?_
    exact L20 _ 0 (Nat.zero_add _)
  · -- f 7
    exact absurd (rg_ok (Nat.zero_le _) (show φ ≤ 4 by omega) (by decide)) (bi_0 h4)
set_option maxRecDepth 100000 in
set_option maxHeartbeats 4000000 in
theorem c_X8_writeFloor_no {Γ : Gm} {mo n : Nat} {F : Hp} {I : Nat → Int32} {A : Nat → Nat → Int32} {f : Nat → Int32} {x : Int32} (hx : ¬ (nI 0 ≤ x ∧ x ≤ nI 4)) : Ct Γ 4 MX8_writeFloor 0 0 [.ref mo, .int x] (MW Γ mo F I A f) n (Rt (some (.int (nI 0))) (MW Γ mo F (upd I 2 (nI 1)) A f) n) X0 := by
  refine Ct.of (by decide +kernel) rfl (Nat.le_of_ble_eq_true rfl) ?_
  refine G.sub (lv2 := [(0, _), (1, _)]) [0, 1] rfl ?_
  refine g_iload_n 1 rfl dX8_writeFloor_0 ?_
  refine gv_S (c_X8_isFloor ) l_X8_240 rfl (Nat.le_of_ble_eq_true rfl) (Nat.le_of_ble_eq_true rfl) rfl dX8_writeFloor_1 ?_
  refine g_if_ne (tgt := 13) (by decide) dX8_writeFloor_4 (fun h4 => ?_) (fun h4 => ?_)
  · -- t 13
    exact absurd (bi_n0 h4) hx
  · -- f 7
    refine g_aload_n 0 rfl dX8_writeFloor_7 ?_
    refine gn_ic 1 (by decide) dX8_writeFloor_8 ?_
    refine gv_V (c_X8_refuse ) l_X8_216 rfl m_rcv (Nat.le_of_ble_eq_true rfl) (Nat.le_of_ble_eq_true rfl) rfl dX8_writeFloor_9 ?_
    exact g_iret ⟨rfl, rfl, rfl⟩ rfl rfl dX8_writeFloor_12
set_option maxRecDepth 100000 in
set_option maxHeartbeats 4000000 in
theorem c_X8_outputCharacter_ok {Γ : Gm} {mo n : Nat} {F : Hp} {I : Nat → Int32} {A : Nat → Nat → Int32} {f : Nat → Int32} {j m : Nat} (hm : I 16 = nI m) (hj : j < m) (hm6 : m ≤ 60) (hch : narrow .char (.int (A 9 j)) = .int (A 9 j)) : Ct Γ 2 MX8_outputCharacter 0 0 [.ref mo, .int (nI j)] (MW Γ mo F I A f) n (Rt (some (.int (A 9 j))) (MW Γ mo F (upd I 2 (nI 0)) A f) n) X0 := by
  refine Ct.of (by decide +kernel) rfl (Nat.le_of_ble_eq_true rfl) ?_
  have hlm : nI 0 ≤ nI j ∧ nI j ≤ nI m - nI 1 := by rw [pk_sub (by omega)]; exact rg_ok (Nat.zero_le _) (by omega) (by omega)
  refine G.sub (lv2 := [(0, _), (1, _)]) [0, 1] rfl ?_
  refine g_iload_n 1 rfl dX8_outputCharacter_0 ?_
  refine gn_ic 0 (by decide) dX8_outputCharacter_1 ?_
  refine m_get 0 rfl f_X8_289 rfl dX8_outputCharacter_2 dX8_outputCharacter_3 ?_
  refine g_top (y := nI m) hm ?_
  refine gn_ic 1 (by decide) dX8_outputCharacter_6 ?_
  refine g_isub dX8_outputCharacter_7 ?_
  refine gv_S (c_X8_in ) l_X8_66 rfl (Nat.le_of_ble_eq_true rfl) (Nat.le_of_ble_eq_true rfl) rfl dX8_outputCharacter_8 ?_
  refine g_if_ne (tgt := 21) (by decide) dX8_outputCharacter_11 (fun h11 => ?_) (fun h11 => ?_)
  · -- t 21
    refine g_aload_n 0 rfl dX8_outputCharacter_21 ?_
    refine gn_ic 0 (by decide) dX8_outputCharacter_22 ?_
    refine m_put f_X8_63 w_X8_2 (by decide) rfl dX8_outputCharacter_23 ?_
    refine m_get 0 rfl f_X8_45 rfl dX8_outputCharacter_26 dX8_outputCharacter_27 ?_
    refine g_iload_n 1 rfl dX8_outputCharacter_30 ?_
    refine gn_cald MW_10 (by omega) (by decide) dX8_outputCharacter_31 ?_
    exact g_iret ⟨rfl, rfl, rfl⟩ hch rfl dX8_outputCharacter_32
  · -- f 14
    exact absurd hlm (bi_0 h11)
set_option maxRecDepth 100000 in
set_option maxHeartbeats 4000000 in
theorem c_X8_outputCharacter_no {Γ : Gm} {mo n : Nat} {F : Hp} {I : Nat → Int32} {A : Nat → Nat → Int32} {f : Nat → Int32} {x : Int32} {m : Nat} (hm : I 16 = nI m) (hx : ¬ (nI 0 ≤ x ∧ x ≤ nI m - nI 1)) : Ct Γ 2 MX8_outputCharacter 0 0 [.ref mo, .int x] (MW Γ mo F I A f) n (Rt (some (.int (nI 0))) (MW Γ mo F (upd I 2 (nI 1)) A f) n) X0 := by
  refine Ct.of (by decide +kernel) rfl (Nat.le_of_ble_eq_true rfl) ?_
  refine G.sub (lv2 := [(0, _), (1, _)]) [0, 1] rfl ?_
  refine g_iload_n 1 rfl dX8_outputCharacter_0 ?_
  refine gn_ic 0 (by decide) dX8_outputCharacter_1 ?_
  refine m_get 0 rfl f_X8_289 rfl dX8_outputCharacter_2 dX8_outputCharacter_3 ?_
  refine g_top (y := nI m) hm ?_
  refine gn_ic 1 (by decide) dX8_outputCharacter_6 ?_
  refine g_isub dX8_outputCharacter_7 ?_
  refine gv_S (c_X8_in ) l_X8_66 rfl (Nat.le_of_ble_eq_true rfl) (Nat.le_of_ble_eq_true rfl) rfl dX8_outputCharacter_8 ?_
  refine g_if_ne (tgt := 21) (by decide) dX8_outputCharacter_11 (fun h11 => ?_) (fun h11 => ?_)
  · -- t 21
    exact absurd (bi_n0 h11) hx
  · -- f 14
    refine g_aload_n 0 rfl dX8_outputCharacter_14 ?_
    refine gn_ic 1 (by decide) dX8_outputCharacter_15 ?_
    refine m_put f_X8_63 w_X8_2 (by decide) rfl dX8_outputCharacter_16 ?_
    refine gn_ic 0 (by decide) dX8_outputCharacter_19 ?_
    exact g_iret ⟨rfl, rfl, rfl⟩ (by decide +kernel) rfl dX8_outputCharacter_20
end GM11
