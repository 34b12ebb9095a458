section GO3
variable {Γ : Gm} {t ab mo n k0 : Nat} {E : Hp}
theorem op_out {S : Hp} {q : CQ} {I : Nat → Int32} {A : Nat → Nat → Int32} {f o : Nat → Int32} {d7 d8 mc ms cnt : Nat} {M7 M8 : Mr} {hs : List String} {As : List Value} (h : IVd Γ ab mo t S q I A f E n) (hc7 : Ct Γ d7 M7 mc ms (.ref ab :: As) E n (fun r E2 n2 => r = some (.int (nI cnt)) ∧ Out Γ ab n S E q cnt o n2 E2) X0) (hc8 : ∀ F n, Ct Γ d8 M8 0 0 (.ref mo :: As) (MW Γ mo F I A f) n (Rt (some (.int (nI cnt))) (MW Γ mo F (upd (upd I 16 (nI cnt)) 2 (nI 0)) (updA A 9 o) f) n) X0) (hd7 : d7 ≤ 13 := by decide) (hd8 : d8 ≤ 13 := by decide) (hmc : mc ≤ 330 := by decide) (hms : ms ≤ 10200 := by decide) : OPk Γ ab mo t M7 hs M8 As E n := by
  refine op_gen (x := nI cnt) (b := nI cnt) (Z := fun S2 q2 => ∃ v cap b, S2 = S ∧ q2 = qO q v cap cnt b ∧ cnt ≤ 34 ∧ ∀ j, j < cnt → b j = o j) h hc7 (fun r E2 n2 z => ?_) hc8 (fun S2 q2 z F n r E3 n3 y => ?_) rfl hd7 hd8 hmc hms
  · obtain ⟨rfl, v, cap, b, k1, k2, k3, k4, k5⟩ := z
    have k6 : (cap = 16 ∨ cap = 34) ∧ cnt ≤ cap := k1.oo.2.2.2
    exact ⟨rfl, S, _, k1, k2, fun a _ g2 _ g4 => k4 a (by omega) g4 (by assumption), Or.inl rfl, k3, fun _ _ w => Or.inl w, v, cap, b, rfl, rfl, by omega, k5⟩
  · obtain ⟨v, cap, b, rfl, rfl, k1, k2⟩ := z
    obtain ⟨rfl, rfl, rfl⟩ := y
    exact ⟨rfl, rfl, _, _, _, rfl, (RV.nxt h.2.2.2.2).otx k1 k2, pk_us⟩
theorem IVd.tw {S : Hp} {q : CQ} {I : Nat → Int32} {A : Nat → Nat → Int32} {f : Nat → Int32} (h : IVd Γ ab mo t S q I A f E n) : TW Γ ab E (q_Q q 1) (q_Q q 2) = E := by
  show HW Γ (ab + 92) (HW Γ (ab + 50) E (q_Q q 1)) (q_Q q 2) = E
  rw [← h.1.h1.eq, ← h.1.h2.eq]
theorem op_fc {S : Hp} {q : CQ} {I : Nat → Int32} {A : Nat → Nat → Int32} {f : Nat → Int32} {d7 d8 : Nat} {M7 M8 : Mr} {hs : List String} {As : List Value} {x : Int32} (h : IVd Γ ab mo t S q I A f E n) (hc7 : Ct Γ d7 M7 0 0 (.ref ab :: As) (TW Γ ab E (q_Q q 1) (q_Q q 2)) n (fun v E2 n2 => v = some (.int x) ∧ n2 = n ∧ ∃ T2, E2 = TW Γ ab E (q_Q q 1) T2 ∧ Wf T2) X0)
    (hc8 : ∀ F n, Ct Γ d8 M8 0 0 (.ref mo :: As) (MW Γ mo F I A f) n (fun v E1 n1 => v = some (.int x) ∧ n1 = n ∧ ∃ A2 I2, Sc3 A A2 ∧ Si I I2 ∧ E1 = MW Γ mo F I2 A2 f) X0) (hd7 : d7 ≤ 13 := by decide) (hd8 : d8 ≤ 13 := by decide) : OPk Γ ab mo t M7 hs M8 As E n := by
  rw [h.tw] at hc7
  refine op_gen (x := x) (b := x) (Z := fun S2 q2 => ∃ T2, S2 = S ∧ q2 = qQ q 2 T2 ∧ Wf T2) h hc7 (fun r E2 n2 z => ?_) hc8 (fun S2 q2 z F n r E3 n3 y => ?_) rfl hd7 hd8
  · obtain ⟨rfl, rfl, T2, rfl, k1⟩ := z
    have k2 : TW Γ ab E (q_Q q 1) T2 = HW Γ (hh ab 2) E T2 := by
      show HW Γ (ab + 92) (HW Γ (ab + 50) E (q_Q q 1)) T2 = _
      rw [← h.1.h1.eq]; rfl
    rw [k2]
    exact ⟨rfl, S, _, h.1.setQ (i := 2) (R := T2) (by decide), Nat.le_refl _, Frm.refl.hw (i := 2) (by decide), Or.inl rfl, Or.inl rfl, fun _ _ w => Or.inl w, T2, rfl, rfl, k1⟩
  · obtain ⟨T2, rfl, rfl, k1⟩ := z
    obtain ⟨rfl, rfl, A2, I2, y1, y2, rfl⟩ := y
    exact ⟨rfl, rfl, _, _, _, rfl, (((RV.nxt h.2.2.2.2).q12 (Or.inl rfl) k1).si y2).sc y1, y2.1⟩
theorem op_noT {S : Hp} {q : CQ} {I : Nat → Int32} {A : Nat → Nat → Int32} {f : Nat → Int32} {d7 d8 : Nat} {M7 M8 : Mr} {hs : List String} {As : List Value} {b : Int32} {y : String} {j : Nat} (h : IVd Γ ab mo t S q I A f E n) (hj : hs[j]? = some y) (hc7 : Ct Γ d7 M7 1 6 (.ref ab :: As) (TW Γ ab E (q_Q q 1) (q_Q q 2)) n PNo (Xe y (TW Γ ab E (q_Q q 1) (q_Q q 2)) n)) (hc8 : ∀ F n, Ct Γ d8 M8 0 0 (.ref mo :: As) (MW Γ mo F I A f) n (Rt (some (.int b)) (MW Γ mo F (upd I 2 (nI (j + 1))) A f) n) X0) (hd7 : d7 ≤ 13 := by decide) (hd8 : d8 ≤ 13 := by decide) : OPk Γ ab mo t M7 hs M8 As E n := by
  rw [h.tw] at hc7
  exact op_no h hj hc7 hc8 hd7 hd8
theorem o_append {w1 w2 w3 w4 w5 : Int32} (h0 : IVo Γ ab mo k0 t E n) : OPk Γ ab mo t MX7_append ["java/lang/IllegalStateException"] MX8_append [.int w1, .int w2, .int w3, .int w4, .int w5] E n := by
  obtain ⟨S, q, I, A, f, h⟩ := h0.d
  obtain ⟨c, hr, hv⟩ := h.2.2.2.2.row
  have hc := hr.2.2.1
  have hc12 := hr.2.1
  have hC := h.1.co
  by_cases h2 : q_im q + 20 ≤ 600
  · refine op_gen (x := nI (q_im q + 4 + 4 + 4 + 4 + 4)) (b := nI (q_im q + 4 + 4 + 4 + 4 + 4)) (Z := fun S2 q2 => S2 = S ∧ q2 = qC (qI q (fd5 (q_inp q) (q_im q) w1 w2 w3 w4 w5)) (q_im q + 4 + 4 + 4 + 4 + 4) (q_rk q) (q_ro q)) h (c_X7_append_ok hC h.1.ii h2) (fun r E2 n2 z => ?_) (fun F n => c_X8_append_ok h.inn.2.1 h2) (fun S2 q2 z F n r E3 n3 y => ?_) rfl
    · obtain ⟨rfl, rfl, rfl⟩ := z
      exact ⟨rfl, S, _, h.1.setWA, Nat.le_refl _, (Frm.refl.hset (by omega)).hset (by omega), Or.inl rfl, Or.inl rfl, fun _ _ w => Or.inl w, rfl, rfl⟩
    · obtain ⟨rfl, rfl⟩ := z
      obtain ⟨rfl, rfl, rfl⟩ := y
      exact ⟨rfl, rfl, _, _, _, rfl, (RV.nxt h.2.2.2.2).app h2, pk_us⟩
  · have h6 := h.inn.1
    exact op_no (j := 0) h rfl (Ct.hatN h.1.h1 (c_X7_append_no hC (by omega) h6)) (fun F n => c_X8_append_no h.inn.2.1 (by omega) h6)
theorem o_writeLodger {x : Int32} (ht : t ≤ 600) (h0 : IVo Γ ab mo k0 t E n) : OPk Γ ab mo t MX7_writeLodger ["java/lang/IndexOutOfBoundsException"] MX8_writeLodger [.int x] E n := by
  obtain ⟨S, q, I, A, f, h⟩ := h0.d
  obtain ⟨c, hr, hv⟩ := h.2.2.2.2.row
  have hc := hr.2.2.1
  have hc12 := hr.2.1
  have hC := h.1.co
  by_cases hxx : nI 0 ≤ x ∧ x ≤ nI c - nI 1
  · obtain ⟨k, hk, rfl⟩ := lod_of (by omega) hxx
    have hrow : Row (2000000 + 10000 * t) f k := hv.2.2.1 k hk
    obtain ⟨w, hw31, hwe⟩ := hrow.2.1.iab (Nat.lt_of_le_of_lt (by omega) (b31 ht))
    exact op_out h (c_X7_writeLodger_ok (o := A 9) h.1 hr hk hrow.2.1 (Nat.lt_of_le_of_lt (by omega) (b31 ht)) hrow.2.2) (fun F n => c_X8_writeLodger_ok hc hc12 hk hwe hw31)
  · exact op_no (j := 0) h rfl (Ct.hatN h.1.h1 (c_X7_writeLodger_noL hC hr hxx)) (fun F n => c_X8_writeLodger_no hc hc12 hxx)
theorem o_writeFloor {x : Int32} (h0 : IVo Γ ab mo k0 t E n) : OPk Γ ab mo t MX7_writeFloor ["java/lang/IndexOutOfBoundsException"] MX8_writeFloor [.int x] E n := by
  obtain ⟨S, q, I, A, f, h⟩ := h0.d
  obtain ⟨c, hr, hv⟩ := h.2.2.2.2.row
  have hc := hr.2.2.1
  have hc12 := hr.2.1
  have hC := h.1.co
  by_cases hxx : nI 0 ≤ x ∧ x ≤ nI 4
  · obtain ⟨φ, hφa, hφb, rfl⟩ := rng_of (by decide) (by decide) hxx
    have h4 := hv.2.2.2.2
    have h5 := wfP_le (f := f) (o := A 9) (fl := nI φ) c
    have h6 := h4 (nI φ)
    exact op_out h (c_X7_writeFloor_ok (o := A 9) h.1 hr (by omega) h4) (fun F n => c_X8_writeFloor_ok hc hc12 (by omega) (by omega))
  · exact op_no (j := 0) h rfl (Ct.hatN h.1.h1 (c_X7_writeFloor_no hC hxx)) (fun F n => c_X8_writeFloor_no hxx)
theorem o_outputCharacter {x : Int32} (h0 : IVo Γ ab mo k0 t E n) : OPk Γ ab mo t MX7_outputCharacter ["java/lang/IndexOutOfBoundsException"] MX8_outputCharacter [.int x] E n := by
  obtain ⟨S, q, I, A, f, h⟩ := h0.d
  obtain ⟨c, hr, hv⟩ := h.2.2.2.2.row
  have hc := hr.2.2.1
  have hc12 := hr.2.1
  have hC := h.1.co
  have ho := h.out
  have hov : q_ov q < ab + 50 ∨ ab + 92 ≤ q_ov q := by have := h.1.bd; omega
  by_cases hx : nI 0 ≤ x ∧ x ≤ nI (q_om q) - nI 1
  · obtain ⟨j, hj, rfl⟩ := lod_of (by have := ho.1; omega) hx
    have e9 := ho.2.2 j hj
    exact op_ro h (Ct.hat h.1.h1 (c_X7_outputCharacter_ok hC h.1.oo hov hj)) (fun F n => c_X8_outputCharacter_ok ho.2.1 hj (by have := ho.1; omega) (by rw [← e9]; exact a7_nar h.1.oo.2.2.1 (Nat.lt_of_lt_of_le hj h.1.oo.2.2.2.2))) e9.symm
  · exact op_no (j := 0) h rfl (Ct.hatN h.1.h1 (c_X7_outputCharacter_no hC h.1.oo hov hx)) (fun F n => c_X8_outputCharacter_no ho.2.1 hx)
theorem o_slipVowel {x : Int32} (h0 : IVo Γ ab mo k0 t E n) : OPk Γ ab mo t MX7_slipVowel ["java/lang/IndexOutOfBoundsException"] MX8_slipVowel [.int x] E n := by
  obtain ⟨S, q, I, A, f, h⟩ := h0.d
  obtain ⟨c, hr, hv⟩ := h.2.2.2.2.row
  have hc := hr.2.2.1
  have hc12 := hr.2.1
  have hC := h.1.co
  by_cases hxx : nI 0 ≤ x ∧ x ≤ nI c - nI 1
  · obtain ⟨k, hk, rfl⟩ := lod_of (by omega) hxx
    obtain ⟨φ, hφ5, hφ⟩ := (hv.2.2.1 k hk).1
    have hc7 := c_X7_slipVowel_ok (n := n) hC hr hk
    rw [← h.1.h1.eq] at hc7
    refine op_gen (x := (far (rw5 f k) (fun v => avgF f (f (13 + 16 * k)) v c) 5).1) (b := slpF f (avU f (A 6) c 25) (onU f (A 7) c 5) k) (Z := fun S2 q2 => ∃ y, S2 = S ∧ q2 = qQ q 1 (sV (q_Q q 1) y)) h hc7 (fun r E2 n2 z => ?_) (fun F n => c_X8_slipVowel_ok hc hc12 hk hφ hφ5) (fun S2 q2 z F n r E3 n3 y => ?_) (slp_eq hc12 hk hφ hφ5)
    · obtain ⟨rfl, rfl, y, rfl⟩ := z
      exact ⟨rfl, S, _, h.1.setQ (i := 1) (R := sV (q_Q q 1) y) (by decide), Nat.le_refl _, Frm.refl.hw (i := 1) (by decide), Or.inl rfl, Or.inl rfl, fun _ _ w => Or.inl w, y, rfl, rfl⟩
    · obtain ⟨y9, rfl, rfl⟩ := z
      obtain ⟨rfl, rfl, rfl⟩ := y
      exact ⟨rfl, rfl, _, _, _, rfl, (((RV.nxt h.2.2.2.2).q12 (Or.inr ⟨rfl, c, hr.sV, hv.le (by omega)⟩) (hr.sV (y := y9)).1).sc (fun j _ b c => by unfold avA; rw [if_neg c, if_neg b])).u2, pk_us⟩
  · exact op_no (j := 0) h rfl (Ct.hatN h.1.h1 (c_X7_slipVowel_noL hC hr hxx)) (fun F n => c_X8_slipVowel_no hc hc12 hxx)
theorem o_balanceAfter {x y : Int32} (h0 : IVo Γ ab mo k0 t E n) : OPk Γ ab mo t MX7_balanceAfter ["java/lang/IndexOutOfBoundsException", "java/lang/IllegalArgumentException"] MX8_balanceAfter [.int x, .int y] E n := by
  obtain ⟨S, q, I, A, f, h⟩ := h0.d
  obtain ⟨c, hr, hv⟩ := h.2.2.2.2.row
  have hc := hr.2.2.1
  have hc12 := hr.2.1
  have hC := h.1.co
  by_cases hxx : nI 0 ≤ x ∧ x ≤ nI c - nI 1
  · obtain ⟨k, hk, rfl⟩ := lod_of (by omega) hxx
    by_cases hxy : nI 0 ≤ y ∧ y ≤ nI 100
    · obtain ⟨d, hda, hdb, rfl⟩ := rng_of (by decide) (by decide) hxy
      exact op_fc h (c_X7_balanceAfter_ok hC hr hk hv.okr (h.hw 2 (by decide)) (by omega)) (fun F n => c_X8_balanceAfter_ok hv.okr hk (by omega))
    · exact op_noT (j := 1) h rfl (c_X7_balanceAfter_noD hC hr hk hxy) (fun F n => c_X8_balanceAfter_no2 hc hc12 hk hxy)
  · exact op_noT (j := 0) h rfl (c_X7_balanceAfter_noL hC hr hxx) (fun F n => c_X8_balanceAfter_no hc hc12 hxx)
theorem o_distanceAfter {x y : Int32} (h0 : IVo Γ ab mo k0 t E n) : OPk Γ ab mo t MX7_distanceAfter ["java/lang/IndexOutOfBoundsException", "java/lang/IllegalArgumentException"] MX8_distanceAfter [.int x, .int y] E n := by
  obtain ⟨S, q, I, A, f, h⟩ := h0.d
  obtain ⟨c, hr, hv⟩ := h.2.2.2.2.row
  have hc := hr.2.2.1
  have hc12 := hr.2.1
  have hC := h.1.co
  by_cases hxx : nI 0 ≤ x ∧ x ≤ nI c - nI 1
  · obtain ⟨k, hk, rfl⟩ := lod_of (by omega) hxx
    by_cases hxy : nI 0 ≤ y ∧ y ≤ nI 100
    · obtain ⟨d, hda, hdb, rfl⟩ := rng_of (by decide) (by decide) hxy
      exact op_fc h (c_X7_distanceAfter_ok hC hr hk hv.okr (h.hw 2 (by decide)) (by omega)) (fun F n => c_X8_distanceAfter_ok hv.okr hk (by omega))
    · exact op_noT (j := 1) h rfl (c_X7_distanceAfter_noD hC hr hk hxy) (fun F n => c_X8_distanceAfter_no2 hc hc12 hk hxy)
  · exact op_noT (j := 0) h rfl (c_X7_distanceAfter_noL hC hr hxx) (fun F n => c_X8_distanceAfter_no hc hc12 hxx)
theorem o_daysToEviction {x : Int32} (h0 : IVo Γ ab mo k0 t E n) : OPk Γ ab mo t MX7_daysToEviction ["java/lang/IndexOutOfBoundsException"] MX8_daysToEviction [.int x] E n := by
  obtain ⟨S, q, I, A, f, h⟩ := h0.d
  obtain ⟨c, hr, hv⟩ := h.2.2.2.2.row
  have hc := hr.2.2.1
  have hc12 := hr.2.1
  have hC := h.1.co
  by_cases hxx : nI 0 ≤ x ∧ x ≤ nI c - nI 1
  · obtain ⟨k, hk, rfl⟩ := lod_of (by omega) hxx
    exact op_fc h (c_X7_daysToEviction_ok hC hr hk hv.okr (h.hw 2 (by decide))) (fun F n => c_X8_daysToEviction_ok hv.okr hk)
  · exact op_noT (j := 0) h rfl (c_X7_daysToEviction_noL hC hr hxx) (fun F n => c_X8_daysToEviction_no hc hc12 hxx)
theorem o_paymentToStay {x : Int32} (ht : t ≤ 600) (h0 : IVo Γ ab mo k0 t E n) : OPk Γ ab mo t MX7_paymentToStay ["java/lang/IndexOutOfBoundsException"] MX8_paymentToStay [.int x] E n := by
  obtain ⟨S, q, I, A, f, h⟩ := h0.d
  obtain ⟨c, hr, hv⟩ := h.2.2.2.2.row
  have hc := hr.2.2.1
  have hc12 := hr.2.1
  have hC := h.1.co
  by_cases hxx : nI 0 ≤ x ∧ x ≤ nI c - nI 1
  · obtain ⟨k, hk, rfl⟩ := lod_of (by omega) hxx
    obtain ⟨dy, hdy1, hdy⟩ := hv.2.2.2.1.2.2.2
    have hdy31 : dy < 2 ^ 31 := Nat.lt_of_le_of_lt (Nat.le_trans hdy1 (by omega)) (b31 ht)
    exact op_fc h (c_X7_paymentToStay_ok hC hr hk hv.okr (h.hw 2 (by decide)) hdy hdy31) (fun F n => c_X8_paymentToStay_ok hv.okr hk hdy hdy31)
  · exact op_noT (j := 0) h rfl (c_X7_paymentToStay_noL hC hr hxx) (fun F n => c_X8_paymentToStay_no hc hc12 hxx)
end GO3
