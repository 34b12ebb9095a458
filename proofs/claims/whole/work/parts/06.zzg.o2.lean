section GO2
variable {Γ : Gm} {t ab mo n k0 : Nat} {E : Hp}
theorem b31 (ht : t ≤ 600) : 2000000 + 10000 * (t + 1) < 2 ^ 31 := by omega
theorem RV.st {B : Nat} {S S2 : Hp} {q : CQ} {I : Nat → Int32} {A : Nat → Nat → Int32} {f : Nat → Int32} (h : RV Γ B S q I A f) (e : ∀ a, Le S S2 a) : RV Γ B S2 q I A f := ⟨h.1, h.2.1, h.2.2.1.mono e, h.2.2.2.1.le (Nat.le_refl B) e, h.2.2.2.2.1.le (Nat.le_refl B) e, h.2.2.2.2.2.1, h.2.2.2.2.2.2.1.mono e, h.2.2.2.2.2.2.2⟩
theorem o_setTolerance {x : Int32} (h0 : IVo Γ ab mo k0 t E n) : OPk Γ ab mo t MX7_setTolerance ["java/lang/IllegalArgumentException"] MX8_setTolerance [.int x] E n := by
  obtain ⟨S, q, I, A, f, h⟩ := h0.d
  obtain ⟨c, hr, hv⟩ := h.2.2.2.2.row
  have hc := hr.2.2.1
  have hc12 := hr.2.1
  have hC := h.1.co
  by_cases hxx : nI 0 ≤ x ∧ x ≤ nI 45
  · obtain ⟨p, hpa, hpb, rfl⟩ := rng_of (by decide) (by decide) hxx
    exact op_ch h hr hv (c_X7_setTolerance_ok h.1 h.hw hr h.hol h.hkp (by omega)) (fun R2 w => ⟨c, w, (hv.le (by omega) : Val (2000000 + 10000 * (t + 1)) f c).s1 (by omega)⟩) (fun F n => c_X8_setTolerance_ok (by omega) h.i6 h.hkp) (fun F n r E3 n3 y => rt_ch y) rfl
  · exact op_no (j := 0) h rfl (Ct.hatN h.1.h1 (c_X7_setTolerance_no hC hxx)) (fun F n => c_X8_setTolerance_no hxx)
theorem o_setBaseRent {x : Int32} (h0 : IVo Γ ab mo k0 t E n) : OPk Γ ab mo t MX7_setBaseRent ["java/lang/IllegalArgumentException"] MX8_setBaseRent [.int x] E n := by
  obtain ⟨S, q, I, A, f, h⟩ := h0.d
  obtain ⟨c, hr, hv⟩ := h.2.2.2.2.row
  have hc := hr.2.2.1
  have hc12 := hr.2.1
  have hC := h.1.co
  by_cases hxx : nI 0 ≤ x ∧ x ≤ nI 50
  · obtain ⟨p, hpa, hpb, rfl⟩ := rng_of (by decide) (by decide) hxx
    exact op_ch h hr hv (c_X7_setBaseRent_ok h.1 h.hw hr h.hol h.hkp (by omega)) (fun R2 w => ⟨c, w, (hv.le (by omega) : Val (2000000 + 10000 * (t + 1)) f c).s0 (by omega)⟩) (fun F n => c_X8_setBaseRent_ok (by omega) h.i6 h.hkp) (fun F n r E3 n3 y => rt_ch y) rfl
  · exact op_no (j := 0) h rfl (Ct.hatN h.1.h1 (c_X7_setBaseRent_no hC hxx)) (fun F n => c_X8_setBaseRent_no hxx)
theorem o_setLandladyVowel {x y : Int32} (h0 : IVo Γ ab mo k0 t E n) : OPk Γ ab mo t MX7_setLandladyVowel ["java/lang/IndexOutOfBoundsException", "java/lang/IllegalArgumentException"] MX8_setLandladyVowel [.int x, .int y] E n := by
  obtain ⟨S, q, I, A, f, h⟩ := h0.d
  obtain ⟨c, hr, hv⟩ := h.2.2.2.2.row
  have hc := hr.2.2.1
  have hc12 := hr.2.1
  have hC := h.1.co
  by_cases hxx : nI 0 ≤ x ∧ x ≤ nI 4
  · obtain ⟨v, hva, hvb, rfl⟩ := rng_of (by decide) (by decide) hxx
    by_cases hxy : nI 0 ≤ y ∧ y ≤ nI 9
    · obtain ⟨p, hpa, hpb, rfl⟩ := rng_of (by decide) (by decide) hxy
      exact op_ch h hr hv (c_X7_setLandladyVowel_ok h.1 h.hw hr h.hol h.hkp (by omega) (by omega)) (fun R2 w => ⟨c, w, (hv.le (by omega) : Val (2000000 + 10000 * (t + 1)) f c).sL (by omega) (by omega)⟩) (fun F n => c_X8_setLandladyVowel_ok (by omega) (by omega) h.i6 h.hkp) (fun F n r E3 n3 y => rt_ch y) rfl
    · exact op_no (j := 1) h rfl (Ct.hatN h.1.h1 (c_X7_setLandladyVowel_noP hC (by omega) hxy)) (fun F n => c_X8_setLandladyVowel_no2 (by omega) hxy)
  · exact op_no (j := 0) h rfl (Ct.hatN h.1.h1 (c_X7_setLandladyVowel_noV hC hxx)) (fun F n => c_X8_setLandladyVowel_no1 hxx)
theorem o_pay {x y : Int32} (ht : t ≤ 600) (h0 : IVo Γ ab mo k0 t E n) : OPk Γ ab mo t MX7_pay ["java/lang/IndexOutOfBoundsException", "java/lang/IllegalArgumentException"] MX8_pay [.int x, .int y] E n := by
  obtain ⟨S, q, I, A, f, h⟩ := h0.d
  obtain ⟨c, hr, hv⟩ := h.2.2.2.2.row
  have hc := hr.2.2.1
  have hc12 := hr.2.1
  have hC := h.1.co
  by_cases hxx : nI 0 ≤ x ∧ x ≤ nI c - nI 1
  · obtain ⟨k, hk, rfl⟩ := lod_of (by omega) hxx
    by_cases hxy : nI 1 ≤ y ∧ y ≤ nI 999
    · obtain ⟨p, hpa, hpb, rfl⟩ := rng_of (by decide) (by decide) hxy
      exact op_ch h hr hv (c_X7_pay_ok h.1 h.hw hr h.hol h.hkp hk (by omega) (by omega)) (fun R2 w => ⟨c, w, (hv.pay (by omega) (by omega)).le (by omega)⟩) (fun F n => c_X8_pay_ok hc hc12 hk (by omega) (by omega) h.i6 h.hkp) (fun F n r E3 n3 y => rt_ch y) rfl
    · exact op_no (j := 1) h rfl (Ct.hatN h.1.h1 (c_X7_pay_noA hC hr hk hxy)) (fun F n => c_X8_pay_no2 hc hc12 hk hxy)
  · exact op_no (j := 0) h rfl (Ct.hatN h.1.h1 (c_X7_pay_noL hC hr hxx)) (fun F n => c_X8_pay_no hc hc12 hxx)
theorem o_moveTo {x y : Int32} (h0 : IVo Γ ab mo k0 t E n) : OPk Γ ab mo t MX7_moveTo ["java/lang/IndexOutOfBoundsException", "java/lang/IllegalArgumentException", "java/lang/IllegalStateException"] MX8_moveTo [.int x, .int y] E n := by
  obtain ⟨S, q, I, A, f, h⟩ := h0.d
  obtain ⟨c, hr, hv⟩ := h.2.2.2.2.row
  have hc := hr.2.2.1
  have hc12 := hr.2.1
  have hC := h.1.co
  by_cases hxx : nI 0 ≤ x ∧ x ≤ nI c - nI 1
  · obtain ⟨k, hk, rfl⟩ := lod_of (by omega) hxx
    by_cases hxy : nI 0 ≤ y ∧ y ≤ nI 4
    · obtain ⟨φ, hφa, hφb, rfl⟩ := rng_of (by decide) (by decide) hxy
      have h44 := hv.on4 (fl := nI φ) (bt := nI k)
      by_cases h4 : cntOn f (nI φ) (nI k) c = 4
      · exact op_no (j := 2) h rfl (Ct.hatN h.1.h1 (c_X7_moveTo_noP hC hr hk (by omega) (by omega))) (fun F n => c_X8_moveTo_no3 hc hc12 hk (by omega) h4)
      · exact op_ch h hr hv (c_X7_moveTo_ok h.1 h.hw hr h.hol h.hkp hk (by omega) (by omega)) (fun R2 w => ⟨c, w, (hv.le (by omega) : Val (2000000 + 10000 * (t + 1)) f c).move hk (by omega) h4⟩) (fun F n => c_X8_moveTo_ok hc hc12 hk (by omega) h4 h.i6 h.hkp) (fun F n r E3 n3 y => rt_ch y) rfl
    · exact op_no (j := 1) h rfl (Ct.hatN h.1.h1 (c_X7_moveTo_noF hC hr hk hxy)) (fun F n => c_X8_moveTo_no2 hc hc12 hk hxy)
  · exact op_no (j := 0) h rfl (Ct.hatN h.1.h1 (c_X7_moveTo_noL hC hr hxx)) (fun F n => c_X8_moveTo_no hc hc12 hxx)
theorem o_moveOut {x : Int32} (h0 : IVo Γ ab mo k0 t E n) : OPk Γ ab mo t MX7_moveOut ["java/lang/IndexOutOfBoundsException"] MX8_moveOut [.int x] E n := by
  obtain ⟨S, q, I, A, f, h⟩ := h0.d
  obtain ⟨c, hr, hv⟩ := h.2.2.2.2.row
  have hc := hr.2.2.1
  have hc12 := hr.2.1
  have hC := h.1.co
  by_cases hxx : nI 0 ≤ x ∧ x ≤ nI c - nI 1
  · obtain ⟨k, hk, rfl⟩ := lod_of (by omega) hxx
    exact op_ch h hr hv (c_X7_moveOut_ok h.1 h.hw hr h.hol h.hkp hk) (fun R2 w => ⟨c - 1, w, (hv.le (by omega) : Val (2000000 + 10000 * (t + 1)) f c).out hk⟩) (fun F n => c_X8_moveOut_ok hc hc12 hk h.i6 h.hkp h.i11) (fun F n r E3 n3 y => rt_ch y) rfl
  · exact op_no (j := 0) h rfl (Ct.hatN h.1.h1 (c_X7_moveOut_noL hC hr hxx)) (fun F n => c_X8_moveOut_no hc hc12 hxx)
theorem o_advance {x : Int32} (ht : t ≤ 600) (h0 : IVo Γ ab mo k0 t E n) : OPk Γ ab mo t MX7_advance ["java/lang/IllegalArgumentException", "java/lang/IllegalStateException"] MX8_advance [.int x] E n := by
  obtain ⟨S, q, I, A, f, h⟩ := h0.d
  obtain ⟨c, hr, hv⟩ := h.2.2.2.2.row
  have hc := hr.2.2.1
  have hc12 := hr.2.1
  have hC := h.1.co
  by_cases hxx : nI 1 ≤ x ∧ x ≤ nI 100
  · obtain ⟨d, hda, hdb, rfl⟩ := rng_of (by decide) (by decide) hxx
    by_cases h9 : f 8 + nI d ≤ nI 9999
    · exact op_ch h hr hv (c_X7_advance_ok h.1 h.hw hr h.hol h.hkp (J := I) hv.okr (by omega) (by omega) h9) (fun R2 w => by obtain ⟨c2, w⟩ := w; exact hv.adv (by omega) ht w) (fun F n => c_X8_advance_ok hv.okr (by omega) (by omega) (Int32.not_lt.mpr h9) h.i6 h.hkp h.i11) (fun F n r E3 n3 y => y) rfl
    · exact op_no (j := 1) h rfl (Ct.hatN h.1.h1 (c_X7_advance_noD hC hr (by omega) (by omega) h9)) (fun F n => c_X8_advance_no2 (by omega) (by omega) (Int32.not_le.mp h9))
  · exact op_no (j := 0) h rfl (Ct.hatN h.1.h1 (c_X7_advance_noR hC hxx)) (fun F n => c_X8_advance_no1 hxx)
theorem o_restore {x : Int32} (h0 : IVo Γ ab mo k0 t E n) : OPk Γ ab mo t MX7_restore ["java/lang/IndexOutOfBoundsException", "java/lang/IllegalStateException"] MX8_restore [.int x] E n := by
  obtain ⟨S, q, I, A, f, h⟩ := h0.d
  obtain ⟨c, hr, hv⟩ := h.2.2.2.2.row
  have hc := hr.2.2.1
  have hc12 := hr.2.1
  have hC := h.1.co
  by_cases hxx : nI 0 ≤ x ∧ x ≤ nI 1
  · obtain ⟨s, hsa, hsb, rfl⟩ := rng_of (by decide) (by decide) hxx
    obtain ⟨e8, e9⟩ := h.sav.2 s (by omega)
    rcases e9 with e9 | ⟨e9, c9, hg, hvg⟩
    · exact op_no (j := 1) h rfl (Ct.hatN h.1.h1 (c_X7_restore_noE hC (by omega) h.1.sz e9)) (fun F n => c_X8_restore_no2 (by omega) (e8.trans (e9.trans (by decide))))
    · exact op_ch h hr hv (c_X7_restore_ok h.1 h.hw hr h.hol h.hkp (by omega) e9 hg) (fun R2 w => ⟨c9, w, hvg.le (by omega)⟩) (fun F n => c_X8_restore_ok (by omega) (fun z => absurd ((e9.symm.trans e8.symm).trans z) (by decide)) h.i6 h.hkp) (fun F n r E3 n3 y => rt_ch y) rfl
  · exact op_no (j := 0) h rfl (Ct.hatN h.1.h1 (c_X7_restore_noS hC hxx)) (fun F n => c_X8_restore_no1 hxx)
theorem o_undo (h0 : IVo Γ ab mo k0 t E n) : OPk Γ ab mo t MX7_undo ["java/lang/IllegalStateException"] MX8_undo [] E n := by
  obtain ⟨S, q, I, A, f, h⟩ := h0.d
  obtain ⟨c, hr, hv⟩ := h.2.2.2.2.row
  have hc := hr.2.2.1
  have hc12 := hr.2.1
  have hC := h.1.co
  by_cases hk : q_kp q = 0
  · exact op_no (j := 0) h rfl (Ct.hatN h.1.h1 (c_X7_undo_no hC h.1.hi hk)) (fun F n => c_X8_undo_no (h.i6.trans (by rw [hk])))
  · obtain ⟨c9, hg, hvg⟩ := h.2.2.2.2.2.2.2.1.2.2.2 (q_kp q - 1) (by omega)
    refine op_gen (x := nI (q_kp q - 1)) (b := nI (q_kp q - 1)) (Z := fun S2 q2 => ∃ R2, S2 = S ∧ q2 = qQ (qH q (q_ol q) (q_kp q - 1)) 1 R2 ∧ Rp Γ S (rowO (A 4) (q_kp q - 1)) c9 R2) h (c_X7_undo_ok h.1 h.hw hr h.hol h.hkp (by omega) hg) (fun r E2 n2 z => ?_) (fun F n => c_X8_undo_ok h.i6 (by omega) h.hkp) (fun S2 q2 z F n r E3 n3 y => ?_) rfl
    · obtain ⟨rfl, rfl, R2, rfl, w⟩ := z
      exact ⟨rfl, S, _, (h.1.setH (ol := q_ol q) (kp := q_kp q - 1)).setQ (i := 1) (R := R2) (by decide), Nat.le_refl _, (Frm.refl.hset (by omega)).hw (i := 1) (by decide), Or.inl rfl, Or.inl rfl, fun _ _ w => Or.inl w, R2, rfl, rfl, w⟩
    · obtain ⟨R2, rfl, rfl, w⟩ := z
      obtain ⟨rfl, rfl, rfl⟩ := y
      exact ⟨rfl, rfl, _, _, _, rfl, (RV.nxt h.2.2.2.2).undo (by omega) ⟨c9, w, hvg.le (by omega)⟩, pk_us⟩
theorem o_save {x : Int32} (h0 : IVo Γ ab mo k0 t E n) : OPk Γ ab mo t MX7_save ["java/lang/IndexOutOfBoundsException"] MX8_save [.int x] E n := by
  obtain ⟨S, q, I, A, f, h⟩ := h0.d
  obtain ⟨c, hr, hv⟩ := h.2.2.2.2.row
  have hc := hr.2.2.1
  have hc12 := hr.2.1
  have hC := h.1.co
  by_cases hxx : nI 0 ≤ x ∧ x ≤ nI 1
  · obtain ⟨s, hsa, hsb, rfl⟩ := rng_of (by decide) (by decide) hxx
    refine op_gen (x := f 8) (b := f 8) (Z := fun S2 q2 => ∃ R2, S2 = S ∧ q2 = qZ (qQ q (13 + s) R2) (upd (q_sv q) s (nI 1)) ∧ Rp Γ S f c R2) h (c_X7_save_ok h.1 h.hw hr h.hol h.hkp (by omega)) (fun r E2 n2 z => ?_) (fun F n => c_X8_save_ok (by omega)) (fun S2 q2 z F n r E3 n3 y => ?_) rfl
    · obtain ⟨rfl, rfl, R2, rfl, w⟩ := z
      have k1 := (h.1.setQ (i := 13 + s) (R := R2) (by omega)).setZ (sv := upd (q_sv q) s (nI 1))
      have k2 := ((Frm.refl (ab := ab) (n := n2) (lv := q_lv q) (ov := q_ov q) (E := E)).hw (Γ := Γ) (i := 13 + s) (R := R2) (by omega)).hset (a := ab + 557) (x := .inl (gA Γ 2, 2, .inl (upd (q_sv q) s (nI 1)))) (by omega)
      rw [hh_s (by omega)] at k1 k2
      exact ⟨rfl, S, _, k1, Nat.le_refl _, k2, Or.inl rfl, Or.inl rfl, fun _ _ w => Or.inl w, R2, rfl, rfl, w⟩
    · obtain ⟨R2, rfl, rfl, w⟩ := z
      obtain ⟨rfl, rfl, rfl⟩ := y
      exact ⟨rfl, rfl, _, _, _, rfl, (RV.nxt h.2.2.2.2).save (by omega) ⟨c, w, hv.le (by omega)⟩, pk_us⟩
  · exact op_no (j := 0) h rfl (Ct.hatN h.1.h1 (c_X7_save_noS hC hxx)) (fun F n => c_X8_save_no hxx)
theorem o_moveIn {x y z : Int32} (ht : t ≤ 600) (h0 : IVo Γ ab mo k0 t E n) : OPk Γ ab mo t MX7_moveIn ["java/lang/IllegalArgumentException", "java/lang/IllegalStateException"] MX8_moveIn [.int x, .int y, .int z] E n := by
  obtain ⟨S, q, I, A, f, h⟩ := h0.d
  obtain ⟨c, hr, hv⟩ := h.2.2.2.2.row
  have hc := hr.2.2.1
  have hc12 := hr.2.1
  have hC := h.1.co
  by_cases hxx : nI 0 ≤ x ∧ x ≤ nI 4
  · obtain ⟨φ, hφa, hφb, rfl⟩ := rng_of (by decide) (by decide) hxx
    by_cases hxy : nI 0 ≤ y ∧ y ≤ nI 999
    · obtain ⟨p, hpa, hpb, rfl⟩ := rng_of (by decide) (by decide) hxy
      by_cases hxz : nI 0 ≤ z ∧ z ≤ nI 99999
      · obtain ⟨a, haa, hab, rfl⟩ := rng_of (by decide) (by decide) hxz
        have h44 := hv.on4 (fl := nI φ) (bt := -1)
        by_cases h12 : c < 12
        · by_cases h4 : cntOn f (nI φ) (-1) c = 4
          · exact op_no (j := 1) h rfl (Ct.hatN h.1.h1 (c_X7_moveIn_noS hC hr (by omega) (by omega) (by omega) h12 (by omega))) (fun F n => c_X8_moveIn_no4 hc hc12 (by omega) (by omega) (by omega) (Or.inr h4))
          · refine op_gen (x := nI c) (b := nI c) (Z := fun S2 q2 => ∃ P2 R2, q2 = qQ (qR q P2) 1 R2 ∧ Rp Γ S f c P2 ∧ (∀ a, Le S S2 a) ∧ Rp Γ S2 (upd (comF f (nI φ) (nI p) a c) (13 + 16 * c + 10) (nI (frL f c 26 97))) (c + 1) R2) h (c_X7_moveIn_ok h.1 h.hw hr h.hol h.hkp (by omega) (by omega) (by omega) h12 (by omega)) (fun r E2 n2 z => ?_) (fun F n => c_X8_moveIn_ok hc h12 (by omega) (by omega) (by omega) h4 (frL_26 hc12).1 h.i6 h.hkp) (fun S2 q2 z F n r E3 n3 y => ?_) rfl
            · obtain ⟨rfl, rfl, P2, R2, E3, y, k1, k2, rfl, rfl⟩ := z
              have k3 := (k1.1.str (x := .inr (0, [.ref (n + 1), .int (nI 0), .int (nI 0), .int (nI 0)])) (y := .inl (gA Γ 1, 1, .inl y))).setQ (i := 1) (R := rcR (q_Q q 1) n (nI φ) (nI p) a c) (by decide)
              have k5 : ∀ v, S v = none ∨ v < n := fun v => by rcases e : S v with _ | w; exact Or.inl rfl; exact Or.inr (h.1.st v w e).2.2.1
              have k6 : ∀ v, Le S (hset (hset S n (.inr (0, [.ref (n + 1), .int (nI 0), .int (nI 0), .int (nI 0)]))) (n + 1) (.inl (gA Γ 1, 1, .inl y))) v := fun v w hw => by have := (h.1.st v w hw).2.2.1; exact ((hset_n (by omega)).trans (hset_n (by omega))).trans hw
              refine ⟨rfl, _, _, k3, by omega, (fun a2 g1 g2 g3 g4 => ?_), Or.inl rfl, Or.inl rfl, (fun a2 v hv2 => ?_), P2, _, rfl, k1.2.1, k6, (hr.mono k6).letter h12 (Or.inl ⟨_, _, (hset_n (by omega)).trans hset_s⟩) (Or.inl hset_s) k2⟩
              · rw [HW_o (by show ¬ (ab + 50 ≤ a2 ∧ a2 < ab + 50 + 42); omega)]
                exact ((hset_n (by omega)).trans (hset_n (by omega))).trans (k1.2.2 a2 g1 g2 g3 g4)
              · unfold hset at hv2
                by_cases z1 : a2 = n + 1
                · exact Or.inr (by omega)
                · rw [if_neg z1] at hv2
                  by_cases z2 : a2 = n
                  · exact Or.inr (by omega)
                  · rw [if_neg z2] at hv2
                    exact Or.inl hv2
            · obtain ⟨P2, R2, rfl, k1, k2, k3⟩ := z
              obtain ⟨rfl, rfl, rfl⟩ := y
              refine ⟨rfl, rfl, _, _, _, rfl, RV.rem ((RV.nxt h.2.2.2.2).st k2) (k1.mono k2) (hv.le (by omega)) ⟨c + 1, k3, ?_⟩, pk_us⟩
              have hvB : Val (2000000 + 10000 * (t + 1)) f c := hv.le (by omega)
              have hpB : p ≤ 2000000 + 10000 * (t + 1) := Nat.le_trans hpb (Nat.le_trans (by decide) (Nat.le_add_right 2000000 _))
              have hB31 : 2000000 + 10000 * (t + 1) < 2 ^ 31 := b31 ht
              revert hvB hpB hB31
              generalize 2000000 + 10000 * (t + 1) = B9
              intro hvB hpB hB31
              exact Val.com hvB h12 (by omega) hpB hB31 h4 (fun j hj => pk_un (by omega))
        · exact op_no (j := 1) h rfl (Ct.hatN h.1.h1 (c_X7_moveIn_noC hC hr (by omega) (by omega) (by omega) h12)) (fun F n => c_X8_moveIn_no4 hc hc12 (by omega) (by omega) (by omega) (Or.inl (by omega)))
      · exact op_no (j := 0) h rfl (Ct.hatN h.1.h1 (c_X7_moveIn_noA hC (by omega) (by omega) hxz)) (fun F n => c_X8_moveIn_no3 (by omega) (by omega) hxz)
    · exact op_no (j := 0) h rfl (Ct.hatN h.1.h1 (c_X7_moveIn_noP hC (by omega) hxy)) (fun F n => c_X8_moveIn_no2 (by omega) hxy)
  · exact op_no (j := 0) h rfl (Ct.hatN h.1.h1 (c_X7_moveIn_noF hC hxx)) (fun F n => c_X8_moveIn_no1 hxx)
end GO2
