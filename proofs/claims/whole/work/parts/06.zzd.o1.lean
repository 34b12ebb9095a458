section GO1
variable {Γ : Gm} {t ab mo n k0 : Nat} {E : Hp}
theorem o_errorKind (h0 : IVo Γ ab mo k0 t E n) : OPk Γ ab mo t MX7_errorKind [] MX8_errorKind [] E n := by
  obtain ⟨S, q, I, A, f, h⟩ := h0.d
  obtain ⟨c, hr, hv⟩ := h.2.2.2.2.row
  have hc := hr.2.2.1
  have hc12 := hr.2.1
  have hC := h.1.co
  exact op_ro h (Ct.hat h.1.h1 (c_X7_errorKind hC)) (fun F n => c_X8_errorKind ) h.2.2.2.2.2.1.1
theorem o_errorOffset (h0 : IVo Γ ab mo k0 t E n) : OPk Γ ab mo t MX7_errorOffset [] MX8_errorOffset [] E n := by
  obtain ⟨S, q, I, A, f, h⟩ := h0.d
  obtain ⟨c, hr, hv⟩ := h.2.2.2.2.row
  have hc := hr.2.2.1
  have hc12 := hr.2.1
  have hC := h.1.co
  exact op_ro h (Ct.hat h.1.h1 (c_X7_errorOffset hC)) (fun F n => c_X8_errorOffset ) h.2.2.2.2.2.1.2
theorem o_day (h0 : IVo Γ ab mo k0 t E n) : OPk Γ ab mo t MX7_day [] MX8_day [] E n := by
  obtain ⟨S, q, I, A, f, h⟩ := h0.d
  obtain ⟨c, hr, hv⟩ := h.2.2.2.2.row
  have hc := hr.2.2.1
  have hc12 := hr.2.1
  have hC := h.1.co
  exact op_ro h (Ct.hat h.1.h1 (c_X7_day hC hr)) (fun F n => c_X8_day ) rfl
theorem o_baseRent (h0 : IVo Γ ab mo k0 t E n) : OPk Γ ab mo t MX7_baseRent [] MX8_baseRent [] E n := by
  obtain ⟨S, q, I, A, f, h⟩ := h0.d
  obtain ⟨c, hr, hv⟩ := h.2.2.2.2.row
  have hc := hr.2.2.1
  have hc12 := hr.2.1
  have hC := h.1.co
  exact op_ro h (Ct.hat h.1.h1 (c_X7_baseRent hC hr)) (fun F n => c_X8_baseRent ) rfl
theorem o_tolerance (h0 : IVo Γ ab mo k0 t E n) : OPk Γ ab mo t MX7_tolerance [] MX8_tolerance [] E n := by
  obtain ⟨S, q, I, A, f, h⟩ := h0.d
  obtain ⟨c, hr, hv⟩ := h.2.2.2.2.row
  have hc := hr.2.2.1
  have hc12 := hr.2.1
  have hC := h.1.co
  exact op_ro h (Ct.hat h.1.h1 (c_X7_tolerance hC hr)) (fun F n => c_X8_tolerance ) rfl
theorem o_evictions (h0 : IVo Γ ab mo k0 t E n) : OPk Γ ab mo t MX7_evictions [] MX8_evictions [] E n := by
  obtain ⟨S, q, I, A, f, h⟩ := h0.d
  obtain ⟨c, hr, hv⟩ := h.2.2.2.2.row
  have hc := hr.2.2.1
  have hc12 := hr.2.1
  have hC := h.1.co
  exact op_ro h (Ct.hat h.1.h1 (c_X7_evictions hC hr)) (fun F n => c_X8_evictions ) rfl
theorem o_totalPaid (h0 : IVo Γ ab mo k0 t E n) : OPk Γ ab mo t MX7_totalPaid [] MX8_totalPaid [] E n := by
  obtain ⟨S, q, I, A, f, h⟩ := h0.d
  obtain ⟨c, hr, hv⟩ := h.2.2.2.2.row
  have hc := hr.2.2.1
  have hc12 := hr.2.1
  have hC := h.1.co
  exact op_ro h (Ct.hat h.1.h1 (c_X7_totalPaid hC hr)) (fun F n => c_X8_totalPaid ) rfl
theorem o_totalCharged (h0 : IVo Γ ab mo k0 t E n) : OPk Γ ab mo t MX7_totalCharged [] MX8_totalCharged [] E n := by
  obtain ⟨S, q, I, A, f, h⟩ := h0.d
  obtain ⟨c, hr, hv⟩ := h.2.2.2.2.row
  have hc := hr.2.2.1
  have hc12 := hr.2.1
  have hC := h.1.co
  exact op_ro h (Ct.hat h.1.h1 (c_X7_totalCharged hC hr)) (fun F n => c_X8_totalCharged ) rfl
theorem o_settled (h0 : IVo Γ ab mo k0 t E n) : OPk Γ ab mo t MX7_settled [] MX8_settled [] E n := by
  obtain ⟨S, q, I, A, f, h⟩ := h0.d
  obtain ⟨c, hr, hv⟩ := h.2.2.2.2.row
  have hc := hr.2.2.1
  have hc12 := hr.2.1
  have hC := h.1.co
  exact op_ro h (Ct.hat h.1.h1 (c_X7_settled hC hr)) (fun F n => c_X8_settled ) rfl
theorem o_daysToInspection (h0 : IVo Γ ab mo k0 t E n) : OPk Γ ab mo t MX7_daysToInspection [] MX8_daysToInspection [] E n := by
  obtain ⟨S, q, I, A, f, h⟩ := h0.d
  obtain ⟨c, hr, hv⟩ := h.2.2.2.2.row
  have hc := hr.2.2.1
  have hc12 := hr.2.1
  have hC := h.1.co
  exact op_ro h (Ct.hat h.1.h1 (c_X7_daysToInspection hC hr)) (fun F n => c_X8_daysToInspection ) rfl
theorem o_lodgerCount (h0 : IVo Γ ab mo k0 t E n) : OPk Γ ab mo t MX7_lodgerCount [] MX8_lodgerCount [] E n := by
  obtain ⟨S, q, I, A, f, h⟩ := h0.d
  obtain ⟨c, hr, hv⟩ := h.2.2.2.2.row
  have hc := hr.2.2.1
  have hc12 := hr.2.1
  have hC := h.1.co
  exact op_ro h (Ct.hat h.1.h1 (c_X7_lodgerCount hC hr)) (fun F n => c_X8_lodgerCount ) hc
theorem o_undoCount (h0 : IVo Γ ab mo k0 t E n) : OPk Γ ab mo t MX7_undoCount [] MX8_undoCount [] E n := by
  obtain ⟨S, q, I, A, f, h⟩ := h0.d
  obtain ⟨c, hr, hv⟩ := h.2.2.2.2.row
  have hc := hr.2.2.1
  have hc12 := hr.2.1
  have hC := h.1.co
  exact op_ro h (Ct.hat h.1.h1 (c_X7_undoCount hC h.1.hi)) (fun F n => c_X8_undoCount ) h.2.2.2.2.2.2.2.1.2.2.1
theorem o_ledgerDifference (h0 : IVo Γ ab mo k0 t E n) : OPk Γ ab mo t MX7_ledgerDifference [] MX8_ledgerDifference [] E n := by
  obtain ⟨S, q, I, A, f, h⟩ := h0.d
  obtain ⟨c, hr, hv⟩ := h.2.2.2.2.row
  have hc := hr.2.2.1
  have hc12 := hr.2.1
  have hC := h.1.co
  exact op_ro h (Ct.hat h.1.h1 (c_X7_ledgerDifference hC hr)) (fun F n => c_X8_ledgerDifference hc hc12) rfl
theorem o_rentOf {x : Int32} (h0 : IVo Γ ab mo k0 t E n) : OPk Γ ab mo t MX7_rentOf ["java/lang/IndexOutOfBoundsException"] MX8_rentOf [.int x] E n := by
  obtain ⟨S, q, I, A, f, h⟩ := h0.d
  obtain ⟨c, hr, hv⟩ := h.2.2.2.2.row
  have hc := hr.2.2.1
  have hc12 := hr.2.1
  have hC := h.1.co
  by_cases hxx : nI 0 ≤ x ∧ x ≤ nI 4
  · obtain ⟨φ, hφa, hφb, rfl⟩ := rng_of (by decide) (by decide) hxx
    exact op_ro h (Ct.hat h.1.h1 (c_X7_rentOf_ok hC hr (by omega))) (fun F n => c_X8_rentOf_ok (by omega)) rfl
  · exact op_no (j := 0) h rfl (Ct.hatN h.1.h1 (c_X7_rentOf_no hC hxx)) (fun F n => c_X8_rentOf_no hxx)
theorem o_landladyVowel {x : Int32} (h0 : IVo Γ ab mo k0 t E n) : OPk Γ ab mo t MX7_landladyVowel ["java/lang/IndexOutOfBoundsException"] MX8_landladyVowel [.int x] E n := by
  obtain ⟨S, q, I, A, f, h⟩ := h0.d
  obtain ⟨c, hr, hv⟩ := h.2.2.2.2.row
  have hc := hr.2.2.1
  have hc12 := hr.2.1
  have hC := h.1.co
  by_cases hxx : nI 0 ≤ x ∧ x ≤ nI 4
  · obtain ⟨v, hva, hvb, rfl⟩ := rng_of (by decide) (by decide) hxx
    exact op_ro h (Ct.hat h.1.h1 (c_X7_landladyVowel_ok hC hr (by omega))) (fun F n => c_X8_landladyVowel_ok (by omega)) rfl
  · exact op_no (j := 0) h rfl (Ct.hatN h.1.h1 (c_X7_landladyVowel_no hC hxx)) (fun F n => c_X8_landladyVowel_no hxx)
theorem o_floorOf {x : Int32} (h0 : IVo Γ ab mo k0 t E n) : OPk Γ ab mo t MX7_floorOf ["java/lang/IndexOutOfBoundsException"] MX8_floorOf [.int x] E n := by
  obtain ⟨S, q, I, A, f, h⟩ := h0.d
  obtain ⟨c, hr, hv⟩ := h.2.2.2.2.row
  have hc := hr.2.2.1
  have hc12 := hr.2.1
  have hC := h.1.co
  by_cases hxx : nI 0 ≤ x ∧ x ≤ nI c - nI 1
  · obtain ⟨k, hk, rfl⟩ := lod_of (by omega) hxx
    exact op_ro h (Ct.hat h.1.h1 (c_X7_floorOf_ok hC hr hk)) (fun F n => c_X8_floorOf_ok hc hc12 hk) rfl
  · exact op_no (j := 0) h rfl (Ct.hatN h.1.h1 (c_X7_floorOf_noL hC hr hxx)) (fun F n => c_X8_floorOf_no hc hc12 hxx)
theorem o_balanceOf {x : Int32} (h0 : IVo Γ ab mo k0 t E n) : OPk Γ ab mo t MX7_balanceOf ["java/lang/IndexOutOfBoundsException"] MX8_balanceOf [.int x] E n := by
  obtain ⟨S, q, I, A, f, h⟩ := h0.d
  obtain ⟨c, hr, hv⟩ := h.2.2.2.2.row
  have hc := hr.2.2.1
  have hc12 := hr.2.1
  have hC := h.1.co
  by_cases hxx : nI 0 ≤ x ∧ x ≤ nI c - nI 1
  · obtain ⟨k, hk, rfl⟩ := lod_of (by omega) hxx
    exact op_ro h (Ct.hat h.1.h1 (c_X7_balanceOf_ok hC hr hk)) (fun F n => c_X8_balanceOf_ok hc hc12 hk) rfl
  · exact op_no (j := 0) h rfl (Ct.hatN h.1.h1 (c_X7_balanceOf_noL hC hr hxx)) (fun F n => c_X8_balanceOf_no hc hc12 hxx)
theorem o_lessonsOf {x : Int32} (h0 : IVo Γ ab mo k0 t E n) : OPk Γ ab mo t MX7_lessonsOf ["java/lang/IndexOutOfBoundsException"] MX8_lessonsOf [.int x] E n := by
  obtain ⟨S, q, I, A, f, h⟩ := h0.d
  obtain ⟨c, hr, hv⟩ := h.2.2.2.2.row
  have hc := hr.2.2.1
  have hc12 := hr.2.1
  have hC := h.1.co
  by_cases hxx : nI 0 ≤ x ∧ x ≤ nI c - nI 1
  · obtain ⟨k, hk, rfl⟩ := lod_of (by omega) hxx
    exact op_ro h (Ct.hat h.1.h1 (c_X7_lessonsOf_ok hC hr hk)) (fun F n => c_X8_lessonsOf_ok hc hc12 hk) rfl
  · exact op_no (j := 0) h rfl (Ct.hatN h.1.h1 (c_X7_lessonsOf_noL hC hr hxx)) (fun F n => c_X8_lessonsOf_no hc hc12 hxx)
theorem o_slipsOf {x : Int32} (h0 : IVo Γ ab mo k0 t E n) : OPk Γ ab mo t MX7_slipsOf ["java/lang/IndexOutOfBoundsException"] MX8_slipsOf [.int x] E n := by
  obtain ⟨S, q, I, A, f, h⟩ := h0.d
  obtain ⟨c, hr, hv⟩ := h.2.2.2.2.row
  have hc := hr.2.2.1
  have hc12 := hr.2.1
  have hC := h.1.co
  by_cases hxx : nI 0 ≤ x ∧ x ≤ nI c - nI 1
  · obtain ⟨k, hk, rfl⟩ := lod_of (by omega) hxx
    exact op_ro h (Ct.hat h.1.h1 (c_X7_slipsOf_ok hC hr hk)) (fun F n => c_X8_slipsOf_ok hc hc12 hk) rfl
  · exact op_no (j := 0) h rfl (Ct.hatN h.1.h1 (c_X7_slipsOf_noL hC hr hxx)) (fun F n => c_X8_slipsOf_no hc hc12 hxx)
theorem o_daysStayed {x : Int32} (h0 : IVo Γ ab mo k0 t E n) : OPk Γ ab mo t MX7_daysStayed ["java/lang/IndexOutOfBoundsException"] MX8_daysStayed [.int x] E n := by
  obtain ⟨S, q, I, A, f, h⟩ := h0.d
  obtain ⟨c, hr, hv⟩ := h.2.2.2.2.row
  have hc := hr.2.2.1
  have hc12 := hr.2.1
  have hC := h.1.co
  by_cases hxx : nI 0 ≤ x ∧ x ≤ nI c - nI 1
  · obtain ⟨k, hk, rfl⟩ := lod_of (by omega) hxx
    exact op_ro h (Ct.hat h.1.h1 (c_X7_daysStayed_ok hC hr hk)) (fun F n => c_X8_daysStayed_ok hc hc12 hk) rfl
  · exact op_no (j := 0) h rfl (Ct.hatN h.1.h1 (c_X7_daysStayed_noL hC hr hxx)) (fun F n => c_X8_daysStayed_no hc hc12 hxx)
theorem o_distanceToLandlady {x : Int32} (h0 : IVo Γ ab mo k0 t E n) : OPk Γ ab mo t MX7_distanceToLandlady ["java/lang/IndexOutOfBoundsException"] MX8_distanceToLandlady [.int x] E n := by
  obtain ⟨S, q, I, A, f, h⟩ := h0.d
  obtain ⟨c, hr, hv⟩ := h.2.2.2.2.row
  have hc := hr.2.2.1
  have hc12 := hr.2.1
  have hC := h.1.co
  by_cases hxx : nI 0 ≤ x ∧ x ≤ nI c - nI 1
  · obtain ⟨k, hk, rfl⟩ := lod_of (by omega) hxx
    exact op_ro h (Ct.hat h.1.h1 (c_X7_distanceToLandlady_ok hC hr hk)) (fun F n => c_X8_distanceToLandlady_ok hc hc12 hk) rfl
  · exact op_no (j := 0) h rfl (Ct.hatN h.1.h1 (c_X7_distanceToLandlady_noL hC hr hxx)) (fun F n => c_X8_distanceToLandlady_no hc hc12 hxx)
theorem o_rhymesWithLandlady {x : Int32} (h0 : IVo Γ ab mo k0 t E n) : OPk Γ ab mo t MX7_rhymesWithLandlady ["java/lang/IndexOutOfBoundsException"] MX8_rhymesWithLandlady [.int x] E n := by
  obtain ⟨S, q, I, A, f, h⟩ := h0.d
  obtain ⟨c, hr, hv⟩ := h.2.2.2.2.row
  have hc := hr.2.2.1
  have hc12 := hr.2.1
  have hC := h.1.co
  by_cases hxx : nI 0 ≤ x ∧ x ≤ nI c - nI 1
  · obtain ⟨k, hk, rfl⟩ := lod_of (by omega) hxx
    exact op_ro h (Ct.hat h.1.h1 (c_X7_rhymesWithLandlady_ok hC hr hk)) (fun F n => c_X8_rhymesWithLandlady_ok hc hc12 hk) rfl
  · exact op_no (j := 0) h rfl (Ct.hatN h.1.h1 (c_X7_rhymesWithLandlady_noL hC hr hxx)) (fun F n => c_X8_rhymesWithLandlady_no hc hc12 hxx)
theorem o_lessonVowel {x : Int32} (h0 : IVo Γ ab mo k0 t E n) : OPk Γ ab mo t MX7_lessonVowel ["java/lang/IndexOutOfBoundsException"] MX8_lessonVowel [.int x] E n := by
  obtain ⟨S, q, I, A, f, h⟩ := h0.d
  obtain ⟨c, hr, hv⟩ := h.2.2.2.2.row
  have hc := hr.2.2.1
  have hc12 := hr.2.1
  have hC := h.1.co
  by_cases hxx : nI 0 ≤ x ∧ x ≤ nI c - nI 1
  · obtain ⟨k, hk, rfl⟩ := lod_of (by omega) hxx
    exact op_ro h (Ct.hat h.1.h1 (c_X7_lessonVowel_ok hC hr hk)) (fun F n => c_X8_lessonVowel_ok hc hc12 hk) rfl
  · exact op_no (j := 0) h rfl (Ct.hatN h.1.h1 (c_X7_lessonVowel_noL hC hr hxx)) (fun F n => c_X8_lessonVowel_no hc hc12 hxx)
theorem o_mustGo {x : Int32} (h0 : IVo Γ ab mo k0 t E n) : OPk Γ ab mo t MX7_mustGo ["java/lang/IndexOutOfBoundsException"] MX8_mustGo [.int x] E n := by
  obtain ⟨S, q, I, A, f, h⟩ := h0.d
  obtain ⟨c, hr, hv⟩ := h.2.2.2.2.row
  have hc := hr.2.2.1
  have hc12 := hr.2.1
  have hC := h.1.co
  by_cases hxx : nI 0 ≤ x ∧ x ≤ nI c - nI 1
  · obtain ⟨k, hk, rfl⟩ := lod_of (by omega) hxx
    exact op_ro h (Ct.hat h.1.h1 (c_X7_mustGo_ok hC hr hk)) (fun F n => c_X8_mustGo_ok hc hc12 hk) rfl
  · exact op_no (j := 0) h rfl (Ct.hatN h.1.h1 (c_X7_mustGo_noL hC hr hxx)) (fun F n => c_X8_mustGo_no hc hc12 hxx)
theorem o_rhymeCount {x : Int32} (h0 : IVo Γ ab mo k0 t E n) : OPk Γ ab mo t MX7_rhymeCount ["java/lang/IndexOutOfBoundsException"] MX8_rhymeCount [.int x] E n := by
  obtain ⟨S, q, I, A, f, h⟩ := h0.d
  obtain ⟨c, hr, hv⟩ := h.2.2.2.2.row
  have hc := hr.2.2.1
  have hc12 := hr.2.1
  have hC := h.1.co
  by_cases hxx : nI 0 ≤ x ∧ x ≤ nI c - nI 1
  · obtain ⟨k, hk, rfl⟩ := lod_of (by omega) hxx
    exact op_ro h (Ct.hat h.1.h1 (c_X7_rhymeCount_ok hC hr hk)) (fun F n => c_X8_rhymeCount_ok hc hc12 hk) rfl
  · exact op_no (j := 0) h rfl (Ct.hatN h.1.h1 (c_X7_rhymeCount_noL hC hr hxx)) (fun F n => c_X8_rhymeCount_no hc hc12 hxx)
theorem o_closestTo {x : Int32} (h0 : IVo Γ ab mo k0 t E n) : OPk Γ ab mo t MX7_closestTo ["java/lang/IndexOutOfBoundsException"] MX8_closestTo [.int x] E n := by
  obtain ⟨S, q, I, A, f, h⟩ := h0.d
  obtain ⟨c, hr, hv⟩ := h.2.2.2.2.row
  have hc := hr.2.2.1
  have hc12 := hr.2.1
  have hC := h.1.co
  by_cases hxx : nI 0 ≤ x ∧ x ≤ nI c - nI 1
  · obtain ⟨k, hk, rfl⟩ := lod_of (by omega) hxx
    exact op_ro h (Ct.hat h.1.h1 (c_X7_closestTo_ok hC hr hk)) (fun F n => c_X8_closestTo_ok hc hc12 hk) rfl
  · exact op_no (j := 0) h rfl (Ct.hatN h.1.h1 (c_X7_closestTo_noL hC hr hxx)) (fun F n => c_X8_closestTo_no hc hc12 hxx)
theorem o_nameLength {x : Int32} (h0 : IVo Γ ab mo k0 t E n) : OPk Γ ab mo t MX7_nameLength ["java/lang/IndexOutOfBoundsException"] MX8_nameLength [.int x] E n := by
  obtain ⟨S, q, I, A, f, h⟩ := h0.d
  obtain ⟨c, hr, hv⟩ := h.2.2.2.2.row
  have hc := hr.2.2.1
  have hc12 := hr.2.1
  have hC := h.1.co
  by_cases hxx : nI 0 ≤ x ∧ x ≤ nI c - nI 1
  · obtain ⟨k, hk, rfl⟩ := lod_of (by omega) hxx
    exact op_ro h (Ct.hat h.1.h1 (c_X7_nameLength_ok hC hr hk h.les)) (fun F n => c_X8_nameLength_ok hc hc12 hk) rfl
  · exact op_no (j := 0) h rfl (Ct.hatN h.1.h1 (c_X7_nameLength_noL hC hr hxx)) (fun F n => c_X8_nameLength_no hc hc12 hxx)
theorem o_vowelOf {x y : Int32} (h0 : IVo Γ ab mo k0 t E n) : OPk Γ ab mo t MX7_vowelOf ["java/lang/IndexOutOfBoundsException"] MX8_vowelOf [.int x, .int y] E n := by
  obtain ⟨S, q, I, A, f, h⟩ := h0.d
  obtain ⟨c, hr, hv⟩ := h.2.2.2.2.row
  have hc := hr.2.2.1
  have hc12 := hr.2.1
  have hC := h.1.co
  by_cases hxx : nI 0 ≤ x ∧ x ≤ nI c - nI 1
  · obtain ⟨k, hk, rfl⟩ := lod_of (by omega) hxx
    by_cases hxy : nI 0 ≤ y ∧ y ≤ nI 4
    · obtain ⟨v, hva, hvb, rfl⟩ := rng_of (by decide) (by decide) hxy
      exact op_ro h (Ct.hat h.1.h1 (c_X7_vowelOf_ok hC hr hk (by omega))) (fun F n => c_X8_vowelOf_ok hc hc12 hk (by omega)) (congrArg f (Nat.add_assoc _ _ _).symm)
    · exact op_no (j := 0) h rfl (Ct.hatN h.1.h1 (c_X7_vowelOf_noV hC hr hk hxy)) (fun F n => c_X8_vowelOf_no1 hxy)
  · by_cases hxy : nI 0 ≤ y ∧ y ≤ nI 4
    · obtain ⟨v, hva, hvb, rfl⟩ := rng_of (by decide) (by decide) hxy
      exact op_no (j := 0) h rfl (Ct.hatN h.1.h1 (c_X7_vowelOf_noL hC hr hxx)) (fun F n => c_X8_vowelOf_no2 hc hc12 hxx (by omega))
    · exact op_no (j := 0) h rfl (Ct.hatN h.1.h1 (c_X7_vowelOf_noL hC hr hxx)) (fun F n => c_X8_vowelOf_no1 hxy)
theorem o_distance {x y : Int32} (h0 : IVo Γ ab mo k0 t E n) : OPk Γ ab mo t MX7_distance ["java/lang/IndexOutOfBoundsException"] MX8_distance [.int x, .int y] E n := by
  obtain ⟨S, q, I, A, f, h⟩ := h0.d
  obtain ⟨c, hr, hv⟩ := h.2.2.2.2.row
  have hc := hr.2.2.1
  have hc12 := hr.2.1
  have hC := h.1.co
  by_cases hxx : nI 0 ≤ x ∧ x ≤ nI c - nI 1
  · obtain ⟨k, hk, rfl⟩ := lod_of (by omega) hxx
    by_cases hxy : nI 0 ≤ y ∧ y ≤ nI c - nI 1
    · obtain ⟨j, hj, rfl⟩ := lod_of (by omega) hxy
      exact op_ro h (Ct.hat h.1.h1 (c_X7_distance_ok hC hr hk hj)) (fun F n => c_X8_distance_ok hc hc12 hk hj) rfl
    · exact op_no (j := 0) h rfl (Ct.hatN h.1.h1 (c_X7_distance_noM hC hr hk hxy)) (fun F n => c_X8_distance_no2 hc hc12 hxy hk)
  · exact op_no (j := 0) h rfl (Ct.hatN h.1.h1 (c_X7_distance_noL hC hr hxx)) (fun F n => c_X8_distance_no1 hc hc12 hxx)
theorem o_rhymes {x y : Int32} (h0 : IVo Γ ab mo k0 t E n) : OPk Γ ab mo t MX7_rhymes ["java/lang/IndexOutOfBoundsException"] MX8_rhymes [.int x, .int y] E n := by
  obtain ⟨S, q, I, A, f, h⟩ := h0.d
  obtain ⟨c, hr, hv⟩ := h.2.2.2.2.row
  have hc := hr.2.2.1
  have hc12 := hr.2.1
  have hC := h.1.co
  by_cases hxx : nI 0 ≤ x ∧ x ≤ nI c - nI 1
  · obtain ⟨k, hk, rfl⟩ := lod_of (by omega) hxx
    by_cases hxy : nI 0 ≤ y ∧ y ≤ nI c - nI 1
    · obtain ⟨j, hj, rfl⟩ := lod_of (by omega) hxy
      exact op_ro h (Ct.hat h.1.h1 (c_X7_rhymes_ok hC hr hk hj)) (fun F n => c_X8_rhymes_ok hc hc12 hk hj) rfl
    · exact op_no (j := 0) h rfl (Ct.hatN h.1.h1 (c_X7_rhymes_noM hC hr hk hxy)) (fun F n => c_X8_rhymes_no2 hc hc12 hxy hk)
  · exact op_no (j := 0) h rfl (Ct.hatN h.1.h1 (c_X7_rhymes_noL hC hr hxx)) (fun F n => c_X8_rhymes_no1 hc hc12 hxx)
theorem o_nameLetter {x y : Int32} (h0 : IVo Γ ab mo k0 t E n) : OPk Γ ab mo t MX7_nameLetter ["java/lang/IndexOutOfBoundsException"] MX8_nameLetter [.int x, .int y] E n := by
  obtain ⟨S, q, I, A, f, h⟩ := h0.d
  obtain ⟨c, hr, hv⟩ := h.2.2.2.2.row
  have hc := hr.2.2.1
  have hc12 := hr.2.1
  have hC := h.1.co
  by_cases hxx : nI 0 ≤ x ∧ x ≤ nI c - nI 1
  · obtain ⟨k, hk, rfl⟩ := lod_of (by omega) hxx
    have hl6 := lenN_le (f := f) (k := k)
    by_cases hy : nI 0 ≤ y ∧ y ≤ nI (lenN f k) - nI 1
    · obtain ⟨j, hj, rfl⟩ := lod_of (by omega) hy
      exact op_ro h (Ct.hat h.1.h1 (c_X7_nameLetter_ok hC hr hk h.les hj)) (fun F n => c_X8_nameLetter_ok hc hc12 hk hj) rfl
    · exact op_no (j := 0) h rfl (Ct.hatN h.1.h1 (c_X7_nameLetter_noJ hC hr hk h.les hy)) (fun F n => c_X8_nameLetter_no2 hc hc12 hk hy)
  · exact op_no (j := 0) h rfl (Ct.hatN h.1.h1 (c_X7_nameLetter_noL hC hr hxx)) (fun F n => c_X8_nameLetter_no hc hc12 hxx)
theorem o_lodgersOn {x : Int32} (h0 : IVo Γ ab mo k0 t E n) : OPk Γ ab mo t MX7_lodgersOn ["java/lang/IndexOutOfBoundsException"] MX8_lodgersOn [.int x] E n := by
  obtain ⟨S, q, I, A, f, h⟩ := h0.d
  obtain ⟨c, hr, hv⟩ := h.2.2.2.2.row
  have hc := hr.2.2.1
  have hc12 := hr.2.1
  have hC := h.1.co
  by_cases hxx : nI 0 ≤ x ∧ x ≤ nI 4
  · obtain ⟨φ, hφa, hφb, rfl⟩ := rng_of (by decide) (by decide) hxx
    exact op_ro h (Ct.hat h.1.h1 (c_X7_lodgersOn_ok hC hr (by omega))) (fun F n => c_X8_lodgersOn_ok hc hc12 (by omega)) (by rw [cntA_on c (by omega)])
  · exact op_no (j := 0) h rfl (Ct.hatN h.1.h1 (c_X7_lodgersOn_no hC hxx)) (fun F n => c_X8_lodgersOn_no hxx)
theorem o_lodgerOn {x y : Int32} (h0 : IVo Γ ab mo k0 t E n) : OPk Γ ab mo t MX7_lodgerOn ["java/lang/IndexOutOfBoundsException"] MX8_lodgerOn [.int x, .int y] E n := by
  obtain ⟨S, q, I, A, f, h⟩ := h0.d
  obtain ⟨c, hr, hv⟩ := h.2.2.2.2.row
  have hc := hr.2.2.1
  have hc12 := hr.2.1
  have hC := h.1.co
  by_cases hxx : nI 0 ≤ x ∧ x ≤ nI 4
  · obtain ⟨φ, hφa, hφb, rfl⟩ := rng_of (by decide) (by decide) hxx
    by_cases hy : y < 0
    · exact op_no (j := 0) h rfl (Ct.hatN h.1.h1 (c_X7_lodgerOn_noY hC hr (by omega) hy)) (fun F n => c_X8_lodgerOn_no2 (by omega) hy)
    · obtain ⟨p, hp31, rfl⟩ := nI_of hy
      rcases hp : plF f (nI φ) c 0 p with _ | r
      · exact op_no (j := 0) h rfl (Ct.hatN h.1.h1 (c_X7_lodgerOn_noP hC hr (by omega) hp31 hp)) (fun F n => c_X8_lodgerOn_no3 hc hc12 (by omega) hp31 hp)
      · exact op_ro h (Ct.hat h.1.h1 (c_X7_lodgerOn_ok hC hr (by omega) hp31 hp)) (fun F n => c_X8_lodgerOn_ok hc hc12 (by omega) hp31 hp) rfl
  · exact op_no (j := 0) h rfl (Ct.hatN h.1.h1 (c_X7_lodgerOn_noF hC hxx)) (fun F n => c_X8_lodgerOn_no1 hxx)
theorem o_averageVowel {x y : Int32} (h0 : IVo Γ ab mo k0 t E n) : OPk Γ ab mo t MX7_averageVowel ["java/lang/IndexOutOfBoundsException", "java/lang/IllegalStateException"] MX8_averageVowel [.int x, .int y] E n := by
  obtain ⟨S, q, I, A, f, h⟩ := h0.d
  obtain ⟨c, hr, hv⟩ := h.2.2.2.2.row
  have hc := hr.2.2.1
  have hc12 := hr.2.1
  have hC := h.1.co
  by_cases hxx : nI 0 ≤ x ∧ x ≤ nI 4
  · obtain ⟨φ, hφa, hφb, rfl⟩ := rng_of (by decide) (by decide) hxx
    by_cases hxy : nI 0 ≤ y ∧ y ≤ nI 4
    · obtain ⟨v, hva, hvb, rfl⟩ := rng_of (by decide) (by decide) hxy
      have hcn := cntA_on (f := f) (fl := nI φ) c (by omega)
      by_cases h9 : cntA f (nI φ) c = 0
      · exact op_no (j := 1) h rfl (Ct.hatN h.1.h1 (c_X7_averageVowel_noC hC hr (by omega) (by omega) h9)) (fun F n => c_X8_averageVowel_no3 hc hc12 (by omega) (by omega) (hcn.trans h9))
      · exact op_ro h (Ct.hat h.1.h1 (c_X7_averageVowel_ok hC hr (by omega) (by omega) h9)) (fun F n => c_X8_averageVowel_ok hc hc12 (by omega) (by omega) (fun z => h9 (hcn.symm.trans z))) rfl
    · exact op_no (j := 0) h rfl (Ct.hatN h.1.h1 (c_X7_averageVowel_noV hC (by omega) hxy)) (fun F n => c_X8_averageVowel_no2 (by omega) hxy)
  · exact op_no (j := 0) h rfl (Ct.hatN h.1.h1 (c_X7_averageVowel_noF hC hxx)) (fun F n => c_X8_averageVowel_no1 hxx)
end GO1
