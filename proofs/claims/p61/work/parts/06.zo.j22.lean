section GJ22
theorem lod_in {x : Int32} {c : Nat} (hc : c ≤ 12) (h0 : ¬ x < 0) (hl : x < nI c) : nI 0 ≤ x ∧ x ≤ nI c - nI 1 := by
  obtain ⟨q, hq, rfl⟩ := nI_of h0
  have h := (nI_ltI hq (by omega)).mp hl
  rw [pk_sub (by omega)]
  exact ⟨nI_le (by omega) (by omega), nI_le (by omega) (by omega)⟩
theorem rng_in {x : Int32} {b : Nat} (hb : b + 1 < 2 ^ 31) (h0 : ¬ x < 0) (hl : x < nI (b + 1)) : nI 0 ≤ x ∧ x ≤ nI b := by
  obtain ⟨q, hq, rfl⟩ := nI_of h0
  have h := (nI_ltI hq (by omega)).mp hl
  exact ⟨nI_le (by omega) (by omega), nI_le (by omega) (by omega)⟩
set_option maxRecDepth 100000 in
set_option maxHeartbeats 4000000 in
theorem c_X7_requireLodger_ok {Γ : Gm} {n : Nat} {ab im : Nat} {rk ro : Int32} {F : Hp} {R : Hr} {S : Hp} {f : Nat → Int32} {c : Nat} {k : Nat} (hC : F ab = some (.inr (10, coF ab im rk ro))) (hr : Rp Γ S f c R) (hk : k < c) : Ct Γ 7 MX7_requireLodger 0 0 [.ref ab, .int (nI k)] (HW Γ (ab + 50) F R) n (Rt (some (.ref (ab + 50 + 6 + 3 * hO R k))) (HW Γ (ab + 50) F R) n) X0 := by
  refine Ct.of (by decide +kernel) rfl (Nat.le_of_ble_eq_true rfl) ?_
  have hc12 := hr.2.1
  refine G.sub (lv2 := [(0, _), (1, _)]) [0, 1] rfl ?_
  refine g_iload_n 1 rfl dX7_requireLodger_0 ?_
  refine g_if_lt (tgt := 15) (by decide) dX7_requireLodger_1 (fun h1 => ?_) (fun h1 => ?_)
  · -- t 15
    exact absurd h1 (nI_pos (by omega))
  · -- f 4
    refine g_iload_n 1 rfl dX7_requireLodger_4 ?_
    refine g_aload_n 0 rfl dX7_requireLodger_5 ?_
    refine g_get f_X7_36 ((HW_o (by omega)).trans hC) rfl dX7_requireLodger_6 ?_
    refine g_get f_X7_114 HW_h rfl dX7_requireLodger_9 ?_
    refine g_top hr.cnt ?_
    refine gn_icmp_lt (by omega) (by omega) (tgt := 26) (by decide) dX7_requireLodger_12 (fun cc1 => ?_) (fun cc1 => ?_)
    · -- t 26
      refine g_aload_n 0 rfl dX7_requireLodger_26 ?_
      refine g_get f_X7_36 ((HW_o (by omega)).trans hC) rfl dX7_requireLodger_27 ?_
      refine g_get f_X7_208 HW_h rfl dX7_requireLodger_30 ?_
      refine g_iload_n 1 rfl dX7_requireLodger_33 ?_
      refine h_aald (by omega) dX7_requireLodger_34 ?_
      exact g_aret ⟨rfl, rfl, rfl⟩ rfl dX7_requireLodger_35
    · -- f 15
      exfalso; omega
set_option maxRecDepth 100000 in
set_option maxHeartbeats 4000000 in
theorem c_X7_requireLodger_no {Γ : Gm} {n : Nat} {ab im : Nat} {rk ro : Int32} {F : Hp} {R : Hr} {S : Hp} {f : Nat → Int32} {c : Nat} {x : Int32} (hC : F ab = some (.inr (10, coF ab im rk ro))) (hr : Rp Γ S f c R) (hx : ¬ (nI 0 ≤ x ∧ x ≤ nI c - nI 1)) : Ct Γ 7 MX7_requireLodger 1 6 [.ref ab, .int x] (HW Γ (ab + 50) F R) n PNo (Xe "java/lang/IndexOutOfBoundsException" (HW Γ (ab + 50) F R) n) := by
  refine Ct.of (by decide +kernel) rfl (Nat.le_of_ble_eq_true rfl) ?_
  have hc12 := hr.2.1
  refine G.sub (lv2 := [(0, _), (1, _)]) [0, 1] rfl ?_
  refine g_iload_n 1 rfl dX7_requireLodger_0 ?_
  refine g_if_lt (tgt := 15) (by decide) dX7_requireLodger_1 (fun h1 => ?_) (fun h1 => ?_)
  · -- t 15
    exact g_throw ⟨rfl, rfl, rfl⟩ (thr_X7_requireLodger_15 (by decide)) (Nat.le_of_ble_eq_true rfl) (by decide) (by decide)
  · -- f 4
    refine g_iload_n 1 rfl dX7_requireLodger_4 ?_
    refine g_aload_n 0 rfl dX7_requireLodger_5 ?_
    refine g_get f_X7_36 ((HW_o (by omega)).trans hC) rfl dX7_requireLodger_6 ?_
    refine g_get f_X7_114 HW_h rfl dX7_requireLodger_9 ?_
    refine g_top hr.cnt ?_
    refine g_icmp_lt (tgt := 26) (by decide) dX7_requireLodger_12 (fun h12 => ?_) (fun h12 => ?_)
    · -- t 26
      exact absurd (lod_in hc12 h1 h12) hx
    · -- f 15
      exact g_throw ⟨rfl, rfl, rfl⟩ (thr_X7_requireLodger_15 (by decide)) (Nat.le_of_ble_eq_true rfl) (by decide) (by decide)
set_option maxRecDepth 100000 in
set_option maxHeartbeats 4000000 in
theorem c_X7_requireFloor_ok {Γ : Gm} {n : Nat} {ab im : Nat} {rk ro : Int32} {F : Hp} {R : Hr} {k : Nat} (hC : F ab = some (.inr (10, coF ab im rk ro))) (hk : k < 5) : Ct Γ 7 MX7_requireFloor 0 0 [.ref ab, .int (nI k)] (HW Γ (ab + 50) F R) n (Rt none (HW Γ (ab + 50) F R) n) X0 := by
  refine Ct.of (by decide +kernel) rfl (Nat.le_of_ble_eq_true rfl) ?_
  refine G.sub (lv2 := [(0, _), (1, _)]) [0, 1] rfl ?_
  refine g_iload_n 1 rfl dX7_requireFloor_0 ?_
  refine g_if_lt (tgt := 9) (by decide) dX7_requireFloor_1 (fun h1 => ?_) (fun h1 => ?_)
  · -- t 9
    exact absurd h1 (nI_pos (by omega))
  · -- f 4
    refine g_iload_n 1 rfl dX7_requireFloor_4 ?_
    refine gn_ic 5 (by decide) dX7_requireFloor_5 ?_
    refine gn_icmp_lt (by omega) (by omega) (tgt := 20) (by decide) dX7_requireFloor_6 (fun cc1 => ?_) (fun cc1 => ?_)
    · -- t 20
      exact g_vret ⟨rfl, rfl, rfl⟩ rfl dX7_requireFloor_20
    · -- f 9
      exfalso; omega
set_option maxRecDepth 100000 in
set_option maxHeartbeats 4000000 in
theorem c_X7_requireFloor_no {Γ : Gm} {n : Nat} {ab im : Nat} {rk ro : Int32} {F : Hp} {R : Hr} {x : Int32} (hC : F ab = some (.inr (10, coF ab im rk ro))) (hx : ¬ (nI 0 ≤ x ∧ x ≤ nI 4)) : Ct Γ 7 MX7_requireFloor 1 6 [.ref ab, .int x] (HW Γ (ab + 50) F R) n PNo (Xe "java/lang/IndexOutOfBoundsException" (HW Γ (ab + 50) F R) n) := by
  refine Ct.of (by decide +kernel) rfl (Nat.le_of_ble_eq_true rfl) ?_
  refine G.sub (lv2 := [(0, _), (1, _)]) [0, 1] rfl ?_
  refine g_iload_n 1 rfl dX7_requireFloor_0 ?_
  refine g_if_lt (tgt := 9) (by decide) dX7_requireFloor_1 (fun h1 => ?_) (fun h1 => ?_)
  · -- t 9
    exact g_throw ⟨rfl, rfl, rfl⟩ (thr_X7_requireFloor_9 (by decide)) (Nat.le_of_ble_eq_true rfl) (by decide) (by decide)
  · -- f 4
    refine g_iload_n 1 rfl dX7_requireFloor_4 ?_
    refine gn_ic 5 (by decide) dX7_requireFloor_5 ?_
    refine g_icmp_lt (tgt := 20) (by decide) dX7_requireFloor_6 (fun h6 => ?_) (fun h6 => ?_)
    · -- t 20
      exact absurd (rng_in (by decide) h1 h6) hx
    · -- f 9
      exact g_throw ⟨rfl, rfl, rfl⟩ (thr_X7_requireFloor_9 (by decide)) (Nat.le_of_ble_eq_true rfl) (by decide) (by decide)
set_option maxRecDepth 100000 in
set_option maxHeartbeats 4000000 in
theorem c_X7_requireVowel_ok {Γ : Gm} {n : Nat} {ab im : Nat} {rk ro : Int32} {F : Hp} {R : Hr} {k : Nat} (hC : F ab = some (.inr (10, coF ab im rk ro))) (hk : k < 5) : Ct Γ 7 MX7_requireVowel 0 0 [.ref ab, .int (nI k)] (HW Γ (ab + 50) F R) n (Rt none (HW Γ (ab + 50) F R) n) X0 := by
  refine Ct.of (by decide +kernel) rfl (Nat.le_of_ble_eq_true rfl) ?_
  refine G.sub (lv2 := [(0, _), (1, _)]) [0, 1] rfl ?_
  refine g_iload_n 1 rfl dX7_requireVowel_0 ?_
  refine g_if_lt (tgt := 9) (by decide) dX7_requireVowel_1 (fun h1 => ?_) (fun h1 => ?_)
  · -- t 9
    exact absurd h1 (nI_pos (by omega))
  · -- f 4
    refine g_iload_n 1 rfl dX7_requireVowel_4 ?_
    refine gn_ic 5 (by decide) dX7_requireVowel_5 ?_
    refine gn_icmp_lt (by omega) (by omega) (tgt := 20) (by decide) dX7_requireVowel_6 (fun cc1 => ?_) (fun cc1 => ?_)
    · -- t 20
      exact g_vret ⟨rfl, rfl, rfl⟩ rfl dX7_requireVowel_20
    · -- f 9
      exfalso; omega
set_option maxRecDepth 100000 in
set_option maxHeartbeats 4000000 in
theorem c_X7_requireVowel_no {Γ : Gm} {n : Nat} {ab im : Nat} {rk ro : Int32} {F : Hp} {R : Hr} {x : Int32} (hC : F ab = some (.inr (10, coF ab im rk ro))) (hx : ¬ (nI 0 ≤ x ∧ x ≤ nI 4)) : Ct Γ 7 MX7_requireVowel 1 6 [.ref ab, .int x] (HW Γ (ab + 50) F R) n PNo (Xe "java/lang/IndexOutOfBoundsException" (HW Γ (ab + 50) F R) n) := by
  refine Ct.of (by decide +kernel) rfl (Nat.le_of_ble_eq_true rfl) ?_
  refine G.sub (lv2 := [(0, _), (1, _)]) [0, 1] rfl ?_
  refine g_iload_n 1 rfl dX7_requireVowel_0 ?_
  refine g_if_lt (tgt := 9) (by decide) dX7_requireVowel_1 (fun h1 => ?_) (fun h1 => ?_)
  · -- t 9
    exact g_throw ⟨rfl, rfl, rfl⟩ (thr_X7_requireVowel_9 (by decide)) (Nat.le_of_ble_eq_true rfl) (by decide) (by decide)
  · -- f 4
    refine g_iload_n 1 rfl dX7_requireVowel_4 ?_
    refine gn_ic 5 (by decide) dX7_requireVowel_5 ?_
    refine g_icmp_lt (tgt := 20) (by decide) dX7_requireVowel_6 (fun h6 => ?_) (fun h6 => ?_)
    · -- t 20
      exact absurd (rng_in (by decide) h1 h6) hx
    · -- f 9
      exact g_throw ⟨rfl, rfl, rfl⟩ (thr_X7_requireVowel_9 (by decide)) (Nat.le_of_ble_eq_true rfl) (by decide) (by decide)
set_option maxRecDepth 100000 in
set_option maxHeartbeats 4000000 in
theorem c_X7_requireSlot_ok {Γ : Gm} {n : Nat} {ab im : Nat} {rk ro : Int32} {F : Hp} {R : Hr} {k : Nat} (hC : F ab = some (.inr (10, coF ab im rk ro))) (hk : k < 2) : Ct Γ 7 MX7_requireSlot 0 0 [.ref ab, .int (nI k)] (HW Γ (ab + 50) F R) n (Rt none (HW Γ (ab + 50) F R) n) X0 := by
  refine Ct.of (by decide +kernel) rfl (Nat.le_of_ble_eq_true rfl) ?_
  refine G.sub (lv2 := [(0, _), (1, _)]) [0, 1] rfl ?_
  refine g_iload_n 1 rfl dX7_requireSlot_0 ?_
  refine g_if_lt (tgt := 9) (by decide) dX7_requireSlot_1 (fun h1 => ?_) (fun h1 => ?_)
  · -- t 9
    exact absurd h1 (nI_pos (by omega))
  · -- f 4
    refine g_iload_n 1 rfl dX7_requireSlot_4 ?_
    refine gn_ic 2 (by decide) dX7_requireSlot_5 ?_
    refine gn_icmp_lt (by omega) (by omega) (tgt := 20) (by decide) dX7_requireSlot_6 (fun cc1 => ?_) (fun cc1 => ?_)
    · -- t 20
      exact g_vret ⟨rfl, rfl, rfl⟩ rfl dX7_requireSlot_20
    · -- f 9
      exfalso; omega
set_option maxRecDepth 100000 in
set_option maxHeartbeats 4000000 in
theorem c_X7_requireSlot_no {Γ : Gm} {n : Nat} {ab im : Nat} {rk ro : Int32} {F : Hp} {R : Hr} {x : Int32} (hC : F ab = some (.inr (10, coF ab im rk ro))) (hx : ¬ (nI 0 ≤ x ∧ x ≤ nI 1)) : Ct Γ 7 MX7_requireSlot 1 6 [.ref ab, .int x] (HW Γ (ab + 50) F R) n PNo (Xe "java/lang/IndexOutOfBoundsException" (HW Γ (ab + 50) F R) n) := by
  refine Ct.of (by decide +kernel) rfl (Nat.le_of_ble_eq_true rfl) ?_
  refine G.sub (lv2 := [(0, _), (1, _)]) [0, 1] rfl ?_
  refine g_iload_n 1 rfl dX7_requireSlot_0 ?_
  refine g_if_lt (tgt := 9) (by decide) dX7_requireSlot_1 (fun h1 => ?_) (fun h1 => ?_)
  · -- t 9
    exact g_throw ⟨rfl, rfl, rfl⟩ (thr_X7_requireSlot_9 (by decide)) (Nat.le_of_ble_eq_true rfl) (by decide) (by decide)
  · -- f 4
    refine g_iload_n 1 rfl dX7_requireSlot_4 ?_
    refine gn_ic 2 (by decide) dX7_requireSlot_5 ?_
    refine g_icmp_lt (tgt := 20) (by decide) dX7_requireSlot_6 (fun h6 => ?_) (fun h6 => ?_)
    · -- t 20
      exact absurd (rng_in (by decide) h1 h6) hx
    · -- f 9
      exact g_throw ⟨rfl, rfl, rfl⟩ (thr_X7_requireSlot_9 (by decide)) (Nat.le_of_ble_eq_true rfl) (by decide) (by decide)
set_option maxRecDepth 100000 in
set_option maxHeartbeats 4000000 in
theorem c_X7_requireRange_ok {Γ : Gm} {n : Nat} {ab im : Nat} {rk ro : Int32} {F : Hp} {R : Hr} {k lo ub : Nat} (hC : F ab = some (.inr (10, coF ab im rk ro))) (h1k : lo ≤ k) (h2k : k ≤ ub) (hub : ub < 2 ^ 31) : Ct Γ 7 MX7_requireRange 0 0 [.ref ab, .int (nI k), .int (nI lo), .int (nI ub)] (HW Γ (ab + 50) F R) n (Rt none (HW Γ (ab + 50) F R) n) X0 := by
  refine Ct.of (by decide +kernel) rfl (Nat.le_of_ble_eq_true rfl) ?_
  refine G.sub (lv2 := [(0, _), (1, _), (2, _), (3, _)]) [0, 1, 2, 3] rfl ?_
  refine g_iload_n 1 rfl dX7_requireRange_0 ?_
  refine g_iload_n 2 rfl dX7_requireRange_1 ?_
  refine gn_icmp_lt (by omega) (by omega) (tgt := 10) (by decide) dX7_requireRange_2 (fun cc1 => ?_) (fun cc1 => ?_)
  · -- t 10
    exfalso; omega
  · -- f 5
    refine g_iload_n 1 rfl dX7_requireRange_5 ?_
    refine g_iload_n 3 rfl dX7_requireRange_6 ?_
    refine gn_icmp_le (by omega) (by omega) (tgt := 21) (by decide) dX7_requireRange_7 (fun cc2 => ?_) (fun cc2 => ?_)
    · -- t 21
      exact g_vret ⟨rfl, rfl, rfl⟩ rfl dX7_requireRange_21
    · -- f 10
      exfalso; omega
set_option maxRecDepth 100000 in
set_option maxHeartbeats 4000000 in
theorem c_X7_requireRange_no {Γ : Gm} {n : Nat} {ab im : Nat} {rk ro : Int32} {F : Hp} {R : Hr} {x : Int32} {lo ub : Nat} (hC : F ab = some (.inr (10, coF ab im rk ro))) (hx : ¬ (nI lo ≤ x ∧ x ≤ nI ub)) : Ct Γ 7 MX7_requireRange 1 6 [.ref ab, .int x, .int (nI lo), .int (nI ub)] (HW Γ (ab + 50) F R) n PNo (Xe "java/lang/IllegalArgumentException" (HW Γ (ab + 50) F R) n) := by
  refine Ct.of (by decide +kernel) rfl (Nat.le_of_ble_eq_true rfl) ?_
  refine G.sub (lv2 := [(0, _), (1, _), (2, _), (3, _)]) [0, 1, 2, 3] rfl ?_
  refine g_iload_n 1 rfl dX7_requireRange_0 ?_
  refine g_iload_n 2 rfl dX7_requireRange_1 ?_
  refine g_icmp_lt (tgt := 10) (by decide) dX7_requireRange_2 (fun h2 => ?_) (fun h2 => ?_)
  · -- t 10
    exact g_throw ⟨rfl, rfl, rfl⟩ (thr_X7_requireRange_10 (by decide)) (Nat.le_of_ble_eq_true rfl) (by decide) (by decide)
  · -- f 5
    refine g_iload_n 1 rfl dX7_requireRange_5 ?_
    refine g_iload_n 3 rfl dX7_requireRange_6 ?_
    refine g_icmp_le (tgt := 21) (by decide) dX7_requireRange_7 (fun h7 => ?_) (fun h7 => ?_)
    · -- t 21
      exact absurd ⟨Int32.not_lt.mp h2, h7⟩ hx
    · -- f 10
      exact g_throw ⟨rfl, rfl, rfl⟩ (thr_X7_requireRange_10 (by decide)) (Nat.le_of_ble_eq_true rfl) (by decide) (by decide)
set_option maxRecDepth 100000 in
set_option maxHeartbeats 4000000 in
theorem c_X7_requirePlace_0ok {Γ : Gm} {n : Nat} {ab im : Nat} {rk ro : Int32} {F : Hp} {R : Hr} {S : Hp} {f : Nat → Int32} {c : Nat} {fl : Int32}  (hC : F ab = some (.inr (10, coF ab im rk ro))) (hr : Rp Γ S f c R)  (hf4 : ¬ 4 ≤ cntOn f fl (-1) c) : Ct Γ 7 MX7_requirePlace 0 0 [.ref ab, .int fl, .null] (HW Γ (ab + 50) F R) n (Rt none (HW Γ (ab + 50) F R) n) X0 := by
  refine Ct.of (by decide +kernel) rfl (Nat.le_of_ble_eq_true rfl) ?_
  have hc12 := hr.2.1
  refine G.sub (lv2 := [(0, _), (1, _), (2, _)]) [0, 1, 2] rfl ?_
  refine g_aload_n 0 rfl dX7_requirePlace_0 ?_
  refine g_get f_X7_36 ((HW_o (by omega)).trans hC) rfl dX7_requirePlace_1 ?_
  refine g_iload_n 1 rfl dX7_requirePlace_4 ?_
  refine g_aload_nN 2 rfl dX7_requirePlace_5 ?_
  refine gv_V (c_X2_isFull_0 hr) l_X7_322 rfl (Rcv.of HW_h rfl) (Nat.le_of_ble_eq_true rfl) (Nat.le_of_ble_eq_true rfl) rfl dX7_requirePlace_6 ?_
  refine g_if_eq (tgt := 23) (by decide) dX7_requirePlace_9 (fun h9 => ?_) (fun h9 => ?_)
  · -- t 23
    exact g_vret ⟨rfl, rfl, rfl⟩ rfl dX7_requirePlace_23
  · -- f 12
    exact absurd (bi_n0 h9) hf4
set_option maxRecDepth 100000 in
set_option maxHeartbeats 4000000 in
theorem c_X7_requirePlace_0no {Γ : Gm} {n : Nat} {ab im : Nat} {rk ro : Int32} {F : Hp} {R : Hr} {S : Hp} {f : Nat → Int32} {c : Nat} {fl : Int32}  (hC : F ab = some (.inr (10, coF ab im rk ro))) (hr : Rp Γ S f c R)  (hf4 : 4 ≤ cntOn f fl (-1) c) : Ct Γ 7 MX7_requirePlace 1 6 [.ref ab, .int fl, .null] (HW Γ (ab + 50) F R) n PNo (Xe "java/lang/IllegalStateException" (HW Γ (ab + 50) F R) n) := by
  refine Ct.of (by decide +kernel) rfl (Nat.le_of_ble_eq_true rfl) ?_
  have hc12 := hr.2.1
  refine G.sub (lv2 := [(0, _), (1, _), (2, _)]) [0, 1, 2] rfl ?_
  refine g_aload_n 0 rfl dX7_requirePlace_0 ?_
  refine g_get f_X7_36 ((HW_o (by omega)).trans hC) rfl dX7_requirePlace_1 ?_
  refine g_iload_n 1 rfl dX7_requirePlace_4 ?_
  refine g_aload_nN 2 rfl dX7_requirePlace_5 ?_
  refine gv_V (c_X2_isFull_0 hr) l_X7_322 rfl (Rcv.of HW_h rfl) (Nat.le_of_ble_eq_true rfl) (Nat.le_of_ble_eq_true rfl) rfl dX7_requirePlace_6 ?_
  refine g_if_eq (tgt := 23) (by decide) dX7_requirePlace_9 (fun h9 => ?_) (fun h9 => ?_)
  · -- t 23
    exact absurd hf4 (bi_0 h9)
  · -- f 12
    exact g_throw ⟨rfl, rfl, rfl⟩ (thr_X7_requirePlace_12 (by decide)) (Nat.le_of_ble_eq_true rfl) (by decide) (by decide)
set_option maxRecDepth 100000 in
set_option maxHeartbeats 4000000 in
theorem c_X7_requirePlace_kok {Γ : Gm} {n : Nat} {ab im : Nat} {rk ro : Int32} {F : Hp} {R : Hr} {S : Hp} {f : Nat → Int32} {c : Nat} {fl : Int32} {k : Nat} (hC : F ab = some (.inr (10, coF ab im rk ro))) (hr : Rp Γ S f c R) (hk : k < c) (hf4 : ¬ 4 ≤ cntOn f fl (nI k) c) : Ct Γ 7 MX7_requirePlace 0 0 [.ref ab, .int fl, .ref (ab + 50 + 6 + 3 * hO R k)] (HW Γ (ab + 50) F R) n (Rt none (HW Γ (ab + 50) F R) n) X0 := by
  refine Ct.of (by decide +kernel) rfl (Nat.le_of_ble_eq_true rfl) ?_
  have hc12 := hr.2.1
  refine G.sub (lv2 := [(0, _), (1, _), (2, _)]) [0, 1, 2] rfl ?_
  refine g_aload_n 0 rfl dX7_requirePlace_0 ?_
  refine g_get f_X7_36 ((HW_o (by omega)).trans hC) rfl dX7_requirePlace_1 ?_
  refine g_iload_n 1 rfl dX7_requirePlace_4 ?_
  refine g_aload_n 2 rfl dX7_requirePlace_5 ?_
  refine gv_V (c_X2_isFull_k hr hk) l_X7_322 rfl (Rcv.of HW_h rfl) (Nat.le_of_ble_eq_true rfl) (Nat.le_of_ble_eq_true rfl) rfl dX7_requirePlace_6 ?_
  refine g_if_eq (tgt := 23) (by decide) dX7_requirePlace_9 (fun h9 => ?_) (fun h9 => ?_)
  · -- t 23
    exact g_vret ⟨rfl, rfl, rfl⟩ rfl dX7_requirePlace_23
  · -- f 12
    exact absurd (bi_n0 h9) hf4
set_option maxRecDepth 100000 in
set_option maxHeartbeats 4000000 in
theorem c_X7_requirePlace_kno {Γ : Gm} {n : Nat} {ab im : Nat} {rk ro : Int32} {F : Hp} {R : Hr} {S : Hp} {f : Nat → Int32} {c : Nat} {fl : Int32} {k : Nat} (hC : F ab = some (.inr (10, coF ab im rk ro))) (hr : Rp Γ S f c R) (hk : k < c) (hf4 : 4 ≤ cntOn f fl (nI k) c) : Ct Γ 7 MX7_requirePlace 1 6 [.ref ab, .int fl, .ref (ab + 50 + 6 + 3 * hO R k)] (HW Γ (ab + 50) F R) n PNo (Xe "java/lang/IllegalStateException" (HW Γ (ab + 50) F R) n) := by
  refine Ct.of (by decide +kernel) rfl (Nat.le_of_ble_eq_true rfl) ?_
  have hc12 := hr.2.1
  refine G.sub (lv2 := [(0, _), (1, _), (2, _)]) [0, 1, 2] rfl ?_
  refine g_aload_n 0 rfl dX7_requirePlace_0 ?_
  refine g_get f_X7_36 ((HW_o (by omega)).trans hC) rfl dX7_requirePlace_1 ?_
  refine g_iload_n 1 rfl dX7_requirePlace_4 ?_
  refine g_aload_n 2 rfl dX7_requirePlace_5 ?_
  refine gv_V (c_X2_isFull_k hr hk) l_X7_322 rfl (Rcv.of HW_h rfl) (Nat.le_of_ble_eq_true rfl) (Nat.le_of_ble_eq_true rfl) rfl dX7_requirePlace_6 ?_
  refine g_if_eq (tgt := 23) (by decide) dX7_requirePlace_9 (fun h9 => ?_) (fun h9 => ?_)
  · -- t 23
    exact absurd hf4 (bi_0 h9)
  · -- f 12
    exact g_throw ⟨rfl, rfl, rfl⟩ (thr_X7_requirePlace_12 (by decide)) (Nat.le_of_ble_eq_true rfl) (by decide) (by decide)
end GJ22
