section GJ23
set_option maxRecDepth 100000 in
set_option maxHeartbeats 4000000 in
theorem c_X7_day {Γ : Gm} {n : Nat} {ab im : Nat} {rk ro : Int32} {F : Hp} {R : Hr} {S : Hp} {f : Nat → Int32} {c : Nat}  (hC : F ab = some (.inr (10, coF ab im rk ro))) (hr : Rp Γ S f c R)  : Ct Γ 1 MX7_day 0 0 [.ref ab] (HW Γ (ab + 50) F R) n (Rt (some (.int (f 8))) (HW Γ (ab + 50) F R) n) X0 := by
  refine Ct.of (by decide +kernel) rfl (Nat.le_of_ble_eq_true rfl) ?_
  have hc12 := hr.2.1
  refine G.sub (lv2 := [(0, _)]) [0] rfl ?_
  refine g_aload_n 0 rfl dX7_day_0 ?_
  refine g_get f_X7_36 ((HW_o (by omega)).trans hC) rfl dX7_day_1 ?_
  refine g_get f_X7_117 HW_h rfl dX7_day_4 ?_
  refine g_top (hr.d (j := 8) (by decide) (by decide)) ?_
  exact g_iret ⟨rfl, rfl, rfl⟩ rfl rfl dX7_day_7
set_option maxRecDepth 100000 in
set_option maxHeartbeats 4000000 in
theorem c_X7_baseRent {Γ : Gm} {n : Nat} {ab im : Nat} {rk ro : Int32} {F : Hp} {R : Hr} {S : Hp} {f : Nat → Int32} {c : Nat}  (hC : F ab = some (.inr (10, coF ab im rk ro))) (hr : Rp Γ S f c R)  : Ct Γ 1 MX7_baseRent 0 0 [.ref ab] (HW Γ (ab + 50) F R) n (Rt (some (.int (f 0))) (HW Γ (ab + 50) F R) n) X0 := by
  refine Ct.of (by decide +kernel) rfl (Nat.le_of_ble_eq_true rfl) ?_
  have hc12 := hr.2.1
  refine G.sub (lv2 := [(0, _)]) [0] rfl ?_
  refine g_aload_n 0 rfl dX7_baseRent_0 ?_
  refine g_get f_X7_36 ((HW_o (by omega)).trans hC) rfl dX7_baseRent_1 ?_
  refine g_get f_X7_120 HW_h rfl dX7_baseRent_4 ?_
  refine g_top (hr.d (j := 0) (by decide) (by decide)) ?_
  exact g_iret ⟨rfl, rfl, rfl⟩ rfl rfl dX7_baseRent_7
set_option maxRecDepth 100000 in
set_option maxHeartbeats 4000000 in
theorem c_X7_tolerance {Γ : Gm} {n : Nat} {ab im : Nat} {rk ro : Int32} {F : Hp} {R : Hr} {S : Hp} {f : Nat → Int32} {c : Nat}  (hC : F ab = some (.inr (10, coF ab im rk ro))) (hr : Rp Γ S f c R)  : Ct Γ 1 MX7_tolerance 0 0 [.ref ab] (HW Γ (ab + 50) F R) n (Rt (some (.int (f 1))) (HW Γ (ab + 50) F R) n) X0 := by
  refine Ct.of (by decide +kernel) rfl (Nat.le_of_ble_eq_true rfl) ?_
  have hc12 := hr.2.1
  refine G.sub (lv2 := [(0, _)]) [0] rfl ?_
  refine g_aload_n 0 rfl dX7_tolerance_0 ?_
  refine g_get f_X7_36 ((HW_o (by omega)).trans hC) rfl dX7_tolerance_1 ?_
  refine g_get f_X7_123 HW_h rfl dX7_tolerance_4 ?_
  refine g_top (hr.d (j := 1) (by decide) (by decide)) ?_
  exact g_iret ⟨rfl, rfl, rfl⟩ rfl rfl dX7_tolerance_7
set_option maxRecDepth 100000 in
set_option maxHeartbeats 4000000 in
theorem c_X7_evictions {Γ : Gm} {n : Nat} {ab im : Nat} {rk ro : Int32} {F : Hp} {R : Hr} {S : Hp} {f : Nat → Int32} {c : Nat}  (hC : F ab = some (.inr (10, coF ab im rk ro))) (hr : Rp Γ S f c R)  : Ct Γ 1 MX7_evictions 0 0 [.ref ab] (HW Γ (ab + 50) F R) n (Rt (some (.int (f 9))) (HW Γ (ab + 50) F R) n) X0 := by
  refine Ct.of (by decide +kernel) rfl (Nat.le_of_ble_eq_true rfl) ?_
  have hc12 := hr.2.1
  refine G.sub (lv2 := [(0, _)]) [0] rfl ?_
  refine g_aload_n 0 rfl dX7_evictions_0 ?_
  refine g_get f_X7_36 ((HW_o (by omega)).trans hC) rfl dX7_evictions_1 ?_
  refine g_get f_X7_146 HW_h rfl dX7_evictions_4 ?_
  refine g_top (hr.d (j := 9) (by decide) (by decide)) ?_
  exact g_iret ⟨rfl, rfl, rfl⟩ rfl rfl dX7_evictions_7
set_option maxRecDepth 100000 in
set_option maxHeartbeats 4000000 in
theorem c_X7_totalPaid {Γ : Gm} {n : Nat} {ab im : Nat} {rk ro : Int32} {F : Hp} {R : Hr} {S : Hp} {f : Nat → Int32} {c : Nat}  (hC : F ab = some (.inr (10, coF ab im rk ro))) (hr : Rp Γ S f c R)  : Ct Γ 1 MX7_totalPaid 0 0 [.ref ab] (HW Γ (ab + 50) F R) n (Rt (some (.int (f 10))) (HW Γ (ab + 50) F R) n) X0 := by
  refine Ct.of (by decide +kernel) rfl (Nat.le_of_ble_eq_true rfl) ?_
  have hc12 := hr.2.1
  refine G.sub (lv2 := [(0, _)]) [0] rfl ?_
  refine g_aload_n 0 rfl dX7_totalPaid_0 ?_
  refine g_get f_X7_36 ((HW_o (by omega)).trans hC) rfl dX7_totalPaid_1 ?_
  refine g_get f_X7_249 HW_h rfl dX7_totalPaid_4 ?_
  refine g_top (hr.d (j := 10) (by decide) (by decide)) ?_
  exact g_iret ⟨rfl, rfl, rfl⟩ rfl rfl dX7_totalPaid_7
set_option maxRecDepth 100000 in
set_option maxHeartbeats 4000000 in
theorem c_X7_totalCharged {Γ : Gm} {n : Nat} {ab im : Nat} {rk ro : Int32} {F : Hp} {R : Hr} {S : Hp} {f : Nat → Int32} {c : Nat}  (hC : F ab = some (.inr (10, coF ab im rk ro))) (hr : Rp Γ S f c R)  : Ct Γ 1 MX7_totalCharged 0 0 [.ref ab] (HW Γ (ab + 50) F R) n (Rt (some (.int (f 11))) (HW Γ (ab + 50) F R) n) X0 := by
  refine Ct.of (by decide +kernel) rfl (Nat.le_of_ble_eq_true rfl) ?_
  have hc12 := hr.2.1
  refine G.sub (lv2 := [(0, _)]) [0] rfl ?_
  refine g_aload_n 0 rfl dX7_totalCharged_0 ?_
  refine g_get f_X7_36 ((HW_o (by omega)).trans hC) rfl dX7_totalCharged_1 ?_
  refine g_get f_X7_252 HW_h rfl dX7_totalCharged_4 ?_
  refine g_top (hr.d (j := 11) (by decide) (by decide)) ?_
  exact g_iret ⟨rfl, rfl, rfl⟩ rfl rfl dX7_totalCharged_7
set_option maxRecDepth 100000 in
set_option maxHeartbeats 4000000 in
theorem c_X7_settled {Γ : Gm} {n : Nat} {ab im : Nat} {rk ro : Int32} {F : Hp} {R : Hr} {S : Hp} {f : Nat → Int32} {c : Nat}  (hC : F ab = some (.inr (10, coF ab im rk ro))) (hr : Rp Γ S f c R)  : Ct Γ 1 MX7_settled 0 0 [.ref ab] (HW Γ (ab + 50) F R) n (Rt (some (.int (f 12))) (HW Γ (ab + 50) F R) n) X0 := by
  refine Ct.of (by decide +kernel) rfl (Nat.le_of_ble_eq_true rfl) ?_
  have hc12 := hr.2.1
  refine G.sub (lv2 := [(0, _)]) [0] rfl ?_
  refine g_aload_n 0 rfl dX7_settled_0 ?_
  refine g_get f_X7_36 ((HW_o (by omega)).trans hC) rfl dX7_settled_1 ?_
  refine g_get f_X7_255 HW_h rfl dX7_settled_4 ?_
  refine g_top (hr.d (j := 12) (by decide) (by decide)) ?_
  exact g_iret ⟨rfl, rfl, rfl⟩ rfl rfl dX7_settled_7
set_option maxRecDepth 100000 in
set_option maxHeartbeats 4000000 in
theorem c_X7_lodgerCount {Γ : Gm} {n : Nat} {ab im : Nat} {rk ro : Int32} {F : Hp} {R : Hr} {S : Hp} {f : Nat → Int32} {c : Nat}  (hC : F ab = some (.inr (10, coF ab im rk ro))) (hr : Rp Γ S f c R)  : Ct Γ 1 MX7_lodgerCount 0 0 [.ref ab] (HW Γ (ab + 50) F R) n (Rt (some (.int (nI c))) (HW Γ (ab + 50) F R) n) X0 := by
  refine Ct.of (by decide +kernel) rfl (Nat.le_of_ble_eq_true rfl) ?_
  have hc12 := hr.2.1
  refine G.sub (lv2 := [(0, _)]) [0] rfl ?_
  refine g_aload_n 0 rfl dX7_lodgerCount_0 ?_
  refine g_get f_X7_36 ((HW_o (by omega)).trans hC) rfl dX7_lodgerCount_1 ?_
  refine g_get f_X7_114 HW_h rfl dX7_lodgerCount_4 ?_
  refine g_top hr.cnt ?_
  exact g_iret ⟨rfl, rfl, rfl⟩ rfl rfl dX7_lodgerCount_7
set_option maxRecDepth 100000 in
set_option maxHeartbeats 4000000 in
theorem c_X7_undoCount {Γ : Gm} {n : Nat} {ab im : Nat} {rk ro : Int32} {F : Hp} {R : Hr} {ol kp : Nat} (hC : F ab = some (.inr (10, coF ab im rk ro))) (hH : F (ab + 134) = some (.inr (5, [.ref (ab + 135), .int (nI ol), .int (nI kp)]))) : Ct Γ 1 MX7_undoCount 0 0 [.ref ab] (HW Γ (ab + 50) F R) n (Rt (some (.int (nI kp))) (HW Γ (ab + 50) F R) n) X0 := by
  refine Ct.of (by decide +kernel) rfl (Nat.le_of_ble_eq_true rfl) ?_
  refine G.sub (lv2 := [(0, _)]) [0] rfl ?_
  refine g_aload_n 0 rfl dX7_undoCount_0 ?_
  refine g_get f_X7_46 ((HW_o (by omega)).trans hC) rfl dX7_undoCount_1 ?_
  refine g_get f_X7_149 ((HW_o (by omega)).trans hH) rfl dX7_undoCount_4 ?_
  exact g_iret ⟨rfl, rfl, rfl⟩ rfl rfl dX7_undoCount_7
set_option maxRecDepth 100000 in
set_option maxHeartbeats 4000000 in
theorem c_X7_daysToInspection {Γ : Gm} {n : Nat} {ab im : Nat} {rk ro : Int32} {F : Hp} {R : Hr} {S : Hp} {f : Nat → Int32} {c : Nat}  (hC : F ab = some (.inr (10, coF ab im rk ro))) (hr : Rp Γ S f c R)  : Ct Γ 1 MX7_daysToInspection 0 0 [.ref ab] (HW Γ (ab + 50) F R) n (Rt (some (.int (nI 7 - (f 8 - f 8 / nI 7 * nI 7)))) (HW Γ (ab + 50) F R) n) X0 := by
  refine Ct.of (by decide +kernel) rfl (Nat.le_of_ble_eq_true rfl) ?_
  have hc12 := hr.2.1
  refine G.sub (lv2 := [(0, _)]) [0] rfl ?_
  refine gn_bp 7 (by decide) dX7_daysToInspection_0 ?_
  refine g_aload_n 0 rfl dX7_daysToInspection_2 ?_
  refine g_get f_X7_36 ((HW_o (by omega)).trans hC) rfl dX7_daysToInspection_3 ?_
  refine g_get f_X7_117 HW_h rfl dX7_daysToInspection_6 ?_
  refine g_top (hr.d (j := 8) (by decide) (by decide)) ?_
  refine gn_bp 7 (by decide) dX7_daysToInspection_9 ?_
  refine g_irem (by decide) dX7_daysToInspection_11 ?_
  refine g_isub dX7_daysToInspection_12 ?_
  exact g_iret ⟨rfl, rfl, rfl⟩ rfl rfl dX7_daysToInspection_13
set_option maxRecDepth 100000 in
set_option maxHeartbeats 4000000 in
theorem c_X7_rentOf_ok {Γ : Gm} {n : Nat} {ab im : Nat} {rk ro : Int32} {F : Hp} {R : Hr} {S : Hp} {f : Nat → Int32} {c : Nat} {φ : Nat} (hC : F ab = some (.inr (10, coF ab im rk ro))) (hr : Rp Γ S f c R) (hφ : φ < 5) : Ct Γ 8 MX7_rentOf 0 0 [.ref ab, .int (nI φ)] (HW Γ (ab + 50) F R) n (Rt (some (.int (f 0 + nI 5 * nI φ))) (HW Γ (ab + 50) F R) n) X0 := by
  refine Ct.of (by decide +kernel) rfl (Nat.le_of_ble_eq_true rfl) ?_
  have hc12 := hr.2.1
  refine G.sub (lv2 := [(0, _), (1, _)]) [0, 1] rfl ?_
  refine g_aload_n 0 rfl dX7_rentOf_0 ?_
  refine g_iload_n 1 rfl dX7_rentOf_1 ?_
  refine gu_V (c_X7_requireFloor_ok hC hφ) l_X7_126 rfl (Rcv.of ((HW_o (by omega)).trans hC) rfl) (Nat.le_of_ble_eq_true rfl) (Nat.le_of_ble_eq_true rfl) rfl dX7_rentOf_2 ?_
  refine g_aload_n 0 rfl dX7_rentOf_5 ?_
  refine g_get f_X7_36 ((HW_o (by omega)).trans hC) rfl dX7_rentOf_6 ?_
  refine g_iload_n 1 rfl dX7_rentOf_9 ?_
  refine gv_V (c_X2_dailyRent hr) l_X7_129 rfl (Rcv.of HW_h rfl) (Nat.le_of_ble_eq_true rfl) (Nat.le_of_ble_eq_true rfl) rfl dX7_rentOf_10 ?_
  exact g_iret ⟨rfl, rfl, rfl⟩ rfl rfl dX7_rentOf_13
set_option maxRecDepth 100000 in
set_option maxHeartbeats 4000000 in
theorem c_X7_rentOf_no {Γ : Gm} {n : Nat} {ab im : Nat} {rk ro : Int32} {F : Hp} {R : Hr} {x : Int32} (hC : F ab = some (.inr (10, coF ab im rk ro))) (hx : ¬ (nI 0 ≤ x ∧ x ≤ nI 4)) : Ct Γ 8 MX7_rentOf 1 6 [.ref ab, .int x] (HW Γ (ab + 50) F R) n PNo (Xe "java/lang/IndexOutOfBoundsException" (HW Γ (ab + 50) F R) n) := by
  refine Ct.of (by decide +kernel) rfl (Nat.le_of_ble_eq_true rfl) ?_
  refine G.sub (lv2 := [(0, _), (1, _)]) [0, 1] rfl ?_
  refine g_aload_n 0 rfl dX7_rentOf_0 ?_
  refine g_iload_n 1 rfl dX7_rentOf_1 ?_
  exact g_invV (c_X7_requireFloor_no hC hx) l_X7_126 rfl (Rcv.of ((HW_o (by omega)).trans hC) rfl) (Nat.le_of_ble_eq_true rfl) (Nat.le_of_ble_eq_true rfl) rfl dX7_rentOf_2 (fun _ _ _ h => h) (fun _ _ _ h => h.elim)
set_option maxRecDepth 100000 in
set_option maxHeartbeats 4000000 in
theorem c_X7_landladyVowel_ok {Γ : Gm} {n : Nat} {ab im : Nat} {rk ro : Int32} {F : Hp} {R : Hr} {S : Hp} {f : Nat → Int32} {c : Nat} {v : Nat} (hC : F ab = some (.inr (10, coF ab im rk ro))) (hr : Rp Γ S f c R) (hv : v < 5) : Ct Γ 8 MX7_landladyVowel 0 0 [.ref ab, .int (nI v)] (HW Γ (ab + 50) F R) n (Rt (some (.int (f (2 + v)))) (HW Γ (ab + 50) F R) n) X0 := by
  refine Ct.of (by decide +kernel) rfl (Nat.le_of_ble_eq_true rfl) ?_
  have hc12 := hr.2.1
  refine G.sub (lv2 := [(0, _), (1, _)]) [0, 1] rfl ?_
  refine g_aload_n 0 rfl dX7_landladyVowel_0 ?_
  refine g_iload_n 1 rfl dX7_landladyVowel_1 ?_
  refine gu_V (c_X7_requireVowel_ok hC hv) l_X7_133 rfl (Rcv.of ((HW_o (by omega)).trans hC) rfl) (Nat.le_of_ble_eq_true rfl) (Nat.le_of_ble_eq_true rfl) rfl dX7_landladyVowel_2 ?_
  refine g_aload_n 0 rfl dX7_landladyVowel_5 ?_
  refine g_get f_X7_36 ((HW_o (by omega)).trans hC) rfl dX7_landladyVowel_6 ?_
  refine g_get f_X7_136 HW_h rfl dX7_landladyVowel_9 ?_
  refine g_get f_X7_140 HW_1 rfl dX7_landladyVowel_12 ?_
  refine g_iload_n 1 rfl dX7_landladyVowel_15 ?_
  refine gn_iald HW_2 (by omega) (by decide) dX7_landladyVowel_16 ?_
  refine g_top (hr.lan (by omega)) ?_
  exact g_iret ⟨rfl, rfl, rfl⟩ rfl rfl dX7_landladyVowel_17
set_option maxRecDepth 100000 in
set_option maxHeartbeats 4000000 in
theorem c_X7_landladyVowel_no {Γ : Gm} {n : Nat} {ab im : Nat} {rk ro : Int32} {F : Hp} {R : Hr} {x : Int32} (hC : F ab = some (.inr (10, coF ab im rk ro))) (hx : ¬ (nI 0 ≤ x ∧ x ≤ nI 4)) : Ct Γ 8 MX7_landladyVowel 1 6 [.ref ab, .int x] (HW Γ (ab + 50) F R) n PNo (Xe "java/lang/IndexOutOfBoundsException" (HW Γ (ab + 50) F R) n) := by
  refine Ct.of (by decide +kernel) rfl (Nat.le_of_ble_eq_true rfl) ?_
  refine G.sub (lv2 := [(0, _), (1, _)]) [0, 1] rfl ?_
  refine g_aload_n 0 rfl dX7_landladyVowel_0 ?_
  refine g_iload_n 1 rfl dX7_landladyVowel_1 ?_
  exact g_invV (c_X7_requireVowel_no hC hx) l_X7_133 rfl (Rcv.of ((HW_o (by omega)).trans hC) rfl) (Nat.le_of_ble_eq_true rfl) (Nat.le_of_ble_eq_true rfl) rfl dX7_landladyVowel_2 (fun _ _ _ h => h) (fun _ _ _ h => h.elim)
set_option maxRecDepth 100000 in
set_option maxHeartbeats 4000000 in
theorem c_X7_floorOf_ok {Γ : Gm} {n : Nat} {ab im : Nat} {rk ro : Int32} {F : Hp} {R : Hr} {S : Hp} {f : Nat → Int32} {c : Nat} {k : Nat} (hC : F ab = some (.inr (10, coF ab im rk ro))) (hr : Rp Γ S f c R) (hk : k < c) : Ct Γ 8 MX7_floorOf 0 0 [.ref ab, .int (nI k)] (HW Γ (ab + 50) F R) n (Rt (some (.int (f (13 + 16 * k)))) (HW Γ (ab + 50) F R) n) X0 := by
  refine Ct.of (by decide +kernel) rfl (Nat.le_of_ble_eq_true rfl) ?_
  have hc12 := hr.2.1
  refine G.sub (lv2 := [(0, _), (1, _)]) [0, 1] rfl ?_
  refine g_aload_n 0 rfl dX7_floorOf_0 ?_
  refine g_iload_n 1 rfl dX7_floorOf_1 ?_
  refine gv_V (c_X7_requireLodger_ok hC hr hk) l_X7_152 rfl (Rcv.of ((HW_o (by omega)).trans hC) rfl) (Nat.le_of_ble_eq_true rfl) (Nat.le_of_ble_eq_true rfl) rfl dX7_floorOf_2 ?_
  refine g_get f_X7_156 (HW_l (hr.o12 (by omega))) rfl dX7_floorOf_5 ?_
  refine g_top (hr.flo (by omega)) ?_
  exact g_iret ⟨rfl, rfl, rfl⟩ rfl rfl dX7_floorOf_8
set_option maxRecDepth 100000 in
set_option maxHeartbeats 4000000 in
theorem c_X7_floorOf_noL {Γ : Gm} {n : Nat} {ab im : Nat} {rk ro : Int32} {F : Hp} {R : Hr} {S : Hp} {f : Nat → Int32} {c : Nat} {x : Int32}  (hC : F ab = some (.inr (10, coF ab im rk ro))) (hr : Rp Γ S f c R) (hx : ¬ (nI 0 ≤ x ∧ x ≤ nI c - nI 1)) : Ct Γ 8 MX7_floorOf 1 6 [.ref ab, .int x] (HW Γ (ab + 50) F R) n PNo (Xe "java/lang/IndexOutOfBoundsException" (HW Γ (ab + 50) F R) n) := by
  refine Ct.of (by decide +kernel) rfl (Nat.le_of_ble_eq_true rfl) ?_
  have hc12 := hr.2.1
  refine G.sub (lv2 := [(0, _), (1, _)]) [0, 1] rfl ?_
  refine g_aload_n 0 rfl dX7_floorOf_0 ?_
  refine g_iload_n 1 rfl dX7_floorOf_1 ?_
  exact g_invV (c_X7_requireLodger_no hC hr hx) l_X7_152 rfl (Rcv.of ((HW_o (by omega)).trans hC) rfl) (Nat.le_of_ble_eq_true rfl) (Nat.le_of_ble_eq_true rfl) rfl dX7_floorOf_2 (fun _ _ _ h => h) (fun _ _ _ h => h.elim)
set_option maxRecDepth 100000 in
set_option maxHeartbeats 4000000 in
theorem c_X7_balanceOf_ok {Γ : Gm} {n : Nat} {ab im : Nat} {rk ro : Int32} {F : Hp} {R : Hr} {S : Hp} {f : Nat → Int32} {c : Nat} {k : Nat} (hC : F ab = some (.inr (10, coF ab im rk ro))) (hr : Rp Γ S f c R) (hk : k < c) : Ct Γ 8 MX7_balanceOf 0 0 [.ref ab, .int (nI k)] (HW Γ (ab + 50) F R) n (Rt (some (.int (f (13 + 16 * k + 1)))) (HW Γ (ab + 50) F R) n) X0 := by
  refine Ct.of (by decide +kernel) rfl (Nat.le_of_ble_eq_true rfl) ?_
  have hc12 := hr.2.1
  refine G.sub (lv2 := [(0, _), (1, _)]) [0, 1] rfl ?_
  refine g_aload_n 0 rfl dX7_balanceOf_0 ?_
  refine g_iload_n 1 rfl dX7_balanceOf_1 ?_
  refine gv_V (c_X7_requireLodger_ok hC hr hk) l_X7_152 rfl (Rcv.of ((HW_o (by omega)).trans hC) rfl) (Nat.le_of_ble_eq_true rfl) (Nat.le_of_ble_eq_true rfl) rfl dX7_balanceOf_2 ?_
  refine g_get f_X7_161 (HW_l (hr.o12 (by omega))) rfl dX7_balanceOf_5 ?_
  refine g_top (hr.row (i := 1) (by omega) (by decide)) ?_
  exact g_iret ⟨rfl, rfl, rfl⟩ rfl rfl dX7_balanceOf_8
set_option maxRecDepth 100000 in
set_option maxHeartbeats 4000000 in
theorem c_X7_balanceOf_noL {Γ : Gm} {n : Nat} {ab im : Nat} {rk ro : Int32} {F : Hp} {R : Hr} {S : Hp} {f : Nat → Int32} {c : Nat} {x : Int32}  (hC : F ab = some (.inr (10, coF ab im rk ro))) (hr : Rp Γ S f c R) (hx : ¬ (nI 0 ≤ x ∧ x ≤ nI c - nI 1)) : Ct Γ 8 MX7_balanceOf 1 6 [.ref ab, .int x] (HW Γ (ab + 50) F R) n PNo (Xe "java/lang/IndexOutOfBoundsException" (HW Γ (ab + 50) F R) n) := by
  refine Ct.of (by decide +kernel) rfl (Nat.le_of_ble_eq_true rfl) ?_
  have hc12 := hr.2.1
  refine G.sub (lv2 := [(0, _), (1, _)]) [0, 1] rfl ?_
  refine g_aload_n 0 rfl dX7_balanceOf_0 ?_
  refine g_iload_n 1 rfl dX7_balanceOf_1 ?_
  exact g_invV (c_X7_requireLodger_no hC hr hx) l_X7_152 rfl (Rcv.of ((HW_o (by omega)).trans hC) rfl) (Nat.le_of_ble_eq_true rfl) (Nat.le_of_ble_eq_true rfl) rfl dX7_balanceOf_2 (fun _ _ _ h => h) (fun _ _ _ h => h.elim)
set_option maxRecDepth 100000 in
set_option maxHeartbeats 4000000 in
theorem c_X7_lessonsOf_ok {Γ : Gm} {n : Nat} {ab im : Nat} {rk ro : Int32} {F : Hp} {R : Hr} {S : Hp} {f : Nat → Int32} {c : Nat} {k : Nat} (hC : F ab = some (.inr (10, coF ab im rk ro))) (hr : Rp Γ S f c R) (hk : k < c) : Ct Γ 8 MX7_lessonsOf 0 0 [.ref ab, .int (nI k)] (HW Γ (ab + 50) F R) n (Rt (some (.int (f (13 + 16 * k + 2)))) (HW Γ (ab + 50) F R) n) X0 := by
  refine Ct.of (by decide +kernel) rfl (Nat.le_of_ble_eq_true rfl) ?_
  have hc12 := hr.2.1
  refine G.sub (lv2 := [(0, _), (1, _)]) [0, 1] rfl ?_
  refine g_aload_n 0 rfl dX7_lessonsOf_0 ?_
  refine g_iload_n 1 rfl dX7_lessonsOf_1 ?_
  refine gv_V (c_X7_requireLodger_ok hC hr hk) l_X7_152 rfl (Rcv.of ((HW_o (by omega)).trans hC) rfl) (Nat.le_of_ble_eq_true rfl) (Nat.le_of_ble_eq_true rfl) rfl dX7_lessonsOf_2 ?_
  refine g_get f_X7_167 (HW_l (hr.o12 (by omega))) rfl dX7_lessonsOf_5 ?_
  refine g_top (hr.row (i := 2) (by omega) (by decide)) ?_
  exact g_iret ⟨rfl, rfl, rfl⟩ rfl rfl dX7_lessonsOf_8
set_option maxRecDepth 100000 in
set_option maxHeartbeats 4000000 in
theorem c_X7_lessonsOf_noL {Γ : Gm} {n : Nat} {ab im : Nat} {rk ro : Int32} {F : Hp} {R : Hr} {S : Hp} {f : Nat → Int32} {c : Nat} {x : Int32}  (hC : F ab = some (.inr (10, coF ab im rk ro))) (hr : Rp Γ S f c R) (hx : ¬ (nI 0 ≤ x ∧ x ≤ nI c - nI 1)) : Ct Γ 8 MX7_lessonsOf 1 6 [.ref ab, .int x] (HW Γ (ab + 50) F R) n PNo (Xe "java/lang/IndexOutOfBoundsException" (HW Γ (ab + 50) F R) n) := by
  refine Ct.of (by decide +kernel) rfl (Nat.le_of_ble_eq_true rfl) ?_
  have hc12 := hr.2.1
  refine G.sub (lv2 := [(0, _), (1, _)]) [0, 1] rfl ?_
  refine g_aload_n 0 rfl dX7_lessonsOf_0 ?_
  refine g_iload_n 1 rfl dX7_lessonsOf_1 ?_
  exact g_invV (c_X7_requireLodger_no hC hr hx) l_X7_152 rfl (Rcv.of ((HW_o (by omega)).trans hC) rfl) (Nat.le_of_ble_eq_true rfl) (Nat.le_of_ble_eq_true rfl) rfl dX7_lessonsOf_2 (fun _ _ _ h => h) (fun _ _ _ h => h.elim)
set_option maxRecDepth 100000 in
set_option maxHeartbeats 4000000 in
theorem c_X7_slipsOf_ok {Γ : Gm} {n : Nat} {ab im : Nat} {rk ro : Int32} {F : Hp} {R : Hr} {S : Hp} {f : Nat → Int32} {c : Nat} {k : Nat} (hC : F ab = some (.inr (10, coF ab im rk ro))) (hr : Rp Γ S f c R) (hk : k < c) : Ct Γ 8 MX7_slipsOf 0 0 [.ref ab, .int (nI k)] (HW Γ (ab + 50) F R) n (Rt (some (.int (f (13 + 16 * k + 3)))) (HW Γ (ab + 50) F R) n) X0 := by
  refine Ct.of (by decide +kernel) rfl (Nat.le_of_ble_eq_true rfl) ?_
  have hc12 := hr.2.1
  refine G.sub (lv2 := [(0, _), (1, _)]) [0, 1] rfl ?_
  refine g_aload_n 0 rfl dX7_slipsOf_0 ?_
  refine g_iload_n 1 rfl dX7_slipsOf_1 ?_
  refine gv_V (c_X7_requireLodger_ok hC hr hk) l_X7_152 rfl (Rcv.of ((HW_o (by omega)).trans hC) rfl) (Nat.le_of_ble_eq_true rfl) (Nat.le_of_ble_eq_true rfl) rfl dX7_slipsOf_2 ?_
  refine g_get f_X7_170 (HW_l (hr.o12 (by omega))) rfl dX7_slipsOf_5 ?_
  refine g_top (hr.row (i := 3) (by omega) (by decide)) ?_
  exact g_iret ⟨rfl, rfl, rfl⟩ rfl rfl dX7_slipsOf_8
set_option maxRecDepth 100000 in
set_option maxHeartbeats 4000000 in
theorem c_X7_slipsOf_noL {Γ : Gm} {n : Nat} {ab im : Nat} {rk ro : Int32} {F : Hp} {R : Hr} {S : Hp} {f : Nat → Int32} {c : Nat} {x : Int32}  (hC : F ab = some (.inr (10, coF ab im rk ro))) (hr : Rp Γ S f c R) (hx : ¬ (nI 0 ≤ x ∧ x ≤ nI c - nI 1)) : Ct Γ 8 MX7_slipsOf 1 6 [.ref ab, .int x] (HW Γ (ab + 50) F R) n PNo (Xe "java/lang/IndexOutOfBoundsException" (HW Γ (ab + 50) F R) n) := by
  refine Ct.of (by decide +kernel) rfl (Nat.le_of_ble_eq_true rfl) ?_
  have hc12 := hr.2.1
  refine G.sub (lv2 := [(0, _), (1, _)]) [0, 1] rfl ?_
  refine g_aload_n 0 rfl dX7_slipsOf_0 ?_
  refine g_iload_n 1 rfl dX7_slipsOf_1 ?_
  exact g_invV (c_X7_requireLodger_no hC hr hx) l_X7_152 rfl (Rcv.of ((HW_o (by omega)).trans hC) rfl) (Nat.le_of_ble_eq_true rfl) (Nat.le_of_ble_eq_true rfl) rfl dX7_slipsOf_2 (fun _ _ _ h => h) (fun _ _ _ h => h.elim)
set_option maxRecDepth 100000 in
set_option maxHeartbeats 4000000 in
theorem c_X7_daysStayed_ok {Γ : Gm} {n : Nat} {ab im : Nat} {rk ro : Int32} {F : Hp} {R : Hr} {S : Hp} {f : Nat → Int32} {c : Nat} {k : Nat} (hC : F ab = some (.inr (10, coF ab im rk ro))) (hr : Rp Γ S f c R) (hk : k < c) : Ct Γ 8 MX7_daysStayed 0 0 [.ref ab, .int (nI k)] (HW Γ (ab + 50) F R) n (Rt (some (.int (f 8 - f (13 + 16 * k + 4)))) (HW Γ (ab + 50) F R) n) X0 := by
  refine Ct.of (by decide +kernel) rfl (Nat.le_of_ble_eq_true rfl) ?_
  have hc12 := hr.2.1
  refine G.sub (lv2 := [(0, _), (1, _)]) [0, 1] rfl ?_
  refine g_aload_n 0 rfl dX7_daysStayed_0 ?_
  refine g_get f_X7_36 ((HW_o (by omega)).trans hC) rfl dX7_daysStayed_1 ?_
  refine g_get f_X7_117 HW_h rfl dX7_daysStayed_4 ?_
  refine g_top (hr.d (j := 8) (by decide) (by decide)) ?_
  refine g_aload_n 0 rfl dX7_daysStayed_7 ?_
  refine g_iload_n 1 rfl dX7_daysStayed_8 ?_
  refine gv_V (c_X7_requireLodger_ok hC hr hk) l_X7_152 rfl (Rcv.of ((HW_o (by omega)).trans hC) rfl) (Nat.le_of_ble_eq_true rfl) (Nat.le_of_ble_eq_true rfl) rfl dX7_daysStayed_9 ?_
  refine g_get f_X7_173 (HW_l (hr.o12 (by omega))) rfl dX7_daysStayed_12 ?_
  refine g_top (hr.row (i := 4) (by omega) (by decide)) ?_
  refine g_isub dX7_daysStayed_15 ?_
  exact g_iret ⟨rfl, rfl, rfl⟩ rfl rfl dX7_daysStayed_16
set_option maxRecDepth 100000 in
set_option maxHeartbeats 4000000 in
theorem c_X7_daysStayed_noL {Γ : Gm} {n : Nat} {ab im : Nat} {rk ro : Int32} {F : Hp} {R : Hr} {S : Hp} {f : Nat → Int32} {c : Nat} {x : Int32}  (hC : F ab = some (.inr (10, coF ab im rk ro))) (hr : Rp Γ S f c R) (hx : ¬ (nI 0 ≤ x ∧ x ≤ nI c - nI 1)) : Ct Γ 8 MX7_daysStayed 1 6 [.ref ab, .int x] (HW Γ (ab + 50) F R) n PNo (Xe "java/lang/IndexOutOfBoundsException" (HW Γ (ab + 50) F R) n) := by
  refine Ct.of (by decide +kernel) rfl (Nat.le_of_ble_eq_true rfl) ?_
  have hc12 := hr.2.1
  refine G.sub (lv2 := [(0, _), (1, _)]) [0, 1] rfl ?_
  refine g_aload_n 0 rfl dX7_daysStayed_0 ?_
  refine g_get f_X7_36 ((HW_o (by omega)).trans hC) rfl dX7_daysStayed_1 ?_
  refine g_get f_X7_117 HW_h rfl dX7_daysStayed_4 ?_
  refine g_top (hr.d (j := 8) (by decide) (by decide)) ?_
  refine g_aload_n 0 rfl dX7_daysStayed_7 ?_
  refine g_iload_n 1 rfl dX7_daysStayed_8 ?_
  exact g_invV (c_X7_requireLodger_no hC hr hx) l_X7_152 rfl (Rcv.of ((HW_o (by omega)).trans hC) rfl) (Nat.le_of_ble_eq_true rfl) (Nat.le_of_ble_eq_true rfl) rfl dX7_daysStayed_9 (fun _ _ _ h => h) (fun _ _ _ h => h.elim)
set_option maxRecDepth 100000 in
set_option maxHeartbeats 4000000 in
theorem c_X7_vowelOf_ok {Γ : Gm} {n : Nat} {ab im : Nat} {rk ro : Int32} {F : Hp} {R : Hr} {S : Hp} {f : Nat → Int32} {c : Nat} {k v : Nat} (hC : F ab = some (.inr (10, coF ab im rk ro))) (hr : Rp Γ S f c R) (hk : k < c) (hv : v < 5) : Ct Γ 8 MX7_vowelOf 0 0 [.ref ab, .int (nI k), .int (nI v)] (HW Γ (ab + 50) F R) n (Rt (some (.int (f (13 + 16 * k + 5 + v)))) (HW Γ (ab + 50) F R) n) X0 := by
  refine Ct.of (by decide +kernel) rfl (Nat.le_of_ble_eq_true rfl) ?_
  have hc12 := hr.2.1
  refine G.sub (lv2 := [(0, _), (1, _), (2, _)]) [0, 1, 2] rfl ?_
  refine g_aload_n 0 rfl dX7_vowelOf_0 ?_
  refine g_iload_n 1 rfl dX7_vowelOf_1 ?_
  refine gv_V (c_X7_requireLodger_ok hC hr hk) l_X7_152 rfl (Rcv.of ((HW_o (by omega)).trans hC) rfl) (Nat.le_of_ble_eq_true rfl) (Nat.le_of_ble_eq_true rfl) rfl dX7_vowelOf_2 ?_
  refine g_astore_n (lv2 := [(3, _), (0, _), (1, _), (2, _)]) (by decide) rfl dX7_vowelOf_5 ?_
  refine g_aload_n 1 rfl dX7_vowelOf_6 ?_
  refine g_iload_n 3 rfl dX7_vowelOf_7 ?_
  refine gu_V (c_X7_requireVowel_ok hC hv) l_X7_133 rfl (Rcv.of ((HW_o (by omega)).trans hC) rfl) (Nat.le_of_ble_eq_true rfl) (Nat.le_of_ble_eq_true rfl) rfl dX7_vowelOf_8 ?_
  refine g_aload_n 0 rfl dX7_vowelOf_11 ?_
  refine g_get f_X7_164 (HW_l (hr.o12 (by omega))) rfl dX7_vowelOf_12 ?_
  refine g_get f_X7_140 (HW_a (hr.o12 (by omega))) rfl dX7_vowelOf_15 ?_
  refine g_iload_n 3 rfl dX7_vowelOf_18 ?_
  refine gn_iald (HW_p (hr.o12 (by omega))) (by omega) (by decide) dX7_vowelOf_19 ?_
  refine g_top (hr.acc (by omega) (by omega)) ?_
  exact g_iret ⟨rfl, rfl, rfl⟩ rfl rfl dX7_vowelOf_20
set_option maxRecDepth 100000 in
set_option maxHeartbeats 4000000 in
theorem c_X7_vowelOf_noL {Γ : Gm} {n : Nat} {ab im : Nat} {rk ro : Int32} {F : Hp} {R : Hr} {S : Hp} {f : Nat → Int32} {c : Nat} {x : Int32} {y : Int32} (hC : F ab = some (.inr (10, coF ab im rk ro))) (hr : Rp Γ S f c R) (hx : ¬ (nI 0 ≤ x ∧ x ≤ nI c - nI 1)) : Ct Γ 8 MX7_vowelOf 1 6 [.ref ab, .int x, .int y] (HW Γ (ab + 50) F R) n PNo (Xe "java/lang/IndexOutOfBoundsException" (HW Γ (ab + 50) F R) n) := by
  refine Ct.of (by decide +kernel) rfl (Nat.le_of_ble_eq_true rfl) ?_
  have hc12 := hr.2.1
  refine G.sub (lv2 := [(0, _), (1, _), (2, _)]) [0, 1, 2] rfl ?_
  refine g_aload_n 0 rfl dX7_vowelOf_0 ?_
  refine g_iload_n 1 rfl dX7_vowelOf_1 ?_
  exact g_invV (c_X7_requireLodger_no hC hr hx) l_X7_152 rfl (Rcv.of ((HW_o (by omega)).trans hC) rfl) (Nat.le_of_ble_eq_true rfl) (Nat.le_of_ble_eq_true rfl) rfl dX7_vowelOf_2 (fun _ _ _ h => h) (fun _ _ _ h => h.elim)
set_option maxRecDepth 100000 in
set_option maxHeartbeats 4000000 in
theorem c_X7_vowelOf_noV {Γ : Gm} {n : Nat} {ab im : Nat} {rk ro : Int32} {F : Hp} {R : Hr} {S : Hp} {f : Nat → Int32} {c : Nat} {k : Nat} {x : Int32} (hC : F ab = some (.inr (10, coF ab im rk ro))) (hr : Rp Γ S f c R) (hk : k < c) (hx : ¬ (nI 0 ≤ x ∧ x ≤ nI 4)) : Ct Γ 8 MX7_vowelOf 1 6 [.ref ab, .int (nI k), .int x] (HW Γ (ab + 50) F R) n PNo (Xe "java/lang/IndexOutOfBoundsException" (HW Γ (ab + 50) F R) n) := by
  refine Ct.of (by decide +kernel) rfl (Nat.le_of_ble_eq_true rfl) ?_
  have hc12 := hr.2.1
  refine G.sub (lv2 := [(0, _), (1, _), (2, _)]) [0, 1, 2] rfl ?_
  refine g_aload_n 0 rfl dX7_vowelOf_0 ?_
  refine g_iload_n 1 rfl dX7_vowelOf_1 ?_
  refine gv_V (c_X7_requireLodger_ok hC hr hk) l_X7_152 rfl (Rcv.of ((HW_o (by omega)).trans hC) rfl) (Nat.le_of_ble_eq_true rfl) (Nat.le_of_ble_eq_true rfl) rfl dX7_vowelOf_2 ?_
  refine g_astore_n (lv2 := [(3, _), (0, _), (1, _), (2, _)]) (by decide) rfl dX7_vowelOf_5 ?_
  refine g_aload_n 1 rfl dX7_vowelOf_6 ?_
  refine g_iload_n 3 rfl dX7_vowelOf_7 ?_
  exact g_invV (c_X7_requireVowel_no hC hx) l_X7_133 rfl (Rcv.of ((HW_o (by omega)).trans hC) rfl) (Nat.le_of_ble_eq_true rfl) (Nat.le_of_ble_eq_true rfl) rfl dX7_vowelOf_8 (fun _ _ _ h => h) (fun _ _ _ h => h.elim)
set_option maxRecDepth 100000 in
set_option maxHeartbeats 4000000 in
theorem c_X7_nameLength_ok {Γ : Gm} {n : Nat} {ab im : Nat} {rk ro : Int32} {F : Hp} {R : Hr} {S : Hp} {f : Nat → Int32} {c : Nat} {k : Nat} (hC : F ab = some (.inr (10, coF ab im rk ro))) (hr : Rp Γ S f c R) (hk : k < c) (hS : ∀ a, Le S (HW Γ (ab + 50) F R) a) : Ct Γ 8 MX7_nameLength 0 0 [.ref ab, .int (nI k)] (HW Γ (ab + 50) F R) n (Rt (some (.int (nI (lenN f k)))) (HW Γ (ab + 50) F R) n) X0 := by
  refine Ct.of (by decide +kernel) rfl (Nat.le_of_ble_eq_true rfl) ?_
  have hc12 := hr.2.1
  obtain ⟨w, N, b, q1, q2, q3, q4, q5, q6⟩ := hr.nam hk
  have hle := nam_len q4 q5 q6
  refine G.sub (lv2 := [(0, _), (1, _)]) [0, 1] rfl ?_
  refine g_aload_n 0 rfl dX7_nameLength_0 ?_
  refine g_iload_n 1 rfl dX7_nameLength_1 ?_
  refine gv_V (c_X7_requireLodger_ok hC hr hk) l_X7_152 rfl (Rcv.of ((HW_o (by omega)).trans hC) rfl) (Nat.le_of_ble_eq_true rfl) (Nat.le_of_ble_eq_true rfl) rfl dX7_nameLength_2 ?_
  refine g_get f_X7_176 (HW_l (hr.o12 (by omega))) rfl dX7_nameLength_5 ?_
  refine gv_V (c_J0_length_8abf5 (q1.mono (hS _)) (q2.mono (hS _))) l_X7_60 rfl (q1.mono (hS _)).rcv (Nat.le_of_ble_eq_true rfl) (Nat.le_of_ble_eq_true rfl) rfl dX7_nameLength_8 ?_
  exact g_iret ⟨by rw [hle], rfl, rfl⟩ rfl rfl dX7_nameLength_11
set_option maxRecDepth 100000 in
set_option maxHeartbeats 4000000 in
theorem c_X7_nameLength_noL {Γ : Gm} {n : Nat} {ab im : Nat} {rk ro : Int32} {F : Hp} {R : Hr} {S : Hp} {f : Nat → Int32} {c : Nat} {x : Int32}  (hC : F ab = some (.inr (10, coF ab im rk ro))) (hr : Rp Γ S f c R) (hx : ¬ (nI 0 ≤ x ∧ x ≤ nI c - nI 1)) : Ct Γ 8 MX7_nameLength 1 6 [.ref ab, .int x] (HW Γ (ab + 50) F R) n PNo (Xe "java/lang/IndexOutOfBoundsException" (HW Γ (ab + 50) F R) n) := by
  refine Ct.of (by decide +kernel) rfl (Nat.le_of_ble_eq_true rfl) ?_
  have hc12 := hr.2.1
  refine G.sub (lv2 := [(0, _), (1, _)]) [0, 1] rfl ?_
  refine g_aload_n 0 rfl dX7_nameLength_0 ?_
  refine g_iload_n 1 rfl dX7_nameLength_1 ?_
  exact g_invV (c_X7_requireLodger_no hC hr hx) l_X7_152 rfl (Rcv.of ((HW_o (by omega)).trans hC) rfl) (Nat.le_of_ble_eq_true rfl) (Nat.le_of_ble_eq_true rfl) rfl dX7_nameLength_2 (fun _ _ _ h => h) (fun _ _ _ h => h.elim)
set_option maxRecDepth 100000 in
set_option maxHeartbeats 4000000 in
theorem c_X7_nameLetter_ok {Γ : Gm} {n : Nat} {ab im : Nat} {rk ro : Int32} {F : Hp} {R : Hr} {S : Hp} {f : Nat → Int32} {c : Nat} {k j : Nat} (hC : F ab = some (.inr (10, coF ab im rk ro))) (hr : Rp Γ S f c R) (hk : k < c) (hS : ∀ a, Le S (HW Γ (ab + 50) F R) a) (hj : j < lenN f k) : Ct Γ 8 MX7_nameLetter 0 0 [.ref ab, .int (nI k), .int (nI j)] (HW Γ (ab + 50) F R) n (Rt (some (.int (chr (f (13 + 16 * k + 10 + j))))) (HW Γ (ab + 50) F R) n) X0 := by
  refine Ct.of (by decide +kernel) rfl (Nat.le_of_ble_eq_true rfl) ?_
  have hc12 := hr.2.1
  obtain ⟨w, N, b, q1, q2, q3, q4, q5, q6⟩ := hr.nam hk
  have hle := nam_len q4 q5 q6
  rw [hle] at hj
  obtain ⟨z1, q, z2, z3, z4⟩ := q5 j hj
  replace z4 : f (13 + 16 * k + 10 + j) = nI q := z4
  replace z1 : b j = f (13 + 16 * k + 10 + j) := z1
  have hch : chr (f (13 + 16 * k + 10 + j)) = f (13 + 16 * k + 10 + j) := by rw [z4]; exact (a7_all q (by omega)).2.2.2
  refine G.sub (lv2 := [(0, _), (1, _), (2, _)]) [0, 1, 2] rfl ?_
  refine g_aload_n 0 rfl dX7_nameLetter_0 ?_
  refine g_iload_n 1 rfl dX7_nameLetter_1 ?_
  refine gv_V (c_X7_requireLodger_ok hC hr hk) l_X7_152 rfl (Rcv.of ((HW_o (by omega)).trans hC) rfl) (Nat.le_of_ble_eq_true rfl) (Nat.le_of_ble_eq_true rfl) rfl dX7_nameLetter_2 ?_
  refine g_get f_X7_176 (HW_l (hr.o12 (by omega))) rfl dX7_nameLetter_5 ?_
  refine g_astore_n (lv2 := [(3, _), (0, _), (1, _), (2, _)]) (by decide) rfl dX7_nameLetter_8 ?_
  refine g_iload_n 3 rfl dX7_nameLetter_9 ?_
  refine g_if_lt (tgt := 21) (by decide) dX7_nameLetter_10 (fun h10 => ?_) (fun h10 => ?_)
  · -- t 21
    exact absurd h10 (nI_pos (by omega))
  · -- f 13
    refine g_iload_n 3 rfl dX7_nameLetter_13 ?_
    refine g_aload_n 0 rfl dX7_nameLetter_14 ?_
    refine gv_V (c_J0_length_8abf5 (q1.mono (hS _)) (q2.mono (hS _))) l_X7_60 rfl (q1.mono (hS _)).rcv (Nat.le_of_ble_eq_true rfl) (Nat.le_of_ble_eq_true rfl) rfl dX7_nameLetter_15 ?_
    refine gn_icmp_lt (by omega) (by omega) (tgt := 31) (by decide) dX7_nameLetter_18 (fun cc1 => ?_) (fun cc1 => ?_)
    · -- t 31
      refine g_aload_n 0 rfl dX7_nameLetter_31 ?_
      refine g_iload_n 3 rfl dX7_nameLetter_32 ?_
      refine gv_V (c_J0_charAt_5068e (q1.mono (hS _)) (q2.mono (hS _)) hj (by omega)) l_X7_66 rfl (q1.mono (hS _)).rcv (Nat.le_of_ble_eq_true rfl) (Nat.le_of_ble_eq_true rfl) rfl dX7_nameLetter_33 ?_
      exact g_iret ⟨by rw [(nam_a7 q5).ch hj, z1, hch], rfl, rfl⟩ (pk_nc _) rfl dX7_nameLetter_36
    · -- f 21
      exfalso; omega
set_option maxRecDepth 100000 in
set_option maxHeartbeats 4000000 in
theorem c_X7_nameLetter_noL {Γ : Gm} {n : Nat} {ab im : Nat} {rk ro : Int32} {F : Hp} {R : Hr} {S : Hp} {f : Nat → Int32} {c : Nat} {x : Int32} {y : Int32} (hC : F ab = some (.inr (10, coF ab im rk ro))) (hr : Rp Γ S f c R) (hx : ¬ (nI 0 ≤ x ∧ x ≤ nI c - nI 1)) : Ct Γ 8 MX7_nameLetter 1 6 [.ref ab, .int x, .int y] (HW Γ (ab + 50) F R) n PNo (Xe "java/lang/IndexOutOfBoundsException" (HW Γ (ab + 50) F R) n) := by
  refine Ct.of (by decide +kernel) rfl (Nat.le_of_ble_eq_true rfl) ?_
  have hc12 := hr.2.1
  refine G.sub (lv2 := [(0, _), (1, _), (2, _)]) [0, 1, 2] rfl ?_
  refine g_aload_n 0 rfl dX7_nameLetter_0 ?_
  refine g_iload_n 1 rfl dX7_nameLetter_1 ?_
  exact g_invV (c_X7_requireLodger_no hC hr hx) l_X7_152 rfl (Rcv.of ((HW_o (by omega)).trans hC) rfl) (Nat.le_of_ble_eq_true rfl) (Nat.le_of_ble_eq_true rfl) rfl dX7_nameLetter_2 (fun _ _ _ h => h) (fun _ _ _ h => h.elim)
set_option maxRecDepth 100000 in
set_option maxHeartbeats 4000000 in
theorem c_X7_nameLetter_noJ {Γ : Gm} {n : Nat} {ab im : Nat} {rk ro : Int32} {F : Hp} {R : Hr} {S : Hp} {f : Nat → Int32} {c : Nat} {k : Nat} {y : Int32} (hC : F ab = some (.inr (10, coF ab im rk ro))) (hr : Rp Γ S f c R) (hk : k < c) (hS : ∀ a, Le S (HW Γ (ab + 50) F R) a) (hy : ¬ (nI 0 ≤ y ∧ y ≤ nI (lenN f k) - nI 1)) : Ct Γ 8 MX7_nameLetter 1 6 [.ref ab, .int (nI k), .int y] (HW Γ (ab + 50) F R) n PNo (Xe "java/lang/IndexOutOfBoundsException" (HW Γ (ab + 50) F R) n) := by
  refine Ct.of (by decide +kernel) rfl (Nat.le_of_ble_eq_true rfl) ?_
  have hc12 := hr.2.1
  obtain ⟨w, N, b, q1, q2, q3, q4, q5, q6⟩ := hr.nam hk
  have hle := nam_len q4 q5 q6
  rw [hle] at hy
  refine G.sub (lv2 := [(0, _), (1, _), (2, _)]) [0, 1, 2] rfl ?_
  refine g_aload_n 0 rfl dX7_nameLetter_0 ?_
  refine g_iload_n 1 rfl dX7_nameLetter_1 ?_
  refine gv_V (c_X7_requireLodger_ok hC hr hk) l_X7_152 rfl (Rcv.of ((HW_o (by omega)).trans hC) rfl) (Nat.le_of_ble_eq_true rfl) (Nat.le_of_ble_eq_true rfl) rfl dX7_nameLetter_2 ?_
  refine g_get f_X7_176 (HW_l (hr.o12 (by omega))) rfl dX7_nameLetter_5 ?_
  refine g_astore_n (lv2 := [(3, _), (0, _), (1, _), (2, _)]) (by decide) rfl dX7_nameLetter_8 ?_
  refine g_iload_n 3 rfl dX7_nameLetter_9 ?_
  refine g_if_lt (tgt := 21) (by decide) dX7_nameLetter_10 (fun h10 => ?_) (fun h10 => ?_)
  · -- t 21
    exact g_throw ⟨rfl, rfl, rfl⟩ (thr_X7_nameLetter_21 (by decide)) (Nat.le_of_ble_eq_true rfl) (by decide) (by decide)
  · -- f 13
    refine g_iload_n 3 rfl dX7_nameLetter_13 ?_
    refine g_aload_n 0 rfl dX7_nameLetter_14 ?_
    refine gv_V (c_J0_length_8abf5 (q1.mono (hS _)) (q2.mono (hS _))) l_X7_60 rfl (q1.mono (hS _)).rcv (Nat.le_of_ble_eq_true rfl) (Nat.le_of_ble_eq_true rfl) rfl dX7_nameLetter_15 ?_
    refine g_icmp_lt (tgt := 31) (by decide) dX7_nameLetter_18 (fun h18 => ?_) (fun h18 => ?_)
    · -- t 31
      exact absurd (lod_in (by omega) h10 h18) hy
    · -- f 21
      exact g_throw ⟨rfl, rfl, rfl⟩ (thr_X7_nameLetter_21 (by decide)) (Nat.le_of_ble_eq_true rfl) (by decide) (by decide)
set_option maxRecDepth 100000 in
set_option maxHeartbeats 4000000 in
theorem c_X7_lodgersOn_ok {Γ : Gm} {n : Nat} {ab im : Nat} {rk ro : Int32} {F : Hp} {R : Hr} {S : Hp} {f : Nat → Int32} {c : Nat} {φ : Nat} (hC : F ab = some (.inr (10, coF ab im rk ro))) (hr : Rp Γ S f c R) (hφ : φ < 5) : Ct Γ 8 MX7_lodgersOn 0 0 [.ref ab, .int (nI φ)] (HW Γ (ab + 50) F R) n (Rt (some (.int (nI (cntA f (nI φ) c)))) (HW Γ (ab + 50) F R) n) X0 := by
  refine Ct.of (by decide +kernel) rfl (Nat.le_of_ble_eq_true rfl) ?_
  have hc12 := hr.2.1
  refine G.sub (lv2 := [(0, _), (1, _)]) [0, 1] rfl ?_
  refine g_aload_n 0 rfl dX7_lodgersOn_0 ?_
  refine g_iload_n 1 rfl dX7_lodgersOn_1 ?_
  refine gu_V (c_X7_requireFloor_ok hC hφ) l_X7_126 rfl (Rcv.of ((HW_o (by omega)).trans hC) rfl) (Nat.le_of_ble_eq_true rfl) (Nat.le_of_ble_eq_true rfl) rfl dX7_lodgersOn_2 ?_
  refine g_aload_n 0 rfl dX7_lodgersOn_5 ?_
  refine g_get f_X7_36 ((HW_o (by omega)).trans hC) rfl dX7_lodgersOn_6 ?_
  refine g_iload_n 1 rfl dX7_lodgersOn_9 ?_
  refine gv_V (c_X2_crowdOn hr) l_X7_186 rfl (Rcv.of HW_h rfl) (Nat.le_of_ble_eq_true rfl) (Nat.le_of_ble_eq_true rfl) rfl dX7_lodgersOn_10 ?_
  exact g_iret ⟨rfl, rfl, rfl⟩ rfl rfl dX7_lodgersOn_13
set_option maxRecDepth 100000 in
set_option maxHeartbeats 4000000 in
theorem c_X7_lodgersOn_no {Γ : Gm} {n : Nat} {ab im : Nat} {rk ro : Int32} {F : Hp} {R : Hr} {x : Int32} (hC : F ab = some (.inr (10, coF ab im rk ro))) (hx : ¬ (nI 0 ≤ x ∧ x ≤ nI 4)) : Ct Γ 8 MX7_lodgersOn 1 6 [.ref ab, .int x] (HW Γ (ab + 50) F R) n PNo (Xe "java/lang/IndexOutOfBoundsException" (HW Γ (ab + 50) F R) n) := by
  refine Ct.of (by decide +kernel) rfl (Nat.le_of_ble_eq_true rfl) ?_
  refine G.sub (lv2 := [(0, _), (1, _)]) [0, 1] rfl ?_
  refine g_aload_n 0 rfl dX7_lodgersOn_0 ?_
  refine g_iload_n 1 rfl dX7_lodgersOn_1 ?_
  exact g_invV (c_X7_requireFloor_no hC hx) l_X7_126 rfl (Rcv.of ((HW_o (by omega)).trans hC) rfl) (Nat.le_of_ble_eq_true rfl) (Nat.le_of_ble_eq_true rfl) rfl dX7_lodgersOn_2 (fun _ _ _ h => h) (fun _ _ _ h => h.elim)
theorem plF_lt {f : Nat → Int32} {fl : Int32} : ∀ {m k p r : Nat}, plF f fl m k p = some r → r < k + m
  | 0, k, p, r, h => by rw [plF] at h; cases h
  | m + 1, k, p, r, h => by
    by_cases e : f (13 + 16 * k) = fl
    · by_cases z : p = 0
      · rw [plF_0 e z] at h; cases h; omega
      · rw [plF_1 e z] at h; have := plF_lt h; omega
    · rw [plF_n e] at h; have := plF_lt h; omega
set_option maxRecDepth 100000 in
set_option maxHeartbeats 4000000 in
theorem c_X7_lodgerOn_ok {Γ : Gm} {n : Nat} {ab im : Nat} {rk ro : Int32} {F : Hp} {R : Hr} {S : Hp} {f : Nat → Int32} {c : Nat} {φ p r : Nat} (hC : F ab = some (.inr (10, coF ab im rk ro))) (hr : Rp Γ S f c R) (hφ : φ < 5) (hp31 : p < 2 ^ 31) (hp : plF f (nI φ) c 0 p = some r) : Ct Γ 8 MX7_lodgerOn 0 0 [.ref ab, .int (nI φ), .int (nI p)] (HW Γ (ab + 50) F R) n (Rt (some (.int (nI r))) (HW Γ (ab + 50) F R) n) X0 := by
  refine Ct.of (by decide +kernel) rfl (Nat.le_of_ble_eq_true rfl) ?_
  have hc12 := hr.2.1
  have hrl := plF_lt hp
  refine G.sub (lv2 := [(0, _), (1, _), (2, _)]) [0, 1, 2] rfl ?_
  refine g_aload_n 0 rfl dX7_lodgerOn_0 ?_
  refine g_iload_n 1 rfl dX7_lodgerOn_1 ?_
  refine gu_V (c_X7_requireFloor_ok hC hφ) l_X7_126 rfl (Rcv.of ((HW_o (by omega)).trans hC) rfl) (Nat.le_of_ble_eq_true rfl) (Nat.le_of_ble_eq_true rfl) rfl dX7_lodgerOn_2 ?_
  refine g_aload_n 0 rfl dX7_lodgerOn_5 ?_
  refine g_get f_X7_36 ((HW_o (by omega)).trans hC) rfl dX7_lodgerOn_6 ?_
  refine g_iload_n 1 rfl dX7_lodgerOn_9 ?_
  refine g_iload_n 2 rfl dX7_lodgerOn_10 ?_
  refine gv_V (c_X2_numberAt_k hr hp31) l_X7_189 rfl (Rcv.of HW_h rfl) (Nat.le_of_ble_eq_true rfl) (Nat.le_of_ble_eq_true rfl) rfl dX7_lodgerOn_11 ?_
  refine g_top (y := nI r) (by rw [hp]; rfl) ?_
  refine g_istore_n (lv2 := [(3, _), (0, _), (1, _), (2, _)]) (by decide) rfl dX7_lodgerOn_14 ?_
  refine g_iload_n 0 rfl dX7_lodgerOn_15 ?_
  refine g_iconst (v := -1) dX7_lodgerOn_16 (by decide) ?_
  refine g_icmp_ne (tgt := 30) (by decide) dX7_lodgerOn_17 (fun h17 => ?_) (fun h17 => ?_)
  · -- t 30
    refine g_iload_n 0 rfl dX7_lodgerOn_30 ?_
    exact g_iret ⟨rfl, rfl, rfl⟩ rfl rfl dX7_lodgerOn_31
  · -- f 20
    exact absurd h17 (nI_nm1' (by omega))
set_option maxRecDepth 100000 in
set_option maxHeartbeats 4000000 in
theorem c_X7_lodgerOn_noF {Γ : Gm} {n : Nat} {ab im : Nat} {rk ro : Int32} {F : Hp} {R : Hr} {x y : Int32} (hC : F ab = some (.inr (10, coF ab im rk ro))) (hx : ¬ (nI 0 ≤ x ∧ x ≤ nI 4)) : Ct Γ 8 MX7_lodgerOn 1 6 [.ref ab, .int x, .int y] (HW Γ (ab + 50) F R) n PNo (Xe "java/lang/IndexOutOfBoundsException" (HW Γ (ab + 50) F R) n) := by
  refine Ct.of (by decide +kernel) rfl (Nat.le_of_ble_eq_true rfl) ?_
  refine G.sub (lv2 := [(0, _), (1, _), (2, _)]) [0, 1, 2] rfl ?_
  refine g_aload_n 0 rfl dX7_lodgerOn_0 ?_
  refine g_iload_n 1 rfl dX7_lodgerOn_1 ?_
  exact g_invV (c_X7_requireFloor_no hC hx) l_X7_126 rfl (Rcv.of ((HW_o (by omega)).trans hC) rfl) (Nat.le_of_ble_eq_true rfl) (Nat.le_of_ble_eq_true rfl) rfl dX7_lodgerOn_2 (fun _ _ _ h => h) (fun _ _ _ h => h.elim)
set_option maxRecDepth 100000 in
set_option maxHeartbeats 4000000 in
theorem c_X7_lodgerOn_noP {Γ : Gm} {n : Nat} {ab im : Nat} {rk ro : Int32} {F : Hp} {R : Hr} {S : Hp} {f : Nat → Int32} {c : Nat} {φ p : Nat} (hC : F ab = some (.inr (10, coF ab im rk ro))) (hr : Rp Γ S f c R) (hφ : φ < 5) (hp31 : p < 2 ^ 31) (hp : plF f (nI φ) c 0 p = none) : Ct Γ 8 MX7_lodgerOn 1 6 [.ref ab, .int (nI φ), .int (nI p)] (HW Γ (ab + 50) F R) n PNo (Xe "java/lang/IndexOutOfBoundsException" (HW Γ (ab + 50) F R) n) := by
  refine Ct.of (by decide +kernel) rfl (Nat.le_of_ble_eq_true rfl) ?_
  have hc12 := hr.2.1
  refine G.sub (lv2 := [(0, _), (1, _), (2, _)]) [0, 1, 2] rfl ?_
  refine g_aload_n 0 rfl dX7_lodgerOn_0 ?_
  refine g_iload_n 1 rfl dX7_lodgerOn_1 ?_
  refine gu_V (c_X7_requireFloor_ok hC hφ) l_X7_126 rfl (Rcv.of ((HW_o (by omega)).trans hC) rfl) (Nat.le_of_ble_eq_true rfl) (Nat.le_of_ble_eq_true rfl) rfl dX7_lodgerOn_2 ?_
  refine g_aload_n 0 rfl dX7_lodgerOn_5 ?_
  refine g_get f_X7_36 ((HW_o (by omega)).trans hC) rfl dX7_lodgerOn_6 ?_
  refine g_iload_n 1 rfl dX7_lodgerOn_9 ?_
  refine g_iload_n 2 rfl dX7_lodgerOn_10 ?_
  refine gv_V (c_X2_numberAt_k hr hp31) l_X7_189 rfl (Rcv.of HW_h rfl) (Nat.le_of_ble_eq_true rfl) (Nat.le_of_ble_eq_true rfl) rfl dX7_lodgerOn_11 ?_
  refine g_top (y := -1) (by rw [hp]; rfl) ?_
  refine g_istore_n (lv2 := [(3, _), (0, _), (1, _), (2, _)]) (by decide) rfl dX7_lodgerOn_14 ?_
  refine g_iload_n 0 rfl dX7_lodgerOn_15 ?_
  refine g_iconst (v := -1) dX7_lodgerOn_16 (by decide) ?_
  refine g_icmp_ne (tgt := 30) (by decide) dX7_lodgerOn_17 (fun h17 => ?_) (fun h17 => ?_)
  · -- t 30
    exact absurd rfl h17
  · -- f 20
    exact g_throw ⟨rfl, rfl, rfl⟩ (thr_X7_lodgerOn_20 (by decide)) (Nat.le_of_ble_eq_true rfl) (by decide) (by decide)
set_option maxRecDepth 100000 in
set_option maxHeartbeats 4000000 in
theorem c_X7_lodgerOn_noY {Γ : Gm} {n : Nat} {ab im : Nat} {rk ro : Int32} {F : Hp} {R : Hr} {S : Hp} {f : Nat → Int32} {c : Nat} {φ : Nat} {y : Int32} (hC : F ab = some (.inr (10, coF ab im rk ro))) (hr : Rp Γ S f c R) (hφ : φ < 5) (hy : y < 0) : Ct Γ 8 MX7_lodgerOn 1 6 [.ref ab, .int (nI φ), .int y] (HW Γ (ab + 50) F R) n PNo (Xe "java/lang/IndexOutOfBoundsException" (HW Γ (ab + 50) F R) n) := by
  refine Ct.of (by decide +kernel) rfl (Nat.le_of_ble_eq_true rfl) ?_
  have hc12 := hr.2.1
  refine G.sub (lv2 := [(0, _), (1, _), (2, _)]) [0, 1, 2] rfl ?_
  refine g_aload_n 0 rfl dX7_lodgerOn_0 ?_
  refine g_iload_n 1 rfl dX7_lodgerOn_1 ?_
  refine gu_V (c_X7_requireFloor_ok hC hφ) l_X7_126 rfl (Rcv.of ((HW_o (by omega)).trans hC) rfl) (Nat.le_of_ble_eq_true rfl) (Nat.le_of_ble_eq_true rfl) rfl dX7_lodgerOn_2 ?_
  refine g_aload_n 0 rfl dX7_lodgerOn_5 ?_
  refine g_get f_X7_36 ((HW_o (by omega)).trans hC) rfl dX7_lodgerOn_6 ?_
  refine g_iload_n 1 rfl dX7_lodgerOn_9 ?_
  refine g_iload_n 2 rfl dX7_lodgerOn_10 ?_
  refine gv_V (c_X2_numberAt_n hr hy) l_X7_189 rfl (Rcv.of HW_h rfl) (Nat.le_of_ble_eq_true rfl) (Nat.le_of_ble_eq_true rfl) rfl dX7_lodgerOn_11 ?_
  refine g_istore_n (lv2 := [(3, _), (0, _), (1, _), (2, _)]) (by decide) rfl dX7_lodgerOn_14 ?_
  refine g_iload_n 0 rfl dX7_lodgerOn_15 ?_
  refine g_iconst (v := -1) dX7_lodgerOn_16 (by decide) ?_
  refine g_icmp_ne (tgt := 30) (by decide) dX7_lodgerOn_17 (fun h17 => ?_) (fun h17 => ?_)
  · -- t 30
    exact absurd rfl h17
  · -- f 20
    exact g_throw ⟨rfl, rfl, rfl⟩ (thr_X7_lodgerOn_20 (by decide)) (Nat.le_of_ble_eq_true rfl) (by decide) (by decide)
set_option maxRecDepth 100000 in
set_option maxHeartbeats 4000000 in
theorem c_X7_averageVowel_ok {Γ : Gm} {n : Nat} {ab im : Nat} {rk ro : Int32} {F : Hp} {R : Hr} {S : Hp} {f : Nat → Int32} {c : Nat} {φ v : Nat} (hC : F ab = some (.inr (10, coF ab im rk ro))) (hr : Rp Γ S f c R) (hφ : φ < 5) (hv : v < 5) (h0 : ¬ cntA f (nI φ) c = 0) : Ct Γ 8 MX7_averageVowel 0 0 [.ref ab, .int (nI φ), .int (nI v)] (HW Γ (ab + 50) F R) n (Rt (some (.int (avgF f (nI φ) v c))) (HW Γ (ab + 50) F R) n) X0 := by
  refine Ct.of (by decide +kernel) rfl (Nat.le_of_ble_eq_true rfl) ?_
  have hc12 := hr.2.1
  have hle := cntA_le f (nI φ) c
  refine G.sub (lv2 := [(0, _), (1, _), (2, _)]) [0, 1, 2] rfl ?_
  refine g_aload_n 0 rfl dX7_averageVowel_0 ?_
  refine g_iload_n 1 rfl dX7_averageVowel_1 ?_
  refine gu_V (c_X7_requireFloor_ok hC hφ) l_X7_126 rfl (Rcv.of ((HW_o (by omega)).trans hC) rfl) (Nat.le_of_ble_eq_true rfl) (Nat.le_of_ble_eq_true rfl) rfl dX7_averageVowel_2 ?_
  refine g_aload_n 0 rfl dX7_averageVowel_5 ?_
  refine g_iload_n 2 rfl dX7_averageVowel_6 ?_
  refine gu_V (c_X7_requireVowel_ok hC hv) l_X7_133 rfl (Rcv.of ((HW_o (by omega)).trans hC) rfl) (Nat.le_of_ble_eq_true rfl) (Nat.le_of_ble_eq_true rfl) rfl dX7_averageVowel_7 ?_
  refine g_aload_n 0 rfl dX7_averageVowel_10 ?_
  refine g_get f_X7_36 ((HW_o (by omega)).trans hC) rfl dX7_averageVowel_11 ?_
  refine g_iload_n 1 rfl dX7_averageVowel_14 ?_
  refine gv_V (c_X2_crowdOn hr) l_X7_186 rfl (Rcv.of HW_h rfl) (Nat.le_of_ble_eq_true rfl) (Nat.le_of_ble_eq_true rfl) rfl dX7_averageVowel_15 ?_
  refine gn_if_ne (by omega) (tgt := 31) (by decide) dX7_averageVowel_18 (fun h18 => ?_) (fun h18 => ?_)
  · -- t 31
    refine g_aload_n 0 rfl dX7_averageVowel_31 ?_
    refine g_get f_X7_36 ((HW_o (by omega)).trans hC) rfl dX7_averageVowel_32 ?_
    refine g_iload_n 1 rfl dX7_averageVowel_35 ?_
    refine g_iload_n 2 rfl dX7_averageVowel_36 ?_
    refine gv_V (c_X2_averagePosition hr hv) l_X7_197 rfl (Rcv.of HW_h rfl) (Nat.le_of_ble_eq_true rfl) (Nat.le_of_ble_eq_true rfl) rfl dX7_averageVowel_37 ?_
    exact g_iret ⟨rfl, rfl, rfl⟩ rfl rfl dX7_averageVowel_40
  · -- f 21
    exact absurd h18 h0
set_option maxRecDepth 100000 in
set_option maxHeartbeats 4000000 in
theorem c_X7_averageVowel_noC {Γ : Gm} {n : Nat} {ab im : Nat} {rk ro : Int32} {F : Hp} {R : Hr} {S : Hp} {f : Nat → Int32} {c : Nat} {φ v : Nat} (hC : F ab = some (.inr (10, coF ab im rk ro))) (hr : Rp Γ S f c R) (hφ : φ < 5) (hv : v < 5) (h0 : cntA f (nI φ) c = 0) : Ct Γ 8 MX7_averageVowel 1 6 [.ref ab, .int (nI φ), .int (nI v)] (HW Γ (ab + 50) F R) n PNo (Xe "java/lang/IllegalStateException" (HW Γ (ab + 50) F R) n) := by
  refine Ct.of (by decide +kernel) rfl (Nat.le_of_ble_eq_true rfl) ?_
  have hc12 := hr.2.1
  have hle := cntA_le f (nI φ) c
  refine G.sub (lv2 := [(0, _), (1, _), (2, _)]) [0, 1, 2] rfl ?_
  refine g_aload_n 0 rfl dX7_averageVowel_0 ?_
  refine g_iload_n 1 rfl dX7_averageVowel_1 ?_
  refine gu_V (c_X7_requireFloor_ok hC hφ) l_X7_126 rfl (Rcv.of ((HW_o (by omega)).trans hC) rfl) (Nat.le_of_ble_eq_true rfl) (Nat.le_of_ble_eq_true rfl) rfl dX7_averageVowel_2 ?_
  refine g_aload_n 0 rfl dX7_averageVowel_5 ?_
  refine g_iload_n 2 rfl dX7_averageVowel_6 ?_
  refine gu_V (c_X7_requireVowel_ok hC hv) l_X7_133 rfl (Rcv.of ((HW_o (by omega)).trans hC) rfl) (Nat.le_of_ble_eq_true rfl) (Nat.le_of_ble_eq_true rfl) rfl dX7_averageVowel_7 ?_
  refine g_aload_n 0 rfl dX7_averageVowel_10 ?_
  refine g_get f_X7_36 ((HW_o (by omega)).trans hC) rfl dX7_averageVowel_11 ?_
  refine g_iload_n 1 rfl dX7_averageVowel_14 ?_
  refine gv_V (c_X2_crowdOn hr) l_X7_186 rfl (Rcv.of HW_h rfl) (Nat.le_of_ble_eq_true rfl) (Nat.le_of_ble_eq_true rfl) rfl dX7_averageVowel_15 ?_
  refine gn_if_ne (by omega) (tgt := 31) (by decide) dX7_averageVowel_18 (fun h18 => ?_) (fun h18 => ?_)
  · -- t 31
    exact absurd h0 h18
  · -- f 21
    exact g_throw ⟨rfl, rfl, rfl⟩ (thr_X7_averageVowel_21 (by decide)) (Nat.le_of_ble_eq_true rfl) (by decide) (by decide)
set_option maxRecDepth 100000 in
set_option maxHeartbeats 4000000 in
theorem c_X7_averageVowel_noF {Γ : Gm} {n : Nat} {ab im : Nat} {rk ro : Int32} {F : Hp} {R : Hr} {x y : Int32} (hC : F ab = some (.inr (10, coF ab im rk ro))) (hx : ¬ (nI 0 ≤ x ∧ x ≤ nI 4)) : Ct Γ 8 MX7_averageVowel 1 6 [.ref ab, .int x, .int y] (HW Γ (ab + 50) F R) n PNo (Xe "java/lang/IndexOutOfBoundsException" (HW Γ (ab + 50) F R) n) := by
  refine Ct.of (by decide +kernel) rfl (Nat.le_of_ble_eq_true rfl) ?_
  refine G.sub (lv2 := [(0, _), (1, _), (2, _)]) [0, 1, 2] rfl ?_
  refine g_aload_n 0 rfl dX7_averageVowel_0 ?_
  refine g_iload_n 1 rfl dX7_averageVowel_1 ?_
  exact g_invV (c_X7_requireFloor_no hC hx) l_X7_126 rfl (Rcv.of ((HW_o (by omega)).trans hC) rfl) (Nat.le_of_ble_eq_true rfl) (Nat.le_of_ble_eq_true rfl) rfl dX7_averageVowel_2 (fun _ _ _ h => h) (fun _ _ _ h => h.elim)
set_option maxRecDepth 100000 in
set_option maxHeartbeats 4000000 in
theorem c_X7_averageVowel_noV {Γ : Gm} {n : Nat} {ab im : Nat} {rk ro : Int32} {F : Hp} {R : Hr} {φ : Nat} {x : Int32} (hC : F ab = some (.inr (10, coF ab im rk ro))) (hφ : φ < 5) (hx : ¬ (nI 0 ≤ x ∧ x ≤ nI 4)) : Ct Γ 8 MX7_averageVowel 1 6 [.ref ab, .int (nI φ), .int x] (HW Γ (ab + 50) F R) n PNo (Xe "java/lang/IndexOutOfBoundsException" (HW Γ (ab + 50) F R) n) := by
  refine Ct.of (by decide +kernel) rfl (Nat.le_of_ble_eq_true rfl) ?_
  refine G.sub (lv2 := [(0, _), (1, _), (2, _)]) [0, 1, 2] rfl ?_
  refine g_aload_n 0 rfl dX7_averageVowel_0 ?_
  refine g_iload_n 1 rfl dX7_averageVowel_1 ?_
  refine gu_V (c_X7_requireFloor_ok hC hφ) l_X7_126 rfl (Rcv.of ((HW_o (by omega)).trans hC) rfl) (Nat.le_of_ble_eq_true rfl) (Nat.le_of_ble_eq_true rfl) rfl dX7_averageVowel_2 ?_
  refine g_aload_n 0 rfl dX7_averageVowel_5 ?_
  refine g_iload_n 2 rfl dX7_averageVowel_6 ?_
  exact g_invV (c_X7_requireVowel_no hC hx) l_X7_133 rfl (Rcv.of ((HW_o (by omega)).trans hC) rfl) (Nat.le_of_ble_eq_true rfl) (Nat.le_of_ble_eq_true rfl) rfl dX7_averageVowel_7 (fun _ _ _ h => h) (fun _ _ _ h => h.elim)
set_option maxRecDepth 100000 in
set_option maxHeartbeats 4000000 in
theorem c_X7_distanceToLandlady_ok {Γ : Gm} {n : Nat} {ab im : Nat} {rk ro : Int32} {F : Hp} {R : Hr} {S : Hp} {f : Nat → Int32} {c : Nat} {k : Nat} (hC : F ab = some (.inr (10, coF ab im rk ro))) (hr : Rp Γ S f c R) (hk : k < c) : Ct Γ 8 MX7_distanceToLandlady 0 0 [.ref ab, .int (nI k)] (HW Γ (ab + 50) F R) n (Rt (some (.int (dst (rw5 f k) (la5 f) 5))) (HW Γ (ab + 50) F R) n) X0 := by
  refine Ct.of (by decide +kernel) rfl (Nat.le_of_ble_eq_true rfl) ?_
  have hc12 := hr.2.1
  refine G.sub (lv2 := [(0, _), (1, _)]) [0, 1] rfl ?_
  refine g_aload_n 0 rfl dX7_distanceToLandlady_0 ?_
  refine g_iload_n 1 rfl dX7_distanceToLandlady_1 ?_
  refine gv_V (c_X7_requireLodger_ok hC hr hk) l_X7_152 rfl (Rcv.of ((HW_o (by omega)).trans hC) rfl) (Nat.le_of_ble_eq_true rfl) (Nat.le_of_ble_eq_true rfl) rfl dX7_distanceToLandlady_2 ?_
  refine g_get f_X7_164 (HW_l (hr.o12 (by omega))) rfl dX7_distanceToLandlady_5 ?_
  refine g_aload_n 0 rfl dX7_distanceToLandlady_8 ?_
  refine g_get f_X7_36 ((HW_o (by omega)).trans hC) rfl dX7_distanceToLandlady_9 ?_
  refine g_get f_X7_136 HW_h rfl dX7_distanceToLandlady_12 ?_
  refine gv_V (c_X0_distanceTo (HW_a (hr.o12 hk)) (HW_p (hr.o12 hk)) HW_1 HW_2) l_X7_200 rfl (Rcv.of (HW_a (hr.o12 (by omega))) rfl) (Nat.le_of_ble_eq_true rfl) (Nat.le_of_ble_eq_true rfl) rfl dX7_distanceToLandlady_15 ?_
  exact g_iret ⟨by rw [hr.ds1 hk], rfl, rfl⟩ rfl rfl dX7_distanceToLandlady_18
set_option maxRecDepth 100000 in
set_option maxHeartbeats 4000000 in
theorem c_X7_distanceToLandlady_noL {Γ : Gm} {n : Nat} {ab im : Nat} {rk ro : Int32} {F : Hp} {R : Hr} {S : Hp} {f : Nat → Int32} {c : Nat} {x : Int32}  (hC : F ab = some (.inr (10, coF ab im rk ro))) (hr : Rp Γ S f c R) (hx : ¬ (nI 0 ≤ x ∧ x ≤ nI c - nI 1)) : Ct Γ 8 MX7_distanceToLandlady 1 6 [.ref ab, .int x] (HW Γ (ab + 50) F R) n PNo (Xe "java/lang/IndexOutOfBoundsException" (HW Γ (ab + 50) F R) n) := by
  refine Ct.of (by decide +kernel) rfl (Nat.le_of_ble_eq_true rfl) ?_
  have hc12 := hr.2.1
  refine G.sub (lv2 := [(0, _), (1, _)]) [0, 1] rfl ?_
  refine g_aload_n 0 rfl dX7_distanceToLandlady_0 ?_
  refine g_iload_n 1 rfl dX7_distanceToLandlady_1 ?_
  exact g_invV (c_X7_requireLodger_no hC hr hx) l_X7_152 rfl (Rcv.of ((HW_o (by omega)).trans hC) rfl) (Nat.le_of_ble_eq_true rfl) (Nat.le_of_ble_eq_true rfl) rfl dX7_distanceToLandlady_2 (fun _ _ _ h => h) (fun _ _ _ h => h.elim)
set_option maxRecDepth 100000 in
set_option maxHeartbeats 4000000 in
theorem c_X7_rhymesWithLandlady_ok {Γ : Gm} {n : Nat} {ab im : Nat} {rk ro : Int32} {F : Hp} {R : Hr} {S : Hp} {f : Nat → Int32} {c : Nat} {k : Nat} (hC : F ab = some (.inr (10, coF ab im rk ro))) (hr : Rp Γ S f c R) (hk : k < c) : Ct Γ 8 MX7_rhymesWithLandlady 0 0 [.ref ab, .int (nI k)] (HW Γ (ab + 50) F R) n (Rt (some (.int (bi (dif (rw5 f k) (la5 f) 5 ≤ 1)))) (HW Γ (ab + 50) F R) n) X0 := by
  refine Ct.of (by decide +kernel) rfl (Nat.le_of_ble_eq_true rfl) ?_
  have hc12 := hr.2.1
  refine G.sub (lv2 := [(0, _), (1, _)]) [0, 1] rfl ?_
  refine g_aload_n 0 rfl dX7_rhymesWithLandlady_0 ?_
  refine g_iload_n 1 rfl dX7_rhymesWithLandlady_1 ?_
  refine gv_V (c_X7_requireLodger_ok hC hr hk) l_X7_152 rfl (Rcv.of ((HW_o (by omega)).trans hC) rfl) (Nat.le_of_ble_eq_true rfl) (Nat.le_of_ble_eq_true rfl) rfl dX7_rhymesWithLandlady_2 ?_
  refine g_get f_X7_164 (HW_l (hr.o12 (by omega))) rfl dX7_rhymesWithLandlady_5 ?_
  refine g_aload_n 0 rfl dX7_rhymesWithLandlady_8 ?_
  refine g_get f_X7_36 ((HW_o (by omega)).trans hC) rfl dX7_rhymesWithLandlady_9 ?_
  refine g_get f_X7_136 HW_h rfl dX7_rhymesWithLandlady_12 ?_
  refine gv_V (c_X0_rhymesWith (HW_a (hr.o12 hk)) (HW_p (hr.o12 hk)) HW_1 HW_2) l_X7_204 rfl (Rcv.of (HW_a (hr.o12 (by omega))) rfl) (Nat.le_of_ble_eq_true rfl) (Nat.le_of_ble_eq_true rfl) rfl dX7_rhymesWithLandlady_15 ?_
  exact g_iret ⟨by simp only [hr.di1 hk], rfl, rfl⟩ (by unfold bi; split <;> decide +kernel) rfl dX7_rhymesWithLandlady_18
set_option maxRecDepth 100000 in
set_option maxHeartbeats 4000000 in
theorem c_X7_rhymesWithLandlady_noL {Γ : Gm} {n : Nat} {ab im : Nat} {rk ro : Int32} {F : Hp} {R : Hr} {S : Hp} {f : Nat → Int32} {c : Nat} {x : Int32}  (hC : F ab = some (.inr (10, coF ab im rk ro))) (hr : Rp Γ S f c R) (hx : ¬ (nI 0 ≤ x ∧ x ≤ nI c - nI 1)) : Ct Γ 8 MX7_rhymesWithLandlady 1 6 [.ref ab, .int x] (HW Γ (ab + 50) F R) n PNo (Xe "java/lang/IndexOutOfBoundsException" (HW Γ (ab + 50) F R) n) := by
  refine Ct.of (by decide +kernel) rfl (Nat.le_of_ble_eq_true rfl) ?_
  have hc12 := hr.2.1
  refine G.sub (lv2 := [(0, _), (1, _)]) [0, 1] rfl ?_
  refine g_aload_n 0 rfl dX7_rhymesWithLandlady_0 ?_
  refine g_iload_n 1 rfl dX7_rhymesWithLandlady_1 ?_
  exact g_invV (c_X7_requireLodger_no hC hr hx) l_X7_152 rfl (Rcv.of ((HW_o (by omega)).trans hC) rfl) (Nat.le_of_ble_eq_true rfl) (Nat.le_of_ble_eq_true rfl) rfl dX7_rhymesWithLandlady_2 (fun _ _ _ h => h) (fun _ _ _ h => h.elim)
set_option maxRecDepth 100000 in
set_option maxHeartbeats 4000000 in
theorem c_X7_lessonVowel_ok {Γ : Gm} {n : Nat} {ab im : Nat} {rk ro : Int32} {F : Hp} {R : Hr} {S : Hp} {f : Nat → Int32} {c : Nat} {k : Nat} (hC : F ab = some (.inr (10, coF ab im rk ro))) (hr : Rp Γ S f c R) (hk : k < c) : Ct Γ 8 MX7_lessonVowel 0 0 [.ref ab, .int (nI k)] (HW Γ (ab + 50) F R) n (Rt (some (.int (far (rw5 f k) (la5 f) 5).1)) (HW Γ (ab + 50) F R) n) X0 := by
  refine Ct.of (by decide +kernel) rfl (Nat.le_of_ble_eq_true rfl) ?_
  have hc12 := hr.2.1
  refine G.sub (lv2 := [(0, _), (1, _)]) [0, 1] rfl ?_
  refine g_aload_n 0 rfl dX7_lessonVowel_0 ?_
  refine g_iload_n 1 rfl dX7_lessonVowel_1 ?_
  refine gv_V (c_X7_requireLodger_ok hC hr hk) l_X7_152 rfl (Rcv.of ((HW_o (by omega)).trans hC) rfl) (Nat.le_of_ble_eq_true rfl) (Nat.le_of_ble_eq_true rfl) rfl dX7_lessonVowel_2 ?_
  refine g_get f_X7_164 (HW_l (hr.o12 (by omega))) rfl dX7_lessonVowel_5 ?_
  refine g_aload_n 0 rfl dX7_lessonVowel_8 ?_
  refine g_get f_X7_36 ((HW_o (by omega)).trans hC) rfl dX7_lessonVowel_9 ?_
  refine g_get f_X7_136 HW_h rfl dX7_lessonVowel_12 ?_
  refine gv_V (c_X0_farthestVowel (HW_a (hr.o12 hk)) (HW_p (hr.o12 hk)) HW_1 HW_2) l_X7_212 rfl (Rcv.of (HW_a (hr.o12 (by omega))) rfl) (Nat.le_of_ble_eq_true rfl) (Nat.le_of_ble_eq_true rfl) rfl dX7_lessonVowel_15 ?_
  exact g_iret ⟨by rw [hr.fa1 hk], rfl, rfl⟩ rfl rfl dX7_lessonVowel_18
set_option maxRecDepth 100000 in
set_option maxHeartbeats 4000000 in
theorem c_X7_lessonVowel_noL {Γ : Gm} {n : Nat} {ab im : Nat} {rk ro : Int32} {F : Hp} {R : Hr} {S : Hp} {f : Nat → Int32} {c : Nat} {x : Int32}  (hC : F ab = some (.inr (10, coF ab im rk ro))) (hr : Rp Γ S f c R) (hx : ¬ (nI 0 ≤ x ∧ x ≤ nI c - nI 1)) : Ct Γ 8 MX7_lessonVowel 1 6 [.ref ab, .int x] (HW Γ (ab + 50) F R) n PNo (Xe "java/lang/IndexOutOfBoundsException" (HW Γ (ab + 50) F R) n) := by
  refine Ct.of (by decide +kernel) rfl (Nat.le_of_ble_eq_true rfl) ?_
  have hc12 := hr.2.1
  refine G.sub (lv2 := [(0, _), (1, _)]) [0, 1] rfl ?_
  refine g_aload_n 0 rfl dX7_lessonVowel_0 ?_
  refine g_iload_n 1 rfl dX7_lessonVowel_1 ?_
  exact g_invV (c_X7_requireLodger_no hC hr hx) l_X7_152 rfl (Rcv.of ((HW_o (by omega)).trans hC) rfl) (Nat.le_of_ble_eq_true rfl) (Nat.le_of_ble_eq_true rfl) rfl dX7_lessonVowel_2 (fun _ _ _ h => h) (fun _ _ _ h => h.elim)
set_option maxRecDepth 100000 in
set_option maxHeartbeats 4000000 in
theorem c_X7_distance_ok {Γ : Gm} {n : Nat} {ab im : Nat} {rk ro : Int32} {F : Hp} {R : Hr} {S : Hp} {f : Nat → Int32} {c : Nat} {k j : Nat} (hC : F ab = some (.inr (10, coF ab im rk ro))) (hr : Rp Γ S f c R) (hk : k < c) (hj : j < c) : Ct Γ 8 MX7_distance 0 0 [.ref ab, .int (nI k), .int (nI j)] (HW Γ (ab + 50) F R) n (Rt (some (.int (dst (rw5 f k) (rw5 f j) 5))) (HW Γ (ab + 50) F R) n) X0 := by
  refine Ct.of (by decide +kernel) rfl (Nat.le_of_ble_eq_true rfl) ?_
  have hc12 := hr.2.1
  refine G.sub (lv2 := [(0, _), (1, _), (2, _)]) [0, 1, 2] rfl ?_
  refine g_aload_n 0 rfl dX7_distance_0 ?_
  refine g_iload_n 1 rfl dX7_distance_1 ?_
  refine gv_V (c_X7_requireLodger_ok hC hr hk) l_X7_152 rfl (Rcv.of ((HW_o (by omega)).trans hC) rfl) (Nat.le_of_ble_eq_true rfl) (Nat.le_of_ble_eq_true rfl) rfl dX7_distance_2 ?_
  refine g_astore_n (lv2 := [(3, _), (0, _), (1, _), (2, _)]) (by decide) rfl dX7_distance_5 ?_
  refine g_aload_n 1 rfl dX7_distance_6 ?_
  refine g_iload_n 3 rfl dX7_distance_7 ?_
  refine gv_V (c_X7_requireLodger_ok hC hr hj) l_X7_152 rfl (Rcv.of ((HW_o (by omega)).trans hC) rfl) (Nat.le_of_ble_eq_true rfl) (Nat.le_of_ble_eq_true rfl) rfl dX7_distance_8 ?_
  refine g_astore (lv2 := [(4, _), (3, _), (0, _), (1, _), (2, _)]) (by decide) rfl dX7_distance_11 ?_
  refine g_aload_n 1 rfl dX7_distance_13 ?_
  refine g_get f_X7_164 (HW_l (hr.o12 (by omega))) rfl dX7_distance_14 ?_
  refine g_aload 0 rfl dX7_distance_17 ?_
  refine g_get f_X7_164 (HW_l (hr.o12 (by omega))) rfl dX7_distance_19 ?_
  refine gv_V (c_X0_distanceTo (HW_a (hr.o12 hk)) (HW_p (hr.o12 hk)) (HW_a (hr.o12 hj)) (HW_p (hr.o12 hj))) l_X7_200 rfl (Rcv.of (HW_a (hr.o12 (by omega))) rfl) (Nat.le_of_ble_eq_true rfl) (Nat.le_of_ble_eq_true rfl) rfl dX7_distance_22 ?_
  exact g_iret ⟨by simp only [hr.ds2 hk hj], rfl, rfl⟩ rfl rfl dX7_distance_25
set_option maxRecDepth 100000 in
set_option maxHeartbeats 4000000 in
theorem c_X7_distance_noL {Γ : Gm} {n : Nat} {ab im : Nat} {rk ro : Int32} {F : Hp} {R : Hr} {S : Hp} {f : Nat → Int32} {c : Nat} {x : Int32} {y : Int32} (hC : F ab = some (.inr (10, coF ab im rk ro))) (hr : Rp Γ S f c R) (hx : ¬ (nI 0 ≤ x ∧ x ≤ nI c - nI 1)) : Ct Γ 8 MX7_distance 1 6 [.ref ab, .int x, .int y] (HW Γ (ab + 50) F R) n PNo (Xe "java/lang/IndexOutOfBoundsException" (HW Γ (ab + 50) F R) n) := by
  refine Ct.of (by decide +kernel) rfl (Nat.le_of_ble_eq_true rfl) ?_
  have hc12 := hr.2.1
  refine G.sub (lv2 := [(0, _), (1, _), (2, _)]) [0, 1, 2] rfl ?_
  refine g_aload_n 0 rfl dX7_distance_0 ?_
  refine g_iload_n 1 rfl dX7_distance_1 ?_
  exact g_invV (c_X7_requireLodger_no hC hr hx) l_X7_152 rfl (Rcv.of ((HW_o (by omega)).trans hC) rfl) (Nat.le_of_ble_eq_true rfl) (Nat.le_of_ble_eq_true rfl) rfl dX7_distance_2 (fun _ _ _ h => h) (fun _ _ _ h => h.elim)
set_option maxRecDepth 100000 in
set_option maxHeartbeats 4000000 in
theorem c_X7_distance_noM {Γ : Gm} {n : Nat} {ab im : Nat} {rk ro : Int32} {F : Hp} {R : Hr} {S : Hp} {f : Nat → Int32} {c : Nat} {k : Nat} {x : Int32} (hC : F ab = some (.inr (10, coF ab im rk ro))) (hr : Rp Γ S f c R) (hk : k < c) (hx : ¬ (nI 0 ≤ x ∧ x ≤ nI c - nI 1)) : Ct Γ 8 MX7_distance 1 6 [.ref ab, .int (nI k), .int x] (HW Γ (ab + 50) F R) n PNo (Xe "java/lang/IndexOutOfBoundsException" (HW Γ (ab + 50) F R) n) := by
  refine Ct.of (by decide +kernel) rfl (Nat.le_of_ble_eq_true rfl) ?_
  have hc12 := hr.2.1
  refine G.sub (lv2 := [(0, _), (1, _), (2, _)]) [0, 1, 2] rfl ?_
  refine g_aload_n 0 rfl dX7_distance_0 ?_
  refine g_iload_n 1 rfl dX7_distance_1 ?_
  refine gv_V (c_X7_requireLodger_ok hC hr hk) l_X7_152 rfl (Rcv.of ((HW_o (by omega)).trans hC) rfl) (Nat.le_of_ble_eq_true rfl) (Nat.le_of_ble_eq_true rfl) rfl dX7_distance_2 ?_
  refine g_astore_n (lv2 := [(3, _), (0, _), (1, _), (2, _)]) (by decide) rfl dX7_distance_5 ?_
  refine g_aload_n 1 rfl dX7_distance_6 ?_
  refine g_iload_n 3 rfl dX7_distance_7 ?_
  exact g_invV (c_X7_requireLodger_no hC hr hx) l_X7_152 rfl (Rcv.of ((HW_o (by omega)).trans hC) rfl) (Nat.le_of_ble_eq_true rfl) (Nat.le_of_ble_eq_true rfl) rfl dX7_distance_8 (fun _ _ _ h => h) (fun _ _ _ h => h.elim)
set_option maxRecDepth 100000 in
set_option maxHeartbeats 4000000 in
theorem c_X7_rhymes_ok {Γ : Gm} {n : Nat} {ab im : Nat} {rk ro : Int32} {F : Hp} {R : Hr} {S : Hp} {f : Nat → Int32} {c : Nat} {k j : Nat} (hC : F ab = some (.inr (10, coF ab im rk ro))) (hr : Rp Γ S f c R) (hk : k < c) (hj : j < c) : Ct Γ 8 MX7_rhymes 0 0 [.ref ab, .int (nI k), .int (nI j)] (HW Γ (ab + 50) F R) n (Rt (some (.int (bi (dif (rw5 f k) (rw5 f j) 5 ≤ 1)))) (HW Γ (ab + 50) F R) n) X0 := by
  refine Ct.of (by decide +kernel) rfl (Nat.le_of_ble_eq_true rfl) ?_
  have hc12 := hr.2.1
  refine G.sub (lv2 := [(0, _), (1, _), (2, _)]) [0, 1, 2] rfl ?_
  refine g_aload_n 0 rfl dX7_rhymes_0 ?_
  refine g_iload_n 1 rfl dX7_rhymes_1 ?_
  refine gv_V (c_X7_requireLodger_ok hC hr hk) l_X7_152 rfl (Rcv.of ((HW_o (by omega)).trans hC) rfl) (Nat.le_of_ble_eq_true rfl) (Nat.le_of_ble_eq_true rfl) rfl dX7_rhymes_2 ?_
  refine g_astore_n (lv2 := [(3, _), (0, _), (1, _), (2, _)]) (by decide) rfl dX7_rhymes_5 ?_
  refine g_aload_n 1 rfl dX7_rhymes_6 ?_
  refine g_iload_n 3 rfl dX7_rhymes_7 ?_
  refine gv_V (c_X7_requireLodger_ok hC hr hj) l_X7_152 rfl (Rcv.of ((HW_o (by omega)).trans hC) rfl) (Nat.le_of_ble_eq_true rfl) (Nat.le_of_ble_eq_true rfl) rfl dX7_rhymes_8 ?_
  refine g_astore (lv2 := [(4, _), (3, _), (0, _), (1, _), (2, _)]) (by decide) rfl dX7_rhymes_11 ?_
  refine g_aload_n 1 rfl dX7_rhymes_13 ?_
  refine g_get f_X7_164 (HW_l (hr.o12 (by omega))) rfl dX7_rhymes_14 ?_
  refine g_aload 0 rfl dX7_rhymes_17 ?_
  refine g_get f_X7_164 (HW_l (hr.o12 (by omega))) rfl dX7_rhymes_19 ?_
  refine gv_V (c_X0_rhymesWith (HW_a (hr.o12 hk)) (HW_p (hr.o12 hk)) (HW_a (hr.o12 hj)) (HW_p (hr.o12 hj))) l_X7_204 rfl (Rcv.of (HW_a (hr.o12 (by omega))) rfl) (Nat.le_of_ble_eq_true rfl) (Nat.le_of_ble_eq_true rfl) rfl dX7_rhymes_22 ?_
  exact g_iret ⟨by simp only [hr.di2 hk hj], rfl, rfl⟩ (by unfold bi; split <;> decide +kernel) rfl dX7_rhymes_25
set_option maxRecDepth 100000 in
set_option maxHeartbeats 4000000 in
theorem c_X7_rhymes_noL {Γ : Gm} {n : Nat} {ab im : Nat} {rk ro : Int32} {F : Hp} {R : Hr} {S : Hp} {f : Nat → Int32} {c : Nat} {x : Int32} {y : Int32} (hC : F ab = some (.inr (10, coF ab im rk ro))) (hr : Rp Γ S f c R) (hx : ¬ (nI 0 ≤ x ∧ x ≤ nI c - nI 1)) : Ct Γ 8 MX7_rhymes 1 6 [.ref ab, .int x, .int y] (HW Γ (ab + 50) F R) n PNo (Xe "java/lang/IndexOutOfBoundsException" (HW Γ (ab + 50) F R) n) := by
  refine Ct.of (by decide +kernel) rfl (Nat.le_of_ble_eq_true rfl) ?_
  have hc12 := hr.2.1
  refine G.sub (lv2 := [(0, _), (1, _), (2, _)]) [0, 1, 2] rfl ?_
  refine g_aload_n 0 rfl dX7_rhymes_0 ?_
  refine g_iload_n 1 rfl dX7_rhymes_1 ?_
  exact g_invV (c_X7_requireLodger_no hC hr hx) l_X7_152 rfl (Rcv.of ((HW_o (by omega)).trans hC) rfl) (Nat.le_of_ble_eq_true rfl) (Nat.le_of_ble_eq_true rfl) rfl dX7_rhymes_2 (fun _ _ _ h => h) (fun _ _ _ h => h.elim)
set_option maxRecDepth 100000 in
set_option maxHeartbeats 4000000 in
theorem c_X7_rhymes_noM {Γ : Gm} {n : Nat} {ab im : Nat} {rk ro : Int32} {F : Hp} {R : Hr} {S : Hp} {f : Nat → Int32} {c : Nat} {k : Nat} {x : Int32} (hC : F ab = some (.inr (10, coF ab im rk ro))) (hr : Rp Γ S f c R) (hk : k < c) (hx : ¬ (nI 0 ≤ x ∧ x ≤ nI c - nI 1)) : Ct Γ 8 MX7_rhymes 1 6 [.ref ab, .int (nI k), .int x] (HW Γ (ab + 50) F R) n PNo (Xe "java/lang/IndexOutOfBoundsException" (HW Γ (ab + 50) F R) n) := by
  refine Ct.of (by decide +kernel) rfl (Nat.le_of_ble_eq_true rfl) ?_
  have hc12 := hr.2.1
  refine G.sub (lv2 := [(0, _), (1, _), (2, _)]) [0, 1, 2] rfl ?_
  refine g_aload_n 0 rfl dX7_rhymes_0 ?_
  refine g_iload_n 1 rfl dX7_rhymes_1 ?_
  refine gv_V (c_X7_requireLodger_ok hC hr hk) l_X7_152 rfl (Rcv.of ((HW_o (by omega)).trans hC) rfl) (Nat.le_of_ble_eq_true rfl) (Nat.le_of_ble_eq_true rfl) rfl dX7_rhymes_2 ?_
  refine g_astore_n (lv2 := [(3, _), (0, _), (1, _), (2, _)]) (by decide) rfl dX7_rhymes_5 ?_
  refine g_aload_n 1 rfl dX7_rhymes_6 ?_
  refine g_iload_n 3 rfl dX7_rhymes_7 ?_
  exact g_invV (c_X7_requireLodger_no hC hr hx) l_X7_152 rfl (Rcv.of ((HW_o (by omega)).trans hC) rfl) (Nat.le_of_ble_eq_true rfl) (Nat.le_of_ble_eq_true rfl) rfl dX7_rhymes_8 (fun _ _ _ h => h) (fun _ _ _ h => h.elim)
set_option maxRecDepth 100000 in
set_option maxHeartbeats 4000000 in
theorem c_X7_mustGo_ok {Γ : Gm} {n : Nat} {ab im : Nat} {rk ro : Int32} {F : Hp} {R : Hr} {S : Hp} {f : Nat → Int32} {c : Nat} {k : Nat} (hC : F ab = some (.inr (10, coF ab im rk ro))) (hr : Rp Γ S f c R) (hk : k < c) : Ct Γ 8 MX7_mustGo 0 0 [.ref ab, .int (nI k)] (HW Γ (ab + 50) F R) n (Rt (some (.int (bi (MustB f k = true)))) (HW Γ (ab + 50) F R) n) X0 := by
  refine Ct.of (by decide +kernel) rfl (Nat.le_of_ble_eq_true rfl) ?_
  have hc12 := hr.2.1
  refine G.sub (lv2 := [(0, _), (1, _)]) [0, 1] rfl ?_
  refine g_aload_n 0 rfl dX7_mustGo_0 ?_
  refine g_get f_X7_36 ((HW_o (by omega)).trans hC) rfl dX7_mustGo_1 ?_
  refine g_aload_n 0 rfl dX7_mustGo_4 ?_
  refine g_iload_n 1 rfl dX7_mustGo_5 ?_
  refine gv_V (c_X7_requireLodger_ok hC hr hk) l_X7_152 rfl (Rcv.of ((HW_o (by omega)).trans hC) rfl) (Nat.le_of_ble_eq_true rfl) (Nat.le_of_ble_eq_true rfl) rfl dX7_mustGo_6 ?_
  refine gv_V (c_X2_mustLeave hr hk) l_X7_221 rfl (Rcv.of HW_h rfl) (Nat.le_of_ble_eq_true rfl) (Nat.le_of_ble_eq_true rfl) rfl dX7_mustGo_9 ?_
  exact g_iret ⟨rfl, rfl, rfl⟩ (by unfold bi; split <;> decide +kernel) rfl dX7_mustGo_12
set_option maxRecDepth 100000 in
set_option maxHeartbeats 4000000 in
theorem c_X7_mustGo_noL {Γ : Gm} {n : Nat} {ab im : Nat} {rk ro : Int32} {F : Hp} {R : Hr} {S : Hp} {f : Nat → Int32} {c : Nat} {x : Int32}  (hC : F ab = some (.inr (10, coF ab im rk ro))) (hr : Rp Γ S f c R) (hx : ¬ (nI 0 ≤ x ∧ x ≤ nI c - nI 1)) : Ct Γ 8 MX7_mustGo 1 6 [.ref ab, .int x] (HW Γ (ab + 50) F R) n PNo (Xe "java/lang/IndexOutOfBoundsException" (HW Γ (ab + 50) F R) n) := by
  refine Ct.of (by decide +kernel) rfl (Nat.le_of_ble_eq_true rfl) ?_
  have hc12 := hr.2.1
  refine G.sub (lv2 := [(0, _), (1, _)]) [0, 1] rfl ?_
  refine g_aload_n 0 rfl dX7_mustGo_0 ?_
  refine g_get f_X7_36 ((HW_o (by omega)).trans hC) rfl dX7_mustGo_1 ?_
  refine g_aload_n 0 rfl dX7_mustGo_4 ?_
  refine g_iload_n 1 rfl dX7_mustGo_5 ?_
  exact g_invV (c_X7_requireLodger_no hC hr hx) l_X7_152 rfl (Rcv.of ((HW_o (by omega)).trans hC) rfl) (Nat.le_of_ble_eq_true rfl) (Nat.le_of_ble_eq_true rfl) rfl dX7_mustGo_6 (fun _ _ _ h => h) (fun _ _ _ h => h.elim)
set_option maxRecDepth 100000 in
set_option maxHeartbeats 4000000 in
theorem c_X7_rhymeCount_ok {Γ : Gm} {n : Nat} {ab im : Nat} {rk ro : Int32} {F : Hp} {R : Hr} {S : Hp} {f : Nat → Int32} {c : Nat} {k : Nat} (hC : F ab = some (.inr (10, coF ab im rk ro))) (hr : Rp Γ S f c R) (hk : k < c) : Ct Γ 8 MX7_rhymeCount 0 0 [.ref ab, .int (nI k)] (HW Γ (ab + 50) F R) n (Rt (some (.int (nI (rcF f k c)))) (HW Γ (ab + 50) F R) n) X0 := by
  refine Ct.of (by decide +kernel) rfl (Nat.le_of_ble_eq_true rfl) ?_
  have hc12 := hr.2.1
  refine G.sub (lv2 := [(0, _), (1, _)]) [0, 1] rfl ?_
  refine g_aload_n 0 rfl dX7_rhymeCount_0 ?_
  refine g_iload_n 1 rfl dX7_rhymeCount_1 ?_
  refine gv_V (c_X7_requireLodger_ok hC hr hk) l_X7_152 rfl (Rcv.of ((HW_o (by omega)).trans hC) rfl) (Nat.le_of_ble_eq_true rfl) (Nat.le_of_ble_eq_true rfl) rfl dX7_rhymeCount_2 ?_
  refine g_astore_n (lv2 := [(2, _), (0, _), (1, _)]) (by decide) rfl dX7_rhymeCount_5 ?_
  refine gn_ic 0 (by decide) dX7_rhymeCount_6 ?_
  refine g_istore_n (lv2 := [(3, _), (2, _), (0, _), (1, _)]) (by decide) rfl dX7_rhymeCount_7 ?_
  refine gn_ic 0 (by decide) dX7_rhymeCount_8 ?_
  refine g_istore (lv2 := [(4, _), (3, _), (2, _), (0, _), (1, _)]) (by decide) rfl dX7_rhymeCount_9 ?_
  have L11 : ∀ (m11 : Nat) (i : Nat), (i + m11 = c) → G Γ 8 MX7_rhymeCount (Rt (some (.int (nI (rcF f k c)))) (HW Γ (ab + 50) F R) n) X0 11 [(0, .ref ab), (1, .int (nI k)), (2, .ref (ab + 50 + 6 + 3 * hO R k)), (3, .int (nI (rcF f k i))), (4, .int (nI i))] [] (HW Γ (ab + 50) F R) n 0 0 := by
    intro m11
    induction m11 with
    | zero =>
      intro i hi9
      refine g_iload 4 rfl dX7_rhymeCount_11 ?_
      refine g_aload_n 0 rfl dX7_rhymeCount_13 ?_
      refine g_get f_X7_36 ((HW_o (by omega)).trans hC) rfl dX7_rhymeCount_14 ?_
      refine g_get f_X7_114 HW_h rfl dX7_rhymeCount_17 ?_
      refine g_top hr.cnt ?_
      refine gn_icmp_ge (by omega) (by omega) (tgt := 61) (by decide) dX7_rhymeCount_20 (fun h20 => ?_) (fun h20 => ?_)
      · -- t 61
        obtain rfl : c = i := by omega
        refine g_iload_n 3 rfl dX7_rhymeCount_61 ?_
        exact g_iret ⟨rfl, rfl, rfl⟩ rfl rfl dX7_rhymeCount_62
      · -- f 23
        exfalso; omega
    | succ m11 ih11 =>
      intro i hi9
      have hle := rcF_le f k i
      refine g_iload 4 rfl dX7_rhymeCount_11 ?_
      refine g_aload_n 0 rfl dX7_rhymeCount_13 ?_
      refine g_get f_X7_36 ((HW_o (by omega)).trans hC) rfl dX7_rhymeCount_14 ?_
      refine g_get f_X7_114 HW_h rfl dX7_rhymeCount_17 ?_
      refine g_top hr.cnt ?_
      refine gn_icmp_ge (by omega) (by omega) (tgt := 61) (by decide) dX7_rhymeCount_20 (fun h20 => ?_) (fun h20 => ?_)
      · -- t 61
        exfalso; omega
      · -- f 23
        have hic : i < c := by omega
        refine g_iload 4 rfl dX7_rhymeCount_23 ?_
        refine g_iload_n 1 rfl dX7_rhymeCount_25 ?_
        refine gn_icmp_eq (by omega) (by omega) (tgt := 55) (by decide) dX7_rhymeCount_26 (fun h26 => ?_) (fun h26 => ?_)
        · -- t 55
          refine gn_inc (lv2 := [(4, _), (0, _), (1, _), (2, _), (3, _)]) 4 rfl (by decide) rfl dX7_rhymeCount_55 ?_
          refine g_goto (tgt := 11) (by decide) dX7_rhymeCount_58 ?_
          refine G.sub [1, 2, 3, 4, 0] rfl ?_
          have h := ih11 (i + 1) (by omega)
          rw [show rcF f k (i + 1) = rcF f k i by rw [rcF, if_neg (fun z => z.1 h26)]; rfl] at h
          exact h
        · -- f 29
          refine g_aload_n 0 rfl dX7_rhymeCount_29 ?_
          refine g_get f_X7_36 ((HW_o (by omega)).trans hC) rfl dX7_rhymeCount_30 ?_
          refine g_get f_X7_208 HW_h rfl dX7_rhymeCount_33 ?_
          refine g_iload 4 rfl dX7_rhymeCount_36 ?_
          refine h_aald (by omega) dX7_rhymeCount_38 ?_
          refine g_get f_X7_164 (HW_l (hr.o12 (by omega))) rfl dX7_rhymeCount_39 ?_
          refine g_aload_n 2 rfl dX7_rhymeCount_42 ?_
          refine g_get f_X7_164 (HW_l (hr.o12 (by omega))) rfl dX7_rhymeCount_43 ?_
          refine gv_V (c_X0_rhymesWith (HW_a (hr.o12 hic)) (HW_p (hr.o12 hic)) (HW_a (hr.o12 hk)) (HW_p (hr.o12 hk))) l_X7_204 rfl (Rcv.of (HW_a (hr.o12 (by omega))) rfl) (Nat.le_of_ble_eq_true rfl) (Nat.le_of_ble_eq_true rfl) rfl dX7_rhymeCount_46 ?_
          refine g_top (y := bi (dif (rw5 f i) (rw5 f k) 5 ≤ 1)) (by simp only [hr.di2 hic hk]) ?_
          refine g_if_eq (tgt := 55) (by decide) dX7_rhymeCount_49 (fun h49 => ?_) (fun h49 => ?_)
          · -- t 55
            refine gn_inc (lv2 := [(4, _), (0, _), (1, _), (2, _), (3, _)]) 4 rfl (by decide) rfl dX7_rhymeCount_55 ?_
            refine g_goto (tgt := 11) (by decide) dX7_rhymeCount_58 ?_
            refine G.sub [1, 2, 3, 4, 0] rfl ?_
            have h := ih11 (i + 1) (by omega)
            rw [show rcF f k (i + 1) = rcF f k i by rw [rcF, if_neg (fun z => bi_0 h49 z.2)]; rfl] at h
            exact h
          · -- f 52
            refine gn_inc (lv2 := [(3, _), (0, _), (1, _), (2, _), (4, _)]) 3 rfl (by decide) rfl dX7_rhymeCount_52 ?_
            refine gn_inc (lv2 := [(4, _), (3, _), (0, _), (1, _), (2, _)]) 4 rfl (by decide) rfl dX7_rhymeCount_55 ?_
            refine g_goto (tgt := 11) (by decide) dX7_rhymeCount_58 ?_
            refine G.sub [2, 3, 4, 1, 0] rfl ?_
            have h := ih11 (i + 1) (by omega)
            rw [show rcF f k (i + 1) = rcF f k i + 1 by rw [rcF, if_pos ⟨h26, bi_n0 h49⟩]] at h
            exact h
  refine G.sub [3, 4, 2, 1, 0] rfl ?_
  exact L11 c 0 (Nat.zero_add _)
set_option maxRecDepth 100000 in
set_option maxHeartbeats 4000000 in
theorem c_X7_rhymeCount_noL {Γ : Gm} {n : Nat} {ab im : Nat} {rk ro : Int32} {F : Hp} {R : Hr} {S : Hp} {f : Nat → Int32} {c : Nat} {x : Int32}  (hC : F ab = some (.inr (10, coF ab im rk ro))) (hr : Rp Γ S f c R) (hx : ¬ (nI 0 ≤ x ∧ x ≤ nI c - nI 1)) : Ct Γ 8 MX7_rhymeCount 1 6 [.ref ab, .int x] (HW Γ (ab + 50) F R) n PNo (Xe "java/lang/IndexOutOfBoundsException" (HW Γ (ab + 50) F R) n) := by
  refine Ct.of (by decide +kernel) rfl (Nat.le_of_ble_eq_true rfl) ?_
  have hc12 := hr.2.1
  refine G.sub (lv2 := [(0, _), (1, _)]) [0, 1] rfl ?_
  refine g_aload_n 0 rfl dX7_rhymeCount_0 ?_
  refine g_iload_n 1 rfl dX7_rhymeCount_1 ?_
  exact g_invV (c_X7_requireLodger_no hC hr hx) l_X7_152 rfl (Rcv.of ((HW_o (by omega)).trans hC) rfl) (Nat.le_of_ble_eq_true rfl) (Nat.le_of_ble_eq_true rfl) rfl dX7_rhymeCount_2 (fun _ _ _ h => h) (fun _ _ _ h => h.elim)
set_option maxRecDepth 100000 in
set_option maxHeartbeats 4000000 in
theorem c_X7_closestTo_ok {Γ : Gm} {n : Nat} {ab im : Nat} {rk ro : Int32} {F : Hp} {R : Hr} {S : Hp} {f : Nat → Int32} {c : Nat} {k : Nat} (hC : F ab = some (.inr (10, coF ab im rk ro))) (hr : Rp Γ S f c R) (hk : k < c) : Ct Γ 8 MX7_closestTo 0 0 [.ref ab, .int (nI k)] (HW Γ (ab + 50) F R) n (Rt (some (.int (oI (clF f k c)))) (HW Γ (ab + 50) F R) n) X0 := by
  refine Ct.of (by decide +kernel) rfl (Nat.le_of_ble_eq_true rfl) ?_
  have hc12 := hr.2.1
  refine G.sub (lv2 := [(0, _), (1, _)]) [0, 1] rfl ?_
  refine g_aload_n 0 rfl dX7_closestTo_0 ?_
  refine g_iload_n 1 rfl dX7_closestTo_1 ?_
  refine gv_V (c_X7_requireLodger_ok hC hr hk) l_X7_152 rfl (Rcv.of ((HW_o (by omega)).trans hC) rfl) (Nat.le_of_ble_eq_true rfl) (Nat.le_of_ble_eq_true rfl) rfl dX7_closestTo_2 ?_
  refine g_astore_n (lv2 := [(2, _), (0, _), (1, _)]) (by decide) rfl dX7_closestTo_5 ?_
  refine g_iconst (v := -1) dX7_closestTo_6 (by decide) ?_
  refine g_istore_n (lv2 := [(3, _), (2, _), (0, _), (1, _)]) (by decide) rfl dX7_closestTo_7 ?_
  refine gn_ic 0 (by decide) dX7_closestTo_8 ?_
  refine g_istore (lv2 := [(4, _), (3, _), (2, _), (0, _), (1, _)]) (by decide) rfl dX7_closestTo_9 ?_
  refine gn_ic 0 (by decide) dX7_closestTo_11 ?_
  refine g_istore (lv2 := [(5, _), (4, _), (3, _), (2, _), (0, _), (1, _)]) (by decide) rfl dX7_closestTo_12 ?_
  have L14 : ∀ (m14 : Nat) (i : Nat) (sm : Int32), (i + m14 = c) → (∀ b, clF f k i = some b → sm = dst (rw5 f b) (rw5 f k) 5) → G Γ 8 MX7_closestTo (Rt (some (.int (oI (clF f k c)))) (HW Γ (ab + 50) F R) n) X0 14 [(0, .ref ab), (1, .int (nI k)), (2, .ref (ab + 50 + 6 + 3 * hO R k)), (3, .int (oI (clF f k i))), (4, .int sm), (5, .int (nI i))] [] (HW Γ (ab + 50) F R) n 0 0 := by
    intro m14
    induction m14 with
    | zero =>
      intro i sm hi9 hsm
      refine g_iload 5 rfl dX7_closestTo_14 ?_
      refine g_aload_n 0 rfl dX7_closestTo_16 ?_
      refine g_get f_X7_36 ((HW_o (by omega)).trans hC) rfl dX7_closestTo_17 ?_
      refine g_get f_X7_114 HW_h rfl dX7_closestTo_20 ?_
      refine g_top hr.cnt ?_
      refine gn_icmp_ge (by omega) (by omega) (tgt := 79) (by decide) dX7_closestTo_23 (fun h23 => ?_) (fun h23 => ?_)
      · -- t 79
        obtain rfl : c = i := by omega
        refine g_iload_n 3 rfl dX7_closestTo_79 ?_
        exact g_iret ⟨rfl, rfl, rfl⟩ rfl rfl dX7_closestTo_80
      · -- f 26
        exfalso; omega
    | succ m14 ih14 =>
      intro i sm hi9 hsm
      refine g_iload 5 rfl dX7_closestTo_14 ?_
      refine g_aload_n 0 rfl dX7_closestTo_16 ?_
      refine g_get f_X7_36 ((HW_o (by omega)).trans hC) rfl dX7_closestTo_17 ?_
      refine g_get f_X7_114 HW_h rfl dX7_closestTo_20 ?_
      refine g_top hr.cnt ?_
      refine gn_icmp_ge (by omega) (by omega) (tgt := 79) (by decide) dX7_closestTo_23 (fun h23 => ?_) (fun h23 => ?_)
      · -- t 79
        exfalso; omega
      · -- f 26
        have hic : i < c := by omega
        refine g_aload_n 0 rfl dX7_closestTo_26 ?_
        refine g_get f_X7_36 ((HW_o (by omega)).trans hC) rfl dX7_closestTo_27 ?_
        refine g_get f_X7_208 HW_h rfl dX7_closestTo_30 ?_
        refine g_iload 5 rfl dX7_closestTo_33 ?_
        refine h_aald (by omega) dX7_closestTo_35 ?_
        refine g_get f_X7_164 (HW_l (hr.o12 (by omega))) rfl dX7_closestTo_36 ?_
        refine g_aload_n 2 rfl dX7_closestTo_39 ?_
        refine g_get f_X7_164 (HW_l (hr.o12 (by omega))) rfl dX7_closestTo_40 ?_
        refine gv_V (c_X0_distanceTo (HW_a (hr.o12 hic)) (HW_p (hr.o12 hic)) (HW_a (hr.o12 hk)) (HW_p (hr.o12 hk))) l_X7_200 rfl (Rcv.of (HW_a (hr.o12 (by omega))) rfl) (Nat.le_of_ble_eq_true rfl) (Nat.le_of_ble_eq_true rfl) rfl dX7_closestTo_43 ?_
        refine g_top (y := dst (rw5 f i) (rw5 f k) 5) (hr.ds2 hic hk) ?_
        refine g_istore (lv2 := [(6, _), (0, _), (1, _), (2, _), (3, _), (4, _), (5, _)]) (by decide) rfl dX7_closestTo_46 ?_
        refine g_iload 6 rfl dX7_closestTo_48 ?_
        refine g_iload_n 2 rfl dX7_closestTo_50 ?_
        refine gn_icmp_eq (by omega) (by omega) (tgt := 73) (by decide) dX7_closestTo_51 (fun h51 => ?_) (fun h51 => ?_)
        · -- t 73
          refine gn_inc (lv2 := [(5, _), (6, _), (0, _), (1, _), (2, _), (3, _), (4, _)]) 6 rfl (by decide) rfl dX7_closestTo_73 ?_
          refine g_goto (tgt := 14) (by decide) dX7_closestTo_76 ?_
          refine G.sub [2, 3, 4, 5, 6, 0] rfl ?_
          have h := ih14 (i + 1) sm (by omega) (fun b hb => hsm b (by rw [clF_k h51] at hb; exact hb))
          rw [clF_k h51] at h
          exact h
        · -- f 54
          refine g_iload_n 4 rfl dX7_closestTo_54 ?_
          refine g_iconst (v := -1) dX7_closestTo_55 (by decide) ?_
          refine g_icmp_eq (tgt := 66) (by decide) dX7_closestTo_56 (fun h56 => ?_) (fun h56 => ?_)
          · -- t 66
            refine g_iload 6 rfl dX7_closestTo_66 ?_
            refine g_istore_n (lv2 := [(3, _), (6, _), (0, _), (1, _), (2, _), (4, _), (5, _)]) (by decide) rfl dX7_closestTo_68 ?_
            refine g_iload 1 rfl dX7_closestTo_69 ?_
            refine g_istore (lv2 := [(4, _), (3, _), (6, _), (0, _), (1, _), (2, _), (5, _)]) (by decide) rfl dX7_closestTo_71 ?_
            refine gn_inc (lv2 := [(5, _), (4, _), (3, _), (6, _), (0, _), (1, _), (2, _)]) 6 rfl (by decide) rfl dX7_closestTo_73 ?_
            refine g_goto (tgt := 14) (by decide) dX7_closestTo_76 ?_
            refine G.sub [4, 5, 6, 2, 1, 0] rfl ?_
            have hn := oI_n (by omega) h56
            have h := ih14 (i + 1) (dst (rw5 f i) (rw5 f k) 5) (by omega) (fun b hb => by rw [clF_0 h51 hn] at hb; cases hb; rfl)
            rw [clF_0 h51 hn] at h
            exact h
          · -- f 59
            refine g_iload 0 rfl dX7_closestTo_59 ?_
            refine g_iload 5 rfl dX7_closestTo_61 ?_
            refine g_icmp_ge (tgt := 73) (by decide) dX7_closestTo_63 (fun h63 => ?_) (fun h63 => ?_)
            · -- t 73
              refine gn_inc (lv2 := [(5, _), (6, _), (0, _), (1, _), (2, _), (3, _), (4, _)]) 6 rfl (by decide) rfl dX7_closestTo_73 ?_
              refine g_goto (tgt := 14) (by decide) dX7_closestTo_76 ?_
              refine G.sub [2, 3, 4, 5, 6, 0] rfl ?_
              obtain ⟨b, hb⟩ := oI_s h56
              rw [hsm b hb] at h63
              have h := ih14 (i + 1) sm (by omega) (fun q hq => by rw [clF_f h51 hb (Int32.not_lt.mpr h63)] at hq; exact hsm q (hb.trans hq))
              rw [clF_f h51 hb (Int32.not_lt.mpr h63), ← hb] at h
              exact h
            · -- f 66
              refine g_iload 6 rfl dX7_closestTo_66 ?_
              refine g_istore_n (lv2 := [(3, _), (6, _), (0, _), (1, _), (2, _), (4, _), (5, _)]) (by decide) rfl dX7_closestTo_68 ?_
              refine g_iload 1 rfl dX7_closestTo_69 ?_
              refine g_istore (lv2 := [(4, _), (3, _), (6, _), (0, _), (1, _), (2, _), (5, _)]) (by decide) rfl dX7_closestTo_71 ?_
              refine gn_inc (lv2 := [(5, _), (4, _), (3, _), (6, _), (0, _), (1, _), (2, _)]) 6 rfl (by decide) rfl dX7_closestTo_73 ?_
              refine g_goto (tgt := 14) (by decide) dX7_closestTo_76 ?_
              refine G.sub [4, 5, 6, 2, 1, 0] rfl ?_
              obtain ⟨b, hb⟩ := oI_s h56
              rw [hsm b hb] at h63
              have h63 := Int32.not_le.mp h63
              have h := ih14 (i + 1) (dst (rw5 f i) (rw5 f k) 5) (by omega) (fun q hq => by rw [clF_t h51 hb h63] at hq; cases hq; rfl)
              rw [clF_t h51 hb h63] at h
              exact h
  refine G.sub [4, 5, 3, 2, 1, 0] rfl ?_
  exact L14 c 0 (nI 0) (Nat.zero_add _) (fun b hb => by cases hb)
set_option maxRecDepth 100000 in
set_option maxHeartbeats 4000000 in
theorem c_X7_closestTo_noL {Γ : Gm} {n : Nat} {ab im : Nat} {rk ro : Int32} {F : Hp} {R : Hr} {S : Hp} {f : Nat → Int32} {c : Nat} {x : Int32}  (hC : F ab = some (.inr (10, coF ab im rk ro))) (hr : Rp Γ S f c R) (hx : ¬ (nI 0 ≤ x ∧ x ≤ nI c - nI 1)) : Ct Γ 8 MX7_closestTo 1 6 [.ref ab, .int x] (HW Γ (ab + 50) F R) n PNo (Xe "java/lang/IndexOutOfBoundsException" (HW Γ (ab + 50) F R) n) := by
  refine Ct.of (by decide +kernel) rfl (Nat.le_of_ble_eq_true rfl) ?_
  have hc12 := hr.2.1
  refine G.sub (lv2 := [(0, _), (1, _)]) [0, 1] rfl ?_
  refine g_aload_n 0 rfl dX7_closestTo_0 ?_
  refine g_iload_n 1 rfl dX7_closestTo_1 ?_
  exact g_invV (c_X7_requireLodger_no hC hr hx) l_X7_152 rfl (Rcv.of ((HW_o (by omega)).trans hC) rfl) (Nat.le_of_ble_eq_true rfl) (Nat.le_of_ble_eq_true rfl) rfl dX7_closestTo_2 (fun _ _ _ h => h) (fun _ _ _ h => h.elim)
set_option maxRecDepth 100000 in
set_option maxHeartbeats 4000000 in
theorem c_X7_slipVowel_ok {Γ : Gm} {n : Nat} {ab im : Nat} {rk ro : Int32} {F : Hp} {R : Hr} {S : Hp} {f : Nat → Int32} {c : Nat} {k : Nat} (hC : F ab = some (.inr (10, coF ab im rk ro))) (hr : Rp Γ S f c R) (hk : k < c) : Ct Γ 8 MX7_slipVowel 0 0 [.ref ab, .int (nI k)] (HW Γ (ab + 50) F R) n (fun v E2 n2 => v = some (.int (far (rw5 f k) (fun v => avgF f (f (13 + 16 * k)) v c) 5).1) ∧ n2 = n ∧ ∃ y, E2 = HW Γ (ab + 50) F (sV R y)) X0 := by
  refine Ct.of (by decide +kernel) rfl (Nat.le_of_ble_eq_true rfl) ?_
  have hc12 := hr.2.1
  refine G.sub (lv2 := [(0, _), (1, _)]) [0, 1] rfl ?_
  refine g_aload_n 0 rfl dX7_slipVowel_0 ?_
  refine g_iload_n 1 rfl dX7_slipVowel_1 ?_
  refine gv_V (c_X7_requireLodger_ok hC hr hk) l_X7_152 rfl (Rcv.of ((HW_o (by omega)).trans hC) rfl) (Nat.le_of_ble_eq_true rfl) (Nat.le_of_ble_eq_true rfl) rfl dX7_slipVowel_2 ?_
  refine g_astore_n (lv2 := [(2, _), (0, _), (1, _)]) (by decide) rfl dX7_slipVowel_5 ?_
  refine g_aload_n 1 rfl dX7_slipVowel_6 ?_
  refine g_get f_X7_36 ((HW_o (by omega)).trans hC) rfl dX7_slipVowel_7 ?_
  refine g_aload_n 0 rfl dX7_slipVowel_10 ?_
  refine g_get f_X7_156 (HW_l (hr.o12 (by omega))) rfl dX7_slipVowel_11 ?_
  refine g_top (hr.flo (by omega)) ?_
  refine gx_V0 (c_X2_computeAverage hr) l_X7_215 rfl (Rcv.of HW_h rfl) (Nat.le_of_ble_eq_true rfl) (Nat.le_of_ble_eq_true rfl) rfl dX7_slipVowel_14 (fun _ _ _ h => h.1) (fun E2 n2 hp => ?_)
  obtain ⟨-, hn3, y, rfl, hy⟩ := hp
  have hn4 := hn3.symm
  subst hn4
  have hrv : Rp Γ S f c (sV R y) := hr.sV
  refine g_aload_n 0 rfl dX7_slipVowel_17 ?_
  refine g_get f_X7_164 (HW_l (hrv.o12 (by omega))) rfl dX7_slipVowel_18 ?_
  refine g_aload_n 1 rfl dX7_slipVowel_21 ?_
  refine g_get f_X7_36 ((HW_o (by omega)).trans hC) rfl dX7_slipVowel_22 ?_
  refine g_get f_X7_218 HW_h rfl dX7_slipVowel_25 ?_
  refine gv_V (c_X0_farthestVowel (HW_a (hrv.o12 hk)) (HW_p (hrv.o12 hk)) HW_4 HW_5) l_X7_212 rfl (Rcv.of (HW_a (hrv.o12 hk)) rfl) (Nat.le_of_ble_eq_true rfl) (Nat.le_of_ble_eq_true rfl) rfl dX7_slipVowel_28 ?_
  exact g_iret ⟨by rw [far_c (x := hA (sV R y) (hO (sV R y) k)) (y := hV (sV R y)) (x2 := rw5 f k) (y2 := fun v => avgF f (f (13 + 16 * k)) v c) 5 (fun v hv => hrv.acc hk hv) (fun v hv => hy v hv)], rfl, y, rfl⟩ rfl rfl dX7_slipVowel_31
set_option maxRecDepth 100000 in
set_option maxHeartbeats 4000000 in
theorem c_X7_slipVowel_noL {Γ : Gm} {n : Nat} {ab im : Nat} {rk ro : Int32} {F : Hp} {R : Hr} {S : Hp} {f : Nat → Int32} {c : Nat} {x : Int32}  (hC : F ab = some (.inr (10, coF ab im rk ro))) (hr : Rp Γ S f c R) (hx : ¬ (nI 0 ≤ x ∧ x ≤ nI c - nI 1)) : Ct Γ 8 MX7_slipVowel 1 6 [.ref ab, .int x] (HW Γ (ab + 50) F R) n PNo (Xe "java/lang/IndexOutOfBoundsException" (HW Γ (ab + 50) F R) n) := by
  refine Ct.of (by decide +kernel) rfl (Nat.le_of_ble_eq_true rfl) ?_
  have hc12 := hr.2.1
  refine G.sub (lv2 := [(0, _), (1, _)]) [0, 1] rfl ?_
  refine g_aload_n 0 rfl dX7_slipVowel_0 ?_
  refine g_iload_n 1 rfl dX7_slipVowel_1 ?_
  exact g_invV (c_X7_requireLodger_no hC hr hx) l_X7_152 rfl (Rcv.of ((HW_o (by omega)).trans hC) rfl) (Nat.le_of_ble_eq_true rfl) (Nat.le_of_ble_eq_true rfl) rfl dX7_slipVowel_2 (fun _ _ _ h => h) (fun _ _ _ h => h.elim)
set_option maxRecDepth 100000 in
set_option maxHeartbeats 4000000 in
theorem c_X7_meanDistance {Γ : Gm} {n : Nat} {ab im : Nat} {rk ro : Int32} {F : Hp} {R : Hr} {S : Hp} {f : Nat → Int32} {c : Nat}  (hC : F ab = some (.inr (10, coF ab im rk ro))) (hr : Rp Γ S f c R) (hn : ¬ c = 0 → vf_n64 (FP.ddiv (FP.i2d (sumD f c)) (FP.i2d (nI c)))) : Ct Γ 8 MX7_meanDistance 0 0 [.ref ab] (HW Γ (ab + 50) F R) n (Rt (some (.double (if c = 0 then FP.dconst0 else FP.ddiv (FP.i2d (sumD f c)) (FP.i2d (nI c))))) (HW Γ (ab + 50) F R) n) X0 := by
  refine Ct.of (by decide +kernel) rfl (Nat.le_of_ble_eq_true rfl) ?_
  have hc12 := hr.2.1
  refine G.sub (lv2 := [(0, _)]) [0] rfl ?_
  refine g_aload_n 0 rfl dX7_meanDistance_0 ?_
  refine g_get f_X7_36 ((HW_o (by omega)).trans hC) rfl dX7_meanDistance_1 ?_
  refine g_get f_X7_114 HW_h rfl dX7_meanDistance_4 ?_
  refine g_top hr.cnt ?_
  refine gn_if_ne (by omega) (tgt := 12) (by decide) dX7_meanDistance_7 (fun h7 => ?_) (fun h7 => ?_)
  · -- t 12
    refine gn_ic 0 (by decide) dX7_meanDistance_12 ?_
    refine g_istore_n (lv2 := [(1, _), (0, _)]) (by decide) rfl dX7_meanDistance_13 ?_
    refine gn_ic 0 (by decide) dX7_meanDistance_14 ?_
    refine g_istore_n (lv2 := [(2, _), (1, _), (0, _)]) (by decide) rfl dX7_meanDistance_15 ?_
    have L16 : ∀ (m16 : Nat) (i : Nat), (i + m16 = c) → G Γ 8 MX7_meanDistance (Rt (some (.double (if c = 0 then FP.dconst0 else FP.ddiv (FP.i2d (sumD f c)) (FP.i2d (nI c))))) (HW Γ (ab + 50) F R) n) X0 16 [(0, .ref ab), (1, .int (sumD f i)), (2, .int (nI i))] [] (HW Γ (ab + 50) F R) n 0 0 := by
      intro m16
      induction m16 with
      | zero =>
        intro i hi9
        refine g_iload_n 2 rfl dX7_meanDistance_16 ?_
        refine g_aload_n 0 rfl dX7_meanDistance_17 ?_
        refine g_get f_X7_36 ((HW_o (by omega)).trans hC) rfl dX7_meanDistance_18 ?_
        refine g_get f_X7_114 HW_h rfl dX7_meanDistance_21 ?_
        refine g_top hr.cnt ?_
        refine gn_icmp_ge (by omega) (by omega) (tgt := 58) (by decide) dX7_meanDistance_24 (fun h24 => ?_) (fun h24 => ?_)
        · -- t 58
          obtain rfl : c = i := by omega
          refine g_iload_n 1 rfl dX7_meanDistance_58 ?_
          refine g_i2d dX7_meanDistance_59 ?_
          refine g_aload_n 0 rfl dX7_meanDistance_60 ?_
          refine g_get f_X7_36 ((HW_o (by omega)).trans hC) rfl dX7_meanDistance_61 ?_
          refine g_get f_X7_114 HW_h rfl dX7_meanDistance_64 ?_
          refine g_top hr.cnt ?_
          refine g_i2d dX7_meanDistance_67 ?_
          refine g_ddiv (hn h7) dX7_meanDistance_68 ?_
          exact g_dret ⟨by rw [if_neg h7], rfl, rfl⟩ rfl dX7_meanDistance_69
        · -- f 27
          exfalso; omega
      | succ m16 ih16 =>
        intro i hi9
        refine g_iload_n 2 rfl dX7_meanDistance_16 ?_
        refine g_aload_n 0 rfl dX7_meanDistance_17 ?_
        refine g_get f_X7_36 ((HW_o (by omega)).trans hC) rfl dX7_meanDistance_18 ?_
        refine g_get f_X7_114 HW_h rfl dX7_meanDistance_21 ?_
        refine g_top hr.cnt ?_
        refine gn_icmp_ge (by omega) (by omega) (tgt := 58) (by decide) dX7_meanDistance_24 (fun h24 => ?_) (fun h24 => ?_)
        · -- t 58
          exfalso; omega
        · -- f 27
          have hic : i < c := by omega
          refine g_iload_n 1 rfl dX7_meanDistance_27 ?_
          refine g_aload_n 0 rfl dX7_meanDistance_28 ?_
          refine g_get f_X7_36 ((HW_o (by omega)).trans hC) rfl dX7_meanDistance_29 ?_
          refine g_get f_X7_208 HW_h rfl dX7_meanDistance_32 ?_
          refine g_iload_n 2 rfl dX7_meanDistance_35 ?_
          refine h_aald (by omega) dX7_meanDistance_36 ?_
          refine g_get f_X7_164 (HW_l (hr.o12 (by omega))) rfl dX7_meanDistance_37 ?_
          refine g_aload_n 0 rfl dX7_meanDistance_40 ?_
          refine g_get f_X7_36 ((HW_o (by omega)).trans hC) rfl dX7_meanDistance_41 ?_
          refine g_get f_X7_136 HW_h rfl dX7_meanDistance_44 ?_
          refine gv_V (c_X0_distanceTo (HW_a (hr.o12 hic)) (HW_p (hr.o12 hic)) HW_1 HW_2) l_X7_200 rfl (Rcv.of (HW_a (hr.o12 (by omega))) rfl) (Nat.le_of_ble_eq_true rfl) (Nat.le_of_ble_eq_true rfl) rfl dX7_meanDistance_47 ?_
          refine g_top (y := dst (rw5 f i) (la5 f) 5) (hr.ds1 hic) ?_
          refine g_iadd dX7_meanDistance_50 ?_
          refine g_istore_n (lv2 := [(1, _), (0, _), (2, _)]) (by decide) rfl dX7_meanDistance_51 ?_
          refine gn_inc (lv2 := [(2, _), (1, _), (0, _)]) 2 rfl (by decide) rfl dX7_meanDistance_52 ?_
          refine g_goto (tgt := 16) (by decide) dX7_meanDistance_55 ?_
          refine G.sub [2, 1, 0] rfl ?_
          exact ih16 (i + 1) (by omega)
    refine G.sub [2, 1, 0] rfl ?_
    exact L16 c 0 (Nat.zero_add _)
  · -- f 10
    refine g_dconst0 dX7_meanDistance_10 ?_
    exact g_dret ⟨by rw [if_pos h7], rfl, rfl⟩ rfl dX7_meanDistance_11
set_option maxRecDepth 100000 in
set_option maxHeartbeats 4000000 in
theorem c_X7_rhymingShare {Γ : Gm} {n : Nat} {ab im : Nat} {rk ro : Int32} {F : Hp} {R : Hr} {S : Hp} {f : Nat → Int32} {c : Nat}  (hC : F ab = some (.inr (10, coF ab im rk ro))) (hr : Rp Γ S f c R) (hn : ¬ c = 0 → vf_n32 (FP.fdiv (FP.i2f (nI (cntR f c))) (FP.i2f (nI c)))) : Ct Γ 8 MX7_rhymingShare 0 0 [.ref ab] (HW Γ (ab + 50) F R) n (Rt (some (.float (if c = 0 then FP.fconst0 else FP.fdiv (FP.i2f (nI (cntR f c))) (FP.i2f (nI c))))) (HW Γ (ab + 50) F R) n) X0 := by
  refine Ct.of (by decide +kernel) rfl (Nat.le_of_ble_eq_true rfl) ?_
  have hc12 := hr.2.1
  refine G.sub (lv2 := [(0, _)]) [0] rfl ?_
  refine g_aload_n 0 rfl dX7_rhymingShare_0 ?_
  refine g_get f_X7_36 ((HW_o (by omega)).trans hC) rfl dX7_rhymingShare_1 ?_
  refine g_get f_X7_114 HW_h rfl dX7_rhymingShare_4 ?_
  refine g_top hr.cnt ?_
  refine gn_if_ne (by omega) (tgt := 12) (by decide) dX7_rhymingShare_7 (fun h7 => ?_) (fun h7 => ?_)
  · -- t 12
    refine gn_ic 0 (by decide) dX7_rhymingShare_12 ?_
    refine g_istore_n (lv2 := [(1, _), (0, _)]) (by decide) rfl dX7_rhymingShare_13 ?_
    refine gn_ic 0 (by decide) dX7_rhymingShare_14 ?_
    refine g_istore_n (lv2 := [(2, _), (1, _), (0, _)]) (by decide) rfl dX7_rhymingShare_15 ?_
    have L16 : ∀ (m16 : Nat) (i : Nat), (i + m16 = c) → G Γ 8 MX7_rhymingShare (Rt (some (.float (if c = 0 then FP.fconst0 else FP.fdiv (FP.i2f (nI (cntR f c))) (FP.i2f (nI c))))) (HW Γ (ab + 50) F R) n) X0 16 [(0, .ref ab), (1, .int (nI (cntR f i))), (2, .int (nI i))] [] (HW Γ (ab + 50) F R) n 0 0 := by
      intro m16
      induction m16 with
      | zero =>
        intro i hi9
        refine g_iload_n 2 rfl dX7_rhymingShare_16 ?_
        refine g_aload_n 0 rfl dX7_rhymingShare_17 ?_
        refine g_get f_X7_36 ((HW_o (by omega)).trans hC) rfl dX7_rhymingShare_18 ?_
        refine g_get f_X7_114 HW_h rfl dX7_rhymingShare_21 ?_
        refine g_top hr.cnt ?_
        refine gn_icmp_ge (by omega) (by omega) (tgt := 61) (by decide) dX7_rhymingShare_24 (fun h24 => ?_) (fun h24 => ?_)
        · -- t 61
          obtain rfl : c = i := by omega
          refine g_iload_n 1 rfl dX7_rhymingShare_61 ?_
          refine g_i2f dX7_rhymingShare_62 ?_
          refine g_aload_n 0 rfl dX7_rhymingShare_63 ?_
          refine g_get f_X7_36 ((HW_o (by omega)).trans hC) rfl dX7_rhymingShare_64 ?_
          refine g_get f_X7_114 HW_h rfl dX7_rhymingShare_67 ?_
          refine g_top hr.cnt ?_
          refine g_i2f dX7_rhymingShare_70 ?_
          refine g_fdiv (hn h7) dX7_rhymingShare_71 ?_
          exact g_fret ⟨by rw [if_neg h7], rfl, rfl⟩ rfl dX7_rhymingShare_72
        · -- f 27
          exfalso; omega
      | succ m16 ih16 =>
        intro i hi9
        have hle := cntR_le f i
        refine g_iload_n 2 rfl dX7_rhymingShare_16 ?_
        refine g_aload_n 0 rfl dX7_rhymingShare_17 ?_
        refine g_get f_X7_36 ((HW_o (by omega)).trans hC) rfl dX7_rhymingShare_18 ?_
        refine g_get f_X7_114 HW_h rfl dX7_rhymingShare_21 ?_
        refine g_top hr.cnt ?_
        refine gn_icmp_ge (by omega) (by omega) (tgt := 61) (by decide) dX7_rhymingShare_24 (fun h24 => ?_) (fun h24 => ?_)
        · -- t 61
          exfalso; omega
        · -- f 27
          have hic : i < c := by omega
          refine g_aload_n 0 rfl dX7_rhymingShare_27 ?_
          refine g_get f_X7_36 ((HW_o (by omega)).trans hC) rfl dX7_rhymingShare_28 ?_
          refine g_get f_X7_208 HW_h rfl dX7_rhymingShare_31 ?_
          refine g_iload_n 2 rfl dX7_rhymingShare_34 ?_
          refine h_aald (by omega) dX7_rhymingShare_35 ?_
          refine g_get f_X7_164 (HW_l (hr.o12 (by omega))) rfl dX7_rhymingShare_36 ?_
          refine g_aload_n 0 rfl dX7_rhymingShare_39 ?_
          refine g_get f_X7_36 ((HW_o (by omega)).trans hC) rfl dX7_rhymingShare_40 ?_
          refine g_get f_X7_136 HW_h rfl dX7_rhymingShare_43 ?_
          refine gv_V (c_X0_rhymesWith (HW_a (hr.o12 hic)) (HW_p (hr.o12 hic)) HW_1 HW_2) l_X7_204 rfl (Rcv.of (HW_a (hr.o12 (by omega))) rfl) (Nat.le_of_ble_eq_true rfl) (Nat.le_of_ble_eq_true rfl) rfl dX7_rhymingShare_46 ?_
          refine g_top (y := bi (dif (rw5 f i) (la5 f) 5 ≤ 1)) (by simp only [hr.di1 hic]) ?_
          refine g_if_eq (tgt := 55) (by decide) dX7_rhymingShare_49 (fun h49 => ?_) (fun h49 => ?_)
          · -- t 55
            refine gn_inc (lv2 := [(2, _), (0, _), (1, _)]) 2 rfl (by decide) rfl dX7_rhymingShare_55 ?_
            refine g_goto (tgt := 16) (by decide) dX7_rhymingShare_58 ?_
            refine G.sub [1, 2, 0] rfl ?_
            have h := ih16 (i + 1) (by omega)
            rw [show cntR f (i + 1) = cntR f i by rw [cntR, if_neg (bi_0 h49)]; rfl] at h
            exact h
          · -- f 52
            refine gn_inc (lv2 := [(1, _), (0, _), (2, _)]) 1 rfl (by decide) rfl dX7_rhymingShare_52 ?_
            refine gn_inc (lv2 := [(2, _), (1, _), (0, _)]) 2 rfl (by decide) rfl dX7_rhymingShare_55 ?_
            refine g_goto (tgt := 16) (by decide) dX7_rhymingShare_58 ?_
            refine G.sub [2, 1, 0] rfl ?_
            have h := ih16 (i + 1) (by omega)
            rw [show cntR f (i + 1) = cntR f i + 1 by rw [cntR, if_pos (bi_n0 h49)]] at h
            exact h
    refine G.sub [2, 1, 0] rfl ?_
    exact L16 c 0 (Nat.zero_add _)
  · -- f 10
    refine g_fconst0 dX7_rhymingShare_10 ?_
    exact g_fret ⟨by rw [if_pos h7], rfl, rfl⟩ rfl dX7_rhymingShare_11
def sumB (f : Nat → Int32) : Nat → Int32
  | 0 => nI 0
  | k + 1 => sumB f k + f (13 + 16 * k + 1)
theorem sumB_ld {f : Nat → Int32} : ∀ c, sumB f c + f 12 - f 10 + f 11 = ldN f c
  | 0 => by show nI 0 + f 12 - f 10 + f 11 = f 12 - f 10 + f 11; rw [show nI 0 = (0 : Int32) from rfl, Int32.zero_add]
  | k + 1 => by
    show sumB f k + f (13 + 16 * k + 1) + f 12 - f 10 + f 11 = ldN f k + f (13 + 16 * k + 1)
    rw [← sumB_ld k]
    simp only [Int32.sub_eq_add_neg]
    ac_rfl
set_option maxRecDepth 100000 in
set_option maxHeartbeats 4000000 in
theorem c_X7_ledgerDifference {Γ : Gm} {n : Nat} {ab im : Nat} {rk ro : Int32} {F : Hp} {R : Hr} {S : Hp} {f : Nat → Int32} {c : Nat}  (hC : F ab = some (.inr (10, coF ab im rk ro))) (hr : Rp Γ S f c R)  : Ct Γ 2 MX7_ledgerDifference 0 0 [.ref ab] (HW Γ (ab + 50) F R) n (Rt (some (.int (ldN f c))) (HW Γ (ab + 50) F R) n) X0 := by
  refine Ct.of (by decide +kernel) rfl (Nat.le_of_ble_eq_true rfl) ?_
  have hc12 := hr.2.1
  refine G.sub (lv2 := [(0, _)]) [0] rfl ?_
  refine gn_ic 0 (by decide) dX7_ledgerDifference_0 ?_
  refine g_istore_n (lv2 := [(1, _), (0, _)]) (by decide) rfl dX7_ledgerDifference_1 ?_
  refine gn_ic 0 (by decide) dX7_ledgerDifference_2 ?_
  refine g_istore_n (lv2 := [(2, _), (1, _), (0, _)]) (by decide) rfl dX7_ledgerDifference_3 ?_
  have L4 : ∀ (m4 : Nat) (i : Nat), (i + m4 = c) → G Γ 2 MX7_ledgerDifference (Rt (some (.int (ldN f c))) (HW Γ (ab + 50) F R) n) X0 4 [(0, .ref ab), (1, .int (sumB f i)), (2, .int (nI i))] [] (HW Γ (ab + 50) F R) n 0 0 := by
    intro m4
    induction m4 with
    | zero =>
      intro i hi9
      refine g_iload_n 2 rfl dX7_ledgerDifference_4 ?_
      refine g_aload_n 0 rfl dX7_ledgerDifference_5 ?_
      refine g_get f_X7_36 ((HW_o (by omega)).trans hC) rfl dX7_ledgerDifference_6 ?_
      refine g_get f_X7_114 HW_h rfl dX7_ledgerDifference_9 ?_
      refine g_top hr.cnt ?_
      refine gn_icmp_ge (by omega) (by omega) (tgt := 36) (by decide) dX7_ledgerDifference_12 (fun h12 => ?_) (fun h12 => ?_)
      · -- t 36
        obtain rfl : c = i := by omega
        refine g_iload_n 1 rfl dX7_ledgerDifference_36 ?_
        refine g_aload_n 0 rfl dX7_ledgerDifference_37 ?_
        refine g_get f_X7_36 ((HW_o (by omega)).trans hC) rfl dX7_ledgerDifference_38 ?_
        refine g_get f_X7_255 HW_h rfl dX7_ledgerDifference_41 ?_
        refine g_top (hr.d (j := 12) (by decide) (by decide)) ?_
        refine g_iadd dX7_ledgerDifference_44 ?_
        refine g_aload_n 0 rfl dX7_ledgerDifference_45 ?_
        refine g_get f_X7_36 ((HW_o (by omega)).trans hC) rfl dX7_ledgerDifference_46 ?_
        refine g_get f_X7_249 HW_h rfl dX7_ledgerDifference_49 ?_
        refine g_top (hr.d (j := 10) (by decide) (by decide)) ?_
        refine g_isub dX7_ledgerDifference_52 ?_
        refine g_aload_n 0 rfl dX7_ledgerDifference_53 ?_
        refine g_get f_X7_36 ((HW_o (by omega)).trans hC) rfl dX7_ledgerDifference_54 ?_
        refine g_get f_X7_252 HW_h rfl dX7_ledgerDifference_57 ?_
        refine g_top (hr.d (j := 11) (by decide) (by decide)) ?_
        refine g_iadd dX7_ledgerDifference_60 ?_
        exact g_iret ⟨by rw [← sumB_ld], rfl, rfl⟩ rfl rfl dX7_ledgerDifference_61
      · -- f 15
        exfalso; omega
    | succ m4 ih4 =>
      intro i hi9
      refine g_iload_n 2 rfl dX7_ledgerDifference_4 ?_
      refine g_aload_n 0 rfl dX7_ledgerDifference_5 ?_
      refine g_get f_X7_36 ((HW_o (by omega)).trans hC) rfl dX7_ledgerDifference_6 ?_
      refine g_get f_X7_114 HW_h rfl dX7_ledgerDifference_9 ?_
      refine g_top hr.cnt ?_
      refine gn_icmp_ge (by omega) (by omega) (tgt := 36) (by decide) dX7_ledgerDifference_12 (fun h12 => ?_) (fun h12 => ?_)
      · -- t 36
        exfalso; omega
      · -- f 15
        have hic : i < c := by omega
        refine g_iload_n 1 rfl dX7_ledgerDifference_15 ?_
        refine g_aload_n 0 rfl dX7_ledgerDifference_16 ?_
        refine g_get f_X7_36 ((HW_o (by omega)).trans hC) rfl dX7_ledgerDifference_17 ?_
        refine g_get f_X7_208 HW_h rfl dX7_ledgerDifference_20 ?_
        refine g_iload_n 2 rfl dX7_ledgerDifference_23 ?_
        refine h_aald (by omega) dX7_ledgerDifference_24 ?_
        refine g_get f_X7_161 (HW_l (hr.o12 (by omega))) rfl dX7_ledgerDifference_25 ?_
        refine g_top (hr.row (i := 1) (by omega) (by decide)) ?_
        refine g_iadd dX7_ledgerDifference_28 ?_
        refine g_istore_n (lv2 := [(1, _), (0, _), (2, _)]) (by decide) rfl dX7_ledgerDifference_29 ?_
        refine gn_inc (lv2 := [(2, _), (1, _), (0, _)]) 2 rfl (by decide) rfl dX7_ledgerDifference_30 ?_
        refine g_goto (tgt := 4) (by decide) dX7_ledgerDifference_33 ?_
        refine G.sub [2, 1, 0] rfl ?_
        exact ih4 (i + 1) (by omega)
  refine G.sub [2, 1, 0] rfl ?_
  exact L4 c 0 (Nat.zero_add _)
end GJ23
