section GJ27
theorem lod_in34 {x : Int32} {c : Nat} (hc : c ≤ 34) (h0 : ¬ x < 0) (hl : x < nI c) : nI 0 ≤ x ∧ x ≤ nI c - nI 1 := by
  obtain ⟨q, hq, rfl⟩ := nI_of h0
  have h := (nI_ltI hq (by omega)).mp hl
  rw [pk_sub (by omega)]
  exact ⟨nI_le (by omega) (by omega), nI_le (by omega) (by omega)⟩
set_option maxRecDepth 100000 in
set_option maxHeartbeats 4000000 in
theorem c_X7_advance_noR {Γ : Gm} {n : Nat} {ab im : Nat} {rk ro : Int32} {F : Hp} {R : Hr} {x : Int32} (hC : F ab = some (.inr (10, coF ab im rk ro))) (hx : ¬ (nI 1 ≤ x ∧ x ≤ nI 100)) : Ct Γ 8 MX7_advance 1 6 [.ref ab, .int x] (HW Γ (ab + 50) F R) n PNo (Xe "java/lang/IllegalArgumentException" (HW Γ (ab + 50) F R) n) := by
  refine Ct.of (by decide +kernel) rfl (Nat.le_of_ble_eq_true rfl) ?_
  refine G.sub (lv2 := [(0, _), (1, _)]) [0, 1] rfl ?_
  refine g_aload_n 0 rfl dX7_advance_0 ?_
  refine g_iload_n 1 rfl dX7_advance_1 ?_
  refine gn_ic 1 (by decide) dX7_advance_2 ?_
  refine gn_bp 100 (by decide) dX7_advance_3 ?_
  exact g_invV (c_X7_requireRange_no hC hx) l_X7_225 rfl (Rcv.of ((HW_o (by omega)).trans hC) rfl) (Nat.le_of_ble_eq_true rfl) (Nat.le_of_ble_eq_true rfl) rfl dX7_advance_5 (fun _ _ _ h => h) (fun _ _ _ h => h.elim)
set_option maxRecDepth 100000 in
set_option maxHeartbeats 4000000 in
theorem c_X7_advance_noD {Γ : Gm} {n : Nat} {ab im : Nat} {rk ro : Int32} {F : Hp} {R : Hr} {S : Hp} {f : Nat → Int32} {c : Nat} {t : Nat} (hC : F ab = some (.inr (10, coF ab im rk ro))) (hr : Rp Γ S f c R) (ht1 : 1 ≤ t) (ht2 : t ≤ 100) (h9 : ¬ f 8 + nI t ≤ nI 9999) : Ct Γ 8 MX7_advance 1 6 [.ref ab, .int (nI t)] (HW Γ (ab + 50) F R) n PNo (Xe "java/lang/IllegalStateException" (HW Γ (ab + 50) F R) n) := by
  refine Ct.of (by decide +kernel) rfl (Nat.le_of_ble_eq_true rfl) ?_
  have hc12 := hr.2.1
  refine G.sub (lv2 := [(0, _), (1, _)]) [0, 1] rfl ?_
  refine g_aload_n 0 rfl dX7_advance_0 ?_
  refine g_iload_n 1 rfl dX7_advance_1 ?_
  refine gn_ic 1 (by decide) dX7_advance_2 ?_
  refine gn_bp 100 (by decide) dX7_advance_3 ?_
  refine gu_V (c_X7_requireRange_ok (lo := 1) (ub := 100) hC ht1 ht2 (by decide)) l_X7_225 rfl (Rcv.of ((HW_o (by omega)).trans hC) rfl) (Nat.le_of_ble_eq_true rfl) (Nat.le_of_ble_eq_true rfl) rfl dX7_advance_5 ?_
  refine g_aload_n 0 rfl dX7_advance_8 ?_
  refine g_get f_X7_36 ((HW_o (by omega)).trans hC) rfl dX7_advance_9 ?_
  refine g_get f_X7_117 HW_h rfl dX7_advance_12 ?_
  refine g_top (hr.d (j := 8) (by decide) (by decide)) ?_
  refine g_iload_n 1 rfl dX7_advance_15 ?_
  refine g_iadd dX7_advance_16 ?_
  refine gn_sp 9999 (by decide) dX7_advance_17 ?_
  refine g_icmp_le (tgt := 34) (by decide) dX7_advance_20 (fun h20 => ?_) (fun h20 => ?_)
  · -- t 34
    exact absurd h20 h9
  · -- f 23
    exact g_throw ⟨rfl, rfl, rfl⟩ (thr_X7_advance_23 (by decide)) (Nat.le_of_ble_eq_true rfl) (by decide) (by decide)
set_option maxRecDepth 100000 in
set_option maxHeartbeats 4000000 in
theorem c_X7_moveIn_noF {Γ : Gm} {n : Nat} {ab im : Nat} {rk ro : Int32} {F : Hp} {R : Hr} {x y z : Int32} (hC : F ab = some (.inr (10, coF ab im rk ro))) (hx : ¬ (nI 0 ≤ x ∧ x ≤ nI 4)) : Ct Γ 8 MX7_moveIn 1 6 [.ref ab, .int x, .int y, .int z] (HW Γ (ab + 50) F R) n PNo (Xe "java/lang/IllegalArgumentException" (HW Γ (ab + 50) F R) n) := by
  refine Ct.of (by decide +kernel) rfl (Nat.le_of_ble_eq_true rfl) ?_
  refine G.sub (lv2 := [(0, _), (1, _), (2, _), (3, _)]) [0, 1, 2, 3] rfl ?_
  refine g_aload_n 0 rfl dX7_moveIn_0 ?_
  refine g_iload_n 1 rfl dX7_moveIn_1 ?_
  refine gn_ic 0 (by decide) dX7_moveIn_2 ?_
  refine gn_ic 4 (by decide) dX7_moveIn_3 ?_
  exact g_invV (c_X7_requireRange_no hC hx) l_X7_225 rfl (Rcv.of ((HW_o (by omega)).trans hC) rfl) (Nat.le_of_ble_eq_true rfl) (Nat.le_of_ble_eq_true rfl) rfl dX7_moveIn_4 (fun _ _ _ h => h) (fun _ _ _ h => h.elim)
set_option maxRecDepth 100000 in
set_option maxHeartbeats 4000000 in
theorem c_X7_moveIn_noP {Γ : Gm} {n : Nat} {ab im : Nat} {rk ro : Int32} {F : Hp} {R : Hr} {φ : Nat} {x y : Int32} (hC : F ab = some (.inr (10, coF ab im rk ro))) (hφ : φ < 5) (hx : ¬ (nI 0 ≤ x ∧ x ≤ nI 999)) : Ct Γ 8 MX7_moveIn 1 6 [.ref ab, .int (nI φ), .int x, .int y] (HW Γ (ab + 50) F R) n PNo (Xe "java/lang/IllegalArgumentException" (HW Γ (ab + 50) F R) n) := by
  refine Ct.of (by decide +kernel) rfl (Nat.le_of_ble_eq_true rfl) ?_
  refine G.sub (lv2 := [(0, _), (1, _), (2, _), (3, _)]) [0, 1, 2, 3] rfl ?_
  refine g_aload_n 0 rfl dX7_moveIn_0 ?_
  refine g_iload_n 1 rfl dX7_moveIn_1 ?_
  refine gn_ic 0 (by decide) dX7_moveIn_2 ?_
  refine gn_ic 4 (by decide) dX7_moveIn_3 ?_
  refine gu_V (c_X7_requireRange_ok (lo := 0) (ub := 4) hC (Nat.zero_le _) (by omega) (by decide)) l_X7_225 rfl (Rcv.of ((HW_o (by omega)).trans hC) rfl) (Nat.le_of_ble_eq_true rfl) (Nat.le_of_ble_eq_true rfl) rfl dX7_moveIn_4 ?_
  refine g_aload_n 0 rfl dX7_moveIn_7 ?_
  refine g_iload_n 2 rfl dX7_moveIn_8 ?_
  refine gn_ic 0 (by decide) dX7_moveIn_9 ?_
  refine gn_sp 999 (by decide) dX7_moveIn_10 ?_
  exact g_invV (c_X7_requireRange_no hC hx) l_X7_225 rfl (Rcv.of ((HW_o (by omega)).trans hC) rfl) (Nat.le_of_ble_eq_true rfl) (Nat.le_of_ble_eq_true rfl) rfl dX7_moveIn_13 (fun _ _ _ h => h) (fun _ _ _ h => h.elim)
set_option maxRecDepth 100000 in
set_option maxHeartbeats 4000000 in
theorem c_X7_moveIn_noA {Γ : Gm} {n : Nat} {ab im : Nat} {rk ro : Int32} {F : Hp} {R : Hr} {φ p : Nat} {x : Int32} (hC : F ab = some (.inr (10, coF ab im rk ro))) (hφ : φ < 5) (hp9 : p ≤ 999) (hx : ¬ (nI 0 ≤ x ∧ x ≤ nI 99999)) : Ct Γ 8 MX7_moveIn 1 6 [.ref ab, .int (nI φ), .int (nI p), .int x] (HW Γ (ab + 50) F R) n PNo (Xe "java/lang/IllegalArgumentException" (HW Γ (ab + 50) F R) n) := by
  refine Ct.of (by decide +kernel) rfl (Nat.le_of_ble_eq_true rfl) ?_
  refine G.sub (lv2 := [(0, _), (1, _), (2, _), (3, _)]) [0, 1, 2, 3] rfl ?_
  refine g_aload_n 0 rfl dX7_moveIn_0 ?_
  refine g_iload_n 1 rfl dX7_moveIn_1 ?_
  refine gn_ic 0 (by decide) dX7_moveIn_2 ?_
  refine gn_ic 4 (by decide) dX7_moveIn_3 ?_
  refine gu_V (c_X7_requireRange_ok (lo := 0) (ub := 4) hC (Nat.zero_le _) (by omega) (by decide)) l_X7_225 rfl (Rcv.of ((HW_o (by omega)).trans hC) rfl) (Nat.le_of_ble_eq_true rfl) (Nat.le_of_ble_eq_true rfl) rfl dX7_moveIn_4 ?_
  refine g_aload_n 0 rfl dX7_moveIn_7 ?_
  refine g_iload_n 2 rfl dX7_moveIn_8 ?_
  refine gn_ic 0 (by decide) dX7_moveIn_9 ?_
  refine gn_sp 999 (by decide) dX7_moveIn_10 ?_
  refine gu_V (c_X7_requireRange_ok (lo := 0) (ub := 999) hC (Nat.zero_le _) hp9 (by decide)) l_X7_225 rfl (Rcv.of ((HW_o (by omega)).trans hC) rfl) (Nat.le_of_ble_eq_true rfl) (Nat.le_of_ble_eq_true rfl) rfl dX7_moveIn_13 ?_
  refine g_aload_n 0 rfl dX7_moveIn_16 ?_
  refine g_iload_n 3 rfl dX7_moveIn_17 ?_
  refine gn_ic 0 (by decide) dX7_moveIn_18 ?_
  refine gn_ldcw (wl_5 59 rfl rfl) dX7_moveIn_19 ?_
  exact g_invV (c_X7_requireRange_no hC hx) l_X7_225 rfl (Rcv.of ((HW_o (by omega)).trans hC) rfl) (Nat.le_of_ble_eq_true rfl) (Nat.le_of_ble_eq_true rfl) rfl dX7_moveIn_22 (fun _ _ _ h => h) (fun _ _ _ h => h.elim)
set_option maxRecDepth 100000 in
set_option maxHeartbeats 4000000 in
theorem c_X7_moveIn_noC {Γ : Gm} {n : Nat} {ab im : Nat} {rk ro : Int32} {F : Hp} {R : Hr} {S : Hp} {f : Nat → Int32} {c : Nat} {φ p a : Nat} (hC : F ab = some (.inr (10, coF ab im rk ro))) (hr : Rp Γ S f c R) (hφ : φ < 5) (hp9 : p ≤ 999) (ha9 : a ≤ 99999) (hcl : ¬ c < 12) : Ct Γ 8 MX7_moveIn 1 6 [.ref ab, .int (nI φ), .int (nI p), .int (nI a)] (HW Γ (ab + 50) F R) n PNo (Xe "java/lang/IllegalStateException" (HW Γ (ab + 50) F R) n) := by
  refine Ct.of (by decide +kernel) rfl (Nat.le_of_ble_eq_true rfl) ?_
  have hc12 := hr.2.1
  refine G.sub (lv2 := [(0, _), (1, _), (2, _), (3, _)]) [0, 1, 2, 3] rfl ?_
  refine g_aload_n 0 rfl dX7_moveIn_0 ?_
  refine g_iload_n 1 rfl dX7_moveIn_1 ?_
  refine gn_ic 0 (by decide) dX7_moveIn_2 ?_
  refine gn_ic 4 (by decide) dX7_moveIn_3 ?_
  refine gu_V (c_X7_requireRange_ok (lo := 0) (ub := 4) hC (Nat.zero_le _) (by omega) (by decide)) l_X7_225 rfl (Rcv.of ((HW_o (by omega)).trans hC) rfl) (Nat.le_of_ble_eq_true rfl) (Nat.le_of_ble_eq_true rfl) rfl dX7_moveIn_4 ?_
  refine g_aload_n 0 rfl dX7_moveIn_7 ?_
  refine g_iload_n 2 rfl dX7_moveIn_8 ?_
  refine gn_ic 0 (by decide) dX7_moveIn_9 ?_
  refine gn_sp 999 (by decide) dX7_moveIn_10 ?_
  refine gu_V (c_X7_requireRange_ok (lo := 0) (ub := 999) hC (Nat.zero_le _) hp9 (by decide)) l_X7_225 rfl (Rcv.of ((HW_o (by omega)).trans hC) rfl) (Nat.le_of_ble_eq_true rfl) (Nat.le_of_ble_eq_true rfl) rfl dX7_moveIn_13 ?_
  refine g_aload_n 0 rfl dX7_moveIn_16 ?_
  refine g_iload_n 3 rfl dX7_moveIn_17 ?_
  refine gn_ic 0 (by decide) dX7_moveIn_18 ?_
  refine gn_ldcw (wl_5 59 rfl rfl) dX7_moveIn_19 ?_
  refine gu_V (c_X7_requireRange_ok (lo := 0) (ub := 99999) hC (Nat.zero_le _) ha9 (by decide)) l_X7_225 rfl (Rcv.of ((HW_o (by omega)).trans hC) rfl) (Nat.le_of_ble_eq_true rfl) (Nat.le_of_ble_eq_true rfl) rfl dX7_moveIn_22 ?_
  refine g_aload_n 0 rfl dX7_moveIn_25 ?_
  refine g_get f_X7_36 ((HW_o (by omega)).trans hC) rfl dX7_moveIn_26 ?_
  refine g_get f_X7_114 HW_h rfl dX7_moveIn_29 ?_
  refine g_top hr.cnt ?_
  refine gn_bp 12 (by decide) dX7_moveIn_32 ?_
  refine gn_icmp_lt (by omega) (by omega) (tgt := 48) (by decide) dX7_moveIn_34 (fun cc1 => ?_) (fun cc1 => ?_)
  · -- t 48
    exfalso; omega
  · -- f 37
    exact g_throw ⟨rfl, rfl, rfl⟩ (thr_X7_moveIn_37 (by decide)) (Nat.le_of_ble_eq_true rfl) (by decide) (by decide)
set_option maxRecDepth 100000 in
set_option maxHeartbeats 4000000 in
theorem c_X7_moveIn_noS {Γ : Gm} {n : Nat} {ab im : Nat} {rk ro : Int32} {F : Hp} {R : Hr} {S : Hp} {f : Nat → Int32} {c : Nat} {φ p a : Nat} (hC : F ab = some (.inr (10, coF ab im rk ro))) (hr : Rp Γ S f c R) (hφ : φ < 5) (hp9 : p ≤ 999) (ha9 : a ≤ 99999) (hcl : c < 12) (hf4 : 4 ≤ cntOn f (nI φ) (-1) c) : Ct Γ 8 MX7_moveIn 1 6 [.ref ab, .int (nI φ), .int (nI p), .int (nI a)] (HW Γ (ab + 50) F R) n PNo (Xe "java/lang/IllegalStateException" (HW Γ (ab + 50) F R) n) := by
  refine Ct.of (by decide +kernel) rfl (Nat.le_of_ble_eq_true rfl) ?_
  have hc12 := hr.2.1
  refine G.sub (lv2 := [(0, _), (1, _), (2, _), (3, _)]) [0, 1, 2, 3] rfl ?_
  refine g_aload_n 0 rfl dX7_moveIn_0 ?_
  refine g_iload_n 1 rfl dX7_moveIn_1 ?_
  refine gn_ic 0 (by decide) dX7_moveIn_2 ?_
  refine gn_ic 4 (by decide) dX7_moveIn_3 ?_
  refine gu_V (c_X7_requireRange_ok (lo := 0) (ub := 4) hC (Nat.zero_le _) (by omega) (by decide)) l_X7_225 rfl (Rcv.of ((HW_o (by omega)).trans hC) rfl) (Nat.le_of_ble_eq_true rfl) (Nat.le_of_ble_eq_true rfl) rfl dX7_moveIn_4 ?_
  refine g_aload_n 0 rfl dX7_moveIn_7 ?_
  refine g_iload_n 2 rfl dX7_moveIn_8 ?_
  refine gn_ic 0 (by decide) dX7_moveIn_9 ?_
  refine gn_sp 999 (by decide) dX7_moveIn_10 ?_
  refine gu_V (c_X7_requireRange_ok (lo := 0) (ub := 999) hC (Nat.zero_le _) hp9 (by decide)) l_X7_225 rfl (Rcv.of ((HW_o (by omega)).trans hC) rfl) (Nat.le_of_ble_eq_true rfl) (Nat.le_of_ble_eq_true rfl) rfl dX7_moveIn_13 ?_
  refine g_aload_n 0 rfl dX7_moveIn_16 ?_
  refine g_iload_n 3 rfl dX7_moveIn_17 ?_
  refine gn_ic 0 (by decide) dX7_moveIn_18 ?_
  refine gn_ldcw (wl_5 59 rfl rfl) dX7_moveIn_19 ?_
  refine gu_V (c_X7_requireRange_ok (lo := 0) (ub := 99999) hC (Nat.zero_le _) ha9 (by decide)) l_X7_225 rfl (Rcv.of ((HW_o (by omega)).trans hC) rfl) (Nat.le_of_ble_eq_true rfl) (Nat.le_of_ble_eq_true rfl) rfl dX7_moveIn_22 ?_
  refine g_aload_n 0 rfl dX7_moveIn_25 ?_
  refine g_get f_X7_36 ((HW_o (by omega)).trans hC) rfl dX7_moveIn_26 ?_
  refine g_get f_X7_114 HW_h rfl dX7_moveIn_29 ?_
  refine g_top hr.cnt ?_
  refine gn_bp 12 (by decide) dX7_moveIn_32 ?_
  refine gn_icmp_lt (by omega) (by omega) (tgt := 48) (by decide) dX7_moveIn_34 (fun cc1 => ?_) (fun cc1 => ?_)
  · -- t 48
    refine g_aload_n 0 rfl dX7_moveIn_48 ?_
    refine g_iload_n 1 rfl dX7_moveIn_49 ?_
    refine g_null dX7_moveIn_50 ?_
    exact g_invV (c_X7_requirePlace_0no hC hr hf4) l_X7_266 rfl (Rcv.of ((HW_o (by omega)).trans hC) rfl) (Nat.le_of_ble_eq_true rfl) (Nat.le_of_ble_eq_true rfl) rfl dX7_moveIn_51 (fun _ _ _ h => h) (fun _ _ _ h => h.elim)
  · -- f 37
    exfalso; omega
set_option maxRecDepth 100000 in
set_option maxHeartbeats 4000000 in
theorem c_X7_moveOut_noL {Γ : Gm} {n : Nat} {ab im : Nat} {rk ro : Int32} {F : Hp} {R : Hr} {S : Hp} {f : Nat → Int32} {c : Nat} {x : Int32}  (hC : F ab = some (.inr (10, coF ab im rk ro))) (hr : Rp Γ S f c R) (hx : ¬ (nI 0 ≤ x ∧ x ≤ nI c - nI 1)) : Ct Γ 8 MX7_moveOut 1 6 [.ref ab, .int x] (HW Γ (ab + 50) F R) n PNo (Xe "java/lang/IndexOutOfBoundsException" (HW Γ (ab + 50) F R) n) := by
  refine Ct.of (by decide +kernel) rfl (Nat.le_of_ble_eq_true rfl) ?_
  have hc12 := hr.2.1
  refine G.sub (lv2 := [(0, _), (1, _)]) [0, 1] rfl ?_
  refine g_aload_n 0 rfl dX7_moveOut_0 ?_
  refine g_iload_n 1 rfl dX7_moveOut_1 ?_
  exact g_invV (c_X7_requireLodger_no hC hr hx) l_X7_152 rfl (Rcv.of ((HW_o (by omega)).trans hC) rfl) (Nat.le_of_ble_eq_true rfl) (Nat.le_of_ble_eq_true rfl) rfl dX7_moveOut_2 (fun _ _ _ h => h) (fun _ _ _ h => h.elim)
set_option maxRecDepth 100000 in
set_option maxHeartbeats 4000000 in
theorem c_X7_moveTo_noL {Γ : Gm} {n : Nat} {ab im : Nat} {rk ro : Int32} {F : Hp} {R : Hr} {S : Hp} {f : Nat → Int32} {c : Nat} {x : Int32} {y : Int32} (hC : F ab = some (.inr (10, coF ab im rk ro))) (hr : Rp Γ S f c R) (hx : ¬ (nI 0 ≤ x ∧ x ≤ nI c - nI 1)) : Ct Γ 8 MX7_moveTo 1 6 [.ref ab, .int x, .int y] (HW Γ (ab + 50) F R) n PNo (Xe "java/lang/IndexOutOfBoundsException" (HW Γ (ab + 50) F R) n) := by
  refine Ct.of (by decide +kernel) rfl (Nat.le_of_ble_eq_true rfl) ?_
  have hc12 := hr.2.1
  refine G.sub (lv2 := [(0, _), (1, _), (2, _)]) [0, 1, 2] rfl ?_
  refine g_aload_n 0 rfl dX7_moveTo_0 ?_
  refine g_iload_n 1 rfl dX7_moveTo_1 ?_
  exact g_invV (c_X7_requireLodger_no hC hr hx) l_X7_152 rfl (Rcv.of ((HW_o (by omega)).trans hC) rfl) (Nat.le_of_ble_eq_true rfl) (Nat.le_of_ble_eq_true rfl) rfl dX7_moveTo_2 (fun _ _ _ h => h) (fun _ _ _ h => h.elim)
set_option maxRecDepth 100000 in
set_option maxHeartbeats 4000000 in
theorem c_X7_pay_noL {Γ : Gm} {n : Nat} {ab im : Nat} {rk ro : Int32} {F : Hp} {R : Hr} {S : Hp} {f : Nat → Int32} {c : Nat} {x : Int32} {y : Int32} (hC : F ab = some (.inr (10, coF ab im rk ro))) (hr : Rp Γ S f c R) (hx : ¬ (nI 0 ≤ x ∧ x ≤ nI c - nI 1)) : Ct Γ 8 MX7_pay 1 6 [.ref ab, .int x, .int y] (HW Γ (ab + 50) F R) n PNo (Xe "java/lang/IndexOutOfBoundsException" (HW Γ (ab + 50) F R) n) := by
  refine Ct.of (by decide +kernel) rfl (Nat.le_of_ble_eq_true rfl) ?_
  have hc12 := hr.2.1
  refine G.sub (lv2 := [(0, _), (1, _), (2, _)]) [0, 1, 2] rfl ?_
  refine g_aload_n 0 rfl dX7_pay_0 ?_
  refine g_iload_n 1 rfl dX7_pay_1 ?_
  exact g_invV (c_X7_requireLodger_no hC hr hx) l_X7_152 rfl (Rcv.of ((HW_o (by omega)).trans hC) rfl) (Nat.le_of_ble_eq_true rfl) (Nat.le_of_ble_eq_true rfl) rfl dX7_pay_2 (fun _ _ _ h => h) (fun _ _ _ h => h.elim)
set_option maxRecDepth 100000 in
set_option maxHeartbeats 4000000 in
theorem c_X7_moveTo_noF {Γ : Gm} {n : Nat} {ab im : Nat} {rk ro : Int32} {F : Hp} {R : Hr} {S : Hp} {f : Nat → Int32} {c : Nat} {k : Nat} {x : Int32} (hC : F ab = some (.inr (10, coF ab im rk ro))) (hr : Rp Γ S f c R) (hk : k < c) (hx : ¬ (nI 0 ≤ x ∧ x ≤ nI 4)) : Ct Γ 8 MX7_moveTo 1 6 [.ref ab, .int (nI k), .int x] (HW Γ (ab + 50) F R) n PNo (Xe "java/lang/IllegalArgumentException" (HW Γ (ab + 50) F R) n) := by
  refine Ct.of (by decide +kernel) rfl (Nat.le_of_ble_eq_true rfl) ?_
  have hc12 := hr.2.1
  refine G.sub (lv2 := [(0, _), (1, _), (2, _)]) [0, 1, 2] rfl ?_
  refine g_aload_n 0 rfl dX7_moveTo_0 ?_
  refine g_iload_n 1 rfl dX7_moveTo_1 ?_
  refine gv_V (c_X7_requireLodger_ok hC hr hk) l_X7_152 rfl (Rcv.of ((HW_o (by omega)).trans hC) rfl) (Nat.le_of_ble_eq_true rfl) (Nat.le_of_ble_eq_true rfl) rfl dX7_moveTo_2 ?_
  refine g_astore_n (lv2 := [(3, _), (0, _), (1, _), (2, _)]) (by decide) rfl dX7_moveTo_5 ?_
  refine g_aload_n 1 rfl dX7_moveTo_6 ?_
  refine g_iload_n 3 rfl dX7_moveTo_7 ?_
  refine gn_ic 0 (by decide) dX7_moveTo_8 ?_
  refine gn_ic 4 (by decide) dX7_moveTo_9 ?_
  exact g_invV (c_X7_requireRange_no hC hx) l_X7_225 rfl (Rcv.of ((HW_o (by omega)).trans hC) rfl) (Nat.le_of_ble_eq_true rfl) (Nat.le_of_ble_eq_true rfl) rfl dX7_moveTo_10 (fun _ _ _ h => h) (fun _ _ _ h => h.elim)
set_option maxRecDepth 100000 in
set_option maxHeartbeats 4000000 in
theorem c_X7_moveTo_noP {Γ : Gm} {n : Nat} {ab im : Nat} {rk ro : Int32} {F : Hp} {R : Hr} {S : Hp} {f : Nat → Int32} {c : Nat} {k φ : Nat} (hC : F ab = some (.inr (10, coF ab im rk ro))) (hr : Rp Γ S f c R) (hk : k < c) (hφ : φ < 5) (hf4 : 4 ≤ cntOn f (nI φ) (nI k) c) : Ct Γ 8 MX7_moveTo 1 6 [.ref ab, .int (nI k), .int (nI φ)] (HW Γ (ab + 50) F R) n PNo (Xe "java/lang/IllegalStateException" (HW Γ (ab + 50) F R) n) := by
  refine Ct.of (by decide +kernel) rfl (Nat.le_of_ble_eq_true rfl) ?_
  have hc12 := hr.2.1
  refine G.sub (lv2 := [(0, _), (1, _), (2, _)]) [0, 1, 2] rfl ?_
  refine g_aload_n 0 rfl dX7_moveTo_0 ?_
  refine g_iload_n 1 rfl dX7_moveTo_1 ?_
  refine gv_V (c_X7_requireLodger_ok hC hr hk) l_X7_152 rfl (Rcv.of ((HW_o (by omega)).trans hC) rfl) (Nat.le_of_ble_eq_true rfl) (Nat.le_of_ble_eq_true rfl) rfl dX7_moveTo_2 ?_
  refine g_astore_n (lv2 := [(3, _), (0, _), (1, _), (2, _)]) (by decide) rfl dX7_moveTo_5 ?_
  refine g_aload_n 1 rfl dX7_moveTo_6 ?_
  refine g_iload_n 3 rfl dX7_moveTo_7 ?_
  refine gn_ic 0 (by decide) dX7_moveTo_8 ?_
  refine gn_ic 4 (by decide) dX7_moveTo_9 ?_
  refine gu_V (c_X7_requireRange_ok (lo := 0) (ub := 4) hC (Nat.zero_le _) (by omega) (by decide)) l_X7_225 rfl (Rcv.of ((HW_o (by omega)).trans hC) rfl) (Nat.le_of_ble_eq_true rfl) (Nat.le_of_ble_eq_true rfl) rfl dX7_moveTo_10 ?_
  refine g_aload_n 1 rfl dX7_moveTo_13 ?_
  refine g_iload_n 3 rfl dX7_moveTo_14 ?_
  refine g_aload_n 0 rfl dX7_moveTo_15 ?_
  exact g_invV (c_X7_requirePlace_kno hC hr hk hf4) l_X7_266 rfl (Rcv.of ((HW_o (by omega)).trans hC) rfl) (Nat.le_of_ble_eq_true rfl) (Nat.le_of_ble_eq_true rfl) rfl dX7_moveTo_16 (fun _ _ _ h => h) (fun _ _ _ h => h.elim)
set_option maxRecDepth 100000 in
set_option maxHeartbeats 4000000 in
theorem c_X7_pay_noA {Γ : Gm} {n : Nat} {ab im : Nat} {rk ro : Int32} {F : Hp} {R : Hr} {S : Hp} {f : Nat → Int32} {c : Nat} {k : Nat} {x : Int32} (hC : F ab = some (.inr (10, coF ab im rk ro))) (hr : Rp Γ S f c R) (hk : k < c) (hx : ¬ (nI 1 ≤ x ∧ x ≤ nI 999)) : Ct Γ 8 MX7_pay 1 6 [.ref ab, .int (nI k), .int x] (HW Γ (ab + 50) F R) n PNo (Xe "java/lang/IllegalArgumentException" (HW Γ (ab + 50) F R) n) := by
  refine Ct.of (by decide +kernel) rfl (Nat.le_of_ble_eq_true rfl) ?_
  have hc12 := hr.2.1
  refine G.sub (lv2 := [(0, _), (1, _), (2, _)]) [0, 1, 2] rfl ?_
  refine g_aload_n 0 rfl dX7_pay_0 ?_
  refine g_iload_n 1 rfl dX7_pay_1 ?_
  refine gv_V (c_X7_requireLodger_ok hC hr hk) l_X7_152 rfl (Rcv.of ((HW_o (by omega)).trans hC) rfl) (Nat.le_of_ble_eq_true rfl) (Nat.le_of_ble_eq_true rfl) rfl dX7_pay_2 ?_
  refine g_astore_n (lv2 := [(3, _), (0, _), (1, _), (2, _)]) (by decide) rfl dX7_pay_5 ?_
  refine g_aload_n 1 rfl dX7_pay_6 ?_
  refine g_iload_n 3 rfl dX7_pay_7 ?_
  refine gn_ic 1 (by decide) dX7_pay_8 ?_
  refine gn_sp 999 (by decide) dX7_pay_9 ?_
  exact g_invV (c_X7_requireRange_no hC hx) l_X7_225 rfl (Rcv.of ((HW_o (by omega)).trans hC) rfl) (Nat.le_of_ble_eq_true rfl) (Nat.le_of_ble_eq_true rfl) rfl dX7_pay_12 (fun _ _ _ h => h) (fun _ _ _ h => h.elim)
set_option maxRecDepth 100000 in
set_option maxHeartbeats 4000000 in
theorem c_X7_setLandladyVowel_noV {Γ : Gm} {n : Nat} {ab im : Nat} {rk ro : Int32} {F : Hp} {R : Hr} {x y : Int32} (hC : F ab = some (.inr (10, coF ab im rk ro))) (hx : ¬ (nI 0 ≤ x ∧ x ≤ nI 4)) : Ct Γ 8 MX7_setLandladyVowel 1 6 [.ref ab, .int x, .int y] (HW Γ (ab + 50) F R) n PNo (Xe "java/lang/IndexOutOfBoundsException" (HW Γ (ab + 50) F R) n) := by
  refine Ct.of (by decide +kernel) rfl (Nat.le_of_ble_eq_true rfl) ?_
  refine G.sub (lv2 := [(0, _), (1, _), (2, _)]) [0, 1, 2] rfl ?_
  refine g_aload_n 0 rfl dX7_setLandladyVowel_0 ?_
  refine g_iload_n 1 rfl dX7_setLandladyVowel_1 ?_
  exact g_invV (c_X7_requireVowel_no hC hx) l_X7_133 rfl (Rcv.of ((HW_o (by omega)).trans hC) rfl) (Nat.le_of_ble_eq_true rfl) (Nat.le_of_ble_eq_true rfl) rfl dX7_setLandladyVowel_2 (fun _ _ _ h => h) (fun _ _ _ h => h.elim)
set_option maxRecDepth 100000 in
set_option maxHeartbeats 4000000 in
theorem c_X7_setLandladyVowel_noP {Γ : Gm} {n : Nat} {ab im : Nat} {rk ro : Int32} {F : Hp} {R : Hr} {v : Nat} {x : Int32} (hC : F ab = some (.inr (10, coF ab im rk ro))) (hv : v < 5) (hx : ¬ (nI 0 ≤ x ∧ x ≤ nI 9)) : Ct Γ 8 MX7_setLandladyVowel 1 6 [.ref ab, .int (nI v), .int x] (HW Γ (ab + 50) F R) n PNo (Xe "java/lang/IllegalArgumentException" (HW Γ (ab + 50) F R) n) := by
  refine Ct.of (by decide +kernel) rfl (Nat.le_of_ble_eq_true rfl) ?_
  refine G.sub (lv2 := [(0, _), (1, _), (2, _)]) [0, 1, 2] rfl ?_
  refine g_aload_n 0 rfl dX7_setLandladyVowel_0 ?_
  refine g_iload_n 1 rfl dX7_setLandladyVowel_1 ?_
  refine gu_V (c_X7_requireVowel_ok hC hv) l_X7_133 rfl (Rcv.of ((HW_o (by omega)).trans hC) rfl) (Nat.le_of_ble_eq_true rfl) (Nat.le_of_ble_eq_true rfl) rfl dX7_setLandladyVowel_2 ?_
  refine g_aload_n 0 rfl dX7_setLandladyVowel_5 ?_
  refine g_iload_n 2 rfl dX7_setLandladyVowel_6 ?_
  refine gn_ic 0 (by decide) dX7_setLandladyVowel_7 ?_
  refine gn_bp 9 (by decide) dX7_setLandladyVowel_8 ?_
  exact g_invV (c_X7_requireRange_no hC hx) l_X7_225 rfl (Rcv.of ((HW_o (by omega)).trans hC) rfl) (Nat.le_of_ble_eq_true rfl) (Nat.le_of_ble_eq_true rfl) rfl dX7_setLandladyVowel_10 (fun _ _ _ h => h) (fun _ _ _ h => h.elim)
set_option maxRecDepth 100000 in
set_option maxHeartbeats 4000000 in
theorem c_X7_setTolerance_no {Γ : Gm} {n : Nat} {ab im : Nat} {rk ro : Int32} {F : Hp} {R : Hr} {x : Int32} (hC : F ab = some (.inr (10, coF ab im rk ro))) (hx : ¬ (nI 0 ≤ x ∧ x ≤ nI 45)) : Ct Γ 8 MX7_setTolerance 1 6 [.ref ab, .int x] (HW Γ (ab + 50) F R) n PNo (Xe "java/lang/IllegalArgumentException" (HW Γ (ab + 50) F R) n) := by
  refine Ct.of (by decide +kernel) rfl (Nat.le_of_ble_eq_true rfl) ?_
  refine G.sub (lv2 := [(0, _), (1, _)]) [0, 1] rfl ?_
  refine g_aload_n 0 rfl dX7_setTolerance_0 ?_
  refine g_iload_n 1 rfl dX7_setTolerance_1 ?_
  refine gn_ic 0 (by decide) dX7_setTolerance_2 ?_
  refine gn_bp 45 (by decide) dX7_setTolerance_3 ?_
  exact g_invV (c_X7_requireRange_no hC hx) l_X7_225 rfl (Rcv.of ((HW_o (by omega)).trans hC) rfl) (Nat.le_of_ble_eq_true rfl) (Nat.le_of_ble_eq_true rfl) rfl dX7_setTolerance_5 (fun _ _ _ h => h) (fun _ _ _ h => h.elim)
set_option maxRecDepth 100000 in
set_option maxHeartbeats 4000000 in
theorem c_X7_setBaseRent_no {Γ : Gm} {n : Nat} {ab im : Nat} {rk ro : Int32} {F : Hp} {R : Hr} {x : Int32} (hC : F ab = some (.inr (10, coF ab im rk ro))) (hx : ¬ (nI 0 ≤ x ∧ x ≤ nI 50)) : Ct Γ 8 MX7_setBaseRent 1 6 [.ref ab, .int x] (HW Γ (ab + 50) F R) n PNo (Xe "java/lang/IllegalArgumentException" (HW Γ (ab + 50) F R) n) := by
  refine Ct.of (by decide +kernel) rfl (Nat.le_of_ble_eq_true rfl) ?_
  refine G.sub (lv2 := [(0, _), (1, _)]) [0, 1] rfl ?_
  refine g_aload_n 0 rfl dX7_setBaseRent_0 ?_
  refine g_iload_n 1 rfl dX7_setBaseRent_1 ?_
  refine gn_ic 0 (by decide) dX7_setBaseRent_2 ?_
  refine gn_bp 50 (by decide) dX7_setBaseRent_3 ?_
  exact g_invV (c_X7_requireRange_no hC hx) l_X7_225 rfl (Rcv.of ((HW_o (by omega)).trans hC) rfl) (Nat.le_of_ble_eq_true rfl) (Nat.le_of_ble_eq_true rfl) rfl dX7_setBaseRent_5 (fun _ _ _ h => h) (fun _ _ _ h => h.elim)
set_option maxRecDepth 100000 in
set_option maxHeartbeats 4000000 in
theorem c_X7_restore_noS {Γ : Gm} {n : Nat} {ab im : Nat} {rk ro : Int32} {F : Hp} {R : Hr} {x : Int32} (hC : F ab = some (.inr (10, coF ab im rk ro))) (hx : ¬ (nI 0 ≤ x ∧ x ≤ nI 1)) : Ct Γ 8 MX7_restore 1 6 [.ref ab, .int x] (HW Γ (ab + 50) F R) n PNo (Xe "java/lang/IndexOutOfBoundsException" (HW Γ (ab + 50) F R) n) := by
  refine Ct.of (by decide +kernel) rfl (Nat.le_of_ble_eq_true rfl) ?_
  refine G.sub (lv2 := [(0, _), (1, _)]) [0, 1] rfl ?_
  refine g_aload_n 0 rfl dX7_restore_0 ?_
  refine g_iload_n 1 rfl dX7_restore_1 ?_
  exact g_invV (c_X7_requireSlot_no hC hx) l_X7_285 rfl (Rcv.of ((HW_o (by omega)).trans hC) rfl) (Nat.le_of_ble_eq_true rfl) (Nat.le_of_ble_eq_true rfl) rfl dX7_restore_2 (fun _ _ _ h => h) (fun _ _ _ h => h.elim)
set_option maxRecDepth 100000 in
set_option maxHeartbeats 4000000 in
theorem c_X7_save_noS {Γ : Gm} {n : Nat} {ab im : Nat} {rk ro : Int32} {F : Hp} {R : Hr} {x : Int32} (hC : F ab = some (.inr (10, coF ab im rk ro))) (hx : ¬ (nI 0 ≤ x ∧ x ≤ nI 1)) : Ct Γ 8 MX7_save 1 6 [.ref ab, .int x] (HW Γ (ab + 50) F R) n PNo (Xe "java/lang/IndexOutOfBoundsException" (HW Γ (ab + 50) F R) n) := by
  refine Ct.of (by decide +kernel) rfl (Nat.le_of_ble_eq_true rfl) ?_
  refine G.sub (lv2 := [(0, _), (1, _)]) [0, 1] rfl ?_
  refine g_aload_n 0 rfl dX7_save_0 ?_
  refine g_iload_n 1 rfl dX7_save_1 ?_
  exact g_invV (c_X7_requireSlot_no hC hx) l_X7_285 rfl (Rcv.of ((HW_o (by omega)).trans hC) rfl) (Nat.le_of_ble_eq_true rfl) (Nat.le_of_ble_eq_true rfl) rfl dX7_save_2 (fun _ _ _ h => h) (fun _ _ _ h => h.elim)
set_option maxRecDepth 100000 in
set_option maxHeartbeats 4000000 in
theorem c_X7_restore_noE {Γ : Gm} {n : Nat} {ab im : Nat} {rk ro : Int32} {F : Hp} {R : Hr} {s : Nat} {sv : Nat → Int32} (hC : F ab = some (.inr (10, coF ab im rk ro))) (hs : s < 2) (hZ : F (ab + 557) = some (.inl (gA Γ 2, 2, .inl sv))) (hsv : sv s = nI 0) : Ct Γ 8 MX7_restore 1 6 [.ref ab, .int (nI s)] (HW Γ (ab + 50) F R) n PNo (Xe "java/lang/IllegalStateException" (HW Γ (ab + 50) F R) n) := by
  refine Ct.of (by decide +kernel) rfl (Nat.le_of_ble_eq_true rfl) ?_
  refine G.sub (lv2 := [(0, _), (1, _)]) [0, 1] rfl ?_
  refine g_aload_n 0 rfl dX7_restore_0 ?_
  refine g_iload_n 1 rfl dX7_restore_1 ?_
  refine gu_V (c_X7_requireSlot_ok hC hs) l_X7_285 rfl (Rcv.of ((HW_o (by omega)).trans hC) rfl) (Nat.le_of_ble_eq_true rfl) (Nat.le_of_ble_eq_true rfl) rfl dX7_restore_2 ?_
  refine g_aload_n 0 rfl dX7_restore_5 ?_
  refine g_get f_X7_54 ((HW_o (by omega)).trans hC) rfl dX7_restore_6 ?_
  refine g_iload_n 1 rfl dX7_restore_9 ?_
  refine gn_zald ((HW_o (by omega)).trans hZ) hs (by decide) dX7_restore_10 ?_
  refine g_if_ne (tgt := 25) (by decide) dX7_restore_11 (fun h11 => ?_) (fun h11 => ?_)
  · -- t 25
    exact absurd (hsv.trans nI_0) h11
  · -- f 14
    exact g_throw ⟨rfl, rfl, rfl⟩ (thr_X7_restore_14 (by decide)) (Nat.le_of_ble_eq_true rfl) (by decide) (by decide)
set_option maxRecDepth 100000 in
set_option maxHeartbeats 4000000 in
theorem c_X7_undo_no {Γ : Gm} {n : Nat} {ab im : Nat} {rk ro : Int32} {F : Hp} {R : Hr} {ol kp : Nat} (hC : F ab = some (.inr (10, coF ab im rk ro))) (hH : F (ab + 134) = some (.inr (5, [.ref (ab + 135), .int (nI ol), .int (nI kp)]))) (hkp : kp = 0) : Ct Γ 8 MX7_undo 1 6 [.ref ab] (HW Γ (ab + 50) F R) n PNo (Xe "java/lang/IllegalStateException" (HW Γ (ab + 50) F R) n) := by
  refine Ct.of (by decide +kernel) rfl (Nat.le_of_ble_eq_true rfl) ?_
  refine G.sub (lv2 := [(0, _)]) [0] rfl ?_
  refine g_aload_n 0 rfl dX7_undo_0 ?_
  refine g_get f_X7_46 ((HW_o (by omega)).trans hC) rfl dX7_undo_1 ?_
  refine g_get f_X7_149 ((HW_o (by omega)).trans hH) rfl dX7_undo_4 ?_
  refine gn_if_ne (by omega) (tgt := 21) (by decide) dX7_undo_7 (fun h7 => ?_) (fun h7 => ?_)
  · -- t 21
    exact absurd hkp h7
  · -- f 10
    exact g_throw ⟨rfl, rfl, rfl⟩ (thr_X7_undo_10 (by decide)) (Nat.le_of_ble_eq_true rfl) (by decide) (by decide)
set_option maxRecDepth 100000 in
set_option maxHeartbeats 4000000 in
theorem c_X7_append_no {Γ : Gm} {n : Nat} {ab im : Nat} {rk ro : Int32} {F : Hp} {R : Hr} {w1 w2 w3 w4 w5 : Int32} (hC : F ab = some (.inr (10, coF ab im rk ro))) (h20 : 580 < im) (h600 : im ≤ 600) : Ct Γ 8 MX7_append 1 6 [.ref ab, .int w1, .int w2, .int w3, .int w4, .int w5] (HW Γ (ab + 50) F R) n PNo (Xe "java/lang/IllegalStateException" (HW Γ (ab + 50) F R) n) := by
  refine Ct.of (by decide +kernel) rfl (Nat.le_of_ble_eq_true rfl) ?_
  refine G.sub (lv2 := [(0, _), (1, _), (2, _), (3, _), (4, _), (5, _)]) [0, 1, 2, 3, 4, 5] rfl ?_
  refine g_aload_n 0 rfl dX7_append_0 ?_
  refine g_get f_X7_79 ((HW_o (by omega)).trans hC) rfl dX7_append_1 ?_
  refine gn_bp 20 (by decide) dX7_append_4 ?_
  refine gn_iadd dX7_append_6 ?_
  refine gn_sp 600 (by decide) dX7_append_7 ?_
  refine gn_icmp_le (by omega) (by omega) (tgt := 23) (by decide) dX7_append_10 (fun cc1 => ?_) (fun cc1 => ?_)
  · -- t 23
    exfalso; omega
  · -- f 13
    exact g_throw ⟨rfl, rfl, rfl⟩ (thr_X7_append_13 (by decide)) (Nat.le_of_ble_eq_true rfl) (by decide) (by decide)
set_option maxRecDepth 100000 in
set_option maxHeartbeats 4000000 in
theorem c_X7_load_no {Γ : Gm} {n : Nat} {ab im : Nat} {rk ro : Int32} {F : Hp} {R : Hr} {x : Int32} (hC : F ab = some (.inr (10, coF ab im rk ro))) (h600 : im ≤ 600) (hx : ¬ (nI 0 ≤ x ∧ x ≤ nI im)) : Ct Γ 8 MX7_load 1 6 [.ref ab, .int x] (HW Γ (ab + 50) F R) n PNo (Xe "java/lang/IndexOutOfBoundsException" (HW Γ (ab + 50) F R) n) := by
  refine Ct.of (by decide +kernel) rfl (Nat.le_of_ble_eq_true rfl) ?_
  have hx2 : ¬ x < 0 → nI 0 ≤ x := fun z => by obtain ⟨j, hj, rfl⟩ := nI_of z; exact nI_le (Nat.zero_le j) hj
  refine G.sub (lv2 := [(0, _), (1, _)]) [0, 1] rfl ?_
  refine g_iload_n 1 rfl dX7_load_0 ?_
  refine g_if_lt (tgt := 12) (by decide) dX7_load_1 (fun h1 => ?_) (fun h1 => ?_)
  · -- t 12
    exact g_throw ⟨rfl, rfl, rfl⟩ (thr_X7_load_12 (by decide)) (Nat.le_of_ble_eq_true rfl) (by decide) (by decide)
  · -- f 4
    refine g_iload_n 1 rfl dX7_load_4 ?_
    refine g_aload_n 0 rfl dX7_load_5 ?_
    refine g_get f_X7_79 ((HW_o (by omega)).trans hC) rfl dX7_load_6 ?_
    refine g_icmp_le (tgt := 22) (by decide) dX7_load_9 (fun h9 => ?_) (fun h9 => ?_)
    · -- t 22
      exact absurd ⟨hx2 h1, h9⟩ hx
    · -- f 12
      exact g_throw ⟨rfl, rfl, rfl⟩ (thr_X7_load_12 (by decide)) (Nat.le_of_ble_eq_true rfl) (by decide) (by decide)
set_option maxRecDepth 100000 in
set_option maxHeartbeats 4000000 in
theorem c_X7_appendWord {Γ : Gm} {n : Nat} {E : Hp} {ab im : Nat} {rk ro w : Int32} {g : Nat → Int32} (h600 : im + 4 ≤ 600) : Ct Γ 1 MX7_appendWord 0 0 [.ref ab, .int w] (WA Γ ab E im rk ro g) n (Rt none (WA Γ ab E (im + 4) rk ro (fdF g im w)) n) X0 := by
  refine Ct.of (by decide +kernel) rfl (Nat.le_of_ble_eq_true rfl) ?_
  refine G.sub (lv2 := [(0, _), (1, _)]) [0, 1] rfl ?_
  refine gn_bp 24 (by decide) dX7_appendWord_0 ?_
  refine g_istore_n (lv2 := [(2, _), (0, _), (1, _)]) (by decide) rfl dX7_appendWord_2 ?_
  refine g_iload_n 0 rfl dX7_appendWord_3 ?_
  refine g_if_lt (tgt := 46) (by decide) dX7_appendWord_4 (fun cc1 => ?_) (fun cc1 => ?_)
  · -- t 46
    exact absurd cc1 (by decide)
  · -- f 7
    refine g_aload_n 1 rfl dX7_appendWord_7 ?_
    refine g_get f_X7_79 WA_c rfl dX7_appendWord_8 ?_
    refine gn_sp 600 (by decide) dX7_appendWord_11 ?_
    refine gn_icmp_ge (by omega) (by omega) (tgt := 46) (by decide) dX7_appendWord_14 (fun cc2 => ?_) (fun cc2 => ?_)
    · -- t 46
      exfalso; omega
    · -- f 17
      refine g_aload_n 1 rfl dX7_appendWord_17 ?_
      refine g_get f_X7_9 WA_c rfl dX7_appendWord_18 ?_
      refine g_aload_n 1 rfl dX7_appendWord_21 ?_
      refine g_get f_X7_79 WA_c rfl dX7_appendWord_22 ?_
      refine g_iload_n 2 rfl dX7_appendWord_25 ?_
      refine g_iload_n 0 rfl dX7_appendWord_26 ?_
      refine g_iushr rfl dX7_appendWord_27 ?_
      refine g_i2b dX7_appendWord_28 ?_
      refine g_top (y := byt w 0) byt_24 ?_
      refine gn_bast WA_i (by omega) (by decide) WA_sb dX7_appendWord_29 ?_
      refine g_aload_n 1 rfl dX7_appendWord_30 ?_
      refine g_dup rfl dX7_appendWord_31 ?_
      refine g_get f_X7_79 WA_c rfl dX7_appendWord_32 ?_
      refine gn_ic 1 (by decide) dX7_appendWord_35 ?_
      refine gn_iadd dX7_appendWord_36 ?_
      refine g_put f_X7_79 w_X7_1 WA_c (Nat.le_of_ble_eq_true rfl) rfl rfl rfl dX7_appendWord_37 ?_
      refine g_world WA_sc ?_
      refine g_iinc (v := nI 16) (lv2 := [(2, _), (0, _), (1, _)]) 0 rfl (by decide) (by decide) rfl dX7_appendWord_40 ?_
      refine g_goto (tgt := 3) (by decide) dX7_appendWord_43 ?_
      refine g_iload_n 0 rfl dX7_appendWord_3 ?_
      refine g_if_lt (tgt := 46) (by decide) dX7_appendWord_4 (fun cc3 => ?_) (fun cc3 => ?_)
      · -- t 46
        exact absurd cc3 (by decide)
      · -- f 7
        refine g_aload_n 1 rfl dX7_appendWord_7 ?_
        refine g_get f_X7_79 WA_c rfl dX7_appendWord_8 ?_
        refine gn_sp 600 (by decide) dX7_appendWord_11 ?_
        refine gn_icmp_ge (by omega) (by omega) (tgt := 46) (by decide) dX7_appendWord_14 (fun cc4 => ?_) (fun cc4 => ?_)
        · -- t 46
          exfalso; omega
        · -- f 17
          refine g_aload_n 1 rfl dX7_appendWord_17 ?_
          refine g_get f_X7_9 WA_c rfl dX7_appendWord_18 ?_
          refine g_aload_n 1 rfl dX7_appendWord_21 ?_
          refine g_get f_X7_79 WA_c rfl dX7_appendWord_22 ?_
          refine g_iload_n 2 rfl dX7_appendWord_25 ?_
          refine g_iload_n 0 rfl dX7_appendWord_26 ?_
          refine g_iushr rfl dX7_appendWord_27 ?_
          refine g_i2b dX7_appendWord_28 ?_
          refine g_top (y := byt w 1) byt_16 ?_
          refine gn_bast WA_i (by omega) (by decide) WA_sb dX7_appendWord_29 ?_
          refine g_aload_n 1 rfl dX7_appendWord_30 ?_
          refine g_dup rfl dX7_appendWord_31 ?_
          refine g_get f_X7_79 WA_c rfl dX7_appendWord_32 ?_
          refine gn_ic 1 (by decide) dX7_appendWord_35 ?_
          refine gn_iadd dX7_appendWord_36 ?_
          refine g_put f_X7_79 w_X7_1 WA_c (Nat.le_of_ble_eq_true rfl) rfl rfl rfl dX7_appendWord_37 ?_
          refine g_world WA_sc ?_
          refine g_iinc (v := nI 8) (lv2 := [(2, _), (0, _), (1, _)]) 0 rfl (by decide) (by decide) rfl dX7_appendWord_40 ?_
          refine g_goto (tgt := 3) (by decide) dX7_appendWord_43 ?_
          refine g_iload_n 0 rfl dX7_appendWord_3 ?_
          refine g_if_lt (tgt := 46) (by decide) dX7_appendWord_4 (fun cc5 => ?_) (fun cc5 => ?_)
          · -- t 46
            exact absurd cc5 (by decide)
          · -- f 7
            refine g_aload_n 1 rfl dX7_appendWord_7 ?_
            refine g_get f_X7_79 WA_c rfl dX7_appendWord_8 ?_
            refine gn_sp 600 (by decide) dX7_appendWord_11 ?_
            refine gn_icmp_ge (by omega) (by omega) (tgt := 46) (by decide) dX7_appendWord_14 (fun cc6 => ?_) (fun cc6 => ?_)
            · -- t 46
              exfalso; omega
            · -- f 17
              refine g_aload_n 1 rfl dX7_appendWord_17 ?_
              refine g_get f_X7_9 WA_c rfl dX7_appendWord_18 ?_
              refine g_aload_n 1 rfl dX7_appendWord_21 ?_
              refine g_get f_X7_79 WA_c rfl dX7_appendWord_22 ?_
              refine g_iload_n 2 rfl dX7_appendWord_25 ?_
              refine g_iload_n 0 rfl dX7_appendWord_26 ?_
              refine g_iushr rfl dX7_appendWord_27 ?_
              refine g_i2b dX7_appendWord_28 ?_
              refine g_top (y := byt w 2) byt_8 ?_
              refine gn_bast WA_i (by omega) (by decide) WA_sb dX7_appendWord_29 ?_
              refine g_aload_n 1 rfl dX7_appendWord_30 ?_
              refine g_dup rfl dX7_appendWord_31 ?_
              refine g_get f_X7_79 WA_c rfl dX7_appendWord_32 ?_
              refine gn_ic 1 (by decide) dX7_appendWord_35 ?_
              refine gn_iadd dX7_appendWord_36 ?_
              refine g_put f_X7_79 w_X7_1 WA_c (Nat.le_of_ble_eq_true rfl) rfl rfl rfl dX7_appendWord_37 ?_
              refine g_world WA_sc ?_
              refine g_iinc (v := nI 0) (lv2 := [(2, _), (0, _), (1, _)]) 0 rfl (by decide) (by decide) rfl dX7_appendWord_40 ?_
              refine g_goto (tgt := 3) (by decide) dX7_appendWord_43 ?_
              refine g_iload_n 0 rfl dX7_appendWord_3 ?_
              refine g_if_lt (tgt := 46) (by decide) dX7_appendWord_4 (fun cc7 => ?_) (fun cc7 => ?_)
              · -- t 46
                exact absurd cc7 (by decide)
              · -- f 7
                refine g_aload_n 1 rfl dX7_appendWord_7 ?_
                refine g_get f_X7_79 WA_c rfl dX7_appendWord_8 ?_
                refine gn_sp 600 (by decide) dX7_appendWord_11 ?_
                refine gn_icmp_ge (by omega) (by omega) (tgt := 46) (by decide) dX7_appendWord_14 (fun cc8 => ?_) (fun cc8 => ?_)
                · -- t 46
                  exfalso; omega
                · -- f 17
                  refine g_aload_n 1 rfl dX7_appendWord_17 ?_
                  refine g_get f_X7_9 WA_c rfl dX7_appendWord_18 ?_
                  refine g_aload_n 1 rfl dX7_appendWord_21 ?_
                  refine g_get f_X7_79 WA_c rfl dX7_appendWord_22 ?_
                  refine g_iload_n 2 rfl dX7_appendWord_25 ?_
                  refine g_iload_n 0 rfl dX7_appendWord_26 ?_
                  refine g_iushr rfl dX7_appendWord_27 ?_
                  refine g_i2b dX7_appendWord_28 ?_
                  refine g_top (y := byt w 3) byt_0 ?_
                  refine gn_bast WA_i (by omega) (by decide) WA_sb dX7_appendWord_29 ?_
                  refine g_aload_n 1 rfl dX7_appendWord_30 ?_
                  refine g_dup rfl dX7_appendWord_31 ?_
                  refine g_get f_X7_79 WA_c rfl dX7_appendWord_32 ?_
                  refine gn_ic 1 (by decide) dX7_appendWord_35 ?_
                  refine gn_iadd dX7_appendWord_36 ?_
                  refine g_put f_X7_79 w_X7_1 WA_c (Nat.le_of_ble_eq_true rfl) rfl rfl rfl dX7_appendWord_37 ?_
                  refine g_world WA_sc ?_
                  refine g_iinc (v := -8) (lv2 := [(2, _), (0, _), (1, _)]) 0 rfl (by decide) (by decide) rfl dX7_appendWord_40 ?_
                  refine g_goto (tgt := 3) (by decide) dX7_appendWord_43 ?_
                  refine g_iload_n 0 rfl dX7_appendWord_3 ?_
                  refine g_if_lt (tgt := 46) (by decide) dX7_appendWord_4 (fun cc9 => ?_) (fun cc9 => ?_)
                  · -- t 46
                    exact g_vret ⟨rfl, rfl, rfl⟩ rfl dX7_appendWord_46
                  · -- f 7
                    exact absurd cc9 (by decide)
set_option maxRecDepth 100000 in
set_option maxHeartbeats 4000000 in
theorem c_X7_append_ok {Γ : Gm} {n : Nat} {E : Hp} {ab im : Nat} {rk ro w1 w2 w3 w4 w5 : Int32} {g : Nat → Int32} (hC : E ab = some (.inr (10, coF ab im rk ro))) (hI : E (ab + 1) = some (.inl (gA Γ 1, 600, .inl g))) (h600 : im + 20 ≤ 600) : Ct Γ 8 MX7_append 0 0 [.ref ab, .int w1, .int w2, .int w3, .int w4, .int w5] (E) n (Rt (some (.int (nI (im + 4 + 4 + 4 + 4 + 4)))) (WA Γ ab E (im + 4 + 4 + 4 + 4 + 4) rk ro (fd5 g im w1 w2 w3 w4 w5)) n) X0 := by
  refine Ct.of (by decide +kernel) rfl (Nat.le_of_ble_eq_true rfl) ?_
  refine g_world (WA_id hC hI) ?_
  refine G.sub (lv2 := [(0, _), (1, _), (2, _), (3, _), (4, _), (5, _)]) [0, 1, 2, 3, 4, 5] rfl ?_
  refine g_aload_n 0 rfl dX7_append_0 ?_
  refine g_get f_X7_79 WA_c rfl dX7_append_1 ?_
  refine gn_bp 20 (by decide) dX7_append_4 ?_
  refine gn_iadd dX7_append_6 ?_
  refine gn_sp 600 (by decide) dX7_append_7 ?_
  refine gn_icmp_le (by omega) (by omega) (tgt := 23) (by decide) dX7_append_10 (fun cc1 => ?_) (fun cc1 => ?_)
  · -- t 23
    refine g_aload_n 0 rfl dX7_append_23 ?_
    refine g_iload_n 1 rfl dX7_append_24 ?_
    refine gu_V (c_X7_appendWord (w := w1) (by omega)) l_X7_89 rfl (Rcv.of WA_c rfl) (Nat.le_of_ble_eq_true rfl) (Nat.le_of_ble_eq_true rfl) rfl dX7_append_25 ?_
    refine g_aload_n 0 rfl dX7_append_28 ?_
    refine g_iload_n 2 rfl dX7_append_29 ?_
    refine gu_V (c_X7_appendWord (w := w2) (by omega)) l_X7_89 rfl (Rcv.of WA_c rfl) (Nat.le_of_ble_eq_true rfl) (Nat.le_of_ble_eq_true rfl) rfl dX7_append_30 ?_
    refine g_aload_n 0 rfl dX7_append_33 ?_
    refine g_iload_n 3 rfl dX7_append_34 ?_
    refine gu_V (c_X7_appendWord (w := w3) (by omega)) l_X7_89 rfl (Rcv.of WA_c rfl) (Nat.le_of_ble_eq_true rfl) (Nat.le_of_ble_eq_true rfl) rfl dX7_append_35 ?_
    refine g_aload_n 0 rfl dX7_append_38 ?_
    refine g_iload 4 rfl dX7_append_39 ?_
    refine gu_V (c_X7_appendWord (w := w4) (by omega)) l_X7_89 rfl (Rcv.of WA_c rfl) (Nat.le_of_ble_eq_true rfl) (Nat.le_of_ble_eq_true rfl) rfl dX7_append_41 ?_
    refine g_aload_n 0 rfl dX7_append_44 ?_
    refine g_iload 5 rfl dX7_append_45 ?_
    refine gu_V (c_X7_appendWord (w := w5) (by omega)) l_X7_89 rfl (Rcv.of WA_c rfl) (Nat.le_of_ble_eq_true rfl) (Nat.le_of_ble_eq_true rfl) rfl dX7_append_47 ?_
    refine g_aload_n 0 rfl dX7_append_50 ?_
    refine g_get f_X7_79 WA_c rfl dX7_append_51 ?_
    exact g_iret ⟨rfl, rfl, rfl⟩ rfl rfl dX7_append_54
  · -- f 13
    exfalso; omega
end GJ27
