section GJ26
set_option maxRecDepth 100000 in
set_option maxHeartbeats 4000000 in
theorem c_X7_setTolerance_ok {Γ : Gm} {n : Nat} {ab : Nat} {E S : Hp} {q : CQ} {f : Nat → Int32} {c : Nat} {p : Nat} (hCA : CA Γ ab n S E q) (hw : ∀ i, i < 15 → Wf (q_Q q i)) (hr : Rp Γ S f c (q_Q q 1)) (hol : q_ol q < 10) (hkp : q_kp q ≤ 10) (hp45 : p ≤ 45) : Ct Γ 8 MX7_setTolerance 0 0 [.ref ab, .int (nI p)] (E) n (fun r9 E2 n2 => r9 = some (.int (f 1)) ∧ n2 = n ∧ ∃ P2 R2 E3, Rem Γ ab n S E q f c P2 E3 ∧ E2 = HW Γ (ab + 50) E3 R2 ∧ Rp Γ S (upd f 1 (nI p)) c R2) X0 := by
  refine Ct.of (by decide +kernel) rfl (Nat.le_of_ble_eq_true rfl) ?_
  have hc12 := hr.2.1
  have hC := hCA.co
  have hbd := hCA.bd
  refine g_world hCA.h1.eq ?_
  refine G.sub (lv2 := [(0, _), (1, _)]) [0, 1] rfl ?_
  refine g_aload_n 0 rfl dX7_setTolerance_0 ?_
  refine g_iload_n 1 rfl dX7_setTolerance_1 ?_
  refine gn_ic 0 (by decide) dX7_setTolerance_2 ?_
  refine gn_bp 45 (by decide) dX7_setTolerance_3 ?_
  refine gu_V (c_X7_requireRange_ok (lo := 0) (ub := 45) hC (Nat.zero_le _) hp45 (by decide)) l_X7_225 rfl (Rcv.of ((HW_o (by omega)).trans hC) rfl) (Nat.le_of_ble_eq_true rfl) (Nat.le_of_ble_eq_true rfl) rfl dX7_setTolerance_5 ?_
  refine g_aload_n 0 rfl dX7_setTolerance_8 ?_
  refine g_get f_X7_46 ((HW_o (by omega)).trans hCA.co) rfl dX7_setTolerance_9 ?_
  refine g_aload_n 0 rfl dX7_setTolerance_12 ?_
  refine g_get f_X7_36 ((HW_o (by omega)).trans hCA.co) rfl dX7_setTolerance_13 ?_
  refine g_world hCA.h1.eq.symm ?_
  refine gx_V0 (c_X1_remember (Pq := fun i => q_Q q (3 + i)) hCA.hi hCA.ha (fun i hi => hCA.hp hi) (fun i hi => hw (3 + i) (by omega)) hCA.h1 hr hol hkp) l_X7_260 rfl (Rcv.of hCA.hi rfl) (Nat.le_of_ble_eq_true rfl) (Nat.le_of_ble_eq_true rfl) rfl dX7_setTolerance_16 (fun _ _ _ h => h.1) (fun E3 n3 hp => ?_)
  obtain ⟨-, hn3, P2, e3, hp2⟩ := hp
  have hn4 := hn3.symm
  subst hn4
  have hrem : Rem Γ ab n S E q f c P2 E3 := by rw [e3]; exact rem_of hCA hol hp2
  refine g_world hrem.h1.eq ?_
  refine g_aload_n 0 rfl dX7_setTolerance_19 ?_
  refine g_get f_X7_36 ((HW_o (by omega)).trans hrem.co) rfl dX7_setTolerance_20 ?_
  refine g_get f_X7_123 HW_h rfl dX7_setTolerance_23 ?_
  refine g_top (hr.d (j := 1) (by decide) (by decide)) ?_
  refine g_istore_n (lv2 := [(2, _), (0, _), (1, _)]) (by decide) rfl dX7_setTolerance_26 ?_
  refine g_aload_n 1 rfl dX7_setTolerance_27 ?_
  refine g_get f_X7_36 ((HW_o (by omega)).trans hrem.co) rfl dX7_setTolerance_28 ?_
  refine g_iload_n 2 rfl dX7_setTolerance_31 ?_
  refine h_putR hr f_X7_123 w_X2_2 (by decide) rfl (j := 1) (by decide) (by decide) dX7_setTolerance_32 (fun hr1 => ?_)
  refine g_iload_n 0 rfl dX7_setTolerance_35 ?_
  exact g_iret ⟨rfl, rfl, P2, _, E3, hrem, rfl, hr1⟩ rfl rfl dX7_setTolerance_36
set_option maxRecDepth 100000 in
set_option maxHeartbeats 4000000 in
theorem c_X7_setBaseRent_ok {Γ : Gm} {n : Nat} {ab : Nat} {E S : Hp} {q : CQ} {f : Nat → Int32} {c : Nat} {p : Nat} (hCA : CA Γ ab n S E q) (hw : ∀ i, i < 15 → Wf (q_Q q i)) (hr : Rp Γ S f c (q_Q q 1)) (hol : q_ol q < 10) (hkp : q_kp q ≤ 10) (hp50 : p ≤ 50) : Ct Γ 8 MX7_setBaseRent 0 0 [.ref ab, .int (nI p)] (E) n (fun r9 E2 n2 => r9 = some (.int (f 0)) ∧ n2 = n ∧ ∃ P2 R2 E3, Rem Γ ab n S E q f c P2 E3 ∧ E2 = HW Γ (ab + 50) E3 R2 ∧ Rp Γ S (upd f 0 (nI p)) c R2) X0 := by
  refine Ct.of (by decide +kernel) rfl (Nat.le_of_ble_eq_true rfl) ?_
  have hc12 := hr.2.1
  have hC := hCA.co
  have hbd := hCA.bd
  refine g_world hCA.h1.eq ?_
  refine G.sub (lv2 := [(0, _), (1, _)]) [0, 1] rfl ?_
  refine g_aload_n 0 rfl dX7_setBaseRent_0 ?_
  refine g_iload_n 1 rfl dX7_setBaseRent_1 ?_
  refine gn_ic 0 (by decide) dX7_setBaseRent_2 ?_
  refine gn_bp 50 (by decide) dX7_setBaseRent_3 ?_
  refine gu_V (c_X7_requireRange_ok (lo := 0) (ub := 50) hC (Nat.zero_le _) hp50 (by decide)) l_X7_225 rfl (Rcv.of ((HW_o (by omega)).trans hC) rfl) (Nat.le_of_ble_eq_true rfl) (Nat.le_of_ble_eq_true rfl) rfl dX7_setBaseRent_5 ?_
  refine g_aload_n 0 rfl dX7_setBaseRent_8 ?_
  refine g_get f_X7_46 ((HW_o (by omega)).trans hCA.co) rfl dX7_setBaseRent_9 ?_
  refine g_aload_n 0 rfl dX7_setBaseRent_12 ?_
  refine g_get f_X7_36 ((HW_o (by omega)).trans hCA.co) rfl dX7_setBaseRent_13 ?_
  refine g_world hCA.h1.eq.symm ?_
  refine gx_V0 (c_X1_remember (Pq := fun i => q_Q q (3 + i)) hCA.hi hCA.ha (fun i hi => hCA.hp hi) (fun i hi => hw (3 + i) (by omega)) hCA.h1 hr hol hkp) l_X7_260 rfl (Rcv.of hCA.hi rfl) (Nat.le_of_ble_eq_true rfl) (Nat.le_of_ble_eq_true rfl) rfl dX7_setBaseRent_16 (fun _ _ _ h => h.1) (fun E3 n3 hp => ?_)
  obtain ⟨-, hn3, P2, e3, hp2⟩ := hp
  have hn4 := hn3.symm
  subst hn4
  have hrem : Rem Γ ab n S E q f c P2 E3 := by rw [e3]; exact rem_of hCA hol hp2
  refine g_world hrem.h1.eq ?_
  refine g_aload_n 0 rfl dX7_setBaseRent_19 ?_
  refine g_get f_X7_36 ((HW_o (by omega)).trans hrem.co) rfl dX7_setBaseRent_20 ?_
  refine g_get f_X7_120 HW_h rfl dX7_setBaseRent_23 ?_
  refine g_top (hr.d (j := 0) (by decide) (by decide)) ?_
  refine g_istore_n (lv2 := [(2, _), (0, _), (1, _)]) (by decide) rfl dX7_setBaseRent_26 ?_
  refine g_aload_n 1 rfl dX7_setBaseRent_27 ?_
  refine g_get f_X7_36 ((HW_o (by omega)).trans hrem.co) rfl dX7_setBaseRent_28 ?_
  refine g_iload_n 2 rfl dX7_setBaseRent_31 ?_
  refine h_putR hr f_X7_120 w_X2_1 (by decide) rfl (j := 0) (by decide) (by decide) dX7_setBaseRent_32 (fun hr1 => ?_)
  refine g_iload_n 0 rfl dX7_setBaseRent_35 ?_
  exact g_iret ⟨rfl, rfl, P2, _, E3, hrem, rfl, hr1⟩ rfl rfl dX7_setBaseRent_36
set_option maxRecDepth 100000 in
set_option maxHeartbeats 4000000 in
theorem c_X7_setLandladyVowel_ok {Γ : Gm} {n : Nat} {ab : Nat} {E S : Hp} {q : CQ} {f : Nat → Int32} {c : Nat} {v p : Nat} (hCA : CA Γ ab n S E q) (hw : ∀ i, i < 15 → Wf (q_Q q i)) (hr : Rp Γ S f c (q_Q q 1)) (hol : q_ol q < 10) (hkp : q_kp q ≤ 10) (hv : v < 5) (hp9 : p ≤ 9) : Ct Γ 8 MX7_setLandladyVowel 0 0 [.ref ab, .int (nI v), .int (nI p)] (E) n (fun r9 E2 n2 => r9 = some (.int (f (2 + v))) ∧ n2 = n ∧ ∃ P2 R2 E3, Rem Γ ab n S E q f c P2 E3 ∧ E2 = HW Γ (ab + 50) E3 R2 ∧ Rp Γ S (upd f (2 + v) (nI p)) c R2) X0 := by
  refine Ct.of (by decide +kernel) rfl (Nat.le_of_ble_eq_true rfl) ?_
  have hc12 := hr.2.1
  have hC := hCA.co
  have hbd := hCA.bd
  refine g_world hCA.h1.eq ?_
  refine G.sub (lv2 := [(0, _), (1, _), (2, _)]) [0, 1, 2] rfl ?_
  refine g_aload_n 0 rfl dX7_setLandladyVowel_0 ?_
  refine g_iload_n 1 rfl dX7_setLandladyVowel_1 ?_
  refine gu_V (c_X7_requireVowel_ok hC hv) l_X7_133 rfl (Rcv.of ((HW_o (by omega)).trans hC) rfl) (Nat.le_of_ble_eq_true rfl) (Nat.le_of_ble_eq_true rfl) rfl dX7_setLandladyVowel_2 ?_
  refine g_aload_n 0 rfl dX7_setLandladyVowel_5 ?_
  refine g_iload_n 2 rfl dX7_setLandladyVowel_6 ?_
  refine gn_ic 0 (by decide) dX7_setLandladyVowel_7 ?_
  refine gn_bp 9 (by decide) dX7_setLandladyVowel_8 ?_
  refine gu_V (c_X7_requireRange_ok (lo := 0) (ub := 9) hC (Nat.zero_le _) hp9 (by decide)) l_X7_225 rfl (Rcv.of ((HW_o (by omega)).trans hC) rfl) (Nat.le_of_ble_eq_true rfl) (Nat.le_of_ble_eq_true rfl) rfl dX7_setLandladyVowel_10 ?_
  refine g_aload_n 0 rfl dX7_setLandladyVowel_13 ?_
  refine g_get f_X7_46 ((HW_o (by omega)).trans hCA.co) rfl dX7_setLandladyVowel_14 ?_
  refine g_aload_n 0 rfl dX7_setLandladyVowel_17 ?_
  refine g_get f_X7_36 ((HW_o (by omega)).trans hCA.co) rfl dX7_setLandladyVowel_18 ?_
  refine g_world hCA.h1.eq.symm ?_
  refine gx_V0 (c_X1_remember (Pq := fun i => q_Q q (3 + i)) hCA.hi hCA.ha (fun i hi => hCA.hp hi) (fun i hi => hw (3 + i) (by omega)) hCA.h1 hr hol hkp) l_X7_260 rfl (Rcv.of hCA.hi rfl) (Nat.le_of_ble_eq_true rfl) (Nat.le_of_ble_eq_true rfl) rfl dX7_setLandladyVowel_21 (fun _ _ _ h => h.1) (fun E3 n3 hp => ?_)
  obtain ⟨-, hn3, P2, e3, hp2⟩ := hp
  have hn4 := hn3.symm
  subst hn4
  have hrem : Rem Γ ab n S E q f c P2 E3 := by rw [e3]; exact rem_of hCA hol hp2
  refine g_world hrem.h1.eq ?_
  refine g_aload_n 0 rfl dX7_setLandladyVowel_24 ?_
  refine g_get f_X7_36 ((HW_o (by omega)).trans hrem.co) rfl dX7_setLandladyVowel_25 ?_
  refine g_get f_X7_136 HW_h rfl dX7_setLandladyVowel_28 ?_
  refine g_get f_X7_140 HW_1 rfl dX7_setLandladyVowel_31 ?_
  refine g_iload_n 1 rfl dX7_setLandladyVowel_34 ?_
  refine gn_iald HW_2 (by omega) (by decide) dX7_setLandladyVowel_35 ?_
  refine g_top (hr.lan (by omega)) ?_
  refine g_istore_n (lv2 := [(3, _), (0, _), (1, _), (2, _)]) (by decide) rfl dX7_setLandladyVowel_36 ?_
  refine g_aload_n 1 rfl dX7_setLandladyVowel_37 ?_
  refine g_get f_X7_36 ((HW_o (by omega)).trans hrem.co) rfl dX7_setLandladyVowel_38 ?_
  refine g_get f_X7_136 HW_h rfl dX7_setLandladyVowel_41 ?_
  refine g_get f_X7_140 HW_1 rfl dX7_setLandladyVowel_44 ?_
  refine g_iload_n 2 rfl dX7_setLandladyVowel_47 ?_
  refine g_iload_n 3 rfl dX7_setLandladyVowel_48 ?_
  refine gn_iast HW_2 (by omega) (by decide) HW_sL dX7_setLandladyVowel_49 ?_
  refine g_iload_n 0 rfl dX7_setLandladyVowel_50 ?_
  exact g_iret ⟨rfl, rfl, P2, _, E3, hrem, rfl, hr.sL hv⟩ rfl rfl dX7_setLandladyVowel_51
set_option maxRecDepth 100000 in
set_option maxHeartbeats 4000000 in
theorem c_X7_pay_ok {Γ : Gm} {n : Nat} {ab : Nat} {E S : Hp} {q : CQ} {f : Nat → Int32} {c : Nat} {k p : Nat} (hCA : CA Γ ab n S E q) (hw : ∀ i, i < 15 → Wf (q_Q q i)) (hr : Rp Γ S f c (q_Q q 1)) (hol : q_ol q < 10) (hkp : q_kp q ≤ 10) (hk : k < c) (hp1 : 1 ≤ p) (hp9 : p ≤ 999) : Ct Γ 8 MX7_pay 0 0 [.ref ab, .int (nI k), .int (nI p)] (E) n (fun r9 E2 n2 => r9 = some (.int (payF f k (nI p) (13 + 16 * k + 1))) ∧ n2 = n ∧ ∃ P2 R2 E3, Rem Γ ab n S E q f c P2 E3 ∧ E2 = HW Γ (ab + 50) E3 R2 ∧ Rp Γ S (payF f k (nI p)) c R2) X0 := by
  refine Ct.of (by decide +kernel) rfl (Nat.le_of_ble_eq_true rfl) ?_
  have hc12 := hr.2.1
  have hC := hCA.co
  have hbd := hCA.bd
  refine g_world hCA.h1.eq ?_
  refine G.sub (lv2 := [(0, _), (1, _), (2, _)]) [0, 1, 2] rfl ?_
  refine g_aload_n 0 rfl dX7_pay_0 ?_
  refine g_iload_n 1 rfl dX7_pay_1 ?_
  refine gv_V (c_X7_requireLodger_ok hC hr hk) l_X7_152 rfl (Rcv.of ((HW_o (by omega)).trans hC) rfl) (Nat.le_of_ble_eq_true rfl) (Nat.le_of_ble_eq_true rfl) rfl dX7_pay_2 ?_
  refine g_astore_n (lv2 := [(3, _), (0, _), (1, _), (2, _)]) (by decide) rfl dX7_pay_5 ?_
  refine g_aload_n 1 rfl dX7_pay_6 ?_
  refine g_iload_n 3 rfl dX7_pay_7 ?_
  refine gn_ic 1 (by decide) dX7_pay_8 ?_
  refine gn_sp 999 (by decide) dX7_pay_9 ?_
  refine gu_V (c_X7_requireRange_ok (lo := 1) (ub := 999) hC hp1 hp9 (by decide)) l_X7_225 rfl (Rcv.of ((HW_o (by omega)).trans hC) rfl) (Nat.le_of_ble_eq_true rfl) (Nat.le_of_ble_eq_true rfl) rfl dX7_pay_12 ?_
  refine g_aload_n 1 rfl dX7_pay_15 ?_
  refine g_get f_X7_46 ((HW_o (by omega)).trans hCA.co) rfl dX7_pay_16 ?_
  refine g_aload_n 1 rfl dX7_pay_19 ?_
  refine g_get f_X7_36 ((HW_o (by omega)).trans hCA.co) rfl dX7_pay_20 ?_
  refine g_world hCA.h1.eq.symm ?_
  refine gx_V0 (c_X1_remember (Pq := fun i => q_Q q (3 + i)) hCA.hi hCA.ha (fun i hi => hCA.hp hi) (fun i hi => hw (3 + i) (by omega)) hCA.h1 hr hol hkp) l_X7_260 rfl (Rcv.of hCA.hi rfl) (Nat.le_of_ble_eq_true rfl) (Nat.le_of_ble_eq_true rfl) rfl dX7_pay_23 (fun _ _ _ h => h.1) (fun E3 n3 hp => ?_)
  obtain ⟨-, hn3, P2, e3, hp2⟩ := hp
  have hn4 := hn3.symm
  subst hn4
  have hrem : Rem Γ ab n S E q f c P2 E3 := by rw [e3]; exact rem_of hCA hol hp2
  refine g_world hrem.h1.eq ?_
  refine g_aload_n 1 rfl dX7_pay_26 ?_
  refine g_get f_X7_36 ((HW_o (by omega)).trans hrem.co) rfl dX7_pay_27 ?_
  refine g_aload_n 0 rfl dX7_pay_30 ?_
  refine g_iload_n 3 rfl dX7_pay_31 ?_
  refine gx_V0 (c_X2_takePayment (x := nI p) hr hk) l_X7_281 rfl (Rcv.of HW_h rfl) (Nat.le_of_ble_eq_true rfl) (Nat.le_of_ble_eq_true rfl) rfl dX7_pay_32 (fun _ _ _ h => h.1) (fun E4 n4 hp => ?_)
  obtain ⟨-, hn5, R2, rfl, hr2, hO2⟩ := hp
  have hn6 := hn5.symm
  subst hn6
  rw [← hO2]
  refine g_aload_n 0 rfl dX7_pay_35 ?_
  refine g_get f_X7_161 (HW_l (hr2.o12 hk)) rfl dX7_pay_36 ?_
  refine g_top (y := payF f k (nI p) (13 + 16 * k + 1)) (hr2.row hk (by decide)) ?_
  exact g_iret ⟨rfl, rfl, P2, _, E3, hrem, rfl, hr2⟩ rfl rfl dX7_pay_39
set_option maxRecDepth 100000 in
set_option maxHeartbeats 4000000 in
theorem c_X7_moveTo_ok {Γ : Gm} {n : Nat} {ab : Nat} {E S : Hp} {q : CQ} {f : Nat → Int32} {c : Nat} {k φ : Nat} (hCA : CA Γ ab n S E q) (hw : ∀ i, i < 15 → Wf (q_Q q i)) (hr : Rp Γ S f c (q_Q q 1)) (hol : q_ol q < 10) (hkp : q_kp q ≤ 10) (hk : k < c) (hφ : φ < 5) (hf4 : ¬ 4 ≤ cntOn f (nI φ) (nI k) c) : Ct Γ 8 MX7_moveTo 0 0 [.ref ab, .int (nI k), .int (nI φ)] (E) n (fun r9 E2 n2 => r9 = some (.int (f (13 + 16 * k))) ∧ n2 = n ∧ ∃ P2 R2 E3, Rem Γ ab n S E q f c P2 E3 ∧ E2 = HW Γ (ab + 50) E3 R2 ∧ Rp Γ S (upd f (13 + 16 * k) (nI φ)) c R2) X0 := by
  refine Ct.of (by decide +kernel) rfl (Nat.le_of_ble_eq_true rfl) ?_
  have hc12 := hr.2.1
  have hC := hCA.co
  have hbd := hCA.bd
  refine g_world hCA.h1.eq ?_
  refine G.sub (lv2 := [(0, _), (1, _), (2, _)]) [0, 1, 2] rfl ?_
  refine g_aload_n 0 rfl dX7_moveTo_0 ?_
  refine g_iload_n 1 rfl dX7_moveTo_1 ?_
  refine gv_V (c_X7_requireLodger_ok hC hr hk) l_X7_152 rfl (Rcv.of ((HW_o (by omega)).trans hC) rfl) (Nat.le_of_ble_eq_true rfl) (Nat.le_of_ble_eq_true rfl) rfl dX7_moveTo_2 ?_
  refine g_astore_n (lv2 := [(3, _), (0, _), (1, _), (2, _)]) (by decide) rfl dX7_moveTo_5 ?_
  refine g_aload_n 1 rfl dX7_moveTo_6 ?_
  refine g_iload_n 3 rfl dX7_moveTo_7 ?_
  refine gn_ic 0 (by decide) dX7_moveTo_8 ?_
  refine gn_ic 4 (by decide) dX7_moveTo_9 ?_
  refine gu_V (c_X7_requireRange_ok (lo := 0) (ub := 4) hC (Nat.zero_le _) (by omega) (by decide)) l_X7_225 rfl (Rcv.of ((HW_o (by omega)).trans hC) rfl) (Nat.le_of_ble_eq_true rfl) (Nat.le_of_ble_eq_true rfl) rfl dX7_moveTo_10 ?_
  refine g_aload_n 1 rfl dX7_moveTo_13 ?_
  refine g_iload_n 3 rfl dX7_moveTo_14 ?_
  refine g_aload_n 0 rfl dX7_moveTo_15 ?_
  refine gu_V (c_X7_requirePlace_kok hC hr hk hf4) l_X7_266 rfl (Rcv.of ((HW_o (by omega)).trans hC) rfl) (Nat.le_of_ble_eq_true rfl) (Nat.le_of_ble_eq_true rfl) rfl dX7_moveTo_16 ?_
  refine g_aload_n 1 rfl dX7_moveTo_19 ?_
  refine g_get f_X7_46 ((HW_o (by omega)).trans hCA.co) rfl dX7_moveTo_20 ?_
  refine g_aload_n 1 rfl dX7_moveTo_23 ?_
  refine g_get f_X7_36 ((HW_o (by omega)).trans hCA.co) rfl dX7_moveTo_24 ?_
  refine g_world hCA.h1.eq.symm ?_
  refine gx_V0 (c_X1_remember (Pq := fun i => q_Q q (3 + i)) hCA.hi hCA.ha (fun i hi => hCA.hp hi) (fun i hi => hw (3 + i) (by omega)) hCA.h1 hr hol hkp) l_X7_260 rfl (Rcv.of hCA.hi rfl) (Nat.le_of_ble_eq_true rfl) (Nat.le_of_ble_eq_true rfl) rfl dX7_moveTo_27 (fun _ _ _ h => h.1) (fun E3 n3 hp => ?_)
  obtain ⟨-, hn3, P2, e3, hp2⟩ := hp
  have hn4 := hn3.symm
  subst hn4
  have hrem : Rem Γ ab n S E q f c P2 E3 := by rw [e3]; exact rem_of hCA hol hp2
  refine g_world hrem.h1.eq ?_
  refine g_aload_n 0 rfl dX7_moveTo_30 ?_
  refine g_get f_X7_156 (HW_l (hr.o12 (by omega))) rfl dX7_moveTo_31 ?_
  refine g_top (hr.flo (by omega)) ?_
  refine g_istore (lv2 := [(4, _), (3, _), (0, _), (1, _), (2, _)]) (by decide) rfl dX7_moveTo_34 ?_
  refine g_aload_n 1 rfl dX7_moveTo_36 ?_
  refine g_iload_n 4 rfl dX7_moveTo_37 ?_
  refine l_putR hr (by omega) f_X7_156 w_X3_1 (by decide) rfl (j := 0) (by decide) dX7_moveTo_38 (fun hr1 => ?_)
  refine g_iload 0 rfl dX7_moveTo_41 ?_
  exact g_iret ⟨rfl, rfl, P2, _, E3, hrem, rfl, hr1⟩ rfl rfl dX7_moveTo_43
set_option maxRecDepth 100000 in
set_option maxHeartbeats 4000000 in
theorem c_X7_moveOut_ok {Γ : Gm} {n : Nat} {ab : Nat} {E S : Hp} {q : CQ} {f : Nat → Int32} {c : Nat} {k : Nat} (hCA : CA Γ ab n S E q) (hw : ∀ i, i < 15 → Wf (q_Q q i)) (hr : Rp Γ S f c (q_Q q 1)) (hol : q_ol q < 10) (hkp : q_kp q ≤ 10) (hk : k < c) : Ct Γ 8 MX7_moveOut 0 0 [.ref ab, .int (nI k)] (E) n (fun r9 E2 n2 => r9 = some (.int (f (13 + 16 * k + 1))) ∧ n2 = n ∧ ∃ P2 R2 E3, Rem Γ ab n S E q f c P2 E3 ∧ E2 = HW Γ (ab + 50) E3 R2 ∧ Rp Γ S (gonF f k c) (c - 1) R2) X0 := by
  refine Ct.of (by decide +kernel) rfl (Nat.le_of_ble_eq_true rfl) ?_
  have hc12 := hr.2.1
  have hC := hCA.co
  have hbd := hCA.bd
  refine g_world hCA.h1.eq ?_
  refine G.sub (lv2 := [(0, _), (1, _)]) [0, 1] rfl ?_
  refine g_aload_n 0 rfl dX7_moveOut_0 ?_
  refine g_iload_n 1 rfl dX7_moveOut_1 ?_
  refine gv_V (c_X7_requireLodger_ok hC hr hk) l_X7_152 rfl (Rcv.of ((HW_o (by omega)).trans hC) rfl) (Nat.le_of_ble_eq_true rfl) (Nat.le_of_ble_eq_true rfl) rfl dX7_moveOut_2 ?_
  refine g_get f_X7_161 (HW_l (hr.o12 (by omega))) rfl dX7_moveOut_5 ?_
  refine g_top (hr.row (i := 1) (by omega) (by decide)) ?_
  refine g_istore_n (lv2 := [(2, _), (0, _), (1, _)]) (by decide) rfl dX7_moveOut_8 ?_
  refine g_aload_n 1 rfl dX7_moveOut_9 ?_
  refine g_get f_X7_46 ((HW_o (by omega)).trans hCA.co) rfl dX7_moveOut_10 ?_
  refine g_aload_n 1 rfl dX7_moveOut_13 ?_
  refine g_get f_X7_36 ((HW_o (by omega)).trans hCA.co) rfl dX7_moveOut_14 ?_
  refine g_world hCA.h1.eq.symm ?_
  refine gx_V0 (c_X1_remember (Pq := fun i => q_Q q (3 + i)) hCA.hi hCA.ha (fun i hi => hCA.hp hi) (fun i hi => hw (3 + i) (by omega)) hCA.h1 hr hol hkp) l_X7_260 rfl (Rcv.of hCA.hi rfl) (Nat.le_of_ble_eq_true rfl) (Nat.le_of_ble_eq_true rfl) rfl dX7_moveOut_17 (fun _ _ _ h => h.1) (fun E3 n3 hp => ?_)
  obtain ⟨-, hn3, P2, e3, hp2⟩ := hp
  have hn4 := hn3.symm
  subst hn4
  have hrem : Rem Γ ab n S E q f c P2 E3 := by rw [e3]; exact rem_of hCA hol hp2
  refine g_world hrem.h1.eq ?_
  refine g_aload_n 1 rfl dX7_moveOut_20 ?_
  refine g_get f_X7_36 ((HW_o (by omega)).trans hrem.co) rfl dX7_moveOut_21 ?_
  refine g_iload_n 2 rfl dX7_moveOut_24 ?_
  refine gu_V (c_X2_dismiss hr.1 hr.cnt hk hc12) l_X7_278 rfl (Rcv.of HW_h rfl) (Nat.le_of_ble_eq_true rfl) (Nat.le_of_ble_eq_true rfl) rfl dX7_moveOut_25 ?_
  refine g_iload_n 0 rfl dX7_moveOut_28 ?_
  exact g_iret ⟨rfl, rfl, P2, _, E3, hrem, rfl, hr.gone hk⟩ rfl rfl dX7_moveOut_29
set_option maxRecDepth 100000 in
set_option maxHeartbeats 4000000 in
theorem c_X7_advance_ok {Γ : Gm} {n : Nat} {ab : Nat} {E S : Hp} {q : CQ} {f : Nat → Int32} {c : Nat} {t : Nat} {J : Nat → Int32} (hCA : CA Γ ab n S E q) (hw : ∀ i, i < 15 → Wf (q_Q q i)) (hr : Rp Γ S f c (q_Q q 1)) (hol : q_ol q < 10) (hkp : q_kp q ≤ 10) (hok : Okr f c) (ht1 : 1 ≤ t) (ht2 : t ≤ 100) (h9 : f 8 + nI t ≤ nI 9999) : Ct Γ 8 MX7_advance 0 0 [.ref ab, .int (nI t)] (E) n (fun r9 E2 n2 => r9 = some (.int ((dysM f J t).1 9 - f 9)) ∧ n2 = n ∧ ∃ P2 R2 E3, Rem Γ ab n S E q f c P2 E3 ∧ E2 = HW Γ (ab + 50) E3 R2 ∧ ∃ c2, Rp Γ S (dysM f J t).1 c2 R2) X0 := by
  refine Ct.of (by decide +kernel) rfl (Nat.le_of_ble_eq_true rfl) ?_
  have hc12 := hr.2.1
  have hC := hCA.co
  have hbd := hCA.bd
  refine g_world hCA.h1.eq ?_
  refine G.sub (lv2 := [(0, _), (1, _)]) [0, 1] rfl ?_
  refine g_aload_n 0 rfl dX7_advance_0 ?_
  refine g_iload_n 1 rfl dX7_advance_1 ?_
  refine gn_ic 1 (by decide) dX7_advance_2 ?_
  refine gn_bp 100 (by decide) dX7_advance_3 ?_
  refine gu_V (c_X7_requireRange_ok (lo := 1) (ub := 100) hC ht1 ht2 (by decide)) l_X7_225 rfl (Rcv.of ((HW_o (by omega)).trans hC) rfl) (Nat.le_of_ble_eq_true rfl) (Nat.le_of_ble_eq_true rfl) rfl dX7_advance_5 ?_
  refine g_aload_n 0 rfl dX7_advance_8 ?_
  refine g_get f_X7_36 ((HW_o (by omega)).trans hCA.co) rfl dX7_advance_9 ?_
  refine g_get f_X7_117 HW_h rfl dX7_advance_12 ?_
  refine g_top (hr.d (j := 8) (by decide) (by decide)) ?_
  refine g_iload_n 1 rfl dX7_advance_15 ?_
  refine g_iadd dX7_advance_16 ?_
  refine gn_sp 9999 (by decide) dX7_advance_17 ?_
  refine g_icmp_le (tgt := 34) (by decide) dX7_advance_20 (fun h20 => ?_) (fun h20 => ?_)
  · -- t 34
    refine g_aload_n 0 rfl dX7_advance_34 ?_
    refine g_get f_X7_46 ((HW_o (by omega)).trans hCA.co) rfl dX7_advance_35 ?_
    refine g_aload_n 0 rfl dX7_advance_38 ?_
    refine g_get f_X7_36 ((HW_o (by omega)).trans hCA.co) rfl dX7_advance_39 ?_
    refine g_world hCA.h1.eq.symm ?_
    refine gx_V0 (c_X1_remember (Pq := fun i => q_Q q (3 + i)) hCA.hi hCA.ha (fun i hi => hCA.hp hi) (fun i hi => hw (3 + i) (by omega)) hCA.h1 hr hol hkp) l_X7_260 rfl (Rcv.of hCA.hi rfl) (Nat.le_of_ble_eq_true rfl) (Nat.le_of_ble_eq_true rfl) rfl dX7_advance_42 (fun _ _ _ h => h.1) (fun E3 n3 hp => ?_)
    obtain ⟨-, hn3, P2, e3, hp2⟩ := hp
    have hn4 := hn3.symm
    subst hn4
    have hrem : Rem Γ ab n S E q f c P2 E3 := by rw [e3]; exact rem_of hCA hol hp2
    refine g_world hrem.h1.eq ?_
    refine g_aload_n 0 rfl dX7_advance_45 ?_
    refine g_get f_X7_36 ((HW_o (by omega)).trans hrem.co) rfl dX7_advance_46 ?_
    refine g_get f_X7_146 HW_h rfl dX7_advance_49 ?_
    refine g_top (hr.d (j := 9) (by decide) (by decide)) ?_
    refine g_istore_n (lv2 := [(2, _), (0, _), (1, _)]) (by decide) rfl dX7_advance_52 ?_
    refine gn_ic 0 (by decide) dX7_advance_53 ?_
    refine g_istore_n (lv2 := [(3, _), (2, _), (0, _), (1, _)]) (by decide) rfl dX7_advance_54 ?_
    have L55 : ∀ (m55 : Nat) (i c1 : Nat) (R1 : Hr), (i + m55 = t) → (Rp Γ S (dysM f J i).1 c1 R1) → G Γ 8 MX7_advance (fun r9 E2 n2 => r9 = some (.int ((dysM f J t).1 9 - f 9)) ∧ n2 = n ∧ ∃ P2 R2 E3, Rem Γ ab n S E q f c P2 E3 ∧ E2 = HW Γ (ab + 50) E3 R2 ∧ ∃ c2, Rp Γ S (dysM f J t).1 c2 R2) X0 55 [(0, .ref ab), (1, .int (nI t)), (2, .int (f 9)), (3, .int (nI i))] [] (HW Γ (ab + 50) E3 R1) n 0 0 := by
      intro m55
      induction m55 with
      | zero =>
        intro i c1 R1 hi9 hr1
        refine g_iload_n 3 rfl dX7_advance_55 ?_
        refine g_iload_n 1 rfl dX7_advance_56 ?_
        refine gn_icmp_ge (by omega) (by omega) (tgt := 73) (by decide) dX7_advance_57 (fun h57 => ?_) (fun h57 => ?_)
        · -- t 73
          obtain rfl : i = t := by omega
          refine g_aload_n 0 rfl dX7_advance_73 ?_
          refine g_get f_X7_36 ((HW_o (by omega)).trans hrem.co) rfl dX7_advance_74 ?_
          refine g_get f_X7_146 HW_h rfl dX7_advance_77 ?_
          refine g_top (hr1.d (j := 9) (by decide) (by decide)) ?_
          refine g_iload_n 2 rfl dX7_advance_80 ?_
          refine g_isub dX7_advance_81 ?_
          exact g_iret ⟨rfl, rfl, P2, R1, E3, hrem, rfl, c1, hr1⟩ rfl rfl dX7_advance_82
        · -- f 60
          exfalso; omega
      | succ m55 ih55 =>
        intro i c1 R1 hi9 hr1
        refine g_iload_n 3 rfl dX7_advance_55 ?_
        refine g_iload_n 1 rfl dX7_advance_56 ?_
        refine gn_icmp_ge (by omega) (by omega) (tgt := 73) (by decide) dX7_advance_57 (fun h57 => ?_) (fun h57 => ?_)
        · -- t 73
          exfalso; omega
        · -- f 60
          refine g_aload_n 0 rfl dX7_advance_60 ?_
          refine g_get f_X7_36 ((HW_o (by omega)).trans hrem.co) rfl dX7_advance_61 ?_
          obtain ⟨c3, h5, h6⟩ := dysM_ok (I := J) hok i
          obtain rfl : c3 = c1 := (nI_eq (by have := h6.2.1; omega) (by have := hr1.2.1; omega)).mp (h6.1.symm.trans hr1.2.2.1)
          refine gx_V0 (c_X2_passDay (hb := ab + 50) hr1 h6.2.2) l_X7_243 rfl (Rcv.of HW_h rfl) (Nat.le_of_ble_eq_true rfl) (Nat.le_of_ble_eq_true rfl) rfl dX7_advance_64 (fun _ _ _ h => h.1) (fun E4 n4 hp => ?_)
          obtain ⟨-, hn5, R2, rfl, c2, hc2, hday⟩ := hp
          have hn6 := hn5.symm
          subst hn6
          refine gn_inc (lv2 := [(3, _), (0, _), (1, _), (2, _)]) 3 rfl (by decide) rfl dX7_advance_67 ?_
          refine g_goto (tgt := 55) (by decide) dX7_advance_70 ?_
          refine G.sub [1, 2, 3, 0] rfl ?_
          exact ih55 (i + 1) c2 R2 (by omega) (by rw [dysM, mny_eq h6]; exact (hday _).1)
    refine G.sub [2, 3, 1, 0] rfl ?_
    exact L55 t 0 c _ (Nat.zero_add _) hr
  · -- f 23
    exact absurd h9 h20
set_option maxRecDepth 100000 in
set_option maxHeartbeats 4000000 in
theorem c_X7_restore_ok {Γ : Gm} {n : Nat} {ab : Nat} {E S : Hp} {q : CQ} {f : Nat → Int32} {c : Nat} {s c9 : Nat} {g : Nat → Int32} (hCA : CA Γ ab n S E q) (hw : ∀ i, i < 15 → Wf (q_Q q i)) (hr : Rp Γ S f c (q_Q q 1)) (hol : q_ol q < 10) (hkp : q_kp q ≤ 10) (hs : s < 2) (hsv : q_sv q s = nI 1) (hg : Rp Γ S g c9 (q_Q q (13 + s))) : Ct Γ 8 MX7_restore 0 0 [.ref ab, .int (nI s)] (E) n (fun r9 E2 n2 => r9 = some (.int (g 8)) ∧ n2 = n ∧ ∃ P2 R2 E3, Rem Γ ab n S E q f c P2 E3 ∧ E2 = HW Γ (ab + 50) E3 R2 ∧ Rp Γ S (g) c9 R2) X0 := by
  refine Ct.of (by decide +kernel) rfl (Nat.le_of_ble_eq_true rfl) ?_
  have hc12 := hr.2.1
  have hC := hCA.co
  have hbd := hCA.bd
  refine g_world hCA.h1.eq ?_
  refine G.sub (lv2 := [(0, _), (1, _)]) [0, 1] rfl ?_
  refine g_aload_n 0 rfl dX7_restore_0 ?_
  refine g_iload_n 1 rfl dX7_restore_1 ?_
  refine gu_V (c_X7_requireSlot_ok hC hs) l_X7_285 rfl (Rcv.of ((HW_o (by omega)).trans hC) rfl) (Nat.le_of_ble_eq_true rfl) (Nat.le_of_ble_eq_true rfl) rfl dX7_restore_2 ?_
  refine g_aload_n 0 rfl dX7_restore_5 ?_
  refine g_get f_X7_54 ((HW_o (by omega)).trans hCA.co) rfl dX7_restore_6 ?_
  refine g_iload_n 1 rfl dX7_restore_9 ?_
  refine gn_zald ((HW_o (by omega)).trans hCA.sz) hs (by decide) dX7_restore_10 ?_
  refine g_if_ne (tgt := 25) (by decide) dX7_restore_11 (fun h11 => ?_) (fun h11 => ?_)
  · -- t 25
    refine g_aload_n 0 rfl dX7_restore_25 ?_
    refine g_get f_X7_46 ((HW_o (by omega)).trans hCA.co) rfl dX7_restore_26 ?_
    refine g_aload_n 0 rfl dX7_restore_29 ?_
    refine g_get f_X7_36 ((HW_o (by omega)).trans hCA.co) rfl dX7_restore_30 ?_
    refine g_world hCA.h1.eq.symm ?_
    refine gx_V0 (c_X1_remember (Pq := fun i => q_Q q (3 + i)) hCA.hi hCA.ha (fun i hi => hCA.hp hi) (fun i hi => hw (3 + i) (by omega)) hCA.h1 hr hol hkp) l_X7_260 rfl (Rcv.of hCA.hi rfl) (Nat.le_of_ble_eq_true rfl) (Nat.le_of_ble_eq_true rfl) rfl dX7_restore_33 (fun _ _ _ h => h.1) (fun E3 n3 hp => ?_)
    obtain ⟨-, hn3, P2, e3, hp2⟩ := hp
    have hn4 := hn3.symm
    subst hn4
    have hrem : Rem Γ ab n S E q f c P2 E3 := by rw [e3]; exact rem_of hCA hol hp2
    refine g_world hrem.h1.eq ?_
    refine g_aload_n 0 rfl dX7_restore_36 ?_
    refine g_get f_X7_36 ((HW_o (by omega)).trans hrem.co) rfl dX7_restore_37 ?_
    refine g_aload_n 0 rfl dX7_restore_40 ?_
    refine g_get f_X7_50 ((HW_o (by omega)).trans hrem.co) rfl dX7_restore_41 ?_
    refine g_iload_n 1 rfl dX7_restore_44 ?_
    refine hs_ald ((HW_o (by omega)).trans hrem.1.sv) hs (by decide) dX7_restore_45 ?_
    have hs9 := hrem.1.hs hs
    rw [qR_s hs hol] at hs9
    refine gx_V0 (c_X2_copyFrom (hb := ab + 50) hr.1 hg hs9 (Or.inr (by omega))) l_X7_75 rfl (Rcv.of HW_h rfl) (Nat.le_of_ble_eq_true rfl) (Nat.le_of_ble_eq_true rfl) rfl dX7_restore_46 (fun _ _ _ h => h.1) (fun E4 n4 hp => ?_)
    obtain ⟨-, hn5, R2, rfl, hr2, -⟩ := hp
    have hn6 := hn5.symm
    subst hn6
    refine g_aload_n 0 rfl dX7_restore_49 ?_
    refine g_get f_X7_36 ((HW_o (by omega)).trans hrem.co) rfl dX7_restore_50 ?_
    refine g_get f_X7_117 HW_h rfl dX7_restore_53 ?_
    refine g_top (hr2.d (j := 8) (by decide) (by decide)) ?_
    exact g_iret ⟨rfl, rfl, P2, _, E3, hrem, rfl, hr2⟩ rfl rfl dX7_restore_56
  · -- f 14
    exact absurd (hsv.symm.trans h11) (by decide)
set_option maxRecDepth 100000 in
set_option maxHeartbeats 4000000 in
theorem c_X7_undo_ok {Γ : Gm} {n : Nat} {ab : Nat} {E S : Hp} {q : CQ} {f : Nat → Int32} {c : Nat} {c9 : Nat} {g : Nat → Int32} (hCA : CA Γ ab n S E q) (hw : ∀ i, i < 15 → Wf (q_Q q i)) (hr : Rp Γ S f c (q_Q q 1)) (hol : q_ol q < 10) (hkp : q_kp q ≤ 10) (hk0 : 0 < q_kp q) (hg : Rp Γ S g c9 (q_Q q (3 + (q_ol q + (q_kp q - 1)) % 10))) : Ct Γ 8 MX7_undo 0 0 [.ref ab] (E) n (fun v E2 n2 => v = some (.int (nI (q_kp q - 1))) ∧ n2 = n ∧ ∃ R2, E2 = HW Γ (ab + 50) (hset E (ab + 134) (.inr (5, [.ref (ab + 135), .int (nI (q_ol q)), .int (nI (q_kp q - 1))]))) R2 ∧ Rp Γ S g c9 R2) X0 := by
  refine Ct.of (by decide +kernel) rfl (Nat.le_of_ble_eq_true rfl) ?_
  have hc12 := hr.2.1
  have hC := hCA.co
  have hbd := hCA.bd
  refine g_world hCA.h1.eq ?_
  refine G.sub (lv2 := [(0, _)]) [0] rfl ?_
  refine g_aload_n 0 rfl dX7_undo_0 ?_
  refine g_get f_X7_46 ((HW_o (by omega)).trans hCA.co) rfl dX7_undo_1 ?_
  refine g_get f_X7_149 ((HW_o (by omega)).trans hCA.hi) rfl dX7_undo_4 ?_
  refine gn_if_ne (by omega) (tgt := 21) (by decide) dX7_undo_7 (fun h7 => ?_) (fun h7 => ?_)
  · -- t 21
    refine g_aload_n 0 rfl dX7_undo_21 ?_
    refine g_get f_X7_46 ((HW_o (by omega)).trans hCA.co) rfl dX7_undo_22 ?_
    refine g_aload_n 0 rfl dX7_undo_25 ?_
    refine g_get f_X7_36 ((HW_o (by omega)).trans hCA.co) rfl dX7_undo_26 ?_
    refine g_world hCA.h1.eq.symm ?_
    refine gx_V0 (c_X1_takeBack hCA.hi hCA.ha (hCA.hp (show (q_ol q + (q_kp q - 1)) % 10 < 10 by omega)) hCA.h1 hr.1 hg hol hkp hk0) l_X7_292 rfl (Rcv.of hCA.hi rfl) (Nat.le_of_ble_eq_true rfl) (Nat.le_of_ble_eq_true rfl) rfl dX7_undo_29 (fun _ _ _ h => h.1) (fun E4 n4 hp => ?_)
    obtain ⟨-, hn5, R2, rfl, hr2⟩ := hp
    have hn6 := hn5.symm
    subst hn6
    refine g_aload_n 0 rfl dX7_undo_32 ?_
    refine g_get f_X7_46 ((HW_o (by omega)).trans ((hset_n (by omega)).trans hCA.co)) rfl dX7_undo_33 ?_
    refine g_get f_X7_149 ((HW_o (by omega)).trans hset_s) rfl dX7_undo_36 ?_
    exact g_iret ⟨rfl, rfl, R2, rfl, hr2⟩ rfl rfl dX7_undo_39
  · -- f 10
    exfalso; omega
set_option maxRecDepth 100000 in
set_option maxHeartbeats 4000000 in
theorem c_X7_save_ok {Γ : Gm} {n : Nat} {ab : Nat} {E S : Hp} {q : CQ} {f : Nat → Int32} {c : Nat} {s : Nat} (hCA : CA Γ ab n S E q) (hw : ∀ i, i < 15 → Wf (q_Q q i)) (hr : Rp Γ S f c (q_Q q 1)) (hol : q_ol q < 10) (hkp : q_kp q ≤ 10) (hs : s < 2) : Ct Γ 8 MX7_save 0 0 [.ref ab, .int (nI s)] (E) n (fun v E2 n2 => v = some (.int (f 8)) ∧ n2 = n ∧ ∃ R2, E2 = hset (HW Γ (ab + 558 + 42 * s) E R2) (ab + 557) (.inl (gA Γ 2, 2, .inl (upd (q_sv q) s (nI 1)))) ∧ Rp Γ S f c R2) X0 := by
  refine Ct.of (by decide +kernel) rfl (Nat.le_of_ble_eq_true rfl) ?_
  have hc12 := hr.2.1
  have hC := hCA.co
  have hbd := hCA.bd
  refine g_world hCA.h1.eq ?_
  refine G.sub (lv2 := [(0, _), (1, _)]) [0, 1] rfl ?_
  refine g_aload_n 0 rfl dX7_save_0 ?_
  refine g_iload_n 1 rfl dX7_save_1 ?_
  refine gu_V (c_X7_requireSlot_ok hC hs) l_X7_285 rfl (Rcv.of ((HW_o (by omega)).trans hC) rfl) (Nat.le_of_ble_eq_true rfl) (Nat.le_of_ble_eq_true rfl) rfl dX7_save_2 ?_
  refine g_aload_n 0 rfl dX7_save_5 ?_
  refine g_get f_X7_50 ((HW_o (by omega)).trans hCA.co) rfl dX7_save_6 ?_
  refine g_iload_n 1 rfl dX7_save_9 ?_
  refine hs_ald ((HW_o (by omega)).trans hCA.sv) hs (by decide) dX7_save_10 ?_
  refine g_aload_n 0 rfl dX7_save_11 ?_
  refine g_get f_X7_36 ((HW_o (by omega)).trans hCA.co) rfl dX7_save_12 ?_
  refine g_world hCA.h1.eq.symm ?_
  refine g_world (hCA.hs hs).eq ?_
  refine gx_V0 (c_X2_copyFrom (hb := ab + 558 + 42 * s) (hw (13 + s) (by omega)) hr hCA.h1 (Or.inl (by omega))) l_X7_75 rfl (Rcv.of HW_h rfl) (Nat.le_of_ble_eq_true rfl) (Nat.le_of_ble_eq_true rfl) rfl dX7_save_15 (fun _ _ _ h => h.1) (fun E4 n4 hp => ?_)
  obtain ⟨-, hn5, R2, rfl, hr2, -⟩ := hp
  have hn6 := hn5.symm
  subst hn6
  refine g_aload_n 0 rfl dX7_save_18 ?_
  refine g_get f_X7_54 ((HW_o (by omega)).trans hCA.co) rfl dX7_save_19 ?_
  refine g_iload_n 1 rfl dX7_save_22 ?_
  refine gn_ic 1 (by decide) dX7_save_23 ?_
  refine gn_zast ((HW_o (by omega)).trans hCA.sz) hs (by decide) (by rw [show vp_nar .boolean (nI 1) = nI 1 by decide +kernel]) dX7_save_24 ?_
  refine g_aload_n 0 rfl dX7_save_25 ?_
  refine g_get f_X7_36 ((hset_n (by omega)).trans ((HW_o (by omega)).trans hCA.co)) rfl dX7_save_26 ?_
  refine g_get f_X7_117 ((hset_n (by omega)).trans ((HW_o (by omega)).trans (hCA.h1 0 (by decide)))) rfl dX7_save_29 ?_
  exact g_iret ⟨by rw [← hr.d (j := 8) (by decide) (by decide)], rfl, R2, rfl, hr2⟩ rfl rfl dX7_save_32
set_option maxRecDepth 100000 in
set_option maxHeartbeats 4000000 in
theorem c_X7_moveIn_ok {Γ : Gm} {n : Nat} {ab : Nat} {E S : Hp} {q : CQ} {f : Nat → Int32} {c : Nat} {φ p a : Nat} (hCA : CA Γ ab n S E q) (hw : ∀ i, i < 15 → Wf (q_Q q i)) (hr : Rp Γ S f c (q_Q q 1)) (hol : q_ol q < 10) (hkp : q_kp q ≤ 10) (hφ : φ < 5) (hp9 : p ≤ 999) (ha9 : a ≤ 99999) (hcl : c < 12) (hf4 : ¬ 4 ≤ cntOn f (nI φ) (-1) c) : Ct Γ 10 MX7_moveIn 2 44 [.ref ab, .int (nI φ), .int (nI p), .int (nI a)] (E) n (fun v E2 n2 => v = some (.int (nI c)) ∧ n2 = n + 1 + 1 ∧ ∃ (P2 R2 : Hr) (E3 : Hp) (y : Nat → Int32), Rem Γ ab n S E q f c P2 E3 ∧ y 0 = nI (frL f c 26 97) ∧ R2 = rcR (q_Q q 1) n (nI φ) (nI p) a c ∧ E2 = HW Γ (ab + 50) (hset (hset E3 n (.inr (0, [.ref (n + 1), .int (nI 0), .int (nI 0), .int (nI 0)]))) (n + 1) (.inl (gA Γ 1, 1, .inl y))) R2) X0 := by
  refine Ct.of (by decide +kernel) rfl (Nat.le_of_ble_eq_true rfl) ?_
  have hc12 := hr.2.1
  have hC := hCA.co
  have hbd := hCA.bd
  refine g_world hCA.h1.eq ?_
  refine G.sub (lv2 := [(0, _), (1, _), (2, _), (3, _)]) [0, 1, 2, 3] rfl ?_
  refine g_aload_n 0 rfl dX7_moveIn_0 ?_
  refine g_iload_n 1 rfl dX7_moveIn_1 ?_
  refine gn_ic 0 (by decide) dX7_moveIn_2 ?_
  refine gn_ic 4 (by decide) dX7_moveIn_3 ?_
  refine gu_V (c_X7_requireRange_ok (lo := 0) (ub := 4) hC (Nat.zero_le _) (by omega) (by decide)) l_X7_225 rfl (Rcv.of ((HW_o (by omega)).trans hC) rfl) (Nat.le_of_ble_eq_true rfl) (Nat.le_of_ble_eq_true rfl) rfl dX7_moveIn_4 ?_
  refine g_aload_n 0 rfl dX7_moveIn_7 ?_
  refine g_iload_n 2 rfl dX7_moveIn_8 ?_
  refine gn_ic 0 (by decide) dX7_moveIn_9 ?_
  refine gn_sp 999 (by decide) dX7_moveIn_10 ?_
  refine gu_V (c_X7_requireRange_ok (lo := 0) (ub := 999) hC (Nat.zero_le _) hp9 (by decide)) l_X7_225 rfl (Rcv.of ((HW_o (by omega)).trans hC) rfl) (Nat.le_of_ble_eq_true rfl) (Nat.le_of_ble_eq_true rfl) rfl dX7_moveIn_13 ?_
  refine g_aload_n 0 rfl dX7_moveIn_16 ?_
  refine g_iload_n 3 rfl dX7_moveIn_17 ?_
  refine gn_ic 0 (by decide) dX7_moveIn_18 ?_
  refine gn_ldcw (wl_5 59 rfl rfl) dX7_moveIn_19 ?_
  refine gu_V (c_X7_requireRange_ok (lo := 0) (ub := 99999) hC (Nat.zero_le _) ha9 (by decide)) l_X7_225 rfl (Rcv.of ((HW_o (by omega)).trans hC) rfl) (Nat.le_of_ble_eq_true rfl) (Nat.le_of_ble_eq_true rfl) rfl dX7_moveIn_22 ?_
  refine g_aload_n 0 rfl dX7_moveIn_25 ?_
  refine g_get f_X7_36 ((HW_o (by omega)).trans hCA.co) rfl dX7_moveIn_26 ?_
  refine g_get f_X7_114 HW_h rfl dX7_moveIn_29 ?_
  refine g_top hr.cnt ?_
  refine gn_bp 12 (by decide) dX7_moveIn_32 ?_
  refine gn_icmp_lt (by omega) (by omega) (tgt := 48) (by decide) dX7_moveIn_34 (fun h34 => ?_) (fun h34 => ?_)
  · -- t 48
    refine g_aload_n 0 rfl dX7_moveIn_48 ?_
    refine g_iload_n 1 rfl dX7_moveIn_49 ?_
    refine g_null dX7_moveIn_50 ?_
    refine gu_V (c_X7_requirePlace_0ok hC hr hf4) l_X7_266 rfl (Rcv.of ((HW_o (by omega)).trans hC) rfl) (Nat.le_of_ble_eq_true rfl) (Nat.le_of_ble_eq_true rfl) rfl dX7_moveIn_51 ?_
    refine g_aload_n 0 rfl dX7_moveIn_54 ?_
    refine g_get f_X7_46 ((HW_o (by omega)).trans hCA.co) rfl dX7_moveIn_55 ?_
    refine g_aload_n 0 rfl dX7_moveIn_58 ?_
    refine g_get f_X7_36 ((HW_o (by omega)).trans hCA.co) rfl dX7_moveIn_59 ?_
    refine g_world hCA.h1.eq.symm ?_
    refine gx_V0 (c_X1_remember (Pq := fun i => q_Q q (3 + i)) hCA.hi hCA.ha (fun i hi => hCA.hp hi) (fun i hi => hw (3 + i) (by omega)) hCA.h1 hr hol hkp) l_X7_260 rfl (Rcv.of hCA.hi rfl) (Nat.le_of_ble_eq_true rfl) (Nat.le_of_ble_eq_true rfl) rfl dX7_moveIn_62 (fun _ _ _ h => h.1) (fun E3 n3 hp => ?_)
    obtain ⟨-, hn3, P2, e3, hp2⟩ := hp
    have hn4 := hn3.symm
    subst hn4
    have hrem : Rem Γ ab n S E q f c P2 E3 := by rw [e3]; exact rem_of hCA hol hp2
    refine g_world hrem.h1.eq ?_
    refine g_aload_n 0 rfl dX7_moveIn_65 ?_
    refine g_get f_X7_36 ((HW_o (by omega)).trans hrem.co) rfl dX7_moveIn_66 ?_
    refine g_aload_n 0 rfl dX7_moveIn_69 ?_
    refine g_get f_X7_36 ((HW_o (by omega)).trans hrem.co) rfl dX7_moveIn_70 ?_
    refine gx_Vr (c_X2_unusedLetter hr (fun a v hv => by rw [← hrem.h1.eq]; exact (hrem.1.st a v hv).1) (frL_26 hc12).2) l_X7_270 rfl (Rcv.of HW_h rfl) (Nat.le_of_ble_eq_true rfl) (Nat.le_of_ble_eq_true rfl) rfl dX7_moveIn_73 (fun _ _ _ h => ⟨_, h.1⟩) (fun x4 E4 n4 hp => ?_)
    obtain ⟨hx4, hn5, y, rfl, hy⟩ := hp
    cases hx4
    subst hn5
    refine g_world (E2 := HW Γ (ab + 50) (hset (hset E3 n (.inr (0, [.ref (n + 1), .int (nI 0), .int (nI 0), .int (nI 0)]))) (n + 1) (.inl (gA Γ 1, 1, .inl y))) (q_Q q 1)) (by rw [hset_HW (by omega), hset_HW (by omega)]) ?_
    refine g_iload_n 1 rfl dX7_moveIn_76 ?_
    refine g_iload_n 2 rfl dX7_moveIn_77 ?_
    refine g_iload_n 3 rfl dX7_moveIn_78 ?_
    refine gv_V (c_X2_receive hr.1 hr.cnt hcl (by omega)) l_X7_274 rfl (Rcv.of HW_h rfl) (Nat.le_of_ble_eq_true rfl) (Nat.le_of_ble_eq_true rfl) rfl dX7_moveIn_79 ?_
    exact g_iret ⟨rfl, rfl, P2, _, E3, y, hrem, hy, rfl, rfl⟩ rfl rfl dX7_moveIn_82
  · -- f 37
    exact absurd hcl h34
end GJ26
