section GM8
set_option maxRecDepth 100000 in
set_option maxHeartbeats 4000000 in
theorem c_X8_day {Γ : Gm} {mo n : Nat} {F : Hp} {I : Nat → Int32} {A : Nat → Nat → Int32} {f : Nat → Int32}   : Ct Γ 2 MX8_day 0 0 [.ref mo] (MW Γ mo F I A f) n (Rt (some (.int (f 8))) (MW Γ mo F (upd I 2 (nI 0)) A f) n) X0 := by
  refine Ct.of (by decide +kernel) rfl (Nat.le_of_ble_eq_true rfl) ?_
  refine G.sub (lv2 := [(0, _)]) [0] rfl ?_
  refine g_aload_n 0 rfl dX8_day_0 ?_
  refine m_get 0 rfl f_X8_19 rfl dX8_day_1 dX8_day_2 ?_
  refine gn_bp 8 (by decide) dX8_day_5 ?_
  refine gn_iald MW_3 (by omega) (by decide) dX8_day_7 ?_
  refine gv_V (c_X8_told ) l_X8_222 rfl m_rcv (Nat.le_of_ble_eq_true rfl) (Nat.le_of_ble_eq_true rfl) rfl dX8_day_8 ?_
  exact g_iret ⟨rfl, rfl, rfl⟩ rfl rfl dX8_day_11
set_option maxRecDepth 100000 in
set_option maxHeartbeats 4000000 in
theorem c_X8_lodgerCount {Γ : Gm} {mo n : Nat} {F : Hp} {I : Nat → Int32} {A : Nat → Nat → Int32} {f : Nat → Int32}   : Ct Γ 2 MX8_lodgerCount 0 0 [.ref mo] (MW Γ mo F I A f) n (Rt (some (.int (f 7))) (MW Γ mo F (upd I 2 (nI 0)) A f) n) X0 := by
  refine Ct.of (by decide +kernel) rfl (Nat.le_of_ble_eq_true rfl) ?_
  refine G.sub (lv2 := [(0, _)]) [0] rfl ?_
  refine g_aload_n 0 rfl dX8_lodgerCount_0 ?_
  refine m_get 0 rfl f_X8_19 rfl dX8_lodgerCount_1 dX8_lodgerCount_2 ?_
  refine gn_bp 7 (by decide) dX8_lodgerCount_5 ?_
  refine gn_iald MW_3 (by omega) (by decide) dX8_lodgerCount_7 ?_
  refine gv_V (c_X8_told ) l_X8_222 rfl m_rcv (Nat.le_of_ble_eq_true rfl) (Nat.le_of_ble_eq_true rfl) rfl dX8_lodgerCount_8 ?_
  exact g_iret ⟨rfl, rfl, rfl⟩ rfl rfl dX8_lodgerCount_11
set_option maxRecDepth 100000 in
set_option maxHeartbeats 4000000 in
theorem c_X8_baseRent {Γ : Gm} {mo n : Nat} {F : Hp} {I : Nat → Int32} {A : Nat → Nat → Int32} {f : Nat → Int32}   : Ct Γ 2 MX8_baseRent 0 0 [.ref mo] (MW Γ mo F I A f) n (Rt (some (.int (f 0))) (MW Γ mo F (upd I 2 (nI 0)) A f) n) X0 := by
  refine Ct.of (by decide +kernel) rfl (Nat.le_of_ble_eq_true rfl) ?_
  refine G.sub (lv2 := [(0, _)]) [0] rfl ?_
  refine g_aload_n 0 rfl dX8_baseRent_0 ?_
  refine m_get 0 rfl f_X8_19 rfl dX8_baseRent_1 dX8_baseRent_2 ?_
  refine gn_ic 0 (by decide) dX8_baseRent_5 ?_
  refine gn_iald MW_3 (by omega) (by decide) dX8_baseRent_6 ?_
  refine gv_V (c_X8_told ) l_X8_222 rfl m_rcv (Nat.le_of_ble_eq_true rfl) (Nat.le_of_ble_eq_true rfl) rfl dX8_baseRent_7 ?_
  exact g_iret ⟨rfl, rfl, rfl⟩ rfl rfl dX8_baseRent_10
set_option maxRecDepth 100000 in
set_option maxHeartbeats 4000000 in
theorem c_X8_tolerance {Γ : Gm} {mo n : Nat} {F : Hp} {I : Nat → Int32} {A : Nat → Nat → Int32} {f : Nat → Int32}   : Ct Γ 2 MX8_tolerance 0 0 [.ref mo] (MW Γ mo F I A f) n (Rt (some (.int (f 1))) (MW Γ mo F (upd I 2 (nI 0)) A f) n) X0 := by
  refine Ct.of (by decide +kernel) rfl (Nat.le_of_ble_eq_true rfl) ?_
  refine G.sub (lv2 := [(0, _)]) [0] rfl ?_
  refine g_aload_n 0 rfl dX8_tolerance_0 ?_
  refine m_get 0 rfl f_X8_19 rfl dX8_tolerance_1 dX8_tolerance_2 ?_
  refine gn_ic 1 (by decide) dX8_tolerance_5 ?_
  refine gn_iald MW_3 (by omega) (by decide) dX8_tolerance_6 ?_
  refine gv_V (c_X8_told ) l_X8_222 rfl m_rcv (Nat.le_of_ble_eq_true rfl) (Nat.le_of_ble_eq_true rfl) rfl dX8_tolerance_7 ?_
  exact g_iret ⟨rfl, rfl, rfl⟩ rfl rfl dX8_tolerance_10
set_option maxRecDepth 100000 in
set_option maxHeartbeats 4000000 in
theorem c_X8_evictions {Γ : Gm} {mo n : Nat} {F : Hp} {I : Nat → Int32} {A : Nat → Nat → Int32} {f : Nat → Int32}   : Ct Γ 2 MX8_evictions 0 0 [.ref mo] (MW Γ mo F I A f) n (Rt (some (.int (f 9))) (MW Γ mo F (upd I 2 (nI 0)) A f) n) X0 := by
  refine Ct.of (by decide +kernel) rfl (Nat.le_of_ble_eq_true rfl) ?_
  refine G.sub (lv2 := [(0, _)]) [0] rfl ?_
  refine g_aload_n 0 rfl dX8_evictions_0 ?_
  refine m_get 0 rfl f_X8_19 rfl dX8_evictions_1 dX8_evictions_2 ?_
  refine gn_bp 9 (by decide) dX8_evictions_5 ?_
  refine gn_iald MW_3 (by omega) (by decide) dX8_evictions_7 ?_
  refine gv_V (c_X8_told ) l_X8_222 rfl m_rcv (Nat.le_of_ble_eq_true rfl) (Nat.le_of_ble_eq_true rfl) rfl dX8_evictions_8 ?_
  exact g_iret ⟨rfl, rfl, rfl⟩ rfl rfl dX8_evictions_11
set_option maxRecDepth 100000 in
set_option maxHeartbeats 4000000 in
theorem c_X8_totalPaid {Γ : Gm} {mo n : Nat} {F : Hp} {I : Nat → Int32} {A : Nat → Nat → Int32} {f : Nat → Int32}   : Ct Γ 2 MX8_totalPaid 0 0 [.ref mo] (MW Γ mo F I A f) n (Rt (some (.int (f 10))) (MW Γ mo F (upd I 2 (nI 0)) A f) n) X0 := by
  refine Ct.of (by decide +kernel) rfl (Nat.le_of_ble_eq_true rfl) ?_
  refine G.sub (lv2 := [(0, _)]) [0] rfl ?_
  refine g_aload_n 0 rfl dX8_totalPaid_0 ?_
  refine m_get 0 rfl f_X8_19 rfl dX8_totalPaid_1 dX8_totalPaid_2 ?_
  refine gn_bp 10 (by decide) dX8_totalPaid_5 ?_
  refine gn_iald MW_3 (by omega) (by decide) dX8_totalPaid_7 ?_
  refine gv_V (c_X8_told ) l_X8_222 rfl m_rcv (Nat.le_of_ble_eq_true rfl) (Nat.le_of_ble_eq_true rfl) rfl dX8_totalPaid_8 ?_
  exact g_iret ⟨rfl, rfl, rfl⟩ rfl rfl dX8_totalPaid_11
set_option maxRecDepth 100000 in
set_option maxHeartbeats 4000000 in
theorem c_X8_totalCharged {Γ : Gm} {mo n : Nat} {F : Hp} {I : Nat → Int32} {A : Nat → Nat → Int32} {f : Nat → Int32}   : Ct Γ 2 MX8_totalCharged 0 0 [.ref mo] (MW Γ mo F I A f) n (Rt (some (.int (f 11))) (MW Γ mo F (upd I 2 (nI 0)) A f) n) X0 := by
  refine Ct.of (by decide +kernel) rfl (Nat.le_of_ble_eq_true rfl) ?_
  refine G.sub (lv2 := [(0, _)]) [0] rfl ?_
  refine g_aload_n 0 rfl dX8_totalCharged_0 ?_
  refine m_get 0 rfl f_X8_19 rfl dX8_totalCharged_1 dX8_totalCharged_2 ?_
  refine gn_bp 11 (by decide) dX8_totalCharged_5 ?_
  refine gn_iald MW_3 (by omega) (by decide) dX8_totalCharged_7 ?_
  refine gv_V (c_X8_told ) l_X8_222 rfl m_rcv (Nat.le_of_ble_eq_true rfl) (Nat.le_of_ble_eq_true rfl) rfl dX8_totalCharged_8 ?_
  exact g_iret ⟨rfl, rfl, rfl⟩ rfl rfl dX8_totalCharged_11
set_option maxRecDepth 100000 in
set_option maxHeartbeats 4000000 in
theorem c_X8_settled {Γ : Gm} {mo n : Nat} {F : Hp} {I : Nat → Int32} {A : Nat → Nat → Int32} {f : Nat → Int32}   : Ct Γ 2 MX8_settled 0 0 [.ref mo] (MW Γ mo F I A f) n (Rt (some (.int (f 12))) (MW Γ mo F (upd I 2 (nI 0)) A f) n) X0 := by
  refine Ct.of (by decide +kernel) rfl (Nat.le_of_ble_eq_true rfl) ?_
  refine G.sub (lv2 := [(0, _)]) [0] rfl ?_
  refine g_aload_n 0 rfl dX8_settled_0 ?_
  refine m_get 0 rfl f_X8_19 rfl dX8_settled_1 dX8_settled_2 ?_
  refine gn_bp 12 (by decide) dX8_settled_5 ?_
  refine gn_iald MW_3 (by omega) (by decide) dX8_settled_7 ?_
  refine gv_V (c_X8_told ) l_X8_222 rfl m_rcv (Nat.le_of_ble_eq_true rfl) (Nat.le_of_ble_eq_true rfl) rfl dX8_settled_8 ?_
  exact g_iret ⟨rfl, rfl, rfl⟩ rfl rfl dX8_settled_11
set_option maxRecDepth 100000 in
set_option maxHeartbeats 4000000 in
theorem c_X8_errorKind {Γ : Gm} {mo n : Nat} {F : Hp} {I : Nat → Int32} {A : Nat → Nat → Int32} {f : Nat → Int32}   : Ct Γ 2 MX8_errorKind 0 0 [.ref mo] (MW Γ mo F I A f) n (Rt (some (.int (I 17))) (MW Γ mo F (upd I 2 (nI 0)) A f) n) X0 := by
  refine Ct.of (by decide +kernel) rfl (Nat.le_of_ble_eq_true rfl) ?_
  refine G.sub (lv2 := [(0, _)]) [0] rfl ?_
  refine g_aload_n 0 rfl dX8_errorKind_0 ?_
  refine m_get 0 rfl f_X8_231 rfl dX8_errorKind_1 dX8_errorKind_2 ?_
  refine gv_V (c_X8_told ) l_X8_222 rfl m_rcv (Nat.le_of_ble_eq_true rfl) (Nat.le_of_ble_eq_true rfl) rfl dX8_errorKind_5 ?_
  exact g_iret ⟨rfl, rfl, rfl⟩ rfl rfl dX8_errorKind_8
set_option maxRecDepth 100000 in
set_option maxHeartbeats 4000000 in
theorem c_X8_errorOffset {Γ : Gm} {mo n : Nat} {F : Hp} {I : Nat → Int32} {A : Nat → Nat → Int32} {f : Nat → Int32}   : Ct Γ 2 MX8_errorOffset 0 0 [.ref mo] (MW Γ mo F I A f) n (Rt (some (.int (I 18))) (MW Γ mo F (upd I 2 (nI 0)) A f) n) X0 := by
  refine Ct.of (by decide +kernel) rfl (Nat.le_of_ble_eq_true rfl) ?_
  refine G.sub (lv2 := [(0, _)]) [0] rfl ?_
  refine g_aload_n 0 rfl dX8_errorOffset_0 ?_
  refine m_get 0 rfl f_X8_49 rfl dX8_errorOffset_1 dX8_errorOffset_2 ?_
  refine gv_V (c_X8_told ) l_X8_222 rfl m_rcv (Nat.le_of_ble_eq_true rfl) (Nat.le_of_ble_eq_true rfl) rfl dX8_errorOffset_5 ?_
  exact g_iret ⟨rfl, rfl, rfl⟩ rfl rfl dX8_errorOffset_8
set_option maxRecDepth 100000 in
set_option maxHeartbeats 4000000 in
theorem c_X8_undoCount {Γ : Gm} {mo n : Nat} {F : Hp} {I : Nat → Int32} {A : Nat → Nat → Int32} {f : Nat → Int32}   : Ct Γ 2 MX8_undoCount 0 0 [.ref mo] (MW Γ mo F I A f) n (Rt (some (.int (I 6))) (MW Γ mo F (upd I 2 (nI 0)) A f) n) X0 := by
  refine Ct.of (by decide +kernel) rfl (Nat.le_of_ble_eq_true rfl) ?_
  refine G.sub (lv2 := [(0, _)]) [0] rfl ?_
  refine g_aload_n 0 rfl dX8_undoCount_0 ?_
  refine m_get 0 rfl f_X8_127 rfl dX8_undoCount_1 dX8_undoCount_2 ?_
  refine gv_V (c_X8_told ) l_X8_222 rfl m_rcv (Nat.le_of_ble_eq_true rfl) (Nat.le_of_ble_eq_true rfl) rfl dX8_undoCount_5 ?_
  exact g_iret ⟨rfl, rfl, rfl⟩ rfl rfl dX8_undoCount_8
set_option maxRecDepth 100000 in
set_option maxHeartbeats 4000000 in
theorem c_X8_daysLeft {Γ : Gm} {mo n : Nat} {F : Hp} {I : Nat → Int32} {A : Nat → Nat → Int32} {f : Nat → Int32}   : Ct Γ 1 MX8_daysLeft 0 0 [.ref mo] (MW Γ mo F I A f) n (Rt (some (.int (nI 7 - (f 8 - f 8 / nI 7 * nI 7)))) (MW Γ mo F I A f) n) X0 := by
  refine Ct.of (by decide +kernel) rfl (Nat.le_of_ble_eq_true rfl) ?_
  refine G.sub (lv2 := [(0, _)]) [0] rfl ?_
  refine gn_bp 7 (by decide) dX8_daysLeft_0 ?_
  refine m_get 0 rfl f_X8_19 rfl dX8_daysLeft_2 dX8_daysLeft_3 ?_
  refine gn_bp 8 (by decide) dX8_daysLeft_6 ?_
  refine gn_iald MW_3 (by omega) (by decide) dX8_daysLeft_8 ?_
  refine gn_bp 7 (by decide) dX8_daysLeft_9 ?_
  refine g_irem (by decide) dX8_daysLeft_11 ?_
  refine g_isub dX8_daysLeft_12 ?_
  exact g_iret ⟨rfl, rfl, rfl⟩ rfl rfl dX8_daysLeft_13
set_option maxRecDepth 100000 in
set_option maxHeartbeats 4000000 in
theorem c_X8_daysToInspection {Γ : Gm} {mo n : Nat} {F : Hp} {I : Nat → Int32} {A : Nat → Nat → Int32} {f : Nat → Int32}   : Ct Γ 2 MX8_daysToInspection 0 0 [.ref mo] (MW Γ mo F I A f) n (Rt (some (.int (nI 7 - (f 8 - f 8 / nI 7 * nI 7)))) (MW Γ mo F (upd I 2 (nI 0)) A f) n) X0 := by
  refine Ct.of (by decide +kernel) rfl (Nat.le_of_ble_eq_true rfl) ?_
  refine G.sub (lv2 := [(0, _)]) [0] rfl ?_
  refine g_aload_n 0 rfl dX8_daysToInspection_0 ?_
  refine g_aload_n 0 rfl dX8_daysToInspection_1 ?_
  refine gv_V (c_X8_daysLeft ) l_X8_246 rfl m_rcv (Nat.le_of_ble_eq_true rfl) (Nat.le_of_ble_eq_true rfl) rfl dX8_daysToInspection_2 ?_
  refine gv_V (c_X8_told ) l_X8_222 rfl m_rcv (Nat.le_of_ble_eq_true rfl) (Nat.le_of_ble_eq_true rfl) rfl dX8_daysToInspection_5 ?_
  exact g_iret ⟨rfl, rfl, rfl⟩ rfl rfl dX8_daysToInspection_8
set_option maxRecDepth 100000 in
set_option maxHeartbeats 4000000 in
theorem c_X8_rentOf_ok {Γ : Gm} {mo n : Nat} {F : Hp} {I : Nat → Int32} {A : Nat → Nat → Int32} {f : Nat → Int32} {φ : Nat} (hφ : φ < 5) : Ct Γ 3 MX8_rentOf 0 0 [.ref mo, .int (nI φ)] (MW Γ mo F I A f) n (Rt (some (.int (f 0 + nI 5 * nI φ))) (MW Γ mo F (upd I 2 (nI 0)) A f) n) X0 := by
  refine Ct.of (by decide +kernel) rfl (Nat.le_of_ble_eq_true rfl) ?_
  refine G.sub (lv2 := [(0, _), (1, _)]) [0, 1] rfl ?_
  refine g_iload_n 1 rfl dX8_rentOf_0 ?_
  refine gv_S (c_X8_isFloor ) l_X8_240 rfl (Nat.le_of_ble_eq_true rfl) (Nat.le_of_ble_eq_true rfl) rfl dX8_rentOf_1 ?_
  refine g_if_eq (tgt := 19) (by decide) dX8_rentOf_4 (fun h4 => ?_) (fun h4 => ?_)
  · -- t 19
    exact absurd (rg_ok (Nat.zero_le _) (show φ ≤ 4 by omega) (by decide)) (bi_0 h4)
  · -- f 7
    refine g_aload_n 0 rfl dX8_rentOf_7 ?_
    refine g_aload_n 0 rfl dX8_rentOf_8 ?_
    refine g_iload_n 1 rfl dX8_rentOf_9 ?_
    refine gv_V (c_X8_rentAt ) l_X8_93 rfl m_rcv (Nat.le_of_ble_eq_true rfl) (Nat.le_of_ble_eq_true rfl) rfl dX8_rentOf_10 ?_
    refine gv_V (c_X8_told ) l_X8_222 rfl m_rcv (Nat.le_of_ble_eq_true rfl) (Nat.le_of_ble_eq_true rfl) rfl dX8_rentOf_13 ?_
    refine g_goto (tgt := 24) (by decide) dX8_rentOf_16 ?_
    exact g_iret ⟨rfl, rfl, rfl⟩ rfl rfl dX8_rentOf_24
set_option maxRecDepth 100000 in
set_option maxHeartbeats 4000000 in
theorem c_X8_rentOf_no {Γ : Gm} {mo n : Nat} {F : Hp} {I : Nat → Int32} {A : Nat → Nat → Int32} {f : Nat → Int32} {x : Int32} (hx : ¬ (nI 0 ≤ x ∧ x ≤ nI 4)) : Ct Γ 3 MX8_rentOf 0 0 [.ref mo, .int x] (MW Γ mo F I A f) n (Rt (some (.int (nI 0))) (MW Γ mo F (upd I 2 (nI 1)) A f) n) X0 := by
  refine Ct.of (by decide +kernel) rfl (Nat.le_of_ble_eq_true rfl) ?_
  refine G.sub (lv2 := [(0, _), (1, _)]) [0, 1] rfl ?_
  refine g_iload_n 1 rfl dX8_rentOf_0 ?_
  refine gv_S (c_X8_isFloor ) l_X8_240 rfl (Nat.le_of_ble_eq_true rfl) (Nat.le_of_ble_eq_true rfl) rfl dX8_rentOf_1 ?_
  refine g_if_eq (tgt := 19) (by decide) dX8_rentOf_4 (fun h4 => ?_) (fun h4 => ?_)
  · -- t 19
    refine g_aload_n 0 rfl dX8_rentOf_19 ?_
    refine gn_ic 1 (by decide) dX8_rentOf_20 ?_
    refine gv_V (c_X8_refuse ) l_X8_216 rfl m_rcv (Nat.le_of_ble_eq_true rfl) (Nat.le_of_ble_eq_true rfl) rfl dX8_rentOf_21 ?_
    exact g_iret ⟨rfl, rfl, rfl⟩ rfl rfl dX8_rentOf_24
  · -- f 7
    exact absurd (bi_n0 h4) hx
set_option maxRecDepth 100000 in
set_option maxHeartbeats 4000000 in
theorem c_X8_landladyVowel_ok {Γ : Gm} {mo n : Nat} {F : Hp} {I : Nat → Int32} {A : Nat → Nat → Int32} {f : Nat → Int32} {v : Nat} (hv : v < 5) : Ct Γ 3 MX8_landladyVowel 0 0 [.ref mo, .int (nI v)] (MW Γ mo F I A f) n (Rt (some (.int (f (2 + v)))) (MW Γ mo F (upd I 2 (nI 0)) A f) n) X0 := by
  refine Ct.of (by decide +kernel) rfl (Nat.le_of_ble_eq_true rfl) ?_
  refine G.sub (lv2 := [(0, _), (1, _)]) [0, 1] rfl ?_
  refine g_iload_n 1 rfl dX8_landladyVowel_0 ?_
  refine gv_S (c_X8_isVowel ) l_X8_243 rfl (Nat.le_of_ble_eq_true rfl) (Nat.le_of_ble_eq_true rfl) rfl dX8_landladyVowel_1 ?_
  refine g_if_eq (tgt := 22) (by decide) dX8_landladyVowel_4 (fun h4 => ?_) (fun h4 => ?_)
  · -- t 22
    exact absurd (rg_ok (Nat.zero_le _) (show v ≤ 4 by omega) (by decide)) (bi_0 h4)
  · -- f 7
    refine g_aload_n 0 rfl dX8_landladyVowel_7 ?_
    refine m_get 0 rfl f_X8_19 rfl dX8_landladyVowel_8 dX8_landladyVowel_9 ?_
    refine gn_ic 2 (by decide) dX8_landladyVowel_12 ?_
    refine g_iload_n 1 rfl dX8_landladyVowel_13 ?_
    refine gn_iadd dX8_landladyVowel_14 ?_
    refine gn_iald MW_3 (by omega) (by decide) dX8_landladyVowel_15 ?_
    refine gv_V (c_X8_told ) l_X8_222 rfl m_rcv (Nat.le_of_ble_eq_true rfl) (Nat.le_of_ble_eq_true rfl) rfl dX8_landladyVowel_16 ?_
    refine g_goto (tgt := 27) (by decide) dX8_landladyVowel_19 ?_
    exact g_iret ⟨rfl, rfl, rfl⟩ rfl rfl dX8_landladyVowel_27
set_option maxRecDepth 100000 in
set_option maxHeartbeats 4000000 in
theorem c_X8_landladyVowel_no {Γ : Gm} {mo n : Nat} {F : Hp} {I : Nat → Int32} {A : Nat → Nat → Int32} {f : Nat → Int32} {x : Int32} (hx : ¬ (nI 0 ≤ x ∧ x ≤ nI 4)) : Ct Γ 3 MX8_landladyVowel 0 0 [.ref mo, .int x] (MW Γ mo F I A f) n (Rt (some (.int (nI 0))) (MW Γ mo F (upd I 2 (nI 1)) A f) n) X0 := by
  refine Ct.of (by decide +kernel) rfl (Nat.le_of_ble_eq_true rfl) ?_
  refine G.sub (lv2 := [(0, _), (1, _)]) [0, 1] rfl ?_
  refine g_iload_n 1 rfl dX8_landladyVowel_0 ?_
  refine gv_S (c_X8_isVowel ) l_X8_243 rfl (Nat.le_of_ble_eq_true rfl) (Nat.le_of_ble_eq_true rfl) rfl dX8_landladyVowel_1 ?_
  refine g_if_eq (tgt := 22) (by decide) dX8_landladyVowel_4 (fun h4 => ?_) (fun h4 => ?_)
  · -- t 22
    refine g_aload_n 0 rfl dX8_landladyVowel_22 ?_
    refine gn_ic 1 (by decide) dX8_landladyVowel_23 ?_
    refine gv_V (c_X8_refuse ) l_X8_216 rfl m_rcv (Nat.le_of_ble_eq_true rfl) (Nat.le_of_ble_eq_true rfl) rfl dX8_landladyVowel_24 ?_
    exact g_iret ⟨rfl, rfl, rfl⟩ rfl rfl dX8_landladyVowel_27
  · -- f 7
    exact absurd (bi_n0 h4) hx
set_option maxRecDepth 100000 in
set_option maxHeartbeats 4000000 in
theorem c_X8_ofLodger_ok {Γ : Gm} {mo n : Nat} {F : Hp} {I : Nat → Int32} {A : Nat → Nat → Int32} {f : Nat → Int32} {k w c : Nat} (hc : f 7 = nI c) (hc12 : c ≤ 12) (hk : k < c) (hw : w < 16) : Ct Γ 3 MX8_ofLodger 0 0 [.ref mo, .int (nI k), .int (nI w)] (MW Γ mo F I A f) n (Rt (some (.int (f (13 + 16 * k + w)))) (MW Γ mo F (upd I 2 (nI 0)) A f) n) X0 := by
  refine Ct.of (by decide +kernel) rfl (Nat.le_of_ble_eq_true rfl) ?_
  refine G.sub (lv2 := [(0, _), (1, _), (2, _)]) [0, 1, 2] rfl ?_
  refine g_aload_n 0 rfl dX8_ofLodger_0 ?_
  refine g_iload_n 1 rfl dX8_ofLodger_1 ?_
  refine gv_V (c_X8_isLodger hc) l_X8_249 rfl m_rcv (Nat.le_of_ble_eq_true rfl) (Nat.le_of_ble_eq_true rfl) rfl dX8_ofLodger_2 ?_
  refine g_if_eq (tgt := 26) (by decide) dX8_ofLodger_5 (fun h5 => ?_) (fun h5 => ?_)
  · -- t 26
    exact absurd (lod_ok hk hc12) (bi_0 h5)
  · -- f 8
    refine g_aload_n 0 rfl dX8_ofLodger_8 ?_
    refine m_get 0 rfl f_X8_19 rfl dX8_ofLodger_9 dX8_ofLodger_10 ?_
    refine g_iload_n 1 rfl dX8_ofLodger_13 ?_
    refine gv_S (c_X8_l ) l_X8_56 rfl (Nat.le_of_ble_eq_true rfl) (Nat.le_of_ble_eq_true rfl) rfl dX8_ofLodger_14 ?_
    refine g_iload_n 2 rfl dX8_ofLodger_17 ?_
    refine gn_iadd dX8_ofLodger_18 ?_
    refine gn_iald MW_3 (by omega) (by decide) dX8_ofLodger_19 ?_
    refine gv_V (c_X8_told ) l_X8_222 rfl m_rcv (Nat.le_of_ble_eq_true rfl) (Nat.le_of_ble_eq_true rfl) rfl dX8_ofLodger_20 ?_
    refine g_goto (tgt := 31) (by decide) dX8_ofLodger_23 ?_
    exact g_iret ⟨rfl, rfl, rfl⟩ rfl rfl dX8_ofLodger_31
set_option maxRecDepth 100000 in
set_option maxHeartbeats 4000000 in
theorem c_X8_ofLodger_no {Γ : Gm} {mo n : Nat} {F : Hp} {I : Nat → Int32} {A : Nat → Nat → Int32} {f : Nat → Int32} {x y : Int32} {c : Nat} (hc : f 7 = nI c) (hc12 : c ≤ 12) (hx : ¬ (nI 0 ≤ x ∧ x ≤ nI c - nI 1)) : Ct Γ 3 MX8_ofLodger 0 0 [.ref mo, .int x, .int y] (MW Γ mo F I A f) n (Rt (some (.int (nI 0))) (MW Γ mo F (upd I 2 (nI 1)) A f) n) X0 := by
  refine Ct.of (by decide +kernel) rfl (Nat.le_of_ble_eq_true rfl) ?_
  refine G.sub (lv2 := [(0, _), (1, _), (2, _)]) [0, 1, 2] rfl ?_
  refine g_aload_n 0 rfl dX8_ofLodger_0 ?_
  refine g_iload_n 1 rfl dX8_ofLodger_1 ?_
  refine gv_V (c_X8_isLodger hc) l_X8_249 rfl m_rcv (Nat.le_of_ble_eq_true rfl) (Nat.le_of_ble_eq_true rfl) rfl dX8_ofLodger_2 ?_
  refine g_if_eq (tgt := 26) (by decide) dX8_ofLodger_5 (fun h5 => ?_) (fun h5 => ?_)
  · -- t 26
    refine g_aload_n 0 rfl dX8_ofLodger_26 ?_
    refine gn_ic 1 (by decide) dX8_ofLodger_27 ?_
    refine gv_V (c_X8_refuse ) l_X8_216 rfl m_rcv (Nat.le_of_ble_eq_true rfl) (Nat.le_of_ble_eq_true rfl) rfl dX8_ofLodger_28 ?_
    exact g_iret ⟨rfl, rfl, rfl⟩ rfl rfl dX8_ofLodger_31
  · -- f 8
    exact absurd (bi_n0 h5) hx
set_option maxRecDepth 100000 in
set_option maxHeartbeats 4000000 in
theorem c_X8_floorOf_ok {Γ : Gm} {mo n : Nat} {F : Hp} {I : Nat → Int32} {A : Nat → Nat → Int32} {f : Nat → Int32} {k c : Nat} (hc : f 7 = nI c) (hc12 : c ≤ 12) (hk : k < c) : Ct Γ 4 MX8_floorOf 0 0 [.ref mo, .int (nI k)] (MW Γ mo F I A f) n (Rt (some (.int (f (13 + 16 * k)))) (MW Γ mo F (upd I 2 (nI 0)) A f) n) X0 := by
  refine Ct.of (by decide +kernel) rfl (Nat.le_of_ble_eq_true rfl) ?_
  refine G.sub (lv2 := [(0, _), (1, _)]) [0, 1] rfl ?_
  refine g_aload_n 0 rfl dX8_floorOf_0 ?_
  refine g_iload_n 1 rfl dX8_floorOf_1 ?_
  refine gn_ic 0 (by decide) dX8_floorOf_2 ?_
  refine gv_V (c_X8_ofLodger_ok (w := 0) hc hc12 hk (by decide)) l_X8_252 rfl m_rcv (Nat.le_of_ble_eq_true rfl) (Nat.le_of_ble_eq_true rfl) rfl dX8_floorOf_3 ?_
  exact g_iret ⟨rfl, rfl, rfl⟩ rfl rfl dX8_floorOf_6
set_option maxRecDepth 100000 in
set_option maxHeartbeats 4000000 in
theorem c_X8_floorOf_no {Γ : Gm} {mo n : Nat} {F : Hp} {I : Nat → Int32} {A : Nat → Nat → Int32} {f : Nat → Int32} {x : Int32} {c : Nat} (hc : f 7 = nI c) (hc12 : c ≤ 12) (hx : ¬ (nI 0 ≤ x ∧ x ≤ nI c - nI 1)) : Ct Γ 4 MX8_floorOf 0 0 [.ref mo, .int x] (MW Γ mo F I A f) n (Rt (some (.int (nI 0))) (MW Γ mo F (upd I 2 (nI 1)) A f) n) X0 := by
  refine Ct.of (by decide +kernel) rfl (Nat.le_of_ble_eq_true rfl) ?_
  refine G.sub (lv2 := [(0, _), (1, _)]) [0, 1] rfl ?_
  refine g_aload_n 0 rfl dX8_floorOf_0 ?_
  refine g_iload_n 1 rfl dX8_floorOf_1 ?_
  refine gn_ic 0 (by decide) dX8_floorOf_2 ?_
  refine gv_V (c_X8_ofLodger_no hc hc12 hx) l_X8_252 rfl m_rcv (Nat.le_of_ble_eq_true rfl) (Nat.le_of_ble_eq_true rfl) rfl dX8_floorOf_3 ?_
  exact g_iret ⟨rfl, rfl, rfl⟩ rfl rfl dX8_floorOf_6
set_option maxRecDepth 100000 in
set_option maxHeartbeats 4000000 in
theorem c_X8_balanceOf_ok {Γ : Gm} {mo n : Nat} {F : Hp} {I : Nat → Int32} {A : Nat → Nat → Int32} {f : Nat → Int32} {k c : Nat} (hc : f 7 = nI c) (hc12 : c ≤ 12) (hk : k < c) : Ct Γ 4 MX8_balanceOf 0 0 [.ref mo, .int (nI k)] (MW Γ mo F I A f) n (Rt (some (.int (f (13 + 16 * k + 1)))) (MW Γ mo F (upd I 2 (nI 0)) A f) n) X0 := by
  refine Ct.of (by decide +kernel) rfl (Nat.le_of_ble_eq_true rfl) ?_
  refine G.sub (lv2 := [(0, _), (1, _)]) [0, 1] rfl ?_
  refine g_aload_n 0 rfl dX8_balanceOf_0 ?_
  refine g_iload_n 1 rfl dX8_balanceOf_1 ?_
  refine gn_ic 1 (by decide) dX8_balanceOf_2 ?_
  refine gv_V (c_X8_ofLodger_ok (w := 1) hc hc12 hk (by decide)) l_X8_252 rfl m_rcv (Nat.le_of_ble_eq_true rfl) (Nat.le_of_ble_eq_true rfl) rfl dX8_balanceOf_3 ?_
  exact g_iret ⟨rfl, rfl, rfl⟩ rfl rfl dX8_balanceOf_6
set_option maxRecDepth 100000 in
set_option maxHeartbeats 4000000 in
theorem c_X8_balanceOf_no {Γ : Gm} {mo n : Nat} {F : Hp} {I : Nat → Int32} {A : Nat → Nat → Int32} {f : Nat → Int32} {x : Int32} {c : Nat} (hc : f 7 = nI c) (hc12 : c ≤ 12) (hx : ¬ (nI 0 ≤ x ∧ x ≤ nI c - nI 1)) : Ct Γ 4 MX8_balanceOf 0 0 [.ref mo, .int x] (MW Γ mo F I A f) n (Rt (some (.int (nI 0))) (MW Γ mo F (upd I 2 (nI 1)) A f) n) X0 := by
  refine Ct.of (by decide +kernel) rfl (Nat.le_of_ble_eq_true rfl) ?_
  refine G.sub (lv2 := [(0, _), (1, _)]) [0, 1] rfl ?_
  refine g_aload_n 0 rfl dX8_balanceOf_0 ?_
  refine g_iload_n 1 rfl dX8_balanceOf_1 ?_
  refine gn_ic 1 (by decide) dX8_balanceOf_2 ?_
  refine gv_V (c_X8_ofLodger_no hc hc12 hx) l_X8_252 rfl m_rcv (Nat.le_of_ble_eq_true rfl) (Nat.le_of_ble_eq_true rfl) rfl dX8_balanceOf_3 ?_
  exact g_iret ⟨rfl, rfl, rfl⟩ rfl rfl dX8_balanceOf_6
set_option maxRecDepth 100000 in
set_option maxHeartbeats 4000000 in
theorem c_X8_lessonsOf_ok {Γ : Gm} {mo n : Nat} {F : Hp} {I : Nat → Int32} {A : Nat → Nat → Int32} {f : Nat → Int32} {k c : Nat} (hc : f 7 = nI c) (hc12 : c ≤ 12) (hk : k < c) : Ct Γ 4 MX8_lessonsOf 0 0 [.ref mo, .int (nI k)] (MW Γ mo F I A f) n (Rt (some (.int (f (13 + 16 * k + 2)))) (MW Γ mo F (upd I 2 (nI 0)) A f) n) X0 := by
  refine Ct.of (by decide +kernel) rfl (Nat.le_of_ble_eq_true rfl) ?_
  refine G.sub (lv2 := [(0, _), (1, _)]) [0, 1] rfl ?_
  refine g_aload_n 0 rfl dX8_lessonsOf_0 ?_
  refine g_iload_n 1 rfl dX8_lessonsOf_1 ?_
  refine gn_ic 2 (by decide) dX8_lessonsOf_2 ?_
  refine gv_V (c_X8_ofLodger_ok (w := 2) hc hc12 hk (by decide)) l_X8_252 rfl m_rcv (Nat.le_of_ble_eq_true rfl) (Nat.le_of_ble_eq_true rfl) rfl dX8_lessonsOf_3 ?_
  exact g_iret ⟨rfl, rfl, rfl⟩ rfl rfl dX8_lessonsOf_6
set_option maxRecDepth 100000 in
set_option maxHeartbeats 4000000 in
theorem c_X8_lessonsOf_no {Γ : Gm} {mo n : Nat} {F : Hp} {I : Nat → Int32} {A : Nat → Nat → Int32} {f : Nat → Int32} {x : Int32} {c : Nat} (hc : f 7 = nI c) (hc12 : c ≤ 12) (hx : ¬ (nI 0 ≤ x ∧ x ≤ nI c - nI 1)) : Ct Γ 4 MX8_lessonsOf 0 0 [.ref mo, .int x] (MW Γ mo F I A f) n (Rt (some (.int (nI 0))) (MW Γ mo F (upd I 2 (nI 1)) A f) n) X0 := by
  refine Ct.of (by decide +kernel) rfl (Nat.le_of_ble_eq_true rfl) ?_
  refine G.sub (lv2 := [(0, _), (1, _)]) [0, 1] rfl ?_
  refine g_aload_n 0 rfl dX8_lessonsOf_0 ?_
  refine g_iload_n 1 rfl dX8_lessonsOf_1 ?_
  refine gn_ic 2 (by decide) dX8_lessonsOf_2 ?_
  refine gv_V (c_X8_ofLodger_no hc hc12 hx) l_X8_252 rfl m_rcv (Nat.le_of_ble_eq_true rfl) (Nat.le_of_ble_eq_true rfl) rfl dX8_lessonsOf_3 ?_
  exact g_iret ⟨rfl, rfl, rfl⟩ rfl rfl dX8_lessonsOf_6
set_option maxRecDepth 100000 in
set_option maxHeartbeats 4000000 in
theorem c_X8_slipsOf_ok {Γ : Gm} {mo n : Nat} {F : Hp} {I : Nat → Int32} {A : Nat → Nat → Int32} {f : Nat → Int32} {k c : Nat} (hc : f 7 = nI c) (hc12 : c ≤ 12) (hk : k < c) : Ct Γ 4 MX8_slipsOf 0 0 [.ref mo, .int (nI k)] (MW Γ mo F I A f) n (Rt (some (.int (f (13 + 16 * k + 3)))) (MW Γ mo F (upd I 2 (nI 0)) A f) n) X0 := by
  refine Ct.of (by decide +kernel) rfl (Nat.le_of_ble_eq_true rfl) ?_
  refine G.sub (lv2 := [(0, _), (1, _)]) [0, 1] rfl ?_
  refine g_aload_n 0 rfl dX8_slipsOf_0 ?_
  refine g_iload_n 1 rfl dX8_slipsOf_1 ?_
  refine gn_ic 3 (by decide) dX8_slipsOf_2 ?_
  refine gv_V (c_X8_ofLodger_ok (w := 3) hc hc12 hk (by decide)) l_X8_252 rfl m_rcv (Nat.le_of_ble_eq_true rfl) (Nat.le_of_ble_eq_true rfl) rfl dX8_slipsOf_3 ?_
  exact g_iret ⟨rfl, rfl, rfl⟩ rfl rfl dX8_slipsOf_6
set_option maxRecDepth 100000 in
set_option maxHeartbeats 4000000 in
theorem c_X8_slipsOf_no {Γ : Gm} {mo n : Nat} {F : Hp} {I : Nat → Int32} {A : Nat → Nat → Int32} {f : Nat → Int32} {x : Int32} {c : Nat} (hc : f 7 = nI c) (hc12 : c ≤ 12) (hx : ¬ (nI 0 ≤ x ∧ x ≤ nI c - nI 1)) : Ct Γ 4 MX8_slipsOf 0 0 [.ref mo, .int x] (MW Γ mo F I A f) n (Rt (some (.int (nI 0))) (MW Γ mo F (upd I 2 (nI 1)) A f) n) X0 := by
  refine Ct.of (by decide +kernel) rfl (Nat.le_of_ble_eq_true rfl) ?_
  refine G.sub (lv2 := [(0, _), (1, _)]) [0, 1] rfl ?_
  refine g_aload_n 0 rfl dX8_slipsOf_0 ?_
  refine g_iload_n 1 rfl dX8_slipsOf_1 ?_
  refine gn_ic 3 (by decide) dX8_slipsOf_2 ?_
  refine gv_V (c_X8_ofLodger_no hc hc12 hx) l_X8_252 rfl m_rcv (Nat.le_of_ble_eq_true rfl) (Nat.le_of_ble_eq_true rfl) rfl dX8_slipsOf_3 ?_
  exact g_iret ⟨rfl, rfl, rfl⟩ rfl rfl dX8_slipsOf_6
set_option maxRecDepth 100000 in
set_option maxHeartbeats 4000000 in
theorem c_X8_vowelOf_ok {Γ : Gm} {mo n : Nat} {F : Hp} {I : Nat → Int32} {A : Nat → Nat → Int32} {f : Nat → Int32} {k v c : Nat} (hc : f 7 = nI c) (hc12 : c ≤ 12) (hk : k < c) (hv : v < 5) : Ct Γ 4 MX8_vowelOf 0 0 [.ref mo, .int (nI k), .int (nI v)] (MW Γ mo F I A f) n (Rt (some (.int (f (13 + 16 * k + (5 + v))))) (MW Γ mo F (upd I 2 (nI 0)) A f) n) X0 := by
  refine Ct.of (by decide +kernel) rfl (Nat.le_of_ble_eq_true rfl) ?_
  refine G.sub (lv2 := [(0, _), (1, _), (2, _)]) [0, 1, 2] rfl ?_
  refine g_iload_n 2 rfl dX8_vowelOf_0 ?_
  refine gv_S (c_X8_isVowel ) l_X8_243 rfl (Nat.le_of_ble_eq_true rfl) (Nat.le_of_ble_eq_true rfl) rfl dX8_vowelOf_1 ?_
  refine g_if_eq (tgt := 18) (by decide) dX8_vowelOf_4 (fun h4 => ?_) (fun h4 => ?_)
  · -- t 18
    exact absurd (rg_ok (Nat.zero_le _) (show v ≤ 4 by omega) (by decide)) (bi_0 h4)
  · -- f 7
    refine g_aload_n 0 rfl dX8_vowelOf_7 ?_
    refine g_iload_n 1 rfl dX8_vowelOf_8 ?_
    refine gn_ic 5 (by decide) dX8_vowelOf_9 ?_
    refine g_iload_n 2 rfl dX8_vowelOf_10 ?_
    refine gn_iadd dX8_vowelOf_11 ?_
    refine gv_V (c_X8_ofLodger_ok (w := 5 + v) hc hc12 hk (by omega)) l_X8_252 rfl m_rcv (Nat.le_of_ble_eq_true rfl) (Nat.le_of_ble_eq_true rfl) rfl dX8_vowelOf_12 ?_
    refine g_goto (tgt := 23) (by decide) dX8_vowelOf_15 ?_
    exact g_iret ⟨rfl, rfl, rfl⟩ rfl rfl dX8_vowelOf_23
set_option maxRecDepth 100000 in
set_option maxHeartbeats 4000000 in
theorem c_X8_vowelOf_no1 {Γ : Gm} {mo n : Nat} {F : Hp} {I : Nat → Int32} {A : Nat → Nat → Int32} {f : Nat → Int32} {x y : Int32} (hx : ¬ (nI 0 ≤ x ∧ x ≤ nI 4)) : Ct Γ 4 MX8_vowelOf 0 0 [.ref mo, .int y, .int x] (MW Γ mo F I A f) n (Rt (some (.int (nI 0))) (MW Γ mo F (upd I 2 (nI 1)) A f) n) X0 := by
  refine Ct.of (by decide +kernel) rfl (Nat.le_of_ble_eq_true rfl) ?_
  refine G.sub (lv2 := [(0, _), (1, _), (2, _)]) [0, 1, 2] rfl ?_
  refine g_iload_n 2 rfl dX8_vowelOf_0 ?_
  refine gv_S (c_X8_isVowel ) l_X8_243 rfl (Nat.le_of_ble_eq_true rfl) (Nat.le_of_ble_eq_true rfl) rfl dX8_vowelOf_1 ?_
  refine g_if_eq (tgt := 18) (by decide) dX8_vowelOf_4 (fun h4 => ?_) (fun h4 => ?_)
  · -- t 18
    refine g_aload_n 0 rfl dX8_vowelOf_18 ?_
    refine gn_ic 1 (by decide) dX8_vowelOf_19 ?_
    refine gv_V (c_X8_refuse ) l_X8_216 rfl m_rcv (Nat.le_of_ble_eq_true rfl) (Nat.le_of_ble_eq_true rfl) rfl dX8_vowelOf_20 ?_
    exact g_iret ⟨rfl, rfl, rfl⟩ rfl rfl dX8_vowelOf_23
  · -- f 7
    exact absurd (bi_n0 h4) hx
set_option maxRecDepth 100000 in
set_option maxHeartbeats 4000000 in
theorem c_X8_vowelOf_no2 {Γ : Gm} {mo n : Nat} {F : Hp} {I : Nat → Int32} {A : Nat → Nat → Int32} {f : Nat → Int32} {x : Int32} {v c : Nat} (hc : f 7 = nI c) (hc12 : c ≤ 12) (hx : ¬ (nI 0 ≤ x ∧ x ≤ nI c - nI 1)) (hv : v < 5) : Ct Γ 4 MX8_vowelOf 0 0 [.ref mo, .int x, .int (nI v)] (MW Γ mo F I A f) n (Rt (some (.int (nI 0))) (MW Γ mo F (upd I 2 (nI 1)) A f) n) X0 := by
  refine Ct.of (by decide +kernel) rfl (Nat.le_of_ble_eq_true rfl) ?_
  refine G.sub (lv2 := [(0, _), (1, _), (2, _)]) [0, 1, 2] rfl ?_
  refine g_iload_n 2 rfl dX8_vowelOf_0 ?_
  refine gv_S (c_X8_isVowel ) l_X8_243 rfl (Nat.le_of_ble_eq_true rfl) (Nat.le_of_ble_eq_true rfl) rfl dX8_vowelOf_1 ?_
  refine g_if_eq (tgt := 18) (by decide) dX8_vowelOf_4 (fun h4 => ?_) (fun h4 => ?_)
  · -- t 18
    exact absurd (rg_ok (Nat.zero_le _) (show v ≤ 4 by omega) (by decide)) (bi_0 h4)
  · -- f 7
    refine g_aload_n 0 rfl dX8_vowelOf_7 ?_
    refine g_iload_n 1 rfl dX8_vowelOf_8 ?_
    refine gn_ic 5 (by decide) dX8_vowelOf_9 ?_
    refine g_iload_n 2 rfl dX8_vowelOf_10 ?_
    refine gn_iadd dX8_vowelOf_11 ?_
    refine gv_V (c_X8_ofLodger_no hc hc12 hx) l_X8_252 rfl m_rcv (Nat.le_of_ble_eq_true rfl) (Nat.le_of_ble_eq_true rfl) rfl dX8_vowelOf_12 ?_
    refine g_goto (tgt := 23) (by decide) dX8_vowelOf_15 ?_
    exact g_iret ⟨rfl, rfl, rfl⟩ rfl rfl dX8_vowelOf_23
set_option maxRecDepth 100000 in
set_option maxHeartbeats 4000000 in
theorem c_X8_daysStayed_ok {Γ : Gm} {mo n : Nat} {F : Hp} {I : Nat → Int32} {A : Nat → Nat → Int32} {f : Nat → Int32} {k c : Nat} (hc : f 7 = nI c) (hc12 : c ≤ 12) (hk : k < c) : Ct Γ 3 MX8_daysStayed 0 0 [.ref mo, .int (nI k)] (MW Γ mo F I A f) n (Rt (some (.int (f 8 - f (13 + 16 * k + 4)))) (MW Γ mo F (upd I 2 (nI 0)) A f) n) X0 := by
  refine Ct.of (by decide +kernel) rfl (Nat.le_of_ble_eq_true rfl) ?_
  refine G.sub (lv2 := [(0, _), (1, _)]) [0, 1] rfl ?_
  refine g_aload_n 0 rfl dX8_daysStayed_0 ?_
  refine g_iload_n 1 rfl dX8_daysStayed_1 ?_
  refine gv_V (c_X8_isLodger hc) l_X8_249 rfl m_rcv (Nat.le_of_ble_eq_true rfl) (Nat.le_of_ble_eq_true rfl) rfl dX8_daysStayed_2 ?_
  refine g_if_eq (tgt := 34) (by decide) dX8_daysStayed_5 (fun h5 => ?_) (fun h5 => ?_)
  · -- t 34
    exact absurd (lod_ok hk hc12) (bi_0 h5)
  · -- f 8
    refine g_aload_n 0 rfl dX8_daysStayed_8 ?_
    refine m_get 0 rfl f_X8_19 rfl dX8_daysStayed_9 dX8_daysStayed_10 ?_
    refine gn_bp 8 (by decide) dX8_daysStayed_13 ?_
    refine gn_iald MW_3 (by omega) (by decide) dX8_daysStayed_15 ?_
    refine m_get 0 rfl f_X8_19 rfl dX8_daysStayed_16 dX8_daysStayed_17 ?_
    refine g_iload_n 1 rfl dX8_daysStayed_20 ?_
    refine gv_S (c_X8_l ) l_X8_56 rfl (Nat.le_of_ble_eq_true rfl) (Nat.le_of_ble_eq_true rfl) rfl dX8_daysStayed_21 ?_
    refine gn_ic 4 (by decide) dX8_daysStayed_24 ?_
    refine gn_iadd dX8_daysStayed_25 ?_
    refine gn_iald MW_3 (by omega) (by decide) dX8_daysStayed_26 ?_
    refine g_isub dX8_daysStayed_27 ?_
    refine gv_V (c_X8_told ) l_X8_222 rfl m_rcv (Nat.le_of_ble_eq_true rfl) (Nat.le_of_ble_eq_true rfl) rfl dX8_daysStayed_28 ?_
    refine g_goto (tgt := 39) (by decide) dX8_daysStayed_31 ?_
    exact g_iret ⟨rfl, rfl, rfl⟩ rfl rfl dX8_daysStayed_39
set_option maxRecDepth 100000 in
set_option maxHeartbeats 4000000 in
theorem c_X8_daysStayed_no {Γ : Gm} {mo n : Nat} {F : Hp} {I : Nat → Int32} {A : Nat → Nat → Int32} {f : Nat → Int32} {x : Int32} {c : Nat}  (hc : f 7 = nI c) (hc12 : c ≤ 12) (hx : ¬ (nI 0 ≤ x ∧ x ≤ nI c - nI 1)) : Ct Γ 3 MX8_daysStayed 0 0 [.ref mo, .int x] (MW Γ mo F I A f) n (Rt (some (.int (nI 0))) (MW Γ mo F (upd I 2 (nI 1)) A f) n) X0 := by
  refine Ct.of (by decide +kernel) rfl (Nat.le_of_ble_eq_true rfl) ?_
  refine G.sub (lv2 := [(0, _), (1, _)]) [0, 1] rfl ?_
  refine g_aload_n 0 rfl dX8_daysStayed_0 ?_
  refine g_iload_n 1 rfl dX8_daysStayed_1 ?_
  refine gv_V (c_X8_isLodger hc) l_X8_249 rfl m_rcv (Nat.le_of_ble_eq_true rfl) (Nat.le_of_ble_eq_true rfl) rfl dX8_daysStayed_2 ?_
  refine g_if_eq (tgt := 34) (by decide) dX8_daysStayed_5 (fun h5 => ?_) (fun h5 => ?_)
  · -- t 34
    refine g_aload_n 0 rfl dX8_daysStayed_34 ?_
    refine gn_ic 1 (by decide) dX8_daysStayed_35 ?_
    refine gv_V (c_X8_refuse ) l_X8_216 rfl m_rcv (Nat.le_of_ble_eq_true rfl) (Nat.le_of_ble_eq_true rfl) rfl dX8_daysStayed_36 ?_
    exact g_iret ⟨rfl, rfl, rfl⟩ (by decide +kernel) rfl dX8_daysStayed_39
  · -- f 8
    exact absurd (bi_n0 h5) hx
set_option maxRecDepth 100000 in
set_option maxHeartbeats 4000000 in
theorem c_X8_lettersOf {Γ : Gm} {mo n : Nat} {F : Hp} {I : Nat → Int32} {A : Nat → Nat → Int32} {f : Nat → Int32} {k : Nat} (hk : k < 12) : Ct Γ 2 MX8_lettersOf 0 0 [.ref mo, .int (nI k)] (MW Γ mo F I A f) n (Rt (some (.int (nI (lenN f k)))) (MW Γ mo F I A f) n) X0 := by
  refine Ct.of (by decide +kernel) rfl (Nat.le_of_ble_eq_true rfl) ?_
  refine G.sub (lv2 := [(0, _), (1, _)]) [0, 1] rfl ?_
  refine gn_ic 0 (by decide) dX8_lettersOf_0 ?_
  refine g_istore_n (lv2 := [(2, _), (0, _), (1, _)]) (by decide) rfl dX8_lettersOf_1 ?_
  have L2 : ∀ (m2 : Nat) (i : Nat), (i + m2 = 6) → (spn (ltzB f k) m2 i = lenN f k) → G Γ 2 MX8_lettersOf (Rt (some (.int (nI (lenN f k)))) (MW Γ mo F I A f) n) X0 2 [(0, .ref mo), (1, .int (nI k)), (2, .int (nI i))] [] (MW Γ mo F I A f) n 0 0 := by
    intro m2
    induction m2 with
    | zero =>
      intro i hi hE
      refine g_iload_n 2 rfl dX8_lettersOf_2 ?_
      refine gn_bp 6 (by decide) dX8_lettersOf_3 ?_
      refine gn_icmp_ge (by omega) (by omega) (tgt := 31) (by decide) dX8_lettersOf_5 (fun cc1 => ?_) (fun cc1 => ?_)
      · -- t 31
        obtain rfl : i = lenN f k := hE
        refine g_iload_n 2 rfl dX8_lettersOf_31 ?_
        exact g_iret ⟨rfl, rfl, rfl⟩ rfl rfl dX8_lettersOf_32
      · -- f 8
        exfalso; omega
    | succ m2 ih2 =>
      intro i hi hE
      refine g_iload_n 2 rfl dX8_lettersOf_2 ?_
      refine gn_bp 6 (by decide) dX8_lettersOf_3 ?_
      refine gn_icmp_ge (by omega) (by omega) (tgt := 31) (by decide) dX8_lettersOf_5 (fun cc2 => ?_) (fun cc2 => ?_)
      · -- t 31
        exfalso; omega
      · -- f 8
        refine m_get 0 rfl f_X8_19 rfl dX8_lettersOf_8 dX8_lettersOf_9 ?_
        refine g_iload_n 1 rfl dX8_lettersOf_12 ?_
        refine gv_S (c_X8_l ) l_X8_56 rfl (Nat.le_of_ble_eq_true rfl) (Nat.le_of_ble_eq_true rfl) rfl dX8_lettersOf_13 ?_
        refine gn_bp 10 (by decide) dX8_lettersOf_16 ?_
        refine gn_iadd dX8_lettersOf_18 ?_
        refine g_iload_n 2 rfl dX8_lettersOf_19 ?_
        refine gn_iadd dX8_lettersOf_20 ?_
        refine gn_iald MW_3 (by omega) (by decide) dX8_lettersOf_21 ?_
        refine g_if_eq (tgt := 31) (by decide) dX8_lettersOf_22 (fun h22 => ?_) (fun h22 => ?_)
        · -- t 31
          obtain rfl : i = lenN f k := (spn_f (m := m2 + 1) (fun z => ltzB_t.mp z h22)).symm.trans hE
          refine g_iload_n 2 rfl dX8_lettersOf_31 ?_
          exact g_iret ⟨rfl, rfl, rfl⟩ rfl rfl dX8_lettersOf_32
        · -- f 25
          refine gn_inc (lv2 := [(2, _), (0, _), (1, _)]) 2 rfl (by decide) rfl dX8_lettersOf_25 ?_
          refine g_goto (tgt := 2) (by decide) dX8_lettersOf_28 ?_
          refine G.sub [1, 2, 0] rfl ?_
          exact ih2 (i + 1) (by omega) ((spn_t (ltzB_t.mpr h22)).symm.trans hE)
  refine G.sub [1, 2, 0] rfl ?_
  exact L2 6 0 (by omega) rfl
set_option maxRecDepth 100000 in
set_option maxHeartbeats 4000000 in
theorem c_X8_nameLength_ok {Γ : Gm} {mo n : Nat} {F : Hp} {I : Nat → Int32} {A : Nat → Nat → Int32} {f : Nat → Int32} {k c : Nat} (hc : f 7 = nI c) (hc12 : c ≤ 12) (hk : k < c) : Ct Γ 3 MX8_nameLength 0 0 [.ref mo, .int (nI k)] (MW Γ mo F I A f) n (Rt (some (.int (nI (lenN f k)))) (MW Γ mo F (upd I 2 (nI 0)) A f) n) X0 := by
  refine Ct.of (by decide +kernel) rfl (Nat.le_of_ble_eq_true rfl) ?_
  refine G.sub (lv2 := [(0, _), (1, _)]) [0, 1] rfl ?_
  refine g_aload_n 0 rfl dX8_nameLength_0 ?_
  refine g_iload_n 1 rfl dX8_nameLength_1 ?_
  refine gv_V (c_X8_isLodger hc) l_X8_249 rfl m_rcv (Nat.le_of_ble_eq_true rfl) (Nat.le_of_ble_eq_true rfl) rfl dX8_nameLength_2 ?_
  refine g_if_eq (tgt := 20) (by decide) dX8_nameLength_5 (fun h5 => ?_) (fun h5 => ?_)
  · -- t 20
    exact absurd (lod_ok hk hc12) (bi_0 h5)
  · -- f 8
    refine g_aload_n 0 rfl dX8_nameLength_8 ?_
    refine g_aload_n 0 rfl dX8_nameLength_9 ?_
    refine g_iload_n 1 rfl dX8_nameLength_10 ?_
    refine gv_V (c_X8_lettersOf (by omega)) l_X8_255 rfl m_rcv (Nat.le_of_ble_eq_true rfl) (Nat.le_of_ble_eq_true rfl) rfl dX8_nameLength_11 ?_
    refine gv_V (c_X8_told ) l_X8_222 rfl m_rcv (Nat.le_of_ble_eq_true rfl) (Nat.le_of_ble_eq_true rfl) rfl dX8_nameLength_14 ?_
    refine g_goto (tgt := 25) (by decide) dX8_nameLength_17 ?_
    exact g_iret ⟨rfl, rfl, rfl⟩ rfl rfl dX8_nameLength_25
set_option maxRecDepth 100000 in
set_option maxHeartbeats 4000000 in
theorem c_X8_nameLength_no {Γ : Gm} {mo n : Nat} {F : Hp} {I : Nat → Int32} {A : Nat → Nat → Int32} {f : Nat → Int32} {x : Int32} {c : Nat}  (hc : f 7 = nI c) (hc12 : c ≤ 12) (hx : ¬ (nI 0 ≤ x ∧ x ≤ nI c - nI 1)) : Ct Γ 3 MX8_nameLength 0 0 [.ref mo, .int x] (MW Γ mo F I A f) n (Rt (some (.int (nI 0))) (MW Γ mo F (upd I 2 (nI 1)) A f) n) X0 := by
  refine Ct.of (by decide +kernel) rfl (Nat.le_of_ble_eq_true rfl) ?_
  refine G.sub (lv2 := [(0, _), (1, _)]) [0, 1] rfl ?_
  refine g_aload_n 0 rfl dX8_nameLength_0 ?_
  refine g_iload_n 1 rfl dX8_nameLength_1 ?_
  refine gv_V (c_X8_isLodger hc) l_X8_249 rfl m_rcv (Nat.le_of_ble_eq_true rfl) (Nat.le_of_ble_eq_true rfl) rfl dX8_nameLength_2 ?_
  refine g_if_eq (tgt := 20) (by decide) dX8_nameLength_5 (fun h5 => ?_) (fun h5 => ?_)
  · -- t 20
    refine g_aload_n 0 rfl dX8_nameLength_20 ?_
    refine gn_ic 1 (by decide) dX8_nameLength_21 ?_
    refine gv_V (c_X8_refuse ) l_X8_216 rfl m_rcv (Nat.le_of_ble_eq_true rfl) (Nat.le_of_ble_eq_true rfl) rfl dX8_nameLength_22 ?_
    exact g_iret ⟨rfl, rfl, rfl⟩ (by decide +kernel) rfl dX8_nameLength_25
  · -- f 8
    exact absurd (bi_n0 h5) hx
set_option maxRecDepth 100000 in
set_option maxHeartbeats 4000000 in
theorem c_X8_nameLetter_ok {Γ : Gm} {mo n : Nat} {F : Hp} {I : Nat → Int32} {A : Nat → Nat → Int32} {f : Nat → Int32} {k c j : Nat} (hc : f 7 = nI c) (hc12 : c ≤ 12) (hk : k < c) (hj : j < lenN f k) : Ct Γ 3 MX8_nameLetter 0 0 [.ref mo, .int (nI k), .int (nI j)] (MW Γ mo F I A f) n (Rt (some (.int (((f (13 + 16 * k + 10 + j)).toUInt32 % 65536).toInt32))) (MW Γ mo F (upd I 2 (nI 0)) A f) n) X0 := by
  refine Ct.of (by decide +kernel) rfl (Nat.le_of_ble_eq_true rfl) ?_
  have h6 := lenN_le (f := f) (k := k)
  have hy : nI 0 ≤ nI j ∧ nI j ≤ nI (lenN f k) - nI 1 := lod_ok hj (by omega)
  refine G.sub (lv2 := [(0, _), (1, _), (2, _)]) [0, 1, 2] rfl ?_
  refine g_aload_n 0 rfl dX8_nameLetter_0 ?_
  refine g_iload_n 1 rfl dX8_nameLetter_1 ?_
  refine gv_V (c_X8_isLodger hc) l_X8_249 rfl m_rcv (Nat.le_of_ble_eq_true rfl) (Nat.le_of_ble_eq_true rfl) rfl dX8_nameLetter_2 ?_
  refine g_if_eq (tgt := 23) (by decide) dX8_nameLetter_5 (fun h5 => ?_) (fun h5 => ?_)
  · -- t 23
    exact absurd (lod_ok hk hc12) (bi_0 h5)
  · -- f 8
    refine g_iload_n 2 rfl dX8_nameLetter_8 ?_
    refine gn_ic 0 (by decide) dX8_nameLetter_9 ?_
    refine g_aload_n 0 rfl dX8_nameLetter_10 ?_
    refine g_iload_n 1 rfl dX8_nameLetter_11 ?_
    refine gv_V (c_X8_lettersOf (by omega)) l_X8_255 rfl m_rcv (Nat.le_of_ble_eq_true rfl) (Nat.le_of_ble_eq_true rfl) rfl dX8_nameLetter_12 ?_
    refine gn_ic 1 (by decide) dX8_nameLetter_15 ?_
    refine g_isub dX8_nameLetter_16 ?_
    refine gv_S (c_X8_in ) l_X8_66 rfl (Nat.le_of_ble_eq_true rfl) (Nat.le_of_ble_eq_true rfl) rfl dX8_nameLetter_17 ?_
    refine g_if_ne (tgt := 30) (by decide) dX8_nameLetter_20 (fun h20 => ?_) (fun h20 => ?_)
    · -- t 30
      refine g_aload_n 0 rfl dX8_nameLetter_30 ?_
      refine gn_ic 0 (by decide) dX8_nameLetter_31 ?_
      refine m_put f_X8_63 w_X8_2 (by decide) rfl dX8_nameLetter_32 ?_
      refine m_get 0 rfl f_X8_19 rfl dX8_nameLetter_35 dX8_nameLetter_36 ?_
      refine g_iload_n 1 rfl dX8_nameLetter_39 ?_
      refine gv_S (c_X8_l ) l_X8_56 rfl (Nat.le_of_ble_eq_true rfl) (Nat.le_of_ble_eq_true rfl) rfl dX8_nameLetter_40 ?_
      refine gn_bp 10 (by decide) dX8_nameLetter_43 ?_
      refine gn_iadd dX8_nameLetter_45 ?_
      refine g_iload_n 2 rfl dX8_nameLetter_46 ?_
      refine gn_iadd dX8_nameLetter_47 ?_
      refine gn_iald MW_3 (by omega) (by decide) dX8_nameLetter_48 ?_
      refine g_i2c dX8_nameLetter_49 ?_
      exact g_iret ⟨rfl, rfl, rfl⟩ (pk_nc _) rfl dX8_nameLetter_50
    · -- f 23
      exact absurd (hy) (bi_0 h20)
set_option maxRecDepth 100000 in
set_option maxHeartbeats 4000000 in
theorem c_X8_nameLetter_no {Γ : Gm} {mo n : Nat} {F : Hp} {I : Nat → Int32} {A : Nat → Nat → Int32} {f : Nat → Int32} {x : Int32} {c : Nat} {y : Int32} (hc : f 7 = nI c) (hc12 : c ≤ 12) (hx : ¬ (nI 0 ≤ x ∧ x ≤ nI c - nI 1)) : Ct Γ 3 MX8_nameLetter 0 0 [.ref mo, .int x, .int y] (MW Γ mo F I A f) n (Rt (some (.int (nI 0))) (MW Γ mo F (upd I 2 (nI 1)) A f) n) X0 := by
  refine Ct.of (by decide +kernel) rfl (Nat.le_of_ble_eq_true rfl) ?_
  refine G.sub (lv2 := [(0, _), (1, _), (2, _)]) [0, 1, 2] rfl ?_
  refine g_aload_n 0 rfl dX8_nameLetter_0 ?_
  refine g_iload_n 1 rfl dX8_nameLetter_1 ?_
  refine gv_V (c_X8_isLodger hc) l_X8_249 rfl m_rcv (Nat.le_of_ble_eq_true rfl) (Nat.le_of_ble_eq_true rfl) rfl dX8_nameLetter_2 ?_
  refine g_if_eq (tgt := 23) (by decide) dX8_nameLetter_5 (fun h5 => ?_) (fun h5 => ?_)
  · -- t 23
    refine g_aload_n 0 rfl dX8_nameLetter_23 ?_
    refine gn_ic 1 (by decide) dX8_nameLetter_24 ?_
    refine m_put f_X8_63 w_X8_2 (by decide) rfl dX8_nameLetter_25 ?_
    refine gn_ic 0 (by decide) dX8_nameLetter_28 ?_
    exact g_iret ⟨rfl, rfl, rfl⟩ (by decide +kernel) rfl dX8_nameLetter_29
  · -- f 8
    exact absurd (bi_n0 h5) hx
set_option maxRecDepth 100000 in
set_option maxHeartbeats 4000000 in
theorem c_X8_nameLetter_no2 {Γ : Gm} {mo n : Nat} {F : Hp} {I : Nat → Int32} {A : Nat → Nat → Int32} {f : Nat → Int32} {k c : Nat} {y : Int32} (hc : f 7 = nI c) (hc12 : c ≤ 12) (hk : k < c) (hy : ¬ (nI 0 ≤ y ∧ y ≤ nI (lenN f k) - nI 1)) : Ct Γ 3 MX8_nameLetter 0 0 [.ref mo, .int (nI k), .int y] (MW Γ mo F I A f) n (Rt (some (.int (nI 0))) (MW Γ mo F (upd I 2 (nI 1)) A f) n) X0 := by
  refine Ct.of (by decide +kernel) rfl (Nat.le_of_ble_eq_true rfl) ?_
  refine G.sub (lv2 := [(0, _), (1, _), (2, _)]) [0, 1, 2] rfl ?_
  refine g_aload_n 0 rfl dX8_nameLetter_0 ?_
  refine g_iload_n 1 rfl dX8_nameLetter_1 ?_
  refine gv_V (c_X8_isLodger hc) l_X8_249 rfl m_rcv (Nat.le_of_ble_eq_true rfl) (Nat.le_of_ble_eq_true rfl) rfl dX8_nameLetter_2 ?_
  refine g_if_eq (tgt := 23) (by decide) dX8_nameLetter_5 (fun h5 => ?_) (fun h5 => ?_)
  · -- t 23
    exact absurd (lod_ok hk hc12) (bi_0 h5)
  · -- f 8
    refine g_iload_n 2 rfl dX8_nameLetter_8 ?_
    refine gn_ic 0 (by decide) dX8_nameLetter_9 ?_
    refine g_aload_n 0 rfl dX8_nameLetter_10 ?_
    refine g_iload_n 1 rfl dX8_nameLetter_11 ?_
    refine gv_V (c_X8_lettersOf (by omega)) l_X8_255 rfl m_rcv (Nat.le_of_ble_eq_true rfl) (Nat.le_of_ble_eq_true rfl) rfl dX8_nameLetter_12 ?_
    refine gn_ic 1 (by decide) dX8_nameLetter_15 ?_
    refine g_isub dX8_nameLetter_16 ?_
    refine gv_S (c_X8_in ) l_X8_66 rfl (Nat.le_of_ble_eq_true rfl) (Nat.le_of_ble_eq_true rfl) rfl dX8_nameLetter_17 ?_
    refine g_if_ne (tgt := 30) (by decide) dX8_nameLetter_20 (fun h20 => ?_) (fun h20 => ?_)
    · -- t 30
      exact absurd (bi_n0 h20) hy
    · -- f 23
      refine g_aload_n 0 rfl dX8_nameLetter_23 ?_
      refine gn_ic 1 (by decide) dX8_nameLetter_24 ?_
      refine m_put f_X8_63 w_X8_2 (by decide) rfl dX8_nameLetter_25 ?_
      refine gn_ic 0 (by decide) dX8_nameLetter_28 ?_
      exact g_iret ⟨rfl, rfl, rfl⟩ (by decide +kernel) rfl dX8_nameLetter_29
set_option maxRecDepth 100000 in
set_option maxHeartbeats 4000000 in
theorem c_X8_findByName {Γ : Gm} {mo n : Nat} {F : Hp} {I : Nat → Int32} {A : Nat → Nat → Int32} {f : Nat → Int32} {m c : Nat} (hc : f 7 = nI c) (hc12 : c ≤ 12) (hm : I 14 = nI m) (hm6 : m ≤ 600) : Ct Γ 3 MX8_findByName 0 0 [.ref mo] (MW Γ mo F I A f) n (Rt (some (.int (fbN (A 8) f m c))) (MW Γ mo F (upd I 2 (nI 0)) A f) n) X0 := by
  refine Ct.of (by decide +kernel) rfl (Nat.le_of_ble_eq_true rfl) ?_
  have hb : (spn (sp32 (A 8)) m 0) ≤ m := by have := spn_le (sp32 (A 8)) m 0; omega
  refine G.sub (lv2 := [(0, _)]) [0] rfl ?_
  refine gn_ic 0 (by decide) dX8_findByName_0 ?_
  refine g_istore_n (lv2 := [(1, _), (0, _)]) (by decide) rfl dX8_findByName_1 ?_
  refine m_get 1 rfl f_X8_213 rfl dX8_findByName_2 dX8_findByName_3 ?_
  refine g_top (y := nI m) hm ?_
  refine g_istore_n (lv2 := [(2, _), (1, _), (0, _)]) (by decide) rfl dX8_findByName_6 ?_
  have L7 : ∀ (m7 : Nat) (p : Nat), (p + m7 = m) → (spn (sp32 (A 8)) m7 p = (spn (sp32 (A 8)) m 0)) → G Γ 3 MX8_findByName (Rt (some (.int (fbN (A 8) f m c))) (MW Γ mo F (upd I 2 (nI 0)) A f) n) X0 7 [(0, .ref mo), (1, .int (nI p)), (2, .int (nI m))] [] (MW Γ mo F I A f) n 0 0 := by
    intro m7
    induction m7 with
    | zero =>
      intro p hp hE
      refine g_iload_n 1 rfl dX8_findByName_7 ?_
      refine g_iload_n 2 rfl dX8_findByName_8 ?_
      refine gn_icmp_ge (by omega) (by omega) (tgt := 29) (by decide) dX8_findByName_9 (fun cc1 => ?_) (fun cc1 => ?_)
      · -- t 29
        obtain rfl : p = (spn (sp32 (A 8)) m 0) := hE
        have L29 : ∀ (m29 : Nat) (j : Nat), (j = (spn (sp32 (A 8)) m 0) + m29) → (j ≤ m) → (spr (A 8) (spn (sp32 (A 8)) m 0) j = (spr (A 8) (spn (sp32 (A 8)) m 0) m)) → G Γ 3 MX8_findByName (Rt (some (.int (fbN (A 8) f m c))) (MW Γ mo F (upd I 2 (nI 0)) A f) n) X0 29 [(0, .ref mo), (1, .int (nI (spn (sp32 (A 8)) m 0))), (2, .int (nI j))] [] (MW Γ mo F I A f) n 0 0 := by
          intro m29
          induction m29 with
          | zero =>
            intro j hj hjm hE2
            refine g_iload_n 2 rfl dX8_findByName_29 ?_
            refine g_iload_n 1 rfl dX8_findByName_30 ?_
            refine gn_icmp_le (by omega) (by omega) (tgt := 53) (by decide) dX8_findByName_31 (fun cc2 => ?_) (fun cc2 => ?_)
            · -- t 53
              obtain rfl : j = (spr (A 8) (spn (sp32 (A 8)) m 0) m) := (spr_f (fun z => by omega)).symm.trans hE2
              refine g_aload_n 0 rfl dX8_findByName_53 ?_
              refine g_aload_n 0 rfl dX8_findByName_54 ?_
              refine g_iload_n 1 rfl dX8_findByName_55 ?_
              refine g_iload_n 2 rfl dX8_findByName_56 ?_
              refine gv_V (c_X8_lodgerNamed (c := c) hc hc12 (by omega) (by omega)) l_X8_178 rfl m_rcv (Nat.le_of_ble_eq_true rfl) (Nat.le_of_ble_eq_true rfl) rfl dX8_findByName_57 ?_
              refine gv_V (c_X8_told ) l_X8_222 rfl m_rcv (Nat.le_of_ble_eq_true rfl) (Nat.le_of_ble_eq_true rfl) rfl dX8_findByName_60 ?_
              exact g_iret ⟨rfl, rfl, rfl⟩ rfl rfl dX8_findByName_63
            · -- f 34
              exfalso; omega
          | succ m29 ih29 =>
            intro j hj hjm hE2
            refine g_iload_n 2 rfl dX8_findByName_29 ?_
            refine g_iload_n 1 rfl dX8_findByName_30 ?_
            refine gn_icmp_le (by omega) (by omega) (tgt := 53) (by decide) dX8_findByName_31 (fun cc3 => ?_) (fun cc3 => ?_)
            · -- t 53
              exfalso; omega
            · -- f 34
              refine m_get 0 rfl f_X8_41 rfl dX8_findByName_34 dX8_findByName_35 ?_
              refine g_iload_n 2 rfl dX8_findByName_38 ?_
              refine gn_ic 1 (by decide) dX8_findByName_39 ?_
              refine gn_isub (by omega) dX8_findByName_40 ?_
              refine gn_bald MW_9 (by omega) (by decide) dX8_findByName_41 ?_
              refine gn_bp 32 (by decide) dX8_findByName_42 ?_
              refine g_icmp_ne (tgt := 53) (by decide) dX8_findByName_44 (fun h44 => ?_) (fun h44 => ?_)
              · -- t 53
                obtain rfl : j = (spr (A 8) (spn (sp32 (A 8)) m 0) m) := (spr_f (fun z => h44 z.2)).symm.trans hE2
                refine g_aload_n 0 rfl dX8_findByName_53 ?_
                refine g_aload_n 0 rfl dX8_findByName_54 ?_
                refine g_iload_n 1 rfl dX8_findByName_55 ?_
                refine g_iload_n 2 rfl dX8_findByName_56 ?_
                refine gv_V (c_X8_lodgerNamed (c := c) hc hc12 (by omega) (by omega)) l_X8_178 rfl m_rcv (Nat.le_of_ble_eq_true rfl) (Nat.le_of_ble_eq_true rfl) rfl dX8_findByName_57 ?_
                refine gv_V (c_X8_told ) l_X8_222 rfl m_rcv (Nat.le_of_ble_eq_true rfl) (Nat.le_of_ble_eq_true rfl) rfl dX8_findByName_60 ?_
                exact g_iret ⟨rfl, rfl, rfl⟩ rfl rfl dX8_findByName_63
              · -- f 47
                refine gn_dec (lv2 := [(2, _), (0, _), (1, _)]) 2 rfl (by omega) (by decide) rfl dX8_findByName_47 ?_
                refine g_goto (tgt := 29) (by decide) dX8_findByName_50 ?_
                refine G.sub [1, 2, 0] rfl ?_
                exact ih29 (j - 1) (by omega) (by omega) ((spr_t2 (by omega) h44).symm.trans hE2)
        refine G.sub [0, 1, 2] rfl ?_
        exact L29 (m - (spn (sp32 (A 8)) m 0)) m (by omega) (Nat.le_refl m) rfl
      · -- f 12
        exfalso; omega
    | succ m7 ih7 =>
      intro p hp hE
      refine g_iload_n 1 rfl dX8_findByName_7 ?_
      refine g_iload_n 2 rfl dX8_findByName_8 ?_
      refine gn_icmp_ge (by omega) (by omega) (tgt := 29) (by decide) dX8_findByName_9 (fun cc4 => ?_) (fun cc4 => ?_)
      · -- t 29
        exfalso; omega
      · -- f 12
        refine m_get 0 rfl f_X8_41 rfl dX8_findByName_12 dX8_findByName_13 ?_
        refine g_iload_n 1 rfl dX8_findByName_16 ?_
        refine gn_bald MW_9 (by omega) (by decide) dX8_findByName_17 ?_
        refine gn_bp 32 (by decide) dX8_findByName_18 ?_
        refine g_icmp_ne (tgt := 29) (by decide) dX8_findByName_20 (fun h20 => ?_) (fun h20 => ?_)
        · -- t 29
          obtain rfl : p = (spn (sp32 (A 8)) m 0) := (spn_f (m := m7 + 1) (fun z => h20 (sp32_t.mp z))).symm.trans hE
          have L29 : ∀ (m29 : Nat) (j : Nat), (j = (spn (sp32 (A 8)) m 0) + m29) → (j ≤ m) → (spr (A 8) (spn (sp32 (A 8)) m 0) j = (spr (A 8) (spn (sp32 (A 8)) m 0) m)) → G Γ 3 MX8_findByName (Rt (some (.int (fbN (A 8) f m c))) (MW Γ mo F (upd I 2 (nI 0)) A f) n) X0 29 [(0, .ref mo), (1, .int (nI (spn (sp32 (A 8)) m 0))), (2, .int (nI j))] [] (MW Γ mo F I A f) n 0 0 := by
            intro m29
            induction m29 with
            | zero =>
              intro j hj hjm hE2
              refine g_iload_n 2 rfl dX8_findByName_29 ?_
              refine g_iload_n 1 rfl dX8_findByName_30 ?_
              refine gn_icmp_le (by omega) (by omega) (tgt := 53) (by decide) dX8_findByName_31 (fun cc5 => ?_) (fun cc5 => ?_)
              · -- t 53
                obtain rfl : j = (spr (A 8) (spn (sp32 (A 8)) m 0) m) := (spr_f (fun z => by omega)).symm.trans hE2
                refine g_aload_n 0 rfl dX8_findByName_53 ?_
                refine g_aload_n 0 rfl dX8_findByName_54 ?_
                refine g_iload_n 1 rfl dX8_findByName_55 ?_
                refine g_iload_n 2 rfl dX8_findByName_56 ?_
                refine gv_V (c_X8_lodgerNamed (c := c) hc hc12 (by omega) (by omega)) l_X8_178 rfl m_rcv (Nat.le_of_ble_eq_true rfl) (Nat.le_of_ble_eq_true rfl) rfl dX8_findByName_57 ?_
                refine gv_V (c_X8_told ) l_X8_222 rfl m_rcv (Nat.le_of_ble_eq_true rfl) (Nat.le_of_ble_eq_true rfl) rfl dX8_findByName_60 ?_
                exact g_iret ⟨rfl, rfl, rfl⟩ rfl rfl dX8_findByName_63
              · -- f 34
                exfalso; omega
            | succ m29 ih29 =>
              intro j hj hjm hE2
              refine g_iload_n 2 rfl dX8_findByName_29 ?_
              refine g_iload_n 1 rfl dX8_findByName_30 ?_
              refine gn_icmp_le (by omega) (by omega) (tgt := 53) (by decide) dX8_findByName_31 (fun cc6 => ?_) (fun cc6 => ?_)
              · -- t 53
                exfalso; omega
              · -- f 34
                refine m_get 0 rfl f_X8_41 rfl dX8_findByName_34 dX8_findByName_35 ?_
                refine g_iload_n 2 rfl dX8_findByName_38 ?_
                refine gn_ic 1 (by decide) dX8_findByName_39 ?_
                refine gn_isub (by omega) dX8_findByName_40 ?_
                refine gn_bald MW_9 (by omega) (by decide) dX8_findByName_41 ?_
                refine gn_bp 32 (by decide) dX8_findByName_42 ?_
                refine g_icmp_ne (tgt := 53) (by decide) dX8_findByName_44 (fun h44 => ?_) (fun h44 => ?_)
                · -- t 53
                  obtain rfl : j = (spr (A 8) (spn (sp32 (A 8)) m 0) m) := (spr_f (fun z => h44 z.2)).symm.trans hE2
                  refine g_aload_n 0 rfl dX8_findByName_53 ?_
                  refine g_aload_n 0 rfl dX8_findByName_54 ?_
                  refine g_iload_n 1 rfl dX8_findByName_55 ?_
                  refine g_iload_n 2 rfl dX8_findByName_56 ?_
                  refine gv_V (c_X8_lodgerNamed (c := c) hc hc12 (by omega) (by omega)) l_X8_178 rfl m_rcv (Nat.le_of_ble_eq_true rfl) (Nat.le_of_ble_eq_true rfl) rfl dX8_findByName_57 ?_
                  refine gv_V (c_X8_told ) l_X8_222 rfl m_rcv (Nat.le_of_ble_eq_true rfl) (Nat.le_of_ble_eq_true rfl) rfl dX8_findByName_60 ?_
                  exact g_iret ⟨rfl, rfl, rfl⟩ rfl rfl dX8_findByName_63
                · -- f 47
                  refine gn_dec (lv2 := [(2, _), (0, _), (1, _)]) 2 rfl (by omega) (by decide) rfl dX8_findByName_47 ?_
                  refine g_goto (tgt := 29) (by decide) dX8_findByName_50 ?_
                  refine G.sub [1, 2, 0] rfl ?_
                  exact ih29 (j - 1) (by omega) (by omega) ((spr_t2 (by omega) h44).symm.trans hE2)
          refine G.sub [0, 1, 2] rfl ?_
          exact L29 (m - (spn (sp32 (A 8)) m 0)) m (by omega) (Nat.le_refl m) rfl
        · -- f 23
          refine gn_inc (lv2 := [(1, _), (0, _), (2, _)]) 1 rfl (by decide) rfl dX8_findByName_23 ?_
          refine g_goto (tgt := 7) (by decide) dX8_findByName_26 ?_
          refine G.sub [1, 0, 2] rfl ?_
          exact ih7 (p + 1) (by omega) ((spn_t (sp32_t.mpr h20)).symm.trans hE)
  refine G.sub [2, 1, 0] rfl ?_
  exact L7 m 0 (by omega) rfl
set_option maxRecDepth 100000 in
set_option maxHeartbeats 4000000 in
theorem c_X8_lodgersOn_ok {Γ : Gm} {mo n : Nat} {F : Hp} {I : Nat → Int32} {A : Nat → Nat → Int32} {f : Nat → Int32} {φ c : Nat} (hc : f 7 = nI c) (hc12 : c ≤ 12) (hφ : φ < 5) : Ct Γ 3 MX8_lodgersOn 0 0 [.ref mo, .int (nI φ)] (MW Γ mo F I A f) n (Rt (some (.int (nI (cntOn f (nI φ) (-1) c)))) (MW Γ mo F (upd I 2 (nI 0)) A f) n) X0 := by
  refine Ct.of (by decide +kernel) rfl (Nat.le_of_ble_eq_true rfl) ?_
  refine G.sub (lv2 := [(0, _), (1, _)]) [0, 1] rfl ?_
  refine g_iload_n 1 rfl dX8_lodgersOn_0 ?_
  refine gv_S (c_X8_isFloor ) l_X8_240 rfl (Nat.le_of_ble_eq_true rfl) (Nat.le_of_ble_eq_true rfl) rfl dX8_lodgersOn_1 ?_
  refine g_if_eq (tgt := 20) (by decide) dX8_lodgersOn_4 (fun h4 => ?_) (fun h4 => ?_)
  · -- t 20
    exact absurd (rg_ok (Nat.zero_le _) (show φ ≤ 4 by omega) (by decide)) (bi_0 h4)
  · -- f 7
    refine g_aload_n 0 rfl dX8_lodgersOn_7 ?_
    refine g_aload_n 0 rfl dX8_lodgersOn_8 ?_
    refine g_iload_n 1 rfl dX8_lodgersOn_9 ?_
    refine g_iconst (v := -1) dX8_lodgersOn_10 (by decide) ?_
    refine gv_V (c_X8_livingOn hc hc12) l_X8_80 rfl m_rcv (Nat.le_of_ble_eq_true rfl) (Nat.le_of_ble_eq_true rfl) rfl dX8_lodgersOn_11 ?_
    refine gv_V (c_X8_told ) l_X8_222 rfl m_rcv (Nat.le_of_ble_eq_true rfl) (Nat.le_of_ble_eq_true rfl) rfl dX8_lodgersOn_14 ?_
    refine g_goto (tgt := 25) (by decide) dX8_lodgersOn_17 ?_
    exact g_iret ⟨rfl, rfl, rfl⟩ rfl rfl dX8_lodgersOn_25
set_option maxRecDepth 100000 in
set_option maxHeartbeats 4000000 in
theorem c_X8_lodgersOn_no {Γ : Gm} {mo n : Nat} {F : Hp} {I : Nat → Int32} {A : Nat → Nat → Int32} {f : Nat → Int32} {x : Int32} (hx : ¬ (nI 0 ≤ x ∧ x ≤ nI 4)) : Ct Γ 3 MX8_lodgersOn 0 0 [.ref mo, .int x] (MW Γ mo F I A f) n (Rt (some (.int (nI 0))) (MW Γ mo F (upd I 2 (nI 1)) A f) n) X0 := by
  refine Ct.of (by decide +kernel) rfl (Nat.le_of_ble_eq_true rfl) ?_
  refine G.sub (lv2 := [(0, _), (1, _)]) [0, 1] rfl ?_
  refine g_iload_n 1 rfl dX8_lodgersOn_0 ?_
  refine gv_S (c_X8_isFloor ) l_X8_240 rfl (Nat.le_of_ble_eq_true rfl) (Nat.le_of_ble_eq_true rfl) rfl dX8_lodgersOn_1 ?_
  refine g_if_eq (tgt := 20) (by decide) dX8_lodgersOn_4 (fun h4 => ?_) (fun h4 => ?_)
  · -- t 20
    refine g_aload_n 0 rfl dX8_lodgersOn_20 ?_
    refine gn_ic 1 (by decide) dX8_lodgersOn_21 ?_
    refine gv_V (c_X8_refuse ) l_X8_216 rfl m_rcv (Nat.le_of_ble_eq_true rfl) (Nat.le_of_ble_eq_true rfl) rfl dX8_lodgersOn_22 ?_
    exact g_iret ⟨rfl, rfl, rfl⟩ rfl rfl dX8_lodgersOn_25
  · -- f 7
    exact absurd (bi_n0 h4) hx
set_option maxRecDepth 100000 in
set_option maxHeartbeats 4000000 in
theorem c_X8_lodgerOn_no1 {Γ : Gm} {mo n : Nat} {F : Hp} {I : Nat → Int32} {A : Nat → Nat → Int32} {f : Nat → Int32} {x y : Int32} (hx : ¬ (nI 0 ≤ x ∧ x ≤ nI 4)) : Ct Γ 3 MX8_lodgerOn 0 0 [.ref mo, .int x, .int y] (MW Γ mo F I A f) n (Rt (some (.int (nI 0))) (MW Γ mo F (upd I 2 (nI 1)) A f) n) X0 := by
  refine Ct.of (by decide +kernel) rfl (Nat.le_of_ble_eq_true rfl) ?_
  refine G.sub (lv2 := [(0, _), (1, _), (2, _)]) [0, 1, 2] rfl ?_
  refine g_iload_n 1 rfl dX8_lodgerOn_0 ?_
  refine gv_S (c_X8_isFloor ) l_X8_240 rfl (Nat.le_of_ble_eq_true rfl) (Nat.le_of_ble_eq_true rfl) rfl dX8_lodgerOn_1 ?_
  refine g_if_eq (tgt := 11) (by decide) dX8_lodgerOn_4 (fun h4 => ?_) (fun h4 => ?_)
  · -- t 11
    refine g_aload_n 0 rfl dX8_lodgerOn_11 ?_
    refine gn_ic 1 (by decide) dX8_lodgerOn_12 ?_
    refine gv_V (c_X8_refuse ) l_X8_216 rfl m_rcv (Nat.le_of_ble_eq_true rfl) (Nat.le_of_ble_eq_true rfl) rfl dX8_lodgerOn_13 ?_
    exact g_iret ⟨rfl, rfl, rfl⟩ rfl rfl dX8_lodgerOn_16
  · -- f 7
    exact absurd (bi_n0 h4) hx
set_option maxRecDepth 100000 in
set_option maxHeartbeats 4000000 in
theorem c_X8_lodgerOn_no2 {Γ : Gm} {mo n : Nat} {F : Hp} {I : Nat → Int32} {A : Nat → Nat → Int32} {f : Nat → Int32} {y : Int32} {φ : Nat} (hφ : φ < 5) (hy : y < 0) : Ct Γ 3 MX8_lodgerOn 0 0 [.ref mo, .int (nI φ), .int y] (MW Γ mo F I A f) n (Rt (some (.int (nI 0))) (MW Γ mo F (upd I 2 (nI 1)) A f) n) X0 := by
  refine Ct.of (by decide +kernel) rfl (Nat.le_of_ble_eq_true rfl) ?_
  refine G.sub (lv2 := [(0, _), (1, _), (2, _)]) [0, 1, 2] rfl ?_
  refine g_iload_n 1 rfl dX8_lodgerOn_0 ?_
  refine gv_S (c_X8_isFloor ) l_X8_240 rfl (Nat.le_of_ble_eq_true rfl) (Nat.le_of_ble_eq_true rfl) rfl dX8_lodgerOn_1 ?_
  refine g_if_eq (tgt := 11) (by decide) dX8_lodgerOn_4 (fun h4 => ?_) (fun h4 => ?_)
  · -- t 11
    exact absurd (rg_ok (Nat.zero_le _) (show φ ≤ 4 by omega) (by decide)) (bi_0 h4)
  · -- f 7
    refine g_iload_n 2 rfl dX8_lodgerOn_7 ?_
    refine g_if_ge (tgt := 17) (by decide) dX8_lodgerOn_8 (fun h8 => ?_) (fun h8 => ?_)
    · -- t 17
      exact absurd hy (Int32.not_lt.mpr h8)
    · -- f 11
      refine g_aload_n 0 rfl dX8_lodgerOn_11 ?_
      refine gn_ic 1 (by decide) dX8_lodgerOn_12 ?_
      refine gv_V (c_X8_refuse ) l_X8_216 rfl m_rcv (Nat.le_of_ble_eq_true rfl) (Nat.le_of_ble_eq_true rfl) rfl dX8_lodgerOn_13 ?_
      exact g_iret ⟨rfl, rfl, rfl⟩ rfl rfl dX8_lodgerOn_16
set_option maxRecDepth 100000 in
set_option maxHeartbeats 4000000 in
theorem c_X8_lodgerOn_ok {Γ : Gm} {mo n : Nat} {F : Hp} {I : Nat → Int32} {A : Nat → Nat → Int32} {f : Nat → Int32} {φ p c r : Nat} (hc : f 7 = nI c) (hc12 : c ≤ 12) (hφ : φ < 5) (hp31 : p < 2 ^ 31) (hp : plF f (nI φ) c 0 p = some r) : Ct Γ 3 MX8_lodgerOn 0 0 [.ref mo, .int (nI φ), .int (nI p)] (MW Γ mo F I A f) n (Rt (some (.int (nI r))) (MW Γ mo F (upd I 2 (nI 0)) A f) n) X0 := by
  refine Ct.of (by decide +kernel) rfl (Nat.le_of_ble_eq_true rfl) ?_
  refine G.sub (lv2 := [(0, _), (1, _), (2, _)]) [0, 1, 2] rfl ?_
  refine g_iload_n 1 rfl dX8_lodgerOn_0 ?_
  refine gv_S (c_X8_isFloor ) l_X8_240 rfl (Nat.le_of_ble_eq_true rfl) (Nat.le_of_ble_eq_true rfl) rfl dX8_lodgerOn_1 ?_
  refine g_if_eq (tgt := 11) (by decide) dX8_lodgerOn_4 (fun h4 => ?_) (fun h4 => ?_)
  · -- t 11
    exact absurd (rg_ok (Nat.zero_le _) (show φ ≤ 4 by omega) (by decide)) (bi_0 h4)
  · -- f 7
    refine g_iload_n 2 rfl dX8_lodgerOn_7 ?_
    refine g_if_ge (tgt := 17) (by decide) dX8_lodgerOn_8 (fun h8 => ?_) (fun h8 => ?_)
    · -- t 17
      refine g_iload_n 2 rfl dX8_lodgerOn_17 ?_
      refine g_istore_n (lv2 := [(3, _), (0, _), (1, _), (2, _)]) (by decide) rfl dX8_lodgerOn_18 ?_
      refine gn_ic 0 (by decide) dX8_lodgerOn_19 ?_
      refine g_istore (lv2 := [(4, _), (3, _), (0, _), (1, _), (2, _)]) (by decide) rfl dX8_lodgerOn_20 ?_
      have L22 : ∀ (m22 : Nat) (k q : Nat), (k + m22 = c) → (q ≤ p) → (plF f (nI φ) m22 k q = some r) → G Γ 3 MX8_lodgerOn (Rt (some (.int (nI r))) (MW Γ mo F (upd I 2 (nI 0)) A f) n) X0 22 [(0, .ref mo), (1, .int (nI φ)), (2, .int (nI p)), (3, .int (nI q)), (4, .int (nI k))] [] (MW Γ mo F I A f) n 0 0 := by
        intro m22
        induction m22 with
        | zero =>
          intro k q hk hq hE
          refine g_iload 4 rfl dX8_lodgerOn_22 ?_
          refine m_get 0 rfl f_X8_19 rfl dX8_lodgerOn_24 dX8_lodgerOn_25 ?_
          refine gn_bp 7 (by decide) dX8_lodgerOn_28 ?_
          refine gn_iald MW_3 (by omega) (by decide) dX8_lodgerOn_30 ?_
          refine g_top (y := nI c) hc ?_
          refine gn_icmp_ge (by omega) (by omega) (tgt := 70) (by decide) dX8_lodgerOn_31 (fun cc1 => ?_) (fun cc1 => ?_)
          · -- t 70
            refine g_aload_n 0 rfl dX8_lodgerOn_70 ?_
            refine gn_ic 1 (by decide) dX8_lodgerOn_71 ?_
            refine gv_V (c_X8_refuse ) l_X8_216 rfl m_rcv (Nat.le_of_ble_eq_true rfl) (Nat.le_of_ble_eq_true rfl) rfl dX8_lodgerOn_72 ?_
            cases hE
          · -- f 34
            exfalso; omega
        | succ m22 ih22 =>
          intro k q hk hq hE
          refine g_iload 4 rfl dX8_lodgerOn_22 ?_
          refine m_get 0 rfl f_X8_19 rfl dX8_lodgerOn_24 dX8_lodgerOn_25 ?_
          refine gn_bp 7 (by decide) dX8_lodgerOn_28 ?_
          refine gn_iald MW_3 (by omega) (by decide) dX8_lodgerOn_30 ?_
          refine g_top (y := nI c) hc ?_
          refine gn_icmp_ge (by omega) (by omega) (tgt := 70) (by decide) dX8_lodgerOn_31 (fun cc2 => ?_) (fun cc2 => ?_)
          · -- t 70
            exfalso; omega
          · -- f 34
            refine m_get 0 rfl f_X8_19 rfl dX8_lodgerOn_34 dX8_lodgerOn_35 ?_
            refine g_iload 4 rfl dX8_lodgerOn_38 ?_
            refine gv_S (c_X8_l ) l_X8_56 rfl (Nat.le_of_ble_eq_true rfl) (Nat.le_of_ble_eq_true rfl) rfl dX8_lodgerOn_40 ?_
            refine gn_ic 0 (by decide) dX8_lodgerOn_43 ?_
            refine gn_iadd0 dX8_lodgerOn_44 ?_
            refine gn_iald MW_3 (by omega) (by decide) dX8_lodgerOn_45 ?_
            refine g_iload_n 1 rfl dX8_lodgerOn_46 ?_
            refine g_icmp_ne (tgt := 64) (by decide) dX8_lodgerOn_47 (fun h47 => ?_) (fun h47 => ?_)
            · -- t 64
              refine gn_inc (lv2 := [(4, _), (0, _), (1, _), (2, _), (3, _)]) 4 rfl (by decide) rfl dX8_lodgerOn_64 ?_
              refine g_goto (tgt := 22) (by decide) dX8_lodgerOn_67 ?_
              refine G.sub [1, 2, 3, 4, 0] rfl ?_
              exact ih22 (k + 1) q (by omega) hq ((plF_n h47).symm.trans hE)
            · -- f 50
              refine g_iload_n 3 rfl dX8_lodgerOn_50 ?_
              refine gn_if_ne (by omega) (tgt := 61) (by decide) dX8_lodgerOn_51 (fun h51 => ?_) (fun h51 => ?_)
              · -- t 61
                refine gn_dec (lv2 := [(3, _), (0, _), (1, _), (2, _), (4, _)]) 3 rfl (by omega) (by decide) rfl dX8_lodgerOn_61 ?_
                refine gn_inc (lv2 := [(4, _), (3, _), (0, _), (1, _), (2, _)]) 4 rfl (by decide) rfl dX8_lodgerOn_64 ?_
                refine g_goto (tgt := 22) (by decide) dX8_lodgerOn_67 ?_
                refine G.sub [2, 3, 4, 1, 0] rfl ?_
                exact ih22 (k + 1) (q - 1) (by omega) (by omega) ((plF_1 h47 h51).symm.trans hE)
              · -- f 54
                refine g_aload_n 0 rfl dX8_lodgerOn_54 ?_
                refine g_iload 4 rfl dX8_lodgerOn_55 ?_
                refine gv_V (c_X8_told ) l_X8_222 rfl m_rcv (Nat.le_of_ble_eq_true rfl) (Nat.le_of_ble_eq_true rfl) rfl dX8_lodgerOn_57 ?_
                exact g_iret ⟨by rw [plF_0 h47 h51] at hE; cases hE; rfl, rfl, rfl⟩ rfl rfl dX8_lodgerOn_60
      refine G.sub [2, 3, 4, 1, 0] rfl ?_
      exact L22 c 0 p (by omega) (Nat.le_refl p) hp
    · -- f 11
      exact absurd (nI_le (Nat.zero_le p) (by omega)) h8
set_option maxRecDepth 100000 in
set_option maxHeartbeats 4000000 in
theorem c_X8_lodgerOn_no3 {Γ : Gm} {mo n : Nat} {F : Hp} {I : Nat → Int32} {A : Nat → Nat → Int32} {f : Nat → Int32} {φ p c : Nat} (hc : f 7 = nI c) (hc12 : c ≤ 12) (hφ : φ < 5) (hp31 : p < 2 ^ 31) (hp : plF f (nI φ) c 0 p = none) : Ct Γ 3 MX8_lodgerOn 0 0 [.ref mo, .int (nI φ), .int (nI p)] (MW Γ mo F I A f) n (Rt (some (.int (nI 0))) (MW Γ mo F (upd I 2 (nI 1)) A f) n) X0 := by
  refine Ct.of (by decide +kernel) rfl (Nat.le_of_ble_eq_true rfl) ?_
  refine G.sub (lv2 := [(0, _), (1, _), (2, _)]) [0, 1, 2] rfl ?_
  refine g_iload_n 1 rfl dX8_lodgerOn_0 ?_
  refine gv_S (c_X8_isFloor ) l_X8_240 rfl (Nat.le_of_ble_eq_true rfl) (Nat.le_of_ble_eq_true rfl) rfl dX8_lodgerOn_1 ?_
  refine g_if_eq (tgt := 11) (by decide) dX8_lodgerOn_4 (fun h4 => ?_) (fun h4 => ?_)
  · -- t 11
    exact absurd (rg_ok (Nat.zero_le _) (show φ ≤ 4 by omega) (by decide)) (bi_0 h4)
  · -- f 7
    refine g_iload_n 2 rfl dX8_lodgerOn_7 ?_
    refine g_if_ge (tgt := 17) (by decide) dX8_lodgerOn_8 (fun h8 => ?_) (fun h8 => ?_)
    · -- t 17
      refine g_iload_n 2 rfl dX8_lodgerOn_17 ?_
      refine g_istore_n (lv2 := [(3, _), (0, _), (1, _), (2, _)]) (by decide) rfl dX8_lodgerOn_18 ?_
      refine gn_ic 0 (by decide) dX8_lodgerOn_19 ?_
      refine g_istore (lv2 := [(4, _), (3, _), (0, _), (1, _), (2, _)]) (by decide) rfl dX8_lodgerOn_20 ?_
      have L22 : ∀ (m22 : Nat) (k q : Nat), (k + m22 = c) → (q ≤ p) → (plF f (nI φ) m22 k q = none) → G Γ 3 MX8_lodgerOn (Rt (some (.int (nI 0))) (MW Γ mo F (upd I 2 (nI 1)) A f) n) X0 22 [(0, .ref mo), (1, .int (nI φ)), (2, .int (nI p)), (3, .int (nI q)), (4, .int (nI k))] [] (MW Γ mo F I A f) n 0 0 := by
        intro m22
        induction m22 with
        | zero =>
          intro k q hk hq hE
          refine g_iload 4 rfl dX8_lodgerOn_22 ?_
          refine m_get 0 rfl f_X8_19 rfl dX8_lodgerOn_24 dX8_lodgerOn_25 ?_
          refine gn_bp 7 (by decide) dX8_lodgerOn_28 ?_
          refine gn_iald MW_3 (by omega) (by decide) dX8_lodgerOn_30 ?_
          refine g_top (y := nI c) hc ?_
          refine gn_icmp_ge (by omega) (by omega) (tgt := 70) (by decide) dX8_lodgerOn_31 (fun cc1 => ?_) (fun cc1 => ?_)
          · -- t 70
            refine g_aload_n 0 rfl dX8_lodgerOn_70 ?_
            refine gn_ic 1 (by decide) dX8_lodgerOn_71 ?_
            refine gv_V (c_X8_refuse ) l_X8_216 rfl m_rcv (Nat.le_of_ble_eq_true rfl) (Nat.le_of_ble_eq_true rfl) rfl dX8_lodgerOn_72 ?_
            exact g_iret ⟨rfl, rfl, rfl⟩ rfl rfl dX8_lodgerOn_75
          · -- f 34
            exfalso; omega
        | succ m22 ih22 =>
          intro k q hk hq hE
          refine g_iload 4 rfl dX8_lodgerOn_22 ?_
          refine m_get 0 rfl f_X8_19 rfl dX8_lodgerOn_24 dX8_lodgerOn_25 ?_
          refine gn_bp 7 (by decide) dX8_lodgerOn_28 ?_
          refine gn_iald MW_3 (by omega) (by decide) dX8_lodgerOn_30 ?_
          refine g_top (y := nI c) hc ?_
          refine gn_icmp_ge (by omega) (by omega) (tgt := 70) (by decide) dX8_lodgerOn_31 (fun cc2 => ?_) (fun cc2 => ?_)
          · -- t 70
            exfalso; omega
          · -- f 34
            refine m_get 0 rfl f_X8_19 rfl dX8_lodgerOn_34 dX8_lodgerOn_35 ?_
            refine g_iload 4 rfl dX8_lodgerOn_38 ?_
            refine gv_S (c_X8_l ) l_X8_56 rfl (Nat.le_of_ble_eq_true rfl) (Nat.le_of_ble_eq_true rfl) rfl dX8_lodgerOn_40 ?_
            refine gn_ic 0 (by decide) dX8_lodgerOn_43 ?_
            refine gn_iadd0 dX8_lodgerOn_44 ?_
            refine gn_iald MW_3 (by omega) (by decide) dX8_lodgerOn_45 ?_
            refine g_iload_n 1 rfl dX8_lodgerOn_46 ?_
            refine g_icmp_ne (tgt := 64) (by decide) dX8_lodgerOn_47 (fun h47 => ?_) (fun h47 => ?_)
            · -- t 64
              refine gn_inc (lv2 := [(4, _), (0, _), (1, _), (2, _), (3, _)]) 4 rfl (by decide) rfl dX8_lodgerOn_64 ?_
              refine g_goto (tgt := 22) (by decide) dX8_lodgerOn_67 ?_
              refine G.sub [1, 2, 3, 4, 0] rfl ?_
              exact ih22 (k + 1) q (by omega) hq ((plF_n h47).symm.trans hE)
            · -- f 50
              refine g_iload_n 3 rfl dX8_lodgerOn_50 ?_
              refine gn_if_ne (by omega) (tgt := 61) (by decide) dX8_lodgerOn_51 (fun h51 => ?_) (fun h51 => ?_)
              · -- t 61
                refine gn_dec (lv2 := [(3, _), (0, _), (1, _), (2, _), (4, _)]) 3 rfl (by omega) (by decide) rfl dX8_lodgerOn_61 ?_
                refine gn_inc (lv2 := [(4, _), (3, _), (0, _), (1, _), (2, _)]) 4 rfl (by decide) rfl dX8_lodgerOn_64 ?_
                refine g_goto (tgt := 22) (by decide) dX8_lodgerOn_67 ?_
                refine G.sub [2, 3, 4, 1, 0] rfl ?_
                exact ih22 (k + 1) (q - 1) (by omega) (by omega) ((plF_1 h47 h51).symm.trans hE)
              · -- f 54
                refine g_aload_n 0 rfl dX8_lodgerOn_54 ?_
                refine g_iload 4 rfl dX8_lodgerOn_55 ?_
                refine gv_V (c_X8_told ) l_X8_222 rfl m_rcv (Nat.le_of_ble_eq_true rfl) (Nat.le_of_ble_eq_true rfl) rfl dX8_lodgerOn_57 ?_
                rw [plF_0 h47 h51] at hE
                cases hE
      refine G.sub [2, 3, 4, 1, 0] rfl ?_
      exact L22 c 0 p (by omega) (Nat.le_refl p) hp
    · -- f 11
      exact absurd (nI_le (Nat.zero_le p) (by omega)) h8
set_option maxRecDepth 100000 in
set_option maxHeartbeats 4000000 in
theorem c_X8_averageVowel_no1 {Γ : Gm} {mo n : Nat} {F : Hp} {I : Nat → Int32} {A : Nat → Nat → Int32} {f : Nat → Int32} {x y : Int32} (hx : ¬ (nI 0 ≤ x ∧ x ≤ nI 4)) : Ct Γ 4 MX8_averageVowel 0 0 [.ref mo, .int x, .int y] (MW Γ mo F I A f) n (Rt (some (.int (nI 0))) (MW Γ mo F (upd I 2 (nI 1)) A f) n) X0 := by
  refine Ct.of (by decide +kernel) rfl (Nat.le_of_ble_eq_true rfl) ?_
  refine G.sub (lv2 := [(0, _), (1, _), (2, _)]) [0, 1, 2] rfl ?_
  refine g_iload_n 1 rfl dX8_averageVowel_0 ?_
  refine gv_S (c_X8_isFloor ) l_X8_240 rfl (Nat.le_of_ble_eq_true rfl) (Nat.le_of_ble_eq_true rfl) rfl dX8_averageVowel_1 ?_
  refine g_if_eq (tgt := 14) (by decide) dX8_averageVowel_4 (fun h4 => ?_) (fun h4 => ?_)
  · -- t 14
    refine g_aload_n 0 rfl dX8_averageVowel_14 ?_
    refine gn_ic 1 (by decide) dX8_averageVowel_15 ?_
    refine gv_V (c_X8_refuse ) l_X8_216 rfl m_rcv (Nat.le_of_ble_eq_true rfl) (Nat.le_of_ble_eq_true rfl) rfl dX8_averageVowel_16 ?_
    exact g_iret ⟨rfl, rfl, rfl⟩ rfl rfl dX8_averageVowel_19
  · -- f 7
    exact absurd (bi_n0 h4) hx
set_option maxRecDepth 100000 in
set_option maxHeartbeats 4000000 in
theorem c_X8_averageVowel_no2 {Γ : Gm} {mo n : Nat} {F : Hp} {I : Nat → Int32} {A : Nat → Nat → Int32} {f : Nat → Int32} {x : Int32} {φ : Nat} (hφ : φ < 5) (hx : ¬ (nI 0 ≤ x ∧ x ≤ nI 4)) : Ct Γ 4 MX8_averageVowel 0 0 [.ref mo, .int (nI φ), .int x] (MW Γ mo F I A f) n (Rt (some (.int (nI 0))) (MW Γ mo F (upd I 2 (nI 1)) A f) n) X0 := by
  refine Ct.of (by decide +kernel) rfl (Nat.le_of_ble_eq_true rfl) ?_
  refine G.sub (lv2 := [(0, _), (1, _), (2, _)]) [0, 1, 2] rfl ?_
  refine g_iload_n 1 rfl dX8_averageVowel_0 ?_
  refine gv_S (c_X8_isFloor ) l_X8_240 rfl (Nat.le_of_ble_eq_true rfl) (Nat.le_of_ble_eq_true rfl) rfl dX8_averageVowel_1 ?_
  refine g_if_eq (tgt := 14) (by decide) dX8_averageVowel_4 (fun h4 => ?_) (fun h4 => ?_)
  · -- t 14
    exact absurd (rg_ok (Nat.zero_le _) (show φ ≤ 4 by omega) (by decide)) (bi_0 h4)
  · -- f 7
    refine g_iload_n 2 rfl dX8_averageVowel_7 ?_
    refine gv_S (c_X8_isVowel ) l_X8_243 rfl (Nat.le_of_ble_eq_true rfl) (Nat.le_of_ble_eq_true rfl) rfl dX8_averageVowel_8 ?_
    refine g_if_ne (tgt := 20) (by decide) dX8_averageVowel_11 (fun h11 => ?_) (fun h11 => ?_)
    · -- t 20
      exact absurd (bi_n0 h11) hx
    · -- f 14
      refine g_aload_n 0 rfl dX8_averageVowel_14 ?_
      refine gn_ic 1 (by decide) dX8_averageVowel_15 ?_
      refine gv_V (c_X8_refuse ) l_X8_216 rfl m_rcv (Nat.le_of_ble_eq_true rfl) (Nat.le_of_ble_eq_true rfl) rfl dX8_averageVowel_16 ?_
      exact g_iret ⟨rfl, rfl, rfl⟩ rfl rfl dX8_averageVowel_19
set_option maxRecDepth 100000 in
set_option maxHeartbeats 4000000 in
theorem c_X8_averageVowel_no3 {Γ : Gm} {mo n : Nat} {F : Hp} {I : Nat → Int32} {A : Nat → Nat → Int32} {f : Nat → Int32} {φ v c : Nat} (hc : f 7 = nI c) (hc12 : c ≤ 12) (hφ : φ < 5) (hv : v < 5) (h0 : cntOn f (nI φ) (-1) c = 0) : Ct Γ 4 MX8_averageVowel 0 0 [.ref mo, .int (nI φ), .int (nI v)] (MW Γ mo F I A f) n (Rt (some (.int (nI 0))) (MW Γ mo F (upd I 2 (nI 2)) A f) n) X0 := by
  refine Ct.of (by decide +kernel) rfl (Nat.le_of_ble_eq_true rfl) ?_
  refine G.sub (lv2 := [(0, _), (1, _), (2, _)]) [0, 1, 2] rfl ?_
  refine g_iload_n 1 rfl dX8_averageVowel_0 ?_
  refine gv_S (c_X8_isFloor ) l_X8_240 rfl (Nat.le_of_ble_eq_true rfl) (Nat.le_of_ble_eq_true rfl) rfl dX8_averageVowel_1 ?_
  refine g_if_eq (tgt := 14) (by decide) dX8_averageVowel_4 (fun h4 => ?_) (fun h4 => ?_)
  · -- t 14
    exact absurd (rg_ok (Nat.zero_le _) (show φ ≤ 4 by omega) (by decide)) (bi_0 h4)
  · -- f 7
    refine g_iload_n 2 rfl dX8_averageVowel_7 ?_
    refine gv_S (c_X8_isVowel ) l_X8_243 rfl (Nat.le_of_ble_eq_true rfl) (Nat.le_of_ble_eq_true rfl) rfl dX8_averageVowel_8 ?_
    refine g_if_ne (tgt := 20) (by decide) dX8_averageVowel_11 (fun h11 => ?_) (fun h11 => ?_)
    · -- t 20
      refine g_aload_n 0 rfl dX8_averageVowel_20 ?_
      refine g_iload_n 1 rfl dX8_averageVowel_21 ?_
      refine g_iconst (v := -1) dX8_averageVowel_22 (by decide) ?_
      refine gv_V (c_X8_livingOn hc hc12) l_X8_80 rfl m_rcv (Nat.le_of_ble_eq_true rfl) (Nat.le_of_ble_eq_true rfl) rfl dX8_averageVowel_23 ?_
      refine gn_if_ne (by omega) (tgt := 35) (by decide) dX8_averageVowel_26 (fun h26 => ?_) (fun h26 => ?_)
      · -- t 35
        exact absurd h0 h26
      · -- f 29
        refine g_aload_n 0 rfl dX8_averageVowel_29 ?_
        refine gn_ic 2 (by decide) dX8_averageVowel_30 ?_
        refine gv_V (c_X8_refuse ) l_X8_216 rfl m_rcv (Nat.le_of_ble_eq_true rfl) (Nat.le_of_ble_eq_true rfl) rfl dX8_averageVowel_31 ?_
        exact g_iret ⟨rfl, rfl, rfl⟩ rfl rfl dX8_averageVowel_34
    · -- f 14
      exact absurd (rg_ok (Nat.zero_le _) (show v ≤ 4 by omega) (by decide)) (bi_0 h11)
set_option maxRecDepth 100000 in
set_option maxHeartbeats 4000000 in
theorem c_X8_averageVowel_ok {Γ : Gm} {mo n : Nat} {F : Hp} {I : Nat → Int32} {A : Nat → Nat → Int32} {f : Nat → Int32} {φ v c : Nat} (hc : f 7 = nI c) (hc12 : c ≤ 12) (hφ : φ < 5) (hv : v < 5) (h0 : ¬ cntOn f (nI φ) (-1) c = 0) : Ct Γ 4 MX8_averageVowel 0 0 [.ref mo, .int (nI φ), .int (nI v)] (MW Γ mo F I A f) n (Rt (some (.int (avgF f (nI φ) v c))) (MW Γ mo F (upd I 2 (nI 0)) A f) n) X0 := by
  refine Ct.of (by decide +kernel) rfl (Nat.le_of_ble_eq_true rfl) ?_
  have hcl := cntOn_le f (nI φ) (-1) c
  refine G.sub (lv2 := [(0, _), (1, _), (2, _)]) [0, 1, 2] rfl ?_
  refine g_iload_n 1 rfl dX8_averageVowel_0 ?_
  refine gv_S (c_X8_isFloor ) l_X8_240 rfl (Nat.le_of_ble_eq_true rfl) (Nat.le_of_ble_eq_true rfl) rfl dX8_averageVowel_1 ?_
  refine g_if_eq (tgt := 14) (by decide) dX8_averageVowel_4 (fun h4 => ?_) (fun h4 => ?_)
  · -- t 14
    exact absurd (rg_ok (Nat.zero_le _) (show φ ≤ 4 by omega) (by decide)) (bi_0 h4)
  · -- f 7
    refine g_iload_n 2 rfl dX8_averageVowel_7 ?_
    refine gv_S (c_X8_isVowel ) l_X8_243 rfl (Nat.le_of_ble_eq_true rfl) (Nat.le_of_ble_eq_true rfl) rfl dX8_averageVowel_8 ?_
    refine g_if_ne (tgt := 20) (by decide) dX8_averageVowel_11 (fun h11 => ?_) (fun h11 => ?_)
    · -- t 20
      refine g_aload_n 0 rfl dX8_averageVowel_20 ?_
      refine g_iload_n 1 rfl dX8_averageVowel_21 ?_
      refine g_iconst (v := -1) dX8_averageVowel_22 (by decide) ?_
      refine gv_V (c_X8_livingOn hc hc12) l_X8_80 rfl m_rcv (Nat.le_of_ble_eq_true rfl) (Nat.le_of_ble_eq_true rfl) rfl dX8_averageVowel_23 ?_
      refine gn_if_ne (by omega) (tgt := 35) (by decide) dX8_averageVowel_26 (fun h26 => ?_) (fun h26 => ?_)
      · -- t 35
        refine g_aload_n 0 rfl dX8_averageVowel_35 ?_
        refine g_aload_n 0 rfl dX8_averageVowel_36 ?_
        refine g_iload_n 1 rfl dX8_averageVowel_37 ?_
        refine g_iload_n 2 rfl dX8_averageVowel_38 ?_
        refine gv_V (c_X8_averageAt (c := c) hc hc12 hv) l_X8_83 rfl m_rcv (Nat.le_of_ble_eq_true rfl) (Nat.le_of_ble_eq_true rfl) rfl dX8_averageVowel_39 ?_
        refine gv_V (c_X8_told ) l_X8_222 rfl m_rcv (Nat.le_of_ble_eq_true rfl) (Nat.le_of_ble_eq_true rfl) rfl dX8_averageVowel_42 ?_
        exact g_iret ⟨rfl, rfl, rfl⟩ rfl rfl dX8_averageVowel_45
      · -- f 29
        exact absurd h26 h0
    · -- f 14
      exact absurd (rg_ok (Nat.zero_le _) (show v ≤ 4 by omega) (by decide)) (bi_0 h11)
set_option maxRecDepth 100000 in
set_option maxHeartbeats 4000000 in
theorem c_X8_distanceToLandlady_ok {Γ : Gm} {mo n : Nat} {F : Hp} {I : Nat → Int32} {A : Nat → Nat → Int32} {f : Nat → Int32} {k c : Nat} (hc : f 7 = nI c) (hc12 : c ≤ 12) (hk : k < c) : Ct Γ 4 MX8_distanceToLandlady 0 0 [.ref mo, .int (nI k)] (MW Γ mo F I A f) n (Rt (some (.int (dst (rw5 f k) (la5 f) 5))) (MW Γ mo F (upd I 2 (nI 0)) A f) n) X0 := by
  refine Ct.of (by decide +kernel) rfl (Nat.le_of_ble_eq_true rfl) ?_
  refine G.sub (lv2 := [(0, _), (1, _)]) [0, 1] rfl ?_
  refine g_aload_n 0 rfl dX8_distanceToLandlady_0 ?_
  refine g_iload_n 1 rfl dX8_distanceToLandlady_1 ?_
  refine gv_V (c_X8_isLodger hc) l_X8_249 rfl m_rcv (Nat.le_of_ble_eq_true rfl) (Nat.le_of_ble_eq_true rfl) rfl dX8_distanceToLandlady_2 ?_
  refine g_if_eq (tgt := 20) (by decide) dX8_distanceToLandlady_5 (fun h5 => ?_) (fun h5 => ?_)
  · -- t 20
    exact absurd (lod_ok hk hc12) (bi_0 h5)
  · -- f 8
    refine g_aload_n 0 rfl dX8_distanceToLandlady_8 ?_
    refine g_aload_n 0 rfl dX8_distanceToLandlady_9 ?_
    refine g_iload_n 1 rfl dX8_distanceToLandlady_10 ?_
    refine gv_V (c_X8_toLandlady (by omega)) l_X8_86 rfl m_rcv (Nat.le_of_ble_eq_true rfl) (Nat.le_of_ble_eq_true rfl) rfl dX8_distanceToLandlady_11 ?_
    refine gv_V (c_X8_told ) l_X8_222 rfl m_rcv (Nat.le_of_ble_eq_true rfl) (Nat.le_of_ble_eq_true rfl) rfl dX8_distanceToLandlady_14 ?_
    refine g_goto (tgt := 25) (by decide) dX8_distanceToLandlady_17 ?_
    exact g_iret ⟨rfl, rfl, rfl⟩ rfl rfl dX8_distanceToLandlady_25
set_option maxRecDepth 100000 in
set_option maxHeartbeats 4000000 in
theorem c_X8_distanceToLandlady_no {Γ : Gm} {mo n : Nat} {F : Hp} {I : Nat → Int32} {A : Nat → Nat → Int32} {f : Nat → Int32} {x : Int32} {c : Nat}  (hc : f 7 = nI c) (hc12 : c ≤ 12) (hx : ¬ (nI 0 ≤ x ∧ x ≤ nI c - nI 1)) : Ct Γ 4 MX8_distanceToLandlady 0 0 [.ref mo, .int x] (MW Γ mo F I A f) n (Rt (some (.int (nI 0))) (MW Γ mo F (upd I 2 (nI 1)) A f) n) X0 := by
  refine Ct.of (by decide +kernel) rfl (Nat.le_of_ble_eq_true rfl) ?_
  refine G.sub (lv2 := [(0, _), (1, _)]) [0, 1] rfl ?_
  refine g_aload_n 0 rfl dX8_distanceToLandlady_0 ?_
  refine g_iload_n 1 rfl dX8_distanceToLandlady_1 ?_
  refine gv_V (c_X8_isLodger hc) l_X8_249 rfl m_rcv (Nat.le_of_ble_eq_true rfl) (Nat.le_of_ble_eq_true rfl) rfl dX8_distanceToLandlady_2 ?_
  refine g_if_eq (tgt := 20) (by decide) dX8_distanceToLandlady_5 (fun h5 => ?_) (fun h5 => ?_)
  · -- t 20
    refine g_aload_n 0 rfl dX8_distanceToLandlady_20 ?_
    refine gn_ic 1 (by decide) dX8_distanceToLandlady_21 ?_
    refine gv_V (c_X8_refuse ) l_X8_216 rfl m_rcv (Nat.le_of_ble_eq_true rfl) (Nat.le_of_ble_eq_true rfl) rfl dX8_distanceToLandlady_22 ?_
    exact g_iret ⟨rfl, rfl, rfl⟩ (by decide +kernel) rfl dX8_distanceToLandlady_25
  · -- f 8
    exact absurd (bi_n0 h5) hx
set_option maxRecDepth 100000 in
set_option maxHeartbeats 4000000 in
theorem c_X8_distance_ok {Γ : Gm} {mo n : Nat} {F : Hp} {I : Nat → Int32} {A : Nat → Nat → Int32} {f : Nat → Int32} {k j c : Nat} (hc : f 7 = nI c) (hc12 : c ≤ 12) (hk : k < c) (hj : j < c) : Ct Γ 4 MX8_distance 0 0 [.ref mo, .int (nI k), .int (nI j)] (MW Γ mo F I A f) n (Rt (some (.int (dst (rw5 f k) (rw5 f j) 5))) (MW Γ mo F (upd I 2 (nI 0)) A f) n) X0 := by
  refine Ct.of (by decide +kernel) rfl (Nat.le_of_ble_eq_true rfl) ?_
  refine G.sub (lv2 := [(0, _), (1, _), (2, _)]) [0, 1, 2] rfl ?_
  refine g_aload_n 0 rfl dX8_distance_0 ?_
  refine g_iload_n 1 rfl dX8_distance_1 ?_
  refine gv_V (c_X8_isLodger hc) l_X8_249 rfl m_rcv (Nat.le_of_ble_eq_true rfl) (Nat.le_of_ble_eq_true rfl) rfl dX8_distance_2 ?_
  refine g_if_eq (tgt := 29) (by decide) dX8_distance_5 (fun h5 => ?_) (fun h5 => ?_)
  · -- t 29
    exact absurd (lod_ok hk hc12) (bi_0 h5)
  · -- f 8
    refine g_aload_n 0 rfl dX8_distance_8 ?_
    refine g_iload_n 2 rfl dX8_distance_9 ?_
    refine gv_V (c_X8_isLodger hc) l_X8_249 rfl m_rcv (Nat.le_of_ble_eq_true rfl) (Nat.le_of_ble_eq_true rfl) rfl dX8_distance_10 ?_
    refine g_if_eq (tgt := 29) (by decide) dX8_distance_13 (fun h13 => ?_) (fun h13 => ?_)
    · -- t 29
      exact absurd (lod_ok hj hc12) (bi_0 h13)
    · -- f 16
      refine g_aload_n 0 rfl dX8_distance_16 ?_
      refine g_aload_n 0 rfl dX8_distance_17 ?_
      refine g_iload_n 1 rfl dX8_distance_18 ?_
      refine g_iload_n 2 rfl dX8_distance_19 ?_
      refine gv_V (c_X8_between (by omega) (by omega)) l_X8_258 rfl m_rcv (Nat.le_of_ble_eq_true rfl) (Nat.le_of_ble_eq_true rfl) rfl dX8_distance_20 ?_
      refine gv_V (c_X8_told ) l_X8_222 rfl m_rcv (Nat.le_of_ble_eq_true rfl) (Nat.le_of_ble_eq_true rfl) rfl dX8_distance_23 ?_
      refine g_goto (tgt := 34) (by decide) dX8_distance_26 ?_
      exact g_iret ⟨rfl, rfl, rfl⟩ rfl rfl dX8_distance_34
set_option maxRecDepth 100000 in
set_option maxHeartbeats 4000000 in
theorem c_X8_distance_no1 {Γ : Gm} {mo n : Nat} {F : Hp} {I : Nat → Int32} {A : Nat → Nat → Int32} {f : Nat → Int32} {x y : Int32} {c : Nat} (hc : f 7 = nI c) (hc12 : c ≤ 12) (hx : ¬ (nI 0 ≤ x ∧ x ≤ nI c - nI 1)) : Ct Γ 4 MX8_distance 0 0 [.ref mo, .int x, .int y] (MW Γ mo F I A f) n (Rt (some (.int (nI 0))) (MW Γ mo F (upd I 2 (nI 1)) A f) n) X0 := by
  refine Ct.of (by decide +kernel) rfl (Nat.le_of_ble_eq_true rfl) ?_
  refine G.sub (lv2 := [(0, _), (1, _), (2, _)]) [0, 1, 2] rfl ?_
  refine g_aload_n 0 rfl dX8_distance_0 ?_
  refine g_iload_n 1 rfl dX8_distance_1 ?_
  refine gv_V (c_X8_isLodger hc) l_X8_249 rfl m_rcv (Nat.le_of_ble_eq_true rfl) (Nat.le_of_ble_eq_true rfl) rfl dX8_distance_2 ?_
  refine g_if_eq (tgt := 29) (by decide) dX8_distance_5 (fun h5 => ?_) (fun h5 => ?_)
  · -- t 29
    refine g_aload_n 0 rfl dX8_distance_29 ?_
    refine gn_ic 1 (by decide) dX8_distance_30 ?_
    refine gv_V (c_X8_refuse ) l_X8_216 rfl m_rcv (Nat.le_of_ble_eq_true rfl) (Nat.le_of_ble_eq_true rfl) rfl dX8_distance_31 ?_
    exact g_iret ⟨rfl, rfl, rfl⟩ (by decide +kernel) rfl dX8_distance_34
  · -- f 8
    exact absurd (bi_n0 h5) hx
set_option maxRecDepth 100000 in
set_option maxHeartbeats 4000000 in
theorem c_X8_distance_no2 {Γ : Gm} {mo n : Nat} {F : Hp} {I : Nat → Int32} {A : Nat → Nat → Int32} {f : Nat → Int32} {x : Int32} {k c : Nat} (hc : f 7 = nI c) (hc12 : c ≤ 12) (hx : ¬ (nI 0 ≤ x ∧ x ≤ nI c - nI 1)) (hk : k < c) : Ct Γ 4 MX8_distance 0 0 [.ref mo, .int (nI k), .int x] (MW Γ mo F I A f) n (Rt (some (.int (nI 0))) (MW Γ mo F (upd I 2 (nI 1)) A f) n) X0 := by
  refine Ct.of (by decide +kernel) rfl (Nat.le_of_ble_eq_true rfl) ?_
  refine G.sub (lv2 := [(0, _), (1, _), (2, _)]) [0, 1, 2] rfl ?_
  refine g_aload_n 0 rfl dX8_distance_0 ?_
  refine g_iload_n 1 rfl dX8_distance_1 ?_
  refine gv_V (c_X8_isLodger hc) l_X8_249 rfl m_rcv (Nat.le_of_ble_eq_true rfl) (Nat.le_of_ble_eq_true rfl) rfl dX8_distance_2 ?_
  refine g_if_eq (tgt := 29) (by decide) dX8_distance_5 (fun h5 => ?_) (fun h5 => ?_)
  · -- t 29
    exact absurd (lod_ok hk hc12) (bi_0 h5)
  · -- f 8
    refine g_aload_n 0 rfl dX8_distance_8 ?_
    refine g_iload_n 2 rfl dX8_distance_9 ?_
    refine gv_V (c_X8_isLodger hc) l_X8_249 rfl m_rcv (Nat.le_of_ble_eq_true rfl) (Nat.le_of_ble_eq_true rfl) rfl dX8_distance_10 ?_
    refine g_if_eq (tgt := 29) (by decide) dX8_distance_13 (fun h13 => ?_) (fun h13 => ?_)
    · -- t 29
      refine g_aload_n 0 rfl dX8_distance_29 ?_
      refine gn_ic 1 (by decide) dX8_distance_30 ?_
      refine gv_V (c_X8_refuse ) l_X8_216 rfl m_rcv (Nat.le_of_ble_eq_true rfl) (Nat.le_of_ble_eq_true rfl) rfl dX8_distance_31 ?_
      exact g_iret ⟨rfl, rfl, rfl⟩ (by decide +kernel) rfl dX8_distance_34
    · -- f 16
      exact absurd (bi_n0 h13) hx
set_option maxRecDepth 100000 in
set_option maxHeartbeats 4000000 in
theorem c_X8_refuses {Γ : Gm} {mo n : Nat} {F : Hp} {I : Nat → Int32} {A : Nat → Nat → Int32} {f : Nat → Int32}   : Ct Γ 1 MX8_refuses 0 0 [.ref mo] (MW Γ mo F I A f) n (Rt (some (.int (nI 0))) (MW Γ mo F (upd I 2 (nI 1)) A f) n) X0 := by
  refine Ct.of (by decide +kernel) rfl (Nat.le_of_ble_eq_true rfl) ?_
  refine G.sub (lv2 := [(0, _)]) [0] rfl ?_
  refine g_aload_n 0 rfl dX8_refuses_0 ?_
  refine gn_ic 1 (by decide) dX8_refuses_1 ?_
  refine m_put f_X8_63 w_X8_2 (by decide) rfl dX8_refuses_2 ?_
  refine gn_ic 0 (by decide) dX8_refuses_5 ?_
  exact g_iret ⟨rfl, rfl, rfl⟩ (by decide +kernel) rfl dX8_refuses_6
set_option maxRecDepth 100000 in
set_option maxHeartbeats 4000000 in
theorem c_X8_rhymes_ok {Γ : Gm} {mo n : Nat} {F : Hp} {I : Nat → Int32} {A : Nat → Nat → Int32} {f : Nat → Int32} {k j c : Nat} (hc : f 7 = nI c) (hc12 : c ≤ 12) (hk : k < c) (hj : j < c) : Ct Γ 4 MX8_rhymes 0 0 [.ref mo, .int (nI k), .int (nI j)] (MW Γ mo F I A f) n (Rt (some (.int (bi (dif (rw5 f k) (rw5 f j) 5 ≤ 1)))) (MW Γ mo F (upd I 2 (nI 0)) A f) n) X0 := by
  refine Ct.of (by decide +kernel) rfl (Nat.le_of_ble_eq_true rfl) ?_
  refine G.sub (lv2 := [(0, _), (1, _), (2, _)]) [0, 1, 2] rfl ?_
  refine g_aload_n 0 rfl dX8_rhymes_0 ?_
  refine g_iload_n 1 rfl dX8_rhymes_1 ?_
  refine gv_V (c_X8_isLodger hc) l_X8_249 rfl m_rcv (Nat.le_of_ble_eq_true rfl) (Nat.le_of_ble_eq_true rfl) rfl dX8_rhymes_2 ?_
  refine g_if_eq (tgt := 29) (by decide) dX8_rhymes_5 (fun h5 => ?_) (fun h5 => ?_)
  · -- t 29
    exact absurd (lod_ok hk hc12) (bi_0 h5)
  · -- f 8
    refine g_aload_n 0 rfl dX8_rhymes_8 ?_
    refine g_iload_n 2 rfl dX8_rhymes_9 ?_
    refine gv_V (c_X8_isLodger hc) l_X8_249 rfl m_rcv (Nat.le_of_ble_eq_true rfl) (Nat.le_of_ble_eq_true rfl) rfl dX8_rhymes_10 ?_
    refine g_if_eq (tgt := 29) (by decide) dX8_rhymes_13 (fun h13 => ?_) (fun h13 => ?_)
    · -- t 29
      exact absurd (lod_ok hj hc12) (bi_0 h13)
    · -- f 16
      refine g_aload_n 0 rfl dX8_rhymes_16 ?_
      refine g_aload_n 0 rfl dX8_rhymes_17 ?_
      refine g_iload_n 1 rfl dX8_rhymes_18 ?_
      refine g_iload_n 2 rfl dX8_rhymes_19 ?_
      refine gv_V (c_X8_rhyme (by omega) (by omega)) l_X8_261 rfl m_rcv (Nat.le_of_ble_eq_true rfl) (Nat.le_of_ble_eq_true rfl) rfl dX8_rhymes_20 ?_
      refine gv_V (c_X8_says ) l_X8_265 rfl m_rcv (Nat.le_of_ble_eq_true rfl) (Nat.le_of_ble_eq_true rfl) rfl dX8_rhymes_23 ?_
      refine g_goto (tgt := 33) (by decide) dX8_rhymes_26 ?_
      exact g_iret ⟨rfl, rfl, rfl⟩ bi_nar rfl dX8_rhymes_33
set_option maxRecDepth 100000 in
set_option maxHeartbeats 4000000 in
theorem c_X8_rhymes_no1 {Γ : Gm} {mo n : Nat} {F : Hp} {I : Nat → Int32} {A : Nat → Nat → Int32} {f : Nat → Int32} {x y : Int32} {c : Nat} (hc : f 7 = nI c) (hc12 : c ≤ 12) (hx : ¬ (nI 0 ≤ x ∧ x ≤ nI c - nI 1)) : Ct Γ 4 MX8_rhymes 0 0 [.ref mo, .int x, .int y] (MW Γ mo F I A f) n (Rt (some (.int (nI 0))) (MW Γ mo F (upd I 2 (nI 1)) A f) n) X0 := by
  refine Ct.of (by decide +kernel) rfl (Nat.le_of_ble_eq_true rfl) ?_
  refine G.sub (lv2 := [(0, _), (1, _), (2, _)]) [0, 1, 2] rfl ?_
  refine g_aload_n 0 rfl dX8_rhymes_0 ?_
  refine g_iload_n 1 rfl dX8_rhymes_1 ?_
  refine gv_V (c_X8_isLodger hc) l_X8_249 rfl m_rcv (Nat.le_of_ble_eq_true rfl) (Nat.le_of_ble_eq_true rfl) rfl dX8_rhymes_2 ?_
  refine g_if_eq (tgt := 29) (by decide) dX8_rhymes_5 (fun h5 => ?_) (fun h5 => ?_)
  · -- t 29
    refine g_aload_n 0 rfl dX8_rhymes_29 ?_
    refine gv_V (c_X8_refuses ) l_X8_269 rfl m_rcv (Nat.le_of_ble_eq_true rfl) (Nat.le_of_ble_eq_true rfl) rfl dX8_rhymes_30 ?_
    exact g_iret ⟨rfl, rfl, rfl⟩ (by decide +kernel) rfl dX8_rhymes_33
  · -- f 8
    exact absurd (bi_n0 h5) hx
set_option maxRecDepth 100000 in
set_option maxHeartbeats 4000000 in
theorem c_X8_rhymes_no2 {Γ : Gm} {mo n : Nat} {F : Hp} {I : Nat → Int32} {A : Nat → Nat → Int32} {f : Nat → Int32} {x : Int32} {k c : Nat} (hc : f 7 = nI c) (hc12 : c ≤ 12) (hx : ¬ (nI 0 ≤ x ∧ x ≤ nI c - nI 1)) (hk : k < c) : Ct Γ 4 MX8_rhymes 0 0 [.ref mo, .int (nI k), .int x] (MW Γ mo F I A f) n (Rt (some (.int (nI 0))) (MW Γ mo F (upd I 2 (nI 1)) A f) n) X0 := by
  refine Ct.of (by decide +kernel) rfl (Nat.le_of_ble_eq_true rfl) ?_
  refine G.sub (lv2 := [(0, _), (1, _), (2, _)]) [0, 1, 2] rfl ?_
  refine g_aload_n 0 rfl dX8_rhymes_0 ?_
  refine g_iload_n 1 rfl dX8_rhymes_1 ?_
  refine gv_V (c_X8_isLodger hc) l_X8_249 rfl m_rcv (Nat.le_of_ble_eq_true rfl) (Nat.le_of_ble_eq_true rfl) rfl dX8_rhymes_2 ?_
  refine g_if_eq (tgt := 29) (by decide) dX8_rhymes_5 (fun h5 => ?_) (fun h5 => ?_)
  · -- t 29
    exact absurd (lod_ok hk hc12) (bi_0 h5)
  · -- f 8
    refine g_aload_n 0 rfl dX8_rhymes_8 ?_
    refine g_iload_n 2 rfl dX8_rhymes_9 ?_
    refine gv_V (c_X8_isLodger hc) l_X8_249 rfl m_rcv (Nat.le_of_ble_eq_true rfl) (Nat.le_of_ble_eq_true rfl) rfl dX8_rhymes_10 ?_
    refine g_if_eq (tgt := 29) (by decide) dX8_rhymes_13 (fun h13 => ?_) (fun h13 => ?_)
    · -- t 29
      refine g_aload_n 0 rfl dX8_rhymes_29 ?_
      refine gv_V (c_X8_refuses ) l_X8_269 rfl m_rcv (Nat.le_of_ble_eq_true rfl) (Nat.le_of_ble_eq_true rfl) rfl dX8_rhymes_30 ?_
      exact g_iret ⟨rfl, rfl, rfl⟩ (by decide +kernel) rfl dX8_rhymes_33
    · -- f 16
      exact absurd (bi_n0 h13) hx
set_option maxRecDepth 100000 in
set_option maxHeartbeats 4000000 in
theorem c_X8_rhymesWithLandlady_ok {Γ : Gm} {mo n : Nat} {F : Hp} {I : Nat → Int32} {A : Nat → Nat → Int32} {f : Nat → Int32} {k c : Nat} (hc : f 7 = nI c) (hc12 : c ≤ 12) (hk : k < c) : Ct Γ 4 MX8_rhymesWithLandlady 0 0 [.ref mo, .int (nI k)] (MW Γ mo F I A f) n (Rt (some (.int (bi (dif (rw5 f k) (la5 f) 5 ≤ 1)))) (MW Γ mo F (upd I 2 (nI 0)) A f) n) X0 := by
  refine Ct.of (by decide +kernel) rfl (Nat.le_of_ble_eq_true rfl) ?_
  refine G.sub (lv2 := [(0, _), (1, _)]) [0, 1] rfl ?_
  refine g_aload_n 0 rfl dX8_rhymesWithLandlady_0 ?_
  refine g_iload_n 1 rfl dX8_rhymesWithLandlady_1 ?_
  refine gv_V (c_X8_isLodger hc) l_X8_249 rfl m_rcv (Nat.le_of_ble_eq_true rfl) (Nat.le_of_ble_eq_true rfl) rfl dX8_rhymesWithLandlady_2 ?_
  refine g_if_eq (tgt := 20) (by decide) dX8_rhymesWithLandlady_5 (fun h5 => ?_) (fun h5 => ?_)
  · -- t 20
    exact absurd (lod_ok hk hc12) (bi_0 h5)
  · -- f 8
    refine g_aload_n 0 rfl dX8_rhymesWithLandlady_8 ?_
    refine g_aload_n 0 rfl dX8_rhymesWithLandlady_9 ?_
    refine g_iload_n 1 rfl dX8_rhymesWithLandlady_10 ?_
    refine gv_V (c_X8_rhymesHer (by omega)) l_X8_89 rfl m_rcv (Nat.le_of_ble_eq_true rfl) (Nat.le_of_ble_eq_true rfl) rfl dX8_rhymesWithLandlady_11 ?_
    refine gv_V (c_X8_says ) l_X8_265 rfl m_rcv (Nat.le_of_ble_eq_true rfl) (Nat.le_of_ble_eq_true rfl) rfl dX8_rhymesWithLandlady_14 ?_
    refine g_goto (tgt := 24) (by decide) dX8_rhymesWithLandlady_17 ?_
    exact g_iret ⟨rfl, rfl, rfl⟩ bi_nar rfl dX8_rhymesWithLandlady_24
set_option maxRecDepth 100000 in
set_option maxHeartbeats 4000000 in
theorem c_X8_rhymesWithLandlady_no {Γ : Gm} {mo n : Nat} {F : Hp} {I : Nat → Int32} {A : Nat → Nat → Int32} {f : Nat → Int32} {x : Int32} {c : Nat}  (hc : f 7 = nI c) (hc12 : c ≤ 12) (hx : ¬ (nI 0 ≤ x ∧ x ≤ nI c - nI 1)) : Ct Γ 4 MX8_rhymesWithLandlady 0 0 [.ref mo, .int x] (MW Γ mo F I A f) n (Rt (some (.int (nI 0))) (MW Γ mo F (upd I 2 (nI 1)) A f) n) X0 := by
  refine Ct.of (by decide +kernel) rfl (Nat.le_of_ble_eq_true rfl) ?_
  refine G.sub (lv2 := [(0, _), (1, _)]) [0, 1] rfl ?_
  refine g_aload_n 0 rfl dX8_rhymesWithLandlady_0 ?_
  refine g_iload_n 1 rfl dX8_rhymesWithLandlady_1 ?_
  refine gv_V (c_X8_isLodger hc) l_X8_249 rfl m_rcv (Nat.le_of_ble_eq_true rfl) (Nat.le_of_ble_eq_true rfl) rfl dX8_rhymesWithLandlady_2 ?_
  refine g_if_eq (tgt := 20) (by decide) dX8_rhymesWithLandlady_5 (fun h5 => ?_) (fun h5 => ?_)
  · -- t 20
    refine g_aload_n 0 rfl dX8_rhymesWithLandlady_20 ?_
    refine gv_V (c_X8_refuses ) l_X8_269 rfl m_rcv (Nat.le_of_ble_eq_true rfl) (Nat.le_of_ble_eq_true rfl) rfl dX8_rhymesWithLandlady_21 ?_
    exact g_iret ⟨rfl, rfl, rfl⟩ (by decide +kernel) rfl dX8_rhymesWithLandlady_24
  · -- f 8
    exact absurd (bi_n0 h5) hx
set_option maxRecDepth 100000 in
set_option maxHeartbeats 4000000 in
theorem c_X8_rhymeCount_ok {Γ : Gm} {mo n : Nat} {F : Hp} {I : Nat → Int32} {A : Nat → Nat → Int32} {f : Nat → Int32} {k c : Nat} (hc : f 7 = nI c) (hc12 : c ≤ 12) (hk : k < c) : Ct Γ 4 MX8_rhymeCount 0 0 [.ref mo, .int (nI k)] (MW Γ mo F I A f) n (Rt (some (.int (nI (rcF f k c)))) (MW Γ mo F (upd I 2 (nI 0)) A f) n) X0 := by
  refine Ct.of (by decide +kernel) rfl (Nat.le_of_ble_eq_true rfl) ?_
  refine G.sub (lv2 := [(0, _), (1, _)]) [0, 1] rfl ?_
  refine g_aload_n 0 rfl dX8_rhymeCount_0 ?_
  refine g_iload_n 1 rfl dX8_rhymeCount_1 ?_
  refine gv_V (c_X8_isLodger hc) l_X8_249 rfl m_rcv (Nat.le_of_ble_eq_true rfl) (Nat.le_of_ble_eq_true rfl) rfl dX8_rhymeCount_2 ?_
  refine g_if_ne (tgt := 14) (by decide) dX8_rhymeCount_5 (fun h5 => ?_) (fun h5 => ?_)
  · -- t 14
    refine gn_ic 0 (by decide) dX8_rhymeCount_14 ?_
    refine g_istore_n (lv2 := [(2, _), (0, _), (1, _)]) (by decide) rfl dX8_rhymeCount_15 ?_
    refine gn_ic 0 (by decide) dX8_rhymeCount_16 ?_
    refine g_istore_n (lv2 := [(3, _), (2, _), (0, _), (1, _)]) (by decide) rfl dX8_rhymeCount_17 ?_
    have L18 : ∀ (m18 i18 : Nat), i18 + m18 = c → G Γ 4 MX8_rhymeCount (Rt (some (.int (nI (rcF f k c)))) (MW Γ mo F (upd I 2 (nI 0)) A f) n) X0 18 [(0, .ref mo), (1, .int (nI k)), (2, .int (nI (rcF f k i18))), (3, .int (nI i18))] [] (MW Γ mo F I A f) n 0 0 := by
      intro m18
      induction m18 with
      | zero =>
        intro i18 hi18
        refine g_iload_n 3 rfl dX8_rhymeCount_18 ?_
        refine m_get 0 rfl f_X8_19 rfl dX8_rhymeCount_19 dX8_rhymeCount_20 ?_
        refine gn_bp 7 (by decide) dX8_rhymeCount_23 ?_
        refine gn_iald MW_3 (by omega) (by decide) dX8_rhymeCount_25 ?_
        refine g_top (y := nI c) hc ?_
        refine gn_icmp_ge (by omega) (by omega) (tgt := 57) (by decide) dX8_rhymeCount_26 (fun cc1 => ?_) (fun cc1 => ?_)
        · -- t 57
          obtain rfl : c = i18 := by omega
          refine g_aload_n 0 rfl dX8_rhymeCount_57 ?_
          refine g_iload_n 2 rfl dX8_rhymeCount_58 ?_
          refine gv_V (c_X8_told ) l_X8_222 rfl m_rcv (Nat.le_of_ble_eq_true rfl) (Nat.le_of_ble_eq_true rfl) rfl dX8_rhymeCount_59 ?_
          exact g_iret ⟨rfl, rfl, rfl⟩ rfl rfl dX8_rhymeCount_62
        · -- f 29
          exfalso; omega
      | succ m18 ih18 =>
        intro i18 hi18
        refine g_iload_n 3 rfl dX8_rhymeCount_18 ?_
        refine m_get 0 rfl f_X8_19 rfl dX8_rhymeCount_19 dX8_rhymeCount_20 ?_
        refine gn_bp 7 (by decide) dX8_rhymeCount_23 ?_
        refine gn_iald MW_3 (by omega) (by decide) dX8_rhymeCount_25 ?_
        refine g_top (y := nI c) hc ?_
        refine gn_icmp_ge (by omega) (by omega) (tgt := 57) (by decide) dX8_rhymeCount_26 (fun cc2 => ?_) (fun cc2 => ?_)
        · -- t 57
          exfalso; omega
        · -- f 29
          refine g_iload_n 2 rfl dX8_rhymeCount_29 ?_
          refine g_iload_n 3 rfl dX8_rhymeCount_30 ?_
          refine g_iload_n 1 rfl dX8_rhymeCount_31 ?_
          refine gn_icmp_eq (by omega) (by omega) (tgt := 48) (by decide) dX8_rhymeCount_32 (fun h32 => ?_) (fun h32 => ?_)
          · -- t 48
            refine gn_ic 0 (by decide) dX8_rhymeCount_48 ?_
            refine gn_iadd0 dX8_rhymeCount_49 ?_
            refine g_istore_n (lv2 := [(2, _), (0, _), (1, _), (3, _)]) (by decide) rfl dX8_rhymeCount_50 ?_
            refine gn_inc (lv2 := [(3, _), (2, _), (0, _), (1, _)]) 3 rfl (by decide) rfl dX8_rhymeCount_51 ?_
            refine g_goto (tgt := 18) (by decide) dX8_rhymeCount_54 ?_
            refine G.sub [2, 3, 1, 0] rfl ?_
            (have h := ih18 (i18 + 1) (by omega); first | (rw [show rcF f k (i18 + 1) = rcF f k i18 + 1 from by simp [rcF, *]] at h; exact h) | (rw [show rcF f k (i18 + 1) = rcF f k i18 from by simp [rcF, *]] at h; exact h))
          · -- f 35
            refine g_aload_n 0 rfl dX8_rhymeCount_35 ?_
            refine g_iload_n 3 rfl dX8_rhymeCount_36 ?_
            refine g_iload_n 1 rfl dX8_rhymeCount_37 ?_
            refine gv_V (c_X8_rhyme (by omega) (by omega)) l_X8_261 rfl m_rcv (Nat.le_of_ble_eq_true rfl) (Nat.le_of_ble_eq_true rfl) rfl dX8_rhymeCount_38 ?_
            refine g_if_eq (tgt := 48) (by decide) dX8_rhymeCount_41 (fun h41 => ?_) (fun h41 => ?_)
            · -- t 48
              have h41b := bi_0 h41
              refine gn_ic 0 (by decide) dX8_rhymeCount_48 ?_
              refine gn_iadd0 dX8_rhymeCount_49 ?_
              refine g_istore_n (lv2 := [(2, _), (0, _), (1, _), (3, _)]) (by decide) rfl dX8_rhymeCount_50 ?_
              refine gn_inc (lv2 := [(3, _), (2, _), (0, _), (1, _)]) 3 rfl (by decide) rfl dX8_rhymeCount_51 ?_
              refine g_goto (tgt := 18) (by decide) dX8_rhymeCount_54 ?_
              refine G.sub [2, 3, 1, 0] rfl ?_
              (have h := ih18 (i18 + 1) (by omega); first | (rw [show rcF f k (i18 + 1) = rcF f k i18 + 1 from by simp [rcF, *]] at h; exact h) | (rw [show rcF f k (i18 + 1) = rcF f k i18 from by simp [rcF, *]] at h; exact h))
            · -- f 44
              have h41b := bi_n0 h41
              refine gn_ic 1 (by decide) dX8_rhymeCount_44 ?_
              refine g_goto (tgt := 49) (by decide) dX8_rhymeCount_45 ?_
              refine gn_iadd dX8_rhymeCount_49 ?_
              refine g_istore_n (lv2 := [(2, _), (0, _), (1, _), (3, _)]) (by decide) rfl dX8_rhymeCount_50 ?_
              refine gn_inc (lv2 := [(3, _), (2, _), (0, _), (1, _)]) 3 rfl (by decide) rfl dX8_rhymeCount_51 ?_
              refine g_goto (tgt := 18) (by decide) dX8_rhymeCount_54 ?_
              refine G.sub [2, 3, 1, 0] rfl ?_
              (have h := ih18 (i18 + 1) (by omega); first | (rw [show rcF f k (i18 + 1) = rcF f k i18 + 1 from by simp [rcF, *]] at h; exact h) | (rw [show rcF f k (i18 + 1) = rcF f k i18 from by simp [rcF, *]] at h; exact h))
    refine G.sub [2, 3, 1, 0] rfl ?_
    exact L18 _ 0 (Nat.zero_add _)
  · -- f 8
    exact absurd (lod_ok hk hc12) (bi_0 h5)
set_option maxRecDepth 100000 in
set_option maxHeartbeats 4000000 in
theorem c_X8_rhymeCount_no {Γ : Gm} {mo n : Nat} {F : Hp} {I : Nat → Int32} {A : Nat → Nat → Int32} {f : Nat → Int32} {x : Int32} {c : Nat}  (hc : f 7 = nI c) (hc12 : c ≤ 12) (hx : ¬ (nI 0 ≤ x ∧ x ≤ nI c - nI 1)) : Ct Γ 4 MX8_rhymeCount 0 0 [.ref mo, .int x] (MW Γ mo F I A f) n (Rt (some (.int (nI 0))) (MW Γ mo F (upd I 2 (nI 1)) A f) n) X0 := by
  refine Ct.of (by decide +kernel) rfl (Nat.le_of_ble_eq_true rfl) ?_
  refine G.sub (lv2 := [(0, _), (1, _)]) [0, 1] rfl ?_
  refine g_aload_n 0 rfl dX8_rhymeCount_0 ?_
  refine g_iload_n 1 rfl dX8_rhymeCount_1 ?_
  refine gv_V (c_X8_isLodger hc) l_X8_249 rfl m_rcv (Nat.le_of_ble_eq_true rfl) (Nat.le_of_ble_eq_true rfl) rfl dX8_rhymeCount_2 ?_
  refine g_if_ne (tgt := 14) (by decide) dX8_rhymeCount_5 (fun h5 => ?_) (fun h5 => ?_)
  · -- t 14
    exact absurd (bi_n0 h5) hx
  · -- f 8
    refine g_aload_n 0 rfl dX8_rhymeCount_8 ?_
    refine gn_ic 1 (by decide) dX8_rhymeCount_9 ?_
    refine gv_V (c_X8_refuse ) l_X8_216 rfl m_rcv (Nat.le_of_ble_eq_true rfl) (Nat.le_of_ble_eq_true rfl) rfl dX8_rhymeCount_10 ?_
    exact g_iret ⟨rfl, rfl, rfl⟩ (by decide +kernel) rfl dX8_rhymeCount_13
set_option maxRecDepth 100000 in
set_option maxHeartbeats 4000000 in
theorem c_X8_closestTo_ok {Γ : Gm} {mo n : Nat} {F : Hp} {I : Nat → Int32} {A : Nat → Nat → Int32} {f : Nat → Int32} {k c : Nat} (hc : f 7 = nI c) (hc12 : c ≤ 12) (hk : k < c) : Ct Γ 4 MX8_closestTo 0 0 [.ref mo, .int (nI k)] (MW Γ mo F I A f) n (Rt (some (.int (oI (clF f k c)))) (MW Γ mo F (upd I 2 (nI 0)) A f) n) X0 := by
  refine Ct.of (by decide +kernel) rfl (Nat.le_of_ble_eq_true rfl) ?_
  have hk12 : k < 12 := by omega
  refine G.sub (lv2 := [(0, _), (1, _)]) [0, 1] rfl ?_
  refine g_aload_n 0 rfl dX8_closestTo_0 ?_
  refine g_iload_n 1 rfl dX8_closestTo_1 ?_
  refine gv_V (c_X8_isLodger hc) l_X8_249 rfl m_rcv (Nat.le_of_ble_eq_true rfl) (Nat.le_of_ble_eq_true rfl) rfl dX8_closestTo_2 ?_
  refine g_if_ne (tgt := 14) (by decide) dX8_closestTo_5 (fun h5 => ?_) (fun h5 => ?_)
  · -- t 14
    refine g_iconst (v := -1) dX8_closestTo_14 (by decide) ?_
    refine g_istore_n (lv2 := [(2, _), (0, _), (1, _)]) (by decide) rfl dX8_closestTo_15 ?_
    refine gn_ic 0 (by decide) dX8_closestTo_16 ?_
    refine g_istore_n (lv2 := [(3, _), (2, _), (0, _), (1, _)]) (by decide) rfl dX8_closestTo_17 ?_
    have L18 : ∀ (m18 i18 : Nat), i18 + m18 = c → G Γ 4 MX8_closestTo (Rt (some (.int (oI (clF f k c)))) (MW Γ mo F (upd I 2 (nI 0)) A f) n) X0 18 [(0, .ref mo), (1, .int (nI k)), (2, .int (oI (clF f k i18))), (3, .int (nI i18))] [] (MW Γ mo F I A f) n 0 0 := by
      intro m18
      induction m18 with
      | zero =>
        intro i18 hi18
        refine g_iload_n 3 rfl dX8_closestTo_18 ?_
        refine m_get 0 rfl f_X8_19 rfl dX8_closestTo_19 dX8_closestTo_20 ?_
        refine gn_bp 7 (by decide) dX8_closestTo_23 ?_
        refine gn_iald MW_3 (by omega) (by decide) dX8_closestTo_25 ?_
        refine g_top (y := nI c) hc ?_
        refine gn_icmp_ge (by omega) (by omega) (tgt := 62) (by decide) dX8_closestTo_26 (fun cc1 => ?_) (fun cc1 => ?_)
        · -- t 62
          obtain rfl : c = i18 := by omega
          refine g_aload_n 0 rfl dX8_closestTo_62 ?_
          refine g_iload_n 2 rfl dX8_closestTo_63 ?_
          refine gv_V (c_X8_told ) l_X8_222 rfl m_rcv (Nat.le_of_ble_eq_true rfl) (Nat.le_of_ble_eq_true rfl) rfl dX8_closestTo_64 ?_
          exact g_iret ⟨rfl, rfl, rfl⟩ rfl rfl dX8_closestTo_67
        · -- f 29
          exfalso; omega
      | succ m18 ih18 =>
        intro i18 hi18
        refine g_iload_n 3 rfl dX8_closestTo_18 ?_
        refine m_get 0 rfl f_X8_19 rfl dX8_closestTo_19 dX8_closestTo_20 ?_
        refine gn_bp 7 (by decide) dX8_closestTo_23 ?_
        refine gn_iald MW_3 (by omega) (by decide) dX8_closestTo_25 ?_
        refine g_top (y := nI c) hc ?_
        refine gn_icmp_ge (by omega) (by omega) (tgt := 62) (by decide) dX8_closestTo_26 (fun cc2 => ?_) (fun cc2 => ?_)
        · -- t 62
          exfalso; omega
        · -- f 29
          refine g_iload_n 3 rfl dX8_closestTo_29 ?_
          refine g_iload_n 1 rfl dX8_closestTo_30 ?_
          refine gn_icmp_eq (by omega) (by omega) (tgt := 56) (by decide) dX8_closestTo_31 (fun h31 => ?_) (fun h31 => ?_)
          · -- t 56
            refine gn_inc (lv2 := [(3, _), (0, _), (1, _), (2, _)]) 3 rfl (by decide) rfl dX8_closestTo_56 ?_
            refine g_goto (tgt := 18) (by decide) dX8_closestTo_59 ?_
            refine G.sub [1, 2, 3, 0] rfl ?_
            exact (by have h := ih18 (i18 + 1) (by omega); rw [clF_k h31] at h; exact h)
          · -- f 34
            refine g_iload_n 2 rfl dX8_closestTo_34 ?_
            refine g_iconst (v := -1) dX8_closestTo_35 (by decide) ?_
            refine g_icmp_eq (tgt := 54) (by decide) dX8_closestTo_36 (fun h36 => ?_) (fun h36 => ?_)
            · -- t 54
              refine g_iload_n 3 rfl dX8_closestTo_54 ?_
              refine g_istore_n (lv2 := [(2, _), (0, _), (1, _), (3, _)]) (by decide) rfl dX8_closestTo_55 ?_
              refine gn_inc (lv2 := [(3, _), (2, _), (0, _), (1, _)]) 3 rfl (by decide) rfl dX8_closestTo_56 ?_
              refine g_goto (tgt := 18) (by decide) dX8_closestTo_59 ?_
              refine G.sub [2, 3, 1, 0] rfl ?_
              exact (by have h := ih18 (i18 + 1) (by omega); rw [clF_0 h31 (oI_n (by omega) h36)] at h; exact h)
            · -- f 39
              obtain ⟨b, hb⟩ : ∃ b, clF f k i18 = some b := oI_s h36
              have hb12 := clF_lt hb
              rw [show oI (clF f k i18) = nI b from by rw [hb]; rfl]
              refine g_aload_n 0 rfl dX8_closestTo_39 ?_
              refine g_iload_n 3 rfl dX8_closestTo_40 ?_
              refine g_iload_n 1 rfl dX8_closestTo_41 ?_
              refine gv_V (c_X8_between (by omega) hk12) l_X8_258 rfl m_rcv (Nat.le_of_ble_eq_true rfl) (Nat.le_of_ble_eq_true rfl) rfl dX8_closestTo_42 ?_
              refine g_aload_n 0 rfl dX8_closestTo_45 ?_
              refine g_iload_n 2 rfl dX8_closestTo_46 ?_
              refine g_iload_n 1 rfl dX8_closestTo_47 ?_
              refine gv_V (c_X8_between (by omega) hk12) l_X8_258 rfl m_rcv (Nat.le_of_ble_eq_true rfl) (Nat.le_of_ble_eq_true rfl) rfl dX8_closestTo_48 ?_
              refine g_icmp_ge (tgt := 56) (by decide) dX8_closestTo_51 (fun h51 => ?_) (fun h51 => ?_)
              · -- t 56
                refine gn_inc (lv2 := [(3, _), (0, _), (1, _), (2, _)]) 3 rfl (by decide) rfl dX8_closestTo_56 ?_
                refine g_goto (tgt := 18) (by decide) dX8_closestTo_59 ?_
                refine G.sub [1, 2, 3, 0] rfl ?_
                exact (by have h := ih18 (i18 + 1) (by omega); rw [clF_f h31 hb (Int32.not_lt.mpr h51)] at h; exact h)
              · -- f 54
                refine g_iload_n 3 rfl dX8_closestTo_54 ?_
                refine g_istore_n (lv2 := [(2, _), (0, _), (1, _), (3, _)]) (by decide) rfl dX8_closestTo_55 ?_
                refine gn_inc (lv2 := [(3, _), (2, _), (0, _), (1, _)]) 3 rfl (by decide) rfl dX8_closestTo_56 ?_
                refine g_goto (tgt := 18) (by decide) dX8_closestTo_59 ?_
                refine G.sub [2, 3, 1, 0] rfl ?_
                exact (by have h := ih18 (i18 + 1) (by omega); rw [clF_t h31 hb (Int32.not_le.mp h51)] at h; exact h)
    refine G.sub [2, 3, 1, 0] rfl ?_
    exact L18 _ 0 (Nat.zero_add _)
  · -- f 8
    exact absurd (lod_ok hk hc12) (bi_0 h5)
set_option maxRecDepth 100000 in
set_option maxHeartbeats 4000000 in
theorem c_X8_closestTo_no {Γ : Gm} {mo n : Nat} {F : Hp} {I : Nat → Int32} {A : Nat → Nat → Int32} {f : Nat → Int32} {x : Int32} {c : Nat}  (hc : f 7 = nI c) (hc12 : c ≤ 12) (hx : ¬ (nI 0 ≤ x ∧ x ≤ nI c - nI 1)) : Ct Γ 4 MX8_closestTo 0 0 [.ref mo, .int x] (MW Γ mo F I A f) n (Rt (some (.int (nI 0))) (MW Γ mo F (upd I 2 (nI 1)) A f) n) X0 := by
  refine Ct.of (by decide +kernel) rfl (Nat.le_of_ble_eq_true rfl) ?_
  refine G.sub (lv2 := [(0, _), (1, _)]) [0, 1] rfl ?_
  refine g_aload_n 0 rfl dX8_closestTo_0 ?_
  refine g_iload_n 1 rfl dX8_closestTo_1 ?_
  refine gv_V (c_X8_isLodger hc) l_X8_249 rfl m_rcv (Nat.le_of_ble_eq_true rfl) (Nat.le_of_ble_eq_true rfl) rfl dX8_closestTo_2 ?_
  refine g_if_ne (tgt := 14) (by decide) dX8_closestTo_5 (fun h5 => ?_) (fun h5 => ?_)
  · -- t 14
    exact absurd (bi_n0 h5) hx
  · -- f 8
    refine g_aload_n 0 rfl dX8_closestTo_8 ?_
    refine gn_ic 1 (by decide) dX8_closestTo_9 ?_
    refine gv_V (c_X8_refuse ) l_X8_216 rfl m_rcv (Nat.le_of_ble_eq_true rfl) (Nat.le_of_ble_eq_true rfl) rfl dX8_closestTo_10 ?_
    exact g_iret ⟨rfl, rfl, rfl⟩ (by decide +kernel) rfl dX8_closestTo_13
set_option maxRecDepth 100000 in
set_option maxHeartbeats 4000000 in
theorem c_X8_lessonVowel_ok {Γ : Gm} {mo n : Nat} {F : Hp} {I : Nat → Int32} {A : Nat → Nat → Int32} {f : Nat → Int32} {k c : Nat} (hc : f 7 = nI c) (hc12 : c ≤ 12) (hk : k < c) : Ct Γ 4 MX8_lessonVowel 0 0 [.ref mo, .int (nI k)] (MW Γ mo F I A f) n (Rt (some (.int ((far (rw5 f k) (la5 f) 5).1))) (MW Γ mo F (upd I 2 (nI 0)) A f) n) X0 := by
  refine Ct.of (by decide +kernel) rfl (Nat.le_of_ble_eq_true rfl) ?_
  refine G.sub (lv2 := [(0, _), (1, _)]) [0, 1] rfl ?_
  refine g_aload_n 0 rfl dX8_lessonVowel_0 ?_
  refine g_iload_n 1 rfl dX8_lessonVowel_1 ?_
  refine gv_V (c_X8_isLodger hc) l_X8_249 rfl m_rcv (Nat.le_of_ble_eq_true rfl) (Nat.le_of_ble_eq_true rfl) rfl dX8_lessonVowel_2 ?_
  refine g_if_eq (tgt := 20) (by decide) dX8_lessonVowel_5 (fun h5 => ?_) (fun h5 => ?_)
  · -- t 20
    exact absurd (lod_ok hk hc12) (bi_0 h5)
  · -- f 8
    refine g_aload_n 0 rfl dX8_lessonVowel_8 ?_
    refine g_aload_n 0 rfl dX8_lessonVowel_9 ?_
    refine g_iload_n 1 rfl dX8_lessonVowel_10 ?_
    refine gv_V (c_X8_lessonFor (by omega)) l_X8_96 rfl m_rcv (Nat.le_of_ble_eq_true rfl) (Nat.le_of_ble_eq_true rfl) rfl dX8_lessonVowel_11 ?_
    refine gv_V (c_X8_told ) l_X8_222 rfl m_rcv (Nat.le_of_ble_eq_true rfl) (Nat.le_of_ble_eq_true rfl) rfl dX8_lessonVowel_14 ?_
    refine g_goto (tgt := 25) (by decide) dX8_lessonVowel_17 ?_
    exact g_iret ⟨rfl, rfl, rfl⟩ rfl rfl dX8_lessonVowel_25
set_option maxRecDepth 100000 in
set_option maxHeartbeats 4000000 in
theorem c_X8_lessonVowel_no {Γ : Gm} {mo n : Nat} {F : Hp} {I : Nat → Int32} {A : Nat → Nat → Int32} {f : Nat → Int32} {x : Int32} {c : Nat}  (hc : f 7 = nI c) (hc12 : c ≤ 12) (hx : ¬ (nI 0 ≤ x ∧ x ≤ nI c - nI 1)) : Ct Γ 4 MX8_lessonVowel 0 0 [.ref mo, .int x] (MW Γ mo F I A f) n (Rt (some (.int (nI 0))) (MW Γ mo F (upd I 2 (nI 1)) A f) n) X0 := by
  refine Ct.of (by decide +kernel) rfl (Nat.le_of_ble_eq_true rfl) ?_
  refine G.sub (lv2 := [(0, _), (1, _)]) [0, 1] rfl ?_
  refine g_aload_n 0 rfl dX8_lessonVowel_0 ?_
  refine g_iload_n 1 rfl dX8_lessonVowel_1 ?_
  refine gv_V (c_X8_isLodger hc) l_X8_249 rfl m_rcv (Nat.le_of_ble_eq_true rfl) (Nat.le_of_ble_eq_true rfl) rfl dX8_lessonVowel_2 ?_
  refine g_if_eq (tgt := 20) (by decide) dX8_lessonVowel_5 (fun h5 => ?_) (fun h5 => ?_)
  · -- t 20
    refine g_aload_n 0 rfl dX8_lessonVowel_20 ?_
    refine gn_ic 1 (by decide) dX8_lessonVowel_21 ?_
    refine gv_V (c_X8_refuse ) l_X8_216 rfl m_rcv (Nat.le_of_ble_eq_true rfl) (Nat.le_of_ble_eq_true rfl) rfl dX8_lessonVowel_22 ?_
    exact g_iret ⟨rfl, rfl, rfl⟩ (by decide +kernel) rfl dX8_lessonVowel_25
  · -- f 8
    exact absurd (bi_n0 h5) hx
set_option maxRecDepth 100000 in
set_option maxHeartbeats 4000000 in
theorem c_X8_slipVowel_ok {Γ : Gm} {mo n : Nat} {F : Hp} {I : Nat → Int32} {A : Nat → Nat → Int32} {f : Nat → Int32} {k c φ : Nat} (hc : f 7 = nI c) (hc12 : c ≤ 12) (hk : k < c) (hφ : f (13 + 16 * k) = nI φ) (hφ5 : φ < 5) : Ct Γ 5 MX8_slipVowel 0 0 [.ref mo, .int (nI k)] (MW Γ mo F I A f) n (Rt (some (.int (slpF f (avU f (A 6) c 25) (onU f (A 7) c 5) k))) (MW Γ mo F (upd I 2 (nI 0)) (avA A (onU f (A 7) c 5) (avU f (A 6) c 25)) f) n) X0 := by
  refine Ct.of (by decide +kernel) rfl (Nat.le_of_ble_eq_true rfl) ?_
  refine G.sub (lv2 := [(0, _), (1, _)]) [0, 1] rfl ?_
  refine g_aload_n 0 rfl dX8_slipVowel_0 ?_
  refine g_iload_n 1 rfl dX8_slipVowel_1 ?_
  refine gv_V (c_X8_isLodger hc) l_X8_249 rfl m_rcv (Nat.le_of_ble_eq_true rfl) (Nat.le_of_ble_eq_true rfl) rfl dX8_slipVowel_2 ?_
  refine g_if_ne (tgt := 14) (by decide) dX8_slipVowel_5 (fun h5 => ?_) (fun h5 => ?_)
  · -- t 14
    refine g_aload_n 0 rfl dX8_slipVowel_14 ?_
    refine gu_V (c_X8_averagesNow (c := c) hc hc12) l_X8_118 rfl m_rcv (Nat.le_of_ble_eq_true rfl) (Nat.le_of_ble_eq_true rfl) rfl dX8_slipVowel_15 ?_
    refine g_aload_n 0 rfl dX8_slipVowel_18 ?_
    refine g_aload_n 0 rfl dX8_slipVowel_19 ?_
    refine g_iload_n 1 rfl dX8_slipVowel_20 ?_
    refine gv_V (c_X8_slipFor (by omega) hφ hφ5) l_X8_102 rfl m_rcv (Nat.le_of_ble_eq_true rfl) (Nat.le_of_ble_eq_true rfl) rfl dX8_slipVowel_21 ?_
    refine gv_V (c_X8_told ) l_X8_222 rfl m_rcv (Nat.le_of_ble_eq_true rfl) (Nat.le_of_ble_eq_true rfl) rfl dX8_slipVowel_24 ?_
    exact g_iret ⟨rfl, rfl, rfl⟩ rfl rfl dX8_slipVowel_27
  · -- f 8
    exact absurd (lod_ok hk hc12) (bi_0 h5)
set_option maxRecDepth 100000 in
set_option maxHeartbeats 4000000 in
theorem c_X8_slipVowel_no {Γ : Gm} {mo n : Nat} {F : Hp} {I : Nat → Int32} {A : Nat → Nat → Int32} {f : Nat → Int32} {x : Int32} {c : Nat}  (hc : f 7 = nI c) (hc12 : c ≤ 12) (hx : ¬ (nI 0 ≤ x ∧ x ≤ nI c - nI 1)) : Ct Γ 5 MX8_slipVowel 0 0 [.ref mo, .int x] (MW Γ mo F I A f) n (Rt (some (.int (nI 0))) (MW Γ mo F (upd I 2 (nI 1)) A f) n) X0 := by
  refine Ct.of (by decide +kernel) rfl (Nat.le_of_ble_eq_true rfl) ?_
  refine G.sub (lv2 := [(0, _), (1, _)]) [0, 1] rfl ?_
  refine g_aload_n 0 rfl dX8_slipVowel_0 ?_
  refine g_iload_n 1 rfl dX8_slipVowel_1 ?_
  refine gv_V (c_X8_isLodger hc) l_X8_249 rfl m_rcv (Nat.le_of_ble_eq_true rfl) (Nat.le_of_ble_eq_true rfl) rfl dX8_slipVowel_2 ?_
  refine g_if_ne (tgt := 14) (by decide) dX8_slipVowel_5 (fun h5 => ?_) (fun h5 => ?_)
  · -- t 14
    exact absurd (bi_n0 h5) hx
  · -- f 8
    refine g_aload_n 0 rfl dX8_slipVowel_8 ?_
    refine gn_ic 1 (by decide) dX8_slipVowel_9 ?_
    refine gv_V (c_X8_refuse ) l_X8_216 rfl m_rcv (Nat.le_of_ble_eq_true rfl) (Nat.le_of_ble_eq_true rfl) rfl dX8_slipVowel_10 ?_
    exact g_iret ⟨rfl, rfl, rfl⟩ (by decide +kernel) rfl dX8_slipVowel_13
set_option maxRecDepth 100000 in
set_option maxHeartbeats 4000000 in
theorem c_X8_mustGo_ok {Γ : Gm} {mo n : Nat} {F : Hp} {I : Nat → Int32} {A : Nat → Nat → Int32} {f : Nat → Int32} {k c : Nat} (hc : f 7 = nI c) (hc12 : c ≤ 12) (hk : k < c) : Ct Γ 5 MX8_mustGo 0 0 [.ref mo, .int (nI k)] (MW Γ mo F I A f) n (Rt (some (.int (bi (MustB f k = true)))) (MW Γ mo F (upd I 2 (nI 0)) A f) n) X0 := by
  refine Ct.of (by decide +kernel) rfl (Nat.le_of_ble_eq_true rfl) ?_
  refine G.sub (lv2 := [(0, _), (1, _)]) [0, 1] rfl ?_
  refine g_aload_n 0 rfl dX8_mustGo_0 ?_
  refine g_iload_n 1 rfl dX8_mustGo_1 ?_
  refine gv_V (c_X8_isLodger hc) l_X8_249 rfl m_rcv (Nat.le_of_ble_eq_true rfl) (Nat.le_of_ble_eq_true rfl) rfl dX8_mustGo_2 ?_
  refine g_if_eq (tgt := 20) (by decide) dX8_mustGo_5 (fun h5 => ?_) (fun h5 => ?_)
  · -- t 20
    exact absurd (lod_ok hk hc12) (bi_0 h5)
  · -- f 8
    refine g_aload_n 0 rfl dX8_mustGo_8 ?_
    refine g_aload_n 0 rfl dX8_mustGo_9 ?_
    refine g_iload_n 1 rfl dX8_mustGo_10 ?_
    refine gv_V (c_X8_hasToGo (by omega)) l_X8_105 rfl m_rcv (Nat.le_of_ble_eq_true rfl) (Nat.le_of_ble_eq_true rfl) rfl dX8_mustGo_11 ?_
    refine gv_V (c_X8_says ) l_X8_265 rfl m_rcv (Nat.le_of_ble_eq_true rfl) (Nat.le_of_ble_eq_true rfl) rfl dX8_mustGo_14 ?_
    refine g_goto (tgt := 24) (by decide) dX8_mustGo_17 ?_
    exact g_iret ⟨rfl, rfl, rfl⟩ bi_nar rfl dX8_mustGo_24
set_option maxRecDepth 100000 in
set_option maxHeartbeats 4000000 in
theorem c_X8_mustGo_no {Γ : Gm} {mo n : Nat} {F : Hp} {I : Nat → Int32} {A : Nat → Nat → Int32} {f : Nat → Int32} {x : Int32} {c : Nat}  (hc : f 7 = nI c) (hc12 : c ≤ 12) (hx : ¬ (nI 0 ≤ x ∧ x ≤ nI c - nI 1)) : Ct Γ 5 MX8_mustGo 0 0 [.ref mo, .int x] (MW Γ mo F I A f) n (Rt (some (.int (nI 0))) (MW Γ mo F (upd I 2 (nI 1)) A f) n) X0 := by
  refine Ct.of (by decide +kernel) rfl (Nat.le_of_ble_eq_true rfl) ?_
  refine G.sub (lv2 := [(0, _), (1, _)]) [0, 1] rfl ?_
  refine g_aload_n 0 rfl dX8_mustGo_0 ?_
  refine g_iload_n 1 rfl dX8_mustGo_1 ?_
  refine gv_V (c_X8_isLodger hc) l_X8_249 rfl m_rcv (Nat.le_of_ble_eq_true rfl) (Nat.le_of_ble_eq_true rfl) rfl dX8_mustGo_2 ?_
  refine g_if_eq (tgt := 20) (by decide) dX8_mustGo_5 (fun h5 => ?_) (fun h5 => ?_)
  · -- t 20
    refine g_aload_n 0 rfl dX8_mustGo_20 ?_
    refine gv_V (c_X8_refuses ) l_X8_269 rfl m_rcv (Nat.le_of_ble_eq_true rfl) (Nat.le_of_ble_eq_true rfl) rfl dX8_mustGo_21 ?_
    exact g_iret ⟨rfl, rfl, rfl⟩ (by decide +kernel) rfl dX8_mustGo_24
  · -- f 8
    exact absurd (bi_n0 h5) hx
set_option maxRecDepth 100000 in
set_option maxHeartbeats 4000000 in
theorem c_X8_meanDistance {Γ : Gm} {mo n : Nat} {F : Hp} {I : Nat → Int32} {A : Nat → Nat → Int32} {f : Nat → Int32} {c : Nat} (hc : f 7 = nI c) (hc12 : c ≤ 12) (hn : ¬ c = 0 → vf_n64 (FP.ddiv (FP.i2d (sumD f c)) (FP.i2d (nI c)))) : Ct Γ 4 MX8_meanDistance 0 0 [.ref mo] (MW Γ mo F I A f) n (Rt (some (.double (if c = 0 then FP.dconst0 else FP.ddiv (FP.i2d (sumD f c)) (FP.i2d (nI c))))) (MW Γ mo F (upd I 2 (nI 0)) A f) n) X0 := by
  refine Ct.of (by decide +kernel) rfl (Nat.le_of_ble_eq_true rfl) ?_
  refine G.sub (lv2 := [(0, _)]) [0] rfl ?_
  refine g_aload_n 0 rfl dX8_meanDistance_0 ?_
  refine gn_ic 0 (by decide) dX8_meanDistance_1 ?_
  refine m_put f_X8_63 w_X8_2 (by decide) rfl dX8_meanDistance_2 ?_
  refine gn_ic 0 (by decide) dX8_meanDistance_5 ?_
  refine g_istore_n (lv2 := [(1, _), (0, _)]) (by decide) rfl dX8_meanDistance_6 ?_
  refine gn_ic 0 (by decide) dX8_meanDistance_7 ?_
  refine g_istore_n (lv2 := [(2, _), (1, _), (0, _)]) (by decide) rfl dX8_meanDistance_8 ?_
  have L9 : ∀ (m9 i9 : Nat), i9 + m9 = c → G Γ 4 MX8_meanDistance (Rt (some (.double (if c = 0 then FP.dconst0 else FP.ddiv (FP.i2d (sumD f c)) (FP.i2d (nI c))))) (MW Γ mo F (upd I 2 (nI 0)) A f) n) X0 9 [(0, .ref mo), (1, .int (sumD f i9)), (2, .int (nI i9))] [] (MW Γ mo F (upd I 2 (nI 0)) A f) n 0 0 := by
    intro m9
    induction m9 with
    | zero =>
      intro i9 hi9
      refine g_iload_n 2 rfl dX8_meanDistance_9 ?_
      refine m_get 0 rfl f_X8_19 rfl dX8_meanDistance_10 dX8_meanDistance_11 ?_
      refine gn_bp 7 (by decide) dX8_meanDistance_14 ?_
      refine gn_iald MW_3 (by omega) (by decide) dX8_meanDistance_16 ?_
      refine g_top (y := nI c) hc ?_
      refine gn_icmp_ge (by omega) (by omega) (tgt := 34) (by decide) dX8_meanDistance_17 (fun cc1 => ?_) (fun cc1 => ?_)
      · -- t 34
        obtain rfl : c = i9 := by omega
        refine m_get 0 rfl f_X8_19 rfl dX8_meanDistance_34 dX8_meanDistance_35 ?_
        refine gn_bp 7 (by decide) dX8_meanDistance_38 ?_
        refine gn_iald MW_3 (by omega) (by decide) dX8_meanDistance_40 ?_
        refine g_top (y := nI c) hc ?_
        refine gn_if_ne (by omega) (tgt := 48) (by decide) dX8_meanDistance_41 (fun h41 => ?_) (fun h41 => ?_)
        · -- t 48
          refine g_iload_n 1 rfl dX8_meanDistance_48 ?_
          refine g_i2d dX8_meanDistance_49 ?_
          refine m_get 0 rfl f_X8_19 rfl dX8_meanDistance_50 dX8_meanDistance_51 ?_
          refine gn_bp 7 (by decide) dX8_meanDistance_54 ?_
          refine gn_iald MW_3 (by omega) (by decide) dX8_meanDistance_56 ?_
          refine g_top (y := nI c) hc ?_
          refine g_i2d dX8_meanDistance_57 ?_
          refine g_ddiv (hn h41) dX8_meanDistance_58 ?_
          exact g_dret ⟨by rw [if_neg h41], rfl, rfl⟩ rfl dX8_meanDistance_59
        · -- f 44
          refine g_dconst0 dX8_meanDistance_44 ?_
          refine g_goto (tgt := 59) (by decide) dX8_meanDistance_45 ?_
          exact g_dret ⟨by rw [if_pos h41], rfl, rfl⟩ rfl dX8_meanDistance_59
      · -- f 20
        exfalso; omega
    | succ m9 ih9 =>
      intro i9 hi9
      refine g_iload_n 2 rfl dX8_meanDistance_9 ?_
      refine m_get 0 rfl f_X8_19 rfl dX8_meanDistance_10 dX8_meanDistance_11 ?_
      refine gn_bp 7 (by decide) dX8_meanDistance_14 ?_
      refine gn_iald MW_3 (by omega) (by decide) dX8_meanDistance_16 ?_
      refine g_top (y := nI c) hc ?_
      refine gn_icmp_ge (by omega) (by omega) (tgt := 34) (by decide) dX8_meanDistance_17 (fun cc2 => ?_) (fun cc2 => ?_)
      · -- t 34
        exfalso; omega
      · -- f 20
        refine g_iload_n 1 rfl dX8_meanDistance_20 ?_
        refine g_aload_n 0 rfl dX8_meanDistance_21 ?_
        refine g_iload_n 2 rfl dX8_meanDistance_22 ?_
        refine gv_V (c_X8_toLandlady (by omega)) l_X8_86 rfl m_rcv (Nat.le_of_ble_eq_true rfl) (Nat.le_of_ble_eq_true rfl) rfl dX8_meanDistance_23 ?_
        refine g_iadd dX8_meanDistance_26 ?_
        refine g_istore_n (lv2 := [(1, _), (0, _), (2, _)]) (by decide) rfl dX8_meanDistance_27 ?_
        refine gn_inc (lv2 := [(2, _), (1, _), (0, _)]) 2 rfl (by decide) rfl dX8_meanDistance_28 ?_
        refine g_goto (tgt := 9) (by decide) dX8_meanDistance_31 ?_
        refine G.sub [2, 1, 0] rfl ?_
        exact ih9 (i9 + 1) (by omega)
  refine G.sub [2, 1, 0] rfl ?_
  exact L9 _ 0 (Nat.zero_add _)
set_option maxRecDepth 100000 in
set_option maxHeartbeats 4000000 in
theorem c_X8_rhymingShare {Γ : Gm} {mo n : Nat} {F : Hp} {I : Nat → Int32} {A : Nat → Nat → Int32} {f : Nat → Int32} {c : Nat} (hc : f 7 = nI c) (hc12 : c ≤ 12) (hn : ¬ c = 0 → vf_n32 (FP.fdiv (FP.i2f (nI (cntR f c))) (FP.i2f (nI c)))) : Ct Γ 4 MX8_rhymingShare 0 0 [.ref mo] (MW Γ mo F I A f) n (Rt (some (.float (if c = 0 then FP.fconst0 else FP.fdiv (FP.i2f (nI (cntR f c))) (FP.i2f (nI c))))) (MW Γ mo F (upd I 2 (nI 0)) A f) n) X0 := by
  refine Ct.of (by decide +kernel) rfl (Nat.le_of_ble_eq_true rfl) ?_
  refine G.sub (lv2 := [(0, _)]) [0] rfl ?_
  refine g_aload_n 0 rfl dX8_rhymingShare_0 ?_
  refine gn_ic 0 (by decide) dX8_rhymingShare_1 ?_
  refine m_put f_X8_63 w_X8_2 (by decide) rfl dX8_rhymingShare_2 ?_
  refine gn_ic 0 (by decide) dX8_rhymingShare_5 ?_
  refine g_istore_n (lv2 := [(1, _), (0, _)]) (by decide) rfl dX8_rhymingShare_6 ?_
  refine gn_ic 0 (by decide) dX8_rhymingShare_7 ?_
  refine g_istore_n (lv2 := [(2, _), (1, _), (0, _)]) (by decide) rfl dX8_rhymingShare_8 ?_
  have L9 : ∀ (m9 i9 : Nat), i9 + m9 = c → G Γ 4 MX8_rhymingShare (Rt (some (.float (if c = 0 then FP.fconst0 else FP.fdiv (FP.i2f (nI (cntR f c))) (FP.i2f (nI c))))) (MW Γ mo F (upd I 2 (nI 0)) A f) n) X0 9 [(0, .ref mo), (1, .int (nI (cntR f i9))), (2, .int (nI i9))] [] (MW Γ mo F (upd I 2 (nI 0)) A f) n 0 0 := by
    intro m9
    induction m9 with
    | zero =>
      intro i9 hi9
      refine g_iload_n 2 rfl dX8_rhymingShare_9 ?_
      refine m_get 0 rfl f_X8_19 rfl dX8_rhymingShare_10 dX8_rhymingShare_11 ?_
      refine gn_bp 7 (by decide) dX8_rhymingShare_14 ?_
      refine gn_iald MW_3 (by omega) (by decide) dX8_rhymingShare_16 ?_
      refine g_top (y := nI c) hc ?_
      refine gn_icmp_ge (by omega) (by omega) (tgt := 42) (by decide) dX8_rhymingShare_17 (fun cc1 => ?_) (fun cc1 => ?_)
      · -- t 42
        obtain rfl : c = i9 := by omega
        refine m_get 0 rfl f_X8_19 rfl dX8_rhymingShare_42 dX8_rhymingShare_43 ?_
        refine gn_bp 7 (by decide) dX8_rhymingShare_46 ?_
        refine gn_iald MW_3 (by omega) (by decide) dX8_rhymingShare_48 ?_
        refine g_top (y := nI c) hc ?_
        refine gn_if_ne (by omega) (tgt := 56) (by decide) dX8_rhymingShare_49 (fun h41 => ?_) (fun h41 => ?_)
        · -- t 56
          refine g_iload_n 1 rfl dX8_rhymingShare_56 ?_
          refine g_i2f dX8_rhymingShare_57 ?_
          refine m_get 0 rfl f_X8_19 rfl dX8_rhymingShare_58 dX8_rhymingShare_59 ?_
          refine gn_bp 7 (by decide) dX8_rhymingShare_62 ?_
          refine gn_iald MW_3 (by omega) (by decide) dX8_rhymingShare_64 ?_
          refine g_top (y := nI c) hc ?_
          refine g_i2f dX8_rhymingShare_65 ?_
          refine g_fdiv (hn h41) dX8_rhymingShare_66 ?_
          exact g_fret ⟨by rw [if_neg h41], rfl, rfl⟩ rfl dX8_rhymingShare_67
        · -- f 52
          refine g_fconst0 dX8_rhymingShare_52 ?_
          refine g_goto (tgt := 67) (by decide) dX8_rhymingShare_53 ?_
          exact g_fret ⟨by rw [if_pos h41], rfl, rfl⟩ rfl dX8_rhymingShare_67
      · -- f 20
        exfalso; omega
    | succ m9 ih9 =>
      intro i9 hi9
      refine g_iload_n 2 rfl dX8_rhymingShare_9 ?_
      refine m_get 0 rfl f_X8_19 rfl dX8_rhymingShare_10 dX8_rhymingShare_11 ?_
      refine gn_bp 7 (by decide) dX8_rhymingShare_14 ?_
      refine gn_iald MW_3 (by omega) (by decide) dX8_rhymingShare_16 ?_
      refine g_top (y := nI c) hc ?_
      refine gn_icmp_ge (by omega) (by omega) (tgt := 42) (by decide) dX8_rhymingShare_17 (fun cc2 => ?_) (fun cc2 => ?_)
      · -- t 42
        exfalso; omega
      · -- f 20
        refine g_iload_n 1 rfl dX8_rhymingShare_20 ?_
        refine g_aload_n 0 rfl dX8_rhymingShare_21 ?_
        refine g_iload_n 2 rfl dX8_rhymingShare_22 ?_
        refine gv_V (c_X8_rhymesHer (by omega)) l_X8_89 rfl m_rcv (Nat.le_of_ble_eq_true rfl) (Nat.le_of_ble_eq_true rfl) rfl dX8_rhymingShare_23 ?_
        refine g_if_eq (tgt := 33) (by decide) dX8_rhymingShare_26 (fun h26 => ?_) (fun h26 => ?_)
        · -- t 33
          have h26b := bi_0 h26
          refine gn_ic 0 (by decide) dX8_rhymingShare_33 ?_
          refine gn_iadd0 dX8_rhymingShare_34 ?_
          refine g_istore_n (lv2 := [(1, _), (0, _), (2, _)]) (by decide) rfl dX8_rhymingShare_35 ?_
          refine gn_inc (lv2 := [(2, _), (1, _), (0, _)]) 2 rfl (by decide) rfl dX8_rhymingShare_36 ?_
          refine g_goto (tgt := 9) (by decide) dX8_rhymingShare_39 ?_
          refine G.sub [2, 1, 0] rfl ?_
          (have h := ih9 (i9 + 1) (by omega); first | (rw [show cntR f (i9 + 1) = cntR f i9 + 1 from by simp [cntR, *]] at h; exact h) | (rw [show cntR f (i9 + 1) = cntR f i9 from by simp [cntR, *]] at h; exact h))
        · -- f 29
          have h26b := bi_n0 h26
          refine gn_ic 1 (by decide) dX8_rhymingShare_29 ?_
          refine g_goto (tgt := 34) (by decide) dX8_rhymingShare_30 ?_
          refine gn_iadd dX8_rhymingShare_34 ?_
          refine g_istore_n (lv2 := [(1, _), (0, _), (2, _)]) (by decide) rfl dX8_rhymingShare_35 ?_
          refine gn_inc (lv2 := [(2, _), (1, _), (0, _)]) 2 rfl (by decide) rfl dX8_rhymingShare_36 ?_
          refine g_goto (tgt := 9) (by decide) dX8_rhymingShare_39 ?_
          refine G.sub [2, 1, 0] rfl ?_
          (have h := ih9 (i9 + 1) (by omega); first | (rw [show cntR f (i9 + 1) = cntR f i9 + 1 from by simp [cntR, *]] at h; exact h) | (rw [show cntR f (i9 + 1) = cntR f i9 from by simp [cntR, *]] at h; exact h))
  refine G.sub [2, 1, 0] rfl ?_
  exact L9 _ 0 (Nat.zero_add _)
end GM8
