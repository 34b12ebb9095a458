section GM1
set_option maxRecDepth 100000 in
set_option maxHeartbeats 4000000 in
theorem c_X8_thrown {Γ : Gm} {mo n : Nat} {F : Hp} {I : Nat → Int32} {A : Nat → Nat → Int32} {f : Nat → Int32}   : Ct Γ 1 MX8_thrown 0 0 [.ref mo] (MW Γ mo F I A f) n (Rt (some (.int (I 2))) (MW Γ mo F I A f) n) X0 := by
  refine Ct.of (by decide +kernel) rfl (Nat.le_of_ble_eq_true rfl) ?_
  refine G.sub (lv2 := [(0, _)]) [0] rfl ?_
  refine m_get 0 rfl f_X8_63 rfl dX8_thrown_0 dX8_thrown_1 ?_
  exact g_iret ⟨rfl, rfl, rfl⟩ rfl rfl dX8_thrown_4
set_option maxRecDepth 100000 in
set_option maxHeartbeats 4000000 in
theorem c_X8_refuse {Γ : Gm} {mo n : Nat} {F : Hp} {I : Nat → Int32} {A : Nat → Nat → Int32} {f : Nat → Int32} {w : Int32}  : Ct Γ 1 MX8_refuse 0 0 [.ref mo, .int w] (MW Γ mo F I A f) n (Rt (some (.int (nI 0))) (MW Γ mo F (upd I 2 w) A f) n) X0 := by
  refine Ct.of (by decide +kernel) rfl (Nat.le_of_ble_eq_true rfl) ?_
  refine G.sub (lv2 := [(0, _), (1, _)]) [0, 1] rfl ?_
  refine g_aload_n 0 rfl dX8_refuse_0 ?_
  refine g_iload_n 1 rfl dX8_refuse_1 ?_
  refine m_put f_X8_63 w_X8_2 (by decide) rfl dX8_refuse_2 ?_
  refine gn_ic 0 (by decide) dX8_refuse_5 ?_
  exact g_iret ⟨rfl, rfl, rfl⟩ rfl rfl dX8_refuse_6
set_option maxRecDepth 100000 in
set_option maxHeartbeats 4000000 in
theorem c_X8_told {Γ : Gm} {mo n : Nat} {F : Hp} {I : Nat → Int32} {A : Nat → Nat → Int32} {f : Nat → Int32} {w : Int32}  : Ct Γ 1 MX8_told 0 0 [.ref mo, .int w] (MW Γ mo F I A f) n (Rt (some (.int (w))) (MW Γ mo F (upd I 2 (nI 0)) A f) n) X0 := by
  refine Ct.of (by decide +kernel) rfl (Nat.le_of_ble_eq_true rfl) ?_
  refine G.sub (lv2 := [(0, _), (1, _)]) [0, 1] rfl ?_
  refine g_aload_n 0 rfl dX8_told_0 ?_
  refine gn_ic 0 (by decide) dX8_told_1 ?_
  refine m_put f_X8_63 w_X8_2 (by decide) rfl dX8_told_2 ?_
  refine g_iload_n 1 rfl dX8_told_5 ?_
  exact g_iret ⟨rfl, rfl, rfl⟩ rfl rfl dX8_told_6
set_option maxRecDepth 100000 in
set_option maxHeartbeats 4000000 in
theorem c_X8_says {Γ : Gm} {mo n : Nat} {F : Hp} {I : Nat → Int32} {A : Nat → Nat → Int32} {f : Nat → Int32} {p : Prop} [Decidable p]  : Ct Γ 1 MX8_says 0 0 [.ref mo, .int (bi p)] (MW Γ mo F I A f) n (Rt (some (.int (bi p))) (MW Γ mo F (upd I 2 (nI 0)) A f) n) X0 := by
  refine Ct.of (by decide +kernel) rfl (Nat.le_of_ble_eq_true rfl) ?_
  refine G.sub (lv2 := [(0, _), (1, _)]) [0, 1] rfl ?_
  refine g_aload_n 0 rfl dX8_says_0 ?_
  refine gn_ic 0 (by decide) dX8_says_1 ?_
  refine m_put f_X8_63 w_X8_2 (by decide) rfl dX8_says_2 ?_
  refine g_iload_n 1 rfl dX8_says_5 ?_
  exact g_iret ⟨rfl, rfl, rfl⟩ bi_nar rfl dX8_says_6
set_option maxRecDepth 100000 in
set_option maxHeartbeats 4000000 in
theorem c_X8_in {Γ : Gm} {n : Nat} {E : Hp} {v a b : Int32}  : Ct Γ 1 MX8_in 0 0 [.int v, .int a, .int b] (E) n (Rt (some (.int (bi (a ≤ v ∧ v ≤ b)))) (E) n) X0 := by
  refine Ct.of (by decide +kernel) rfl (Nat.le_of_ble_eq_true rfl) ?_
  refine G.sub (lv2 := [(0, _), (1, _), (2, _)]) [0, 1, 2] rfl ?_
  refine g_iload_n 0 rfl dX8_in_0 ?_
  refine g_iload_n 1 rfl dX8_in_1 ?_
  refine g_icmp_lt (tgt := 14) (by decide) dX8_in_2 (fun h1 => ?_) (fun h1 => ?_)
  · -- t 14
    refine gn_ic 0 (by decide) dX8_in_14 ?_
    exact g_iret ⟨by unfold bi; split <;> first | rfl | grind | simp_all, rfl, rfl⟩ rfl rfl dX8_in_15
  · -- f 5
    refine g_iload_n 0 rfl dX8_in_5 ?_
    refine g_iload_n 2 rfl dX8_in_6 ?_
    refine g_icmp_gt (tgt := 14) (by decide) dX8_in_7 (fun h2 => ?_) (fun h2 => ?_)
    · -- t 14
      refine gn_ic 0 (by decide) dX8_in_14 ?_
      exact g_iret ⟨by unfold bi; split <;> first | rfl | grind | simp_all, rfl, rfl⟩ rfl rfl dX8_in_15
    · -- f 10
      refine gn_ic 1 (by decide) dX8_in_10 ?_
      refine g_goto (tgt := 15) (by decide) dX8_in_11 ?_
      exact g_iret ⟨by unfold bi; split <;> first | rfl | grind | simp_all, rfl, rfl⟩ rfl rfl dX8_in_15
set_option maxRecDepth 100000 in
set_option maxHeartbeats 4000000 in
theorem c_X8_without {Γ : Gm} {n : Nat} {E : Hp} {v : Int32}  : Ct Γ 1 MX8_without 0 0 [.int v] (E) n (Rt (some (.int (iabs v))) (E) n) X0 := by
  refine Ct.of (by decide +kernel) rfl (Nat.le_of_ble_eq_true rfl) ?_
  refine G.sub (lv2 := [(0, _)]) [0] rfl ?_
  refine g_iload_n 0 rfl dX8_without_0 ?_
  refine g_if_ge (tgt := 9) (by decide) dX8_without_1 (fun c1 => ?_) (fun c1 => ?_)
  · -- t 9
    refine g_iload_n 0 rfl dX8_without_9 ?_
    exact g_iret ⟨by unfold iabs; split <;> first | rfl | grind | simp_all, rfl, rfl⟩ rfl rfl dX8_without_10
  · -- f 4
    refine g_iload_n 0 rfl dX8_without_4 ?_
    refine g_ineg dX8_without_5 ?_
    refine g_goto (tgt := 10) (by decide) dX8_without_6 ?_
    exact g_iret ⟨by unfold iabs; split <;> first | rfl | grind | simp_all, rfl, rfl⟩ rfl rfl dX8_without_10
set_option maxRecDepth 100000 in
set_option maxHeartbeats 4000000 in
theorem c_X8_l {Γ : Gm} {n : Nat} {E : Hp} {k : Nat}  : Ct Γ 1 MX8_l 0 0 [.int (nI k)] (E) n (Rt (some (.int (nI (13 + 16 * k)))) (E) n) X0 := by
  refine Ct.of (by decide +kernel) rfl (Nat.le_of_ble_eq_true rfl) ?_
  refine G.sub (lv2 := [(0, _)]) [0] rfl ?_
  refine gn_bp 13 (by decide) dX8_l_0 ?_
  refine gn_bp 16 (by decide) dX8_l_2 ?_
  refine g_iload_n 0 rfl dX8_l_4 ?_
  refine gn_imul dX8_l_5 ?_
  refine gn_iadd dX8_l_6 ?_
  exact g_iret ⟨rfl, rfl, rfl⟩ rfl rfl dX8_l_7
end GM1
