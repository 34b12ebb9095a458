section GJ24
section
variable {Γ : Gm} {d mc ms hb n : Nat} {M : Mr} {av : List Value} {v : Option Value} {E : Hp} {R : Hr} {x : String}
theorem Ct.hat (hH : HAt Γ E hb R) (h : Ct Γ d M mc ms av (HW Γ hb E R) n (Rt v (HW Γ hb E R) n) X0) : Ct Γ d M mc ms av E n (Rt v E n) X0 := by
  rw [← hH.eq] at h; exact h
theorem Ct.hatN (hH : HAt Γ E hb R) (h : Ct Γ d M mc ms av (HW Γ hb E R) n PNo (Xe x (HW Γ hb E R) n)) : Ct Γ d M mc ms av E n PNo (Xe x E n) := by
  rw [← hH.eq] at h; exact h
abbrev TW (Γ : Gm) (ab : Nat) (F : Hp) (R T : Hr) : Hp := HW Γ (ab + 92) (HW Γ (ab + 50) F R) T
theorem TW_h {ab : Nat} {F : Hp} {R T : Hr} : HAt Γ (TW Γ ab F R T) (ab + 50) R := fun j hj => (HW_o (by omega)).trans (HAt.of j hj)
theorem TW_c {ab a : Nat} {F : Hp} {R T : Hr} (h : ¬ (ab + 50 ≤ a ∧ a < ab + 134)) : TW Γ ab F R T a = F a := (HW_o (by omega)).trans (HW_o (by omega))
theorem gon_stay {f : Nat → Int32} {k j c : Nat} (hok : Okr f c) (h : gonB f k j = true) : ∀ m, (dysM f (wI k) (j + m)).2 = (dysM f (wI k) j).2
  | 0 => rfl
  | m + 1 => by
    have ih := gon_stay hok h m
    obtain ⟨c2, -, h2⟩ := dysM_ok (I := wI k) hok (j + m)
    rw [← Nat.add_assoc, dysM, mny_eq h2, dayM_I (by rw [ih]; exact of_decide_eq_true h) (by have := h2.2.1; omega), ih]
theorem gon_mono {f : Nat → Int32} {k j t c : Nat} (hok : Okr f c) (h : gonB f k j = true) (hjt : j ≤ t) : (dysM f (wI k) t).2 = (dysM f (wI k) j).2 ∧ gonB f k t = true := by
  have e := gon_stay hok h (t - j)
  rw [show j + (t - j) = t by omega] at e
  exact ⟨e, decide_eq_true (by rw [e]; exact of_decide_eq_true h)⟩
theorem gon_0 {f : Nat → Int32} {k : Nat} (hk : k < 2 ^ 31) : ¬ gonB f k 0 = true := fun z => nI_nm1' hk ((if_pos rfl : wI k 11 = nI k).symm.trans (of_decide_eq_true z))
/-- the first day on which lodger k is gone, or none up to t -/
def Fst (f : Nat → Int32) (k t j : Nat) (r : Int32) : Prop := j ≤ t ∧ (∀ i, i < j → ¬ gonB f k i = true) ∧ ((r = -1 ∧ j = t ∧ ¬ gonB f k t = true) ∨ (r = nI j ∧ 1 ≤ j ∧ gonB f k j = true))
theorem ev_fst {f : Nat → Int32} {k t j : Nat} {r : Int32} (h : Fst f k t j r) : evF f k t 0 = r := by
  obtain ⟨h1, h2, h3⟩ := h
  have go : ∀ i, i ≤ j → evF f k t 0 = evF f k (t - i) i := by
    intro i
    induction i with
    | zero => intro _; rfl
    | succ i ih =>
      intro hi
      rw [ih (by omega), show t - i = (t - (i + 1)) + 1 by omega, evF_f (h2 i (by omega))]
  rw [go j (Nat.le_refl j)]
  rcases h3 with ⟨e1, e2, e3⟩ | ⟨e1, e2, e3⟩
  · subst e2; rw [Nat.sub_self, evF_0 e3, e1]
  · rw [evF_t e3, e1]
theorem Trk.bal {Γ : Gm} {S : Hp} {f : Nat → Int32} {k t j c c2 o : Nat} {r : Int32} {T : Hr} (hok : Okr f c) (h : Fst f k t j r) (hr : Rp Γ S (dysM f (wI k) j).1 c2 T) (ht : Trk (dysM f (wI k) j).2 c2 T o) : balR (dysM f (wI k) t) = hR T o 1 := by
  obtain ⟨h1, h2, h3⟩ := h
  rcases h3 with ⟨-, rfl, e3⟩ | ⟨-, -, e3⟩
  · rcases ht with ⟨g1, -, -⟩ | ⟨i, hi, g1, g2⟩
    · exact absurd (decide_eq_true g1) e3
    · unfold balR
      rw [if_neg (fun z => e3 (decide_eq_true z)), g1, nI_clamp (by have := hr.2.1; omega), ← g2, hr.row hi (by decide)]
  · obtain ⟨e4, e5⟩ := gon_mono hok e3 h1
    rcases ht with ⟨g1, -, g3⟩ | ⟨i, hi, g1, g2⟩
    · unfold balR
      rw [if_pos (of_decide_eq_true e5), e4, g3]
    · exact absurd (g1.symm.trans (of_decide_eq_true e3)) (nI_nm1' (by have := hr.2.1; omega))
theorem Trk.dsG {f : Nat → Int32} {k t j c : Nat} {r : Int32} (hok : Okr f c) (h : Fst f k t j r) (hr : r ≠ -1) : dsR (dysM f (wI k) t) = -1 := by
  obtain ⟨h1, h2, h3⟩ := h
  rcases h3 with ⟨e1, -, -⟩ | ⟨-, -, e3⟩
  · exact absurd e1 hr
  · unfold dsR; rw [if_pos (of_decide_eq_true (gon_mono hok e3 h1).2)]
theorem Trk.dsI {Γ : Gm} {S : Hp} {f : Nat → Int32} {k t j c2 o : Nat} {r : Int32} {T : Hr} (h : Fst f k t j r) (hr : Rp Γ S (dysM f (wI k) j).1 c2 T) (ht : Trk (dysM f (wI k) j).2 c2 T o) (h0 : r = -1) (hj : j < 2 ^ 31) : o < 12 ∧ dst (hA T o) (hL T) 5 = dsR (dysM f (wI k) t) := by
  obtain ⟨h1, h2, h3⟩ := h
  rcases h3 with ⟨-, rfl, e3⟩ | ⟨e1, -, -⟩
  · rcases ht with ⟨g1, -, -⟩ | ⟨i, hi, g1, g2⟩
    · exact absurd (decide_eq_true g1) e3
    · unfold dsR
      rw [if_neg (fun z => e3 (decide_eq_true z)), g1, nI_clamp (by have := hr.2.1; omega), ← g2]
      exact ⟨hr.o12 hi, hr.ds1 hi⟩
  · exact absurd (e1.symm.trans h0) (nI_nm1' hj)
end
theorem sty_n {f : Nat → Int32} {k t j c : Nat} {x r : Int32} (hok : Okr (payx f k x) c) (h : Fst (payx f k x) k t j r) (hr : r ≠ -1) (z : styB f k x t = true) : False := by
  obtain ⟨h1, h2, h3⟩ := h
  rcases h3 with ⟨e1, -, -⟩ | ⟨-, -, e3⟩
  · exact hr e1
  · have := (gon_mono hok e3 h1).2
    unfold styB at z
    rw [this] at z
    cases z
theorem sty_y {f : Nat → Int32} {k t j : Nat} {x r : Int32} (h : Fst (payx f k x) k t j r) (hj : j < 2 ^ 31) (hr : r = -1) : styB f k x t = true := by
  obtain ⟨h1, h2, h3⟩ := h
  rcases h3 with ⟨-, -, e3⟩ | ⟨e1, -, -⟩
  · unfold styB
    rw [Bool.eq_false_iff.mpr e3]; rfl
  · exact absurd (e1.symm.trans hr) (nI_nm1' hj)
set_option maxRecDepth 100000 in
set_option maxHeartbeats 4000000 in
theorem c_X7_runTrial {Γ : Gm} {n : Nat} {ab im : Nat} {rk ro : Int32} {F : Hp} {R T : Hr} {S : Hp} {f : Nat → Int32} {c k o t : Nat} (hC : F ab = some (.inr (10, coF ab im rk ro))) (hr : Rp Γ S f c T) (hok : Okr f c) (hk : k < c) (ho : hO T k = o) (ht : t ≤ 100) : Ct Γ 8 MX7_runTrial 0 0 [.ref ab, .ref (ab + 92 + 6 + 3 * o), .int (nI t)] (TW Γ ab F R T) n (fun v E2 n2 => n2 = n ∧ ∃ (T2 : Hr) (j c2 : Nat) (r : Int32), v = some (.int r) ∧ E2 = TW Γ ab F R T2 ∧ Rp Γ S (dysM f (wI k) j).1 c2 T2 ∧ Trk (dysM f (wI k) j).2 c2 T2 o ∧ Fst f k t j r) X0 := by
  refine Ct.of (by decide +kernel) rfl (Nat.le_of_ble_eq_true rfl) ?_
  refine G.sub (lv2 := [(0, _), (1, _), (2, _)]) [0, 1, 2] rfl ?_
  refine gn_ic 1 (by decide) dX7_runTrial_0 ?_
  refine g_istore_n (lv2 := [(3, _), (0, _), (1, _), (2, _)]) (by decide) rfl dX7_runTrial_1 ?_
  have L2 : ∀ (m2 : Nat) (i c1 : Nat) (T1 : Hr), (i + m2 = t) → (Rp Γ S (dysM f (wI k) i).1 c1 T1) → (Tin (dysM f (wI k) i).2 c1 T1 o) → (∀ j, j ≤ i → ¬ gonB f k j = true) → G Γ 8 MX7_runTrial (fun v E2 n2 => n2 = n ∧ ∃ (T2 : Hr) (j c2 : Nat) (r : Int32), v = some (.int r) ∧ E2 = TW Γ ab F R T2 ∧ Rp Γ S (dysM f (wI k) j).1 c2 T2 ∧ Trk (dysM f (wI k) j).2 c2 T2 o ∧ Fst f k t j r) X0 2 [(0, .ref ab), (1, .ref (ab + 92 + 6 + 3 * o)), (2, .int (nI t)), (3, .int (nI (i + 1)))] [] (TW Γ ab F R T1) n 0 0 := by
    intro m2
    induction m2 with
    | zero =>
      intro i c1 T1 hi9 hr1 htin hng
      refine g_iload_n 3 rfl dX7_runTrial_2 ?_
      refine g_iload_n 2 rfl dX7_runTrial_3 ?_
      refine gn_icmp_gt (by omega) (by omega) (tgt := 33) (by decide) dX7_runTrial_4 (fun h4 => ?_) (fun h4 => ?_)
      · -- t 33
        obtain rfl : i = t := by omega
        refine g_iconst (v := -1) dX7_runTrial_33 (by decide) ?_
        exact g_iret ⟨rfl, T1, i, c1, _, rfl, rfl, hr1, Or.inr htin, Nat.le_refl i, fun q hq => hng q (by omega), Or.inl ⟨rfl, rfl, hng i (Nat.le_refl i)⟩⟩ rfl rfl dX7_runTrial_34
      · -- f 7
        exfalso; omega
    | succ m2 ih2 =>
      intro i c1 T1 hi9 hr1 htin hng
      refine g_iload_n 3 rfl dX7_runTrial_2 ?_
      refine g_iload_n 2 rfl dX7_runTrial_3 ?_
      refine gn_icmp_gt (by omega) (by omega) (tgt := 33) (by decide) dX7_runTrial_4 (fun h4 => ?_) (fun h4 => ?_)
      · -- t 33
        exfalso; omega
      · -- f 7
        refine g_aload_n 0 rfl dX7_runTrial_7 ?_
        refine g_get f_X7_40 ((TW_c (by omega)).trans hC) rfl dX7_runTrial_8 ?_
        obtain ⟨c3, h5, h6⟩ := dysM_ok (I := wI k) hok i
        obtain rfl : c3 = c1 := (nI_eq (by have := h6.2.1; omega) (by have := hr1.2.1; omega)).mp (h6.1.symm.trans hr1.2.2.1)
        refine gx_V0 (c_X2_passDay (hb := ab + 92) hr1 h6.2.2) l_X7_243 rfl (Rcv.of HW_h rfl) (Nat.le_of_ble_eq_true rfl) (Nat.le_of_ble_eq_true rfl) rfl dX7_runTrial_11 (fun _ _ _ h => h.1) (fun E4 n4 hp => ?_)
        obtain ⟨-, hn3, T2, rfl, c2, hc2, hday⟩ := hp
        have hn4 := hn3.symm
        subst hn4
        have hd := hday (dysM f (wI k) i).2
        have hr2 : Rp Γ S (dysM f (wI k) (i + 1)).1 c2 T2 := by rw [dysM, mny_eq h6]; exact hd.1
        have htk : Trk (dysM f (wI k) (i + 1)).2 c2 T2 o := by rw [dysM, mny_eq h6]; exact hd.2 o htin
        refine g_aload_n 0 rfl dX7_runTrial_14 ?_
        refine g_get f_X7_40 ((TW_c (by omega)).trans hC) rfl dX7_runTrial_15 ?_
        refine g_aload_n 1 rfl dX7_runTrial_18 ?_
        rcases id htk with ⟨g1, g2, g3⟩ | ⟨j, hj, g1, g2⟩
        · skip
          refine gv_V (c_X2_houses_n hr2 g2) l_X7_246 rfl (Rcv.of HW_h rfl) (Nat.le_of_ble_eq_true rfl) (Nat.le_of_ble_eq_true rfl) rfl dX7_runTrial_19 ?_
          refine gn_if_ne (by omega) (tgt := 27) (by decide) dX7_runTrial_22 (fun cc1 => ?_) (fun cc1 => ?_)
          · -- t 27
            exact absurd cc1 (by decide)
          · -- f 25
            refine g_iload_n 3 rfl dX7_runTrial_25 ?_
            exact g_iret ⟨rfl, T2, i + 1, c2, _, rfl, rfl, hr2, htk, by omega, fun q hq => hng q (by omega), Or.inr ⟨rfl, by omega, decide_eq_true g1⟩⟩ rfl rfl dX7_runTrial_26
        · skip
          refine gv_V (c_X2_houses_y hr2 hj g2) l_X7_246 rfl (Rcv.of HW_h rfl) (Nat.le_of_ble_eq_true rfl) (Nat.le_of_ble_eq_true rfl) rfl dX7_runTrial_19 ?_
          refine gn_if_ne (by omega) (tgt := 27) (by decide) dX7_runTrial_22 (fun cc2 => ?_) (fun cc2 => ?_)
          · -- t 27
            refine gn_inc (lv2 := [(3, _), (0, _), (1, _), (2, _)]) 3 rfl (by decide) rfl dX7_runTrial_27 ?_
            refine g_goto (tgt := 2) (by decide) dX7_runTrial_30 ?_
            refine G.sub [1, 2, 3, 0] rfl ?_
            exact ih2 (i + 1) c2 T2 (by omega) hr2 ⟨j, hj, g1, g2⟩ (fun q hq => by by_cases e : q ≤ i; exact hng q e; (obtain rfl : q = i + 1 := (by omega); exact fun z => nI_nm1' (show j < 2 ^ 31 by have := hr2.2.1; omega) (g1.symm.trans (of_decide_eq_true z))))
          · -- f 25
            exact absurd cc2 (by decide)
  refine G.sub [1, 2, 3, 0] rfl ?_
  have hg0 := gon_0 (f := f) (k := k) (by have := hr.2.1; omega)
  exact L2 t 0 c T (Nat.zero_add _) hr ⟨k, hk, (show wI k 11 = nI k from if_pos rfl), ho⟩ (fun j hj => by obtain rfl : j = 0 := (by omega); exact hg0)
set_option maxRecDepth 100000 in
set_option maxHeartbeats 4000000 in
theorem c_X7_startTrial {Γ : Gm} {n : Nat} {ab im : Nat} {rk ro : Int32} {F : Hp} {R T : Hr} {S : Hp} {f : Nat → Int32} {c : Nat} {k : Nat} (hC : F ab = some (.inr (10, coF ab im rk ro))) (hr : Rp Γ S f c R) (hk : k < c) (hwT : Wf T) : Ct Γ 7 MX7_startTrial 0 0 [.ref ab, .int (nI k)] (TW Γ ab F R T) n (fun v E2 n2 => v = some (.ref (ab + 92 + 6 + 3 * hO T k)) ∧ n2 = n ∧ ∃ T2, E2 = TW Γ ab F R T2 ∧ Rp Γ S f c T2 ∧ hO T2 = hO T) X0 := by
  refine Ct.of (by decide +kernel) rfl (Nat.le_of_ble_eq_true rfl) ?_
  have hc12 := hr.2.1
  refine G.sub (lv2 := [(0, _), (1, _)]) [0, 1] rfl ?_
  refine g_aload_n 0 rfl dX7_startTrial_0 ?_
  refine g_get f_X7_40 ((TW_c (by omega)).trans hC) rfl dX7_startTrial_1 ?_
  refine g_aload_n 0 rfl dX7_startTrial_4 ?_
  refine g_get f_X7_36 ((TW_c (by omega)).trans hC) rfl dX7_startTrial_5 ?_
  refine gx_V0 (c_X2_copyFrom (hb := ab + 92) (ho := ab + 50) hwT hr HAt.of (Or.inl (by omega))) l_X7_75 rfl (Rcv.of HW_h rfl) (Nat.le_of_ble_eq_true rfl) (Nat.le_of_ble_eq_true rfl) rfl dX7_startTrial_8 (fun _ _ _ h => h.1) (fun E4 n4 hp => ?_)
  obtain ⟨-, hn3, T2, rfl, hr2, hO2⟩ := hp
  have hn4 := hn3.symm
  subst hn4
  refine g_aload_n 0 rfl dX7_startTrial_11 ?_
  refine g_get f_X7_40 ((TW_c (by omega)).trans hC) rfl dX7_startTrial_12 ?_
  refine g_get f_X7_208 HW_h rfl dX7_startTrial_15 ?_
  refine g_iload_n 1 rfl dX7_startTrial_18 ?_
  refine h_aald (by omega) dX7_startTrial_19 ?_
  exact g_aret ⟨by rw [hO2], rfl, T2, rfl, hr2, hO2⟩ rfl dX7_startTrial_20
set_option maxRecDepth 100000 in
set_option maxHeartbeats 4000000 in
theorem c_X7_balanceAfter_ok {Γ : Gm} {n : Nat} {ab im : Nat} {rk ro : Int32} {F : Hp} {R T : Hr} {S : Hp} {f : Nat → Int32} {c : Nat} {k t : Nat} (hC : F ab = some (.inr (10, coF ab im rk ro))) (hr : Rp Γ S f c R) (hk : k < c) (hok : Okr f c) (hwT : Wf T) (ht : t ≤ 100) : Ct Γ 9 MX7_balanceAfter 0 0 [.ref ab, .int (nI k), .int (nI t)] (TW Γ ab F R T) n (fun v E2 n2 => v = some (.int (balR (dysM f (wI k) t))) ∧ n2 = n ∧ ∃ T2, E2 = TW Γ ab F R T2 ∧ Wf T2) X0 := by
  refine Ct.of (by decide +kernel) rfl (Nat.le_of_ble_eq_true rfl) ?_
  have hc12 := hr.2.1
  refine G.sub (lv2 := [(0, _), (1, _), (2, _)]) [0, 1, 2] rfl ?_
  refine g_aload_n 0 rfl dX7_balanceAfter_0 ?_
  refine g_iload_n 1 rfl dX7_balanceAfter_1 ?_
  refine gv_V ((c_X7_requireLodger_ok ((TW_c (by omega)).trans hC) hr hk).hat TW_h) l_X7_152 rfl (Rcv.of ((TW_c (by omega)).trans hC) rfl) (Nat.le_of_ble_eq_true rfl) (Nat.le_of_ble_eq_true rfl) rfl dX7_balanceAfter_2 ?_
  refine g_pop rfl dX7_balanceAfter_5 ?_
  refine g_aload_n 0 rfl dX7_balanceAfter_6 ?_
  refine g_iload_n 2 rfl dX7_balanceAfter_7 ?_
  refine gn_ic 0 (by decide) dX7_balanceAfter_8 ?_
  refine gn_bp 100 (by decide) dX7_balanceAfter_9 ?_
  refine gu_V ((c_X7_requireRange_ok (F := TW Γ ab F R T) (R := R) ((TW_c (by omega)).trans hC) (Nat.zero_le _) ht (by decide)).hat TW_h) l_X7_225 rfl (Rcv.of ((TW_c (by omega)).trans hC) rfl) (Nat.le_of_ble_eq_true rfl) (Nat.le_of_ble_eq_true rfl) rfl dX7_balanceAfter_11 ?_
  refine g_aload_n 0 rfl dX7_balanceAfter_14 ?_
  refine g_iload_n 1 rfl dX7_balanceAfter_15 ?_
  refine gx_Vr (c_X7_startTrial hC hr hk hwT) l_X7_229 rfl (Rcv.of ((TW_c (by omega)).trans hC) rfl) (Nat.le_of_ble_eq_true rfl) (Nat.le_of_ble_eq_true rfl) rfl dX7_balanceAfter_16 (fun _ _ _ h => ⟨_, h.1⟩) (fun a3 E3 n3 hp => ?_)
  obtain ⟨h1, hn3, T1, rfl, hr1, hO1⟩ := hp
  cases h1
  have hn4 := hn3.symm
  subst hn4
  refine g_astore_n (lv2 := [(3, _), (0, _), (1, _), (2, _)]) (by decide) rfl dX7_balanceAfter_19 ?_
  refine g_aload_n 1 rfl dX7_balanceAfter_20 ?_
  refine g_aload_n 0 rfl dX7_balanceAfter_21 ?_
  refine g_iload_n 3 rfl dX7_balanceAfter_22 ?_
  refine gx_Va (c_X7_runTrial (k := k) (o := hO T k) hC hr1 hok hk (by rw [hO1]) ht) l_X7_232 rfl (Rcv.of ((TW_c (by omega)).trans hC) rfl) (Nat.le_of_ble_eq_true rfl) (Nat.le_of_ble_eq_true rfl) rfl dX7_balanceAfter_23 (fun _ _ _ h => by obtain ⟨-, T2, j, c2, r, h, -⟩ := h; exact ⟨_, h⟩) (fun x3 E3 n3 hp => ?_)
  obtain ⟨hn3, T2, j, c2, r, h1, rfl, hr2, htk, hfs⟩ := hp
  cases h1
  have hn4 := hn3.symm
  subst hn4
  refine g_pop rfl dX7_balanceAfter_26 ?_
  refine g_aload_n 0 rfl dX7_balanceAfter_27 ?_
  refine g_get f_X7_161 (HW_l (hwT.1 k (by omega))) rfl dX7_balanceAfter_28 ?_
  exact g_iret ⟨by rw [Trk.bal hok hfs hr2 htk], rfl, T2, rfl, hr2.1⟩ rfl rfl dX7_balanceAfter_31
set_option maxRecDepth 100000 in
set_option maxHeartbeats 4000000 in
theorem c_X7_distanceAfter_ok {Γ : Gm} {n : Nat} {ab im : Nat} {rk ro : Int32} {F : Hp} {R T : Hr} {S : Hp} {f : Nat → Int32} {c : Nat} {k t : Nat} (hC : F ab = some (.inr (10, coF ab im rk ro))) (hr : Rp Γ S f c R) (hk : k < c) (hok : Okr f c) (hwT : Wf T) (ht : t ≤ 100) : Ct Γ 9 MX7_distanceAfter 0 0 [.ref ab, .int (nI k), .int (nI t)] (TW Γ ab F R T) n (fun v E2 n2 => v = some (.int (dsR (dysM f (wI k) t))) ∧ n2 = n ∧ ∃ T2, E2 = TW Γ ab F R T2 ∧ Wf T2) X0 := by
  refine Ct.of (by decide +kernel) rfl (Nat.le_of_ble_eq_true rfl) ?_
  have hc12 := hr.2.1
  refine G.sub (lv2 := [(0, _), (1, _), (2, _)]) [0, 1, 2] rfl ?_
  refine g_aload_n 0 rfl dX7_distanceAfter_0 ?_
  refine g_iload_n 1 rfl dX7_distanceAfter_1 ?_
  refine gv_V ((c_X7_requireLodger_ok ((TW_c (by omega)).trans hC) hr hk).hat TW_h) l_X7_152 rfl (Rcv.of ((TW_c (by omega)).trans hC) rfl) (Nat.le_of_ble_eq_true rfl) (Nat.le_of_ble_eq_true rfl) rfl dX7_distanceAfter_2 ?_
  refine g_pop rfl dX7_distanceAfter_5 ?_
  refine g_aload_n 0 rfl dX7_distanceAfter_6 ?_
  refine g_iload_n 2 rfl dX7_distanceAfter_7 ?_
  refine gn_ic 0 (by decide) dX7_distanceAfter_8 ?_
  refine gn_bp 100 (by decide) dX7_distanceAfter_9 ?_
  refine gu_V ((c_X7_requireRange_ok (F := TW Γ ab F R T) (R := R) ((TW_c (by omega)).trans hC) (Nat.zero_le _) ht (by decide)).hat TW_h) l_X7_225 rfl (Rcv.of ((TW_c (by omega)).trans hC) rfl) (Nat.le_of_ble_eq_true rfl) (Nat.le_of_ble_eq_true rfl) rfl dX7_distanceAfter_11 ?_
  refine g_aload_n 0 rfl dX7_distanceAfter_14 ?_
  refine g_iload_n 1 rfl dX7_distanceAfter_15 ?_
  refine gx_Vr (c_X7_startTrial hC hr hk hwT) l_X7_229 rfl (Rcv.of ((TW_c (by omega)).trans hC) rfl) (Nat.le_of_ble_eq_true rfl) (Nat.le_of_ble_eq_true rfl) rfl dX7_distanceAfter_16 (fun _ _ _ h => ⟨_, h.1⟩) (fun a3 E3 n3 hp => ?_)
  obtain ⟨h1, hn3, T1, rfl, hr1, hO1⟩ := hp
  cases h1
  have hn4 := hn3.symm
  subst hn4
  refine g_astore_n (lv2 := [(3, _), (0, _), (1, _), (2, _)]) (by decide) rfl dX7_distanceAfter_19 ?_
  refine g_aload_n 1 rfl dX7_distanceAfter_20 ?_
  refine g_aload_n 0 rfl dX7_distanceAfter_21 ?_
  refine g_iload_n 3 rfl dX7_distanceAfter_22 ?_
  refine gx_Va (c_X7_runTrial (k := k) (o := hO T k) hC hr1 hok hk (by rw [hO1]) ht) l_X7_232 rfl (Rcv.of ((TW_c (by omega)).trans hC) rfl) (Nat.le_of_ble_eq_true rfl) (Nat.le_of_ble_eq_true rfl) rfl dX7_distanceAfter_23 (fun _ _ _ h => by obtain ⟨-, T2, j, c2, r, h, -⟩ := h; exact ⟨_, h⟩) (fun x3 E3 n3 hp => ?_)
  obtain ⟨hn3, T2, j, c2, r, h1, rfl, hr2, htk, hfs⟩ := hp
  cases h1
  have hn4 := hn3.symm
  subst hn4
  refine g_istore (lv2 := [(4, _), (3, _), (0, _), (1, _), (2, _)]) (by decide) rfl dX7_distanceAfter_26 ?_
  refine g_iload 0 rfl dX7_distanceAfter_28 ?_
  refine g_iconst (v := -1) dX7_distanceAfter_30 (by decide) ?_
  refine g_icmp_ne (tgt := 51) (by decide) dX7_distanceAfter_31 (fun h31 => ?_) (fun h31 => ?_)
  · -- t 51
    refine g_iconst (v := -1) dX7_distanceAfter_51 (by decide) ?_
    exact g_iret ⟨by rw [Trk.dsG hok hfs h31], rfl, T2, rfl, hr2.1⟩ rfl rfl dX7_distanceAfter_52
  · -- f 34
    obtain ⟨ho12, hds⟩ := Trk.dsI hfs hr2 htk h31 (by have := hfs.1; omega)
    refine g_aload_n 1 rfl dX7_distanceAfter_34 ?_
    refine g_get f_X7_164 (HW_l ho12) rfl dX7_distanceAfter_35 ?_
    refine g_aload_n 2 rfl dX7_distanceAfter_38 ?_
    refine g_get f_X7_40 ((TW_c (by omega)).trans hC) rfl dX7_distanceAfter_39 ?_
    refine g_get f_X7_136 HW_h rfl dX7_distanceAfter_42 ?_
    refine gv_V (c_X0_distanceTo (HW_a ho12) (HW_p ho12) HW_1 HW_2) l_X7_200 rfl (Rcv.of (HW_a ho12) rfl) (Nat.le_of_ble_eq_true rfl) (Nat.le_of_ble_eq_true rfl) rfl dX7_distanceAfter_45 ?_
    refine g_goto (tgt := 52) (by decide) dX7_distanceAfter_48 ?_
    exact g_iret ⟨by rw [hds], rfl, T2, rfl, hr2.1⟩ rfl rfl dX7_distanceAfter_52
set_option maxRecDepth 100000 in
set_option maxHeartbeats 4000000 in
theorem c_X7_daysToEviction_ok {Γ : Gm} {n : Nat} {ab im : Nat} {rk ro : Int32} {F : Hp} {R T : Hr} {S : Hp} {f : Nat → Int32} {c : Nat} {k : Nat} (hC : F ab = some (.inr (10, coF ab im rk ro))) (hr : Rp Γ S f c R) (hk : k < c) (hok : Okr f c) (hwT : Wf T)  : Ct Γ 9 MX7_daysToEviction 0 0 [.ref ab, .int (nI k)] (TW Γ ab F R T) n (fun v E2 n2 => v = some (.int (evF f k 100 0)) ∧ n2 = n ∧ ∃ T2, E2 = TW Γ ab F R T2 ∧ Wf T2) X0 := by
  refine Ct.of (by decide +kernel) rfl (Nat.le_of_ble_eq_true rfl) ?_
  have hc12 := hr.2.1
  refine G.sub (lv2 := [(0, _), (1, _)]) [0, 1] rfl ?_
  refine g_aload_n 0 rfl dX7_daysToEviction_0 ?_
  refine g_iload_n 1 rfl dX7_daysToEviction_1 ?_
  refine gv_V ((c_X7_requireLodger_ok ((TW_c (by omega)).trans hC) hr hk).hat TW_h) l_X7_152 rfl (Rcv.of ((TW_c (by omega)).trans hC) rfl) (Nat.le_of_ble_eq_true rfl) (Nat.le_of_ble_eq_true rfl) rfl dX7_daysToEviction_2 ?_
  refine g_pop rfl dX7_daysToEviction_5 ?_
  refine g_aload_n 0 rfl dX7_daysToEviction_6 ?_
  refine g_aload_n 0 rfl dX7_daysToEviction_7 ?_
  refine g_iload_n 1 rfl dX7_daysToEviction_8 ?_
  refine gx_Vr (c_X7_startTrial hC hr hk hwT) l_X7_229 rfl (Rcv.of ((TW_c (by omega)).trans hC) rfl) (Nat.le_of_ble_eq_true rfl) (Nat.le_of_ble_eq_true rfl) rfl dX7_daysToEviction_9 (fun _ _ _ h => ⟨_, h.1⟩) (fun a3 E3 n3 hp => ?_)
  obtain ⟨h1, hn3, T1, rfl, hr1, hO1⟩ := hp
  cases h1
  have hn4 := hn3.symm
  subst hn4
  refine gn_bp 100 (by decide) dX7_daysToEviction_12 ?_
  refine gx_Va (c_X7_runTrial (k := k) (o := hO T k) hC hr1 hok hk (by rw [hO1]) (Nat.le_refl 100)) l_X7_232 rfl (Rcv.of ((TW_c (by omega)).trans hC) rfl) (Nat.le_of_ble_eq_true rfl) (Nat.le_of_ble_eq_true rfl) rfl dX7_daysToEviction_14 (fun _ _ _ h => by obtain ⟨-, T2, j, c2, r, h, -⟩ := h; exact ⟨_, h⟩) (fun x3 E3 n3 hp => ?_)
  obtain ⟨hn3, T2, j, c2, r, h1, rfl, hr2, htk, hfs⟩ := hp
  cases h1
  have hn4 := hn3.symm
  subst hn4
  exact g_iret ⟨by rw [ev_fst hfs], rfl, T2, rfl, hr2.1⟩ rfl rfl dX7_daysToEviction_17
set_option maxRecDepth 100000 in
set_option maxHeartbeats 4000000 in
theorem c_X7_balanceAfter_noL {Γ : Gm} {n : Nat} {ab im : Nat} {rk ro : Int32} {F : Hp} {R T : Hr} {S : Hp} {f : Nat → Int32} {c : Nat} {x : Int32} {y : Int32} (hC : F ab = some (.inr (10, coF ab im rk ro))) (hr : Rp Γ S f c R) (hx : ¬ (nI 0 ≤ x ∧ x ≤ nI c - nI 1)) : Ct Γ 9 MX7_balanceAfter 1 6 [.ref ab, .int x, .int y] (TW Γ ab F R T) n PNo (Xe "java/lang/IndexOutOfBoundsException" (TW Γ ab F R T) n) := by
  refine Ct.of (by decide +kernel) rfl (Nat.le_of_ble_eq_true rfl) ?_
  have hc12 := hr.2.1
  refine G.sub (lv2 := [(0, _), (1, _), (2, _)]) [0, 1, 2] rfl ?_
  refine g_aload_n 0 rfl dX7_balanceAfter_0 ?_
  refine g_iload_n 1 rfl dX7_balanceAfter_1 ?_
  exact g_invV ((c_X7_requireLodger_no ((TW_c (by omega)).trans hC) hr hx).hatN TW_h) l_X7_152 rfl (Rcv.of ((TW_c (by omega)).trans hC) rfl) (Nat.le_of_ble_eq_true rfl) (Nat.le_of_ble_eq_true rfl) rfl dX7_balanceAfter_2 (fun _ _ _ h => h) (fun _ _ _ h => h.elim)
set_option maxRecDepth 100000 in
set_option maxHeartbeats 4000000 in
theorem c_X7_distanceAfter_noL {Γ : Gm} {n : Nat} {ab im : Nat} {rk ro : Int32} {F : Hp} {R T : Hr} {S : Hp} {f : Nat → Int32} {c : Nat} {x : Int32} {y : Int32} (hC : F ab = some (.inr (10, coF ab im rk ro))) (hr : Rp Γ S f c R) (hx : ¬ (nI 0 ≤ x ∧ x ≤ nI c - nI 1)) : Ct Γ 9 MX7_distanceAfter 1 6 [.ref ab, .int x, .int y] (TW Γ ab F R T) n PNo (Xe "java/lang/IndexOutOfBoundsException" (TW Γ ab F R T) n) := by
  refine Ct.of (by decide +kernel) rfl (Nat.le_of_ble_eq_true rfl) ?_
  have hc12 := hr.2.1
  refine G.sub (lv2 := [(0, _), (1, _), (2, _)]) [0, 1, 2] rfl ?_
  refine g_aload_n 0 rfl dX7_distanceAfter_0 ?_
  refine g_iload_n 1 rfl dX7_distanceAfter_1 ?_
  exact g_invV ((c_X7_requireLodger_no ((TW_c (by omega)).trans hC) hr hx).hatN TW_h) l_X7_152 rfl (Rcv.of ((TW_c (by omega)).trans hC) rfl) (Nat.le_of_ble_eq_true rfl) (Nat.le_of_ble_eq_true rfl) rfl dX7_distanceAfter_2 (fun _ _ _ h => h) (fun _ _ _ h => h.elim)
set_option maxRecDepth 100000 in
set_option maxHeartbeats 4000000 in
theorem c_X7_daysToEviction_noL {Γ : Gm} {n : Nat} {ab im : Nat} {rk ro : Int32} {F : Hp} {R T : Hr} {S : Hp} {f : Nat → Int32} {c : Nat} {x : Int32} (hC : F ab = some (.inr (10, coF ab im rk ro))) (hr : Rp Γ S f c R) (hx : ¬ (nI 0 ≤ x ∧ x ≤ nI c - nI 1)) : Ct Γ 9 MX7_daysToEviction 1 6 [.ref ab, .int x] (TW Γ ab F R T) n PNo (Xe "java/lang/IndexOutOfBoundsException" (TW Γ ab F R T) n) := by
  refine Ct.of (by decide +kernel) rfl (Nat.le_of_ble_eq_true rfl) ?_
  have hc12 := hr.2.1
  refine G.sub (lv2 := [(0, _), (1, _)]) [0, 1] rfl ?_
  refine g_aload_n 0 rfl dX7_daysToEviction_0 ?_
  refine g_iload_n 1 rfl dX7_daysToEviction_1 ?_
  exact g_invV ((c_X7_requireLodger_no ((TW_c (by omega)).trans hC) hr hx).hatN TW_h) l_X7_152 rfl (Rcv.of ((TW_c (by omega)).trans hC) rfl) (Nat.le_of_ble_eq_true rfl) (Nat.le_of_ble_eq_true rfl) rfl dX7_daysToEviction_2 (fun _ _ _ h => h) (fun _ _ _ h => h.elim)
set_option maxRecDepth 100000 in
set_option maxHeartbeats 4000000 in
theorem c_X7_paymentToStay_noL {Γ : Gm} {n : Nat} {ab im : Nat} {rk ro : Int32} {F : Hp} {R T : Hr} {S : Hp} {f : Nat → Int32} {c : Nat} {x : Int32} (hC : F ab = some (.inr (10, coF ab im rk ro))) (hr : Rp Γ S f c R) (hx : ¬ (nI 0 ≤ x ∧ x ≤ nI c - nI 1)) : Ct Γ 9 MX7_paymentToStay 1 6 [.ref ab, .int x] (TW Γ ab F R T) n PNo (Xe "java/lang/IndexOutOfBoundsException" (TW Γ ab F R T) n) := by
  refine Ct.of (by decide +kernel) rfl (Nat.le_of_ble_eq_true rfl) ?_
  have hc12 := hr.2.1
  refine G.sub (lv2 := [(0, _), (1, _)]) [0, 1] rfl ?_
  refine g_aload_n 0 rfl dX7_paymentToStay_0 ?_
  refine g_iload_n 1 rfl dX7_paymentToStay_1 ?_
  exact g_invV ((c_X7_requireLodger_no ((TW_c (by omega)).trans hC) hr hx).hatN TW_h) l_X7_152 rfl (Rcv.of ((TW_c (by omega)).trans hC) rfl) (Nat.le_of_ble_eq_true rfl) (Nat.le_of_ble_eq_true rfl) rfl dX7_paymentToStay_2 (fun _ _ _ h => h) (fun _ _ _ h => h.elim)
set_option maxRecDepth 100000 in
set_option maxHeartbeats 4000000 in
theorem c_X7_balanceAfter_noD {Γ : Gm} {n : Nat} {ab im : Nat} {rk ro : Int32} {F : Hp} {R T : Hr} {S : Hp} {f : Nat → Int32} {c : Nat} {k : Nat} {x : Int32} (hC : F ab = some (.inr (10, coF ab im rk ro))) (hr : Rp Γ S f c R) (hk : k < c) (hx : ¬ (nI 0 ≤ x ∧ x ≤ nI 100)) : Ct Γ 9 MX7_balanceAfter 1 6 [.ref ab, .int (nI k), .int x] (TW Γ ab F R T) n PNo (Xe "java/lang/IllegalArgumentException" (TW Γ ab F R T) n) := by
  refine Ct.of (by decide +kernel) rfl (Nat.le_of_ble_eq_true rfl) ?_
  have hc12 := hr.2.1
  refine G.sub (lv2 := [(0, _), (1, _), (2, _)]) [0, 1, 2] rfl ?_
  refine g_aload_n 0 rfl dX7_balanceAfter_0 ?_
  refine g_iload_n 1 rfl dX7_balanceAfter_1 ?_
  refine gv_V ((c_X7_requireLodger_ok ((TW_c (by omega)).trans hC) hr hk).hat TW_h) l_X7_152 rfl (Rcv.of ((TW_c (by omega)).trans hC) rfl) (Nat.le_of_ble_eq_true rfl) (Nat.le_of_ble_eq_true rfl) rfl dX7_balanceAfter_2 ?_
  refine g_pop rfl dX7_balanceAfter_5 ?_
  refine g_aload_n 0 rfl dX7_balanceAfter_6 ?_
  refine g_iload_n 2 rfl dX7_balanceAfter_7 ?_
  refine gn_ic 0 (by decide) dX7_balanceAfter_8 ?_
  refine gn_bp 100 (by decide) dX7_balanceAfter_9 ?_
  exact g_invV ((c_X7_requireRange_no (F := TW Γ ab F R T) (R := R) ((TW_c (by omega)).trans hC) hx).hatN TW_h) l_X7_225 rfl (Rcv.of ((TW_c (by omega)).trans hC) rfl) (Nat.le_of_ble_eq_true rfl) (Nat.le_of_ble_eq_true rfl) rfl dX7_balanceAfter_11 (fun _ _ _ h => h) (fun _ _ _ h => h.elim)
set_option maxRecDepth 100000 in
set_option maxHeartbeats 4000000 in
theorem c_X7_distanceAfter_noD {Γ : Gm} {n : Nat} {ab im : Nat} {rk ro : Int32} {F : Hp} {R T : Hr} {S : Hp} {f : Nat → Int32} {c : Nat} {k : Nat} {x : Int32} (hC : F ab = some (.inr (10, coF ab im rk ro))) (hr : Rp Γ S f c R) (hk : k < c) (hx : ¬ (nI 0 ≤ x ∧ x ≤ nI 100)) : Ct Γ 9 MX7_distanceAfter 1 6 [.ref ab, .int (nI k), .int x] (TW Γ ab F R T) n PNo (Xe "java/lang/IllegalArgumentException" (TW Γ ab F R T) n) := by
  refine Ct.of (by decide +kernel) rfl (Nat.le_of_ble_eq_true rfl) ?_
  have hc12 := hr.2.1
  refine G.sub (lv2 := [(0, _), (1, _), (2, _)]) [0, 1, 2] rfl ?_
  refine g_aload_n 0 rfl dX7_distanceAfter_0 ?_
  refine g_iload_n 1 rfl dX7_distanceAfter_1 ?_
  refine gv_V ((c_X7_requireLodger_ok ((TW_c (by omega)).trans hC) hr hk).hat TW_h) l_X7_152 rfl (Rcv.of ((TW_c (by omega)).trans hC) rfl) (Nat.le_of_ble_eq_true rfl) (Nat.le_of_ble_eq_true rfl) rfl dX7_distanceAfter_2 ?_
  refine g_pop rfl dX7_distanceAfter_5 ?_
  refine g_aload_n 0 rfl dX7_distanceAfter_6 ?_
  refine g_iload_n 2 rfl dX7_distanceAfter_7 ?_
  refine gn_ic 0 (by decide) dX7_distanceAfter_8 ?_
  refine gn_bp 100 (by decide) dX7_distanceAfter_9 ?_
  exact g_invV ((c_X7_requireRange_no (F := TW Γ ab F R T) (R := R) ((TW_c (by omega)).trans hC) hx).hatN TW_h) l_X7_225 rfl (Rcv.of ((TW_c (by omega)).trans hC) rfl) (Nat.le_of_ble_eq_true rfl) (Nat.le_of_ble_eq_true rfl) rfl dX7_distanceAfter_11 (fun _ _ _ h => h) (fun _ _ _ h => h.elim)
set_option maxRecDepth 100000 in
set_option maxHeartbeats 4000000 in
theorem c_X7_staysWith {Γ : Gm} {n : Nat} {ab im : Nat} {rk ro : Int32} {F : Hp} {R T : Hr} {S : Hp} {f : Nat → Int32} {c : Nat} {k dy : Nat} {x : Int32} (hC : F ab = some (.inr (10, coF ab im rk ro))) (hr : Rp Γ S f c R) (hk : k < c) (hok : Okr f c) (hwT : Wf T) (hdy : f 8 = nI dy) (hdy31 : dy < 2 ^ 31) : Ct Γ 9 MX7_staysWith 0 0 [.ref ab, .int (nI k), .int x] (TW Γ ab F R T) n (fun v E2 n2 => v = some (.int (bi (styB f k x (7 - dy % 7) = true))) ∧ n2 = n ∧ ∃ T2, E2 = TW Γ ab F R T2 ∧ Wf T2) X0 := by
  refine Ct.of (by decide +kernel) rfl (Nat.le_of_ble_eq_true rfl) ?_
  have hc12 := hr.2.1
  refine G.sub (lv2 := [(0, _), (1, _), (2, _)]) [0, 1, 2] rfl ?_
  refine g_aload_n 0 rfl dX7_staysWith_0 ?_
  refine g_iload_n 1 rfl dX7_staysWith_1 ?_
  refine gx_Vr (c_X7_startTrial hC hr hk hwT) l_X7_229 rfl (Rcv.of ((TW_c (by omega)).trans hC) rfl) (Nat.le_of_ble_eq_true rfl) (Nat.le_of_ble_eq_true rfl) rfl dX7_staysWith_2 (fun _ _ _ h => ⟨_, h.1⟩) (fun a3 E3 n3 hp => ?_)
  obtain ⟨h1, hn3, T1, rfl, hr1, hO1⟩ := hp
  cases h1
  have hn4 := hn3.symm
  subst hn4
  refine g_astore_n (lv2 := [(3, _), (0, _), (1, _), (2, _)]) (by decide) rfl dX7_staysWith_5 ?_
  refine g_aload_n 0 rfl dX7_staysWith_6 ?_
  refine g_dup rfl dX7_staysWith_7 ?_
  refine g_get f_X7_161 (HW_l (hwT.1 k (by omega))) rfl dX7_staysWith_8 ?_
  refine g_iload_n 3 rfl dX7_staysWith_11 ?_
  refine g_iadd dX7_staysWith_12 ?_
  refine l_put (hb := ab + 92) (j := 1) f_X7_161 w_X3_2 (hwT.1 k (by omega)) (by decide) rfl dX7_staysWith_13 ?_
  have hr1b : Rp Γ S (payx f k x) c (sR T1 (hO T k) 1 (hR T1 (hO T k) 1 + x)) := by have h := hr1.sR (k := k) (i := 1) (x := hR T1 (hO T k) 1 + x) hk (by decide); rw [hO1] at h; have e := hr1.row hk (i := 1) (by decide); rw [hO1] at e; rw [e] at h ⊢; exact h
  replace hO1 : hO (sR T1 (hO T k) 1 (hR T1 (hO T k) 1 + x)) = hO T := hO1
  replace hok := payx_ok (x := x) (k := k) hok
  refine g_aload_n 1 rfl dX7_staysWith_16 ?_
  refine g_aload_n 0 rfl dX7_staysWith_17 ?_
  refine g_aload_n 1 rfl dX7_staysWith_18 ?_
  refine gv_V ((c_X7_daysToInspection ((TW_c (by omega)).trans hC) hr).hat TW_h) l_X7_240 rfl (Rcv.of ((TW_c (by omega)).trans hC) rfl) (Nat.le_of_ble_eq_true rfl) (Nat.le_of_ble_eq_true rfl) rfl dX7_staysWith_19 ?_
  rw [dl_eq hdy hdy31]
  refine gx_Va (c_X7_runTrial (k := k) (o := hO T k) hC hr1b hok hk (by rw [hO1]) (by omega)) l_X7_232 rfl (Rcv.of ((TW_c (by omega)).trans hC) rfl) (Nat.le_of_ble_eq_true rfl) (Nat.le_of_ble_eq_true rfl) rfl dX7_staysWith_22 (fun _ _ _ h => by obtain ⟨-, T2, j, c2, r, h, -⟩ := h; exact ⟨_, h⟩) (fun x3 E3 n3 hp => ?_)
  obtain ⟨hn3, T2, j, c2, r, h1, rfl, hr2, htk, hfs⟩ := hp
  cases h1
  have hn4 := hn3.symm
  subst hn4
  refine g_iconst (v := -1) dX7_staysWith_25 (by decide) ?_
  refine g_icmp_ne (tgt := 33) (by decide) dX7_staysWith_26 (fun h26 => ?_) (fun h26 => ?_)
  · -- t 33
    refine gn_ic 0 (by decide) dX7_staysWith_33 ?_
    exact g_iret ⟨by rw [bi_f (fun z => sty_n hok hfs h26 z)], rfl, T2, rfl, hr2.1⟩ (by decide +kernel) rfl dX7_staysWith_34
  · -- f 29
    refine gn_ic 1 (by decide) dX7_staysWith_29 ?_
    refine g_goto (tgt := 34) (by decide) dX7_staysWith_30 ?_
    exact g_iret ⟨by rw [bi_t (sty_y hfs (by have := hfs.1; omega) h26)], rfl, T2, rfl, hr2.1⟩ (by decide +kernel) rfl dX7_staysWith_34
set_option maxRecDepth 100000 in
set_option maxHeartbeats 4000000 in
theorem c_X7_paymentToStay_ok {Γ : Gm} {n : Nat} {ab im : Nat} {rk ro : Int32} {F : Hp} {R T : Hr} {S : Hp} {f : Nat → Int32} {c : Nat} {k dy : Nat} (hC : F ab = some (.inr (10, coF ab im rk ro))) (hr : Rp Γ S f c R) (hk : k < c) (hok : Okr f c) (hwT : Wf T) (hdy : f 8 = nI dy) (hdy31 : dy < 2 ^ 31) : Ct Γ 10 MX7_paymentToStay 0 0 [.ref ab, .int (nI k)] (TW Γ ab F R T) n (fun v E2 n2 => v = some (.int (ptR f k (7 - dy % 7))) ∧ n2 = n ∧ ∃ T2, E2 = TW Γ ab F R T2 ∧ Wf T2) X0 := by
  refine Ct.of (by decide +kernel) rfl (Nat.le_of_ble_eq_true rfl) ?_
  have hc12 := hr.2.1
  have ho12 := hr.o12 hk
  refine G.sub (lv2 := [(0, _), (1, _)]) [0, 1] rfl ?_
  refine g_aload_n 0 rfl dX7_paymentToStay_0 ?_
  refine g_iload_n 1 rfl dX7_paymentToStay_1 ?_
  refine gv_V ((c_X7_requireLodger_ok ((TW_c (by omega)).trans hC) hr hk).hat TW_h) l_X7_152 rfl (Rcv.of ((TW_c (by omega)).trans hC) rfl) (Nat.le_of_ble_eq_true rfl) (Nat.le_of_ble_eq_true rfl) rfl dX7_paymentToStay_2 ?_
  refine g_astore_n (lv2 := [(2, _), (0, _), (1, _)]) (by decide) rfl dX7_paymentToStay_5 ?_
  refine g_aload_n 1 rfl dX7_paymentToStay_6 ?_
  refine g_iload_n 2 rfl dX7_paymentToStay_7 ?_
  refine gn_ic 0 (by decide) dX7_paymentToStay_8 ?_
  refine gx_Va (c_X7_staysWith (x := nI 0) hC hr hk hok hwT hdy hdy31) l_X7_236 rfl (Rcv.of ((TW_c (by omega)).trans hC) rfl) (Nat.le_of_ble_eq_true rfl) (Nat.le_of_ble_eq_true rfl) rfl dX7_paymentToStay_9 (fun _ _ _ h => ⟨_, h.1⟩) (fun x3 E3 n3 hp => ?_)
  obtain ⟨h1, hn3, T2, rfl, hw2⟩ := hp
  cases h1
  have hn4 := hn3.symm
  subst hn4
  refine g_if_eq (tgt := 17) (by decide) dX7_paymentToStay_12 (fun h12 => ?_) (fun h12 => ?_)
  · -- t 17
    refine g_aload_n 1 rfl dX7_paymentToStay_17 ?_
    refine g_get f_X7_36 ((TW_c (by omega)).trans hC) rfl dX7_paymentToStay_18 ?_
    refine g_aload_n 0 rfl dX7_paymentToStay_21 ?_
    refine g_get f_X7_156 ((HW_o (by omega)).trans (HW_l (hr.o12 hk))) rfl dX7_paymentToStay_22 ?_
    refine g_top (y := f (13 + 16 * k)) (hr.flo hk) ?_
    refine gv_V ((c_X2_dailyRent (hb := ab + 50) (F := TW Γ ab F R T2) hr).hat TW_h) l_X7_129 rfl (Rcv.of (TW_h 0 (by decide)) rfl) (Nat.le_of_ble_eq_true rfl) (Nat.le_of_ble_eq_true rfl) rfl dX7_paymentToStay_25 ?_
    refine g_istore_n (lv2 := [(3, _), (2, _), (0, _), (1, _)]) (by decide) rfl dX7_paymentToStay_28 ?_
    refine g_aload_n 2 rfl dX7_paymentToStay_29 ?_
    refine gv_V ((c_X7_daysToInspection ((TW_c (by omega)).trans hC) hr).hat TW_h) l_X7_240 rfl (Rcv.of ((TW_c (by omega)).trans hC) rfl) (Nat.le_of_ble_eq_true rfl) (Nat.le_of_ble_eq_true rfl) rfl dX7_paymentToStay_30 ?_
    rw [dl_eq hdy hdy31]
    refine g_istore (lv2 := [(4, _), (3, _), (2, _), (0, _), (1, _)]) (by decide) rfl dX7_paymentToStay_33 ?_
    refine gn_ic 1 (by decide) dX7_paymentToStay_35 ?_
    refine g_istore (lv2 := [(5, _), (4, _), (3, _), (2, _), (0, _), (1, _)]) (by decide) rfl dX7_paymentToStay_36 ?_
    have L38 : ∀ (m38 : Nat) (d : Nat) (T3 : Hr), (d + m38 = (7 - dy % 7) + 1) → (1 ≤ d) → (Wf T3) → (ptR f k (7 - dy % 7) = ptF f k (7 - dy % 7) m38 d) → G Γ 10 MX7_paymentToStay (fun v E2 n2 => v = some (.int (ptR f k (7 - dy % 7))) ∧ n2 = n ∧ ∃ T2, E2 = TW Γ ab F R T2 ∧ Wf T2) X0 38 [(0, .ref ab), (1, .int (nI k)), (2, .ref (ab + 50 + 6 + 3 * hO R k)), (3, .int (f 0 + nI 5 * f (13 + 16 * k))), (4, .int (nI (7 - dy % 7))), (5, .int (nI d))] [] (TW Γ ab F R T3) n 0 0 := by
      intro m38
      induction m38 with
      | zero =>
        intro d T3 hi9 hd1 hwT3 hq
        refine g_iload 5 rfl dX7_paymentToStay_38 ?_
        refine g_iload 4 rfl dX7_paymentToStay_40 ?_
        refine gn_icmp_gt (by omega) (by omega) (tgt := 89) (by decide) dX7_paymentToStay_42 (fun h42 => ?_) (fun h42 => ?_)
        · -- t 89
          refine g_iconst (v := -1) dX7_paymentToStay_89 (by decide) ?_
          exact g_iret ⟨by rw [hq]; rfl, rfl, T3, rfl, hwT3⟩ rfl rfl dX7_paymentToStay_90
        · -- f 45
          exfalso; omega
      | succ m38 ih38 =>
        intro d T3 hi9 hd1 hwT3 hq
        refine g_iload 5 rfl dX7_paymentToStay_38 ?_
        refine g_iload 4 rfl dX7_paymentToStay_40 ?_
        refine gn_icmp_gt (by omega) (by omega) (tgt := 89) (by decide) dX7_paymentToStay_42 (fun h42 => ?_) (fun h42 => ?_)
        · -- t 89
          exfalso; omega
        · -- f 45
          refine g_iload 5 rfl dX7_paymentToStay_45 ?_
          refine g_iload_n 3 rfl dX7_paymentToStay_47 ?_
          refine g_imul dX7_paymentToStay_48 ?_
          refine g_top (y := (f 0 + nI 5 * f (13 + 16 * k)) * nI d) (Int32.mul_comm _ _) ?_
          refine g_aload_n 2 rfl dX7_paymentToStay_49 ?_
          refine g_get f_X7_161 ((HW_o (by omega)).trans (HW_l (hr.o12 hk))) rfl dX7_paymentToStay_50 ?_
          refine g_top (y := f (13 + 16 * k + 1)) (hr.row hk (by decide)) ?_
          refine g_isub dX7_paymentToStay_53 ?_
          refine g_top (y := (pmt f k d)) rfl ?_
          refine g_istore (lv2 := [(6, _), (0, _), (1, _), (2, _), (3, _), (4, _), (5, _)]) (by decide) rfl dX7_paymentToStay_54 ?_
          refine g_iload 0 rfl dX7_paymentToStay_56 ?_
          refine gn_ic 1 (by decide) dX7_paymentToStay_58 ?_
          refine g_icmp_lt (tgt := 83) (by decide) dX7_paymentToStay_59 (fun h59 => ?_) (fun h59 => ?_)
          · -- t 83
            refine gn_inc (lv2 := [(5, _), (6, _), (0, _), (1, _), (2, _), (3, _), (4, _)]) 6 rfl (by decide) rfl dX7_paymentToStay_83 ?_
            refine g_goto (tgt := 38) (by decide) dX7_paymentToStay_86 ?_
            refine G.sub [2, 3, 4, 5, 6, 0] rfl ?_
            exact ih38 (d + 1) T3 (by omega) (by omega) hwT3 (by rw [hq, ptF_f (fun z => absurd z.1.1 (Int32.not_le.mpr h59))])
          · -- f 62
            refine g_iload 0 rfl dX7_paymentToStay_62 ?_
            refine gn_sp 999 (by decide) dX7_paymentToStay_64 ?_
            refine g_icmp_gt (tgt := 83) (by decide) dX7_paymentToStay_67 (fun h67 => ?_) (fun h67 => ?_)
            · -- t 83
              refine gn_inc (lv2 := [(5, _), (6, _), (0, _), (1, _), (2, _), (3, _), (4, _)]) 6 rfl (by decide) rfl dX7_paymentToStay_83 ?_
              refine g_goto (tgt := 38) (by decide) dX7_paymentToStay_86 ?_
              refine G.sub [2, 3, 4, 5, 6, 0] rfl ?_
              exact ih38 (d + 1) T3 (by omega) (by omega) hwT3 (by rw [hq, ptF_f (fun z => absurd z.1.2 (Int32.not_le.mpr h67))])
            · -- f 70
              refine g_aload_n 1 rfl dX7_paymentToStay_70 ?_
              refine g_iload_n 2 rfl dX7_paymentToStay_71 ?_
              refine g_iload 0 rfl dX7_paymentToStay_72 ?_
              refine gx_Va (c_X7_staysWith (x := (pmt f k d)) hC hr hk hok hwT3 hdy hdy31) l_X7_236 rfl (Rcv.of ((TW_c (by omega)).trans hC) rfl) (Nat.le_of_ble_eq_true rfl) (Nat.le_of_ble_eq_true rfl) rfl dX7_paymentToStay_74 (fun _ _ _ h => ⟨_, h.1⟩) (fun x3 E3 n3 hp => ?_)
              obtain ⟨h1, hn3, T2, rfl, hw2⟩ := hp
              cases h1
              have hn4 := hn3.symm
              subst hn4
              refine g_if_eq (tgt := 83) (by decide) dX7_paymentToStay_77 (fun h77 => ?_) (fun h77 => ?_)
              · -- t 83
                refine gn_inc (lv2 := [(5, _), (6, _), (0, _), (1, _), (2, _), (3, _), (4, _)]) 6 rfl (by decide) rfl dX7_paymentToStay_83 ?_
                refine g_goto (tgt := 38) (by decide) dX7_paymentToStay_86 ?_
                refine G.sub [2, 3, 4, 5, 6, 0] rfl ?_
                exact ih38 (d + 1) T2 (by omega) (by omega) hw2 (by rw [hq, ptF_f (fun z => bi_0 h77 z.2)])
              · -- f 80
                refine g_iload 0 rfl dX7_paymentToStay_80 ?_
                exact g_iret ⟨by rw [hq, ptF_t ⟨Int32.not_lt.mp h59, Int32.not_lt.mp h67⟩ (bi_n0 h77)], rfl, T2, rfl, hw2⟩ rfl rfl dX7_paymentToStay_82
    refine G.sub [4, 5, 3, 2, 1, 0] rfl ?_
    exact L38 (7 - dy % 7) 1 T2 (by omega) (Nat.le_refl 1) hw2 (by unfold ptR; rw [if_neg (bi_0 h12)])
  · -- f 15
    refine gn_ic 0 (by decide) dX7_paymentToStay_15 ?_
    exact g_iret ⟨by unfold ptR; rw [if_pos (bi_n0 h12)], rfl, T2, rfl, hw2⟩ rfl rfl dX7_paymentToStay_16
end GJ24
