/-! the class's start (pure) -/
noncomputable section GSTA
variable {Γ : Gm} {ab n i : Nat} {S E : Hp} {q : CQ}
theorem hok_0 {R : Hr} (hw : Wf R) (h7 : R.1 7 = nI 0) : Hok Γ S R := by
  refine ⟨fun j => if 2 ≤ j ∧ j < 7 then hL R (j - 2) else R.1 j, 0, ⟨hw, Nat.zero_le _, ?_, fun j hj hn => ?_, fun v hv => ?_, fun k hk => absurd hk (Nat.not_lt_zero k)⟩, fun k hk => absurd hk (Nat.not_lt_zero k), fun fl => Nat.zero_le 4⟩
  · show (if 2 ≤ 7 ∧ 7 < 7 then _ else R.1 7) = _
    rw [if_neg (by omega)]; exact h7
  · exact (if_neg hn).symm
  · show _ = if 2 ≤ 2 + v ∧ 2 + v < 7 then hL R (2 + v - 2) else _
    rw [if_pos (by omega), Nat.add_sub_cancel_left]
def qini (ab : Nat) (t : PT) (lv cap cnt : Nat) (b : Nat → Int32) (R2 R3 Rz : Hr) : CQ := ((0, nI 0, -1), FT, (ab + 3, 16, 0, fun _ => nI 0), (t, 143, lv, cap, cnt, b), (0, 0), (fun _ => nI 0), fun i => if i = 0 then R2 else if i = 1 then R3 else Rz)
theorem hh_0 : hh ab 0 = ab + 5 := rfl
theorem hh_1 : hh ab 1 = ab + 50 := rfl
theorem hh_2 : hh ab 2 = ab + 92 := rfl
theorem hh_p {j : Nat} (hj : j < 10) : hh ab (3 + j) = ab + 136 + 42 * j := by
  unfold hh; rw [if_neg (by omega), if_neg (by omega), if_neg (by omega), if_pos (by omega), Nat.add_sub_cancel_left]
theorem hh_s {j : Nat} (hj : j < 2) : hh ab (13 + j) = ab + 558 + 42 * j := by
  unfold hh; rw [if_neg (by omega), if_neg (by omega), if_neg (by omega), if_neg (by omega), Nat.add_sub_cancel_left]
theorem ca_init {E1 E0 F2 S2 : Hp} {n2 lv2 cap2 cnt2 : Nat} {b2 : Nat → Int32} {t2 : PT} {R2 R3 : Hr} (hI : CI Γ ab 2 FT E1 E0) (hS : E1 (ab + 556) = some (.inl (gA Γ 6, 2, .inr (.inr (.inr (.inr (fun k => some (ab + 558 + 42 * k)))))))) (hG : Grw (ab + 4) E1 (fun _ => none) (ab + 642) (ab + 49) F2 S2 n2 lv2) (hP : Pst Γ (ab + 4) F2 S2 n2 lv2 cap2 b2 cnt2) (hl : lv2 < n2) :
    CA Γ ab n2 S2 (HW Γ (ab + 50) (PW Γ (ab + 4) (ab + 1) F2 143 t2 R2) R3) (qini ab t2 lv2 cap2 cnt2 b2 R2 R3 (R0 Γ)) ∧ ∀ a, a < ab → HW Γ (ab + 50) (PW Γ (ab + 4) (ab + 1) F2 143 t2 R2) R3 a = E0 a := by
  obtain ⟨h1, h2, h3, h4, h5, h6, h7, h8, h9, h10, h11⟩ := hI
  obtain ⟨g1, g2, g3, g4, g5⟩ := hG
  obtain ⟨p1, p2, p3, p4⟩ := hP
  have key : ∀ a, a < ab + 642 → ¬ (ab + 4 ≤ a ∧ a < ab + 49) → ¬ (ab + 50 ≤ a ∧ a < ab + 92) → a ≠ ab + 49 → HW Γ (ab + 50) (PW Γ (ab + 4) (ab + 1) F2 143 t2 R2) R3 a = E1 a := fun a q1 q2 q3 q4 => by
    rw [HW_o (by omega), PW_o (by omega)]; exact g1 a q1 (by omega) q4
  refine ⟨⟨(key _ (by omega) (by omega) (by omega) (by omega)).trans h1, (key _ (by omega) (by omega) (by omega) (by omega)).trans h2, h3.of (key _ (by omega) (by omega) (by omega) (by omega)) (key _ (by omega) (by omega) (by omega) (by omega)), ?_, ?_, p1.of ?_ ?_, (key _ (by omega) (by omega) (by omega) (by omega)).trans h7, (key _ (by omega) (by omega) (by omega) (by omega)).trans h8, (key _ (by omega) (by omega) (by omega) (by omega)).trans hS, (key _ (by omega) (by omega) (by omega) (by omega)).trans h9, fun i hi j hj => ?_, fun a v hv => ?_, by omega, ?_, Or.inl rfl, ?_, hl, ?_⟩, fun a ha => (key _ (by omega) (by omega) (by omega) (by omega)).trans (h11 a ha)⟩
  · rw [HW_o (by omega)]; exact PW_p
  · rw [HW_o (by omega)]; exact PW_t
  · rw [HW_o (by omega), PW_o (by omega)]
  · show _ = F2 lv2
    rw [HW_o (by omega), PW_o (by omega)]
  · by_cases i0 : i = 0
    · subst i0
      rw [hh_0, HW_o (by omega)]
      exact HAt.of (hb := ab + 4 + 1) j hj
    · by_cases i1 : i = 1
      · subst i1; exact HAt.of j hj
      · have hr : hh ab i + j < ab + 642 ∧ ab + 92 ≤ hh ab i + j := by
          unfold hh; rw [if_neg i0, if_neg i1]; repeat' split
          all_goals omega
        rw [key _ hr.1 (by omega) (by omega) (by omega)]
        show _ = some (hwE Γ (hh ab i) (if i = 0 then R2 else if i = 1 then R3 else R0 Γ) j)
        rw [if_neg i0, if_neg i1]
        exact h10 i (by omega) j hj
  · obtain ⟨k1, k2, k3, k4⟩ := p2 a v hv
    have k5 : ab + 642 ≤ a := k2
    refine ⟨by rw [HW_o (by omega), PW_o (by omega)]; exact k1, k5, k3, k4, ?_⟩
    show a ≠ ab + 3
    omega
  · show lv2 = ab + 49 ∨ ab + 642 ≤ lv2
    exact g2
  · show lv2 ≠ ab + 3
    omega
  · show ab + 3 < n2
    omega
end GSTA
