/-! the class's own area: from ab on -/
section GAREA
/-- input length, reported fault, its place; input; output (array, room, length, bytes); parser (state, text length; letters: array, room, length, bytes); history (oldest, kept); what is saved; houses -/
abbrev CQ : Type := (Nat × Int32 × Int32) × (Nat → Int32) × (Nat × Nat × Nat × (Nat → Int32)) × (PT × Nat × Nat × Nat × Nat × (Nat → Int32)) × (Nat × Nat) × (Nat → Int32) × (Nat → Hr)
abbrev q_im (q : CQ) : Nat := q.1.1
abbrev q_rk (q : CQ) : Int32 := q.1.2.1
abbrev q_ro (q : CQ) : Int32 := q.1.2.2
abbrev q_inp (q : CQ) : Nat → Int32 := q.2.1
abbrev q_ov (q : CQ) : Nat := q.2.2.1.1
abbrev q_oc (q : CQ) : Nat := q.2.2.1.2.1
abbrev q_om (q : CQ) : Nat := q.2.2.1.2.2.1
abbrev q_ob (q : CQ) : Nat → Int32 := q.2.2.1.2.2.2
abbrev q_t (q : CQ) : PT := q.2.2.2.1.1
abbrev q_te (q : CQ) : Nat := q.2.2.2.1.2.1
abbrev q_lv (q : CQ) : Nat := q.2.2.2.1.2.2.1
abbrev q_lc (q : CQ) : Nat := q.2.2.2.1.2.2.2.1
abbrev q_lm (q : CQ) : Nat := q.2.2.2.1.2.2.2.2.1
abbrev q_lb (q : CQ) : Nat → Int32 := q.2.2.2.1.2.2.2.2.2
abbrev q_ol (q : CQ) : Nat := q.2.2.2.2.1.1
abbrev q_kp (q : CQ) : Nat := q.2.2.2.2.1.2
abbrev q_sv (q : CQ) : Nat → Int32 := q.2.2.2.2.2.1
abbrev q_Q (q : CQ) : Nat → Hr := q.2.2.2.2.2.2
def coF (ab im : Nat) (rk ro : Int32) : List Value := [.ref (ab + 1), .int (nI im), .ref (ab + 2), .ref (ab + 4), .int rk, .int ro, .ref (ab + 50), .ref (ab + 92), .ref (ab + 134), .ref (ab + 556), .ref (ab + 557)]
def hh (ab i : Nat) : Nat := if i = 0 then ab + 5 else if i = 1 then ab + 50 else if i = 2 then ab + 92 else if i < 13 then ab + 136 + 42 * (i - 3) else ab + 558 + 42 * (i - 13)
def CA (Γ : Gm) (ab n : Nat) (S E : Hp) (q : CQ) : Prop :=
  E ab = some (.inr (10, coF ab (q_im q) (q_rk q) (q_ro q))) ∧
  E (ab + 1) = some (.inl (gA Γ 1, 600, .inl (q_inp q))) ∧
  SB Γ E (ab + 2) (q_ov q) (q_oc q) (q_ob q) (q_om q) ∧
  E (ab + 4) = some (.inr (8, prF (ab + 4) (ab + 1) (q_t q))) ∧
  E (ab + 47) = some (.inr (9, tkF Γ (ab + 1) (ab + 48) (q_te q) (q_t q).2.2.1 (q_t q).2.2.2.1 (q_t q).2.2.2.2)) ∧
  SB Γ E (ab + 48) (q_lv q) (q_lc q) (q_lb q) (q_lm q) ∧
  E (ab + 134) = some (.inr (5, [.ref (ab + 135), .int (nI (q_ol q)), .int (nI (q_kp q))])) ∧
  E (ab + 135) = some (.inl (gA Γ 6, 10, .inr (.inr (.inr (.inr (fun k => some (ab + 136 + 42 * k))))))) ∧
  E (ab + 556) = some (.inl (gA Γ 6, 2, .inr (.inr (.inr (.inr (fun k => some (ab + 558 + 42 * k))))))) ∧
  E (ab + 557) = some (.inl (gA Γ 2, 2, .inl (q_sv q))) ∧
  (∀ i, i < 15 → HAt Γ E (hh ab i) ((q_Q q) i)) ∧
  (∀ a v, S a = some v → E a = some v ∧ ab + 642 ≤ a ∧ a < n ∧ a ≠ (q_lv q) ∧ a ≠ (q_ov q)) ∧
  ab + 642 ≤ n ∧ ((q_lv q) = ab + 49 ∨ ab + 642 ≤ (q_lv q)) ∧ ((q_ov q) = ab + 3 ∨ ab + 642 ≤ (q_ov q)) ∧ (q_lv q) ≠ (q_ov q) ∧ (q_lv q) < n ∧ (q_ov q) < n
/-- elsewhere nothing has changed -/
def Frm (ab n lv ov : Nat) (E E2 : Hp) : Prop := ∀ a, a < n → ¬ (ab ≤ a ∧ a < ab + 642) → a ≠ lv → a ≠ ov → E2 a = E a
variable {Γ : Gm} {ab n i : Nat} {S E : Hp} {q : CQ}
theorem hh_in (hi : i < 15) : ab + 5 ≤ hh ab i ∧ hh ab i + 42 ≤ ab + 642 := by
  unfold hh; repeat' split
  all_goals omega
theorem hh_apt {j : Nat} (hi : i < 15) (hj : j < 15) (hne : i ≠ j) : Apt (hh ab i) (hh ab j) := by
  unfold Apt hh; repeat' split
  all_goals omega
/-- the text that a new object reads -/
def ftB : List Int32 := (gstrs.getD 1 ("", 0, "", [])).2.2.2
def ftF (i : Nat) : Nat → Int32 := fun j => if j < i then ftB.getD j 0 else nI 0
theorem ftB_7 : ∀ j, j < 143 → ∃ l, l < 128 ∧ ftB.getD j 0 = nI l := by
  have h : ∀ j, j < 143 → (ftB.getD j 0).toNatClampNeg < 128 ∧ ftB.getD j 0 = nI (ftB.getD j 0).toNatClampNeg := by decide +kernel
  exact fun j hj => ⟨_, h j hj⟩
theorem ftF_s (i : Nat) : upd (ftF i) i (ftB.getD i 0) = ftF (i + 1) := by
  funext j; unfold upd ftF
  by_cases e : j = i
  · subst e; rw [if_pos rfl, if_pos (by omega)]
  · by_cases h : j < i
    · rw [if_neg e, if_pos h, if_pos (by omega)]
    · rw [if_neg e, if_neg h, if_neg (by omega)]
/-- the area in the making: i saved houses -/
def CI (Γ : Gm) (ab i : Nat) (inp : Nat → Int32) (E1 E0 : Hp) : Prop :=
  E1 ab = some (.inr (10, coF ab 0 (nI 0) (-1))) ∧ E1 (ab + 1) = some (.inl (gA Γ 1, 600, .inl inp)) ∧ SB Γ E1 (ab + 2) (ab + 3) 16 (fun _ => nI 0) 0 ∧
  E1 (ab + 4) = some (.inr (8, prF (ab + 4) (ab + 1) (0, -1, 0, 0, 0))) ∧ E1 (ab + 47) = some (.inr (9, tkF Γ (ab + 1) (ab + 48) 0 0 0 0)) ∧ SB Γ E1 (ab + 48) (ab + 49) 16 (fun _ => nI 0) 0 ∧
  E1 (ab + 134) = some (.inr (5, [.ref (ab + 135), .int (nI 0), .int (nI 0)])) ∧ E1 (ab + 135) = some (.inl (gA Γ 6, 10, .inr (.inr (.inr (.inr (fun k => some (ab + 136 + 42 * k))))))) ∧
  E1 (ab + 557) = some (.inl (gA Γ 2, 2, .inl (fun _ => nI 0))) ∧ (∀ j, j < 13 + i → HAt Γ E1 (hh ab j) (R0 Γ)) ∧ ∀ a, a < ab → E1 a = E0 a
theorem SB.of {E2 : Hp} {a v cap cnt : Nat} {b : Nat → Int32} (h : SB Γ E a v cap b cnt) (h1 : E2 a = E a) (h2 : E2 v = E v) : SB Γ E2 a v cap b cnt := by
  obtain ⟨⟨ml, g1⟩, g2, g3⟩ := h
  exact ⟨⟨ml, h1.trans g1⟩, h2.trans g2, g3⟩
/-- other cells than the input and the list of saved houses -/
theorem CI.of {inp inp2 : Nat → Int32} {E1 E2 E0 : Hp} (h : CI Γ ab i inp E1 E0) (hi : i ≤ 2) (hI : E2 (ab + 1) = some (.inl (gA Γ 1, 600, .inl inp2))) (hs : ∀ a, a ≠ ab + 1 → a ≠ ab + 556 → a < ab + 558 + 42 * i → E2 a = E1 a) : CI Γ ab i inp2 E2 E0 := by
  obtain ⟨h1, h2, h3, h4, h5, h6, h7, h8, h9, h10, h11⟩ := h
  refine ⟨(hs _ (by omega) (by omega) (by omega)).trans h1, hI, h3.of (hs _ (by omega) (by omega) (by omega)) (hs _ (by omega) (by omega) (by omega)), (hs _ (by omega) (by omega) (by omega)).trans h4, (hs _ (by omega) (by omega) (by omega)).trans h5, h6.of (hs _ (by omega) (by omega) (by omega)) (hs _ (by omega) (by omega) (by omega)), (hs _ (by omega) (by omega) (by omega)).trans h7, (hs _ (by omega) (by omega) (by omega)).trans h8, (hs _ (by omega) (by omega) (by omega)).trans h9, fun j hj k hk => ?_, fun a ha => (hs _ (by omega) (by omega) (by omega)).trans (h11 a ha)⟩
  have hr : hh ab j + k ≠ ab + 1 ∧ hh ab j + k ≠ ab + 556 ∧ hh ab j + k < ab + 558 + 42 * i := by
    unfold hh; repeat' split
    all_goals omega
  exact (hs _ hr.1 hr.2.1 hr.2.2).trans (h10 j hj k hk)
end GAREA
