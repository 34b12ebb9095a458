/-! names (pure) -/
section GNAM
theorem spn_is {c : Nat → Bool} : ∀ (m p q : Nat), (∀ i, p ≤ i → i < q → c i = true) → (q = p + m ∨ ¬ c q = true) → p ≤ q → q ≤ p + m → spn c m p = q
  | 0, p, q, _, _, h3, h4 => by rw [spn]; omega
  | m + 1, p, q, h1, h2, h3, h4 => by
    rw [spn]
    by_cases e : p = q
    · subst e
      rw [if_neg (h2.resolve_left (by omega))]
    · rw [if_pos (h1 p (Nat.le_refl p) (by omega))]
      exact spn_is m (p + 1) q (fun i hi => h1 i (by omega)) (by rcases h2 with h2 | h2; exact Or.inl (by omega); exact Or.inr h2) (by omega) (by omega)
theorem let_ne {q : Nat} (h : 97 ≤ q) (h2 : q ≤ 122) : ¬ nI q = 0 := nI_ne0 (by omega) (by omega)
variable {Γ : Gm} {S : Hp} {f inp : Nat → Int32} {k N : Nat} {b : Nat → Int32}
theorem nam_len (h4 : N ≤ 6) (h5 : ∀ i, i < N → b i = f (13 + 16 * k + 10 + i) ∧ ∃ q, 97 ≤ q ∧ q ≤ 122 ∧ f (13 + 16 * k + 10 + i) = nI q) (h6 : ∀ i, N ≤ i → i < 6 → f (13 + 16 * k + 10 + i) = nI 0) : lenN f k = N := by
  unfold lenN
  refine spn_is 6 0 N (fun i _ hi => ltzB_t.mpr ?_) ?_ (Nat.zero_le _) (by omega)
  · obtain ⟨-, q, q1, q2, q3⟩ := h5 i hi
    rw [q3]; exact let_ne q1 q2
  · by_cases e : N = 6
    · exact Or.inl (by omega)
    · exact Or.inr (fun z => ltzB_t.mp z (by rw [h6 N (Nat.le_refl N) (by omega)]; exact nI_0))
theorem nmE_iff {a n : Nat} : ∀ j, nmE inp f k a n j = true ↔ (n ≤ 6 ∧ 0 < n) ∧ ∀ i, i < j → f (13 + 16 * k + 10 + i) = (if i < n then inp (a + i) else nI 0) ∧ (i < n → ¬ inp (a + i) = 0)
  | 0 => by
    rw [nmE]
    exact ⟨fun h => ⟨of_decide_eq_true h, fun i hi => absurd hi (Nat.not_lt_zero i)⟩, fun h => decide_eq_true h.1⟩
  | j + 1 => by
    rw [nmE, Bool.and_eq_true, nmE_iff j]
    constructor
    · rintro ⟨⟨h1, h2⟩, h3⟩
      refine ⟨h1, fun i hi => ?_⟩
      by_cases e : i = j
      · subst e; exact of_decide_eq_true h3
      · exact h2 i (by omega)
    · rintro ⟨h1, h2⟩
      exact ⟨⟨h1, fun i hi => h2 i (by omega)⟩, decide_eq_true (h2 j (by omega))⟩
theorem nam_is {a n : Nat} (h3 : 1 ≤ N) (h4 : N ≤ 6) (h5 : ∀ i, i < N → b i = f (13 + 16 * k + 10 + i) ∧ ∃ q, 97 ≤ q ∧ q ≤ 122 ∧ f (13 + 16 * k + 10 + i) = nI q) (h6 : ∀ i, N ≤ i → i < 6 → f (13 + 16 * k + 10 + i) = nI 0) : (n = N ∧ ∀ i, i < N → inp (a + i) = b i) ↔ nmE inp f k a n 6 = true := by
  rw [nmE_iff]
  constructor
  · rintro ⟨rfl, h⟩
    refine ⟨by omega, fun i hi => ?_⟩
    by_cases e : i < n
    · obtain ⟨z, q, q1, q2, q3⟩ := h5 i e
      rw [if_pos e, h i e, z]
      exact ⟨rfl, fun _ => by rw [q3]; exact let_ne q1 q2⟩
    · rw [if_neg e]
      exact ⟨h6 i (by omega) hi, fun z => absurd z e⟩
  · rintro ⟨⟨g1, g2⟩, g3⟩
    have e : n = N := by
      by_cases lt : n < N
      · obtain ⟨-, q, q1, q2, q3⟩ := h5 n lt
        have := (g3 n (by omega)).1
        rw [if_neg (Nat.lt_irrefl n), q3] at this
        exact absurd (this.trans nI_0) (let_ne q1 q2)
      · by_cases gt : N < n
        · have h := g3 N (by omega)
          rw [if_pos gt, h6 N (Nat.le_refl N) (by omega)] at h
          exact absurd (h.1.symm.trans nI_0) (h.2 gt)
        · omega
    subst e
    refine ⟨rfl, fun i hi => ?_⟩
    have := (g3 i (by omega)).1
    rw [if_pos hi] at this
    rw [(h5 i hi).1, this]
theorem nam_a7 {l : Nat → Int32} (h5 : ∀ i, i < N → b i = l i ∧ ∃ q, 97 ≤ q ∧ q ≤ 122 ∧ l i = nI q) : A7 b N := fun j hj => by
  obtain ⟨z, q, q1, q2, q3⟩ := h5 j hj
  exact ⟨q, by omega, z.trans q3⟩
def alB : List Int32 := [97, 98, 99, 100, 101, 102, 103, 104, 105, 106, 107, 108, 109, 110, 111, 112, 113, 114, 115, 116, 117, 118, 119, 120, 121, 122]
theorem al_at : ∀ i, i < 26 → alB.getD i 0 = nI (97 + i) := by decide +kernel
end GNAM
