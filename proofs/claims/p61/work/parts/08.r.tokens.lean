/-! the law's text, read (pure): tokens -/
noncomputable section GTKS
variable {inp f g J : Nat → Int32} {e p q fr m k0 f0 v ft fa c n lo hi : Nat}
theorem spn_run {c : Nat → Bool} : ∀ (m M p : Nat), (∀ i, i < m → c (p + i) = true) → m ≤ M → (m = M ∨ ¬ c (p + m) = true) → spn c M p = p + m
  | 0, M, p, _, _, h3 => by
    rcases h3 with z | z
    · subst z; rfl
    · exact spn_f z
  | m + 1, 0, p, _, h2, _ => absurd h2 (by omega)
  | m + 1, M + 1, p, h1, h2, h3 => by
    rw [spn_t (show c p = true from h1 0 (by omega)), spn_run m M (p + 1) (fun i hi => by rw [show p + 1 + i = p + (i + 1) by omega]; exact h1 (i + 1) (by omega)) (by omega) ?_]
    · omega
    · rcases h3 with z | z
      · exact Or.inl (by omega)
      · exact Or.inr (by rw [show p + 1 + m = p + (m + 1) by omega]; exact z)
theorem nI_in0 {a b : Nat} (ha : a < 2 ^ 31) (hb : b < 2 ^ 31) (h : a ≠ b) : ¬ nI a = nI b := fun z => h ((nI_eq ha hb).mp z)
/-- letters, figures and what is neither -/
theorem lt_of {a : Nat} (h : inp p = nI a) (h1 : 97 ≤ a) (h2 : a ≤ 122) : ltB inp p = true := ltB_t.mpr ⟨by rw [h]; exact nI_le h1 (by omega), by rw [h]; exact nI_le h2 (by omega)⟩
theorem dg_of {a : Nat} (h : inp p = nI a) (h1 : 48 ≤ a) (h2 : a ≤ 57) : dgB inp p = true := dgB_t.mpr ⟨by rw [h]; exact nI_le h1 (by omega), by rw [h]; exact nI_le h2 (by omega)⟩
theorem lt_no {a : Nat} (h : inp p = nI a) (ha : a < 97) : ¬ ltB inp p = true := fun z => by
  have := (ltB_t.mp z).1
  rw [h, nI_leI (by omega) (by omega)] at this; omega
theorem dg_no {a : Nat} (h : inp p = nI a) (ha : a < 48 ∨ 57 < a) (h3 : a < 2 ^ 31) : ¬ dgB inp p = true := fun z => by
  have h1 := (dgB_t.mp z).1
  have h2 := (dgB_t.mp z).2
  rw [h, nI_leI (by omega) (by omega)] at h1
  rw [h, nI_leI (by omega) (by omega)] at h2; omega
theorem sp_no {a : Nat} (h : inp p = nI a) (h1 : a ≠ 32) (h2 : a ≠ 10) (ha : a < 2 ^ 31) : ¬ spB inp p = true := fun z => by
  rcases spB_t.mp z with y | y
  · rw [h] at y; exact nI_in0 ha (by omega) h1 y
  · rw [h] at y; exact nI_in0 ha (by omega) h2 y
theorem sp_yes (h : inp p = nI 32) : spB inp p = true := spB_t.mpr (Or.inl h)
theorem dg_lt (h : dgB inp p = true) : ¬ ltB inp p = true := fun z => by
  have h1 := (dgB_t.mp h).2
  have h2 := (ltB_t.mp z).1
  have := Int32.le_trans h2 h1
  rw [nI_leI (by omega) (by omega)] at this; omega
theorem dg_sp (h : dgB inp p = true) : ¬ spB inp p = true := fun z => by
  have h1 := (dgB_t.mp h).1
  rcases spB_t.mp z with y | y
  · rw [y, nI_leI (by omega) (by omega)] at h1; omega
  · rw [y, nI_leI (by omega) (by omega)] at h1; omega
theorem lt_sp (h : ltB inp p = true) : ¬ spB inp p = true := fun z => by
  have h1 := (ltB_t.mp h).1
  rcases spB_t.mp z with y | y
  · rw [y, nI_leI (by omega) (by omega)] at h1; omega
  · rw [y, nI_leI (by omega) (by omega)] at h1; omega
theorem sk1 (h : inp p = nI 32) (h2 : ¬ spB inp (p + 1) = true) (he : p + 1 ≤ e) : skP inp e p = p + 1 := by
  unfold skP
  exact spn_run 1 (e - p) p (fun i hi => by rw [show p + i = p by omega]; exact sp_yes h) (by omega) (Or.inr h2)
theorem sk0 (h : ¬ spB inp p = true) : skP inp e p = p := spn_f h
theorem ske : skP inp e e = e := by unfold skP; rw [Nat.sub_self]; rfl
/-- the next token -/
theorem nxW (hm : 0 < m) (hs : skP inp e p = fr) (hg : (k0 ≠ 1 ∧ k0 ≠ 2) ∨ p < fr) (hl : ∀ i, i < m → ltB inp (fr + i) = true) (he : fr + m ≤ e) (hend : fr + m = e ∨ ¬ ltB inp (fr + m) = true) : nxP inp e (k0, f0, p, v, ft, fa) = (1, fr, fr + m, v, ft, fa) := by
  have h1 : spn (ltB inp) (e - fr) fr = fr + m := spn_run m (e - fr) fr hl (by omega) (by rcases hend with z | z; exact Or.inl (by omega); exact Or.inr z)
  have h2 : (ndB k0 && decide (fr = p)) = false := by
    unfold ndB
    rcases hg with z | z
    · rw [decide_eq_false (fun y => by omega), Bool.false_and]
    · rw [decide_eq_false (show ¬ fr = p by omega), Bool.and_false]
  unfold nxP; rw [op_eq]
  show tkP inp e (skP inp e p) (ndB k0 && decide (skP inp e p = p)) v ft fa = _
  rw [hs, h2]
  unfold tkP
  rw [if_neg (by omega), if_pos (show ltB inp fr = true from hl 0 hm), h1, if_neg (by decide)]
theorem nxN (hm : 0 < m) (hm3 : m ≤ 3) (hs : skP inp e p = fr) (hg : (k0 ≠ 1 ∧ k0 ≠ 2) ∨ p < fr) (hl : ∀ i, i < m → dgB inp (fr + i) = true) (he : fr + m ≤ e) (hend : fr + m = e ∨ ¬ dgB inp (fr + m) = true) : nxP inp e (k0, f0, p, v, ft, fa) = (2, fr, fr + m, vlN inp fr m, ft, fa) := by
  have h1 : spn (dgB inp) (e - fr) fr = fr + m := spn_run m (e - fr) fr hl (by omega) (by rcases hend with z | z; exact Or.inl (by omega); exact Or.inr z)
  have h2 : (ndB k0 && decide (fr = p)) = false := by
    unfold ndB
    rcases hg with z | z
    · rw [decide_eq_false (fun y => by omega), Bool.false_and]
    · rw [decide_eq_false (show ¬ fr = p by omega), Bool.and_false]
  have h4 : lo3 m = m := by unfold lo3; split <;> omega
  unfold nxP; rw [op_eq]
  show tkP inp e (skP inp e p) (ndB k0 && decide (skP inp e p = p)) v ft fa = _
  rw [hs, h2]
  unfold tkP
  rw [if_neg (by omega), if_neg (show ¬ ltB inp fr = true from dg_lt (hl 0 hm)), if_pos (show dgB inp fr = true from hl 0 hm), h1, show fr + m - fr = m by omega, if_neg (fun z => by rcases z with y | y; exact Bool.noConfusion y; omega), h4]
theorem nxS (h : inp p = nI 59) (he : p < e) : nxP inp e (k0, f0, p, v, ft, fa) = (3, p, p + 1, v, ft, fa) := by
  unfold nxP; rw [op_eq]
  show tkP inp e (skP inp e p) (ndB k0 && decide (skP inp e p = p)) v ft fa = _
  rw [sk0 (sp_no h (by decide) (by decide) (by decide))]
  unfold tkP
  rw [if_neg (by omega), if_neg (lt_no h (by decide)), if_neg (dg_no h (by omega) (by decide)), if_pos h]
theorem nxE : nxP inp e (k0, f0, e, v, ft, fa) = (0, e, e, v, ft, fa) := by
  unfold nxP; rw [op_eq]
  show tkP inp e (skP inp e e) (ndB k0 && decide (skP inp e e = e)) v ft fa = _
  rw [ske]; unfold tkP; rw [if_pos rfl]
/-- a space and a number n, from p to q -/
def Nm (inp : Nat → Int32) (p q n : Nat) : Prop := ∃ m, 0 < m ∧ m ≤ 3 ∧ q = p + 1 + m ∧ inp p = nI 32 ∧ (∀ i, i < m → dgB inp (p + 1 + i) = true) ∧ vlN inp (p + 1) m = n
/-- letters of a word -/
def Wd (inp : Nat → Int32) (p : Nat) (w : List Nat) : Prop := ∀ i, i < w.length → inp (p + i) = nI (w.getD i 0)
/-- j numbers up to 9 -/
def Nms (inp : Nat → Int32) : Nat → Nat → Nat → Prop
  | 0, p, q => q = p
  | j + 1, p, q => ∃ r n, n ≤ 9 ∧ Nms inp j p r ∧ Nm inp r q n
theorem Nm.lt (h : Nm inp p q n) : p < q ∧ q ≤ p + 4 := by obtain ⟨m, h1, h2, rfl, -⟩ := h; omega
theorem Nms.lt : ∀ {j p q : Nat}, Nms inp j p q → p ≤ q ∧ q ≤ p + 4 * j
  | 0, p, q, h => by
    have : q = p := h
    omega
  | j + 1, p, q, ⟨r, n, h1, h2, h3⟩ => by have a := h2.lt; have b := h3.lt; omega
theorem Nm.of (h : ∀ j, j < q → g j = inp j) (hn : Nm inp p q n) : Nm g p q n := by
  obtain ⟨m, h1, h2, rfl, h4, h5, h6⟩ := hn
  refine ⟨m, h1, h2, rfl, (h _ (by omega)).trans h4, fun i hi => ?_, ?_⟩
  · have := h5 i hi
    unfold dgB at this ⊢
    rw [h _ (by omega)]; exact this
  · have : ∀ k, k ≤ m → vlN g (p + 1) k = vlN inp (p + 1) k := fun k => by
      induction k with
      | zero => intro _; rfl
      | succ k ih => intro hk; rw [vlN, vlN, ih (by omega), h _ (by omega)]
    rw [this m (Nat.le_refl m)]; exact h6
theorem Nms.of : ∀ {j p q : Nat}, (∀ i, i < q → g i = inp i) → Nms inp j p q → Nms g j p q
  | 0, _, _, _, h => h
  | j + 1, p, q, he, ⟨r, n, h1, h2, h3⟩ => ⟨r, n, h1, h2.of (fun i hi => he i (by have := h3.lt; omega)), h3.of he⟩
theorem Wd.of {w : List Nat} (h : ∀ j, j < p + w.length → g j = inp j) (hw : Wd inp p w) : Wd g p w := fun i hi => (h _ (by omega)).trans (hw i hi)
/-- what a number is followed by -/
def Fo (inp : Nat → Int32) (e q : Nat) : Prop := q = e ∨ (q < e ∧ (inp q = nI 32 ∨ inp q = nI 59))
theorem Fo.dg (h : Fo inp e q) : q ≤ e ∧ (q = e ∨ ¬ dgB inp q = true) := by
  rcases h with z | ⟨z, y | y⟩
  · exact ⟨by omega, Or.inl z⟩
  · exact ⟨by omega, Or.inr (dg_no y (by omega) (by decide))⟩
  · exact ⟨by omega, Or.inr (dg_no y (by omega) (by decide))⟩
theorem nxM (h : Nm inp p q n) (hf : Fo inp e q) : nxP inp e (k0, f0, p, v, ft, fa) = (2, p + 1, q, n, ft, fa) := by
  obtain ⟨m, h1, h2, rfl, h4, h5, rfl⟩ := h
  have h9 := hf.dg
  exact nxN h1 h2 (sk1 h4 (dg_sp (h5 0 h1)) (by omega)) (Or.inr (Nat.lt_succ_self p)) h5 h9.1 h9.2
theorem Nm.fo (h : Nm inp p q n) (he : q ≤ e) : Fo inp e p := Or.inr ⟨by have := h.lt; omega, Or.inl (by obtain ⟨m, h1, h2, h3, h4, -⟩ := h; exact h4)⟩
end GTKS
