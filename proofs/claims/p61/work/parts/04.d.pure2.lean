section GPURE2
def avA (A : Nat → Nat → Int32) (o a : Nat → Int32) : Nat → Nat → Int32 := fun j => if j = 7 then o else if j = 6 then a else A j
theorem avA_0 {A : Nat → Nat → Int32} {f : Nat → Int32} {c : Nat} : avA A (onU f (A 7) c 0) (avU f (A 6) c 0) = A := by
  funext j; unfold avA
  by_cases h : j = 7
  · subst h; rw [if_pos rfl]; funext q; unfold onU; rw [if_neg (by omega)]
  · by_cases h2 : j = 6
    · subst h2; rw [if_neg h, if_pos rfl]; funext q; unfold avU; rw [if_neg (by omega)]
    · rw [if_neg h, if_neg h2]
theorem avA_id {A : Nat → Nat → Int32} : avA A (A 7) (A 6) = A := by
  funext j; unfold avA; split
  · subst_vars; rfl
  · split
    · subst_vars; rfl
    · rfl
theorem avA_av {A : Nat → Nat → Int32} {o a o2 a2 : Nat → Int32} : avA (avA A o a) o2 a2 = avA A o2 a2 := by
  funext j; unfold avA; split
  · rfl
  · split <;> rfl
theorem updA_7 {A : Nat → Nat → Int32} {o a g : Nat → Int32} : updA (avA A o a) 7 g = avA A g a := by
  funext j; unfold avA updA
  by_cases h : j = 7
  · subst h; simp
  · simp [h]
theorem updA_6 {A : Nat → Nat → Int32} {o a g : Nat → Int32} : updA (avA A o a) 6 g = avA A o g := by
  funext j; unfold avA updA
  by_cases h : j = 6
  · subst h; simp
  · simp [h]
theorem slpF_eq {f a o : Nat → Int32} {k φ : Nat} (h : f (13 + 16 * k) = nI φ) (h5 : φ < 5) : slpF f a o k = if o φ < nI 2 then -1 else (far (rw5 f k) (fun v => a (5 * φ + v)) 5).1 := by
  unfold slpF; rw [h, nI_clamp (by omega)]
theorem gon_7 {f : Nat → Int32} {k c m : Nat} (hc : f 7 = nI c) (h0 : 0 < c) : shf (gon2 f k) (13 + 16 * k) m 7 = nI (c - 1) := by
  unfold shf; rw [if_neg (by omega)]
  unfold gon2; rw [pk_us]
  unfold gon1; rw [pk_un (by omega), hc]
  exact pk_sub h0
theorem must_t {f : Nat → Int32} {k : Nat} : MustB f k = true ↔ (f (13 + 16 * k + 1) < 0 ∧ f 1 < dst (rw5 f k) (la5 f) 5 ∧ ¬ dif (rw5 f k) (la5 f) 5 ≤ 1) := by
  unfold MustB; simp [and_assoc]
theorem tch_f {f : Nat → Int32} {k : Nat} (h : f (13 + 16 * k + 1) < 0 ∨ (far (rw5 f k) (la5 f) 5).1 = -1) : tchF f k = f := by unfold tchF; rw [if_pos h]
theorem nI_nm1 {v : Nat} (h : v < 5) : ¬ nI v = -1 := by
  have : v = 0 ∨ v = 1 ∨ v = 2 ∨ v = 3 ∨ v = 4 := by omega
  rcases this with rfl | rfl | rfl | rfl | rfl <;> decide +kernel
theorem tch_t {f : Nat → Int32} {k v : Nat} (h0 : ¬ f (13 + 16 * k + 1) < 0) (hv : v < 5) (h : (far (rw5 f k) (la5 f) 5).1 = nI v) : tchF f k = upd (mvF f (13 + 16 * k + 5 + v) (f (2 + v))) (13 + 16 * k + 2) (mvF f (13 + 16 * k + 5 + v) (f (2 + v)) (13 + 16 * k + 2) + nI 1) := by
  unfold tchF; rw [h, if_neg (fun z => z.elim h0 (nI_nm1 hv)), nI_clamp (by omega)]
theorem din_f {f a o : Nat → Int32} {k : Nat} (h : slpF f a o k = -1) : dinF f a o k = f := by unfold dinF; rw [if_pos h]
theorem din_t {f a o : Nat → Int32} {k v φ : Nat} (hf : f (13 + 16 * k) = nI φ) (hφ : φ < 5) (hv : v < 5) (h : slpF f a o k = nI v) : dinF f a o k = upd (mvF f (13 + 16 * k + 5 + v) (a (5 * φ + v))) (13 + 16 * k + 3) (mvF f (13 + 16 * k + 5 + v) (a (5 * φ + v)) (13 + 16 * k + 3) + nI 1) := by
  unfold dinF; rw [h, if_neg (nI_nm1 hv), nI_clamp (by omega), hf, nI_clamp (by omega)]
end GPURE2
