section GPURE
/-- a truth value as the machine has it -/
def bi (p : Prop) [Decidable p] : Int32 := if p then nI 1 else nI 0
theorem bi_t {p : Prop} [Decidable p] (h : p) : bi p = nI 1 := if_pos h
theorem bi_f {p : Prop} [Decidable p] (h : ¬ p) : bi p = nI 0 := if_neg h
theorem bi_nar {p : Prop} [Decidable p] : narrow .boolean (.int (bi p)) = .int (bi p) := by
  by_cases h : p
  · rw [bi_t h]; decide +kernel
  · rw [bi_f h]; decide +kernel
theorem bi_0 {p : Prop} [Decidable p] (h : bi p = 0) : ¬ p := fun z => by rw [bi_t z] at h; exact absurd h (by decide +kernel)
theorem bi_n0 {p : Prop} [Decidable p] (h : ¬ bi p = 0) : p := Classical.byContradiction fun z => h (by rw [bi_f z]; rfl)
def iabs (v : Int32) : Int32 := if v < 0 then -v else v
/-- how many of the first k lodgers of the row f live on a floor, but for one -/
def cntOn (f : Nat → Int32) (fl but : Int32) : Nat → Nat
  | 0 => 0
  | k + 1 => cntOn f fl but k + (if ¬ nI k = but ∧ f (13 + 16 * k) = fl then 1 else 0)
theorem cntOn_le (f : Nat → Int32) (fl but : Int32) : ∀ k, cntOn f fl but k ≤ k
  | 0 => Nat.le_refl 0
  | k + 1 => by have := cntOn_le f fl but k; rw [cntOn]; split <;> omega
def cntA (f : Nat → Int32) (fl : Int32) : Nat → Nat
  | 0 => 0
  | k + 1 => cntA f fl k + (if f (13 + 16 * k) = fl then 1 else 0)
theorem cntA_le (f : Nat → Int32) (fl : Int32) : ∀ k, cntA f fl k ≤ k
  | 0 => Nat.le_refl 0
  | k + 1 => by have := cntA_le f fl k; rw [cntA]; split <;> omega
def sumA (f : Nat → Int32) (fl : Int32) (v : Nat) : Nat → Int32
  | 0 => nI 0
  | k + 1 => sumA f fl v k + (if f (13 + 16 * k) = fl then f (13 + 16 * k + 5 + v) else nI 0)
def avgF (f : Nat → Int32) (fl : Int32) (v c : Nat) : Int32 := if cntA f fl c = 0 then nI 0 else sumA f fl v c / nI (cntA f fl c)
/-- the distance of the first n places -/
def dst (g h : Nat → Int32) : Nat → Int32
  | 0 => nI 0
  | v + 1 => dst g h v + iabs (g v - h v)
/-- how many of the first n places differ -/
def dif (g h : Nat → Int32) : Nat → Nat
  | 0 => 0
  | v + 1 => dif g h v + (if g v = h v then 0 else 1)
theorem dif_le (g h : Nat → Int32) : ∀ k, dif g h k ≤ k
  | 0 => Nat.le_refl 0
  | k + 1 => by have := dif_le g h k; rw [dif]; split <;> omega
/-- the place that differs most, and by how much -/
def far (g h : Nat → Int32) : Nat → Int32 × Int32
  | 0 => (-1, nI 0)
  | v + 1 => (if iabs (g v - h v) ≤ (far g h v).2 then (far g h v).1 else nI v, if iabs (g v - h v) ≤ (far g h v).2 then (far g h v).2 else iabs (g v - h v))
theorem far_p {g h : Nat → Int32} {v : Nat} (hc : iabs (g v - h v) ≤ (far g h v).2) : far g h (v + 1) = far g h v := by rw [far, if_pos hc, if_pos hc]
theorem far_n {g h : Nat → Int32} {v : Nat} (hc : ¬ iabs (g v - h v) ≤ (far g h v).2) : far g h (v + 1) = (nI v, iabs (g v - h v)) := by rw [far, if_neg hc, if_neg hc]
theorem far_or (g h : Nat → Int32) : ∀ n, (far g h n).1 = -1 ∨ ∃ v, v < n ∧ (far g h n).1 = nI v
  | 0 => Or.inl rfl
  | n + 1 => by
    rw [far]
    by_cases hc : iabs (g n - h n) ≤ (far g h n).2
    · rcases far_or g h n with z | ⟨v, hv, z⟩
      · exact Or.inl (by simp only [if_pos hc]; exact z)
      · exact Or.inr ⟨v, by omega, by simp only [if_pos hc]; exact z⟩
    · exact Or.inr ⟨n, by omega, if_neg hc⟩
abbrev rw5 (f : Nat → Int32) (k : Nat) : Nat → Int32 := fun v => f (13 + 16 * k + 5 + v)
abbrev la5 (f : Nat → Int32) : Nat → Int32 := fun v => f (2 + v)
/-- who must go -/
def Must (f : Nat → Int32) (k : Nat) : Prop := f (13 + 16 * k + 1) < 0 ∧ f 1 < dst (rw5 f k) (la5 f) 5 ∧ ¬ dif (rw5 f k) (la5 f) 5 ≤ 1
def MustB (f : Nat → Int32) (k : Nat) : Bool := decide (f (13 + 16 * k + 1) < 0) && decide (f 1 < dst (rw5 f k) (la5 f) 5) && !decide (dif (rw5 f k) (la5 f) 5 ≤ 1)
/-- one place moves by one towards a goal -/
def mvF (f : Nat → Int32) (p : Nat) (t : Int32) : Nat → Int32 := upd f p (f p + (if f p < t then nI 1 else -1))
/-- rent of lodger k -/
def chg1 (f : Nat → Int32) (k : Nat) : Nat → Int32 := upd f (13 + 16 * k + 1) (f (13 + 16 * k + 1) - (f 0 + nI 5 * f (13 + 16 * k)))
def chgF (f : Nat → Int32) (k : Nat) : Nat → Int32 := upd (chg1 f k) 11 (chg1 f k 11 + (f 0 + nI 5 * f (13 + 16 * k)))
/-- the lesson of lodger k -/
def tchF (f : Nat → Int32) (k : Nat) : Nat → Int32 :=
  if f (13 + 16 * k + 1) < 0 ∨ (far (rw5 f k) (la5 f) 5).1 = -1 then f
  else upd (mvF f (13 + 16 * k + 5 + (far (rw5 f k) (la5 f) 5).1.toNatClampNeg) (f (2 + (far (rw5 f k) (la5 f) 5).1.toNatClampNeg))) (13 + 16 * k + 2) (mvF f (13 + 16 * k + 5 + (far (rw5 f k) (la5 f) 5).1.toNatClampNeg) (f (2 + (far (rw5 f k) (la5 f) 5).1.toNatClampNeg)) (13 + 16 * k + 2) + nI 1)
/-- in which place lodger k slips, with the averages a and the crowds o -/
def slpF (f a o : Nat → Int32) (k : Nat) : Int32 := if o (f (13 + 16 * k)).toNatClampNeg < nI 2 then -1 else (far (rw5 f k) (fun v => a (5 * (f (13 + 16 * k)).toNatClampNeg + v)) 5).1
def dinF (f a o : Nat → Int32) (k : Nat) : Nat → Int32 :=
  if slpF f a o k = -1 then f
  else upd (mvF f (13 + 16 * k + 5 + (slpF f a o k).toNatClampNeg) (a (5 * (f (13 + 16 * k)).toNatClampNeg + (slpF f a o k).toNatClampNeg))) (13 + 16 * k + 3) (mvF f (13 + 16 * k + 5 + (slpF f a o k).toNatClampNeg) (a (5 * (f (13 + 16 * k)).toNatClampNeg + (slpF f a o k).toNatClampNeg)) (13 + 16 * k + 3) + nI 1)
theorem slp_or (f a o : Nat → Int32) (k : Nat) : slpF f a o k = -1 ∨ ∃ v, v < 5 ∧ slpF f a o k = nI v := by
  unfold slpF
  split
  · exact Or.inl rfl
  · exact far_or _ _ 5
/-- crowds and averages, as far as m -/
def onU (f : Nat → Int32) (o : Nat → Int32) (c m : Nat) : Nat → Int32 := fun j => if j < m then nI (cntOn f (nI j) (-1) c) else o j
def avU (f : Nat → Int32) (a : Nat → Int32) (c m : Nat) : Nat → Int32 := fun j => if j < m then avgF f (nI (j / 5)) (j % 5) c else a j
theorem onU_s {f o : Nat → Int32} {c m : Nat} : upd (onU f o c m) m (nI (cntOn f (nI m) (-1) c)) = onU f o c (m + 1) := by
  funext j; unfold upd onU
  by_cases h : j = m
  · subst h; simp
  · by_cases h2 : j < m
    · rw [if_neg h, if_pos h2, if_pos (by omega)]
    · rw [if_neg h, if_neg h2, if_neg (by omega)]
theorem avU_s {f a : Nat → Int32} {c i v : Nat} (hv : v < 5) : upd (avU f a c (5 * i + v)) (5 * i + v) (avgF f (nI i) v c) = avU f a c (5 * i + v + 1) := by
  funext j; unfold upd avU
  by_cases h : j = 5 * i + v
  · subst h
    rw [if_pos rfl, if_pos (by omega), show (5 * i + v) / 5 = i by omega, show (5 * i + v) % 5 = v by omega]
  · by_cases h2 : j < 5 * i + v
    · rw [if_neg h, if_pos h2, if_pos (by omega)]
    · rw [if_neg h, if_neg h2, if_neg (by omega)]
/-- lodger k is gone, of c: rows above move down -/
def shf (f : Nat → Int32) (a m : Nat) : Nat → Int32 := fun j => if a ≤ j ∧ j < a + m then f (j + 16) else f j
theorem shf_0 {f : Nat → Int32} {a : Nat} : shf f a 0 = f := by funext j; unfold shf; rw [if_neg (by omega)]
theorem shf_s {f : Nat → Int32} {a m : Nat} : upd (shf f a m) (a + m) (shf f a m (a + m + 16)) = shf f a (m + 1) := by
  funext j; unfold upd shf
  by_cases h : j = a + m
  · subst h; rw [if_pos rfl, if_neg (by omega), if_pos (by omega)]
  · by_cases h2 : a ≤ j ∧ j < a + m
    · rw [if_neg h, if_pos h2, if_pos (by omega)]
    · rw [if_neg h, if_neg h2, if_neg (by omega)]
def gon1 (f : Nat → Int32) (k : Nat) : Nat → Int32 := upd f 12 (f 12 + f (13 + 16 * k + 1))
def gon2 (f : Nat → Int32) (k : Nat) : Nat → Int32 := upd (gon1 f k) 7 (gon1 f k 7 - nI 1)
def gonF (f : Nat → Int32) (k c : Nat) : Nat → Int32 := shf (gon2 f k) (13 + 16 * k) (16 * (c - 1 - k))
/-- who is watched, and with which balance he left: behind the leaving of lodger k -/
def trkF (I f : Nat → Int32) (k : Nat) : Nat → Int32 := if I 11 = nI k then upd (upd I 11 (-1)) 12 (f (13 + 16 * k + 1)) else if nI k < I 11 then upd I 11 (I 11 - nI 1) else I
end GPURE
