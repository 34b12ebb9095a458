section GPP5
theorem lod_ok {k c : Nat} (hk : k < c) (hc : c ≤ 12) : nI 0 ≤ nI k ∧ nI k ≤ nI c - nI 1 := by
  rw [pk_sub (by omega)]
  exact ⟨nI_le (by omega) (by omega), nI_le (by omega) (by omega)⟩
theorem rg_ok {a b k : Nat} (h1 : a ≤ k) (h2 : k ≤ b) (hb : b < 2 ^ 31) : nI a ≤ nI k ∧ nI k ≤ nI b := ⟨nI_le h1 (by omega), nI_le h2 hb⟩
/-- the letters of lodger k's name -/
def ltzB (f : Nat → Int32) (k : Nat) (i : Nat) : Bool := decide (¬ f (13 + 16 * k + 10 + i) = 0)
def lenN (f : Nat → Int32) (k : Nat) : Nat := spn (ltzB f k) 6 0
theorem ltzB_t {f : Nat → Int32} {k i : Nat} : ltzB f k i = true ↔ ¬ f (13 + 16 * k + 10 + i) = 0 := by unfold ltzB; simp
theorem lenN_le {f : Nat → Int32} {k : Nat} : lenN f k ≤ 6 := by have := spn_le (ltzB f k) 6 0; unfold lenN; omega
/-- trimming from the right -/
def spr (inp : Nat → Int32) (b : Nat) : Nat → Nat
  | 0 => 0
  | m + 1 => if b < m + 1 ∧ inp m = nI 32 then spr inp b m else m + 1
theorem spr_le (inp : Nat → Int32) (b : Nat) : ∀ m, spr inp b m ≤ m
  | 0 => Nat.le_refl 0
  | m + 1 => by rw [spr]; split; exact Nat.le_trans (spr_le inp b m) (by omega); exact Nat.le_refl _
theorem spr_ge (inp : Nat → Int32) (b : Nat) : ∀ m, b ≤ m → b ≤ spr inp b m
  | 0, h => h
  | m + 1, h => by
    rw [spr]
    by_cases z : b < m + 1 ∧ inp m = nI 32
    · rw [if_pos z]; exact spr_ge inp b m (by omega)
    · rw [if_neg z]; exact h
theorem spr_t {inp : Nat → Int32} {b m : Nat} (h : b < m + 1) (h2 : inp m = nI 32) : spr inp b (m + 1) = spr inp b m := by rw [spr, if_pos ⟨h, h2⟩]
theorem spr_f {inp : Nat → Int32} {b m : Nat} (h : ¬ (b < m ∧ inp (m - 1) = nI 32)) : spr inp b m = m := by
  cases m with
  | zero => rfl
  | succ m => rw [spr]; exact if_neg h
theorem spr_t2 {inp : Nat → Int32} {b j : Nat} (h : b < j) (h2 : inp (j - 1) = nI 32) : spr inp b j = spr inp b (j - 1) := by
  cases j with
  | zero => omega
  | succ j => exact spr_t h h2
def sp32 (inp : Nat → Int32) (p : Nat) : Bool := decide (inp p = nI 32)
theorem sp32_t {inp : Nat → Int32} {p : Nat} : sp32 inp p = true ↔ inp p = nI 32 := by unfold sp32; simp
/-- the lodger whose name the buffer holds -/
def fbN (inp f : Nat → Int32) (m c : Nat) : Int32 := fndF inp f (spn (sp32 inp) m 0) (spr inp (spn (sp32 inp) m 0) m - spn (sp32 inp) m 0) c
/-- the p-th lodger of a floor, from k on, m lodgers left -/
def plF (f : Nat → Int32) (fl : Int32) : Nat → Nat → Nat → Option Nat
  | 0, _, _ => none
  | m + 1, k, p => if f (13 + 16 * k) = fl then (if p = 0 then some k else plF f fl m (k + 1) (p - 1)) else plF f fl m (k + 1) p
theorem plF_0 {f : Nat → Int32} {fl : Int32} {m k p : Nat} (h : f (13 + 16 * k) = fl) (hp : p = 0) : plF f fl (m + 1) k p = some k := by rw [plF, if_pos h, if_pos hp]
theorem plF_1 {f : Nat → Int32} {fl : Int32} {m k p : Nat} (h : f (13 + 16 * k) = fl) (hp : ¬ p = 0) : plF f fl (m + 1) k p = plF f fl m (k + 1) (p - 1) := by rw [plF, if_pos h, if_neg hp]
theorem plF_n {f : Nat → Int32} {fl : Int32} {m k p : Nat} (h : ¬ f (13 + 16 * k) = fl) : plF f fl (m + 1) k p = plF f fl m (k + 1) p := by rw [plF, if_neg h]
/-- rhymes among the first n -/
def rcF (f : Nat → Int32) (k : Nat) : Nat → Nat
  | 0 => 0
  | n + 1 => rcF f k n + (if ¬ n = k ∧ dif (rw5 f n) (rw5 f k) 5 ≤ 1 then 1 else 0)
theorem rcF_le (f : Nat → Int32) (k : Nat) : ∀ n, rcF f k n ≤ n
  | 0 => Nat.le_refl 0
  | n + 1 => by have := rcF_le f k n; rw [rcF]; split <;> omega
/-- the closest among the first n -/
def clF (f : Nat → Int32) (k : Nat) : Nat → Option Nat
  | 0 => none
  | n + 1 => if n = k then clF f k n else match clF f k n with
    | none => some n
    | some b => if dst (rw5 f n) (rw5 f k) 5 < dst (rw5 f b) (rw5 f k) 5 then some n else some b
def oI : Option Nat → Int32
  | none => -1
  | some b => nI b
theorem clF_k {f : Nat → Int32} {k n : Nat} (h : n = k) : clF f k (n + 1) = clF f k n := by rw [clF, if_pos h]
theorem clF_0 {f : Nat → Int32} {k n : Nat} (h : ¬ n = k) (h2 : clF f k n = none) : clF f k (n + 1) = some n := by rw [clF, if_neg h, h2]
theorem clF_t {f : Nat → Int32} {k n b : Nat} (h : ¬ n = k) (h2 : clF f k n = some b) (h3 : dst (rw5 f n) (rw5 f k) 5 < dst (rw5 f b) (rw5 f k) 5) : clF f k (n + 1) = some n := by rw [clF, if_neg h, h2]; exact if_pos h3
theorem clF_f {f : Nat → Int32} {k n b : Nat} (h : ¬ n = k) (h2 : clF f k n = some b) (h3 : ¬ dst (rw5 f n) (rw5 f k) 5 < dst (rw5 f b) (rw5 f k) 5) : clF f k (n + 1) = some b := by rw [clF, if_neg h, h2]; exact if_neg h3
theorem clF_lt {f : Nat → Int32} {k : Nat} : ∀ {n b : Nat}, clF f k n = some b → b < n
  | 0, b, h => by rw [clF] at h; cases h
  | n + 1, b, h => by
    by_cases e : n = k
    · rw [clF_k e] at h
      have := clF_lt h
      omega
    · cases h2 : clF f k n with
      | none => rw [clF_0 e h2] at h; cases h; omega
      | some a =>
        have h9 := clF_lt h2
        by_cases h3 : dst (rw5 f n) (rw5 f k) 5 < dst (rw5 f a) (rw5 f k) 5
        · rw [clF_t e h2 h3] at h; cases h; omega
        · rw [clF_f e h2 h3] at h; cases h; omega
theorem oI_s {o : Option Nat} (h : ¬ oI o = -1) : ∃ b, o = some b := by
  cases o with
  | none => exact absurd rfl h
  | some b => exact ⟨b, rfl⟩
theorem oI_n {f : Nat → Int32} {k n : Nat} (hn : n < 2 ^ 31) (h : oI (clF f k n) = -1) : clF f k n = none := by
  cases h2 : clF f k n with
  | none => rfl
  | some b =>
    rw [h2] at h
    exact absurd h (nI_nm1' (by have := clF_lt h2; omega))
/-- sums over the lodgers -/
def sumD (f : Nat → Int32) : Nat → Int32
  | 0 => nI 0
  | k + 1 => sumD f k + dst (rw5 f k) (la5 f) 5
def cntR (f : Nat → Int32) : Nat → Nat
  | 0 => 0
  | k + 1 => cntR f k + (if dif (rw5 f k) (la5 f) 5 ≤ 1 then 1 else 0)
theorem cntR_le (f : Nat → Int32) : ∀ n, cntR f n ≤ n
  | 0 => Nat.le_refl 0
  | n + 1 => by have := cntR_le f n; rw [cntR]; split <;> omega
/-- taken letters -/
def tkB (f : Nat → Int32) (x : Int32) : Nat → Bool
  | 0 => false
  | k + 1 => tkB f x k || decide (f (13 + 16 * k + 10) = x ∧ lenN f k = 1)
theorem tkB_s {f : Nat → Int32} {x : Int32} {k : Nat} (h : ¬ tkB f x k = true) (h2 : ¬ (f (13 + 16 * k + 10) = x ∧ lenN f k = 1)) : ¬ tkB f x (k + 1) = true := by
  rw [tkB, Bool.or_eq_true]; rintro (z | z)
  · exact h z
  · exact h2 (of_decide_eq_true z)
theorem tkB_i {f : Nat → Int32} {x : Int32} {c : Nat} : ∀ {k : Nat}, k < c → f (13 + 16 * k + 10) = x → lenN f k = 1 → tkB f x c = true := by
  induction c with
  | zero => intro k h; omega
  | succ c ih =>
    intro k h h1 h2
    rw [tkB, Bool.or_eq_true]
    by_cases e : k = c
    · subst e; exact Or.inr (decide_eq_true ⟨h1, h2⟩)
    · exact Or.inl (ih (by omega) h1 h2)
/-- the first free letter from a place on -/
def frL (f : Nat → Int32) (c : Nat) : Nat → Nat → Nat
  | 0, x => x
  | m + 1, x => if tkB f (nI x) c = true then frL f c m (x + 1) else x
theorem frL_t {f : Nat → Int32} {c m x : Nat} (h : tkB f (nI x) c = true) : frL f c (m + 1) x = frL f c m (x + 1) := by rw [frL, if_pos h]
theorem frL_f {f : Nat → Int32} {c m x : Nat} (h : ¬ tkB f (nI x) c = true) : frL f c m x = x := by
  cases m with
  | zero => rfl
  | succ m => rw [frL, if_neg h]
theorem frL_ge {f : Nat → Int32} {c : Nat} : ∀ m x, x ≤ frL f c m x
  | 0, x => Nat.le_refl x
  | m + 1, x => by rw [frL]; split; exact Nat.le_trans (by omega) (frL_ge m (x + 1)); exact Nat.le_refl x
theorem frL_le {f : Nat → Int32} {c : Nat} : ∀ m x, frL f c m x ≤ x + m
  | 0, x => Nat.le_refl x
  | m + 1, x => by rw [frL]; split; exact Nat.le_trans (frL_le m (x + 1)) (by omega); omega
end GPP5
section GDEC
variable {Γ : Gm} {d : Nat} {M : Mr} {P : Po} {X : Px} {pc : Nat} {lv : List (Nat × Value)} {st rest : List Value} {E : Hp} {n kc ks : Nat}
theorem gn_dec {j a : Nat} {lv2 : List (Nat × Value)} (q : Nat) (hq : lv[q]? = some (j, .int (nI a))) (h0 : 0 < a) (hn : j < M.2.2.2.1) (hl : (j, Value.int (nI (a - 1))) :: lv.filter (fun q => !(q.1 == j) && !(q.1 + 1 == j && q.2.category == 2)) = lv2) (dg : decode M.2.2.1 pc = .ok (.iinc j (-1), 3)) (k : G Γ d M P X (pc + 3) lv2 st E n kc ks) : G Γ d M P X pc lv st E n kc ks :=
  g_iinc q hq (show nI a + Int32.ofInt (-1) = nI (a - 1) from by rw [show Int32.ofInt (-1) = -1 from by decide]; exact sb_m1 h0) hn hl dg k
end GDEC
