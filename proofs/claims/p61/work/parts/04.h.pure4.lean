section GPURE4
theorem upd_upd {f : Nat → Int32} {k : Nat} {x y : Int32} : upd (upd f k x) k y = upd f k y := by
  funext j; unfold upd; by_cases h : j = k <;> simp [h]
theorem updA_updA {A : Nat → Nat → Int32} {j : Nat} {g h : Nat → Int32} : updA (updA A j g) j h = updA A j h := by
  funext i; unfold updA; by_cases e : i = j <;> simp [e]
theorem updA_s {A : Nat → Nat → Int32} {j : Nat} {g : Nat → Int32} : updA A j g j = g := if_pos rfl
theorem updA_id {A : Nat → Nat → Int32} {j : Nat} : updA A j (A j) = A := by
  funext i; unfold updA; by_cases e : i = j <;> simp [e]
/-- i places moved down by 205 -/
def dnO (o : Nat → Int32) (i : Nat) : Nat → Int32 := fun j => if j < i then o (j + 205) else o j
theorem dnO_0 {o : Nat → Int32} : dnO o 0 = o := by funext j; unfold dnO; rw [if_neg (by omega)]
theorem dnO_s {o : Nat → Int32} {i : Nat} : upd (dnO o i) (205 + i - 205) (dnO o i (205 + i)) = dnO o (i + 1) := by
  rw [show 205 + i - 205 = i by omega]
  funext j; unfold upd dnO
  by_cases h : j = i
  · subst h; rw [if_pos rfl, if_neg (by omega), if_pos (by omega), Nat.add_comm]
  · by_cases h2 : j < i
    · rw [if_neg h, if_pos h2, if_pos (by omega)]
    · rw [if_neg h, if_neg h2, if_neg (by omega)]
/-- i places of f laid from b on -/
def cpO (o f : Nat → Int32) (b i : Nat) : Nat → Int32 := fun j => if b ≤ j ∧ j < b + i then f (j - b) else o j
theorem cpO_0 {o f : Nat → Int32} {b : Nat} : cpO o f b 0 = o := by funext j; unfold cpO; rw [if_neg (by omega)]
theorem cpO_s {o f : Nat → Int32} {b i : Nat} : upd (cpO o f b i) (b + i) (f i) = cpO o f b (i + 1) := by
  funext j; unfold upd cpO
  by_cases h : j = b + i
  · subst h; rw [if_pos rfl, if_pos (by omega), show b + i - b = i by omega]
  · by_cases h2 : b ≤ j ∧ j < b + i
    · rw [if_neg h, if_pos h2, if_pos (by omega)]
    · rw [if_neg h, if_neg h2, if_neg (by omega)]
/-- i places of o, from b on, laid to the front -/
def tkO (o f : Nat → Int32) (b i : Nat) : Nat → Int32 := fun j => if j < i then o (b + j) else f j
theorem tkO_0 {o f : Nat → Int32} {b : Nat} : tkO o f b 0 = f := by funext j; unfold tkO; rw [if_neg (by omega)]
theorem tkO_s {o f : Nat → Int32} {b i : Nat} : upd (tkO o f b i) i (o (b + i)) = tkO o f b (i + 1) := by
  funext j; unfold upd tkO
  by_cases h : j = i
  · subst h; rw [if_pos rfl, if_pos (by omega)]
  · by_cases h2 : j < i
    · rw [if_neg h, if_pos h2, if_pos (by omega)]
    · rw [if_neg h, if_neg h2, if_neg (by omega)]
theorem cpO_00 {o f : Nat → Int32} {i : Nat} : upd (cpO o f 0 i) i (f i) = cpO o f 0 (i + 1) := by have := cpO_s (o := o) (f := f) (b := 0) (i := i); rw [Nat.zero_add] at this; exact this
theorem tkO_00 {o f : Nat → Int32} {i : Nat} : upd (tkO o f 0 i) i (o i) = tkO o f 0 (i + 1) := by have := tkO_s (o := o) (f := f) (b := 0) (i := i); rw [Nat.zero_add] at this; exact this
/-- the rows kept, behind a change of a house with m kept -/
def remO (o f : Nat → Int32) (m : Nat) : Nat → Int32 := if m = 10 then cpO (dnO o 1845) f (9 * 205) 205 else cpO o f (m * 205) 205
def remM (m : Nat) : Nat := if m = 10 then 10 else m + 1
/-- i places from r on zero -/
def zro (f : Nat → Int32) (r i : Nat) : Nat → Int32 := fun j => if r ≤ j ∧ j < r + i then nI 0 else f j
theorem zro_0 {f : Nat → Int32} {r : Nat} : zro f r 0 = f := by funext j; unfold zro; rw [if_neg (by omega)]
theorem zro_s {f : Nat → Int32} {r i : Nat} : upd (zro f r i) (r + i) (nI 0) = zro f r (i + 1) := by
  funext j; unfold upd zro
  by_cases h : j = r + i
  · subst h; rw [if_pos rfl, if_pos (by omega)]
  · by_cases h2 : r ≤ j ∧ j < r + i
    · rw [if_neg h, if_pos h2, if_pos (by omega)]
    · rw [if_neg h, if_neg h2, if_neg (by omega)]
/-- a lodger comes: c lodgers before, floor fl, payment pay, accent a -/
def cm1 (f : Nat → Int32) (fl : Int32) (c : Nat) : Nat → Int32 := upd (zro f (13 + 16 * c) 16) (13 + 16 * c) fl
def cm2 (f : Nat → Int32) (fl pay : Int32) (c : Nat) : Nat → Int32 := upd (cm1 f fl c) (13 + 16 * c + 1) pay
def cm3 (f : Nat → Int32) (fl pay : Int32) (c : Nat) : Nat → Int32 := upd (cm2 f fl pay c) (13 + 16 * c + 4) (cm2 f fl pay c 8)
def cm4 (f : Nat → Int32) (fl pay : Int32) (c : Nat) : Nat → Int32 := upd (cm3 f fl pay c) 10 (cm3 f fl pay c 10 + pay)
def cm5 (f : Nat → Int32) (fl pay : Int32) (a c : Nat) : Nat → Int32 := upd (upd (upd (upd (upd (cm4 f fl pay c) (13 + 16 * c + 5 + 4) (nI (a % 10))) (13 + 16 * c + 5 + 3) (nI (a / 10 % 10))) (13 + 16 * c + 5 + 2) (nI (a / 10 / 10 % 10))) (13 + 16 * c + 5 + 1) (nI (a / 10 / 10 / 10 % 10))) (13 + 16 * c + 5) (nI (a / 10 / 10 / 10 / 10 % 10))
def comF (f : Nat → Int32) (fl pay : Int32) (a c : Nat) : Nat → Int32 := upd (cm5 f fl pay a c) 7 (cm5 f fl pay a c 7 + nI 1)
def payF (f : Nat → Int32) (k : Nat) (x : Int32) : Nat → Int32 := upd (upd f (13 + 16 * k + 1) (f (13 + 16 * k + 1) + x)) 10 (upd f (13 + 16 * k + 1) (f (13 + 16 * k + 1) + x) 10 + x)
end GPURE4
