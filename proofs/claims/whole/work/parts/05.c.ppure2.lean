section GPP2
/-- lodger k's letters are the n places from b on: the first places of the name -/
def nmE (inp f : Nat → Int32) (k b n : Nat) : Nat → Bool
  | 0 => decide (n ≤ 6 ∧ 0 < n)
  | i + 1 => nmE inp f k b n i && decide (f (13 + 16 * k + 10 + i) = (if i < n then inp (b + i) else nI 0) ∧ (i < n → ¬ inp (b + i) = 0))
theorem nmE_mono {inp f : Nat → Int32} {k b n : Nat} : ∀ {j i : Nat}, i ≤ j → nmE inp f k b n j = true → nmE inp f k b n i = true
  | 0, i, h, h2 => by obtain rfl : i = 0 := by omega; exact h2
  | j + 1, i, h, h2 => by
    by_cases e : i = j + 1
    · subst e; exact h2
    · rw [nmE, Bool.and_eq_true] at h2; exact nmE_mono (j := j) (by omega) h2.1
theorem nmE_0 {inp f : Nat → Int32} {k b n : Nat} {i : Nat} (h : nmE inp f k b n i = true) : n ≤ 6 ∧ 0 < n := by
  have := nmE_mono (Nat.zero_le i) h
  rw [nmE] at this
  exact of_decide_eq_true this
theorem nmE_s {inp f : Nat → Int32} {k b n i : Nat} (h : nmE inp f k b n i = true) (h2 : f (13 + 16 * k + 10 + i) = (if i < n then inp (b + i) else nI 0)) (h3 : i < n → ¬ inp (b + i) = 0) : nmE inp f k b n (i + 1) = true := by
  rw [nmE, h, Bool.true_and]; exact decide_eq_true ⟨h2, h3⟩
theorem nmE_n {inp f : Nat → Int32} {k b n i : Nat} (h : ¬ (f (13 + 16 * k + 10 + i) = (if i < n then inp (b + i) else nI 0) ∧ (i < n → ¬ inp (b + i) = 0))) : ¬ nmE inp f k b n (i + 1) = true := by
  rw [nmE, Bool.and_eq_true]; exact fun z => h (of_decide_eq_true z.2)
/-- the first number from k on, of m, that p holds of -/
def fstK (p : Nat → Bool) : Nat → Nat → Int32
  | 0, _ => -1
  | m + 1, k => if p k = true then nI k else fstK p m (k + 1)
theorem fstK_t {p : Nat → Bool} {m k : Nat} (h : p k = true) : fstK p (m + 1) k = nI k := if_pos h
theorem fstK_f {p : Nat → Bool} {m k : Nat} (h : ¬ p k = true) : fstK p (m + 1) k = fstK p m (k + 1) := if_neg h
theorem fstK_or (p : Nat → Bool) : ∀ m k, fstK p m k = -1 ∨ ∃ j, k ≤ j ∧ j < k + m ∧ fstK p m k = nI j ∧ p j = true
  | 0, k => Or.inl rfl
  | m + 1, k => by
    by_cases h : p k = true
    · exact Or.inr ⟨k, Nat.le_refl k, by omega, fstK_t h, h⟩
    · rw [fstK_f h]
      rcases fstK_or p m (k + 1) with z | ⟨j, h1, h2, h3, h4⟩
      · exact Or.inl z
      · exact Or.inr ⟨j, by omega, by omega, h3, h4⟩
abbrev fndF (inp f : Nat → Int32) (b n c : Nat) : Int32 := fstK (fun k => nmE inp f k b n 6) c 0
theorem nI_nm1' {j : Nat} (h : j < 2 ^ 31) : ¬ nI j = -1 := fun z => by
  have := congrArg Int32.toInt z
  rw [nI_toInt h] at this
  have e : (-1 : Int32).toInt = -1 := by decide
  rw [e] at this; omega
theorem eqK_at {inp : Nat → Int32} {s : PS} {key : Nat} : ∀ n, eqK inp s key n = true → ∀ i, i < n → letP inp s i = kyF (8 * key + i)
  | 0, _, i, h => by omega
  | n + 1, h, i, hi => by
    rw [eqK, Bool.and_eq_true] at h
    by_cases e : i = n
    · subst e; exact of_decide_eq_true h.2
    · exact eqK_at n h.1 i (by omega)
theorem eqK_s {inp : Nat → Int32} {s : PS} {key n : Nat} (h : eqK inp s key n = true) (h2 : letP inp s n = kyF (8 * key + n)) : eqK inp s key (n + 1) = true := by
  rw [eqK, h, Bool.true_and]; exact decide_eq_true h2
theorem letP_t {inp : Nat → Int32} {s : PS} {k : Nat} (h : k < s.2.2.1 - s.2.1) : letP inp s k = inp (s.2.1 + k) := if_pos h
theorem letP_f {inp : Nat → Int32} {s : PS} {k : Nat} (h : ¬ k < s.2.2.1 - s.2.1) : letP inp s k = nI 0 := if_neg h
theorem keyP_t {inp : Nat → Int32} {s : PS} {key : Nat} (h1 : s.1 = 1) (h2 : s.2.2.1 - s.2.1 ≤ 8) (h3 : eqK inp s key 8 = true) : keyP inp s key = true := by
  unfold keyP; rw [h3, Bool.and_true]; exact decide_eq_true ⟨h1, h2⟩
theorem keyP_i {inp : Nat → Int32} {s : PS} {key : Nat} (h : keyP inp s key = true) : s.1 = 1 ∧ s.2.2.1 - s.2.1 ≤ 8 ∧ eqK inp s key 8 = true := by
  unfold keyP at h; rw [Bool.and_eq_true] at h
  have := of_decide_eq_true h.1
  exact ⟨this.1, this.2, h.2⟩
/-- five numbers from 0 to 9, as one number -/
def acP (inp : Nat → Int32) (e : Nat) (s : PS) : Nat → Nat × PS
  | 0 => (0, s)
  | i + 1 => (10 * (acP inp e s i).1 + hvP 0 9 (acP inp e s i).2, tnP inp e 0 9 (acP inp e s i).2)
theorem acP_v {inp : Nat → Int32} {e : Nat} {s : PS} (h : PV e s) : ∀ i, PV e (acP inp e s i).2
  | 0 => h
  | i + 1 => tnP_v (acP_v h i)
theorem acP_b {inp : Nat → Int32} {e : Nat} {s : PS} : ∀ i, (acP inp e s i).1 < 10 ^ i
  | 0 => by show 0 < 1; decide
  | i + 1 => by
    have h1 := acP_b (inp := inp) (e := e) (s := s) i
    have h2 := (hvP_b (s := (acP inp e s i).2) (show 0 ≤ 9 by decide)).2
    show 10 * _ + _ < _
    rw [Nat.pow_succ]; omega
theorem acP_5 {inp : Nat → Int32} {e : Nat} {s : PS} : (acP inp e s 5).1 < 100000 := acP_b 5
/-- i letters of a name laid into row r, from place w of the text on -/
def nmF (f inp : Nat → Int32) (r w : Nat) : Nat → Nat → Int32
  | 0 => f
  | i + 1 => upd (nmF f inp r w i) (r + i) (inp (w + i))
theorem nmF_o {f inp : Nat → Int32} {r w j : Nat} : ∀ i, j < r → nmF f inp r w i j = f j
  | 0, _ => rfl
  | i + 1, h => by rw [nmF, pk_un (by omega), nmF_o i h]
/-- a line "lodger ..", step by step -/
def rl3 (inp f : Nat → Int32) (c : Nat) (s : PS) : PS := if s.2.2.2.2.1 = 0 ∧ ¬ fndF inp f s.2.1 (s.2.2.1 - s.2.1) c = -1 then erP 4 s else s
def rl6 (f : Nat → Int32) (fl : Nat) (but : Int32) (c : Nat) (s : PS) : PS := if s.2.2.2.2.1 = 0 ∧ cntOn f (nI fl) but c = 4 then erP 6 s else s
theorem rl3_v {inp f : Nat → Int32} {c e : Nat} {s : PS} (h : PV e s) : PV e (rl3 inp f c s) := by
  unfold rl3; split
  · exact erP_v h (by decide)
  · exact h
theorem rl6_v {f : Nat → Int32} {fl c e : Nat} {but : Int32} {s : PS} (h : PV e s) : PV e (rl6 f fl but c s) := by
  unfold rl6; split
  · exact erP_v h (by decide)
  · exact h
/-- the states of the line: behind the name, the floor, the payment, the accent -/
abbrev rlA (inp : Nat → Int32) (e : Nat) (f : Nat → Int32) (c : Nat) (s : PS) : PS := rl3 inp f c (nmP (nxP inp e s))
abbrev rlB (inp : Nat → Int32) (e : Nat) (f : Nat → Int32) (c : Nat) (s : PS) : PS := goP inp e (rlA inp e f c s)
abbrev rlC (inp : Nat → Int32) (e : Nat) (f : Nat → Int32) (c : Nat) (s : PS) : PS := goP inp e (rl6 f (hvP 0 4 (rlB inp e f c s)) (-1) c (hrP 0 4 (rlB inp e f c s)))
abbrev rlD (inp : Nat → Int32) (e : Nat) (f : Nat → Int32) (c : Nat) (s : PS) : PS := tnP inp e 0 999 (rlC inp e f c s)
abbrev rlE (inp : Nat → Int32) (e : Nat) (f : Nat → Int32) (c : Nat) (s : PS) : Nat × PS := acP inp e (rlD inp e f c s) 5
def rlP (inp : Nat → Int32) (e : Nat) (f : Nat → Int32) (c : Nat) (s : PS) : PS := if f 7 = nI 12 then erP 5 s else (rlE inp e f c s).2
def rlF (inp : Nat → Int32) (e : Nat) (f : Nat → Int32) (c : Nat) (s : PS) : Nat → Int32 :=
  if ¬ f 7 = nI 12 ∧ (rlE inp e f c s).2.2.2.2.2.1 = 0 then nmF (comF f (nI (hvP 0 4 (rlB inp e f c s))) (nI (hvP 0 999 (rlC inp e f c s))) (rlE inp e f c s).1 c) inp (13 + 16 * c + 10) (rlA inp e f c s).2.1 ((rlA inp e f c s).2.2.1 - (rlA inp e f c s).2.1) else f
/-- a known name -/
def tl1 (inp f : Nat → Int32) (c : Nat) (s : PS) : Int32 := if (nmP s).2.2.2.2.1 = 0 then fndF inp f (nmP s).2.1 ((nmP s).2.2.1 - (nmP s).2.1) c else nI 0
def tl2 (inp f : Nat → Int32) (c : Nat) (s : PS) : PS := if tl1 inp f c s = -1 then erP 3 (nmP s) else nmP s
def tlP (inp : Nat → Int32) (e : Nat) (f : Nat → Int32) (c : Nat) (s : PS) : PS := goP inp e (tl2 inp f c s)
def tlV (inp : Nat → Int32) (e : Nat) (f : Nat → Int32) (c : Nat) (s : PS) : Nat := if (tlP inp e f c s).2.2.2.2.1 = 0 then (tl1 inp f c s).toNatClampNeg else 0
theorem tl2_v {inp f : Nat → Int32} {c e : Nat} {s : PS} (h : PV e s) : PV e (tl2 inp f c s) := by
  unfold tl2; split
  · exact erP_v (nmP_v h) (by decide)
  · exact nmP_v h
theorem tlP_v {inp f : Nat → Int32} {c e : Nat} {s : PS} (h : PV e s) : PV e (tlP inp e f c s) := goP_v (tl2_v h)
/-- a live end: the lodger is one -/
theorem tl_live {inp f : Nat → Int32} {c e : Nat} {s : PS} (h : (tlP inp e f c s).2.2.2.2.1 = 0) : s.2.2.2.2.1 = 0 ∧ nmP s = s ∧ tl2 inp f c s = s ∧ ∃ k, k < c ∧ tl1 inp f c s = nI k ∧ nmE inp f k s.2.1 (s.2.2.1 - s.2.1) 6 = true := by
  have h1 : (tl2 inp f c s).2.2.2.2.1 = 0 := by have := h; unfold tlP at this; rwa [goP_ft] at this
  unfold tl2 at h1 ⊢
  by_cases h2 : tl1 inp f c s = -1
  · rw [if_pos h2] at h1; exact absurd h1 (erP_ne (by decide))
  · rw [if_neg h2] at h1 ⊢
    have h3 : s.2.2.2.2.1 = 0 ∧ nmP s = s := by
      unfold nmP at h1 ⊢
      by_cases h4 : s.2.2.2.2.1 = 0 ∧ (s.1 ≠ 1 ∨ 6 < s.2.2.1 - s.2.1)
      · rw [if_pos h4] at h1; exact absurd h1 (erP_ne (by decide))
      · rw [if_neg h4] at h1 ⊢; exact ⟨h1, rfl⟩
    refine ⟨h3.1, h3.2, h3.2, ?_⟩
    unfold tl1 at h2 ⊢
    rw [h3.2, if_pos h3.1] at h2 ⊢
    rcases fstK_or (fun k => nmE inp f k s.2.1 (s.2.2.1 - s.2.1) 6) c 0 with z | ⟨j, h5, h6, h7, h8⟩
    · exact absurd z h2
    · exact ⟨j, by omega, h7, h8⟩
/-- "pay" -/
abbrev ryA (inp : Nat → Int32) (e : Nat) (f : Nat → Int32) (c : Nat) (s : PS) : PS := tlP inp e f c (nxP inp e s)
def ryP (inp : Nat → Int32) (e : Nat) (f : Nat → Int32) (c : Nat) (s : PS) : PS := tnP inp e 1 999 (ryA inp e f c s)
def ryF (inp : Nat → Int32) (e : Nat) (f : Nat → Int32) (c : Nat) (s : PS) : Nat → Int32 := if (ryP inp e f c s).2.2.2.2.1 = 0 then payF f (tlV inp e f c (nxP inp e s)) (nI (hvP 1 999 (ryA inp e f c s))) else f
/-- "move" -/
def rmP (inp : Nat → Int32) (e : Nat) (f : Nat → Int32) (c : Nat) (s : PS) : PS := goP inp e (rl6 f (hvP 0 4 (ryA inp e f c s)) (nI (tlV inp e f c (nxP inp e s))) c (hrP 0 4 (ryA inp e f c s)))
def rmF (inp : Nat → Int32) (e : Nat) (f : Nat → Int32) (c : Nat) (s : PS) : Nat → Int32 := if (rmP inp e f c s).2.2.2.2.1 = 0 then upd f (13 + 16 * tlV inp e f c (nxP inp e s)) (nI (hvP 0 4 (ryA inp e f c s))) else f
/-- "days" -/
def rdP (inp : Nat → Int32) (e : Nat) (s : PS) : PS := tnP inp e 1 100 (nxP inp e s)
def rdN (inp : Nat → Int32) (e : Nat) (s : PS) : Nat := if (rdP inp e s).2.2.2.2.1 = 0 then hvP 1 100 (nxP inp e s) else 0
/-- a line -/
def lnP (inp : Nat → Int32) (e : Nat) (f : Nat → Int32) (c : Nat) (s : PS) : PS :=
  if keyP inp s 2 = true then rlP inp e f c s else if keyP inp s 3 = true then ryP inp e f c s else if keyP inp s 4 = true then rmP inp e f c s else if keyP inp s 5 = true then rdP inp e s else erP 1 s
def lnF (inp : Nat → Int32) (e : Nat) (f J : Nat → Int32) (c : Nat) (s : PS) : Nat → Int32 :=
  if keyP inp s 2 = true then rlF inp e f c s else if keyP inp s 3 = true then ryF inp e f c s else if keyP inp s 4 = true then rmF inp e f c s else if keyP inp s 5 = true then (dysM f J (rdN inp e s)).1 else f
end GPP2
section GPP3
theorem comF_7 {f : Nat → Int32} {fl pay : Int32} {a c : Nat} (hc : f 7 = nI c) : comF f fl pay a c 7 = nI (c + 1) := by
  unfold comF; rw [pk_us]
  unfold cm5; rw [pk_un (by omega), pk_un (by omega), pk_un (by omega), pk_un (by omega), pk_un (by omega)]
  unfold cm4; rw [pk_un (by omega)]
  unfold cm3; rw [pk_un (by omega)]
  unfold cm2; rw [pk_un (by omega)]
  unfold cm1; rw [pk_un (by omega)]
  unfold zro; rw [if_neg (by omega), hc, nI_add]
end GPP3
