noncomputable section GPP2
/-- lodger k's letters are the n places from b on: the first places of the name -/
def nmE (inp f : Nat → Int32) (k b n : Nat) : Nat → Bool
  | 0 => decide (n ≤ 6 ∧ 0 < n)
  | i + 1 => nmE inp f k b n i && decide (f (13 + 16 * k + 10 + i) = (if i < n then inp (b + i) else nI 0) ∧ (i < n → ¬ inp (b + i) = 0))
theorem nmE_mono {inp f : Nat → Int32} {k b n : Nat} : ∀ {j i : Nat}, i ≤ j → nmE inp f k b n j = true → nmE inp f k b n i = true
  | 0, i, h, h2 => by
    obtain rfl : i = 0 := by omega
    exact h2
  | j + 1, i, h, h2 => by
    by_cases e : i = j + 1
    · subst e; exact h2
    · rw [nmE, Bool.and_eq_true] at h2; exact nmE_mono (j := j) (by omega) h2.1
theorem nmE_0 {inp f : Nat → Int32} {k b n : Nat} {i : Nat} (h : nmE inp f k b n i = true) : n ≤ 6 ∧ 0 < n := by
  have := nmE_mono (Nat.zero_le i) h
  rw [nmE] at this
  exact of_decide_eq_true this
theorem nmE_s {inp f : Nat → Int32} {k b n i : Nat} (h : nmE inp f k b n i = true) (h2 : f (13 + 16 * k + 10 + i) = (if i < n then inp (b + i) else nI 0)) (h3 : i < n → ¬ inp (b + i) = 0) : nmE inp f k b n (i + 1) = true := by
  rw [nmE, h, Bool.true_and]; exact decide_eq_true ⟨h2, h3⟩
theorem nmE_n {inp f : Nat → Int32} {k b n i : Nat} (h : ¬ (f (13 + 16 * k + 10 + i) = (if i < n then inp (b + i) else nI 0) ∧ (i < n → ¬ inp (b + i) = 0))) : ¬ nmE inp f k b n (i + 1) = true := by
  rw [nmE, Bool.and_eq_true]; exact fun z => h (of_decide_eq_true z.2)
/-- the first number from k on, of m, that p holds of -/
def fstK (p : Nat → Bool) : Nat → Nat → Int32
  | 0, _ => -1
  | m + 1, k => if p k = true then nI k else fstK p m (k + 1)
theorem fstK_t {p : Nat → Bool} {m k : Nat} (h : p k = true) : fstK p (m + 1) k = nI k := if_pos h
theorem fstK_f {p : Nat → Bool} {m k : Nat} (h : ¬ p k = true) : fstK p (m + 1) k = fstK p m (k + 1) := if_neg h
theorem fstK_or (p : Nat → Bool) : ∀ m k, fstK p m k = -1 ∨ ∃ j, k ≤ j ∧ j < k + m ∧ fstK p m k = nI j ∧ p j = true
  | 0, k => Or.inl rfl
  | m + 1, k => by
    by_cases h : p k = true
    · exact Or.inr ⟨k, Nat.le_refl k, by omega, fstK_t h, h⟩
    · rw [fstK_f h]
      rcases fstK_or p m (k + 1) with z | ⟨j, h1, h2, h3, h4⟩
      · exact Or.inl z
      · exact Or.inr ⟨j, by omega, by omega, h3, h4⟩
abbrev fndF (inp f : Nat → Int32) (b n c : Nat) : Int32 := fstK (fun k => nmE inp f k b n 6) c 0
theorem nI_nm1' {j : Nat} (h : j < 2 ^ 31) : ¬ nI j = -1 := fun z => by
  have := congrArg Int32.toInt z
  rw [nI_toInt h] at this
  have e : (-1 : Int32).toInt = -1 := by decide
  rw [e] at this; omega
theorem eqK_at {inp : Nat → Int32} {s : PS} {key : Nat} : ∀ n, eqK inp s key n = true → ∀ i, i < n → letP inp s i = kyF (8 * key + i)
  | 0, _, i, h => by omega
  | n + 1, h, i, hi => by
    rw [eqK, Bool.and_eq_true] at h
    by_cases e : i = n
    · subst e; exact of_decide_eq_true h.2
    · exact eqK_at n h.1 i (by omega)
theorem eqK_s {inp : Nat → Int32} {s : PS} {key n : Nat} (h : eqK inp s key n = true) (h2 : letP inp s n = kyF (8 * key + n)) : eqK inp s key (n + 1) = true := by
  rw [eqK, h, Bool.true_and]; exact decide_eq_true h2
theorem letP_t {inp : Nat → Int32} {s : PS} {k : Nat} (h : k < s.2.2.1 - s.2.1) : letP inp s k = inp (s.2.1 + k) := if_pos h
theorem letP_f {inp : Nat → Int32} {s : PS} {k : Nat} (h : ¬ k < s.2.2.1 - s.2.1) : letP inp s k = nI 0 := if_neg h
theorem keyP_t {inp : Nat → Int32} {s : PS} {key : Nat} (h1 : s.1 = 1) (h2 : s.2.2.1 - s.2.1 ≤ 8) (h3 : eqK inp s key 8 = true) : keyP inp s key = true := by
  unfold keyP; rw [h3, Bool.and_true]; exact decide_eq_true ⟨h1, h2⟩
theorem keyP_i {inp : Nat → Int32} {s : PS} {key : Nat} (h : keyP inp s key = true) : s.1 = 1 ∧ s.2.2.1 - s.2.1 ≤ 8 ∧ eqK inp s key 8 = true := by
  unfold keyP at h; rw [Bool.and_eq_true] at h
  have := of_decide_eq_true h.1
  exact ⟨this.1, this.2, h.2⟩
/-- five numbers from 0 to 9, as one number -/
def acP (inp : Nat → Int32) (e : Nat) (s : PS) : Nat → Nat × PS
  | 0 => (0, s)
  | i + 1 => (10 * (acP inp e s i).1 + hvP 0 9 (acP inp e s i).2, tnP inp e 0 9 (acP inp e s i).2)
theorem acP_v {inp : Nat → Int32} {e : Nat} {s : PS} (h : PV e s) : ∀ i, PV e (acP inp e s i).2
  | 0 => h
  | i + 1 => tnP_v (acP_v h i)
theorem acP_b {inp : Nat → Int32} {e : Nat} {s : PS} : ∀ i, (acP inp e s i).1 < 10 ^ i
  | 0 => by show 0 < 1; decide
  | i + 1 => by
    have h1 := acP_b (inp := inp) (e := e) (s := s) i
    have h2 := (hvP_b (s := (acP inp e s i).2) (show 0 ≤ 9 by decide)).2
    show 10 * _ + _ < _
    rw [Nat.pow_succ]; omega
theorem acP_5 {inp : Nat → Int32} {e : Nat} {s : PS} : (acP inp e s 5).1 < 100000 := acP_b 5
/-- i letters of a name laid into row r, from place w of the text on -/
def nmF (f inp : Nat → Int32) (r w : Nat) : Nat → Nat → Int32
  | 0 => f
  | i + 1 => upd (nmF f inp r w i) (r + i) (inp (w + i))
theorem nmF_o {f inp : Nat → Int32} {r w j : Nat} : ∀ i, j < r → nmF f inp r w i j = f j
  | 0, _ => rfl
  | i + 1, h => by rw [nmF, pk_un (by omega), nmF_o i h]
/-- a line "lodger ..", step by step -/
def rl3 (inp f : Nat → Int32) (c : Nat) (s : PS) : PS := op (if s.2.2.2.2.1 = 0 ∧ ¬ fndF inp f s.2.1 (s.2.2.1 - s.2.1) c = -1 then erP 4 s else s)
def rl6 (f : Nat → Int32) (fl : Nat) (but : Int32) (c : Nat) (s : PS) : PS := op (if s.2.2.2.2.1 = 0 ∧ cntOn f (nI fl) but c = 4 then erP 6 s else s)
theorem rl3_v {inp f : Nat → Int32} {c e : Nat} {s : PS} (h : PV e s) : PV e (rl3 inp f c s) := by
  unfold rl3; rw [op_eq]; split
  · exact erP_v h (by decide)
  · exact h
theorem rl6_v {f : Nat → Int32} {fl c e : Nat} {but : Int32} {s : PS} (h : PV e s) : PV e (rl6 f fl but c s) := by
  unfold rl6; rw [op_eq]; split
  · exact erP_v h (by decide)
  · exact h
/-- the states of the line: behind the name, the floor, the payment, the accent -/
abbrev rlA (inp : Nat → Int32) (e : Nat) (f : Nat → Int32) (c : Nat) (s : PS) : PS := rl3 inp f c (nmP (nxP inp e s))
abbrev rlB (inp : Nat → Int32) (e : Nat) (f : Nat → Int32) (c : Nat) (s : PS) : PS := goP inp e (rlA inp e f c s)
abbrev rlC (inp : Nat → Int32) (e : Nat) (f : Nat → Int32) (c : Nat) (s : PS) : PS := goP inp e (rl6 f (hvP 0 4 (rlB inp e f c s)) (-1) c (hrP 0 4 (rlB inp e f c s)))
abbrev rlD (inp : Nat → Int32) (e : Nat) (f : Nat → Int32) (c : Nat) (s : PS) : PS := tnP inp e 0 999 (rlC inp e f c s)
abbrev rlE (inp : Nat → Int32) (e : Nat) (f : Nat → Int32) (c : Nat) (s : PS) : Nat × PS := acP inp e (rlD inp e f c s) 5
def rlP (inp : Nat → Int32) (e : Nat) (f : Nat → Int32) (c : Nat) (s : PS) : PS := op (if f 7 = nI 12 then erP 5 s else (rlE inp e f c s).2)
def rlF (inp : Nat → Int32) (e : Nat) (f : Nat → Int32) (c : Nat) (s : PS) : Nat → Int32 :=
  if ¬ f 7 = nI 12 ∧ (rlE inp e f c s).2.2.2.2.2.1 = 0 then nmF (comF f (nI (hvP 0 4 (rlB inp e f c s))) (nI (hvP 0 999 (rlC inp e f c s))) (rlE inp e f c s).1 c) inp (13 + 16 * c + 10) (rlA inp e f c s).2.1 ((rlA inp e f c s).2.2.1 - (rlA inp e f c s).2.1) else f
/-- a known name -/
def tl1 (inp f : Nat → Int32) (c : Nat) (s : PS) : Int32 := if (nmP s).2.2.2.2.1 = 0 then fndF inp f (nmP s).2.1 ((nmP s).2.2.1 - (nmP s).2.1) c else nI 0
def tl2 (inp f : Nat → Int32) (c : Nat) (s : PS) : PS := op (if tl1 inp f c s = -1 then erP 3 (nmP s) else nmP s)
def tlP (inp : Nat → Int32) (e : Nat) (f : Nat → Int32) (c : Nat) (s : PS) : PS := op (goP inp e (tl2 inp f c s))
def tlV (inp : Nat → Int32) (e : Nat) (f : Nat → Int32) (c : Nat) (s : PS) : Nat := if (tlP inp e f c s).2.2.2.2.1 = 0 then (tl1 inp f c s).toNatClampNeg else 0
theorem tl2_v {inp f : Nat → Int32} {c e : Nat} {s : PS} (h : PV e s) : PV e (tl2 inp f c s) := by
  unfold tl2; rw [op_eq]; split
  · exact erP_v (nmP_v h) (by decide)
  · exact nmP_v h
theorem tlP_v {inp f : Nat → Int32} {c e : Nat} {s : PS} (h : PV e s) : PV e (tlP inp e f c s) := by unfold tlP; rw [op_eq]; exact goP_v (tl2_v h)
/-- a live end: the lodger is one -/
theorem tl_live {inp f : Nat → Int32} {c e : Nat} {s : PS} (h : (tlP inp e f c s).2.2.2.2.1 = 0) : s.2.2.2.2.1 = 0 ∧ nmP s = s ∧ tl2 inp f c s = s ∧ ∃ k, k < c ∧ tl1 inp f c s = nI k ∧ nmE inp f k s.2.1 (s.2.2.1 - s.2.1) 6 = true := by
  have h1 : (tl2 inp f c s).2.2.2.2.1 = 0 := by have := h; unfold tlP at this; rwa [op_eq, goP_ft] at this
  unfold tl2 at h1 ⊢
  rw [op_eq] at h1 ⊢
  by_cases h2 : tl1 inp f c s = -1
  · rw [if_pos h2] at h1; exact absurd h1 (erP_ne (by decide))
  · rw [if_neg h2] at h1 ⊢
    have h3 : s.2.2.2.2.1 = 0 ∧ nmP s = s := by
      unfold nmP at h1 ⊢
      rw [op_eq] at h1 ⊢
      by_cases h4 : s.2.2.2.2.1 = 0 ∧ (s.1 ≠ 1 ∨ 6 < s.2.2.1 - s.2.1)
      · rw [if_pos h4] at h1; exact absurd h1 (erP_ne (by decide))
      · rw [if_neg h4] at h1 ⊢; exact ⟨h1, rfl⟩
    refine ⟨h3.1, h3.2, h3.2, ?_⟩
    unfold tl1 at h2 ⊢
    rw [h3.2, if_pos h3.1] at h2 ⊢
    rcases fstK_or (fun k => nmE inp f k s.2.1 (s.2.2.1 - s.2.1) 6) c 0 with z | ⟨j, h5, h6, h7, h8⟩
    · exact absurd z h2
    · exact ⟨j, by omega, h7, h8⟩
/-- "pay" -/
abbrev ryA (inp : Nat → Int32) (e : Nat) (f : Nat → Int32) (c : Nat) (s : PS) : PS := tlP inp e f c (nxP inp e s)
def ryP (inp : Nat → Int32) (e : Nat) (f : Nat → Int32) (c : Nat) (s : PS) : PS := op (tnP inp e 1 999 (ryA inp e f c s))
def ryF (inp : Nat → Int32) (e : Nat) (f : Nat → Int32) (c : Nat) (s : PS) : Nat → Int32 := if (ryP inp e f c s).2.2.2.2.1 = 0 then payF f (tlV inp e f c (nxP inp e s)) (nI (hvP 1 999 (ryA inp e f c s))) else f
/-- "move" -/
def rmP (inp : Nat → Int32) (e : Nat) (f : Nat → Int32) (c : Nat) (s : PS) : PS := op (goP inp e (rl6 f (hvP 0 4 (ryA inp e f c s)) (nI (tlV inp e f c (nxP inp e s))) c (hrP 0 4 (ryA inp e f c s))))
def rmF (inp : Nat → Int32) (e : Nat) (f : Nat → Int32) (c : Nat) (s : PS) : Nat → Int32 := if (rmP inp e f c s).2.2.2.2.1 = 0 then upd f (13 + 16 * tlV inp e f c (nxP inp e s)) (nI (hvP 0 4 (ryA inp e f c s))) else f
/-- "days" -/
def rdP (inp : Nat → Int32) (e : Nat) (s : PS) : PS := op (tnP inp e 1 100 (nxP inp e s))
def rdN (inp : Nat → Int32) (e : Nat) (s : PS) : Nat := if (rdP inp e s).2.2.2.2.1 = 0 then hvP 1 100 (nxP inp e s) else 0
/-- a line -/
def lnP (inp : Nat → Int32) (e : Nat) (f : Nat → Int32) (c : Nat) (s : PS) : PS :=
  op (if keyP inp s 2 = true then rlP inp e f c s else if keyP inp s 3 = true then ryP inp e f c s else if keyP inp s 4 = true then rmP inp e f c s else if keyP inp s 5 = true then rdP inp e s else erP 1 s)
def lnF (inp : Nat → Int32) (e : Nat) (f J : Nat → Int32) (c : Nat) (s : PS) : Nat → Int32 :=
  if keyP inp s 2 = true then rlF inp e f c s else if keyP inp s 3 = true then ryF inp e f c s else if keyP inp s 4 = true then rmF inp e f c s else if keyP inp s 5 = true then (dysM f J (rdN inp e s)).1 else f
end GPP2
section GPP3
theorem tlP_eq {inp f : Nat → Int32} {e c : Nat} {s : PS} : goP inp e (tl2 inp f c s) = tlP inp e f c s := by unfold tlP; rw [op_eq]
theorem ryP_eq {inp f : Nat → Int32} {e c : Nat} {s : PS} : tnP inp e 1 999 (ryA inp e f c s) = ryP inp e f c s := by unfold ryP; rw [op_eq]
theorem rmP_eq {inp f : Nat → Int32} {e c : Nat} {s : PS} : goP inp e (rl6 f (hvP 0 4 (ryA inp e f c s)) (nI (tlV inp e f c (nxP inp e s))) c (hrP 0 4 (ryA inp e f c s))) = rmP inp e f c s := by unfold rmP; rw [op_eq]
theorem rdP_eq {inp : Nat → Int32} {e : Nat} {s : PS} : tnP inp e 1 100 (nxP inp e s) = rdP inp e s := by unfold rdP; rw [op_eq]
theorem comF_7 {f : Nat → Int32} {fl pay : Int32} {a c : Nat} (hc : f 7 = nI c) : comF f fl pay a c 7 = nI (c + 1) := by
  unfold comF; rw [pk_us]
  unfold cm5; rw [pk_un (by omega), pk_un (by omega), pk_un (by omega), pk_un (by omega), pk_un (by omega)]
  unfold cm4; rw [pk_un (by omega)]
  unfold cm3; rw [pk_un (by omega)]
  unfold cm2; rw [pk_un (by omega)]
  unfold cm1; rw [pk_un (by omega)]
  unfold zro; rw [if_neg (by omega), hc, nI_add]
end GPP3
noncomputable section GPP4
theorem tnP_live {inp : Nat → Int32} {e lo hi : Nat} {s : PS} (h : (tnP inp e lo hi s).2.2.2.2.1 = 0) : s.2.2.2.2.1 = 0 ∧ s.1 = 2 ∧ (lo ≤ s.2.2.2.1 ∧ s.2.2.2.1 ≤ hi) ∧ hrP lo hi s = s ∧ hvP lo hi s = s.2.2.2.1 := by
  have h1 : (hrP lo hi s).2.2.2.2.1 = 0 := by have := h; unfold tnP at this; rwa [goP_ft] at this
  obtain ⟨a, b, c, d⟩ := hrP_live h1
  exact ⟨a, b, c, d, hvP_t h1⟩
theorem tlV_lt {inp f : Nat → Int32} {c e : Nat} {s : PS} (hc : c ≤ 12) : tlV inp e f c s < 12 := by
  unfold tlV
  split
  · obtain ⟨-, -, -, k, hk, h5, -⟩ := tl_live (by assumption)
    rw [h5, nI_clamp (by omega)]; omega
  · omega
/-- nobody is watched: a day leaves the whole numbers as they are -/
theorem trkF_n {I f : Nat → Int32} {k : Nat} (h : I 11 = -1) (hk : k < 2 ^ 31) : trkF I f k = I := by
  unfold trkF
  rw [h, if_neg (fun z => nI_nm1' hk z.symm), if_neg]
  intro z
  rw [Int32.lt_iff_toInt_lt, nI_toInt hk] at z
  have e : (-1 : Int32).toInt = -1 := by decide
  rw [e] at z; omega
theorem insM_I {I : Nat → Int32} (h : I 11 = -1) : ∀ (m p : Nat) (f : Nat → Int32), p + m < 2 ^ 31 → (insM m p f I).2 = I
  | 0, p, f, _ => rfl
  | m + 1, p, f, hp => by
    by_cases hM : MustB f p = true
    · rw [insM_t hM, trkF_n h (by omega)]; exact insM_I h m p _ (by omega)
    · rw [insM_f hM]; exact insM_I h m (p + 1) f (by omega)
theorem insM_1 (I I2 : Nat → Int32) : ∀ (m p : Nat) (f I I2 : Nat → Int32), (insM m p f I).1 = (insM m p f I2).1
  | 0, p, f, I, I2 => rfl
  | m + 1, p, f, I, I2 => by
    by_cases hM : MustB f p = true
    · rw [insM_t hM, insM_t hM]; exact insM_1 I I2 m p _ _ _
    · rw [insM_f hM, insM_f hM]; exact insM_1 I I2 m (p + 1) f _ _
theorem dayM_I {I f : Nat → Int32} {c : Nat} (h : I 11 = -1) (hc : c < 2 ^ 31) : (dayM f I c).2 = I := by
  unfold dayM; split
  · exact insM_I h c 0 _ (by omega)
  · rfl
theorem dayM_1 {f : Nat → Int32} {c : Nat} (I I2 : Nat → Int32) : (dayM f I c).1 = (dayM f I2 c).1 := by
  unfold dayM; split
  · exact insM_1 I I2 c 0 _ _ _
  · rfl
theorem dysM_1 {f : Nat → Int32} (I I2 : Nat → Int32) : ∀ n, (dysM f I n).1 = (dysM f I2 n).1
  | 0 => rfl
  | n + 1 => by rw [dysM, dysM, dysM_1 I I2 n]; exact dayM_1 _ _
theorem mny_lt {f : Nat → Int32} : mny f < 2 ^ 31 := by
  unfold mny Int32.toNatClampNeg
  have := Int32.toInt_lt (f 7)
  omega
theorem dysM_I {I f : Nat → Int32} (h : I 11 = -1) : ∀ n, (dysM f I n).2 = I
  | 0 => rfl
  | n + 1 => by
    rw [dysM, dysM_I h n]
    exact dayM_I h mny_lt
/-- the text's head: seven numbers -/
def lpP (inp : Nat → Int32) (e : Nat) (s : PS) : Nat → PS
  | 0 => s
  | i + 1 => tnP inp e 0 9 (lpP inp e s i)
theorem lpP_v {inp : Nat → Int32} {e : Nat} {s : PS} (h : PV e s) : ∀ i, PV e (lpP inp e s i)
  | 0 => h
  | i + 1 => tnP_v (lpP_v h i)
abbrev rtB (inp : Nat → Int32) (e : Nat) (s : PS) : PS := twP inp e 0 (nxP inp e s)
abbrev rtC (inp : Nat → Int32) (e : Nat) (s : PS) : PS := tnP inp e 0 50 (rtB inp e s)
abbrev rtD (inp : Nat → Int32) (e : Nat) (s : PS) : PS := tnP inp e 0 45 (rtC inp e s)
abbrev rtE (inp : Nat → Int32) (e : Nat) (s : PS) : PS := twP inp e 1 (tsP inp e (rtD inp e s))
/-- the row with the head's numbers, n positions of them -/
def hdF (inp : Nat → Int32) (e : Nat) (s : PS) : Nat → Nat → Int32
  | 0 => upd (upd (fun _ => nI 0) 0 (nI (hvP 0 50 (rtB inp e s)))) 1 (nI (hvP 0 45 (rtC inp e s)))
  | i + 1 => upd (hdF inp e s i) (2 + i) (nI (hvP 0 9 (lpP inp e (rtE inp e s) i)))
theorem hdF_hi {inp : Nat → Int32} {e : Nat} {s : PS} {j : Nat} (hj : 7 ≤ j) : ∀ i, i ≤ 5 → hdF inp e s i j = nI 0
  | 0, _ => by rw [hdF, pk_un (by omega), pk_un (by omega)]
  | i + 1, h => by rw [hdF, pk_un (by omega)]; exact hdF_hi hj i (by omega)
/-- the lines -/
def lsP (inp : Nat → Int32) (e : Nat) (J : Nat → Int32) : Nat → (Nat → Int32) × PS → (Nat → Int32) × PS
  | 0, x => x
  | m + 1, x => if x.2.2.2.2.2.1 = 0 ∧ x.2.1 ≠ 0 then (if (tsP inp e x.2).2.2.2.2.1 = 0 then lsP inp e J m (lnF inp e x.1 J (mny x.1) (tsP inp e x.2), lnP inp e x.1 (mny x.1) (tsP inp e x.2)) else (x.1, tsP inp e x.2)) else x
def txP (inp : Nat → Int32) (e : Nat) (J : Nat → Int32) (s : PS) : (Nat → Int32) × PS := lsP inp e J (e + 1) (hdF inp e s 5, lpP inp e (rtE inp e s) 5)
theorem lsP_x {inp : Nat → Int32} {e : Nat} {J : Nat → Int32} {m : Nat} {x : (Nat → Int32) × PS} (h : ¬ (x.2.2.2.2.2.1 = 0 ∧ x.2.1 ≠ 0)) : lsP inp e J m x = x := by
  cases m with
  | zero => rfl
  | succ m => rw [lsP, if_neg h]
theorem lsP_e {inp : Nat → Int32} {e : Nat} {J : Nat → Int32} {m : Nat} {x : (Nat → Int32) × PS} (h : x.2.2.2.2.2.1 = 0 ∧ x.2.1 ≠ 0) (h2 : ¬ (tsP inp e x.2).2.2.2.2.1 = 0) : lsP inp e J (m + 1) x = (x.1, tsP inp e x.2) := by rw [lsP, if_pos h, if_neg h2]
theorem lsP_s {inp : Nat → Int32} {e : Nat} {J : Nat → Int32} {m : Nat} {x : (Nat → Int32) × PS} (h : x.2.2.2.2.2.1 = 0 ∧ x.2.1 ≠ 0) (h2 : (tsP inp e x.2).2.2.2.2.1 = 0) : lsP inp e J (m + 1) x = lsP inp e J m (lnF inp e x.1 J (mny x.1) (tsP inp e x.2), lnP inp e x.1 (mny x.1) (tsP inp e x.2)) := by rw [lsP, if_pos h, if_pos h2]
/-- the place of the token grows -/
theorem erP_fr {s : PS} {c : Nat} : (erP c s).2.1 = s.2.1 := by unfold erP; rw [op_eq]; split <;> rfl
theorem goP_fr {inp : Nat → Int32} {e : Nat} {s : PS} (h : s.2.1 ≤ s.2.2.1) : s.2.1 ≤ (goP inp e s).2.1 := by
  unfold goP; rw [op_eq]; split
  · exact Nat.le_trans h nxP_fr
  · exact Nat.le_refl _
theorem hrP_fr {lo hi : Nat} {s : PS} : (hrP lo hi s).2.1 = s.2.1 := by
  unfold hrP; rw [op_eq]; split
  · rfl
  · split
    · exact erP_fr
    · split
      · rfl
      · exact erP_fr
theorem nmP_fr {s : PS} : (nmP s).2.1 = s.2.1 := by
  unfold nmP; rw [op_eq]; split
  · exact erP_fr
  · rfl
section
variable {inp f : Nat → Int32} {e c : Nat} {s : PS}
theorem tnP_fr {lo hi : Nat} (h : PV e s) : s.2.1 ≤ (tnP inp e lo hi s).2.1 := by
  have h1 := goP_fr (inp := inp) (e := e) (hrP_v (lo := lo) (hi := hi) h).2.1
  rw [hrP_fr] at h1; exact h1
theorem acP_fr (h : PV e s) : ∀ i, s.2.1 ≤ (acP inp e s i).2.2.1
  | 0 => Nat.le_refl _
  | i + 1 => Nat.le_trans (acP_fr h i) (tnP_fr (acP_v h i))
theorem tlP_fr (h : PV e s) : s.2.1 ≤ (tlP inp e f c s).2.1 := by
  have h1 := goP_fr (inp := inp) (e := e) (tl2_v (inp := inp) (f := f) (c := c) h).2.1
  have h2 : (tl2 inp f c s).2.1 = s.2.1 := by unfold tl2; rw [op_eq]; split <;> (try rw [erP_fr]) <;> exact nmP_fr
  rw [h2] at h1; unfold tlP; rw [op_eq]; exact h1
theorem rl6_fr {fl : Nat} {but : Int32} : (rl6 f fl but c s).2.1 = s.2.1 := by unfold rl6; rw [op_eq]; split; exact erP_fr; rfl
theorem rl3_fr : (rl3 inp f c s).2.1 = s.2.1 := by unfold rl3; rw [op_eq]; split; exact erP_fr; rfl
theorem rlA_v (h : PV e s) : PV e (rlA inp e f c s) := rl3_v (nmP_v (nxP_v h))
theorem rlB_v (h : PV e s) : PV e (rlB inp e f c s) := goP_v (rlA_v h)
theorem rlC_v (h : PV e s) : PV e (rlC inp e f c s) := goP_v (rl6_v (hrP_v (rlB_v h)))
theorem rlD_v (h : PV e s) : PV e (rlD inp e f c s) := tnP_v (rlC_v h)
theorem rlP_v (h : PV e s) : PV e (rlP inp e f c s) := by
  unfold rlP; rw [op_eq]; split
  · exact erP_v h (by decide)
  · exact acP_v (rlD_v h) 5
theorem rlP_fr (h : PV e s) : s.2.1 ≤ (rlP inp e f c s).2.1 := by
  unfold rlP; rw [op_eq]; split
  · rw [erP_fr]; exact Nat.le_refl _
  · have h1 : s.2.1 ≤ (rlA inp e f c s).2.1 := by
      show _ ≤ (rl3 _ _ _ _).2.1
      rw [rl3_fr, nmP_fr]; exact Nat.le_trans h.2.1 nxP_fr
    have h2 := goP_fr (inp := inp) (e := e) (rlA_v (inp := inp) (f := f) (c := c) h).2.1
    have h3 := goP_fr (inp := inp) (e := e) (rl6_v (f := f) (fl := hvP 0 4 (rlB inp e f c s)) (but := -1) (c := c) (hrP_v (lo := 0) (hi := 4) (rlB_v (inp := inp) (f := f) (c := c) h))).2.1
    rw [rl6_fr, hrP_fr] at h3
    have h4 := tnP_fr (inp := inp) (lo := 0) (hi := 999) (rlC_v (inp := inp) (f := f) (c := c) h)
    have h5 := acP_fr (inp := inp) (rlD_v (inp := inp) (f := f) (c := c) h) 5
    exact Nat.le_trans h1 (Nat.le_trans h2 (Nat.le_trans h3 (Nat.le_trans h4 h5)))
theorem ryA_v (h : PV e s) : PV e (ryA inp e f c s) := tlP_v (nxP_v h)
theorem ryA_fr (h : PV e s) : s.2.1 ≤ (ryA inp e f c s).2.1 := Nat.le_trans (Nat.le_trans h.2.1 nxP_fr) (tlP_fr (nxP_v h))
theorem ryP_v (h : PV e s) : PV e (ryP inp e f c s) := by unfold ryP; rw [op_eq]; exact tnP_v (ryA_v h)
theorem ryP_fr (h : PV e s) : s.2.1 ≤ (ryP inp e f c s).2.1 := by unfold ryP; rw [op_eq]; exact Nat.le_trans (ryA_fr h) (tnP_fr (ryA_v h))
theorem rmP_v (h : PV e s) : PV e (rmP inp e f c s) := by unfold rmP; rw [op_eq]; exact goP_v (rl6_v (hrP_v (ryA_v h)))
theorem rmP_fr (h : PV e s) : s.2.1 ≤ (rmP inp e f c s).2.1 := by
  have h3 := goP_fr (inp := inp) (e := e) (rl6_v (f := f) (fl := hvP 0 4 (ryA inp e f c s)) (but := nI (tlV inp e f c (nxP inp e s))) (c := c) (hrP_v (lo := 0) (hi := 4) (ryA_v (inp := inp) (f := f) (c := c) h))).2.1
  rw [rl6_fr, hrP_fr] at h3
  unfold rmP; rw [op_eq]
  exact Nat.le_trans (ryA_fr h) h3
theorem rdP_v (h : PV e s) : PV e (rdP inp e s) := by unfold rdP; rw [op_eq]; exact tnP_v (nxP_v h)
theorem rdP_fr (h : PV e s) : s.2.1 ≤ (rdP inp e s).2.1 := by unfold rdP; rw [op_eq]; exact Nat.le_trans (Nat.le_trans h.2.1 nxP_fr) (tnP_fr (nxP_v h))
theorem lnP_v (h : PV e s) : PV e (lnP inp e f c s) := by
  unfold lnP; rw [op_eq]; split
  · exact rlP_v h
  · split
    · exact ryP_v h
    · split
      · exact rmP_v h
      · split
        · exact rdP_v h
        · exact erP_v h (by decide)
theorem lnP_fr (h : PV e s) : s.2.1 ≤ (lnP inp e f c s).2.1 := by
  unfold lnP; rw [op_eq]; split
  · exact rlP_fr h
  · split
    · exact ryP_fr h
    · split
      · exact rmP_fr h
      · split
        · exact rdP_fr h
        · rw [erP_fr]; exact Nat.le_refl _
/-- a semicolon taken: the place has grown -/
theorem tsP_live (h : PV e s) (h2 : (tsP inp e s).2.2.2.2.1 = 0) : s.2.2.2.2.1 = 0 ∧ s.1 = 3 ∧ tsP inp e s = nxP inp e s ∧ s.2.1 < (tsP inp e s).2.1 := by
  unfold tsP at h2 ⊢
  rw [op_eq] at h2 ⊢
  rw [goP_ft] at h2
  by_cases h3 : s.2.2.2.2.1 = 0 ∧ s.1 ≠ 3
  · rw [if_pos h3] at h2; exact absurd h2 (erP_ne (by decide))
  · rw [if_neg h3] at h2 ⊢
    have h4 : s.1 = 3 := Classical.byContradiction fun z => h3 ⟨h2, z⟩
    rw [goP_t h2]
    exact ⟨h2, h4, rfl, Nat.lt_of_lt_of_le (h.2.2.2.2.2.2.2.1 (by omega)) nxP_fr⟩
end
/-- rows stay rows -/
theorem nmF_ok {f inp : Nat → Int32} {r w c n : Nat} (hr : 13 + 16 * c + 10 = r) (hn : n ≤ 6) (h : Okr f (c + 1)) : Okr (nmF f inp r w n) (c + 1) := by
  have key : ∀ n, n ≤ 6 → ∀ j, (j < r ∨ r + 6 ≤ j) → nmF f inp r w n j = f j := by
    intro n
    induction n with
    | zero => intro _ j _; rfl
    | succ n ih => intro h1 j h2; rw [nmF, pk_un (by omega), ih (by omega) j h2]
  exact ⟨by rw [key n hn 7 (by omega)]; exact h.1, h.2.1, h.2.2.of fun k hk => key n hn _ (by omega)⟩
theorem cm5_o {f : Nat → Int32} {fl pay : Int32} {a c j : Nat} (h : j < 13 + 16 * c) (h2 : j ≠ 10) : comF f fl pay a c j = if j = 7 then f 7 + nI 1 else f j := by
  unfold comF
  by_cases h7 : j = 7
  · subst h7
    rw [if_pos rfl, pk_us]
    congr 1
    unfold cm5; rw [pk_un (by omega), pk_un (by omega), pk_un (by omega), pk_un (by omega), pk_un (by omega)]
    unfold cm4; rw [pk_un (by omega)]
    unfold cm3; rw [pk_un (by omega)]
    unfold cm2; rw [pk_un (by omega)]
    unfold cm1; rw [pk_un (by omega)]
    unfold zro; rw [if_neg (by omega)]
  · rw [if_neg h7, pk_un h7]
    unfold cm5; rw [pk_un (by omega), pk_un (by omega), pk_un (by omega), pk_un (by omega), pk_un (by omega)]
    unfold cm4; rw [pk_un (by omega)]
    unfold cm3; rw [pk_un (by omega)]
    unfold cm2; rw [pk_un (by omega)]
    unfold cm1; rw [pk_un (by omega)]
    unfold zro; rw [if_neg (by omega)]
theorem comF_fl {f : Nat → Int32} {fl pay : Int32} {a c : Nat} : comF f fl pay a c (13 + 16 * c) = fl := by
  unfold comF; rw [pk_un (by omega)]
  unfold cm5; rw [pk_un (by omega), pk_un (by omega), pk_un (by omega), pk_un (by omega), pk_un (by omega)]
  unfold cm4; rw [pk_un (by omega)]
  unfold cm3; rw [pk_un (by omega)]
  unfold cm2; rw [pk_un (by omega)]
  unfold cm1; rw [pk_us]
theorem comF_ok {f : Nat → Int32} {pay : Int32} {a c φ : Nat} (h : Okr f c) (h12 : c < 12) (hφ : φ < 5) : Okr (comF f (nI φ) pay a c) (c + 1) := by
  refine ⟨comF_7 h.1, by omega, fun k hk => ?_⟩
  by_cases e : k = c
  · subst e; exact ⟨φ, hφ, comF_fl⟩
  · rw [cm5_o (by omega) (by omega), if_neg (by omega)]; exact h.2.2 k (by omega)
theorem rlA_len {inp f : Nat → Int32} {e c : Nat} {s : PS} (h : (rlE inp e f c s).2.2.2.2.2.1 = 0) (hs : PV e s) : (rlA inp e f c s).2.2.2.2.1 = 0 := by
  have a1 : ∀ i, (acP inp e (rlD inp e f c s) i).2.2.2.2.2.1 = 0 → (rlD inp e f c s).2.2.2.2.1 = 0 := by
    intro i
    induction i with
    | zero => intro z; exact z
    | succ i ih => intro z; exact ih (tnP_live z).1
  have a2 := (tnP_live (a1 5 h)).1
  have a3 : (rl6 f (hvP 0 4 (rlB inp e f c s)) (-1) c (hrP 0 4 (rlB inp e f c s))).2.2.2.2.1 = 0 := by have := a2; rwa [goP_ft] at this
  have a4 : (hrP 0 4 (rlB inp e f c s)).2.2.2.2.1 = 0 := by
    unfold rl6 at a3
    rw [op_eq] at a3
    by_cases z : (hrP 0 4 (rlB inp e f c s)).2.2.2.2.1 = 0 ∧ cntOn f (nI (hvP 0 4 (rlB inp e f c s))) (-1) c = 4
    · exact z.1
    · rwa [if_neg z] at a3
  have a5 := (hrP_live a4).1
  rwa [goP_ft] at a5
theorem rlA_ok {inp f : Nat → Int32} {e c : Nat} {s : PS} (h : (rlA inp e f c s).2.2.2.2.1 = 0) : rlA inp e f c s = nxP inp e s ∧ (nxP inp e s).2.2.2.2.1 = 0 ∧ (nxP inp e s).1 = 1 ∧ (nxP inp e s).2.2.1 - (nxP inp e s).2.1 ≤ 6 ∧ fndF inp f (nxP inp e s).2.1 ((nxP inp e s).2.2.1 - (nxP inp e s).2.1) c = -1 := by
  show (rl3 inp f c (nmP (nxP inp e s)) = _ ∧ _)
  have h' : (rl3 inp f c (nmP (nxP inp e s))).2.2.2.2.1 = 0 := h
  unfold rl3 at h' ⊢
  rw [op_eq] at h' ⊢
  by_cases z : (nmP (nxP inp e s)).2.2.2.2.1 = 0 ∧ ¬ fndF inp f (nmP (nxP inp e s)).2.1 ((nmP (nxP inp e s)).2.2.1 - (nmP (nxP inp e s)).2.1) c = -1
  · rw [if_pos z] at h'; exact absurd h' (erP_ne (by decide))
  · rw [if_neg z] at h' ⊢
    have z2 : fndF inp f (nmP (nxP inp e s)).2.1 ((nmP (nxP inp e s)).2.2.1 - (nmP (nxP inp e s)).2.1) c = -1 := Classical.byContradiction fun y => z ⟨h', y⟩
    unfold nmP at h' z2 ⊢
    rw [op_eq] at h' z2 ⊢
    by_cases y : (nxP inp e s).2.2.2.2.1 = 0 ∧ ((nxP inp e s).1 ≠ 1 ∨ 6 < (nxP inp e s).2.2.1 - (nxP inp e s).2.1)
    · rw [if_pos y] at h'; exact absurd h' (erP_ne (by decide))
    · rw [if_neg y] at h' z2 ⊢
      exact ⟨rfl, h', by omega, by omega, z2⟩
theorem rlF_ok {inp f : Nat → Int32} {e c : Nat} {s : PS} (h : Okr f c) (hs : PV e s) : ∃ c2, c2 ≤ 12 ∧ Okr (rlF inp e f c s) c2 := by
  unfold rlF
  by_cases z : ¬ f 7 = nI 12 ∧ (rlE inp e f c s).2.2.2.2.2.1 = 0
  · rw [if_pos z]
    have h12 : c < 12 := by
      have := h.2.1
      rcases Nat.lt_or_ge c 12 with y | y
      · exact y
      · exact absurd (by rw [h.1, show c = 12 by omega]) z.1
    obtain ⟨e1, -, -, e4, -⟩ := rlA_ok (rlA_len z.2 hs)
    exact ⟨c + 1, by omega, nmF_ok rfl (by rw [e1]; exact e4) (comF_ok h h12 (by have := (hvP_b (s := rlB inp e f c s) (show 0 ≤ 4 by decide)).2; omega))⟩
  · rw [if_neg z]; exact ⟨c, h.2.1, h⟩
theorem payF_ok {f : Nat → Int32} {c k : Nat} {x : Int32} (h : Okr f c) : Okr (payF f k x) c := by
  unfold payF
  exact ⟨by rw [pk_un (by omega), pk_un (by omega)]; exact h.1, h.2.1, h.2.2.of fun j hj => by rw [pk_un (by omega), pk_un (by omega)]⟩
theorem upfl_ok {f : Nat → Int32} {c k φ : Nat} (h : Okr f c) (hφ : φ < 5) : Okr (upd f (13 + 16 * k) (nI φ)) c := by
  refine ⟨by rw [pk_un (by omega)]; exact h.1, h.2.1, fun j hj => ?_⟩
  by_cases e : j = k
  · subst e; exact ⟨φ, hφ, pk_us⟩
  · rw [pk_un (by omega)]; exact h.2.2 j hj
theorem lnF_ok {inp f J : Nat → Int32} {e c : Nat} {s : PS} (h : Okr f c) (hs : PV e s) : ∃ c2, c2 ≤ 12 ∧ Okr (lnF inp e f J c s) c2 := by
  unfold lnF
  split
  · exact rlF_ok h hs
  · split
    · unfold ryF; split
      · exact ⟨c, h.2.1, payF_ok h⟩
      · exact ⟨c, h.2.1, h⟩
    · split
      · unfold rmF; split
        · exact ⟨c, h.2.1, upfl_ok h (by have := (hvP_b (s := ryA inp e f c s) (show 0 ≤ 4 by decide)).2; omega)⟩
        · exact ⟨c, h.2.1, h⟩
      · split
        · obtain ⟨c2, h1, h2⟩ := dysM_ok (I := J) h (rdN inp e s)
          exact ⟨c2, by have := h.2.1; omega, h2⟩
        · exact ⟨c, h.2.1, h⟩
end GPP4
section GAGR
variable {Γ : Gm} {mo : Nat} {F : Hp} {I : Nat → Int32} {A : Nat → Nat → Int32} {f g : Nat → Int32}
theorem arrV_c {c : ClassId} {N : Nat} {V V2 : Nat → Value} (h : ∀ j, j < N → V j = V2 j) : arrV c N V = arrV c N V2 := by
  unfold arrV
  congr 2
  funext j
  exact h j.val j.isLt
/-- another row that is the same on its 205 places -/
theorem HS_ag {H : Heap} (h : ∀ j, j < 205 → f j = g j) (hs : HS Γ (MW Γ mo F I A f) H) : HS Γ (MW Γ mo F I A g) H := by
  intro a e he
  by_cases ha : a = mo + 3
  · subst ha
    rw [MW_3] at he
    cases he
    obtain ⟨h1, h2⟩ := hs (mo + 3) _ MW_3
    refine ⟨?_, h2⟩
    have h1' : H[mo + 3]? = some (vp_cell (gA Γ 0) (205, .inl f)) := h1
    show H[mo + 3]? = some (vp_cell (gA Γ 0) (205, .inl g))
    rw [h1', vp_cell_i, vp_cell_i]
    exact congrArg some (arrV_c fun j hj => by rw [h j hj])
  · refine hs a e ?_
    unfold MW at he ⊢
    simp only [if_neg ha] at he ⊢
    exact he
variable {d : Nat} {M : Mr} {P : Po} {X : Px} {pc : Nat} {lv : List (Nat × Value)} {st : List Value} {n kc ks : Nat}
theorem G.conv {E E2 : Hp} (h : ∀ H, HS Γ E H → HS Γ E2 H) (k : G Γ d M P X pc lv st E2 n kc ks) : G Γ d M P X pc lv st E n kc ks := fun p e R s m args below meth c Q hF hE H locs cells slots ls h1 h2 h3 h4 h5 h6 => k p e R s m args below meth c Q hF hE H locs cells slots ls (h H h1) h2 h3 h4 h5 h6
theorem m_ag (h : ∀ j, j < 205 → f j = g j) (k : G Γ d M P X pc lv st (MW Γ mo F I A g) n kc ks) : G Γ d M P X pc lv st (MW Γ mo F I A f) n kc ks := G.conv (fun _ => HS_ag h) k
theorem b2b {z : Int32} : z.toInt8.toInt32.toInt8.toInt32 = z.toInt8.toInt32 := (vp_nar_byte _).symm.trans (pk_vb z)
/-- the bytes of a word, the highest first -/
def byt (w : Int32) : Nat → Int32
  | 0 => (w >>> (nI 24 &&& 31)).toInt8.toInt32
  | 1 => (w >>> (nI 16 &&& 31)).toInt8.toInt32
  | 2 => (w >>> (nI 8 &&& 31)).toInt8.toInt32
  | _ => w.toInt8.toInt32
def fdF (inp : Nat → Int32) (m : Nat) (w : Int32) : Nat → Int32 := upd (upd (upd (upd inp m (byt w 0)) (m + 1) (byt w 1)) (m + 2) (byt w 2)) (m + 3) (byt w 3)
/-- arrays that are scratch: aside, averages, crowds -/
def Sc3 (A B : Nat → Nat → Int32) : Prop := ∀ j, j ≠ 3 → j ≠ 6 → j ≠ 7 → B j = A j
theorem Sc3.rf {A : Nat → Nat → Int32} : Sc3 A A := fun _ _ _ _ => rfl
theorem Sc3.tr {A B C : Nat → Nat → Int32} (h : Sc3 A B) (h2 : Sc3 B C) : Sc3 A C := fun j a b c => (h2 j a b c).trans (h j a b c)
theorem Sc3.of {A B : Nat → Nat → Int32} (h : Sc A B) : Sc3 A B := fun j _ b c => h j b c
theorem Sc3.u3 {A : Nat → Nat → Int32} {g : Nat → Int32} : Sc3 A (updA A 3 g) := fun j a _ _ => by unfold updA; rw [if_neg a]
theorem updA_n {A : Nat → Nat → Int32} {j k : Nat} {g : Nat → Int32} (h : k ≠ j) : updA A j g k = A k := if_neg h
abbrev z0 (s : PS) : PS := (0, s.2.1, 0, s.2.2.2.1, 0, s.2.2.2.2.2)
end GAGR
