/-! THE PARSER'S NUMBERS. A parser's state: kind, from, to, value, fault, place of the fault. -/
noncomputable section GPP
/-- a value that is not looked into -/
def op {α : Type} (x : α) : α := Classical.choose (⟨x, rfl⟩ : ∃ y : α, y = x)
theorem op_eq {α : Type} {x : α} : op x = x := Classical.choose_spec (⟨x, rfl⟩ : ∃ y : α, y = x)
abbrev PS : Type := Nat × Nat × Nat × Nat × Nat × Nat
/-- the reference's whole numbers with a parser's state in them -/
def pI (J : Nat → Int32) (s : PS) : Nat → Int32 := fun i => if i = 20 then nI s.1 else if i = 21 then nI s.2.1 else if i = 22 then nI s.2.2.1 else if i = 23 then nI s.2.2.2.1 else if i = 24 then nI s.2.2.2.2.1 else if i = 25 then nI s.2.2.2.2.2 else J i
theorem pI_20 {J : Nat → Int32} {s : PS} {x : Nat} : upd (pI J s) 20 (nI x) = pI J (x, s.2) := by
  funext i; unfold upd pI; by_cases h : i = 20 <;> simp [h]
theorem pI_21 {J : Nat → Int32} {s : PS} {x : Nat} : upd (pI J s) 21 (nI x) = pI J (s.1, x, s.2.2) := by
  funext i; unfold upd pI; by_cases h : i = 21 <;> simp [h]
theorem pI_22 {J : Nat → Int32} {s : PS} {x : Nat} : upd (pI J s) 22 (nI x) = pI J (s.1, s.2.1, x, s.2.2.2) := by
  funext i; unfold upd pI; by_cases h : i = 22 <;> simp [h]
theorem pI_23 {J : Nat → Int32} {s : PS} {x : Nat} : upd (pI J s) 23 (nI x) = pI J (s.1, s.2.1, s.2.2.1, x, s.2.2.2.2) := by
  funext i; unfold upd pI; by_cases h : i = 23 <;> simp [h]
theorem pI_24 {J : Nat → Int32} {s : PS} {x : Nat} : upd (pI J s) 24 (nI x) = pI J (s.1, s.2.1, s.2.2.1, s.2.2.2.1, x, s.2.2.2.2.2) := by
  funext i; unfold upd pI; by_cases h : i = 24 <;> simp [h]
theorem pI_25 {J : Nat → Int32} {s : PS} {x : Nat} : upd (pI J s) 25 (nI x) = pI J (s.1, s.2.1, s.2.2.1, s.2.2.2.1, s.2.2.2.2.1, x) := by
  funext i; unfold upd pI; by_cases h : i = 25 <;> simp [h]
theorem pI_J {J : Nat → Int32} {s : PS} {k : Nat} {x : Int32} (h : k < 20) : upd (pI J s) k x = pI (upd J k x) s := by
  funext i; unfold upd pI
  by_cases e : i = k
  · subst e
    rw [if_pos rfl, if_neg (by omega), if_neg (by omega), if_neg (by omega), if_neg (by omega), if_neg (by omega), if_neg (by omega)]
    exact (if_pos rfl).symm
  · simp only [if_neg e]
theorem pI_o {J : Nat → Int32} {s : PS} {k : Nat} (h : k < 20) : pI J s k = J k := by
  unfold pI; rw [if_neg (by omega), if_neg (by omega), if_neg (by omega), if_neg (by omega), if_neg (by omega), if_neg (by omega)]
/-- letters, figures, spaces -/
def spB (inp : Nat → Int32) (p : Nat) : Bool := decide (inp p = nI 32 ∨ inp p = nI 10)
def ltB (inp : Nat → Int32) (p : Nat) : Bool := decide (nI 97 ≤ inp p ∧ inp p ≤ nI 122)
def dgB (inp : Nat → Int32) (p : Nat) : Bool := decide (nI 48 ≤ inp p ∧ inp p ≤ nI 57)
theorem spB_t {inp : Nat → Int32} {p : Nat} : spB inp p = true ↔ (inp p = nI 32 ∨ inp p = nI 10) := by unfold spB; simp
theorem ltB_t {inp : Nat → Int32} {p : Nat} : ltB inp p = true ↔ (nI 97 ≤ inp p ∧ inp p ≤ nI 122) := by unfold ltB; simp
theorem dgB_t {inp : Nat → Int32} {p : Nat} : dgB inp p = true ↔ (nI 48 ≤ inp p ∧ inp p ≤ nI 57) := by unfold dgB; simp
/-- the end of a run of places with c, from p on, m places left -/
def spn (c : Nat → Bool) : Nat → Nat → Nat
  | 0, p => p
  | m + 1, p => if c p = true then spn c m (p + 1) else p
theorem spn_ge (c : Nat → Bool) : ∀ m p, p ≤ spn c m p
  | 0, p => Nat.le_refl p
  | m + 1, p => by rw [spn]; split; exact Nat.le_trans (Nat.le_succ p) (spn_ge c m (p + 1)); exact Nat.le_refl p
theorem spn_le (c : Nat → Bool) : ∀ m p, spn c m p ≤ p + m
  | 0, p => Nat.le_refl p
  | m + 1, p => by rw [spn]; split; exact Nat.le_trans (spn_le c m (p + 1)) (by omega); exact Nat.le_add_right p _
theorem spn_t {c : Nat → Bool} {m p : Nat} (h : c p = true) : spn c (m + 1) p = spn c m (p + 1) := by rw [spn, if_pos h]
theorem spn_f {c : Nat → Bool} {m p : Nat} (h : ¬ c p = true) : spn c m p = p := by
  cases m with
  | zero => rfl
  | succ m => rw [spn, if_neg h]
theorem spn_in (c : Nat → Bool) : ∀ m p j, p ≤ j → j < spn c m p → c j = true
  | 0, p, j, h1, h2 => by rw [spn] at h2; omega
  | m + 1, p, j, h1, h2 => by
    rw [spn] at h2
    by_cases h : c p = true
    · rw [if_pos h] at h2
      by_cases e : j = p
      · subst e; exact h
      · exact spn_in c m (p + 1) j (by omega) h2
    · rw [if_neg h] at h2; omega
theorem spn_end (c : Nat → Bool) : ∀ m p, spn c m p < p + m → ¬ c (spn c m p) = true
  | 0, p, h => by rw [spn] at h; omega
  | m + 1, p, h => by
    rw [spn] at h ⊢
    by_cases h2 : c p = true
    · rw [if_pos h2] at h ⊢; exact spn_end c m (p + 1) (by omega)
    · rw [if_neg h2]; exact h2
/-- the number of k figures -/
def vlN (inp : Nat → Int32) (fr : Nat) : Nat → Nat
  | 0 => 0
  | k + 1 => 10 * vlN inp fr k + ((inp (fr + k)).toNatClampNeg - 48)
def lo3 (k : Nat) : Nat := if k < 3 then k else 3
/-- does the next token want a space ahead of it -/
def ndB (kd : Nat) : Bool := decide (kd = 1 ∨ kd = 2)
/-- the next token's start -/
def skP (inp : Nat → Int32) (e t : Nat) : Nat := spn (spB inp) (e - t) t
/-- the token at fr (g: it touches what stands ahead) -/
def tkP (inp : Nat → Int32) (e fr : Nat) (g : Bool) (v ft fa : Nat) : PS :=
  if fr = e then (0, fr, fr, v, ft, fa)
  else if ltB inp fr = true then (if g = true then 4 else 1, fr, spn (ltB inp) (e - fr) fr, v, ft, fa)
  else if dgB inp fr = true then (if g = true ∨ 3 < spn (dgB inp) (e - fr) fr - fr then 4 else 2, fr, spn (dgB inp) (e - fr) fr, vlN inp fr (lo3 (spn (dgB inp) (e - fr) fr - fr)), ft, fa)
  else (if inp fr = nI 59 then 3 else 4, fr, fr + 1, v, ft, fa)
def nxP (inp : Nat → Int32) (e : Nat) (s : PS) : PS := op (tkP inp e (skP inp e s.2.2.1) (ndB s.1 && decide (skP inp e s.2.2.1 = s.2.2.1)) s.2.2.2.1 s.2.2.2.2.1 s.2.2.2.2.2)
def erP (code : Nat) (s : PS) : PS := op (if s.2.2.2.2.1 = 0 then (s.1, s.2.1, s.2.2.1, s.2.2.2.1, code, s.2.1) else s)
def goP (inp : Nat → Int32) (e : Nat) (s : PS) : PS := op (if s.2.2.2.2.1 = 0 then nxP inp e s else s)
/-- the six words, eight letters a word -/
def kyL : List Nat := [104, 111, 117, 115, 101, 0, 0, 0, 108, 97, 110, 100, 108, 97, 100, 121, 108, 111, 100, 103, 101, 114, 0, 0, 112, 97, 121, 0, 0, 0, 0, 0, 109, 111, 118, 101, 0, 0, 0, 0, 100, 97, 121, 115, 0, 0, 0, 0]
def kyF : Nat → Int32 := fun j => nI (kyL.getD j 0)
/-- the letter at place k of the token, or 0 behind it -/
def letP (inp : Nat → Int32) (s : PS) (k : Nat) : Int32 := if k < s.2.2.1 - s.2.1 then inp (s.2.1 + k) else nI 0
def eqK (inp : Nat → Int32) (s : PS) (key : Nat) : Nat → Bool
  | 0 => true
  | k + 1 => eqK inp s key k && decide (letP inp s k = kyF (8 * key + k))
def keyP (inp : Nat → Int32) (s : PS) (key : Nat) : Bool := decide (s.1 = 1 ∧ s.2.2.1 - s.2.1 ≤ 8) && eqK inp s key 8
/-- a number is here: in its range, or not -/
def hrP (lo hi : Nat) (s : PS) : PS := op (if ¬ s.2.2.2.2.1 = 0 then s else if ¬ s.1 = 2 then erP 1 s else if lo ≤ s.2.2.2.1 ∧ s.2.2.2.1 ≤ hi then s else erP 2 s)
def hvP (lo hi : Nat) (s : PS) : Nat := if (hrP lo hi s).2.2.2.2.1 = 0 then s.2.2.2.1 else lo
def tnP (inp : Nat → Int32) (e lo hi : Nat) (s : PS) : PS := goP inp e (hrP lo hi s)
def twP (inp : Nat → Int32) (e key : Nat) (s : PS) : PS := op (goP inp e (if s.2.2.2.2.1 = 0 ∧ ¬ keyP inp s key = true then erP 1 s else s))
def tsP (inp : Nat → Int32) (e : Nat) (s : PS) : PS := op (goP inp e (if s.2.2.2.2.1 = 0 ∧ s.1 ≠ 3 then erP 1 s else s))
def nmP (s : PS) : PS := op (if s.2.2.2.2.1 = 0 ∧ (s.1 ≠ 1 ∨ 6 < s.2.2.1 - s.2.1) then erP 1 s else s)
/-- a state that is one: of a text of e places -/
def PV (e : Nat) (s : PS) : Prop := s.1 ≤ 4 ∧ s.2.1 ≤ s.2.2.1 ∧ s.2.2.1 ≤ e ∧ s.2.2.2.1 < 2 ^ 31 ∧ s.2.2.2.2.1 ≤ 6 ∧ s.2.2.2.2.2 ≤ 600 ∧ (s.1 = 2 → s.2.2.2.1 < 1000) ∧ (s.1 ≠ 0 → s.2.1 < s.2.2.1) ∧ e ≤ 600
end GPP
section GPW
variable {Γ : Gm} {mo : Nat} {F : Hp} {J : Nat → Int32} {A : Nat → Nat → Int32} {f : Nat → Int32} {s : PS} {d : Nat} {M : Mr} {P : Po} {X : Px} {pc : Nat} {lv : List (Nat × Value)} {st rest : List Value} {n kc ks : Nat}
theorem m_putJ {ix k : Nat} {x : Int32} (hf : Fl M.1 ix 11 k) (hw : Fw 11 k .int false) (hk : k < 20) (hk2 : k < 26) (hs : (moObj mo (pI J s)).set k (.int x) = moObj mo (upd (pI J s) k x)) (d1 : decode M.2.2.1 pc = .ok (.putfield ix, 3)) (kk : G Γ d M P X (pc + 3) lv st (MW Γ mo F (pI (upd J k x) s) A f) n kc ks) : G Γ d M P X pc lv (.int x :: .ref mo :: st) (MW Γ mo F (pI J s) A f) n kc ks := m_put hf hw hk2 hs d1 (by rw [pI_J hk]; exact kk)
end GPW
section GPF
variable {inp : Nat → Int32} {e : Nat} {s : PS}
theorem skP_ge {t : Nat} : t ≤ skP inp e t := spn_ge _ _ _
theorem skP_le {t : Nat} (h : t ≤ e) : skP inp e t ≤ e := by have := spn_le (spB inp) (e - t) t; unfold skP; omega
theorem dg_le {x : Int32} (h : x ≤ nI 57) : x.toNatClampNeg ≤ 57 := by
  by_cases h0 : x < 0
  · have : x.toInt < 0 := by rw [Int32.lt_iff_toInt_lt, Int32.toInt_zero] at h0; exact h0
    unfold Int32.toNatClampNeg; omega
  · obtain ⟨j, hj, rfl⟩ := nI_of h0
    rw [nI_clamp hj]
    exact (nI_leI hj (by decide)).mp h
theorem dg_ge {x : Int32} (h : nI 48 ≤ x) (h2 : x ≤ nI 57) : 48 ≤ x.toNatClampNeg ∧ x = nI x.toNatClampNeg := by
  have h0 : ¬ x < 0 := fun z => by
    rw [Int32.lt_iff_toInt_lt, Int32.toInt_zero] at z
    rw [Int32.le_iff_toInt_le, nI_toInt (by decide)] at h
    omega
  obtain ⟨j, hj, rfl⟩ := nI_of h0
  rw [nI_clamp hj]
  exact ⟨(nI_leI (by decide) hj).mp h, rfl⟩
theorem vlN_b {fr : Nat} : ∀ k, (∀ j, fr ≤ j → j < fr + k → dgB inp j = true) → vlN inp fr k < 10 ^ k
  | 0, _ => by show 0 < 1; decide
  | k + 1, h => by
    have h1 := vlN_b k (fun j a b => h j a (by omega))
    have h2 := dg_le ((dgB_t.mp (h (fr + k) (by omega) (by omega))).2)
    rw [vlN, Nat.pow_succ]
    omega
theorem lo3_b (k : Nat) : lo3 k ≤ 3 ∧ lo3 k ≤ k := by unfold lo3; split <;> omega
theorem vlN_lo {fr m : Nat} : vlN inp fr (lo3 (spn (dgB inp) m fr - fr)) < 1000 := by
  have h := lo3_b (spn (dgB inp) m fr - fr)
  have h1 := vlN_b (inp := inp) (fr := fr) (lo3 (spn (dgB inp) m fr - fr)) (fun j a b => spn_in _ m fr j a (by have := spn_ge (dgB inp) m fr; omega))
  have h2 : 10 ^ lo3 (spn (dgB inp) m fr - fr) ≤ 10 ^ 3 := Nat.pow_le_pow_right (by decide) h.1
  omega
theorem spn_gt {c : Nat → Bool} {m p : Nat} (h : c p = true) (hm : 0 < m) : p < spn c m p := by
  cases m with
  | zero => omega
  | succ m => rw [spn_t h]; have := spn_ge c m (p + 1); omega
theorem tkP_v {fr v ft fa : Nat} {g : Bool} (h : fr ≤ e) (he : e ≤ 600) (hv : v < 2 ^ 31) (hft : ft ≤ 6) (hfa : fa ≤ 600) : PV e (tkP inp e fr g v ft fa) := by
  unfold tkP
  by_cases h1 : fr = e
  · rw [if_pos h1]; exact ⟨Nat.zero_le _, Nat.le_refl _, h, hv, hft, hfa, (by intro z; cases z), (fun z => absurd rfl z), he⟩
  · rw [if_neg h1]
    by_cases h2 : ltB inp fr = true
    · rw [if_pos h2]
      have a1 := spn_gt (m := e - fr) h2 (by omega)
      have a2 := spn_le (ltB inp) (e - fr) fr
      refine ⟨by show (if g = true then 4 else 1) ≤ 4; split <;> omega, Nat.le_of_lt a1, by show spn _ _ _ ≤ e; omega, hv, hft, hfa, ?_, fun _ => a1, he⟩
      intro z; exfalso; revert z; show (if g = true then 4 else 1) = 2 → False; split <;> omega
    · rw [if_neg h2]
      by_cases h3 : dgB inp fr = true
      · rw [if_pos h3]
        have a1 := spn_gt (m := e - fr) h3 (by omega)
        have a2 := spn_le (dgB inp) (e - fr) fr
        have a3 := vlN_lo (inp := inp) (fr := fr) (m := e - fr)
        exact ⟨by show (if _ then 4 else 2) ≤ 4; split <;> omega, Nat.le_of_lt a1, by show spn _ _ _ ≤ e; omega, by show vlN _ _ _ < 2 ^ 31; omega, hft, hfa, fun _ => a3, fun _ => a1, he⟩
      · rw [if_neg h3]
        refine ⟨by show (if inp fr = nI 59 then 3 else 4) ≤ 4; split <;> omega, Nat.le_succ _, by show fr + 1 ≤ e; omega, hv, hft, hfa, ?_, fun _ => Nat.lt_succ_self _, he⟩
        intro z; exfalso; revert z; show (if inp fr = nI 59 then 3 else 4) = 2 → False; split <;> omega
theorem nxP_v0 (h : s.2.2.1 ≤ e) (he : e ≤ 600) (hv : s.2.2.2.1 < 2 ^ 31) (hft : s.2.2.2.2.1 ≤ 6) (hfa : s.2.2.2.2.2 ≤ 600) : PV e (nxP inp e s) := by unfold nxP; rw [op_eq]; exact tkP_v (skP_le h) he hv hft hfa
theorem nxP_v (h : PV e s) : PV e (nxP inp e s) := nxP_v0 h.2.2.1 h.2.2.2.2.2.2.2.2 h.2.2.2.1 h.2.2.2.2.1 h.2.2.2.2.2.1
theorem nxP_fr : s.2.2.1 ≤ (nxP inp e s).2.1 := by
  unfold nxP; rw [op_eq]
  have : ∀ (fr : Nat) (g : Bool) (v ft fa : Nat), (tkP inp e fr g v ft fa).2.1 = fr := by
    intro fr g v ft fa
    unfold tkP; split <;> (try rfl); split <;> (try rfl); split <;> rfl
  rw [this]; exact spn_ge _ _ _
theorem tkP_ft {fr v ft fa : Nat} {g : Bool} : (tkP inp e fr g v ft fa).2.2.2.2 = (ft, fa) := by
  unfold tkP; split <;> (try rfl); split <;> (try rfl); split <;> rfl
theorem nxP_ft : (nxP inp e s).2.2.2.2 = s.2.2.2.2 := by unfold nxP; rw [op_eq]; exact tkP_ft
theorem erP_t {c : Nat} (h : s.2.2.2.2.1 = 0) : erP c s = (s.1, s.2.1, s.2.2.1, s.2.2.2.1, c, s.2.1) := by unfold erP; rw [op_eq]; exact if_pos h
theorem erP_f {c : Nat} (h : ¬ s.2.2.2.2.1 = 0) : erP c s = s := by unfold erP; rw [op_eq]; exact if_neg h
theorem erP_v {c : Nat} (h : PV e s) (hc : c ≤ 6) : PV e (erP c s) := by
  unfold erP; rw [op_eq]; split
  · exact ⟨h.1, h.2.1, h.2.2.1, h.2.2.2.1, hc, Nat.le_trans (Nat.le_trans h.2.1 h.2.2.1) h.2.2.2.2.2.2.2.2, h.2.2.2.2.2.2⟩
  · exact h
theorem erP_ne {c : Nat} (hc : c ≠ 0) : ¬ (erP c s).2.2.2.2.1 = 0 := by
  unfold erP; rw [op_eq]; split
  · exact hc
  · assumption
theorem goP_t (h : s.2.2.2.2.1 = 0) : goP inp e s = nxP inp e s := by unfold goP; rw [op_eq]; exact if_pos h
theorem goP_f (h : ¬ s.2.2.2.2.1 = 0) : goP inp e s = s := by unfold goP; rw [op_eq]; exact if_neg h
theorem goP_v (h : PV e s) : PV e (goP inp e s) := by
  unfold goP; rw [op_eq]; split
  · exact nxP_v h
  · exact h
theorem goP_ft : (goP inp e s).2.2.2.2 = s.2.2.2.2 := by
  unfold goP; rw [op_eq]; split
  · exact nxP_ft
  · rfl
theorem hrP_f {lo hi : Nat} (h : ¬ s.2.2.2.2.1 = 0) : hrP lo hi s = s := by unfold hrP; rw [op_eq]; exact if_pos h
theorem hrP_k {lo hi : Nat} (h : s.2.2.2.2.1 = 0) (h2 : ¬ s.1 = 2) : hrP lo hi s = erP 1 s := by unfold hrP; rw [op_eq, if_neg (fun z => z h), if_pos h2]
theorem hrP_o {lo hi : Nat} (h : s.2.2.2.2.1 = 0) (h2 : s.1 = 2) (h3 : lo ≤ s.2.2.2.1 ∧ s.2.2.2.1 ≤ hi) : hrP lo hi s = s := by unfold hrP; rw [op_eq, if_neg (fun z => z h), if_neg (fun z => z h2), if_pos h3]
theorem hrP_r {lo hi : Nat} (h : s.2.2.2.2.1 = 0) (h2 : s.1 = 2) (h3 : ¬ (lo ≤ s.2.2.2.1 ∧ s.2.2.2.1 ≤ hi)) : hrP lo hi s = erP 2 s := by unfold hrP; rw [op_eq, if_neg (fun z => z h), if_neg (fun z => z h2), if_neg h3]
theorem hrP_live {lo hi : Nat} (h : (hrP lo hi s).2.2.2.2.1 = 0) : s.2.2.2.2.1 = 0 ∧ s.1 = 2 ∧ (lo ≤ s.2.2.2.1 ∧ s.2.2.2.1 ≤ hi) ∧ hrP lo hi s = s := by
  by_cases h1 : s.2.2.2.2.1 = 0
  · by_cases h2 : s.1 = 2
    · by_cases h3 : lo ≤ s.2.2.2.1 ∧ s.2.2.2.1 ≤ hi
      · exact ⟨h1, h2, h3, hrP_o h1 h2 h3⟩
      · rw [hrP_r h1 h2 h3] at h; exact absurd h (erP_ne (by decide))
    · rw [hrP_k h1 h2] at h; exact absurd h (erP_ne (by decide))
  · rw [hrP_f h1] at h; exact absurd h h1
theorem hrP_v {lo hi : Nat} (h : PV e s) : PV e (hrP lo hi s) := by
  unfold hrP; rw [op_eq]; split
  · exact h
  · split
    · exact erP_v h (by decide)
    · split
      · exact h
      · exact erP_v h (by decide)
theorem hvP_t {lo hi : Nat} (h : (hrP lo hi s).2.2.2.2.1 = 0) : hvP lo hi s = s.2.2.2.1 := if_pos h
theorem hvP_f {lo hi : Nat} (h : ¬ (hrP lo hi s).2.2.2.2.1 = 0) : hvP lo hi s = lo := if_neg h
theorem hvP_b {lo hi : Nat} (h : lo ≤ hi) : lo ≤ hvP lo hi s ∧ hvP lo hi s ≤ hi := by
  by_cases h1 : (hrP lo hi s).2.2.2.2.1 = 0
  · rw [hvP_t h1]; exact (hrP_live h1).2.2.1
  · rw [hvP_f h1]; exact ⟨Nat.le_refl _, h⟩
theorem tnP_v {lo hi : Nat} (h : PV e s) : PV e (tnP inp e lo hi s) := goP_v (hrP_v h)
theorem twP_v {key : Nat} (h : PV e s) : PV e (twP inp e key s) := by
  unfold twP; rw [op_eq]; apply goP_v; split
  · exact erP_v h (by decide)
  · exact h
theorem tsP_v (h : PV e s) : PV e (tsP inp e s) := by
  unfold tsP; rw [op_eq]; apply goP_v; split
  · exact erP_v h (by decide)
  · exact h
theorem nmP_v (h : PV e s) : PV e (nmP s) := by
  unfold nmP; rw [op_eq]; split
  · exact erP_v h (by decide)
  · exact h
theorem vl_step {a : Nat} {x : Int32} (h : nI 48 ≤ x ∧ x ≤ nI 57) : nI (10 * a) + x - nI 48 = nI (10 * a + (x.toNatClampNeg - 48)) := by
  obtain ⟨h1, h2⟩ := dg_ge h.1 h.2
  rw [h2, nI_clamp (by have := dg_le h.2; omega), nI_add, pk_sub (by omega)]
  congr 1; omega
theorem lo3_lt {k : Nat} (h : k < 3) : lo3 k = k := if_pos h
theorem lo3_ge {k : Nat} (h : 3 ≤ k) : lo3 k = 3 := if_neg (by omega)
theorem lo3_s {k : Nat} (h : k < 3) : lo3 (k + 1) = k + 1 := by unfold lo3; split <;> omega
end GPF
