/-! the class's parser: its world, and the reference's state -/
section GPAR
/-- fault, its place; the token: kind, start, end -/
abbrev PT : Type := Nat × Int32 × Nat × Nat × Nat
def prF (pb ti : Nat) (t : PT) : List Value := [.ref ti, .ref (pb + 43), .ref (pb + 1), .int (nI t.1), .int t.2.1]
def PW (Γ : Gm) (pb ti : Nat) (F : Hp) (e : Nat) (t : PT) (R : Hr) : Hp := HW Γ (pb + 1) (hset (hset F pb (.inr (8, prF pb ti t))) (pb + 43) (.inr (9, tkF Γ ti (pb + 44) e t.2.2.1 t.2.2.2.1 t.2.2.2.2))) R
variable {Γ : Gm} {pb ti e : Nat} {F S : Hp} {t t2 : PT} {R R2 : Hr}
theorem PW_eq : PW Γ pb ti F e t R = HW Γ (pb + 1) (hset (hset F pb (.inr (8, prF pb ti t))) (pb + 43) (.inr (9, tkF Γ ti (pb + 44) e t.2.2.1 t.2.2.2.1 t.2.2.2.2))) R := rfl
theorem PW_p : PW Γ pb ti F e t R pb = some (.inr (8, prF pb ti t)) := by
  rw [PW_eq, HW_o (by omega)]; exact (hset_n (by omega)).trans hset_s
theorem PW_t : PW Γ pb ti F e t R (pb + 43) = some (.inr (9, tkF Γ ti (pb + 44) e t.2.2.1 t.2.2.2.1 t.2.2.2.2)) := by
  rw [PW_eq, HW_o (by omega)]; exact hset_s
theorem PW_o {a : Nat} (h : ¬ (pb ≤ a ∧ a < pb + 44)) : PW Γ pb ti F e t R a = F a := by
  rw [PW_eq, HW_o (by omega)]; exact (hset_n (by omega)).trans (hset_n (by omega))
theorem PW_h : PW Γ pb ti F e t R (pb + 1) = some (.inr (6, hoF (pb + 1) R.1)) := HW_h
theorem hset_HW {hb a : Nat} {x : va_E} (h : ¬ (hb ≤ a ∧ a < hb + 42)) : hset (HW Γ hb F R) a x = HW Γ hb (hset F a x) R := by
  funext q; unfold hset HW
  by_cases e : q = a
  · subst e; rw [if_pos rfl, if_neg h]; exact (if_pos rfl).symm
  · by_cases g : hb ≤ q ∧ q < hb + 42
    · rw [if_neg e, if_pos g, if_pos g]
    · rw [if_neg e, if_neg g, if_neg g]; exact (if_neg e).symm
theorem PW_sp (h : t2.2.2 = t.2.2) : hset (PW Γ pb ti F e t R) pb (.inr (8, prF pb ti t2)) = PW Γ pb ti F e t2 R := by
  rw [PW_eq, PW_eq, hset_HW (by omega), hset_c (by omega), h]
theorem PW_st {e2 κ sg en : Nat} : hset (PW Γ pb ti F e t R) (pb + 43) (.inr (9, tkF Γ ti (pb + 44) e2 κ sg en)) = PW Γ pb ti F e2 (t.1, t.2.1, κ, sg, en) R := by
  rw [PW_eq, PW_eq, hset_HW (by omega), hset_hs]; rfl
theorem PW_F {F2 : Hp} (h : ∀ a, ¬ (pb ≤ a ∧ a < pb + 44) → F a = F2 a) : PW Γ pb ti F e t R = PW Γ pb ti F2 e t R := by
  rw [PW_eq, PW_eq]
  refine HW_F fun a ha => ?_
  unfold hset
  by_cases h1 : a = pb + 43
  · rw [if_pos h1, if_pos h1]
  · by_cases h2 : a = pb
    · rw [if_neg h1, if_neg h1, if_pos h2, if_pos h2]
    · rw [if_neg h1, if_neg h1, if_neg h2, if_neg h2]; exact h a (by omega)
theorem PW_of {E : Hp} (hp : E pb = some (.inr (8, prF pb ti t))) (ht : E (pb + 43) = some (.inr (9, tkF Γ ti (pb + 44) e t.2.2.1 t.2.2.2.1 t.2.2.2.2))) (hh : HAt Γ E (pb + 1) R) : E = PW Γ pb ti E e t R := by
  rw [PW_eq, hset_id hp, hset_id ht]; exact hh.eq
/-- names lie behind all else -/
def Sto (S F : Hp) (q n lv : Nat) : Prop := ∀ a v, S a = some v → F a = some v ∧ q ≤ a ∧ a < n ∧ a ≠ lv
theorem Sto.le {q n lv : Nat} (h : Sto S F q n lv) (hq : pb + 44 ≤ q) : ∀ a, Le S (PW Γ pb ti F e t R) a := fun a v hv => by
  obtain ⟨h1, h2, -⟩ := h a v hv
  rw [PW_o (by omega)]; exact h1
/-- the class's parser and the reference's state -/
def Tq (inp : Nat → Int32) (t : PT) (s : PS) : Prop := Tk t.2.2.1 t.2.2.2.1 t.2.2.2.2 s ∧ (s.1 = 2 → s.2.2.2.1 = vlN inp t.2.2.2.1 (t.2.2.2.2 - t.2.2.2.1))
def PRel (inp : Nat → Int32) (e : Nat) (s : PS) (t : PT) : Prop := TV inp e t.2.2.1 t.2.2.2.1 t.2.2.2.2 ∧ PV e s ∧ ((s.2.2.2.2.1 = 0 ∧ t.1 = 0 ∧ t.2.1 = -1 ∧ Tq inp t s) ∨ (s.2.2.2.2.1 ≠ 0 ∧ t.1 = s.2.2.2.2.1 ∧ t.2.1 = nI s.2.2.2.2.2))
def flT (t : PT) (k o : Nat) : PT := (if t.1 = 0 then k else t.1, if t.1 = 0 then nI o else t.2.1, t.2.2)
noncomputable def stT (inp : Nat → Int32) (e : Nat) (t : PT) : PT := (t.1, t.2.1, nxT inp e t.2.2.1 t.2.2.2.2)
theorem flT_0 {k o : Nat} (h : t.1 = 0) : flT t k o = (k, nI o, t.2.2) := by unfold flT; rw [if_pos h, if_pos h]
theorem flT_n {k o : Nat} (h : ¬ t.1 = 0) : flT t k o = t := by unfold flT; rw [if_neg h, if_neg h]
variable {inp : Nat → Int32} {s s2 : PS}
theorem PRel.live (h : PRel inp e s t) (h0 : s.2.2.2.2.1 = 0) : t.1 = 0 ∧ t.2.1 = -1 ∧ Tq inp t s := by
  rcases h.2.2 with z | z
  · exact z.2
  · exact absurd h0 z.1
theorem PRel.ek (h : PRel inp e s t) : t.1 = s.2.2.2.2.1 := by
  rcases h.2.2 with z | z
  · rw [z.1, z.2.1]
  · exact z.2.1
theorem PRel.dead (h : PRel inp e s t) (hv : PV e s2) (h0 : s2.2.2.2.2.1 ≠ 0) : PRel inp e s2 (s2.2.2.2.2.1, nI s2.2.2.2.2.2, t.2.2) := ⟨h.1, hv, Or.inr ⟨h0, rfl, rfl⟩⟩
theorem PRel.same (h : PRel inp e s t) (h0 : s.2.2.2.2.1 ≠ 0) {t3 : Nat × Nat × Nat} (hv : TV inp e t3.1 t3.2.1 t3.2.2) : PRel inp e s (t.1, t.2.1, t3) := ⟨hv, h.2.1, Or.inr (by
  rcases h.2.2 with z | z
  · exact absurd z.1 h0
  · exact z)⟩
theorem PRel.fail {k : Nat} (h : PRel inp e s t) (hk : k ≠ 0) (hk6 : k ≤ 6) : PRel inp e (erP k s) (flT t k t.2.2.2.1) := by
  by_cases h0 : s.2.2.2.2.1 = 0
  · obtain ⟨h1, h2, h3⟩ := h.live h0
    rw [flT_0 h1]
    have hv := erP_v (c := k) h.2.1 hk6
    rw [erP_t h0] at hv ⊢
    refine ⟨h.1, hv, Or.inr ⟨hk, rfl, ?_⟩⟩
    show nI t.2.2.2.1 = nI s.2.1
    rw [h3.1.1]
  · rw [erP_f h0, flT_n (fun z => h0 (by rw [← h.ek]; exact z))]; exact h
theorem PRel.step (h : PRel inp e s t) (hk : s.2.2.2.2.1 = 0 → t.2.2.1 = s.1) : PRel inp e (goP inp e s) (stT inp e t) := by
  have hv := nxT_v (inp := inp) (e := e) (κ := t.2.2.1) (en := t.2.2.2.2) h.1.2.2.1
  by_cases h0 : s.2.2.2.2.1 = 0
  · obtain ⟨h1, h2, ⟨h3, h4, h5, h6⟩, h7⟩ := h.live h0
    refine ⟨hv, goP_v h.2.1, Or.inl ⟨by rw [goP_ft]; exact h0, h1, h2, ?_⟩⟩
    rw [goP_t h0]
    unfold Tq Tk stT
    show ((nxT inp e t.2.2.1 t.2.2.2.2).2.1 = _ ∧ (nxT inp e t.2.2.1 t.2.2.2.2).2.2 = _ ∧ _) ∧ _
    rw [nxT_eq rfl, hk h0, h4]
    unfold nxP
    rw [op_eq]
    generalize (ndB s.1 && decide (skP inp e s.2.2.1 = s.2.2.1)) = g
    generalize skP inp e s.2.2.1 = fr
    by_cases a1 : fr = e
    · rw [tkT_e a1]; unfold tkP; rw [if_pos a1]
      exact ⟨⟨rfl, rfl, Or.inl rfl, fun z => by cases z⟩, fun z => by cases z⟩
    · by_cases a2 : ltB inp fr = true
      · rw [tkT_l a1 a2 rfl]; unfold tkP; rw [if_neg a1, if_pos a2]
        exact ⟨⟨rfl, rfl, Or.inl rfl, fun z => by exfalso; revert z; show (if g = true then 4 else 1) = 2 → False; split <;> omega⟩, fun z => by exfalso; revert z; show (if g = true then 4 else 1) = 2 → False; split <;> omega⟩
      · by_cases a3 : dgB inp fr = true
        · rw [tkT_d a1 a2 a3 rfl]; unfold tkP; rw [if_neg a1, if_neg a2, if_pos a3]
          generalize spn (dgB inp) (e - fr) fr = q
          by_cases a4 : g = true
          · rw [if_pos a4, if_pos (Or.inl a4)]
            exact ⟨⟨rfl, rfl, Or.inl rfl, fun z => by exfalso; revert z; show 4 = 2 → False; omega⟩, fun z => by exfalso; revert z; show 4 = 2 → False; omega⟩
          · rw [if_neg a4]
            by_cases a5 : 3 < q - fr
            · rw [if_pos (Or.inr a5)]
              exact ⟨⟨rfl, rfl, Or.inr ⟨rfl, rfl, a5⟩, fun z => by exfalso; revert z; show 4 = 2 → False; omega⟩, fun z => by exfalso; revert z; show 4 = 2 → False; omega⟩
            · rw [if_neg (by simp only [a4, a5]; decide)]
              refine ⟨⟨rfl, rfl, Or.inl rfl, fun _ => by show q - fr ≤ 3; omega⟩, fun _ => ?_⟩
              show vlN inp fr (lo3 (q - fr)) = vlN inp fr (q - fr)
              congr 1; unfold lo3; split <;> omega
        · rw [tkT_o a1 a2 a3 rfl]; unfold tkP; rw [if_neg a1, if_neg a2, if_neg a3]
          exact ⟨⟨rfl, rfl, Or.inl rfl, fun z => by exfalso; revert z; show (if inp fr = nI 59 then 3 else 4) = 2 → False; split <;> omega⟩, fun z => by exfalso; revert z; show (if inp fr = nI 59 then 3 else 4) = 2 → False; split <;> omega⟩
  · rw [goP_f h0]; exact h.same h0 hv
theorem eqK_of {key : Nat} : ∀ n, (∀ i, i < n → letP inp s i = kyF (8 * key + i)) → eqK inp s key n = true
  | 0, _ => rfl
  | n + 1, h => eqK_s (eqK_of n fun i hi => h i (by omega)) (h n (Nat.lt_succ_self n))
/-- the six words: length, place among the constants -/
def kyN (key : Nat) : Nat := [5, 8, 6, 3, 4, 4].getD key 0
def kyC (key : Nat) : Nat := [2, 3, 4, 11, 12, 13].getD key 0
theorem ky_all : ∀ key, key < 6 → ∀ i, i < 8 → (i < kyN key → kyL.getD (8 * key + i) 0 ≠ 0 ∧ kyL.getD (8 * key + i) 0 < 128) ∧ (kyN key ≤ i → kyL.getD (8 * key + i) 0 = 0) := by decide +kernel
theorem kyN_le : ∀ key, key < 6 → kyN key ≤ 8 := by decide +kernel
theorem PRel.key {key : Nat} (h : PRel inp e s t) (h0 : s.2.2.2.2.1 = 0) (hk : key < 6) : (t.2.2.1 = 1 ∧ t.2.2.2.2 - t.2.2.2.1 = kyN key ∧ ∀ i, i < kyN key → inp (t.2.2.2.1 + i) = kyF (8 * key + i)) ↔ keyP inp s key = true := by
  obtain ⟨h1, h2, ⟨h3, h4, h5, h6⟩, h7⟩ := h.live h0
  have hN := kyN_le key hk
  rw [h3, h4]
  constructor
  · rintro ⟨g1, g2, g3⟩
    refine keyP_t (by omega) (by omega) (eqK_of 8 fun i hi => ?_)
    by_cases hi2 : i < kyN key
    · rw [letP_t (by omega)]; exact g3 i hi2
    · rw [letP_f (by omega)]; exact (congrArg nI ((ky_all key hk i hi).2 (by omega))).symm
  · intro g
    obtain ⟨g1, g2, g3⟩ := keyP_i g
    have g4 := eqK_at 8 g3
    have hκ : t.2.2.1 = 1 := by omega
    have e1 : ¬ s.2.2.1 - s.2.1 < kyN key := fun z => by
      have q := g4 _ (show s.2.2.1 - s.2.1 < 8 by omega)
      rw [letP_f (by omega)] at q
      have q2 := ((ky_all key hk _ (show s.2.2.1 - s.2.1 < 8 by omega)).1 z)
      exact q2.1 ((nI_eq (by omega) (by omega)).mp q.symm)
    have e2 : ¬ kyN key < s.2.2.1 - s.2.1 := fun z => by
      have q := g4 _ (show kyN key < 8 by omega)
      rw [letP_t z] at q
      have q2 := (ky_all key hk _ (show kyN key < 8 by omega)).2 (Nat.le_refl _)
      have q3 := h.1.2.2.2.1 hκ (s.2.1 + kyN key) (by rw [h3]; omega) (by rw [h4]; omega)
      obtain ⟨j, j1, j2, j3⟩ := lt_q q3
      rw [j3] at q
      have q4 := (nI_eq (by omega) (by have : kyL.getD (8 * key + kyN key) 0 = 0 := q2; omega)).mp q
      have : kyL.getD (8 * key + kyN key) 0 = 0 := q2
      omega
    refine ⟨hκ, by omega, fun i hi => ?_⟩
    rw [← g4 i (by omega), letP_t (by omega)]
theorem ky_a7 {key : Nat} (hk : key < 6) : A7 (fun i => kyF (8 * key + i)) (kyN key) := fun j hj => by
  have hN := kyN_le key hk
  exact ⟨_, ((ky_all key hk j (by omega)).1 hj).2, rfl⟩
theorem ky_str : ∀ key, key < 6 → ∃ q, gstrs[kyC key]? = some q ∧ q.2.2.2.length = kyN key ∧ ∀ i, i < kyN key → q.2.2.2.getD i 0 = kyF (8 * key + i) := by
  intro key hk
  have : key = 0 ∨ key = 1 ∨ key = 2 ∨ key = 3 ∨ key = 4 ∨ key = 5 := by omega
  rcases this with rfl | rfl | rfl | rfl | rfl | rfl <;> exact ⟨_, rfl, rfl, by decide +kernel⟩
/-- where it is live, the names' test -/
theorem PRel.nm (h : PRel inp e s t) (h0 : s.2.2.2.2.1 = 0) : (t.2.2.1 = 1 ∧ t.2.2.2.2 - t.2.2.2.1 ≤ 6) ↔ ¬ (s.1 ≠ 1 ∨ 6 < s.2.2.1 - s.2.1) := by
  obtain ⟨h1, h2, ⟨h3, h4, h5, h6⟩, h7⟩ := h.live h0
  rw [h3, h4]; omega
theorem PRel.ek6 (h : PRel inp e s t) : t.1 ≤ 6 := by rw [h.ek]; exact h.2.1.2.2.2.2.1
theorem PRel.e6 (h : PRel inp e s t) : e ≤ 600 := h.2.1.2.2.2.2.2.2.2.2
theorem PRel.n0 (h : PRel inp e s t) (h0 : s.2.2.2.2.1 ≠ 0) : ¬ t.1 = 0 := fun z => h0 (by rw [← h.ek]; exact z)
/-- names among the parser's own -/
def lov (hb : Nat) (R : Hr) : Option Nat → Value
  | none => .null
  | some k => .ref (hb + 6 + 3 * hO R k)
theorem PW_full {n c : Nat} {f : Nat → Int32} {fl : Int32} (o : Option Nat) (hr : Rp Γ S f c R) (ho : ∀ k, o = some k → k < c) : Ct Γ 1 MX2_isFullFor 0 0 [.ref (pb + 1), .int fl, lov (pb + 1) R o] (PW Γ pb ti F e t R) n (Rt (some (.int (bi (4 ≤ cntOn f fl (oI o) c)))) (PW Γ pb ti F e t R) n) X0 := by
  cases o with
  | none => exact c_X2_isFull_0 hr
  | some k => exact c_X2_isFull_k hr (ho k rfl)
theorem cntOn_A (f : Nat → Int32) (fl but : Int32) : ∀ k, cntOn f fl but k ≤ cntA f fl k
  | 0 => Nat.le_refl 0
  | k + 1 => by
    have := cntOn_A f fl but k
    rw [cntOn, cntA]; split <;> split <;> simp_all <;> omega
/-- at most four on a floor -/
def Fl4 (f : Nat → Int32) (c : Nat) : Prop := ∀ fl, cntA f fl c ≤ 4
theorem ky_sf {key : Nat} (hk : key < 6) {E : Hp} : SF Γ E (gK Γ (kyC key)) (gV Γ (kyC key)) := by
  obtain ⟨q, h1, -⟩ := ky_str key hk
  exact Or.inr ⟨kyC key, q, h1, rfl, rfl⟩
theorem ky_ba {key : Nat} (hk : key < 6) {E : Hp} : BA Γ E (gV Γ (kyC key)) (kyN key) (fun i => kyF (8 * key + i)) := by
  obtain ⟨q, h1, h2, h3⟩ := ky_str key hk
  exact Or.inr ⟨kyC key, q, h1, rfl, h2.symm, fun j hj => (h3 j hj).symm⟩
/-- words -/
theorem ew_y {key : Nat} (h : PRel inp e s t) (hk : key < 6) (hp : t.2.2.1 = 1 ∧ t.2.2.2.2 - t.2.2.2.1 = kyN key ∧ ∀ i, i < kyN key → inp (t.2.2.2.1 + i) = kyF (8 * key + i)) : PRel inp e (twP inp e key s) (stT inp e t) := by
  have e1 : twP inp e key s = goP inp e s := by
    unfold twP; rw [op_eq]
    congr 1
    exact if_neg fun z => z.2 ((h.key z.1 hk).mp hp)
  rw [e1]
  refine h.step fun h0 => ?_
  have := (keyP_i ((h.key h0 hk).mp hp)).1
  rw [this]; exact hp.1
theorem ew_n {key : Nat} (h : PRel inp e s t) (hk : key < 6) (hp : ¬ (t.2.2.1 = 1 ∧ t.2.2.2.2 - t.2.2.2.1 = kyN key ∧ ∀ i, i < kyN key → inp (t.2.2.2.1 + i) = kyF (8 * key + i))) : PRel inp e (twP inp e key s) (flT t 1 t.2.2.2.1) := by
  by_cases h0 : s.2.2.2.2.1 = 0
  · have e1 : twP inp e key s = erP 1 s := by
      unfold twP; rw [op_eq, if_pos ⟨h0, fun z => hp ((h.key h0 hk).mpr z)⟩, goP_f (erP_ne (by decide))]
    rw [e1]; exact h.fail (by decide) (by decide)
  · have e1 : twP inp e key s = s := by
      unfold twP; rw [op_eq, if_neg (fun z => h0 z.1), goP_f h0]
    rw [e1, flT_n (h.n0 h0)]; exact h
/-- numbers -/
theorem rn_k {lo hi : Nat} (h : PRel inp e s t) (hk : ¬ (t.2.2.1 = 2 ∧ t.2.2.2.2 - t.2.2.2.1 ≤ 3)) : PRel inp e (tnP inp e lo hi s) (flT t 1 t.2.2.2.1) ∧ ((tnP inp e lo hi s).2.2.2.2.1 = 0 → lo = hvP lo hi s) := by
  by_cases h0 : s.2.2.2.2.1 = 0
  · obtain ⟨h1, h2, ⟨h3, h4, h5, h6⟩, h7⟩ := h.live h0
    have e1 : hrP lo hi s = erP 1 s := hrP_k h0 (by omega)
    have e2 : tnP inp e lo hi s = erP 1 s := by unfold tnP; rw [e1, goP_f (erP_ne (by decide))]
    rw [e2]
    exact ⟨h.fail (by decide) (by decide), fun z => absurd z (erP_ne (by decide))⟩
  · have e2 : tnP inp e lo hi s = s := by unfold tnP; rw [hrP_f h0, goP_f h0]
    rw [e2, flT_n (h.n0 h0)]
    exact ⟨h, fun z => absurd z h0⟩
theorem rn_r {lo hi : Nat} (h : PRel inp e s t) (hk : t.2.2.1 = 2) (h3 : t.2.2.2.2 - t.2.2.2.1 ≤ 3) (hv : ¬ (lo ≤ vlN inp t.2.2.2.1 (t.2.2.2.2 - t.2.2.2.1) ∧ vlN inp t.2.2.2.1 (t.2.2.2.2 - t.2.2.2.1) ≤ hi)) : PRel inp e (tnP inp e lo hi s) (flT t 2 t.2.2.2.1) ∧ ((tnP inp e lo hi s).2.2.2.2.1 = 0 → lo = hvP lo hi s) := by
  by_cases h0 : s.2.2.2.2.1 = 0
  · obtain ⟨h1, h2, ⟨q3, q4, q5, q6⟩, q7⟩ := h.live h0
    have e0 : s.1 = 2 := by omega
    have e1 : hrP lo hi s = erP 2 s := hrP_r h0 e0 (by rw [q7 e0]; exact hv)
    have e2 : tnP inp e lo hi s = erP 2 s := by unfold tnP; rw [e1, goP_f (erP_ne (by decide))]
    rw [e2]
    exact ⟨h.fail (by decide) (by decide), fun z => absurd z (erP_ne (by decide))⟩
  · have e2 : tnP inp e lo hi s = s := by unfold tnP; rw [hrP_f h0, goP_f h0]
    rw [e2, flT_n (h.n0 h0)]
    exact ⟨h, fun z => absurd z h0⟩
theorem rn_o {lo hi : Nat} (h : PRel inp e s t) (hk : t.2.2.1 = 2) (h3 : t.2.2.2.2 - t.2.2.2.1 ≤ 3) (hv : lo ≤ vlN inp t.2.2.2.1 (t.2.2.2.2 - t.2.2.2.1) ∧ vlN inp t.2.2.2.1 (t.2.2.2.2 - t.2.2.2.1) ≤ hi) : PRel inp e (tnP inp e lo hi s) (stT inp e t) ∧ ((tnP inp e lo hi s).2.2.2.2.1 = 0 → vlN inp t.2.2.2.1 (t.2.2.2.2 - t.2.2.2.1) = hvP lo hi s) := by
  by_cases h0 : s.2.2.2.2.1 = 0
  · obtain ⟨h1, h2, ⟨q3, q4, q5, q6⟩, q7⟩ := h.live h0
    have e0 : s.1 = 2 := by omega
    have e1 : hrP lo hi s = s := hrP_o h0 e0 (by rw [q7 e0]; exact hv)
    have e2 : tnP inp e lo hi s = goP inp e s := by unfold tnP; rw [e1]
    refine ⟨by rw [e2]; exact h.step (fun _ => by omega), fun _ => ?_⟩
    rw [hvP_t (by rw [e1]; exact h0), q7 e0]
  · have e2 : tnP inp e lo hi s = s := by unfold tnP; rw [hrP_f h0, goP_f h0]
    rw [e2]
    exact ⟨by have := h.step (fun z => absurd z h0); rw [goP_f h0] at this; exact this, fun z => absurd z h0⟩
theorem tn_ft {lo hi : Nat} : (tnP inp e lo hi s).2.2.2.2.1 = (hrP lo hi s).2.2.2.2.1 := congrArg Prod.fst goP_ft
/-- floors -/
theorem rf_ok {f : Nat → Int32} {bt : Int32} {c v : Nat} (h : PRel inp e (tnP inp e 0 4 s) t) (hv : (tnP inp e 0 4 s).2.2.2.2.1 = 0 → v = hvP 0 4 s) (hfull : (tnP inp e 0 4 s).2.2.2.2.1 = 0 → ¬ cntOn f (nI v) bt c = 4) : PRel inp e (goP inp e (rl6 f (hvP 0 4 s) bt c (hrP 0 4 s))) t ∧ ((goP inp e (rl6 f (hvP 0 4 s) bt c (hrP 0 4 s))).2.2.2.2.1 = 0 → v = hvP 0 4 s) := by
  have e1 : rl6 f (hvP 0 4 s) bt c (hrP 0 4 s) = hrP 0 4 s := by
    unfold rl6; rw [op_eq]
    refine if_neg fun z => ?_
    have z0 : (tnP inp e 0 4 s).2.2.2.2.1 = 0 := by rw [tn_ft]; exact z.1
    exact hfull z0 (by rw [hv z0]; exact z.2)
  rw [e1]; exact ⟨h, hv⟩
theorem rf_full {f : Nat → Int32} {bt : Int32} {c v : Nat} (hs : PRel inp e s t2) (h : PRel inp e (tnP inp e 0 4 s) t) (hv : (tnP inp e 0 4 s).2.2.2.2.1 = 0 → v = hvP 0 4 s) (hfull : (tnP inp e 0 4 s).2.2.2.2.1 = 0 → cntOn f (nI v) bt c = 4) : PRel inp e (goP inp e (rl6 f (hvP 0 4 s) bt c (hrP 0 4 s))) (flT t 6 t2.2.2.2.1) ∧ ((goP inp e (rl6 f (hvP 0 4 s) bt c (hrP 0 4 s))).2.2.2.2.1 = 0 → v = hvP 0 4 s) := by
  by_cases h0 : (tnP inp e 0 4 s).2.2.2.2.1 = 0
  · obtain ⟨g1, g2, g3, g4, g5⟩ := tnP_live h0
    have hl := h.live h0
    have e1 : rl6 f (hvP 0 4 s) bt c (hrP 0 4 s) = erP 6 s := by
      unfold rl6; rw [op_eq, g4]
      exact if_pos ⟨g1, by rw [← hv h0]; exact hfull h0⟩
    have hd := h.dead (erP_v (c := 6) hs.2.1 (by decide)) (erP_ne (by decide))
    rw [e1, goP_f (erP_ne (by decide)), flT_0 hl.1]
    refine ⟨?_, fun z => absurd z (erP_ne (by decide))⟩
    rw [erP_t g1] at hd ⊢
    rw [(hs.live g1).2.2.1.1]
    exact hd
  · have h1 : ¬ (hrP 0 4 s).2.2.2.2.1 = 0 := by rw [← tn_ft (inp := inp) (e := e)]; exact h0
    have e1 : rl6 f (hvP 0 4 s) bt c (hrP 0 4 s) = hrP 0 4 s := by
      unfold rl6; rw [op_eq]
      exact if_neg fun z => h1 z.1
    rw [e1, flT_n (h.n0 h0)]
    exact ⟨h, fun z => absurd z h0⟩
end GPAR
