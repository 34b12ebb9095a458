/-! who leaves: the class from the last to the first, the reference from the first to the last -/
section GGON
def arS (ar : Nat → Nat) (k i : Nat) : Nat → Nat := fun j => if k ≤ j ∧ j < i then ar (j + 1) else ar j
theorem arS_0 {ar : Nat → Nat} {k : Nat} : arS ar k k = ar := by funext j; unfold arS; rw [if_neg (by omega)]
theorem arS_s {ar : Nat → Nat} {k i : Nat} (h : k ≤ i) : up (arS ar k i) i (arS ar k i (i + 1)) = arS ar k (i + 1) := by
  funext j; unfold up arS
  by_cases e : j = i
  · subst e; rw [if_pos rfl, if_neg (by omega), if_pos (by omega)]
  · rw [if_neg e]
    by_cases g : k ≤ j ∧ j < i
    · rw [if_pos g, if_pos (by omega)]
    · rw [if_neg g, if_neg (by omega)]
theorem arS_lt {ar : Nat → Nat} {k i j : Nat} (h : ∀ k, k < 12 → ar k < 12) (hi : i < 12) (hj : j < 12) : arS ar k i j < 12 := by
  unfold arS; split
  · exact h _ (by omega)
  · exact h _ hj
def arD (ar : Nat → Nat) (k c : Nat) : Nat → Nat := up (arS ar k (c - 1)) (c - 1) (ar k)
def sgm (k c j : Nat) : Nat := if j = c - 1 then k else if k ≤ j ∧ j < c - 1 then j + 1 else j
theorem arD_eq {ar : Nat → Nat} {k c j : Nat} : arD ar k c j = ar (sgm k c j) := by
  unfold arD up arS sgm; (repeat' split) <;> rfl
theorem sgm_in {k c j i : Nat} (hk : k < c) (h : sgm k c j = sgm k c i) : j = i := by
  unfold sgm at h; (repeat' split at h) <;> omega
theorem sgm_lt {k c j : Nat} (hk : k < c) (hc : c ≤ 12) (hj : j < 12) : sgm k c j < 12 := by
  unfold sgm; (repeat' split) <;> omega
theorem sgm_lo {k c j : Nat} (hk : k < c) (hj : j < c - 1) : sgm k c j < c ∧ sgm k c j ≠ k ∧ sgm k c j = if k ≤ j then j + 1 else j := by
  unfold sgm; (repeat' split) <;> omega
/-- the house behind the leaving of the k-th of c -/
def dmR (R : Hr) (k c : Nat) : Hr := sO (sH (sH R 12 (R.1 12 + hR R (hO R k) 1)) 7 (nI (c - 1))) (arD (hO R) k c)
variable {Γ : Gm} {S : Hp}
theorem gonF_row {f : Nat → Int32} {k c κ q : Nat} (hk : k < c) (hκ : κ < c - 1) (hq : q < 16) : gonF f k c (13 + 16 * κ + q) = f (13 + 16 * sgm k c κ + q) := by
  rw [(sgm_lo hk hκ).2.2]
  unfold gonF shf
  by_cases h : k ≤ κ
  · rw [if_pos (by omega), if_pos h, show 13 + 16 * κ + q + 16 = 13 + 16 * (κ + 1) + q by omega]
    unfold gon2 gon1; rw [pk_un (by omega), pk_un (by omega)]
  · rw [if_neg (by omega), if_neg h]
    unfold gon2 gon1; rw [pk_un (by omega), pk_un (by omega)]
theorem gonF_hd {f : Nat → Int32} {k c j : Nat} (hj : j < 13) : gonF f k c j = gon2 f k j := by unfold gonF shf; rw [if_neg (by omega)]
theorem Rp.gone {f : Nat → Int32} {c k : Nat} {R : Hr} (h : Rp Γ S f c R) (hk : k < c) : Rp Γ S (gonF f k c) (c - 1) (dmR R k c) := by
  obtain ⟨⟨w1, w2⟩, h2, h3, h4, h5, h6⟩ := id h
  have eO : ∀ j, hO (dmR R k c) j = hO R (sgm k c j) := fun j => arD_eq
  refine ⟨⟨fun j hj => by rw [eO]; exact w1 _ (sgm_lt hk h2 hj), fun i j hi hj e => by rw [eO, eO] at e; exact sgm_in hk (w2 _ _ (sgm_lt hk h2 hi) (sgm_lt hk h2 hj) e)⟩, by omega, gonF_7 h3 (by omega), fun j hj hn => ?_, fun v hv => ?_, fun κ hκ => ?_⟩
  · rw [gonF_hd hj]
    show upd (upd R.1 12 (R.1 12 + hR R (hO R k) 1)) 7 (nI (c - 1)) j = gon2 f k j
    unfold gon2 gon1
    by_cases e : j = 7
    · subst e; rw [pk_us, pk_us, pk_un (by decide), h3]; exact (pk_sub (by omega)).symm
    · rw [pk_un e, pk_un e]
      by_cases e2 : j = 12
      · subst e2; rw [pk_us, pk_us, h4 12 (by decide) (by decide), (h6 k hk).1 1 (by decide)]
      · rw [pk_un e2, pk_un e2]; exact h4 j hj hn
  · rw [gonF_hd (by omega)]; unfold gon2 gon1; rw [pk_un (by omega), pk_un (by omega)]; exact h5 v hv
  · have hs := (sgm_lo hk hκ).1
    rw [eO]
    refine ⟨fun i hi => by rw [gonF_row hk hκ (by omega)]; exact (h6 _ hs).1 i hi, fun v hv => by rw [Nat.add_assoc, gonF_row hk hκ (by omega), ← Nat.add_assoc]; exact (h6 _ hs).2.1 v hv, (h6 _ hs).2.2.eq fun i hi => ?_⟩
    show gonF f k c (13 + 16 * κ + 10 + i) = f (13 + 16 * sgm k c κ + 10 + i)
    rw [Nat.add_assoc, gonF_row hk hκ (by omega), ← Nat.add_assoc]
/-- the objects, in their order -/
def lst (R : Hr) (c : Nat) : List Nat := (List.range c).map (hO R)
theorem lst_len {R : Hr} {c : Nat} : (lst R c).length = c := by unfold lst; rw [List.length_map, List.length_range]
theorem lst_at {R : Hr} {c k : Nat} (hk : k < c) : (lst R c)[k]? = some (hO R k) := by
  unfold lst; rw [List.getElem?_map, List.getElem?_range hk]; rfl
theorem lst_hi {R : Hr} {c k : Nat} (hk : ¬ k < c) : (lst R c)[k]? = none := List.getElem?_eq_none (by rw [lst_len]; omega)
theorem lst_split {R : Hr} {c x : Nat} {pre rest : List Nat} (h : lst R c = pre ++ x :: rest) : c = pre.length + 1 + rest.length ∧ hO R pre.length = x := by
  have h1 := congrArg List.length h
  rw [lst_len, List.length_append, List.length_cons] at h1
  refine ⟨by omega, ?_⟩
  have h2 := lst_at (R := R) (c := c) (k := pre.length) (by omega)
  rw [h, List.getElem?_append_right (Nat.le_refl _), Nat.sub_self] at h2
  exact (Option.some.inj h2).symm
theorem lst_dm {R : Hr} {c x : Nat} {pre rest : List Nat} (h : lst R c = pre ++ x :: rest) : lst (dmR R pre.length c) (c - 1) = pre ++ rest := by
  obtain ⟨hc, hx⟩ := lst_split h
  apply List.ext_getElem?
  intro j
  by_cases hj : j < c - 1
  · rw [lst_at hj, show hO (dmR R pre.length c) j = hO R (sgm pre.length c j) from arD_eq]
    obtain ⟨s1, -, s3⟩ := sgm_lo (k := pre.length) (c := c) (j := j) (by omega) hj
    rw [← lst_at s1, h, s3]
    by_cases g : pre.length ≤ j
    · rw [if_pos g, List.getElem?_append_right (by omega), List.getElem?_append_right g, show j + 1 - pre.length = j - pre.length + 1 by omega]; rfl
    · rw [if_neg g, List.getElem?_append_left (by omega), List.getElem?_append_left (by omega)]
  · rw [lst_hi hj, List.getElem?_eq_none (by rw [List.length_append]; omega)]
/-- the same rows -/
def Sm (R R2 : Hr) : Prop := hL R2 = hL R ∧ hN R2 = hN R ∧ hR R2 = hR R ∧ hA R2 = hA R ∧ R2.1 1 = R.1 1
theorem Sm.rf {R : Hr} : Sm R R := ⟨rfl, rfl, rfl, rfl, rfl⟩
theorem Sm.tr {R R2 R3 : Hr} (h : Sm R R2) (g : Sm R2 R3) : Sm R R3 := ⟨g.1.trans h.1, g.2.1.trans h.2.1, g.2.2.1.trans h.2.2.1, g.2.2.2.1.trans h.2.2.2.1, g.2.2.2.2.trans h.2.2.2.2⟩
def keepB (R : Hr) (o : Nat) : Bool := !(decide (hR R o 1 < 0) && decide (R.1 1 < dst (hA R o) (hL R) 5) && !decide (dif (hA R o) (hL R) 5 ≤ 1))
theorem keep_eq {R R2 : Hr} (h : Sm R R2) : keepB R2 = keepB R := by
  funext o; unfold keepB; rw [h.1, h.2.2.1, h.2.2.2.1, h.2.2.2.2]
theorem keep_must {f : Nat → Int32} {c k : Nat} {R : Hr} (h : Rp Γ S f c R) (hk : k < c) : MustB f k = !keepB R (hO R k) := by
  unfold MustB keepB
  rw [h.ds1 hk, h.di1 hk, h.row (i := 1) hk (by decide), h.d (j := 1) (by decide) (by decide), Bool.not_not]
def smB (R : Hr) : List Nat → Int32
  | [] => 0
  | o :: l => hR R o 1 + smB R l
theorem smB_eq {R R2 : Hr} (h : Sm R R2) : ∀ l, smB R2 l = smB R l
  | [] => rfl
  | o :: l => by rw [smB, smB, h.2.2.1, smB_eq h l]
/-- one is watched -/
def Trk (I : Nat → Int32) (c : Nat) (R : Hr) (o : Nat) : Prop := (I 11 = -1 ∧ (∀ k, k < c → hO R k ≠ o) ∧ I 12 = hR R o 1) ∨ ∃ j, j < c ∧ I 11 = nI j ∧ hO R j = o
theorem nm1_lt {p : Nat} (h : p < 2 ^ 31) : ¬ nI p < -1 := fun z => by
  rw [Int32.lt_iff_toInt_lt, nI_toInt h, show (-1 : Int32).toInt = -1 from by decide] at z
  omega
theorem Trk.gone {f I : Nat → Int32} {c k o : Nat} {R R2 : Hr} (hr : Rp Γ S f c R) (hk : k < c) (h : Trk I c R o) (hO2 : ∀ j, hO R2 j = hO (dmR R k c) j) (hR2 : hR R2 = hR R) : Trk (trkF I f k) (c - 1) R2 o := by
  have hc12 := hr.2.1
  have eO : ∀ j, hO R2 j = hO R (sgm k c j) := fun j => (hO2 j).trans arD_eq
  rcases h with ⟨h1, h2, h3⟩ | ⟨j, hj, h1, h2⟩
  · refine Or.inl ⟨?_, fun i hi => by rw [eO]; exact h2 _ (sgm_lo hk hi).1, ?_⟩
    · unfold trkF; rw [if_neg (by rw [h1]; exact fun z => nI_nm1' (by omega) z.symm), if_neg (by rw [h1]; exact nm1_lt (by omega))]; exact h1
    · unfold trkF; rw [if_neg (by rw [h1]; exact fun z => nI_nm1' (by omega) z.symm), if_neg (by rw [h1]; exact nm1_lt (by omega)), hR2]; exact h3
  · by_cases e : j = k
    · subst e
      refine Or.inl ⟨?_, fun i hi z => ?_, ?_⟩
      · unfold trkF; rw [if_pos h1, pk_un (by decide), pk_us]
      · rw [eO, ← h2] at z
        exact (sgm_lo hk hi).2.1 (hr.1.2 _ _ (by have := (sgm_lo hk hi).1; omega) (by omega) z)
      · unfold trkF; rw [if_pos h1, pk_us, hR2, ← h2, hr.row hk (by decide)]
    · have hne : ¬ I 11 = nI k := fun z => e ((nI_eq (by omega) (by omega)).mp (h1.symm.trans z))
      by_cases g : k < j
      · refine Or.inr ⟨j - 1, by omega, ?_, ?_⟩
        · unfold trkF; rw [if_neg hne, if_pos (by rw [h1]; exact nI_lt g (by omega)), pk_us, h1]; exact pk_sub (by omega)
        · rw [eO, (sgm_lo hk (show j - 1 < c - 1 by omega)).2.2, if_pos (by omega), show j - 1 + 1 = j by omega]; exact h2
      · refine Or.inr ⟨j, by omega, ?_, ?_⟩
        · unfold trkF; rw [if_neg hne, if_neg (by rw [h1]; exact nI_nlt (by omega) (by omega))]; exact h1
        · rw [eO, (sgm_lo hk (show j < c - 1 by omega)).2.2, if_neg (by omega)]; exact h2
theorem fil_t {q : Nat → Bool} {x : Nat} {l : List Nat} (h : q x = true) : (x :: l).filter q = x :: l.filter q := by rw [List.filter_cons, if_pos h]
theorem fil_f {q : Nat → Bool} {x : Nat} {l : List Nat} (h : ¬ q x = true) : (x :: l).filter q = l.filter q := by rw [List.filter_cons, if_neg h]
abbrev goB (R : Hr) : Nat → Bool := fun o => !keepB R o
/-- what inspections change of the numbers -/
def Hds (R R2 : Hr) (l : List Nat) : Prop := R2.1 12 = R.1 12 + smB R l ∧ R2.1 9 = R.1 9 + nI l.length ∧ ∀ j, j < 13 → j ≠ 7 → j ≠ 9 → j ≠ 12 → R2.1 j = R.1 j
theorem Sm.dm {R : Hr} {k c : Nat} {x : Int32} : Sm R (sH (dmR R k c) 9 x) := ⟨rfl, rfl, rfl, rfl, rfl⟩
theorem Hds.step {R : Hr} {k c : Nat} {x : Int32} (hx : x = R.1 9 + nI 1) : Hds R (sH (dmR R k c) 9 x) [hO R k] := by
  refine ⟨?_, ?_, fun j hj h7 h9 h12 => ?_⟩
  · show R.1 12 + hR R (hO R k) 1 = R.1 12 + (hR R (hO R k) 1 + 0)
    rw [Int32.add_zero]
  · show x = _; rw [hx]; rfl
  · show upd (upd (upd R.1 12 _) 7 _) 9 x j = _
    rw [pk_un h9, pk_un h7, pk_un h12]
theorem smB_app {R : Hr} : ∀ l k, smB R (l ++ k) = smB R l + smB R k
  | [], k => by rw [List.nil_append, smB, Int32.zero_add]
  | o :: l, k => by rw [List.cons_append, smB, smB, smB_app l k, Int32.add_assoc]
theorem Hds.rf {R : Hr} : Hds R R [] := ⟨by rw [smB, Int32.add_zero], by rw [List.length_nil, nI_0, Int32.add_zero], fun _ _ _ _ _ => rfl⟩
theorem Hds.tr {R R2 R3 : Hr} {l k : List Nat} (h : Hds R R2 l) (s : Sm R R2) (g : Hds R2 R3 k) : Hds R R3 (l ++ k) := by
  refine ⟨?_, ?_, fun j hj h7 h9 h12 => (g.2.2 j hj h7 h9 h12).trans (h.2.2 j hj h7 h9 h12)⟩
  · rw [g.1, h.1, smB_app, smB_eq s, Int32.add_assoc]
  · rw [g.2.1, h.2.1, List.length_append, ← nI_add, Int32.add_assoc]
/-- from the first to the last -/
theorem ins_asc : ∀ (m p : Nat) (f I : Nat → Int32) (R : Hr) (pre rest : List Nat), Rp Γ S f (p + m) R → lst R (p + m) = pre ++ rest → pre.length = p → ∃ R2 c2, Rp Γ S (insM m p f I).1 c2 R2 ∧ lst R2 c2 = pre ++ rest.filter (keepB R) ∧ Sm R R2 ∧ Hds R R2 (rest.filter (goB R)) ∧ ∀ o, Trk I (p + m) R o → Trk (insM m p f I).2 c2 R2 o
  | 0, p, f, I, R, pre, rest, hr, hl, hp => by
    have e : rest = [] := by
      have := congrArg List.length hl
      rw [lst_len, List.length_append] at this
      exact List.eq_nil_of_length_eq_zero (by omega)
    subst e
    exact ⟨R, p, hr, hl, Sm.rf, Hds.rf, fun o h => h⟩
  | m + 1, p, f, I, R, pre, rest, hr, hl, hp => by
    obtain ⟨x, rest', rfl⟩ : ∃ x rest', rest = x :: rest' := by
      cases rest with
      | nil =>
        have := congrArg List.length hl
        rw [lst_len, List.length_append, List.length_nil] at this
        omega
      | cons x r => exact ⟨x, r, rfl⟩
    obtain ⟨hc, hx⟩ := lst_split hl
    rw [hp] at hx
    by_cases hM : MustB f p = true
    · have hk : keepB R x = false := by
        have := keep_must hr (show p < p + (m + 1) by omega)
        rw [hM, hx] at this
        cases hkx : keepB R x with
        | true => rw [hkx] at this; cases this
        | false => rfl
      rw [insM_t hM]
      have hg := hr.gone (k := p) (by omega)
      have h9 : (dmR R p (p + (m + 1))).1 9 = R.1 9 := rfl
      have hg2 := hg.sH (j := 9) (x := gonF f p (p + m + 1) 9 + nI 1) (by decide) (by decide)
      have hl2 : lst (sH (dmR R p (p + (m + 1))) 9 (gonF f p (p + m + 1) 9 + nI 1)) (p + m) = pre ++ rest' := by
        have := lst_dm hl
        rw [hp] at this
        exact this
      have hx9 : gonF f p (p + m + 1) 9 + nI 1 = R.1 9 + nI 1 := by
        rw [gonF_hd (by decide)]; unfold gon2 gon1; rw [pk_un (by decide), pk_un (by decide), hr.d (j := 9) (by decide) (by decide)]
      obtain ⟨R2, c2, g1, g2, g3, g4, g5⟩ := ins_asc m p _ (trkF I f p) _ pre rest' hg2 hl2 hp
      have sm := Sm.dm (R := R) (k := p) (c := p + (m + 1)) (x := gonF f p (p + m + 1) 9 + nI 1)
      refine ⟨R2, c2, g1, ?_, sm.tr g3, ?_, fun o ho => g5 o (ho.gone hr (by omega) (fun _ => rfl) rfl)⟩
      · rw [g2, keep_eq sm, fil_f (by rw [hk]; decide)]
      · have h4 := (Hds.step (k := p) (c := p + (m + 1)) hx9).tr sm g4
        rw [show goB (sH (dmR R p (p + (m + 1))) 9 (gonF f p (p + m + 1) 9 + nI 1)) = goB R from by unfold goB; rw [keep_eq sm], hx] at h4
        rw [fil_t (show goB R x = true by show (!keepB R x) = true; rw [hk]; rfl)]
        exact h4
    · have hk : keepB R x = true := by
        have := keep_must hr (show p < p + (m + 1) by omega)
        rw [hx] at this
        cases hkx : keepB R x with
        | true => rfl
        | false => rw [hkx] at this; exact absurd this hM
      rw [insM_f hM]
      have e : p + (m + 1) = p + 1 + m := by omega
      rw [e] at hr hl ⊢
      obtain ⟨R2, c2, g1, g2, g3, g4, g5⟩ := ins_asc m (p + 1) f I R (pre ++ [x]) rest' hr (by rw [hl, List.append_assoc]; rfl) (by rw [List.length_append, hp]; rfl)
      refine ⟨R2, c2, g1, by rw [g2, fil_t hk, List.append_assoc]; rfl, g3, ?_, g5⟩
      rw [fil_f (show ¬ goB R x = true by show ¬ (!keepB R x) = true; rw [hk]; decide)]
      exact g4
/-- from the last to the first: m are left to look at -/
def Dsc (Γ : Gm) (S : Hp) (R : Hr) (c : Nat) (R1 : Hr) (c1 : Nat) (g : Nat → Int32) (m : Nat) : Prop := ∃ pre done, Rp Γ S g c1 R1 ∧ lst R c = pre ++ done ∧ lst R1 c1 = pre ++ done.filter (keepB R) ∧ pre.length = m ∧ Sm R R1 ∧ ∃ L, L.Perm (done.filter (goB R)) ∧ Hds R R1 L
theorem Dsc.start {R : Hr} {c : Nat} {f : Nat → Int32} (h : Rp Γ S f c R) : Dsc Γ S R c R c f c := ⟨lst R c, [], h, by rw [List.append_nil], by rw [List.filter_nil, List.append_nil], lst_len, Sm.rf, [], List.Perm.nil, Hds.rf⟩
theorem Dsc.rp {R R1 : Hr} {c c1 m : Nat} {g : Nat → Int32} (h : Dsc Γ S R c R1 c1 g m) : Rp Γ S g c1 R1 := by obtain ⟨_, _, h, -⟩ := h; exact h
theorem Dsc.lt {R R1 : Hr} {c c1 m : Nat} {g : Nat → Int32} (h : Dsc Γ S R c R1 c1 g m) : m ≤ c1 := by
  obtain ⟨pre, done, -, -, h3, h4, -⟩ := h
  have := congrArg List.length h3
  rw [lst_len, List.length_append] at this
  omega
theorem last_of {l : List Nat} {m : Nat} (h : l.length = m + 1) : ∃ p x, l = p ++ [x] ∧ p.length = m := by
  have hne : l ≠ [] := fun e => by rw [e] at h; cases h
  exact ⟨l.dropLast, l.getLast hne, (List.dropLast_concat_getLast hne).symm, by rw [List.length_dropLast]; omega⟩
theorem Dsc.keep {R R1 : Hr} {c c1 m : Nat} {g : Nat → Int32} (h : Dsc Γ S R c R1 c1 g (m + 1)) (hM : ¬ MustB g m = true) : Dsc Γ S R c R1 c1 g m := by
  have hlt := h.lt
  obtain ⟨pre, done, h1, h2, h3, h4, h5, L, h6, h7⟩ := h
  obtain ⟨p, x, rfl, hp⟩ := last_of h4
  rw [List.append_assoc] at h2 h3
  obtain ⟨-, hx⟩ := lst_split (show lst R1 c1 = p ++ x :: done.filter (keepB R) from h3)
  rw [hp] at hx
  have hk : keepB R x = true := by
    have := keep_must h1 (show m < c1 by omega)
    rw [hx, keep_eq h5] at this
    cases hkx : keepB R x with
    | true => rfl
    | false => rw [hkx] at this; exact absurd this hM
  refine ⟨p, x :: done, h1, h2, by rw [fil_t hk]; exact h3, hp, h5, L, ?_, h7⟩
  rw [fil_f (show ¬ goB R x = true by show ¬ (!keepB R x) = true; rw [hk]; decide)]
  exact h6
theorem Dsc.gone {R R1 : Hr} {c c1 m : Nat} {g : Nat → Int32} (h : Dsc Γ S R c R1 c1 g (m + 1)) (hM : MustB g m = true) : Dsc Γ S R c (sH (dmR R1 m c1) 9 (gonF g m c1 9 + nI 1)) (c1 - 1) (upd (gonF g m c1) 9 (gonF g m c1 9 + nI 1)) m := by
  have hlt := h.lt
  obtain ⟨pre, done, h1, h2, h3, h4, h5, L, h6, h7⟩ := h
  obtain ⟨p, x, rfl, hp⟩ := last_of h4
  rw [List.append_assoc] at h2 h3
  have h3' : lst R1 c1 = p ++ x :: done.filter (keepB R) := h3
  obtain ⟨-, hx⟩ := lst_split h3'
  rw [hp] at hx
  have hk : keepB R x = false := by
    have := keep_must h1 (show m < c1 by omega)
    rw [hx, keep_eq h5, hM] at this
    cases hkx : keepB R x with
    | true => rw [hkx] at this; cases this
    | false => rfl
  have sm := Sm.dm (R := R1) (k := m) (c := c1) (x := gonF g m c1 9 + nI 1)
  have hx9 : gonF g m c1 9 + nI 1 = R1.1 9 + nI 1 := by
    rw [gonF_hd (by decide)]; unfold gon2 gon1; rw [pk_un (by decide), pk_un (by decide), h1.d (j := 9) (by decide) (by decide)]
  refine ⟨p, x :: done, (h1.gone (by omega)).sH (by decide) (by decide), h2, ?_, hp, h5.tr sm, L ++ [x], ?_, ?_⟩
  · have := lst_dm h3'
    rw [hp] at this
    rw [fil_f (by rw [hk]; decide)]
    exact this
  · rw [fil_t (show goB R x = true by show (!keepB R x) = true; rw [hk]; rfl)]
    exact (List.perm_append_singleton x L).trans (h6.cons x)
  · have := h7.tr h5 (Hds.step (k := m) (c := c1) hx9)
    rw [hx] at this
    exact this
theorem smB_perm {R : Hr} {l k : List Nat} (h : l.Perm k) : smB R l = smB R k := by
  induction h with
  | nil => rfl
  | cons x _ ih => rw [smB, smB, ih]
  | swap x y l => rw [smB, smB, smB, smB, ← Int32.add_assoc, ← Int32.add_assoc, Int32.add_comm (hR R y 1)]
  | trans _ _ ih1 ih2 => exact ih1.trans ih2
theorem lst_eq {R R2 : Hr} {c c2 : Nat} (h : lst R c = lst R2 c2) : c = c2 ∧ ∀ k, k < c → hO R k = hO R2 k := by
  have h1 := congrArg List.length h
  rw [lst_len, lst_len] at h1
  refine ⟨h1, fun k hk => ?_⟩
  have h2 := lst_at (R := R) hk
  rw [h, lst_at (by omega)] at h2
  exact (Option.some.inj h2).symm
/-- the end of it -/
theorem Dsc.fin {R R1 : Hr} {c c1 : Nat} {f g : Nat → Int32} (h : Dsc Γ S R c R1 c1 g 0) (hr : Rp Γ S f c R) (I : Nat → Int32) : Rp Γ S (insM c 0 f I).1 c1 R1 ∧ ∀ o, Trk I c R o → Trk (insM c 0 f I).2 c1 R1 o := by
  obtain ⟨pre, done, h1, h2, h3, h4, h5, L, h6, h7⟩ := h
  have e : pre = [] := List.eq_nil_of_length_eq_zero h4
  subst e
  obtain ⟨R2, c2, g1, g2, g3, g4, g5⟩ := ins_asc c 0 f I R [] (lst R c) (by rw [Nat.zero_add]; exact hr) (by rw [Nat.zero_add]; rfl) rfl
  rw [Nat.zero_add] at g5
  rw [List.nil_append] at g2 h3 h2
  obtain ⟨hc, ho⟩ := lst_eq (h3.trans (by rw [← h2, ← g2]))
  subst hc
  have h12 : R1.1 12 = R2.1 12 := by rw [h7.1, g4.1, h2, smB_perm h6]
  have h9 : R1.1 9 = R2.1 9 := by rw [h7.2.1, g4.2.1, h2, h6.length_eq]
  have e3 : hR R1 = hR R2 := h5.2.2.1.trans g3.2.2.1.symm
  refine ⟨⟨h1.1, g1.2.1, g1.2.2.1, fun j hj hn => ?_, fun v hv => by rw [h5.1, ← g3.1]; exact g1.lan hv, fun k hk => ?_⟩, fun o ht => ?_⟩
  · rw [← g1.d hj hn]
    by_cases e7 : j = 7
    · subst e7; rw [h1.cnt, g1.cnt]
    · by_cases e9 : j = 9
      · subst e9; exact h9
      · by_cases e12 : j = 12
        · subst e12; exact h12
        · rw [h7.2.2 j hj e7 e9 e12, g4.2.2 j hj e7 e9 e12]
  · rw [ho k hk, e3, h5.2.2.2.1, ← g3.2.2.2.1, h5.2.1, ← g3.2.1]
    exact g1.2.2.2.2.2 k hk
  · rcases g5 o ht with ⟨q1, q2, q3⟩ | ⟨j, q1, q2, q3⟩
    · exact Or.inl ⟨q1, fun k hk => by rw [ho k hk]; exact q2 k hk, by rw [e3]; exact q3⟩
    · exact Or.inr ⟨j, q1, q2, by rw [ho j q1]; exact q3⟩
end GGON
