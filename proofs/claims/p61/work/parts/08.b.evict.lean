/-! days up to the next inspection, and who goes there (pure) -/
section GEVI
variable {f g I J : Nat → Int32} {c k m p n dy : Nat} {x : Int32}
/-- days without an inspection -/
def pd (f : Nat → Int32) (c : Nat) : Nat → Nat → Int32
  | 0 => f
  | n + 1 => dayC (pd f c n) c
theorem pd_ok (h : Okr f c) : ∀ n, Okr (pd f c n) c
  | 0 => h
  | n + 1 => dayC_ok (pd_ok h n)
theorem pd_8 (h : Okr f c) (h8 : f 8 = nI dy) : ∀ n, pd f c n 8 = nI (dy + n)
  | 0 => h8
  | n + 1 => by rw [pd, dayC_8 (pd_ok h n), pd_8 h h8 n, nI_add]; rfl
theorem pd_hd {j : Nat} (h : Okr f c) (hj : j < 13) (h11 : j ≠ 11) (h8 : j ≠ 8) : ∀ n, pd f c n j = f j
  | 0 => rfl
  | n + 1 => by rw [pd, dayC_hd (pd_ok h n) hj h11 h8, pd_hd h hj h11 h8 n]
theorem insB_nI {d : Nat} (h8 : g 8 = nI d) (hd : d < 2 ^ 31) : InsB g = true ↔ d % 7 = 0 := by
  rw [InsB_t, h8, pk_rem hd (by decide) (by decide), show (0 : Int32) = nI 0 from nI_0.symm, nI_eq (by omega) (by decide)]
theorem dys_pd (h : Okr f c) (h8 : f 8 = nI dy) (hd : dy + 7 < 2 ^ 31) : ∀ n, n < 7 - dy % 7 → dysM f I n = (pd f c n, I)
  | 0, _ => rfl
  | n + 1, hn => by
    rw [dysM, dys_pd h h8 hd n (by omega)]
    show dayM (pd f c n) I (mny (pd f c n)) = _
    rw [mny_eq (pd_ok h n)]
    refine dayM_f (fun z => ?_)
    have e := pd_8 h h8 (n + 1)
    have := (insB_nI (g := pd f c (n + 1)) e (by omega)).mp z
    omega
theorem dys_ins (h : Okr f c) (h8 : f 8 = nI dy) (hd : dy + 7 < 2 ^ 31) : dysM f I (7 - dy % 7) = insM c 0 (pd f c (7 - dy % 7)) I := by
  have e : 7 - dy % 7 = 6 - dy % 7 + 1 := by omega
  rw [e, dysM, dys_pd h h8 hd (6 - dy % 7) (by omega)]
  show dayM (pd f c (6 - dy % 7)) I (mny (pd f c (6 - dy % 7))) = _
  rw [mny_eq (pd_ok h _)]
  refine dayM_t ?_
  have e2 := pd_8 h h8 (6 - dy % 7 + 1)
  exact (insB_nI (g := pd f c (6 - dy % 7 + 1)) e2 (by omega)).mpr (by omega)
/-- who must go, of rows with the same lodger -/
theorem must_c {j : Nat} (h1 : g (13 + 16 * j + 1) = f (13 + 16 * k + 1)) (h5 : ∀ v, v < 5 → g (13 + 16 * j + 5 + v) = f (13 + 16 * k + 5 + v)) (ht : g 1 = f 1) (hl : ∀ v, v < 5 → g (2 + v) = f (2 + v)) : MustB g j = MustB f k := by
  unfold MustB
  rw [h1, ht, dst_c (x := rw5 g j) (y := la5 g) (x2 := rw5 f k) (y2 := la5 f) 5 h5 hl, dif_c (x := rw5 g j) (y := la5 g) (x2 := rw5 f k) (y2 := la5 f) 5 h5 hl]
theorem must_gon {j : Nat} (hp : p < c) (hj : j < c - 1) : MustB (upd (gonF f p c) 9 x) j = MustB f (if p ≤ j then j + 1 else j) := by
  refine must_c ?_ (fun v hv => ?_) ?_ (fun v hv => ?_)
  · rw [pk_un (by omega)]; exact gonV_row hp hj (by decide)
  · rw [pk_un (by omega)]
    have := gonV_row (f := f) (q := 5 + v) hp hj (by omega)
    rw [← Nat.add_assoc, ← Nat.add_assoc] at this; exact this
  · rw [pk_un (by omega), gonV_hd (by decide) (by decide) (by decide)]
  · rw [pk_un (by omega), gonV_hd (by omega) (by omega) (by omega)]
theorem ins_m1 : ∀ (m p : Nat) (f I : Nat → Int32), p + m < 2 ^ 31 → I 11 = -1 → (insM m p f I).2 11 = -1
  | 0, _, _, _, _, h => h
  | m + 1, p, f, I, hm, h => by
    by_cases hM : MustB f p = true
    · rw [insM_t hM]
      refine ins_m1 m p _ _ (by omega) ?_
      rw [trk_11, h, if_neg (fun z => nI_nm1' (show p < 2 ^ 31 by omega) z.symm), if_neg (fun z => ?_)]
      have := Int32.lt_of_le_of_lt (nI_pos' (show p < 2 ^ 31 by omega)) z
      exact absurd this (by decide)
    · rw [insM_f hM]; exact ins_m1 m (p + 1) f I (by omega) h
theorem ins_lo (hk : k < 2 ^ 31) : ∀ (m p : Nat) (f I : Nat → Int32), p + m < 2 ^ 31 → k < p → I 11 = nI k → (insM m p f I).2 11 = nI k
  | 0, _, _, _, _, _, h => h
  | m + 1, p, f, I, hm, hp, h => by
    by_cases hM : MustB f p = true
    · rw [insM_t hM]
      refine ins_lo hk m p _ _ (by omega) hp ?_
      rw [trk_11, h, if_neg (fun z => by have := (nI_eq hk (by omega)).mp z; omega), if_neg (nI_nlt (by omega) (by omega))]
    · rw [insM_f hM]; exact ins_lo hk m (p + 1) f I (by omega) (by omega) h
theorem ins_w : ∀ (m p : Nat) (f I : Nat → Int32) (k : Nat), p + m < 2 ^ 31 → p ≤ k → k < p + m → I 11 = nI k → ((insM m p f I).2 11 = -1 ↔ MustB f k = true)
  | 0, p, f, I, k, _, h1, h2, _ => absurd h2 (by omega)
  | m + 1, p, f, I, k, hm, h1, h2, h => by
    by_cases hM : MustB f p = true
    · rw [insM_t hM]
      by_cases e : p = k
      · subst e
        exact ⟨fun _ => hM, fun _ => ins_m1 m p _ _ (by omega) (by rw [trk_11, if_pos h])⟩
      · have hJ : trkF I f p 11 = nI (k - 1) := by
          rw [trk_11, h, if_neg (fun z => by have := (nI_eq (by omega) (by omega)).mp z; omega), if_pos (nI_lt (by omega) (by omega)), pk_sub (by omega)]
        rw [ins_w m p _ _ (k - 1) (by omega) (by omega) (by omega) hJ, must_gon (by omega) (by omega), if_pos (by omega), show k - 1 + 1 = k by omega]
    · rw [insM_f hM]
      by_cases e : p = k
      · subst e
        refine ⟨fun z => ?_, fun z => absurd z hM⟩
        rw [ins_lo (by omega) m (p + 1) f I (by omega) (by omega) h] at z
        exact absurd z (nI_nm1' (by omega))
      · exact ins_w m (p + 1) f I k (by omega) (by omega) (by omega) h
theorem wI_11 : wI k 11 = nI k := if_pos rfl
/-- gone at the next inspection -/
theorem gon_left (h : Okr f c) (h8 : f 8 = nI dy) (hd : dy + 7 < 2 ^ 31) (hk : k < c) : gonB f k (7 - dy % 7) = true ↔ MustB (pd f c (7 - dy % 7)) k = true := by
  unfold gonB
  rw [dys_ins h h8 hd, decide_eq_true_iff]
  exact ins_w c 0 _ (wI k) k (by have := h.2.1; omega) (Nat.zero_le k) (by omega) wI_11
theorem gon_early (h : Okr f c) (h8 : f 8 = nI dy) (hd : dy + 7 < 2 ^ 31) (hk : k < c) (hn : n < 7 - dy % 7) : ¬ gonB f k n = true := by
  unfold gonB
  rw [dys_pd h h8 hd n hn, decide_eq_true_iff]
  show ¬ wI k 11 = -1
  rw [wI_11]; exact nI_nm1' (by have := h.2.1; omega)
/-- the first day on which one is gone -/
theorem ev_spec : ∀ (m i : Nat), i + m < 2 ^ 31 → (∀ j, j < i → ¬ gonB f k j = true) → (evF f k m i = -1 ∧ ∀ j, j ≤ i + m → ¬ gonB f k j = true) ∨ ∃ j, j ≤ i + m ∧ evF f k m i = nI j ∧ gonB f k j = true ∧ ∀ q, q < j → ¬ gonB f k q = true
  | 0, i, hm, h => by
    by_cases e : gonB f k i = true
    · exact Or.inr ⟨i, Nat.le_refl _, evF_t e, e, h⟩
    · refine Or.inl ⟨evF_0 e, fun j hj => ?_⟩
      by_cases z : j = i
      · subst z; exact e
      · exact h j (by omega)
  | m + 1, i, hm, h => by
    by_cases e : gonB f k i = true
    · exact Or.inr ⟨i, by omega, evF_t e, e, h⟩
    · rw [evF_f e]
      have := ev_spec m (i + 1) (by omega) (fun j hj => by
        by_cases z : j = i
        · subst z; exact e
        · exact h j (by omega))
      rw [show i + 1 + m = i + (m + 1) by omega] at this
      exact this
theorem ev_100 : (evF f k 100 0 = -1 ∧ ∀ j, j ≤ 100 → ¬ gonB f k j = true) ∨ ∃ j, j ≤ 100 ∧ evF f k 100 0 = nI j ∧ gonB f k j = true ∧ ∀ q, q < j → ¬ gonB f k q = true := by
  have := ev_spec (f := f) (k := k) 100 0 (by decide) (fun j hj => absurd hj (Nat.not_lt_zero j))
  rw [Nat.zero_add] at this; exact this
theorem ev_left (h : Okr f c) (h8 : f 8 = nI dy) (hd : dy + 7 < 2 ^ 31) (hk : k < c) : evF f k 100 0 = nI (7 - dy % 7) ↔ gonB f k (7 - dy % 7) = true := by
  rcases ev_100 (f := f) (k := k) with ⟨e, h2⟩ | ⟨j, h1, e, h2, h3⟩
  · rw [e]
    exact ⟨fun z => absurd z.symm (nI_nm1' (by omega)), fun z => absurd z (h2 _ (by omega))⟩
  · rw [e, nI_eq (by omega) (by omega)]
    refine ⟨fun z => by subst z; exact h2, fun z => ?_⟩
    have a1 : ¬ j < 7 - dy % 7 := fun y => gon_early h h8 hd hk y h2
    have a2 : ¬ 7 - dy % 7 < j := fun y => h3 _ y z
    omega
/-- what was foretold for days, and what came -/
theorem fore_stay (h : Okr f c) (hk : k < c) {d : Nat} (hd : d ≤ 100) (hs : evF f k 100 0 < 0 ∨ nI d < evF f k 100 0) : ¬ gonB f k d = true := by
  rcases ev_100 (f := f) (k := k) with ⟨e, h2⟩ | ⟨j, h1, e, h2, h3⟩
  · exact h2 d hd
  · rw [e] at hs
    rcases hs with hs | hs
    · exact absurd hs (nI_pos (by omega))
    · exact h3 d ((nI_ltI (by omega) (by omega)).mp hs)
theorem fore_go (h : Okr f c) (hk : k < c) {d : Nat} (hd : d ≤ 100) (h0 : ¬ evF f k 100 0 < 0) (h1 : ¬ nI d < evF f k 100 0) : gonB f k d = true := by
  rcases ev_100 (f := f) (k := k) with ⟨e, h2⟩ | ⟨j, h3, e, h4, h5⟩
  · rw [e] at h0; exact absurd (by decide) h0
  · rw [e] at h1
    have : j ≤ d := by
      rcases Nat.lt_or_ge d j with z | z
      · exact absurd (nI_lt z (by omega)) h1
      · exact z
    exact (gon_mono h h4 this).2
end GEVI
