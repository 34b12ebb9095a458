/-! the law's text, read (pure): lines -/
noncomputable section GPRS
variable {inp f g J : Nat → Int32} {e p q fr m k0 f0 v ft fa c n lo hi key sh φ k d : Nat} {s : PS}
theorem key_of {w : List Nat} (hw : Wd inp fr w) (hl : w.length ≤ 8) (hk : ∀ i, i < 8 → kyF (8 * key + i) = nI (w.getD i 0)) : keyP inp (1, fr, fr + w.length, v, ft, fa) key = true := by
  refine keyP_t rfl (by show fr + w.length - fr ≤ 8; omega) (eqK_of 8 fun i hi => ?_)
  rw [hk i hi]
  by_cases z : i < w.length
  · exact (letP_t (show i < fr + w.length - fr by omega)).trans (hw i z)
  · refine (letP_f (show ¬ i < fr + w.length - fr by omega)).trans ?_
    rw [List.getD_eq_getElem?_getD, List.getElem?_eq_none (by omega)]; rfl
theorem key_no {a : Nat} {w : List Nat} (hw : Wd inp fr (a :: w)) (hn : ¬ nI a = kyF (8 * key)) : ¬ keyP inp (1, fr, fr + (a :: w).length, v, ft, fa) key = true := fun z => by
  have h1 := eqK_at 8 (keyP_i z).2.2 0 (by decide)
  rw [letP_t (show 0 < fr + (w.length + 1) - fr by omega)] at h1
  exact hn ((hw 0 (Nat.succ_pos _)).symm.trans h1)
theorem acP_lp : ∀ i, (acP inp e s i).2 = lpP inp e s i
  | 0 => rfl
  | i + 1 => by rw [acP, lpP, acP_lp i]
/-- five numbers, and a semicolon -/
theorem five (h : Nms inp 5 p d) (h2 : inp d = nI 59) (hd : d < e) : ∃ v5, lpP inp e (nxP inp e (k0, f0, p, v, 0, fa)) 5 = (3, d, d + 1, v5, 0, fa) := by
  obtain ⟨r4, n5, a5, ⟨r3, n4, a4, ⟨r2, n3, a3, ⟨r1, n2, a2, ⟨r0, n1, a1, h0, h1⟩, g2⟩, g3⟩, g4⟩, g5⟩ := h
  have e0 : r0 = p := h0
  subst e0
  have l2 := g2.lt
  have l3 := g3.lt
  have l4 := g4.lt
  have l5 := g5.lt
  have s1 : tnP inp e 0 9 (2, r0 + 1, r1, n1, 0, fa) = (2, r1 + 1, r2, n2, 0, fa) := (tn_of rfl rfl ⟨Nat.zero_le _, a1⟩).trans (nxM g2 (g3.fo (by omega)))
  have s2 : tnP inp e 0 9 (2, r1 + 1, r2, n2, 0, fa) = (2, r2 + 1, r3, n3, 0, fa) := (tn_of rfl rfl ⟨Nat.zero_le _, a2⟩).trans (nxM g3 (g4.fo (by omega)))
  have s3 : tnP inp e 0 9 (2, r2 + 1, r3, n3, 0, fa) = (2, r3 + 1, r4, n4, 0, fa) := (tn_of rfl rfl ⟨Nat.zero_le _, a3⟩).trans (nxM g4 (g5.fo (by omega)))
  have s4 : tnP inp e 0 9 (2, r3 + 1, r4, n4, 0, fa) = (2, r4 + 1, d, n5, 0, fa) := (tn_of rfl rfl ⟨Nat.zero_le _, a4⟩).trans (nxM g5 (Or.inr ⟨hd, Or.inr h2⟩))
  have s5 : tnP inp e 0 9 (2, r4 + 1, d, n5, 0, fa) = (3, d, d + 1, n5, 0, fa) := (tn_of rfl rfl ⟨Nat.zero_le _, a5⟩).trans (nxS h2 hd)
  refine ⟨n5, ?_⟩
  rw [nxM h1 (g2.fo (by omega))]
  show tnP inp e 0 9 (tnP inp e 0 9 (tnP inp e 0 9 (tnP inp e 0 9 (tnP inp e 0 9 (2, r0 + 1, r1, n1, 0, fa))))) = _
  rw [s1, s2, s3, s4, s5]
/-- a line of a lodger -/
def Lod (inp : Nat → Int32) (p q k φ : Nat) : Prop := Wd inp p [59, 108, 111, 100, 103, 101, 114, 32] ∧ inp (p + 8) = nI (97 + k) ∧ ∃ p1 p2 pay, pay ≤ 999 ∧ Nm inp (p + 9) p1 φ ∧ Nm inp p1 p2 pay ∧ Nms inp 5 p2 q
def Lods (inp : Nat → Int32) (sh : Nat) : Nat → Nat → Nat → Prop
  | 0, p, q => q = p
  | k + 1, p, q => ∃ r, Lods inp sh k p r ∧ Lod inp r q k ((sh + k / 3) % 5)
def Txt (inp : Nat → Int32) (e c : Nat) : Prop := ∃ sh a b d g r1 r2 D, sh < 5 ∧ r1 ≤ 50 ∧ r2 ≤ 45 ∧ Wd inp 0 [104, 111, 117, 115, 101] ∧ Nm inp 5 a r1 ∧ Nm inp a b r2 ∧ Wd inp b [59, 108, 97, 110, 100, 108, 97, 100, 121] ∧ Nms inp 5 (b + 9) d ∧ Lods inp sh c d g ∧ Wd inp g [59, 100, 97, 121, 115] ∧ 1 ≤ D ∧ D ≤ 5 ∧ Nm inp (g + 5) e D
theorem Lod.lt (h : Lod inp p q k φ) : p < q ∧ q ≤ p + 37 := by
  obtain ⟨-, -, p1, p2, pay, -, h1, h2, h3⟩ := h
  have := h1.lt; have := h2.lt; have := h3.lt; omega
theorem Lods.lt : ∀ {k p q : Nat}, Lods inp sh k p q → p ≤ q ∧ q ≤ p + 37 * k
  | 0, p, q, h => by
    have : q = p := h
    omega
  | k + 1, p, q, ⟨r, h1, h2⟩ => by have := h1.lt; have := h2.lt; omega
theorem Lods.fst : ∀ {k d q : Nat}, Lods inp sh (k + 1) d q → inp d = nI 59
  | 0, d, q, ⟨r, h1, h2⟩ => by
    have e0 : r = d := h1
    rw [← e0]; exact h2.1 0 (by show 0 < 8; decide)
  | k + 1, d, q, ⟨r, h1, h2⟩ => Lods.fst h1
theorem Lod.of (he : ∀ i, i < q → g i = inp i) (h : Lod inp p q k φ) : Lod g p q k φ := by
  obtain ⟨h1, h2, p1, p2, pay, h3, h4, h5, h6⟩ := h
  have := h4.lt; have := h5.lt; have := h6.lt
  exact ⟨h1.of (fun j hj => he j (by change j < p + 8 at hj; omega)), (he _ (by omega)).trans h2, p1, p2, pay, h3, h4.of (fun j hj => he j (by omega)), h5.of (fun j hj => he j (by omega)), h6.of he⟩
theorem Lods.of : ∀ {k p q : Nat}, (∀ i, i < q → g i = inp i) → Lods inp sh k p q → Lods g sh k p q
  | 0, _, _, _, h => h
  | k + 1, p, q, he, ⟨r, h1, h2⟩ => ⟨r, h1.of (fun i hi => he i (by have := h2.lt; omega)), h2.of he⟩
/-- what is known of the row behind k lines -/
def Ivl (f : Nat → Int32) (sh k : Nat) : Prop := f 7 = nI k ∧ ldN f k = 0 ∧ f 8 = nI 0 ∧ (∀ j, j < k → f (13 + 16 * j) = nI ((sh + j / 3) % 5)) ∧ ∀ j, j < k → f (13 + 16 * j + 10) = nI (97 + j)
theorem Ivl.flo (h : Ivl f sh k) : Flo f k := fun j hj => ⟨(sh + j / 3) % 5, by omega, h.2.2.2.1 j hj⟩
def patF (sh : Nat) : Nat → Int32 := fun j => nI ((sh + (j - 13) / 16 / 3) % 5)
theorem pat_at {j : Nat} : patF sh (13 + 16 * j) = nI ((sh + j / 3) % 5) := by unfold patF; rw [show (13 + 16 * j - 13) / 16 = j by omega]
theorem pat_n : ∀ sh, sh < 5 → ∀ k, k < 8 → cntA (patF sh) (nI ((sh + k / 3) % 5)) k < 4 := by decide +kernel
theorem Ivl.no4 (h : Ivl f sh k) (hs : sh < 5) (hk : k < 8) : ¬ cntOn f (nI ((sh + k / 3) % 5)) (-1) k = 4 := by
  rw [cntA_on k (by omega), cntA_c (f := patF sh) k (fun j hj => (h.2.2.2.1 j hj).trans pat_at.symm)]
  have := pat_n sh hs k hk; omega
theorem fst_no {P : Nat → Bool} : ∀ m k, (∀ j, k ≤ j → j < k + m → ¬ P j = true) → fstK P m k = -1
  | 0, _, _ => rfl
  | m + 1, k, h => by rw [fstK_f (h k (Nat.le_refl k) (by omega))]; exact fst_no m (k + 1) (fun j h1 h2 => h j (by omega) (by omega))
theorem Ivl.fnd (h : Ivl f sh k) (hk : k < 8) (hp : inp p = nI (97 + k)) : fndF inp f p 1 k = -1 := by
  refine fst_no k 0 (fun j _ hj z => ?_)
  have h1 : nmE inp f j p 1 1 = true := nmE_mono (j := 6) (by decide) z
  rw [nmE, Bool.and_eq_true] at h1
  have h2 := (of_decide_eq_true h1.2).1
  rw [if_pos (by decide)] at h2
  have h3 := (h.2.2.2.2 j (by omega)).symm.trans (h2.trans hp)
  have := (nI_eq (by omega) (by omega)).mp h3
  omega
theorem mny_of (h : f 7 = nI k) (hk : k < 2 ^ 31) : mny f = k := by unfold mny; rw [h, nI_clamp hk]
/-- one line -/
theorem lod_ln (h : Ivl f sh k) (hs : sh < 5) (hk : k < 8) (hl : Lod inp p q k ((sh + k / 3) % 5)) (h2 : inp q = nI 59) (hq : q < e) : ∃ v2, tsP inp e (3, p, p + 1, v, 0, fa) = (1, p + 1, p + 7, v, 0, fa) ∧ lnP inp e f (mny f) (1, p + 1, p + 7, v, 0, fa) = (3, q, q + 1, v2, 0, fa) ∧ Ivl (lnF inp e f J (mny f) (1, p + 1, p + 7, v, 0, fa)) sh (k + 1) := by
  obtain ⟨w, w8, p1, p2, pay, hpay, m1, m2, m3⟩ := hl
  have l1 := m1.lt
  have l2 := m2.lt
  have l3 := m3.lt
  have h7 := h.1
  have h12 : ¬ f 7 = nI 12 := by rw [h7]; exact nI_in0 (by omega) (by decide) (by omega)
  have w0 : ∀ i a, i < 8 → [59, 108, 111, 100, 103, 101, 114, 32].getD i 0 = a → inp (p + i) = nI a := fun i a hi ha => by rw [← ha]; exact w i hi
  have hw : Wd inp (p + 1) [108, 111, 100, 103, 101, 114] := fun i hi => by
    have hi6 : i < 6 := hi
    have hb : ∀ i, i < 6 → [59, 108, 111, 100, 103, 101, 114, 32].getD (i + 1) 0 = [108, 111, 100, 103, 101, 114].getD i 0 := by decide
    rw [show p + 1 + i = p + (i + 1) by omega, ← hb i hi6]; exact w (i + 1) (show i + 1 < 8 by omega)
  have c1 : inp (p + 7) = nI 32 := w0 7 32 (by decide) rfl
  have c9 : inp (p + 9) = nI 32 := by obtain ⟨m, -, -, -, z, -⟩ := m1; exact z
  have t1 : tsP inp e (3, p, p + 1, v, 0, fa) = (1, p + 1, p + 7, v, 0, fa) := by
    rw [ts_of rfl rfl]
    have hl : ∀ i, i < 6 → ltB inp (p + 1 + i) = true := fun i hi => by
      have := hw i hi
      have hb : ∀ i, i < 6 → 97 ≤ [108, 111, 100, 103, 101, 114].getD i 0 ∧ [108, 111, 100, 103, 101, 114].getD i 0 ≤ 122 := by decide
      exact lt_of this (hb i hi).1 (hb i hi).2
    exact nxW (m := 6) (by decide) (sk0 (lt_sp (hl 0 (by decide)))) (Or.inl ⟨by decide, by decide⟩) hl (by omega) (Or.inr (lt_no c1 (by decide)))
  have hkey : keyP inp (1, p + 1, p + 7, v, 0, fa) 2 = true := key_of hw (by decide) (by decide)
  have hlt : ltB inp (p + 8) = true := lt_of w8 (by omega) (by omega)
  have t2 : nxP inp e (1, p + 1, p + 7, v, 0, fa) = (1, p + 8, p + 9, v, 0, fa) := nxW (m := 1) (by decide) (sk1 c1 (lt_sp hlt) (by omega)) (Or.inr (by omega)) (fun i hi => by rw [show p + 8 + i = p + 8 by omega]; exact hlt) (by omega) (Or.inr (lt_no c9 (by decide)))
  rw [mny_of h7 (by omega)]
  have tA : rlA inp e f k (1, p + 1, p + 7, v, 0, fa) = (1, p + 8, p + 9, v, 0, fa) := by
    show rl3 inp f k (nmP (nxP inp e (1, p + 1, p + 7, v, 0, fa))) = _
    rw [t2, nm_of ⟨rfl, by show p + 9 - (p + 8) ≤ 6; omega⟩]
    exact rl3_of (by show fndF inp f (p + 8) (p + 9 - (p + 8)) k = -1; rw [show p + 9 - (p + 8) = 1 by omega]; exact h.fnd hk w8)
  have tB : rlB inp e f k (1, p + 1, p + 7, v, 0, fa) = (2, p + 9 + 1, p1, (sh + k / 3) % 5, 0, fa) := by
    show goP inp e (rlA inp e f k (1, p + 1, p + 7, v, 0, fa)) = _
    rw [tA, goP_t rfl]; exact nxM m1 (m2.fo (by omega))
  have hv4 : hvP 0 4 (rlB inp e f k (1, p + 1, p + 7, v, 0, fa)) = (sh + k / 3) % 5 := by
    rw [tB]; exact hv_of rfl rfl ⟨Nat.zero_le _, by show (sh + k / 3) % 5 ≤ 4; omega⟩
  have m3' := m3
  obtain ⟨rl4, n5, a5, ⟨rl3', n4, a4, ⟨rl2, n3, a3, ⟨rl1, n2, a2, ⟨r0, n1, a1, h0, mm1⟩, g2⟩, g3⟩, g4⟩, g5⟩ := m3'
  have e0 : r0 = p2 := h0
  subst e0
  have l7 := g2.lt
  have l8 := g3.lt
  have l9 := g4.lt
  have l10 := g5.lt
  have tC : rlC inp e f k (1, p + 1, p + 7, v, 0, fa) = (2, p1 + 1, r0, pay, 0, fa) := by
    show goP inp e (rl6 f (hvP 0 4 (rlB inp e f k (1, p + 1, p + 7, v, 0, fa))) (-1) k (hrP 0 4 (rlB inp e f k (1, p + 1, p + 7, v, 0, fa)))) = _
    rw [hv4, tB, hrP_o rfl rfl ⟨Nat.zero_le _, by show (sh + k / 3) % 5 ≤ 4; omega⟩, rl6_of (h.no4 hs hk), goP_t rfl]
    exact nxM m2 (mm1.fo (by omega))
  have hv9 : hvP 0 999 (rlC inp e f k (1, p + 1, p + 7, v, 0, fa)) = pay := by
    rw [tC]; exact hv_of rfl rfl ⟨Nat.zero_le _, hpay⟩
  obtain ⟨v5, t5⟩ := five (k0 := 2) (f0 := p1 + 1) (v := pay) (fa := fa) m3 h2 hq
  have tE : (rlE inp e f k (1, p + 1, p + 7, v, 0, fa)).2 = (3, q, q + 1, v5, 0, fa) := by
    show (acP inp e (tnP inp e 0 999 (rlC inp e f k (1, p + 1, p + 7, v, 0, fa))) 5).2 = _
    rw [acP_lp, tC, tn_of (lo := 0) (hi := 999) rfl rfl ⟨Nat.zero_le _, hpay⟩]
    exact t5
  refine ⟨v5, t1, ?_, ?_⟩
  · unfold lnP; rw [op_eq, if_pos hkey, rlP_e h12]; exact tE
  · have eF : lnF inp e f J k (1, p + 1, p + 7, v, 0, fa) = nmF (comF f (nI ((sh + k / 3) % 5)) (nI pay) (rlE inp e f k (1, p + 1, p + 7, v, 0, fa)).1 k) inp (13 + 16 * k + 10) (p + 8) 1 := by
      unfold lnF; rw [if_pos hkey]
      unfold rlF
      rw [if_pos ⟨h12, by rw [tE]⟩, hv4, hv9, tA, show p + 9 - (p + 8) = 1 by omega]
    rw [eF]
    generalize (rlE inp e f k (1, p + 1, p + 7, v, 0, fa)).1 = a
    have hg : ∀ j, j < 13 + 16 * k + 10 → nmF (comF f (nI ((sh + k / 3) % 5)) (nI pay) a k) inp (13 + 16 * k + 10) (p + 8) 1 j = comF f (nI ((sh + k / 3) % 5)) (nI pay) a k j := fun j hj => nmF_o 1 hj
    refine ⟨(hg 7 (by omega)).trans (com_7 h7), (ldN_com (by omega) hg).trans h.2.1, ?_, fun j hj => ?_, fun j hj => ?_⟩
    · rw [hg 8 (by omega), com_out (by decide) (by decide) (by omega)]; exact h.2.2.1
    · rw [hg _ (by omega)]
      by_cases z : j = k
      · subst z; exact com_r.1
      · rw [com_out (by omega) (by omega) (by omega)]; exact h.2.2.2.1 j (by omega)
    · by_cases z : j = k
      · subst z
        rw [nmF, nmF, Nat.add_zero, Nat.add_zero, pk_us]; exact w8
      · rw [hg _ (by omega), com_out (by omega) (by omega) (by omega)]; exact h.2.2.2.2 j (by omega)
/-- the lodgers' lines -/
theorem lod_ls (hs : sh < 5) (h0 : Ivl f sh 0) : ∀ k q, k ≤ 8 → Lods inp sh k p q → inp q = nI 59 → q < e → ∃ g v2, Ivl g sh k ∧ ∀ M, lsP inp e J (M + k) (f, (3, p, p + 1, v, 0, fa)) = lsP inp e J M (g, (3, q, q + 1, v2, 0, fa))
  | 0, q, _, hl, _, _ => by
    have e0 : q = p := hl
    subst e0
    exact ⟨f, v, h0, fun M => rfl⟩
  | k + 1, q, hk, ⟨r, h1, h2⟩, h3, h4 => by
    have hr : inp r = nI 59 := h2.1 0 (by show 0 < 8; decide)
    obtain ⟨g, v2, i1, i2⟩ := lod_ls hs h0 k r (by omega) h1 hr (by have := h2.lt; omega)
    obtain ⟨v3, t1, t2, t3⟩ := lod_ln (J := J) (v := v2) (fa := fa) i1 hs (by omega) h2 h3 h4
    refine ⟨_, v3, t3, fun M => ?_⟩
    rw [show M + (k + 1) = (M + 1) + k by omega, i2 (M + 1), lsP_s ⟨rfl, by show (3 : Nat) ≠ 0; decide⟩ (by show (tsP inp e (3, r, r + 1, v2, 0, fa)).2.2.2.2.1 = 0; rw [t1])]
    show lsP inp e J M (lnF inp e g J (mny g) (tsP inp e (3, r, r + 1, v2, 0, fa)), lnP inp e g (mny g) (tsP inp e (3, r, r + 1, v2, 0, fa))) = _
    rw [t1, t2]
/-- the text -/
theorem txt_ok (h : Txt inp e c) (hc : c ≤ 8) {s : PS} (hfa : s.2.2.2.2.2 = fa) : (txP inp e J (z0 s)).2.2.2.2.2.1 = 0 ∧ (txP inp e J (z0 s)).1 7 = nI c ∧ ldN (txP inp e J (z0 s)).1 c = 0 ∧ ∃ D, D ≤ 5 ∧ (txP inp e J (z0 s)).1 8 = nI D := by
  obtain ⟨sh, a, b, d, g, r1, r2, D, hs, hr1, hr2, w1, n1, n2, w2, n5, hl, w3, hD1, hD5, nd⟩ := h
  have l1 := n1.lt
  have l2 := n2.lt
  have l5 := n5.lt
  have ll := hl.lt
  have ld := nd.lt
  subst hfa
  have a1 : ∀ i, i < 5 → ltB inp (0 + i) = true := fun i hi => by
    have hb : ∀ i, i < 5 → 97 ≤ [104, 111, 117, 115, 101].getD i 0 ∧ [104, 111, 117, 115, 101].getD i 0 ≤ 122 := by decide
    exact lt_of (w1 i hi) (hb i hi).1 (hb i hi).2
  have sp5 : inp 5 = nI 32 := by obtain ⟨m, -, -, -, z, -⟩ := n1; exact z
  have t1 : nxP inp e (z0 s) = (1, 0, 5, s.2.2.2.1, 0, s.2.2.2.2.2) := nxW (m := 5) (fr := 0) (by decide) (sk0 (lt_sp (a1 0 (by decide)))) (Or.inl ⟨by decide, by decide⟩) a1 (by omega) (Or.inr (lt_no sp5 (by decide)))
  have tB : rtB inp e (z0 s) = (2, 6, a, r1, 0, s.2.2.2.2.2) := by
    show twP inp e 0 (nxP inp e (z0 s)) = _
    have hk0 : keyP inp (1, 0, 5, s.2.2.2.1, 0, s.2.2.2.2.2) 0 = true := key_of (w := [104, 111, 117, 115, 101]) w1 (by decide) (by decide)
    rw [t1, tw_of rfl hk0]
    exact nxM n1 (n2.fo (by omega))
  have b59 : inp b = nI 59 := w2 0 (by show 0 < 9; decide)
  have tC : rtC inp e (z0 s) = (2, a + 1, b, r2, 0, s.2.2.2.2.2) := by
    show tnP inp e 0 50 (rtB inp e (z0 s)) = _
    rw [tB, tn_of (lo := 0) (hi := 50) rfl rfl ⟨Nat.zero_le _, hr1⟩]
    exact nxM n2 (Or.inr ⟨by omega, Or.inr b59⟩)
  have tD : rtD inp e (z0 s) = (3, b, b + 1, r2, 0, s.2.2.2.2.2) := by
    show tnP inp e 0 45 (rtC inp e (z0 s)) = _
    rw [tC, tn_of (lo := 0) (hi := 45) rfl rfl ⟨Nat.zero_le _, hr2⟩]
    exact nxS b59 (by omega)
  have hw2 : Wd inp (b + 1) [108, 97, 110, 100, 108, 97, 100, 121] := fun i hi => by
    have hi6 : i < 8 := hi
    rw [show b + 1 + i = b + (i + 1) by omega]; exact w2 (i + 1) (show i + 1 < 9 by omega)
  have a2 : ∀ i, i < 8 → ltB inp (b + 1 + i) = true := fun i hi => by
    have hb : ∀ i, i < 8 → 97 ≤ [108, 97, 110, 100, 108, 97, 100, 121].getD i 0 ∧ [108, 97, 110, 100, 108, 97, 100, 121].getD i 0 ≤ 122 := by decide
    exact lt_of (hw2 i hi) (hb i hi).1 (hb i hi).2
  have g59 : inp g = nI 59 := w3 0 (by show 0 < 5; decide)
  have d59 : inp d = nI 59 := by
    cases c with
    | zero =>
      have e0 : g = d := hl
      rw [← e0]; exact g59
    | succ c => exact Lods.fst hl
  have n5' := n5
  obtain ⟨q4, x5, y5, ⟨q3, x4, y4, ⟨q2, x3, y3, ⟨q1, x2, y2, ⟨q0, x1, y1, h0, z1⟩, z2⟩, z3⟩, z4⟩, z5⟩ := n5'
  have e0 : q0 = b + 9 := h0
  subst e0
  have k1 := z1.lt
  have k2 := z2.lt
  have k3 := z3.lt
  have k4 := z4.lt
  have k5 := z5.lt
  have b9 : inp (b + 9) = nI 32 := by obtain ⟨m, -, -, -, z, -⟩ := z1; exact z
  have tE : rtE inp e (z0 s) = nxP inp e (1, b + 1, b + 9, r2, 0, s.2.2.2.2.2) := by
    show twP inp e 1 (tsP inp e (rtD inp e (z0 s))) = _
    rw [tD, ts_of rfl rfl, nxW (m := 8) (fr := b + 1) (by decide) (sk0 (lt_sp (a2 0 (by decide)))) (Or.inl ⟨by decide, by decide⟩) a2 (by omega) (Or.inr (lt_no b9 (by decide)))]
    exact tw_of rfl (key_of (w := [108, 97, 110, 100, 108, 97, 100, 121]) hw2 (by decide) (by decide))
  obtain ⟨v5, t5⟩ := five (k0 := 1) (f0 := b + 1) (v := r2) (fa := s.2.2.2.2.2) n5 d59 (show d < e by omega)
  have hI0 : Ivl (hdF inp e (z0 s) 5) sh 0 := ⟨hdF_hi (by decide) 5 (by decide), by
      show hdF inp e (z0 s) 5 12 - hdF inp e (z0 s) 5 10 + hdF inp e (z0 s) 5 11 = 0
      rw [hdF_hi (by decide) 5 (by decide), hdF_hi (by decide) 5 (by decide), hdF_hi (by decide) 5 (by decide)]; decide, hdF_hi (by decide) 5 (by decide), fun j hj => absurd hj (Nat.not_lt_zero j), fun j hj => absurd hj (Nat.not_lt_zero j)⟩
  obtain ⟨F, v6, i1, i2⟩ := lod_ls (J := J) (v := v5) (fa := s.2.2.2.2.2) hs hI0 c g hc hl g59 (show g < e by omega)
  have hw3 : Wd inp (g + 1) [100, 97, 121, 115] := fun i hi => by
    have hi6 : i < 4 := hi
    rw [show g + 1 + i = g + (i + 1) by omega]; exact w3 (i + 1) (show i + 1 < 5 by omega)
  have a3 : ∀ i, i < 4 → ltB inp (g + 1 + i) = true := fun i hi => by
    have hb : ∀ i, i < 4 → 97 ≤ [100, 97, 121, 115].getD i 0 ∧ [100, 97, 121, 115].getD i 0 ≤ 122 := by decide
    exact lt_of (hw3 i hi) (hb i hi).1 (hb i hi).2
  have g5 : inp (g + 5) = nI 32 := by obtain ⟨m, -, -, -, z, -⟩ := nd; exact z
  have t6 : tsP inp e (3, g, g + 1, v6, 0, s.2.2.2.2.2) = (1, g + 1, g + 5, v6, 0, s.2.2.2.2.2) := by
    rw [ts_of rfl rfl]
    exact nxW (m := 4) (by decide) (sk0 (lt_sp (a3 0 (by decide)))) (Or.inl ⟨by decide, by decide⟩) a3 (by omega) (Or.inr (lt_no g5 (by decide)))
  have t7 : nxP inp e (1, g + 1, g + 5, v6, 0, s.2.2.2.2.2) = (2, g + 5 + 1, e, D, 0, s.2.2.2.2.2) := nxM nd (Or.inl rfl)
  have t8 : tnP inp e 1 100 (2, g + 5 + 1, e, D, 0, s.2.2.2.2.2) = (0, e, e, D, 0, s.2.2.2.2.2) := by
    rw [tn_of (lo := 1) (hi := 100) rfl rfl ⟨hD1, by show D ≤ 100; omega⟩]; exact nxE
  have t9 : rdP inp e (1, g + 1, g + 5, v6, 0, s.2.2.2.2.2) = (0, e, e, D, 0, s.2.2.2.2.2) := by rw [← rdP_eq, t7, t8]
  have t10 : rdN inp e (1, g + 1, g + 5, v6, 0, s.2.2.2.2.2) = D := by
    unfold rdN; rw [t9, if_pos rfl, t7]
    exact hv_of rfl rfl ⟨hD1, by show D ≤ 100; omega⟩
  have q2' : ¬ keyP inp (1, g + 1, g + 5, v6, 0, s.2.2.2.2.2) 2 = true := key_no hw3 (by decide)
  have q3' : ¬ keyP inp (1, g + 1, g + 5, v6, 0, s.2.2.2.2.2) 3 = true := key_no hw3 (by decide)
  have q4' : ¬ keyP inp (1, g + 1, g + 5, v6, 0, s.2.2.2.2.2) 4 = true := key_no hw3 (by decide)
  have q5' : keyP inp (1, g + 1, g + 5, v6, 0, s.2.2.2.2.2) 5 = true := key_of (w := [100, 97, 121, 115]) hw3 (by decide) (by decide)
  have eT : txP inp e J (z0 s) = ((dysM F J D).1, (0, e, e, D, 0, s.2.2.2.2.2)) := by
    show lsP inp e J (e + 1) (hdF inp e (z0 s) 5, lpP inp e (rtE inp e (z0 s)) 5) = _
    rw [tE, t5, show e + 1 = (e - c + 1) + c by omega, i2 (e - c + 1), lsP_s ⟨rfl, by show (3 : Nat) ≠ 0; decide⟩ (by show (tsP inp e (3, g, g + 1, v6, 0, s.2.2.2.2.2)).2.2.2.2.1 = 0; rw [t6])]
    show lsP inp e J (e - c) (lnF inp e F J (mny F) (tsP inp e (3, g, g + 1, v6, 0, s.2.2.2.2.2)), lnP inp e F (mny F) (tsP inp e (3, g, g + 1, v6, 0, s.2.2.2.2.2))) = _
    rw [t6]
    have e1 : lnP inp e F (mny F) (1, g + 1, g + 5, v6, 0, s.2.2.2.2.2) = (0, e, e, D, 0, s.2.2.2.2.2) := by
      unfold lnP; rw [op_eq, if_neg q2', if_neg q3', if_neg q4', if_pos q5']; exact t9
    have e2 : lnF inp e F J (mny F) (1, g + 1, g + 5, v6, 0, s.2.2.2.2.2) = (dysM F J D).1 := by
      unfold lnF; rw [if_neg q2', if_neg q3', if_neg q4', if_pos q5', t10]
    rw [e1, e2]
    exact lsP_x (fun z => z.2 rfl)
  rw [eT]
  have hok : Okr F c := ⟨i1.1, by omega, i1.flo⟩
  obtain ⟨c2, b1, b2, b3, b4, b8, b5⟩ := dys_led (I := J) hok D
  have e8 : F 8 = nI 0 := i1.2.2.1
  have hp := dys_pd (I := J) hok e8 (by decide) D (by show D < 7 - 0 % 7; omega)
  have e7 : (dysM F J D).1 7 = nI c := by rw [hp]; exact (pd_ok hok D).1
  have ec : c2 = c := (nI_eq (by omega) (by omega)).mp (b2.1.symm.trans e7)
  subst ec
  exact ⟨rfl, e7, b3.trans i1.2.1, D, hD5, by rw [b8, e8, nI_add, Nat.zero_add]⟩
end GPRS
