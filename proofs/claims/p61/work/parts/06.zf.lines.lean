/-! the text's lines keep what always holds (pure) -/
noncomputable section GLNV
variable {Γ : Gm} {e c B : Nat} {S : Hp} {t t2 : PT} {R R2 : Hr} {inp f J : Nat → Int32} {s u : PS}
theorem val_ln (hs : PV e u) (h0 : u.2.2.2.2.1 = 0) (hv : Val (2000 * u.2.1) f c) : ∃ c2, Val (2000 * (lnP inp e f c u).2.1) (lnF inp e f J c u) c2 := by
  have hst : u.2.1 ≤ 600 := Nat.le_trans (Nat.le_trans hs.2.1 hs.2.2.1) hs.2.2.2.2.2.2.2.2
  have hfr := lnP_fr (inp := inp) (f := f) (c := c) hs
  have hV := lnP_v (inp := inp) (f := f) (c := c) hs
  have hst2 : (lnP inp e f c u).2.1 ≤ 600 := Nat.le_trans (Nat.le_trans hV.2.1 hV.2.2.1) hV.2.2.2.2.2.2.2.2
  have hmono : Val (2000 * (lnP inp e f c u).2.1) f c := hv.le (by omega)
  have pn : u.2.2.1 ≤ (nxP inp e u).2.1 := nxP_fr
  by_cases k2 : keyP inp u 2 = true
  · obtain ⟨e1, e2⟩ := ln_2 (f := f) (e := e) (c := c) (J := J) k2
    rw [e1] at hst2 hmono hfr ⊢
    rw [e2]
    unfold rlF
    by_cases z : ¬ f 7 = nI 12 ∧ (rlE inp e f c u).2.2.2.2.2.1 = 0
    · rw [if_pos z]
      have h12 : c < 12 := by
        have := hv.2.1
        rcases Nat.lt_or_ge c 12 with y | y
        · exact y
        · exact absurd (by rw [hv.1, show c = 12 by omega]) z.1
      have hl : (rlP inp e f c u).2.2.2.2.1 = 0 := by rw [rlP_e z.1]; exact z.2
      have hadv := rl_adv hs k2 z.1 hl
      have hD : (rlD inp e f c u).2.2.2.2.1 = 0 := ac_l 5 z.2
      have hC : (rlC inp e f c u).2.2.2.2.1 = 0 := (tnP_live hD).1
      obtain ⟨-, -, -, h4⟩ := rl_live hC
      have b1 := (hvP_b (s := rlB inp e f c u) (show 0 ≤ 4 by decide)).2
      have b2 := (hvP_b (s := rlC inp e f c u) (show 0 ≤ 999 by decide)).2
      exact ⟨c + 1, hmono.com h12 (by omega) (by omega) (by omega) h4 (fun j hj => nmF_o _ hj)⟩
    · rw [if_neg z]; exact ⟨c, hmono⟩
  · by_cases k3 : keyP inp u 3 = true
    · obtain ⟨e1, e2⟩ := ln_3 (f := f) (e := e) (c := c) (J := J) k2 k3
      rw [e1] at hst2 hmono hfr ⊢
      rw [e2]
      unfold ryF
      by_cases z : (ryP inp e f c u).2.2.2.2.1 = 0
      · rw [if_pos z]
        have kl : 3 ≤ u.2.2.1 - u.2.1 := key_len (by decide) k3
        have p1 : (nxP inp e u).2.1 ≤ (ryA inp e f c u).2.1 := tlP_fr (nxP_v hs)
        have p2 : (ryA inp e f c u).2.1 ≤ (ryP inp e f c u).2.1 := by rw [← ryP_eq]; exact tnP_fr (ryA_v hs)
        have b1 := (hvP_b (s := ryA inp e f c u) (show 1 ≤ 999 by decide)).2
        exact ⟨c, (hv.pay b1 (by omega)).le (by omega)⟩
      · rw [if_neg z]; exact ⟨c, hmono⟩
    · by_cases k4 : keyP inp u 4 = true
      · obtain ⟨e1, e2⟩ := ln_4 (f := f) (e := e) (c := c) (J := J) k2 k3 k4
        rw [e1] at hst2 hmono hfr ⊢
        rw [e2]
        unfold rmF
        by_cases z : (rmP inp e f c u).2.2.2.2.1 = 0
        · rw [if_pos z]
          have z' : (rmS inp e f c u).2.2.2.2.1 = 0 := by
            have := z
            rw [← rmP_eq] at this
            exact this
          have lA := rm_live z'
          have hb := (hvP_b (s := ryA inp e f c u) (show 0 ≤ 4 by decide)).2
          obtain ⟨-, -, -, k, hk, h5, -⟩ := tl_live (s := nxP inp e u) lA
          have eV : tlV inp e f c (nxP inp e u) = k := by
            unfold tlV; rw [if_pos lA, h5, nI_clamp (by have := hv.2.1; omega)]
          have h4 : ¬ cntOn f (nI (hvP 0 4 (ryA inp e f c u))) (nI (tlV inp e f c (nxP inp e u))) c = 4 := fun y => by
            have h1 : (rl6 f (hvP 0 4 (ryA inp e f c u)) (nI (tlV inp e f c (nxP inp e u))) c (hrP 0 4 (ryA inp e f c u))).2.2.2.2.1 = 0 := by
              have : (goP inp e (rl6 f (hvP 0 4 (ryA inp e f c u)) (nI (tlV inp e f c (nxP inp e u))) c (hrP 0 4 (ryA inp e f c u)))).2.2.2.2.1 = 0 := z'
              rwa [goP_ft] at this
            unfold rl6 at h1
            rw [op_eq] at h1
            by_cases x : (hrP 0 4 (ryA inp e f c u)).2.2.2.2.1 = 0
            · rw [if_pos ⟨x, y⟩] at h1; exact absurd h1 (erP_ne (by decide))
            · rw [if_neg (fun w => x w.1)] at h1; exact x h1
          rw [eV] at h4 ⊢
          exact ⟨c, hmono.move hk (by omega) h4⟩
        · rw [if_neg z]; exact ⟨c, hmono⟩
      · by_cases k5 : keyP inp u 5 = true
        · obtain ⟨e1, e2⟩ := ln_5 (f := f) (e := e) (c := c) (J := J) k2 k3 k4 k5
          rw [e1] at hst2 hmono hfr ⊢
          rw [e2]
          have kl : 4 ≤ u.2.2.1 - u.2.1 := key_len (by decide) k5
          have p2 : (nxP inp e u).2.1 ≤ (rdP inp e u).2.1 := by rw [← rdP_eq]; exact tnP_fr (nxP_v hs)
          have hn : rdN inp e u ≤ 100 := by
            unfold rdN; split
            · exact (hvP_b (show 1 ≤ 100 by decide)).2
            · omega
          obtain ⟨c2, -, h2⟩ := val_dys (I := J) hv (rdN inp e u) (by omega)
          exact ⟨c2, h2.le (by omega)⟩
        · obtain ⟨e1, e2⟩ := ln_n (f := f) (e := e) (c := c) (J := J) k2 k3 k4 k5
          rw [e1] at hmono ⊢
          rw [e2]
          exact ⟨c, hmono⟩
theorem Rp.val {c2 : Nat} (h : Rp Γ S f c R) (hv : Val B f c2) : Val B f c ∧ Hok Γ S R := by
  obtain rfl : c2 = c := (nI_eq (by have := hv.2.1; omega) (by have := h.2.1; omega)).mp (hv.1.symm.trans h.2.2.1)
  exact ⟨hv, f, c2, h, hv.okr.2.2, hv.2.2.2.2⟩
theorem Hok.mono {S2 : Hp} (h : Hok Γ S R) (e : ∀ a, Le S S2 a) : Hok Γ S2 R := by
  obtain ⟨g, c, h1, h2⟩ := h
  exact ⟨g, c, h1.mono e, h2⟩
/-- the end of the text -/
theorem fin_0 {m : Nat} (h : PRel inp e s t) (hκ : t.2.2.1 = 0) : lsP inp e J m (f, s) = (f, s) := by
  refine lsP_x fun z => ?_
  obtain ⟨-, -, ⟨-, -, h5, -⟩, -⟩ := h.live z.1
  have z2 : s.1 ≠ 0 := z.2
  omega
theorem fin_f {m : Nat} (h : PRel inp e s t) (hκ : ¬ t.2.2.1 = 0) (h3 : s.2.2.2.2.1 = 0 → ¬ t.2.2.1 = 3) : PRel inp e (lsP inp e J (m + 1) (f, s)).2 (flT t 1 t.2.2.2.1) ∧ (lsP inp e J (m + 1) (f, s)).2.2.2.2.2.1 ≠ 0 := by
  by_cases h0 : s.2.2.2.2.1 = 0
  · obtain ⟨-, -, ⟨-, -, h5, -⟩, -⟩ := h.live h0
    have hz := ts_n h (h3 h0)
    rw [lsP_e (x := (f, s)) ⟨h0, by show s.1 ≠ 0; omega⟩ hz.2]
    exact hz
  · rw [lsP_x (x := (f, s)) (fun z => h0 z.1), flT_n (h.n0 h0)]
    exact ⟨h, h0⟩
/-- a semicolon taken -/
theorem semi (h : PRel inp e s t) (h0 : s.2.2.2.2.1 = 0) (hκ : t.2.2.1 = 3) : PRel inp e (tsP inp e s) (stT inp e t) ∧ (tsP inp e s).2.2.2.2.1 = 0 ∧ s.2.1 < (tsP inp e s).2.1 ∧ s.1 = 3 := by
  have h1 := ts_y h hκ
  obtain ⟨-, -, ⟨-, -, h5, -⟩, -⟩ := h.live h0
  have e1 : tsP inp e s = goP inp e s := by
    unfold tsP; rw [op_eq, if_neg (fun z => z.2 (by omega))]
  have h2 : (tsP inp e s).2.2.2.2.1 = 0 := by rw [e1, goP_ft]; exact h0
  exact ⟨h1, h2, (tsP_live h.2.1 h2).2.2.2, by omega⟩
end GLNV
