/-! what the law asks of payments and of days to come (pure) -/
section GSVH
variable {f g x y : Nat → Int32} {c k n B D kp dy p T : Nat}
theorem evp (hf : Okr f c) (hk : k < c) (h8 : f 8 = nI dy) (hd : dy + 7 < 2 ^ 31) : evF (payF f k (nI p)) k 100 0 = nI (7 - dy % 7) ↔ Gp f k (7 - dy % 7) p := by
  have h1 : Okr (payF f k (nI p)) c := sm_okr sm_payF (sm_okr (sm_payx (x := nI p) (k := k)) hf)
  have h2 : payF f k (nI p) 8 = nI dy := ((sm_payF (x := nI p) 8 (by omega) (by omega)).trans (sm_payx 8 (by omega) (by omega))).trans h8
  exact (ev_left h1 h2 hd hk).trans (gpF hf hk h8 hd)
theorem ev0 (hf : Okr f c) (hk : k < c) (h8 : f 8 = nI dy) (hd : dy + 7 < 2 ^ 31) : Gp f k (7 - dy % 7) 0 ↔ evF f k 100 0 = nI (7 - dy % 7) := by
  rw [ev_left hf h8 hd hk]; unfold Gp; rw [payx_0]
theorem r_sb (x a b : Int32) : x + (a + b) - b = x + a := by grind
theorem sub1 {x : Int32} {L : Nat} (h : 1 ≤ L) : x + nI L - nI 1 = x + nI (L - 1) := by
  obtain ⟨m, rfl⟩ : ∃ m, L = m + 1 := ⟨L - 1, by omega⟩
  rw [← nI_add, Nat.add_sub_cancel]; exact r_sb _ _ _
theorem pay_spec' (hv : Val B f c) (hk : k < c) (h8 : f 8 = nI dy) (hd : dy + 7 < 2 ^ 31) (hB : B + 2000 < 2 ^ 31) :
    (ptR f k (7 - dy % 7) = nI 0 ∧ ¬ Gp f k (7 - dy % 7) 0) ∨ (∃ L, 1 ≤ L ∧ L ≤ 999 ∧ ptR f k (7 - dy % 7) = nI L ∧ Gp f k (7 - dy % 7) 0 ∧ ¬ Gp f k (7 - dy % 7) L ∧ Gp f k (7 - dy % 7) (L - 1)) ∨ (ptR f k (7 - dy % 7) = -1 ∧ Gp f k (7 - dy % 7) 0 ∧ Gp f k (7 - dy % 7) 999) := by
  obtain ⟨r, hr, er⟩ := hv.2.2.2.1.1
  obtain ⟨⟨φ, hφ, eφ⟩, hb, -⟩ := hv.2.2.1 k hk
  exact pay_spec hv.okr hk h8 hd hb hB (ρ := r + 5 * φ) (by rw [er, eφ, nI_mul, nI_add]) (by omega)
theorem IW.kp10 {Γ : Gm} {ab ra s0 : Nat} {g0 : Nat → Int32} {top : Option (Nat → Int32)} {E : Hp} (h : IW Γ ab ra B D s0 g0 f c kp top E n) : kp ≤ 10 := by
  obtain ⟨S, q, I, A, h1, h2, h3, h4, -⟩ := h
  have := h2.2.2.2.1.1; omega
end GSVH
