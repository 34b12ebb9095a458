/-! what the law asks of a change (pure) -/
section GACT
variable {f g x y : Nat → Int32} {c k n B D kp dy t a φ : Nat} {fl z : Int32}
theorem cnt_but (hk : k ≤ 12) : ∀ m, m ≤ 12 → cntOn f fl (nI k) m + (if k < m ∧ f (13 + 16 * k) = fl then 1 else 0) = cntA f fl m
  | 0, _ => by rw [if_neg (fun z => Nat.not_lt_zero k z.1)]; rfl
  | m + 1, hm => by
    have ih := cnt_but hk m (by omega)
    rw [cntOn, cntA]
    by_cases e : m = k
    · subst e
      rw [if_neg (fun z => Nat.lt_irrefl m z.1)] at ih
      rw [if_neg (fun z => z.1 rfl)]
      by_cases e2 : f (13 + 16 * m) = fl
      · rw [if_pos ⟨Nat.lt_succ_self m, e2⟩, if_pos e2]; omega
      · rw [if_neg (fun z => e2 z.2), if_neg e2]; omega
    · have e3 : ¬ nI m = nI k := fun z => e ((nI_eq (by omega) (by omega)).mp z)
      have e4 : (if k < m + 1 ∧ f (13 + 16 * k) = fl then 1 else 0) = (if k < m ∧ f (13 + 16 * k) = fl then 1 else 0) := by
        by_cases e2 : f (13 + 16 * k) = fl
        · by_cases e5 : k < m
          · rw [if_pos ⟨by omega, e2⟩, if_pos ⟨e5, e2⟩]
          · rw [if_neg (fun z => e5 (by have := z.1; omega)), if_neg (fun z => e5 z.1)]
        · rw [if_neg (fun z => e2 z.2), if_neg (fun z => e2 z.2)]
      rw [e4]
      by_cases e2 : f (13 + 16 * m) = fl
      · rw [if_pos ⟨e3, e2⟩, if_pos e2]; omega
      · rw [if_neg (fun z => e2 z.2), if_neg e2]; omega
theorem mv_ok1 (hk : k < c) (hc : c ≤ 12) (hle : ∀ fl, cntA f fl c ≤ 4) (h : f (13 + 16 * k) = fl) : ¬ cntOn f fl (nI k) c = 4 := by
  have h1 := cnt_but (f := f) (fl := fl) (k := k) (by omega) c hc
  rw [if_pos ⟨hk, h⟩] at h1
  have := hle fl; omega
theorem mv_ok2 (hk : k < c) (hc : c ≤ 12) (h : ¬ 4 ≤ cntA f fl c) : ¬ cntOn f fl (nI k) c = 4 := by
  have h1 := cnt_but (f := f) (fl := fl) (k := k) (by omega) c hc
  omega
theorem mv_no (hk : k < c) (hc : c ≤ 12) (h0 : ¬ f (13 + 16 * k) = fl) (h : 4 ≤ cntA f fl c) : 4 ≤ cntOn f fl (nI k) c := by
  have h1 := cnt_but (f := f) (fl := fl) (k := k) (by omega) c hc
  rw [if_neg (fun z => h0 z.2)] at h1
  omega
theorem bal_same (h : (dysM f (wI k) t).2 = wI k) (hk : k < 2 ^ 31) : balR (dysM f (wI k) t) = (dysM f (wI k) t).1 (13 + 16 * k + 1) := by
  unfold balR
  rw [h, wI_11, if_neg (nI_nm1' hk), nI_clamp hk]
theorem gon_ne (h : (dysM f (wI k) t).2 = wI k) (hk : k < 2 ^ 31) : ¬ gonB f k t = true := by
  unfold gonB
  rw [h, decide_eq_true_iff, wI_11]; exact nI_nm1' hk
theorem ngt (h : ¬ (0 : Int32) < nI n) (hn : n < 2 ^ 31) : n = 0 := by
  rcases Nat.eq_zero_or_pos n with z | z
  · exact z
  · exact absurd (show (0 : Int32) < nI n from by rw [show (0 : Int32) = nI 0 from nI_0.symm]; exact nI_lt z hn) h
theorem nle0 (h : nI n ≤ 0) (hn : n < 2 ^ 31) : n = 0 := by
  rcases Nat.eq_zero_or_pos n with z | z
  · exact z
  · exact absurd h (nI_nle z hn)
theorem newc_1 {y : Int32} : upd (comF f (nI φ) (nI 7) a c) (13 + 16 * c + 10) y (13 + 16 * c + 1) = nI 7 := (pk_un (by omega)).trans com_r.2.1
theorem newc_4 {y : Int32} : upd (comF f (nI φ) (nI 7) a c) (13 + 16 * c + 10) y (13 + 16 * c + 5 + 4) = nI (a % 10) := (pk_un (by omega)).trans (com_a (x := fun _ => nI 0) (v := 4) (by decide))
theorem newc_0 {y : Int32} (ha : a ≤ 99999) : upd (comF f (nI φ) (nI 7) a c) (13 + 16 * c + 10) y (13 + 16 * c + 5 + 0) = nI (a / 10000) := (pk_un (by omega)).trans ((com_a (x := fun _ => nI 0) (v := 0) (by decide)).trans (show nI (a / 10 / 10 / 10 / 10 % 10) = _ by congr 1; omega))
theorem newc_d {y : Int32} : upd (comF f (nI φ) (nI 7) a c) (13 + 16 * c + 10) y 8 - upd (comF f (nI φ) (nI 7) a c) (13 + 16 * c + 10) y (13 + 16 * c + 4) = 0 := by
  rw [pk_un (by omega), pk_un (by omega), com_r.2.2.2.2, com_out (by decide) (by decide) (by omega), Int32.sub_self]
end GACT
