/-! newcomers, opening, copying (pure) -/
section GNEW
def dgF (x : Nat → Int32) (a : Nat) : Nat → Int32 := upd (upd (upd (upd (upd x 4 (nI (a % 10))) 3 (nI (a / 10 % 10))) 2 (nI (a / 10 / 10 % 10))) 1 (nI (a / 10 / 10 / 10 % 10))) 0 (nI (a / 10 / 10 / 10 / 10 % 10))
def opR (R : Hr) (x y : Int32) : Hr := sH (sH (sH (sH (sH (sH (sH (sH R 8 (nI 0)) 0 x) 1 y) 9 (nI 0)) 10 (nI 0)) 11 (nI 0)) 12 (nI 0)) 7 (nI 0)
def rcR0 (R : Hr) (s : Nat) (fl pay : Int32) (a c : Nat) : Hr := sA (sR (sR (sR (sR (sR (sN R (hO R c) s) (hO R c) 0 fl) (hO R c) 1 pay) (hO R c) 2 (nI 0)) (hO R c) 3 (nI 0)) (hO R c) 4 (R.1 8)) (hO R c) (dgF (hA R (hO R c)) a)
def rcR (R : Hr) (s : Nat) (fl pay : Int32) (a c : Nat) : Hr := sH (sH (rcR0 R s fl pay a c) 10 (R.1 10 + pay)) 7 (nI (c + 1))
theorem com_out {f : Nat → Int32} {fl pay : Int32} {a c j : Nat} (h : j ≠ 7) (h2 : j ≠ 10) (h3 : j < 13 + 16 * c) : comF f fl pay a c j = f j := by
  unfold comF; rw [pk_un h]; unfold cm5; rw [pk_un (by omega), pk_un (by omega), pk_un (by omega), pk_un (by omega), pk_un (by omega)]
  unfold cm4; rw [pk_un h2]; unfold cm3; rw [pk_un (by omega)]; unfold cm2; rw [pk_un (by omega)]; unfold cm1; rw [pk_un (by omega)]; unfold zro; rw [if_neg (by omega)]
theorem com_7 {f : Nat → Int32} {fl pay : Int32} {a c : Nat} (h : f 7 = nI c) : comF f fl pay a c 7 = nI (c + 1) := by
  unfold comF; rw [pk_us]; unfold cm5; rw [pk_un (by omega), pk_un (by omega), pk_un (by omega), pk_un (by omega), pk_un (by omega)]
  unfold cm4; rw [pk_un (by decide)]; unfold cm3; rw [pk_un (by omega)]; unfold cm2; rw [pk_un (by omega)]; unfold cm1; rw [pk_un (by omega)]; unfold zro; rw [if_neg (by omega), h, nI_add]
theorem com_10 {f : Nat → Int32} {fl pay : Int32} {a c : Nat} : comF f fl pay a c 10 = f 10 + pay := by
  unfold comF; rw [pk_un (by decide)]; unfold cm5; rw [pk_un (by omega), pk_un (by omega), pk_un (by omega), pk_un (by omega), pk_un (by omega)]
  unfold cm4; rw [pk_us]; unfold cm3; rw [pk_un (by omega)]; unfold cm2; rw [pk_un (by omega)]; unfold cm1; rw [pk_un (by omega)]; unfold zro; rw [if_neg (by omega)]
theorem com_r {f : Nat → Int32} {fl pay : Int32} {a c : Nat} : comF f fl pay a c (13 + 16 * c + 0) = fl ∧ comF f fl pay a c (13 + 16 * c + 1) = pay ∧ comF f fl pay a c (13 + 16 * c + 2) = nI 0 ∧ comF f fl pay a c (13 + 16 * c + 3) = nI 0 ∧ comF f fl pay a c (13 + 16 * c + 4) = f 8 := by
  refine ⟨?_, ?_, ?_, ?_, ?_⟩ <;> (unfold comF; rw [pk_un (by omega)]; unfold cm5; rw [pk_un (by omega), pk_un (by omega), pk_un (by omega), pk_un (by omega), pk_un (by omega)]; unfold cm4; rw [pk_un (by omega)]; unfold cm3)
  · rw [pk_un (by omega)]; unfold cm2; rw [pk_un (by omega)]; unfold cm1; exact pk_us
  · rw [pk_un (by omega)]; unfold cm2; exact pk_us
  · rw [pk_un (by omega)]; unfold cm2; rw [pk_un (by omega)]; unfold cm1; rw [pk_un (by omega)]; unfold zro; rw [if_pos (by omega)]
  · rw [pk_un (by omega)]; unfold cm2; rw [pk_un (by omega)]; unfold cm1; rw [pk_un (by omega)]; unfold zro; rw [if_pos (by omega)]
  · rw [pk_us]; unfold cm2; rw [pk_un (by omega)]; unfold cm1; rw [pk_un (by omega)]; unfold zro; rw [if_neg (by omega)]
theorem com_a {f x : Nat → Int32} {fl pay : Int32} {a c v : Nat} (hv : v < 5) : comF f fl pay a c (13 + 16 * c + 5 + v) = dgF x a v := by
  unfold comF; rw [pk_un (by omega)]; unfold cm5 dgF
  have : v = 0 ∨ v = 1 ∨ v = 2 ∨ v = 3 ∨ v = 4 := by omega
  rcases this with rfl | rfl | rfl | rfl | rfl
  · rw [Nat.add_zero, pk_us, pk_us]
  · rw [pk_un (by omega), pk_us, pk_un (by omega), pk_us]
  · rw [pk_un (by omega), pk_un (by omega), pk_us, pk_un (by omega), pk_un (by omega), pk_us]
  · rw [pk_un (by omega), pk_un (by omega), pk_un (by omega), pk_us, pk_un (by omega), pk_un (by omega), pk_un (by omega), pk_us]
  · rw [pk_un (by omega), pk_un (by omega), pk_un (by omega), pk_un (by omega), pk_us, pk_un (by omega), pk_un (by omega), pk_un (by omega), pk_un (by omega), pk_us]
variable {Γ : Gm} {S : Hp}
theorem sR_s {R : Hr} {o i : Nat} {x : Int32} : hR (sR R o i x) o = upd (hR R o) i x := up_s
theorem sR_n {R : Hr} {o p i : Nat} {x : Int32} (h : p ≠ o) : hR (sR R o i x) p = hR R p := up_n h
theorem rcR_s {R : Hr} {s a c : Nat} {fl pay : Int32} : hR (rcR R s fl pay a c) (hO R c) = upd (upd (upd (upd (upd (hR R (hO R c)) 0 fl) 1 pay) 2 (nI 0)) 3 (nI 0)) 4 (R.1 8) := by
  show hR (sR (sR (sR (sR (sR (sN R (hO R c) s) (hO R c) 0 fl) (hO R c) 1 pay) (hO R c) 2 (nI 0)) (hO R c) 3 (nI 0)) (hO R c) 4 (R.1 8)) (hO R c) = _
  rw [sR_s, sR_s, sR_s, sR_s, sR_s]; rfl
theorem rcR_n {R : Hr} {s a c o : Nat} {fl pay : Int32} (h : o ≠ hO R c) : hR (rcR R s fl pay a c) o = hR R o := by
  show hR (sR (sR (sR (sR (sR (sN R (hO R c) s) (hO R c) 0 fl) (hO R c) 1 pay) (hO R c) 2 (nI 0)) (hO R c) 3 (nI 0)) (hO R c) 4 (R.1 8)) o = _
  rw [sR_n h, sR_n h, sR_n h, sR_n h, sR_n h]; rfl
theorem Rp.come {f g : Nat → Int32} {c s a : Nat} {R : Hr} {fl pay : Int32} (h : Rp Γ S f c R) (hc : c < 12) (hn : Nam Γ S s (fun i => g (13 + 16 * c + 10 + i))) (hg : ∀ j, j < 13 + 16 * c + 10 → g j = comF f fl pay a c j) : Rp Γ S g (c + 1) (rcR R s fl pay a c) := by
  obtain ⟨⟨w1, w2⟩, h2, h3, h4, h5, h6⟩ := id h
  have ho : ∀ κ, κ < c → hO R κ ≠ hO R c := fun κ hκ e => by have := w2 _ _ (by omega) (by omega) e; omega
  refine ⟨⟨w1, w2⟩, by omega, by rw [hg 7 (by omega), com_7 h3], fun j hj hn2 => ?_, fun v hv => by rw [hg _ (by omega), com_out (by omega) (by omega) (by omega)]; exact h5 v hv, fun κ hκ => ?_⟩
  · rw [hg j (by omega)]
    show upd (upd R.1 10 (R.1 10 + pay)) 7 (nI (c + 1)) j = _
    by_cases e : j = 7
    · subst e; rw [pk_us, com_7 h3]
    · rw [pk_un e]
      by_cases e2 : j = 10
      · subst e2; rw [pk_us, com_10, h4 10 (by decide) (by decide)]
      · rw [pk_un e2, com_out e e2 (by omega)]; exact h4 j hj hn2
  · show (∀ i, i < 5 → hR (rcR R s fl pay a c) (hO R κ) i = _) ∧ (∀ v, v < 5 → up (hA R) (hO R c) (dgF (hA R (hO R c)) a) (hO R κ) v = _) ∧ Nam Γ S (up (hN R) (hO R c) s (hO R κ)) _
    by_cases e : κ = c
    · subst e
      obtain ⟨r0, r1, r2, r3, r4⟩ := com_r (f := f) (fl := fl) (pay := pay) (a := a) (c := κ)
      refine ⟨fun i hi => ?_, fun v hv => ?_, ?_⟩
      · rw [hg _ (by omega)]
        have : i = 0 ∨ i = 1 ∨ i = 2 ∨ i = 3 ∨ i = 4 := by omega
        rcases this with rfl | rfl | rfl | rfl | rfl
        · rw [r0, rcR_s, pk_un (by decide), pk_un (by decide), pk_un (by decide), pk_un (by decide), pk_us]
        · rw [r1, rcR_s, pk_un (by decide), pk_un (by decide), pk_un (by decide), pk_us]
        · rw [r2, rcR_s, pk_un (by decide), pk_un (by decide), pk_us]
        · rw [r3, rcR_s, pk_un (by decide), pk_us]
        · rw [r4, rcR_s, pk_us]; exact h4 8 (by decide) (by decide)
      · rw [hg _ (by omega), up_s, com_a hv]
      · rw [up_s]; exact hn
    · have hne := ho κ (by omega)
      refine ⟨fun i hi => ?_, fun v hv => ?_, ?_⟩
      · rw [hg _ (by omega), com_out (by omega) (by omega) (by omega), rcR_n hne]; exact (h6 κ (by omega)).1 i hi
      · rw [hg _ (by omega), com_out (by omega) (by omega) (by omega), up_n hne]; exact (h6 κ (by omega)).2.1 v hv
      · rw [up_n hne]
        exact (h6 κ (by omega)).2.2.eq fun i hi => by rw [hg _ (by omega), com_out (by omega) (by omega) (by omega)]
/-- like Rp, rows as far as i -/
def Rq (Γ : Gm) (S : Hp) (f : Nat → Int32) (c i : Nat) (R : Hr) : Prop :=
  Wf R ∧ c ≤ 12 ∧ f 7 = nI c ∧ (∀ j, j < 13 → ¬ (2 ≤ j ∧ j < 7) → R.1 j = f j) ∧ (∀ v, v < 5 → hL R v = f (2 + v)) ∧
  (∀ k, k < i → (∀ i, i < 5 → hR R (hO R k) i = f (13 + 16 * k + i)) ∧ (∀ v, v < 5 → hA R (hO R k) v = f (13 + 16 * k + 5 + v)) ∧ Nam Γ S (hN R (hO R k)) (fun i => f (13 + 16 * k + 10 + i)))
theorem Rq.rp {f : Nat → Int32} {c : Nat} {R : Hr} (h : Rq Γ S f c c R) : Rp Γ S f c R := h
/-- lodger i of the house Q laid over lodger i of R -/
def cpR (R Q : Hr) (i : Nat) (r : Nat → Int32) : Hr := sA (R.1, R.2.1, R.2.2.1, R.2.2.2.1, up R.2.2.2.2.1 (hO R i) (hN Q (hO Q i)), up R.2.2.2.2.2.1 (hO R i) r, R.2.2.2.2.2.2) (hO R i) (va_cpy (hA Q (hO Q i)) (hA R (hO R i)) 0 0 5)
theorem Rq.step {f r : Nat → Int32} {c i : Nat} {R Q : Hr} (h : Rq Γ S f c i R) (hq : Rp Γ S f c Q) (hi : i < c) (hr : ∀ j, j < 5 → r j = hR Q (hO Q i) j) : Rq Γ S f c (i + 1) (cpR R Q i r) := by
  obtain ⟨⟨w1, w2⟩, h2, h3, h4, h5, h6⟩ := id h
  refine ⟨⟨w1, w2⟩, h2, h3, h4, h5, fun κ hκ => ?_⟩
  show (∀ j, j < 5 → up (hR R) (hO R i) r (hO R κ) j = _) ∧ (∀ v, v < 5 → up (hA R) (hO R i) (va_cpy (hA Q (hO Q i)) (hA R (hO R i)) 0 0 5) (hO R κ) v = _) ∧ Nam Γ S (up (hN R) (hO R i) (hN Q (hO Q i)) (hO R κ)) _
  by_cases e : κ = i
  · subst e
    rw [up_s, up_s, up_s]
    exact ⟨fun j hj => by rw [hr j hj]; exact hq.row hi hj, fun v hv => by rw [sb_cpy0 hv]; exact hq.acc hi hv, hq.nam hi⟩
  · have hne : hO R κ ≠ hO R i := fun z => e (w2 _ _ (by omega) (by omega) z)
    rw [up_n hne, up_n hne, up_n hne]
    exact h6 κ (by omega)
end GNEW
