/-! what the law asks of a row (pure): the accounts, how many leave -/
section GLED
variable {f g I J : Nat → Int32} {c k m p n : Nat} {x : Int32}
/-- the sum of the first balances -/
def sB (f : Nat → Int32) : Nat → Int32
  | 0 => nI 0
  | k + 1 => sB f k + f (13 + 16 * k + 1)
theorem ldN_s : ∀ c, ldN f c = f 12 - f 10 + f 11 + sB f c
  | 0 => by show f 12 - f 10 + f 11 = _ + nI 0; rw [nI_0, Int32.add_zero]
  | c + 1 => by rw [ldN, ldN_s c, sB, Int32.add_assoc]
theorem sB_c : ∀ c, (∀ k, k < c → g (13 + 16 * k + 1) = f (13 + 16 * k + 1)) → sB g c = sB f c
  | 0, _ => rfl
  | c + 1, h => by rw [sB, sB, sB_c c (fun k hk => h k (by omega)), h c (by omega)]
theorem r_u1 (a b x : Int32) : a + x = a + b - b + x := by grind
theorem r_u2 (a b d x : Int32) : a - b + x + d = a + d - b + x := by grind
theorem r_u3 (a b d y s r : Int32) : a - b + (d + r) + (s - y + (y - r)) = a - b + d + s := by grind
theorem r_u4 (a b d s y : Int32) : a + y - b + d + (s - y) = a - b + d + s := by grind
theorem r_u5 (a b d s y x : Int32) : a - (b + x) + d + (s - y + (y + x)) = a - b + d + s := by grind
theorem r_u6 (a b d s x : Int32) : a - (b + x) + d + (s + x) = a - b + d + s := by grind
theorem r_u7 (s y z : Int32) : s + z = s + y + z - y := by grind
theorem r_u8 (s y z : Int32) : s - y + z = s + z - y := by grind
theorem r_u9 (s y : Int32) : s = s + y - y := by grind
theorem sB_u : ∀ c, k < c → sB (upd f (13 + 16 * k + 1) x) c = sB f c - f (13 + 16 * k + 1) + x
  | 0, h => absurd h (Nat.not_lt_zero k)
  | c + 1, h => by
    rw [sB, sB]
    by_cases e : k = c
    · subst e
      rw [pk_us, sB_c (f := f) k (fun j hj => pk_un (by omega))]; exact r_u1 _ _ _
    · rw [pk_un (by omega), sB_u c (by omega)]; exact r_u2 _ _ _ _
theorem ldN_c (h12 : g 12 = f 12) (h10 : g 10 = f 10) (h11 : g 11 = f 11) (h : ∀ k, k < c → g (13 + 16 * k + 1) = f (13 + 16 * k + 1)) : ldN g c = ldN f c := by
  rw [ldN_s, ldN_s, sB_c c h, h12, h10, h11]
/-- a head's number that is none of the accounts -/
theorem ldN_h {j : Nat} (hj : j < 13) (h10 : j ≠ 10) (h11 : j ≠ 11) (h12 : j ≠ 12) : ldN (upd f j x) c = ldN f c := ldN_c (pk_un (by omega)) (pk_un (by omega)) (pk_un (by omega)) (fun k hk => pk_un (by omega))
theorem ldN_chg (hk : k < c) : ldN (chgF f k) c = ldN f c := by
  have e : sB (chgF f k) c = sB f c - f (13 + 16 * k + 1) + (f (13 + 16 * k + 1) - (f 0 + nI 5 * f (13 + 16 * k))) := by
    rw [← sB_u c hk]
    refine sB_c c (fun j hj => ?_)
    unfold chgF; rw [pk_un (by omega)]; rfl
  have e11 : chgF f k 11 = f 11 + (f 0 + nI 5 * f (13 + 16 * k)) := by
    unfold chgF; rw [pk_us]; unfold chg1; rw [pk_un (by omega)]
  rw [ldN_s, ldN_s, e, e11, chgF_o (by omega) (by omega), chgF_o (by omega) (by omega)]
  exact r_u3 _ _ _ _ _ _
theorem ldN_chgN : ∀ n, n ≤ c → ldN (chgN f n) c = ldN f c
  | 0, _ => rfl
  | n + 1, h => by rw [chgN, ldN_chg (by omega), ldN_chgN n (by omega)]
theorem ldN_tch : ldN (tchF f k) c = ldN f c := ldN_c (tchF_off (fun v hv => by omega) (by omega)) (tchF_off (fun v hv => by omega) (by omega)) (tchF_off (fun v hv => by omega) (by omega)) (fun j hj => tchF_off (fun v hv => by omega) (by omega))
theorem ldN_tchN : ∀ n, ldN (tchN f n) c = ldN f c
  | 0 => rfl
  | n + 1 => by rw [tchN, ldN_tch, ldN_tchN n]
theorem dinN_b {a o : Nat → Int32} {j : Nat} (h : Flo f c) : ∀ n, n ≤ c → dinN f a o n (13 + 16 * j + 1) = f (13 + 16 * j + 1)
  | 0, _ => rfl
  | n + 1, hn => by
    obtain ⟨φ, h1, h2⟩ := h n (by omega)
    have e : dinN f a o n (13 + 16 * n) = nI φ := (dinN_fl h n (by omega)).trans h2
    show dinF (dinN f a o n) a o n (13 + 16 * j + 1) = _
    rw [dinF_off e h1 (fun v hv => by omega) (by omega)]
    exact dinN_b h n (by omega)
theorem dayA_b (hj : k < c) : ldN (dayA f c) c = ldN f c := by unfold dayA; rw [ldN_tchN, ldN_chgN c (Nat.le_refl c)]
theorem ldN_dayC (h : Okr f c) : ldN (dayC f c) c = ldN f c := by
  have hA := (dayA_ok h).2.2
  unfold dayC
  rw [ldN_h (by decide) (by decide) (by decide) (by decide)]
  unfold dayB
  rw [ldN_c (dinN_hd hA (by decide) c (Nat.le_refl c)) (dinN_hd hA (by decide) c (Nat.le_refl c)) (dinN_hd hA (by decide) c (Nat.le_refl c)) (fun j _ => dinN_b hA c (Nat.le_refl c))]
  unfold dayA; rw [ldN_tchN, ldN_chgN c (Nat.le_refl c)]
/-- heads in a day: what isn't the rents' sum or the day stays -/
theorem chgN_hd {j : Nat} (hj : j < 13) (h : j ≠ 11) : ∀ n, chgN f n j = f j
  | 0 => rfl
  | n + 1 => by rw [chgN, chgF_o (by omega) h, chgN_hd hj h n]
theorem tchN_hd {j : Nat} (hj : j < 13) : ∀ n, tchN f n j = f j
  | 0 => rfl
  | n + 1 => by rw [tchN, tchF_off (fun v hv => by omega) (by omega), tchN_hd hj n]
theorem dayC_hd {j : Nat} (h : Okr f c) (hj : j < 13) (h11 : j ≠ 11) (h8 : j ≠ 8) : dayC f c j = f j := by
  have hA := (dayA_ok h).2.2
  unfold dayC; rw [pk_un h8]
  unfold dayB; rw [dinN_hd hA hj c (Nat.le_refl c)]
  unfold dayA; rw [tchN_hd hj, chgN_hd hj h11]
theorem dayC_8 (h : Okr f c) : dayC f c 8 = f 8 + nI 1 := by
  have hA := (dayA_ok h).2.2
  unfold dayC; rw [pk_us]
  unfold dayB; rw [dinN_hd hA (by decide) c (Nat.le_refl c)]
  unfold dayA; rw [tchN_hd (by decide), chgN_hd (by decide) (by decide)]
/-- one leaves -/
theorem sB_gon (hk : k < c) : ∀ n, n ≤ c - 1 → sB (gonF f k c) n = if n ≤ k then sB f n else sB f (n + 1) - f (13 + 16 * k + 1)
  | 0, _ => by rw [if_pos (Nat.zero_le k)]; rfl
  | n + 1, hn => by
    have ih := sB_gon hk n (by omega)
    have e := gonV_row (f := f) (q := 1) hk (show n < c - 1 by omega) (by decide)
    rw [sB, ih, e]
    by_cases h1 : n + 1 ≤ k
    · rw [if_pos h1, if_pos (show n ≤ k by omega), if_neg (show ¬k ≤ n by omega), sB]
    · rw [if_neg h1, if_pos (show k ≤ n by omega)]
      by_cases h2 : n = k
      · subst h2
        rw [if_pos (Nat.le_refl n), sB, sB]; exact r_u7 _ _ _
      · rw [if_neg (show ¬n ≤ k by omega)]
        show _ = sB f (n + 1) + f (13 + 16 * (n + 1) + 1) - _
        exact r_u8 _ _ _
theorem sB_gone (hk : k < c) : sB (gonF f k c) (c - 1) = sB f c - f (13 + 16 * k + 1) := by
  rw [sB_gon hk (c - 1) (Nat.le_refl _)]
  by_cases h : c - 1 ≤ k
  · obtain rfl : c = k + 1 := by omega
    rw [if_pos h, Nat.add_sub_cancel, sB]; exact r_u9 _ _
  · rw [if_neg h, show c - 1 + 1 = c by omega]
theorem gonF_12 : gonF f k c 12 = f 12 + f (13 + 16 * k + 1) := by
  unfold gonF shf; rw [if_neg (by omega)]
  unfold gon2; rw [pk_un (by decide)]
  unfold gon1; rw [pk_us]
theorem ldN_gon (hk : k < c) : ldN (gonF f k c) (c - 1) = ldN f c := by
  rw [ldN_s, ldN_s, sB_gone hk, gonF_12, gonV_hd (by decide) (by decide) (by decide), gonV_hd (by decide) (by decide) (by decide)]
  exact r_u4 _ _ _ _ _
/-- the inspection -/
theorem ins_led : ∀ (m p : Nat) (f I : Nat → Int32), Okr f (p + m) → ∃ c2, c2 ≤ p + m ∧ Okr (insM m p f I).1 c2 ∧ ldN (insM m p f I).1 c2 = ldN f (p + m) ∧ (insM m p f I).1 9 = f 9 + nI (p + m - c2) ∧ (insM m p f I).1 8 = f 8 ∧ (c2 = p + m → insM m p f I = (f, I))
  | 0, p, f, I, h => ⟨p, Nat.le_refl p, h, rfl, by show f 9 = f 9 + nI (p + 0 - p); rw [show p + 0 - p = 0 by omega, nI_0, Int32.add_zero], rfl, fun _ => rfl⟩
  | m + 1, p, f, I, h => by
    by_cases hM : MustB f p = true
    · rw [insM_t hM]
      have hk : p < p + m + 1 := by omega
      obtain ⟨c2, h1, h2, h3, h4, h8, h5⟩ := ins_led m p _ (trkF I f p) (h.gone hk)
      refine ⟨c2, by omega, h2, ?_, ?_, ?_, fun z => by omega⟩
      · exact h3.trans ((ldN_h (by decide) (by decide) (by decide) (by decide)).trans (ldN_gon (c := p + m + 1) hk))
      · refine h4.trans ?_
        rw [pk_us, gonV_hd (by decide) (by decide) (by decide), Int32.add_assoc, nI_add]
        congr 2; omega
      · refine h8.trans ?_
        rw [pk_un (by decide), gonV_hd (by decide) (by decide) (by decide)]
    · rw [insM_f hM]
      obtain ⟨c2, h1, h2, h3, h4, h8, h5⟩ := ins_led m (p + 1) f I (by rw [show p + 1 + m = p + (m + 1) by omega]; exact h)
      rw [show p + 1 + m = p + (m + 1) by omega] at h1 h3 h4 h5
      exact ⟨c2, h1, h2, h3, h4, h8, h5⟩
/-- a day -/
theorem day_led (h : Okr f c) : ∃ c2, c2 ≤ c ∧ Okr (dayM f I c).1 c2 ∧ ldN (dayM f I c).1 c2 = ldN f c ∧ (dayM f I c).1 9 = f 9 + nI (c - c2) ∧ (dayM f I c).1 8 = f 8 + nI 1 ∧ (c2 = c → dayM f I c = (dayC f c, I)) := by
  have hC := dayC_ok h
  by_cases e : InsB (dayC f c) = true
  · rw [dayM_t e]
    have := ins_led c 0 (dayC f c) I (by rw [Nat.zero_add]; exact hC)
    rw [Nat.zero_add] at this
    obtain ⟨c2, h1, h2, h3, h4, h8, h5⟩ := this
    exact ⟨c2, h1, h2, h3.trans (ldN_dayC h), by rw [h4, dayC_hd h (by decide) (by decide) (by decide)], h8.trans (dayC_8 h), h5⟩
  · rw [dayM_f e]
    exact ⟨c, Nat.le_refl c, hC, ldN_dayC h, by show dayC f c 9 = _; rw [dayC_hd h (by decide) (by decide) (by decide), Nat.sub_self, nI_0, Int32.add_zero], dayC_8 h, fun _ => rfl⟩
/-- days -/
theorem dys_led (h : Okr f c) : ∀ n, ∃ c2, c2 ≤ c ∧ Okr (dysM f I n).1 c2 ∧ ldN (dysM f I n).1 c2 = ldN f c ∧ (dysM f I n).1 9 = f 9 + nI (c - c2) ∧ (dysM f I n).1 8 = f 8 + nI n ∧ (c2 = c → (dysM f I n).2 = I ∧ (dysM f I n).1 12 = f 12)
  | 0 => ⟨c, Nat.le_refl c, h, rfl, by show f 9 = _; rw [Nat.sub_self, nI_0, Int32.add_zero], by show f 8 = _; rw [nI_0, Int32.add_zero], fun _ => ⟨rfl, rfl⟩⟩
  | n + 1 => by
    obtain ⟨c2, a1, a2, a3, a4, a8, a5⟩ := dys_led h n
    obtain ⟨c3, b1, b2, b3, b4, b8, b5⟩ := day_led (I := (dysM f I n).2) a2
    rw [dysM, mny_eq a2]
    refine ⟨c3, by omega, b2, b3.trans a3, ?_, ?_, fun z => ?_⟩
    · rw [b4, a4, Int32.add_assoc, nI_add]; congr 2; omega
    · rw [b8, a8, Int32.add_assoc, nI_add]
    · obtain ⟨z1, z2⟩ := a5 (by omega)
      rw [b5 (by omega)]
      exact ⟨z1, (dayC_hd a2 (by decide) (by decide) (by decide)).trans z2⟩
/-- the row doesn't ask whom one looks after -/
theorem ins_1 : ∀ (m p : Nat) (f I J : Nat → Int32), (insM m p f I).1 = (insM m p f J).1
  | 0, _, _, _, _ => rfl
  | m + 1, p, f, I, J => by
    by_cases hM : MustB f p = true
    · rw [insM_t hM, insM_t hM]; exact ins_1 m p _ _ _
    · rw [insM_f hM, insM_f hM]; exact ins_1 m (p + 1) f I J
theorem day_1 : (dayM f I c).1 = (dayM f J c).1 := by
  by_cases e : InsB (dayC f c) = true
  · rw [dayM_t e, dayM_t e]; exact ins_1 _ _ _ _ _
  · rw [dayM_f e, dayM_f e]
theorem dys_1 : ∀ n, (dysM f I n).1 = (dysM f J n).1
  | 0 => rfl
  | n + 1 => by rw [dysM, dysM, dys_1 n]; exact day_1
/-- newcomers, payments -/
theorem ldN_com {fl pay : Int32} {a : Nat} (h12 : c < 12) (hg : ∀ j, j < 13 + 16 * c + 10 → g j = comF f fl pay a c j) : ldN g (c + 1) = ldN f c := by
  have r := com_r (f := f) (fl := fl) (pay := pay) (a := a) (c := c)
  have e10 : comF f fl pay a c 10 = f 10 + pay := by
    unfold comF; rw [pk_un (by decide)]
    unfold cm5; rw [pk_un (by omega), pk_un (by omega), pk_un (by omega), pk_un (by omega), pk_un (by omega)]
    unfold cm4; rw [pk_us]; congr 1
    unfold cm3; rw [pk_un (by omega)]; unfold cm2; rw [pk_un (by omega)]; unfold cm1; rw [pk_un (by omega)]; unfold zro; rw [if_neg (by omega)]
  rw [ldN_s, ldN_s, sB, sB_c (f := f) c (fun k hk => by rw [hg _ (by omega), com_out (by omega) (by omega) (by omega)]), hg 12 (by omega), hg 10 (by omega), hg 11 (by omega), hg _ (by omega), e10, r.2.1, com_out (by omega) (by omega) (by omega), com_out (by omega) (by omega) (by omega)]
  exact r_u6 _ _ _ _ _
theorem ldN_pay (hk : k < c) : ldN (payF f k x) c = ldN f c := by
  have e : sB (payF f k x) c = sB f c - f (13 + 16 * k + 1) + (f (13 + 16 * k + 1) + x) := by
    rw [← sB_u c hk]
    refine sB_c c (fun j hj => ?_)
    unfold payF; rw [pk_un (by omega)]
  have e10 : payF f k x 10 = f 10 + x := by unfold payF; rw [pk_us, pk_un (by omega)]
  rw [ldN_s, ldN_s, e, e10]
  unfold payF
  rw [pk_un (by decide), pk_un (by omega), pk_un (by decide), pk_un (by omega)]
  exact r_u5 _ _ _ _ _ _
end GLED
