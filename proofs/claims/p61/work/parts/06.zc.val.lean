/-! what always holds of a row (pure): positions 0..9, balances within bounds, at most four on a floor -/
section GVAL
def Pos (x : Int32) : Prop := ∃ p, p ≤ 9 ∧ x = nI p
def Bal (B : Nat) (x : Int32) : Prop := -(B : Int) ≤ x.toInt ∧ x.toInt ≤ B
def Row (B : Nat) (f : Nat → Int32) (k : Nat) : Prop := (∃ φ, φ < 5 ∧ f (13 + 16 * k) = nI φ) ∧ Bal B (f (13 + 16 * k + 1)) ∧ ∀ v, v < 5 → Pos (f (13 + 16 * k + 5 + v))
def Hd (B : Nat) (f : Nat → Int32) : Prop := (∃ r, r ≤ 50 ∧ f 0 = nI r) ∧ (∃ r, r ≤ 45 ∧ f 1 = nI r) ∧ (∀ v, v < 5 → Pos (f (2 + v))) ∧ ∃ dy, dy ≤ B ∧ f 8 = nI dy
def Rws (b : Nat → Nat) (f : Nat → Int32) (c : Nat) : Prop := ∀ k, k < c → Row (b k) f k
def Val (B : Nat) (f : Nat → Int32) (c : Nat) : Prop := f 7 = nI c ∧ c ≤ 12 ∧ Rws (fun _ => B) f c ∧ Hd B f ∧ Fl4 f c
variable {B c k : Nat} {f g : Nat → Int32}
theorem Bal.le {B2 : Nat} {x : Int32} (h : Bal B x) (hb : B ≤ B2) : Bal B2 x := ⟨by have := h.1; omega, by have := h.2; omega⟩
theorem Row.le {B2 : Nat} (h : Row B f k) (hb : B ≤ B2) : Row B2 f k := ⟨h.1, h.2.1.le hb, h.2.2⟩
theorem Hd.le {B2 : Nat} (h : Hd B f) (hb : B ≤ B2) : Hd B2 f := ⟨h.1, h.2.1, h.2.2.1, by obtain ⟨d, h1, h2⟩ := h.2.2.2; exact ⟨d, by omega, h2⟩⟩
theorem Val.le {B2 : Nat} (h : Val B f c) (hb : B ≤ B2) : Val B2 f c := ⟨h.1, h.2.1, fun k hk => (h.2.2.1 k hk).le hb, h.2.2.2.1.le hb, h.2.2.2.2⟩
theorem Val.okr (h : Val B f c) : Okr f c := ⟨h.1, h.2.1, fun k hk => (h.2.2.1 k hk).1⟩
theorem Row.of (h : Row B f k) (h0 : g (13 + 16 * k) = f (13 + 16 * k)) (h1 : g (13 + 16 * k + 1) = f (13 + 16 * k + 1)) (h2 : ∀ v, v < 5 → g (13 + 16 * k + 5 + v) = f (13 + 16 * k + 5 + v)) : Row B g k := ⟨by rw [h0]; exact h.1, by rw [h1]; exact h.2.1, fun v hv => by rw [h2 v hv]; exact h.2.2 v hv⟩
theorem Hd.of (h : Hd B f) (h0 : g 0 = f 0) (h1 : g 1 = f 1) (h2 : ∀ v, v < 5 → g (2 + v) = f (2 + v)) (h8 : g 8 = f 8) : Hd B g := ⟨by rw [h0]; exact h.1, by rw [h1]; exact h.2.1, fun v hv => by rw [h2 v hv]; exact h.2.2.1 v hv, by rw [h8]; exact h.2.2.2⟩
theorem Fl4.of (h : Fl4 f c) (e : ∀ k, k < c → g (13 + 16 * k) = f (13 + 16 * k)) : Fl4 g c := fun fl => by rw [cntA_c c e]; exact h fl
theorem Bal.sub {x : Int32} {r : Nat} (h : Bal B x) (hr : r ≤ 70) (hB : B + 70 < 2 ^ 31) : Bal (B + 70) (x - nI r) := by
  obtain ⟨h1, h2⟩ := h
  unfold Bal
  rw [Int32.toInt_sub, nI_toInt (by omega), Int.bmod_eq_of_le (by omega) (by omega)]
  omega
theorem Bal.add {x : Int32} {r : Nat} (h : Bal B x) (hr : r ≤ 999) (hB : B + 999 < 2 ^ 31) : Bal (B + 999) (x + nI r) := by
  obtain ⟨h1, h2⟩ := h
  unfold Bal
  rw [Int32.toInt_add, nI_toInt (by omega), Int.bmod_eq_of_le (by omega) (by omega)]
  omega
theorem Bal.nat {r : Nat} (h : r ≤ B) (hB : B < 2 ^ 31) : Bal B (nI r) := by
  unfold Bal; rw [nI_toInt (by omega)]; omega
/-- one step towards another position -/
theorem Pos.mv {x t : Int32} (h : Pos x) (ht : Pos t) (hne : x ≠ t) : Pos (x + (if x < t then nI 1 else -1)) := by
  obtain ⟨p, p1, rfl⟩ := h
  obtain ⟨q, q1, rfl⟩ := ht
  have hpq : p ≠ q := fun z => hne (by rw [z])
  by_cases hl : p < q
  · rw [if_pos (nI_lt hl (by omega)), nI_add]; exact ⟨p + 1, by omega, rfl⟩
  · rw [if_neg (nI_nlt (by omega) (by omega)), sb_m1 (by omega)]; exact ⟨p - 1, by omega, rfl⟩
theorem far_nn (x y : Nat → Int32) : ∀ n, nI 0 ≤ (far x y n).2
  | 0 => Int32.le_refl _
  | n + 1 => by
    by_cases h : iabs (x n - y n) ≤ (far x y n).2
    · rw [far_p h]; exact far_nn x y n
    · rw [far_n h]; exact Int32.le_trans (far_nn x y n) (Int32.le_of_lt (Int32.not_le.mp h))
theorem iabs_0 : iabs (0 : Int32) = nI 0 := by decide
theorem far_ne {x y : Nat → Int32} {v : Nat} (hv : v < 2 ^ 31) : ∀ n, n < 2 ^ 31 → (far x y n).1 = nI v → x v ≠ y v
  | 0, _, h => absurd h.symm (nI_nm1' hv)
  | n + 1, hn, h => by
    by_cases hc : iabs (x n - y n) ≤ (far x y n).2
    · rw [far_p hc] at h; exact far_ne hv n (by omega) h
    · rw [far_n hc] at h
      obtain rfl : n = v := (nI_eq (by omega) hv).mp h
      intro e
      rw [e, Int32.sub_self, iabs_0] at hc
      exact hc (far_nn x y n)
/-- averages are positions -/
theorem sum_pos {fl : Int32} {v : Nat} : ∀ c, c ≤ 12 → (∀ k, k < c → Pos (f (13 + 16 * k + 5 + v))) → ∃ s, s ≤ 9 * cntA f fl c ∧ sumA f fl v c = nI s
  | 0, _, _ => ⟨0, Nat.zero_le _, rfl⟩
  | c + 1, h12, h => by
    obtain ⟨s, s1, s2⟩ := sum_pos c (by omega) (fun k hk => h k (by omega))
    obtain ⟨p, p1, p2⟩ := h c (by omega)
    rw [sumA, cntA, s2]
    by_cases e : f (13 + 16 * c) = fl
    · rw [if_pos e, if_pos e, p2, nI_add]; exact ⟨s + p, by omega, rfl⟩
    · rw [if_neg e, if_neg e, nI_add]; exact ⟨s + 0, by omega, rfl⟩
theorem avg_pos {fl : Int32} {v : Nat} (h12 : c ≤ 12) (h : ∀ k, k < c → Pos (f (13 + 16 * k + 5 + v))) : Pos (avgF f fl v c) := by
  unfold avgF
  by_cases e : cntA f fl c = 0
  · rw [if_pos e]; exact ⟨0, by decide, rfl⟩
  · rw [if_neg e]
    obtain ⟨s, s1, s2⟩ := sum_pos (fl := fl) c h12 h
    have hc := cntA_le f fl c
    rw [s2, pk_div (by omega) (by omega) (by omega)]
    refine ⟨_, ?_, rfl⟩
    exact Nat.div_le_of_le_mul (by rw [Nat.mul_comm]; exact s1)
/-- rent -/
theorem Hd.rent (h : Hd B f) {φ : Nat} (hφ : φ < 5) : ∃ r, r ≤ 70 ∧ f 0 + nI 5 * nI φ = nI r := by
  obtain ⟨r, r1, r2⟩ := h.1
  rw [r2, nI_mul, nI_add]; exact ⟨r + 5 * φ, by omega, rfl⟩
theorem chgF_o {j : Nat} (h : j ≠ 13 + 16 * k + 1) (h2 : j ≠ 11) : chgF f k j = f j := by
  unfold chgF chg1; rw [pk_un h2, pk_un h]
theorem chgF_1 : chgF f k (13 + 16 * k + 1) = f (13 + 16 * k + 1) - (f 0 + nI 5 * f (13 + 16 * k)) := by
  unfold chgF chg1; rw [pk_un (by omega), pk_us]
theorem hd_chg (h : Hd B f) : ∀ n, Hd B (chgN f n)
  | 0 => h
  | n + 1 => (hd_chg h n).of (chgF_o (by omega) (by omega)) (chgF_o (by omega) (by omega)) (fun v hv => chgF_o (by omega) (by omega)) (chgF_o (by omega) (by omega))
theorem rws_chg (h : Rws (fun _ => B) f c) (hh : Hd B f) (hB : B + 70 < 2 ^ 31) : ∀ n, n ≤ c → Rws (fun k => if k < n then B + 70 else B) (chgN f n) c
  | 0, _ => fun k hk => by show Row (if k < 0 then B + 70 else B) f k; rw [if_neg (by omega)]; exact h k hk
  | n + 1, hn => fun k hk => by
    have ih := rws_chg h hh hB n (by omega) k hk
    show Row (if k < n + 1 then B + 70 else B) (chgF (chgN f n) n) k
    have ih' : Row (if k < n then B + 70 else B) (chgN f n) k := ih
    by_cases e : k = n
    · subst e
      rw [if_neg (Nat.lt_irrefl k)] at ih'
      rw [if_pos (by omega)]
      obtain ⟨⟨φ, h1, h2⟩, h3, h4⟩ := ih'
      obtain ⟨r, r1, r2⟩ := (hd_chg hh k).rent h1
      refine ⟨⟨φ, h1, by rw [chgF_o (by omega) (by omega)]; exact h2⟩, ?_, fun v hv => by rw [chgF_o (by omega) (by omega)]; exact h4 v hv⟩
      rw [chgF_1, h2, r2]
      exact h3.sub r1 hB
    · have e2 : (if k < n + 1 then B + 70 else B) = (if k < n then B + 70 else B) := by
        by_cases z : k < n
        · rw [if_pos z, if_pos (by omega)]
        · rw [if_neg z, if_neg (by omega)]
      rw [e2]
      exact ih'.of (chgF_o (by omega) (by omega)) (chgF_o (by omega) (by omega)) (fun v hv => chgF_o (by omega) (by omega))
/-- a lesson -/
theorem row_mv {b : Nat} {t : Int32} {v : Nat} (h : Row b f k) (hv : v < 5) (ht : Pos t) (hne : f (13 + 16 * k + 5 + v) ≠ t) : Row b (mvF f (13 + 16 * k + 5 + v) t) k := by
  refine ⟨by rw [mvF_n (by omega)]; exact h.1, by rw [mvF_n (by omega)]; exact h.2.1, fun w hw => ?_⟩
  by_cases e : w = v
  · subst e; unfold mvF; rw [pk_us]; exact (h.2.2 w hw).mv ht hne
  · rw [mvF_n (by omega)]; exact h.2.2 w hw
theorem row_tch {b : Nat} (h : Row b f k) (hh : Hd B f) : Row b (tchF f k) k := by
  by_cases h0 : f (13 + 16 * k + 1) < 0
  · rw [tch_f (Or.inl h0)]; exact h
  · rcases far_or (rw5 f k) (la5 f) 5 with e | ⟨v, hv, e⟩
    · rw [tch_f (Or.inr e)]; exact h
    · rw [tch_t h0 hv e]
      refine (row_mv h hv (hh.2.2.1 v hv) (far_ne (by omega) 5 (by decide) e)).of (pk_un (by omega)) (pk_un (by omega)) (fun v hv => pk_un (by omega))
theorem hd_tch (h : Hd B f) : Hd B (tchF f k) := h.of (tchF_off (fun v hv => by omega) (by omega)) (tchF_off (fun v hv => by omega) (by omega)) (fun v hv => tchF_off (fun v hv => by omega) (by omega)) (tchF_off (fun v hv => by omega) (by omega))
theorem hd_tchN (h : Hd B f) : ∀ n, Hd B (tchN f n)
  | 0 => h
  | n + 1 => hd_tch (hd_tchN h n)
theorem rws_tch {b : Nat → Nat} (h : Rws b f c) (hh : Hd B f) : ∀ n, n ≤ c → Rws b (tchN f n) c
  | 0, _ => h
  | n + 1, hn => fun k hk => by
    have ih := rws_tch h hh n (by omega) k hk
    show Row (b k) (tchF (tchN f n) n) k
    by_cases e : k = n
    · subst e; exact row_tch ih (hd_tchN hh k)
    · exact ih.of (tchF_off (fun v hv => by omega) (by omega)) (tchF_off (fun v hv => by omega) (by omega)) (fun w hw => tchF_off (fun v hv => by omega) (by omega))
/-- a dinner -/
theorem row_din {b : Nat} {a o : Nat → Int32} (h : Row b f k) (ha : ∀ j, j < 25 → Pos (a j)) : Row b (dinF f a o k) k := by
  obtain ⟨φ, h1, h2⟩ := h.1
  rcases slp_or f a o k with e | ⟨v, hv, e⟩
  · rw [din_f e]; exact h
  · rw [din_t h2 h1 hv e]
    have hne : f (13 + 16 * k + 5 + v) ≠ a (5 * φ + v) := by
      rw [slpF_eq h2 h1] at e
      by_cases z : o φ < nI 2
      · rw [if_pos z] at e; exact absurd e.symm (nI_nm1' (by omega))
      · rw [if_neg z] at e
        exact far_ne (x := rw5 f k) (y := fun v => a (5 * φ + v)) (by omega) 5 (by decide) e
    exact (row_mv h hv (ha _ (by omega)) hne).of (pk_un (by omega)) (pk_un (by omega)) (fun v hv => pk_un (by omega))
theorem rws_din {b : Nat → Nat} {a o : Nat → Int32} (h : Rws b f c) (ha : ∀ j, j < 25 → Pos (a j)) : ∀ n, n ≤ c → Rws b (dinN f a o n) c
  | 0, _ => h
  | n + 1, hn => fun k hk => by
    have ih := rws_din (o := o) h ha n (by omega)
    have hq := ih n (by omega)
    obtain ⟨φ, h1, h2⟩ := hq.1
    show Row (b k) (dinF (dinN f a o n) a o n) k
    by_cases e : k = n
    · subst e; exact row_din hq ha
    · exact (ih k hk).of (dinF_off h2 h1 (fun v hv => by omega) (by omega)) (dinF_off h2 h1 (fun v hv => by omega) (by omega)) (fun w hw => dinF_off h2 h1 (fun v hv => by omega) (by omega))
theorem hd_din {a o : Nat → Int32} (hf : Flo f c) (h : Hd B f) : Hd B (dinN f a o c) := h.of (dinN_hd hf (by omega) c (Nat.le_refl c)) (dinN_hd hf (by omega) c (Nat.le_refl c)) (fun v hv => dinN_hd hf (by omega) c (Nat.le_refl c)) (dinN_hd hf (by omega) c (Nat.le_refl c))
/-- a day up to the inspection -/
theorem val_dayC (h : Val B f c) (hB : B + 70 < 2 ^ 31) : Val (B + 70) (dayC f c) c := by
  have hok := dayC_ok h.okr
  have hokA := dayA_ok h.okr
  obtain ⟨h1, h2, h3, h4, h5⟩ := h
  have a1 : Rws (fun _ => B + 70) (chgN f c) c := fun k hk => (rws_chg h3 h4 hB c (Nat.le_refl c) k hk).le (by show (if k < c then B + 70 else B) ≤ B + 70; split <;> omega)
  have a2 := hd_chg h4 c
  have a3 : Rws (fun _ => B + 70) (dayA f c) c := rws_tch a1 a2 c (Nat.le_refl c)
  have a4 : Hd B (dayA f c) := hd_tchN a2 c
  have a5 : ∀ j, j < 25 → Pos (avU (dayA f c) (fun _ => 0) c 25 j) := fun j hj => by
    unfold avU; rw [if_pos hj]
    exact avg_pos h2 (fun k hk => (a3 k hk).2.2 _ (by omega))
  have a6 : Rws (fun _ => B + 70) (dayB f c) c := rws_din a3 a5 c (Nat.le_refl c)
  have a7 : Hd B (dayB f c) := hd_din hokA.2.2 a4
  obtain ⟨dy, d1, d2⟩ := a7.2.2.2
  refine ⟨hok.1, h2, fun k hk => (a6 k hk).of (pk_un (by omega)) (pk_un (by omega)) (fun v hv => pk_un (by omega)), ⟨?_, ?_, fun v hv => ?_, dy + 1, by omega, ?_⟩, ?_⟩
  · show ∃ r, r ≤ 50 ∧ upd (dayB f c) 8 (dayB f c 8 + nI 1) 0 = nI r
    rw [pk_un (by decide)]; exact a7.1
  · show ∃ r, r ≤ 45 ∧ upd (dayB f c) 8 (dayB f c 8 + nI 1) 1 = nI r
    rw [pk_un (by decide)]; exact a7.2.1
  · show Pos (upd (dayB f c) 8 (dayB f c 8 + nI 1) (2 + v))
    rw [pk_un (by omega)]; exact a7.2.2.1 v hv
  · show upd (dayB f c) 8 (dayB f c 8 + nI 1) 8 = _
    rw [pk_us, d2, nI_add]
  · refine h5.of fun k hk => ?_
    show upd (dayB f c) 8 (dayB f c 8 + nI 1) (13 + 16 * k) = _
    rw [pk_un (by omega)]
    show dinN (dayA f c) _ _ c (13 + 16 * k) = _
    rw [dinN_fl hokA.2.2 c (Nat.le_refl c)]
    show tchN (chgN f c) c (13 + 16 * k) = _
    rw [tchN_fl, chgN_fl]
/-- one leaves -/
theorem gonV_row {j q : Nat} (hkc : k < c) (hj : j < c - 1) (hq : q < 16) : gonF f k c (13 + 16 * j + q) = f (13 + 16 * (if k ≤ j then j + 1 else j) + q) := by
  unfold gonF shf
  by_cases h : k ≤ j
  · rw [if_pos (by omega), if_pos h, show 13 + 16 * j + q + 16 = 13 + 16 * (j + 1) + q by omega]
    unfold gon2 gon1; rw [pk_un (by omega), pk_un (by omega)]
  · rw [if_neg (by omega), if_neg h]
    unfold gon2 gon1; rw [pk_un (by omega), pk_un (by omega)]
theorem gonV_hd {j : Nat} (hj : j < 13) (h7 : j ≠ 7) (h12 : j ≠ 12) : gonF f k c j = f j := by
  unfold gonF shf; rw [if_neg (by omega)]
  unfold gon2 gon1; rw [pk_un h7, pk_un h12]
theorem cntA_lo {fl : Int32} : ∀ n, (∀ j, j < n → g (13 + 16 * j) = f (13 + 16 * (if k ≤ j then j + 1 else j))) → cntA g fl n ≤ cntA f fl (if k ≤ n then n + 1 else n)
  | 0, _ => Nat.zero_le _
  | n + 1, h => by
    have ih := cntA_lo (fl := fl) n (fun j hj => h j (by omega))
    rw [cntA, h n (by omega)]
    have e0 : cntA f fl (n + 1) = cntA f fl n + (if f (13 + 16 * n) = fl then 1 else 0) := rfl
    have e1 : cntA f fl (n + 1 + 1) = cntA f fl (n + 1) + (if f (13 + 16 * (n + 1)) = fl then 1 else 0) := rfl
    by_cases e : k ≤ n
    · rw [if_pos e] at ih
      rw [if_pos e, if_pos (show k ≤ n + 1 by omega), e1]
      omega
    · rw [if_neg e] at ih
      rw [if_neg e]
      by_cases e2 : k ≤ n + 1
      · rw [if_pos e2, e1, e0]; omega
      · rw [if_neg e2, e0]; omega
theorem Val.gone (h : Val B f c) (hk : k < c) : Val B (upd (gonF f k c) 9 (gonF f k c 9 + nI 1)) (c - 1) := by
  have hok := h.okr.gone hk
  obtain ⟨h1, h2, h3, h4, h5⟩ := h
  refine ⟨hok.1, hok.2.1, fun j hj => ?_, ?_, fun fl => ?_⟩
  · have e : ∀ q, q < 16 → upd (gonF f k c) 9 (gonF f k c 9 + nI 1) (13 + 16 * j + q) = f (13 + 16 * (if k ≤ j then j + 1 else j) + q) := fun q hq => by rw [pk_un (by omega), gonV_row hk hj hq]
    have hr := h3 (if k ≤ j then j + 1 else j) (by split <;> omega)
    have e0 := e 0 (by decide)
    rw [Nat.add_zero, Nat.add_zero] at e0
    exact ⟨by rw [e0]; exact hr.1, by rw [e 1 (by decide)]; exact hr.2.1, fun v hv => by rw [Nat.add_assoc, e (5 + v) (by omega), ← Nat.add_assoc]; exact hr.2.2 v hv⟩
  · refine h4.of ?_ ?_ (fun v hv => ?_) ?_ <;> (rw [pk_un (by omega), gonV_hd (by omega) (by omega) (by omega)])
  · have := cntA_lo (f := f) (k := k) (g := upd (gonF f k c) 9 (gonF f k c 9 + nI 1)) (fl := fl) (c - 1) (fun j hj => by
      have e := gonV_row (f := f) (q := 0) hk hj (by decide)
      rw [Nat.add_zero, Nat.add_zero] at e
      rw [pk_un (by omega), e])
    rw [if_pos (by omega), show c - 1 + 1 = c by omega] at this
    exact Nat.le_trans this (h5 fl)
theorem val_ins : ∀ (m p : Nat) (f I : Nat → Int32), Val B f (p + m) → ∃ c2, c2 ≤ p + m ∧ Val B (insM m p f I).1 c2
  | 0, p, f, I, h => ⟨p, Nat.le_refl _, h⟩
  | m + 1, p, f, I, h => by
    by_cases hM : MustB f p = true
    · rw [insM_t hM]
      obtain ⟨c2, h1, h2⟩ := val_ins m p _ (trkF I f p) (show Val B _ (p + m) from h.gone (k := p) (by omega))
      exact ⟨c2, by omega, h2⟩
    · rw [insM_f hM]
      obtain ⟨c2, h1, h2⟩ := val_ins m (p + 1) f I (by rw [show p + 1 + m = p + (m + 1) by omega]; exact h)
      exact ⟨c2, by omega, h2⟩
theorem val_day {I : Nat → Int32} (h : Val B f c) (hB : B + 70 < 2 ^ 31) : ∃ c2, c2 ≤ c ∧ Val (B + 70) (dayM f I c).1 c2 := by
  have hc := val_dayC h hB
  unfold dayM
  split
  · obtain ⟨c2, h1, h2⟩ := val_ins c 0 (dayC f c) I (by rw [Nat.zero_add]; exact hc)
    exact ⟨c2, by omega, h2⟩
  · exact ⟨c, Nat.le_refl c, hc⟩
theorem val_dys {I : Nat → Int32} (h : Val B f c) : ∀ n, B + 70 * n < 2 ^ 31 → ∃ c2, c2 ≤ c ∧ Val (B + 70 * n) (dysM f I n).1 c2
  | 0, _ => ⟨c, Nat.le_refl c, h⟩
  | n + 1, hB => by
    obtain ⟨c2, h1, h2⟩ := val_dys (I := I) h n (by omega)
    obtain ⟨c3, h3, h4⟩ := val_day (I := (dysM f I n).2) h2 (by omega)
    refine ⟨c3, by omega, ?_⟩
    rw [dysM, mny_eq h2.okr]
    exact h4.le (by omega)
/-- newcomers, payments, moves -/
theorem dg_pos {x : Nat → Int32} {a v : Nat} (hv : v < 5) : Pos (dgF x a v) := by
  have : v = 0 ∨ v = 1 ∨ v = 2 ∨ v = 3 ∨ v = 4 := by omega
  unfold dgF
  rcases this with rfl | rfl | rfl | rfl | rfl
  · rw [pk_us]; exact ⟨_, by omega, rfl⟩
  · rw [pk_un (by omega), pk_us]; exact ⟨_, by omega, rfl⟩
  · rw [pk_un (by omega), pk_un (by omega), pk_us]; exact ⟨_, by omega, rfl⟩
  · rw [pk_un (by omega), pk_un (by omega), pk_un (by omega), pk_us]; exact ⟨_, by omega, rfl⟩
  · rw [pk_un (by omega), pk_un (by omega), pk_un (by omega), pk_un (by omega), pk_us]; exact ⟨_, by omega, rfl⟩
theorem Val.com {φ pay a : Nat} (h : Val B f c) (h12 : c < 12) (hφ : φ < 5) (hp : pay ≤ B) (hB : B < 2 ^ 31) (h4 : ¬ cntOn f (nI φ) (-1) c = 4) (hg : ∀ j, j < 13 + 16 * c + 10 → g j = comF f (nI φ) (nI pay) a c j) : Val B g (c + 1) := by
  obtain ⟨v1, v2, v3, v4, v5⟩ := h
  have r := com_r (f := f) (fl := nI φ) (pay := nI pay) (a := a) (c := c)
  refine ⟨by rw [hg 7 (by omega), com_7 v1], by omega, fun j hj => ?_, ?_, fun fl => ?_⟩
  · by_cases e : j = c
    · subst e
      refine ⟨⟨φ, hφ, by rw [hg _ (by omega)]; exact r.1⟩, by rw [hg _ (by omega), r.2.1]; exact Bal.nat hp hB, fun v hv => by rw [hg _ (by omega), com_a (x := f) hv]; exact dg_pos hv⟩
    · exact (v3 j (by omega)).of (by rw [hg _ (by omega), com_out (by omega) (by omega) (by omega)]) (by rw [hg _ (by omega), com_out (by omega) (by omega) (by omega)]) (fun v hv => by rw [hg _ (by omega), com_out (by omega) (by omega) (by omega)])
  · exact v4.of (by rw [hg _ (by omega), com_out (by omega) (by omega) (by omega)]) (by rw [hg _ (by omega), com_out (by omega) (by omega) (by omega)]) (fun v hv => by rw [hg _ (by omega), com_out (by omega) (by omega) (by omega)]) (by rw [hg _ (by omega), com_out (by omega) (by omega) (by omega)])
  · rw [cntA, cntA_c (f := f) c (fun k hk => by rw [hg _ (by omega), com_out (by omega) (by omega) (by omega)]), hg _ (by omega)]
    have h5 := v5 fl
    by_cases e : comF f (nI φ) (nI pay) a c (13 + 16 * c) = fl
    · rw [if_pos e]
      have e2 : nI φ = fl := r.1.symm.trans e
      rw [e2, cntA_on c (by omega)] at h4
      omega
    · rw [if_neg e]; exact h5
theorem Val.pay {x : Nat} (h : Val B f c) (hx : x ≤ 999) (hB : B + 999 < 2 ^ 31) : Val (B + 999) (payF f k (nI x)) c := by
  have hok := payF_ok (k := k) (x := nI x) h.okr
  obtain ⟨v1, v2, v3, v4, v5⟩ := h
  have e : ∀ j, j ≠ 13 + 16 * k + 1 → j ≠ 10 → payF f k (nI x) j = f j := fun j h1 h2 => by unfold payF; rw [pk_un h2, pk_un h1]
  refine ⟨hok.1, v2, fun j hj => ?_, (v4.le (by omega)).of (e _ (by omega) (by omega)) (e _ (by omega) (by omega)) (fun v hv => e _ (by omega) (by omega)) (e _ (by omega) (by omega)), v5.of fun j hj => e _ (by omega) (by omega)⟩
  by_cases ej : j = k
  · subst ej
    refine ⟨by rw [e _ (by omega) (by omega)]; exact (v3 j hj).1, ?_, fun v hv => by rw [e _ (by omega) (by omega)]; exact (v3 j hj).2.2 v hv⟩
    unfold payF; rw [pk_un (by omega), pk_us]
    exact (v3 j hj).2.1.add hx hB
  · exact ((v3 j hj).le (show B ≤ B + 999 by omega)).of (e _ (by omega) (by omega)) (e _ (by omega) (by omega)) (fun v hv => e _ (by omega) (by omega))
theorem cntA_mv {fl x : Int32} (hk : k < 2 ^ 31) : ∀ n, n < 2 ^ 31 → cntA (upd f (13 + 16 * k) x) fl n ≤ cntOn f fl (nI k) n + 1 ∧ (x ≠ fl → cntA (upd f (13 + 16 * k) x) fl n ≤ cntOn f fl (nI k) n) ∧ (n ≤ k → cntA (upd f (13 + 16 * k) x) fl n = cntOn f fl (nI k) n)
  | 0, _ => ⟨Nat.zero_le _, fun _ => Nat.le_refl _, fun _ => rfl⟩
  | n + 1, hn => by
    obtain ⟨a1, a2, a3⟩ := cntA_mv (fl := fl) (x := x) hk n (by omega)
    rw [cntA, cntOn]
    by_cases e : n = k
    · subst e
      have a4 := a3 (Nat.le_refl n)
      rw [pk_us, a4, if_neg (fun z : ¬ nI n = nI n ∧ _ => z.1 rfl)]
      refine ⟨by split <;> omega, fun hx => by rw [if_neg hx]; omega, fun h => by omega⟩
    · have e2 : (if upd f (13 + 16 * k) x (13 + 16 * n) = fl then 1 else 0) = (if ¬ nI n = nI k ∧ f (13 + 16 * n) = fl then 1 else 0) := by
        rw [pk_un (by omega)]
        by_cases z : f (13 + 16 * n) = fl
        · rw [if_pos z]
          by_cases y : nI n = nI k
          · exact absurd ((nI_eq (by omega) hk).mp y) e
          · rw [if_pos ⟨y, z⟩]
        · rw [if_neg z, if_neg (fun y => z y.2)]
      rw [e2]
      exact ⟨by omega, fun hx => by have := a2 hx; omega, fun h => by have := a3 (by omega); omega⟩
theorem Val.move {φ : Nat} (h : Val B f c) (hk : k < c) (hφ : φ < 5) (h4 : ¬ cntOn f (nI φ) (nI k) c = 4) : Val B (upd f (13 + 16 * k) (nI φ)) c := by
  have hok := upfl_ok (k := k) h.okr hφ
  obtain ⟨v1, v2, v3, v4, v5⟩ := h
  refine ⟨hok.1, v2, fun j hj => ?_, v4.of (pk_un (by omega)) (pk_un (by omega)) (fun v hv => pk_un (by omega)) (pk_un (by omega)), fun fl => ?_⟩
  · refine ⟨hok.2.2 j hj, by rw [pk_un (by omega)]; exact (v3 j hj).2.1, fun v hv => by rw [pk_un (by omega)]; exact (v3 j hj).2.2 v hv⟩
  · obtain ⟨a1, a2, -⟩ := cntA_mv (f := f) (k := k) (fl := fl) (x := nI φ) (by omega) c (by omega)
    have h5 := cntOn_A f fl (nI k) c
    have h6 := v5 fl
    by_cases e : nI φ = fl
    · subst e; omega
    · have := a2 e; omega
end GVAL
