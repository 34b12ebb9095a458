/-! payments that save (pure): rows that differ in one balance alone -/
section GPYM
variable {f g I J a o : Nat → Int32} {c i k m p n d dy φ ρ T B : Nat} {x y t : Int32}
/-- the same but for the balance of k and the sum of all payments -/
def Smb (f g : Nat → Int32) (k : Nat) : Prop := ∀ j, j ≠ 13 + 16 * k + 1 → j ≠ 10 → g j = f j
theorem sm_up {q : Nat} (h : Smb f g k) : Smb (upd f q x) (upd g q x) k := fun j h1 h2 => by
  unfold upd; split
  · rfl
  · exact h j h1 h2
theorem sm_mv {q : Nat} (h : Smb f g k) (h1 : q ≠ 13 + 16 * k + 1) (h2 : q ≠ 10) : Smb (mvF f q t) (mvF g q t) k := by
  unfold mvF; rw [h q h1 h2]; exact sm_up h
theorem sm_chg (h : Smb f g k) : Smb (chgF f i) (chgF g i) k := fun j h1 h2 => by
  by_cases e11 : j = 11
  · subst e11
    unfold chgF; rw [pk_us, pk_us]
    unfold chg1; rw [pk_un (by omega), pk_un (by omega), h 11 (by omega) (by omega), h 0 (by omega) (by omega), h (13 + 16 * i) (by omega) (by omega)]
  · by_cases e : j = 13 + 16 * i + 1
    · subst e
      rw [chgF_1, chgF_1, h _ h1 h2, h 0 (by omega) (by omega), h (13 + 16 * i) (by omega) (by omega)]
    · rw [chgF_o e e11, chgF_o e e11, h j h1 h2]
theorem sm_chgN (h : Smb f g k) : ∀ n, Smb (chgN f n) (chgN g n) k
  | 0 => h
  | n + 1 => sm_chg (sm_chgN h n)
theorem chgN_b : ∀ n, chgN f n (13 + 16 * k + 1) = if k < n then f (13 + 16 * k + 1) - (f 0 + nI 5 * f (13 + 16 * k)) else f (13 + 16 * k + 1)
  | 0 => by rw [if_neg (Nat.not_lt_zero k)]; rfl
  | n + 1 => by
    by_cases e : k = n
    · subst e
      rw [chgN, chgF_1, chgN_b k, if_neg (Nat.lt_irrefl k), if_pos (Nat.lt_succ_self k), chgN_hd (by decide) (by decide), chgN_fl]
    · rw [chgN, chgF_o (by omega) (by omega), chgN_b n]
      by_cases z : k < n
      · rw [if_pos z, if_pos (by omega)]
      · rw [if_neg z, if_neg (by omega)]
theorem sm_far (h : Smb f g k) : far (rw5 g i) (la5 g) 5 = far (rw5 f i) (la5 f) 5 := far_c 5 (fun v hv => h _ (by omega) (by omega)) (fun v hv => h _ (by omega) (by omega))
theorem sm_tch (h : Smb f g k) (hs : f (13 + 16 * k + 1) < 0 ↔ g (13 + 16 * k + 1) < 0) : Smb (tchF f i) (tchF g i) k := by
  have eS : f (13 + 16 * i + 1) < 0 ↔ g (13 + 16 * i + 1) < 0 := by
    by_cases e : i = k
    · subst e; exact hs
    · rw [h (13 + 16 * i + 1) (by omega) (by omega)]
  have eF := sm_far (i := i) h
  by_cases c1 : f (13 + 16 * i + 1) < 0
  · rw [tch_f (Or.inl c1), tch_f (Or.inl (eS.mp c1))]; exact h
  · rcases far_or (rw5 f i) (la5 f) 5 with e | ⟨v, hv, e⟩
    · rw [tch_f (Or.inr e), tch_f (Or.inr (by rw [eF]; exact e))]; exact h
    · rw [tch_t c1 hv e, tch_t (fun z => c1 (eS.mpr z)) hv (by rw [eF]; exact e), h (2 + v) (by omega) (by omega)]
      have h2 := sm_mv (t := f (2 + v)) (q := 13 + 16 * i + 5 + v) h (by omega) (by omega)
      rw [h2 (13 + 16 * i + 2) (by omega) (by omega)]
      exact sm_up h2
theorem tchN_b : ∀ n, tchN f n (13 + 16 * k + 1) = f (13 + 16 * k + 1)
  | 0 => rfl
  | n + 1 => by rw [tchN, tchF_off (fun v hv => by omega) (by omega), tchN_b n]
theorem sm_tchN (h : Smb f g k) (hs : f (13 + 16 * k + 1) < 0 ↔ g (13 + 16 * k + 1) < 0) : ∀ n, Smb (tchN f n) (tchN g n) k
  | 0 => h
  | n + 1 => sm_tch (sm_tchN h hs n) (by rw [tchN_b, tchN_b]; exact hs)
theorem sm_din (h : Smb f g k) (hφ : f (13 + 16 * i) = nI φ) (h5 : φ < 5) : Smb (dinF f a o i) (dinF g a o i) k := by
  have hg : g (13 + 16 * i) = nI φ := (h _ (by omega) (by omega)).trans hφ
  have eF : slpF g a o i = slpF f a o i := by
    rw [slpF_eq hg h5, slpF_eq hφ h5, far_c (x := rw5 g i) (x2 := rw5 f i) (y := fun v => a (5 * φ + v)) (y2 := fun v => a (5 * φ + v)) 5 (fun v hv => h _ (by omega) (by omega)) (fun v _ => rfl)]
  rcases slp_or f a o i with e | ⟨v, hv, e⟩
  · rw [din_f e, din_f (by rw [eF]; exact e)]; exact h
  · rw [din_t hφ h5 hv e, din_t hg h5 hv (by rw [eF]; exact e)]
    have h2 := sm_mv (t := a (5 * φ + v)) (q := 13 + 16 * i + 5 + v) h (by omega) (by omega)
    rw [h2 (13 + 16 * i + 3) (by omega) (by omega)]
    exact sm_up h2
theorem sm_dinN (h : Smb f g k) (hf : Flo f c) : ∀ n, n ≤ c → Smb (dinN f a o n) (dinN g a o n) k
  | 0, _ => h
  | n + 1, hn => by
    obtain ⟨φ, h1, h2⟩ := hf n (by omega)
    exact sm_din (sm_dinN h hf n (by omega)) ((dinN_fl hf n (by omega)).trans h2) h1
theorem sm_okr (h : Smb f g k) (hf : Okr f c) : Okr g c := ⟨(h 7 (by omega) (by omega)).trans hf.1, hf.2.1, hf.2.2.of fun j _ => h _ (by omega) (by omega)⟩
theorem sm_avU (h : Smb f g k) : avU g (fun _ => 0) c 25 = avU f (fun _ => 0) c 25 := by
  funext j; unfold avU
  by_cases e : j < 25
  · rw [if_pos e, if_pos e]
    exact avgF_c (fun q _ => h _ (by omega) (by omega)) (fun q _ _ => h _ (by omega) (by omega))
  · rw [if_neg e, if_neg e]
theorem sm_onU (h : Smb f g k) (hc : c ≤ 12) : onU g (fun _ => 0) c 5 = onU f (fun _ => 0) c 5 := by
  funext j; unfold onU
  by_cases e : j < 5
  · rw [if_pos e, if_pos e, cntA_on c (by omega), cntA_on c (by omega), cntA_c c (fun q _ => h _ (by omega) (by omega))]
  · rw [if_neg e, if_neg e]
/-- a day of the two -/
theorem dayC_b (hf : Okr f c) (hk : k < c) : dayC f c (13 + 16 * k + 1) = f (13 + 16 * k + 1) - (f 0 + nI 5 * f (13 + 16 * k)) := by
  have hA := (dayA_ok hf).2.2
  unfold dayC; rw [pk_un (by omega)]
  unfold dayB; rw [dinN_b hA c (Nat.le_refl c)]
  unfold dayA; rw [tchN_b, chgN_b, if_pos hk]
theorem dayC_fl (hf : Okr f c) : dayC f c (13 + 16 * k) = f (13 + 16 * k) := by
  have hA := (dayA_ok hf).2.2
  unfold dayC; rw [pk_un (by omega)]
  unfold dayB; rw [dinN_fl hA c (Nat.le_refl c)]
  unfold dayA; rw [tchN_fl, chgN_fl]
theorem sm_day (h : Smb f g k) (hf : Okr f c) (hk : k < c) (hs : f (13 + 16 * k + 1) - (f 0 + nI 5 * f (13 + 16 * k)) < 0 ↔ g (13 + 16 * k + 1) - (f 0 + nI 5 * f (13 + 16 * k)) < 0) : Smb (dayC f c) (dayC g c) k := by
  have hg := sm_okr h hf
  have e0 : g 0 = f 0 := h 0 (by omega) (by omega)
  have efl : g (13 + 16 * k) = f (13 + 16 * k) := h _ (by omega) (by omega)
  have h1 := sm_chgN h c
  have h2 : Smb (dayA f c) (dayA g c) k := sm_tchN h1 (by rw [chgN_b, chgN_b, if_pos hk, if_pos hk, e0, efl]; exact hs) c
  have hA := (dayA_ok hf).2.2
  have h3 : Smb (dayB f c) (dayB g c) k := by
    unfold dayB
    rw [sm_avU h2, sm_onU h2 hf.2.1]
    exact sm_dinN h2 hA c (Nat.le_refl c)
  unfold dayC
  rw [h3 8 (by omega) (by omega)]
  exact sm_up h3
theorem r_p1 (x b r : Int32) : x - b * r - r = x - (b + 1) * r := by grind
theorem pd_fl (hf : Okr f c) : ∀ n, pd f c n (13 + 16 * k) = f (13 + 16 * k)
  | 0 => rfl
  | n + 1 => by rw [pd, dayC_fl (pd_ok hf n), pd_fl hf n]
theorem pd_b (hf : Okr f c) (hk : k < c) : ∀ n, pd f c n (13 + 16 * k + 1) = f (13 + 16 * k + 1) - nI n * (f 0 + nI 5 * f (13 + 16 * k))
  | 0 => by show f _ = _; rw [nI_0, Int32.zero_mul, Int32.sub_zero]
  | n + 1 => by
    rw [pd, dayC_b (pd_ok hf n) hk, pd_b hf hk n, pd_hd hf (by decide) (by decide) (by decide), pd_fl hf, r_p1, ← nI_succ]
theorem sm_pd (h : Smb f g k) (hf : Okr f c) (hk : k < c) : ∀ n, (∀ i, 1 ≤ i → i ≤ n → (f (13 + 16 * k + 1) - nI i * (f 0 + nI 5 * f (13 + 16 * k)) < 0 ↔ g (13 + 16 * k + 1) - nI i * (f 0 + nI 5 * f (13 + 16 * k)) < 0)) → Smb (pd f c n) (pd g c n) k
  | 0, _ => h
  | n + 1, hs => by
    have ih := sm_pd h hf hk n (fun i h1 h2 => hs i h1 (by omega))
    have hg := sm_okr h hf
    have e0 : g 0 = f 0 := h 0 (by omega) (by omega)
    have efl : g (13 + 16 * k) = f (13 + 16 * k) := h _ (by omega) (by omega)
    refine sm_day ih (pd_ok hf n) hk ?_
    have h9 := hs (n + 1) (by omega) (Nat.le_refl _)
    rw [pd_b hf hk, pd_b hg hk, pd_hd hf (by decide) (by decide) (by decide), pd_fl hf, e0, efl, r_p1, r_p1, ← nI_succ]
    exact h9
theorem sm_must (h : Smb f g k) (hs : f (13 + 16 * k + 1) < 0 ↔ g (13 + 16 * k + 1) < 0) : MustB f k = true ↔ MustB g k = true := by
  rw [must_t, must_t, hs, h 1 (by omega) (by omega), dst_c (x := rw5 g k) (y := la5 g) (x2 := rw5 f k) (y2 := la5 f) 5 (fun v hv => h _ (by omega) (by omega)) (fun v hv => h _ (by omega) (by omega)), dif_c (x := rw5 g k) (y := la5 g) (x2 := rw5 f k) (y2 := la5 f) 5 (fun v hv => h _ (by omega) (by omega)) (fun v hv => h _ (by omega) (by omega))]
/-- the same signs up to the inspection: the same end -/
theorem sm_gon (h : Smb f g k) (hf : Okr f c) (hk : k < c) (h8 : f 8 = nI dy) (hd : dy + 7 < 2 ^ 31) (hs : ∀ i, 1 ≤ i → i ≤ 7 - dy % 7 → (f (13 + 16 * k + 1) - nI i * (f 0 + nI 5 * f (13 + 16 * k)) < 0 ↔ g (13 + 16 * k + 1) - nI i * (f 0 + nI 5 * f (13 + 16 * k)) < 0)) : gonB f k (7 - dy % 7) = true ↔ gonB g k (7 - dy % 7) = true := by
  have hg := sm_okr h hf
  have e0 : g 0 = f 0 := h 0 (by omega) (by omega)
  have efl : g (13 + 16 * k) = f (13 + 16 * k) := h _ (by omega) (by omega)
  have g8 : g 8 = nI dy := (h 8 (by omega) (by omega)).trans h8
  rw [gon_left hf h8 hd hk, gon_left hg g8 hd hk]
  refine sm_must (sm_pd h hf hk _ hs) ?_
  have h9 := hs (7 - dy % 7) (by omega) (Nat.le_refl _)
  rw [pd_b hf hk, pd_b hg hk, e0, efl]
  exact h9
/-- signs as whole numbers -/
theorem sg_int (hb : Bal B x) (hB : B + 1000 < 2 ^ 31) (hi : i ≤ 7) (hρ : ρ ≤ 70) : x - nI i * nI ρ < 0 ↔ x.toInt < ((i * ρ : Nat) : Int) := by
  have h1 : i * ρ ≤ 7 * 70 := Nat.mul_le_mul hi hρ
  obtain ⟨b1, b2⟩ := hb
  rw [nI_mul, Int32.lt_iff_toInt_lt, Int32.toInt_sub, nI_toInt (by omega), Int.bmod_eq_of_le (by omega) (by omega), Int32.toInt_zero]
  omega
/-- payments with the same signs -/
def Pat (ρ T : Nat) (u v : Int) : Prop := ∀ i, 1 ≤ i → i ≤ T → (u < ((i * ρ : Nat) : Int) ↔ v < ((i * ρ : Nat) : Int))
theorem pat_of {u v : Int} (h1 : ((d * ρ : Nat) : Int) ≤ u) (h2 : ((d * ρ : Nat) : Int) ≤ v) (h3 : u < ((d * ρ + ρ : Nat) : Int)) (h4 : v < ((d * ρ + ρ : Nat) : Int)) : Pat ρ T u v := fun i _ _ => by
  by_cases e : i ≤ d
  · have := Nat.mul_le_mul_right ρ e
    generalize i * ρ = w at *; generalize d * ρ = w2 at *; omega
  · have := Nat.mul_le_mul_right ρ (show d + 1 ≤ i by omega)
    rw [Nat.add_mul, Nat.one_mul] at this
    generalize i * ρ = w at *; generalize d * ρ = w2 at *; omega
theorem pat_lo {u v : Int} (h1 : u < (ρ : Int)) (h2 : v < (ρ : Int)) : Pat ρ T u v := fun i hi _ => by
  have := Nat.mul_le_mul_right ρ hi
  rw [Nat.one_mul] at this
  generalize i * ρ = w at *; omega
theorem pat_hi {u v : Int} (h1 : ((T * ρ : Nat) : Int) ≤ u) (h2 : ((T * ρ : Nat) : Int) ≤ v) : Pat ρ T u v := fun i _ hi => by
  have := Nat.mul_le_mul_right ρ hi
  generalize i * ρ = w at *; generalize T * ρ = w2 at *; omega
theorem pat_ng {u v : Int} (h1 : u < 0) (h2 : v < 0) : Pat ρ T u v := fun i _ _ => by
  generalize i * ρ = w; omega
/-- gone at the next inspection after a payment of p -/
def Gp (f : Nat → Int32) (k T p : Nat) : Prop := gonB (payx f k (nI p)) k T = true
theorem sm_payx : Smb f (payx f k x) k := fun j h1 _ => by unfold payx; exact pk_un h1
theorem sm_payF : Smb (payx f k x) (payF f k x) k := fun j h1 h2 => by unfold payF payx; rw [pk_un h2]
theorem payx_b : payx f k x (13 + 16 * k + 1) = f (13 + 16 * k + 1) + x := by unfold payx; exact pk_us
theorem payF_b : payF f k x (13 + 16 * k + 1) = f (13 + 16 * k + 1) + x := by unfold payF; rw [pk_un (by omega), pk_us]
theorem payx_0 : payx f k (nI 0) = f := by unfold payx; rw [nI_0, Int32.add_zero]; exact upd_id rfl
theorem gpF (hf : Okr f c) (hk : k < c) (h8 : f 8 = nI dy) (hd : dy + 7 < 2 ^ 31) : gonB (payF f k (nI p)) k (7 - dy % 7) = true ↔ Gp f k (7 - dy % 7) p := by
  have h1 := sm_okr (sm_payx (x := nI p) (k := k)) hf
  refine (sm_gon sm_payF h1 hk ((sm_payx 8 (by omega) (by omega)).trans h8) hd (fun i _ _ => ?_)).symm
  rw [payx_b, payF_b]
theorem bal_t (hb : Bal B (f (13 + 16 * k + 1))) (hB : B + 2000 < 2 ^ 31) (hp : p ≤ 999) : (f (13 + 16 * k + 1) + nI p).toInt = (f (13 + 16 * k + 1)).toInt + p := by
  obtain ⟨b1, b2⟩ := hb
  rw [Int32.toInt_add, nI_toInt (by omega), Int.bmod_eq_of_le (by omega) (by omega)]
theorem gp_pat (hf : Okr f c) (hk : k < c) (h8 : f 8 = nI dy) (hd : dy + 7 < 2 ^ 31) (hb : Bal B (f (13 + 16 * k + 1))) (hB : B + 2000 < 2 ^ 31) (hr : f 0 + nI 5 * f (13 + 16 * k) = nI ρ) (hρ : ρ ≤ 70) {q : Nat} (hp : p ≤ 999) (hq : q ≤ 999) (hP : Pat ρ (7 - dy % 7) ((f (13 + 16 * k + 1)).toInt + p) ((f (13 + 16 * k + 1)).toInt + q)) : Gp f k (7 - dy % 7) p ↔ Gp f k (7 - dy % 7) q := by
  have h1 := sm_okr (sm_payx (x := nI p) (k := k)) hf
  have hS : Smb (payx f k (nI p)) (payx f k (nI q)) k := fun j a1 a2 => by rw [sm_payx j a1 a2, sm_payx j a1 a2]
  refine sm_gon hS h1 hk ((sm_payx 8 (by omega) (by omega)).trans h8) hd (fun i i1 i2 => ?_)
  have e0 : payx f k (nI p) 0 + nI 5 * payx f k (nI p) (13 + 16 * k) = nI ρ := by
    rw [sm_payx 0 (by omega) (by omega), sm_payx (13 + 16 * k) (by omega) (by omega)]; exact hr
  have z := hP i i1 i2
  rw [← bal_t hb hB hp, ← bal_t hb hB hq] at z
  rw [e0, payx_b, payx_b, sg_int (hb.add hp (by omega)) (by omega) (by omega) hρ, sg_int (hb.add hq (by omega)) (by omega) (by omega) hρ]
  exact z
theorem pmt_of (hb : Bal B (f (13 + 16 * k + 1))) (hB : B + 2000 < 2 ^ 31) (hr : f 0 + nI 5 * f (13 + 16 * k) = nI ρ) (hρ : ρ ≤ 70) {e : Nat} (he : e ≤ 7) : (pmt f k e).toInt = ((e * ρ : Nat) : Int) - (f (13 + 16 * k + 1)).toInt := by
  have h1 : e * ρ ≤ 7 * 70 := Nat.mul_le_mul he hρ
  obtain ⟨b1, b2⟩ := hb
  unfold pmt
  rw [hr, nI_mul, Nat.mul_comm ρ e, Int32.toInt_sub, nI_toInt (by omega), Int.bmod_eq_of_le (by omega) (by omega)]
theorem nI_ofT {x : Int32} (h : x.toInt = (n : Int)) (hn : n < 2 ^ 31) : x = nI n := Int32.toInt_inj.mp (by rw [h, nI_toInt hn])
/-- a payment for e days is in the range and saves -/
def Okp (f : Nat → Int32) (k T e : Nat) : Prop := (nI 1 ≤ pmt f k e ∧ pmt f k e ≤ nI 999) ∧ styB f k (pmt f k e) T = true
theorem okp_t (hb : Bal B (f (13 + 16 * k + 1))) (hB : B + 2000 < 2 ^ 31) (hr : f 0 + nI 5 * f (13 + 16 * k) = nI ρ) (hρ : ρ ≤ 70) {e : Nat} (he : e ≤ 7) (h : Okp f k T e) : ∃ p : Nat, 1 ≤ p ∧ p ≤ 999 ∧ (p : Int) = ((e * ρ : Nat) : Int) - (f (13 + 16 * k + 1)).toInt ∧ pmt f k e = nI p ∧ ¬ Gp f k T p := by
  obtain ⟨⟨h1, h2⟩, h3⟩ := h
  have e1 := pmt_of hb hB hr hρ he
  rw [Int32.le_iff_toInt_le, nI_toInt (by decide)] at h1 h2
  have h1' : (1 : Int) ≤ (pmt f k e).toInt := h1
  have h2' : (pmt f k e).toInt ≤ (999 : Int) := h2
  have e2 : pmt f k e = nI (pmt f k e).toInt.toNat := nI_ofT (by omega) (by omega)
  refine ⟨(pmt f k e).toInt.toNat, by omega, by omega, by omega, e2, fun z => ?_⟩
  unfold Gp at z
  rw [← e2] at z
  unfold styB at h3
  rw [z] at h3; cases h3
theorem okp_f (hb : Bal B (f (13 + 16 * k + 1))) (hB : B + 2000 < 2 ^ 31) (hr : f 0 + nI 5 * f (13 + 16 * k) = nI ρ) (hρ : ρ ≤ 70) {e : Nat} (he : e ≤ 7) (h : ¬ Okp f k T e) (h1 : 1 ≤ p) (h2 : p ≤ 999) (h3 : (p : Int) = ((e * ρ : Nat) : Int) - (f (13 + 16 * k + 1)).toInt) : Gp f k T p := by
  have e1 := pmt_of hb hB hr hρ he
  have e2 : pmt f k e = nI p := nI_ofT (by omega) (by omega)
  refine Classical.byContradiction fun z => h ⟨?_, ?_⟩
  · rw [e2]; exact ⟨nI_le h1 (by omega), nI_le h2 (by decide)⟩
  · rw [e2]; unfold styB
    rw [Bool.not_eq_true']
    exact Bool.eq_false_iff.mpr z
theorem ptF_spec : ∀ (m d : Nat), d + m = T + 1 → (ptF f k T m d = -1 ∧ ∀ e, d ≤ e → e ≤ T → ¬ Okp f k T e) ∨ ∃ e, d ≤ e ∧ e ≤ T ∧ Okp f k T e ∧ ptF f k T m d = pmt f k e ∧ ∀ q, d ≤ q → q < e → ¬ Okp f k T q
  | 0, d, h => Or.inl ⟨rfl, fun e h1 h2 => absurd h1 (by omega)⟩
  | m + 1, d, h => by
    by_cases z : Okp f k T d
    · exact Or.inr ⟨d, Nat.le_refl d, by omega, z, ptF_t z.1 z.2, fun q h1 h2 => absurd h1 (by omega)⟩
    · rw [ptF_f z]
      rcases ptF_spec m (d + 1) (by omega) with ⟨h1, h2⟩ | ⟨e, h1, h2, h3, h4, h5⟩
      · refine Or.inl ⟨h1, fun e e1 e2 => ?_⟩
        by_cases y : e = d
        · subst y; exact z
        · exact h2 e (by omega) e2
      · refine Or.inr ⟨e, by omega, h2, h3, h4, fun q q1 q2 => ?_⟩
        by_cases y : q = d
        · subst y; exact z
        · exact h5 q (by omega) q2
/-- what the class says of payments is right -/
theorem pay_spec (hf : Okr f c) (hk : k < c) (h8 : f 8 = nI dy) (hd : dy + 7 < 2 ^ 31) (hb : Bal B (f (13 + 16 * k + 1))) (hB : B + 2000 < 2 ^ 31) (hr : f 0 + nI 5 * f (13 + 16 * k) = nI ρ) (hρ : ρ ≤ 70) :
    (ptR f k (7 - dy % 7) = nI 0 ∧ ¬ Gp f k (7 - dy % 7) 0) ∨ (∃ L, 1 ≤ L ∧ L ≤ 999 ∧ ptR f k (7 - dy % 7) = nI L ∧ Gp f k (7 - dy % 7) 0 ∧ ¬ Gp f k (7 - dy % 7) L ∧ Gp f k (7 - dy % 7) (L - 1)) ∨ (ptR f k (7 - dy % 7) = -1 ∧ Gp f k (7 - dy % 7) 0 ∧ Gp f k (7 - dy % 7) 999) := by
  have hT1 : 1 ≤ 7 - dy % 7 := by omega
  have hT7 : 7 - dy % 7 ≤ 7 := by omega
  have key := fun (p q : Nat) (a1 : p ≤ 999) (a2 : q ≤ 999) => gp_pat (p := p) (q := q) hf hk h8 hd hb hB hr hρ a1 a2
  have ok1 := fun (e p : Nat) (a1 : e ≤ 7) => okp_f (T := 7 - dy % 7) (p := p) (e := e) hb hB hr hρ a1
  generalize hX : (f (13 + 16 * k + 1)).toInt = X at key ok1
  generalize hTT : 7 - dy % 7 = T at *
  unfold ptR
  by_cases h0 : styB f k (nI 0) T = true
  · rw [if_pos h0]
    refine Or.inl ⟨rfl, fun z => ?_⟩
    unfold Gp at z; unfold styB at h0
    rw [z] at h0; cases h0
  · rw [if_neg h0]
    have hG0 : Gp f k T 0 := by
      unfold styB at h0; unfold Gp
      revert h0; cases gonB (payx f k (nI 0)) k T <;> simp
    rcases ptF_spec (f := f) (k := k) (T := T) T 1 (by omega) with ⟨h1, h2⟩ | ⟨e, e1, e2, h3, h4, h5⟩
    · refine Or.inr (Or.inr ⟨h1, hG0, ?_⟩)
      by_cases c1 : X + 999 < (ρ : Int)
      · exact (key 0 999 (by decide) (by decide) (pat_lo (by omega) (by omega))).mp hG0
      · by_cases c2 : ((T * ρ : Nat) : Int) ≤ X + 999
        · by_cases c3 : ((T * ρ : Nat) : Int) ≤ X
          · exact (key 0 999 (by decide) (by decide) (pat_hi (by omega) (by omega))).mp hG0
          · have hg := ok1 T ((((T * ρ : Nat) : Int) - X).toNat) (by omega) (h2 T hT1 (Nat.le_refl T)) (by omega) (by omega) (by omega)
            exact (key _ 999 (by omega) (by decide) (pat_hi (by omega) (by omega))).mp hg
        · have hρ0 : 0 < ρ := by
            rcases Nat.eq_zero_or_pos ρ with z | z
            · subst z; rw [Nat.mul_zero] at c2; omega
            · exact z
          have hu : ((X + 999).toNat : Int) = X + 999 := by omega
          generalize (X + 999).toNat = u at hu
          have q1 := Nat.div_mul_le_self u ρ
          have q2 := Nat.div_add_mod u ρ
          have q3 := Nat.mod_lt u hρ0
          rw [Nat.mul_comm] at q2
          have q4 : u / ρ < T := by
            rcases Nat.lt_or_ge (u / ρ) T with z | z
            · exact z
            · have := Nat.mul_le_mul_right ρ z
              generalize T * ρ = w at *; generalize u / ρ * ρ = w2 at *; omega
          have q5 : 1 ≤ u / ρ := (Nat.one_le_div_iff hρ0).mpr (by omega)
          generalize u / ρ = dd at *
          by_cases c3 : ((dd * ρ : Nat) : Int) ≤ X
          · exact (key 0 999 (by decide) (by decide) (pat_of (d := dd) (by omega) (by omega) (by omega) (by omega))).mp hG0
          · have hg := ok1 dd ((((dd * ρ : Nat) : Int) - X).toNat) (by omega) (h2 dd q5 (by omega)) (by omega) (by omega) (by omega)
            exact (key _ 999 (by omega) (by decide) (pat_of (d := dd) (by omega) (by omega) (by omega) (by omega))).mp hg
    · obtain ⟨L, l1, l2, l3, l4, l5⟩ := okp_t hb hB hr hρ (show e ≤ 7 by omega) h3
      rw [hX] at l3
      refine Or.inr (Or.inl ⟨L, l1, l2, h4.trans l4, hG0, l5, ?_⟩)
      by_cases c0 : ρ = 0
      · subst c0
        rw [Nat.mul_zero] at l3
        exact (key 0 (L - 1) (by decide) (by omega) (pat_ng (by omega) (by omega))).mp hG0
      · obtain ⟨dd, rfl⟩ : ∃ dd, e = dd + 1 := ⟨e - 1, by omega⟩
        rw [Nat.add_mul, Nat.one_mul] at l3
        by_cases c3 : ((dd * ρ : Nat) : Int) ≤ X
        · exact (key 0 (L - 1) (by decide) (by omega) (pat_of (d := dd) (by omega) (by omega) (by omega) (by omega))).mp hG0
        · by_cases c4 : dd = 0
          · subst c4
            rw [Nat.zero_mul] at l3 c3
            exact (key 0 (L - 1) (by decide) (by omega) (pat_lo (by omega) (by omega))).mp hG0
          · have hg := ok1 dd ((((dd * ρ : Nat) : Int) - X).toNat) (by omega) (h5 dd (by omega) (by omega)) (by omega) (by omega) (by omega)
            exact (key _ (L - 1) (by omega) (by omega) (pat_of (d := dd) (by omega) (by omega) (by omega) (by omega))).mp hg
end GPYM
