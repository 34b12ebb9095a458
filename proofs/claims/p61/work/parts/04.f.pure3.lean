section GPURE3
/-- the inspection, from lodger p on, m lodgers left to look at -/
def insM : Nat → Nat → (Nat → Int32) → (Nat → Int32) → (Nat → Int32) × (Nat → Int32)
  | 0, _, f, I => (f, I)
  | m + 1, p, f, I => if MustB f p = true then insM m p (upd (gonF f p (p + m + 1)) 9 (gonF f p (p + m + 1) 9 + nI 1)) (trkF I f p) else insM m (p + 1) f I
theorem insM_t {m p : Nat} {f I : Nat → Int32} (h : MustB f p = true) : insM (m + 1) p f I = insM m p (upd (gonF f p (p + m + 1)) 9 (gonF f p (p + m + 1) 9 + nI 1)) (trkF I f p) := by rw [insM, if_pos h]
theorem insM_f {m p : Nat} {f I : Nat → Int32} (h : ¬ MustB f p = true) : insM (m + 1) p f I = insM m (p + 1) f I := by rw [insM, if_neg h]
theorem gonF_7 {f : Nat → Int32} {k c : Nat} (hc : f 7 = nI c) (h0 : 0 < c) : gonF f k c 7 = nI (c - 1) := gon_7 hc h0
theorem upd9_7 {g : Nat → Int32} {x : Int32} : upd g 9 x 7 = g 7 := pk_un (by decide)
def chgN (f : Nat → Int32) : Nat → Nat → Int32
  | 0 => f
  | k + 1 => chgF (chgN f k) k
def tchN (f : Nat → Int32) : Nat → Nat → Int32
  | 0 => f
  | k + 1 => tchF (tchN f k) k
def dinN (f a o : Nat → Int32) : Nat → Nat → Int32
  | 0 => f
  | k + 1 => dinF (dinN f a o k) a o k
theorem chgF_7 {f : Nat → Int32} {k : Nat} : chgF f k 7 = f 7 := by unfold chgF chg1; rw [pk_un (by decide), pk_un (by omega)]
theorem chgN_7 {f : Nat → Int32} : ∀ k, chgN f k 7 = f 7
  | 0 => rfl
  | k + 1 => by rw [chgN, chgF_7, chgN_7 k]
theorem mvF_n {f : Nat → Int32} {p j : Nat} {t : Int32} (h : j ≠ p) : mvF f p t j = f j := pk_un h
theorem tchF_off {f : Nat → Int32} {k j : Nat} (h : ∀ v, v < 5 → j ≠ 13 + 16 * k + 5 + v) (h2 : j ≠ 13 + 16 * k + 2) : tchF f k j = f j := by
  by_cases h0 : f (13 + 16 * k + 1) < 0
  · rw [tch_f (Or.inl h0)]
  · rcases far_or (rw5 f k) (la5 f) 5 with e | ⟨v, hv, e⟩
    · rw [tch_f (Or.inr e)]
    · rw [tch_t h0 hv e, pk_un h2, mvF_n (h v hv)]
theorem tchF_7 {f : Nat → Int32} {k : Nat} : tchF f k 7 = f 7 := tchF_off (fun v _ => by omega) (by omega)
theorem tchN_7 {f : Nat → Int32} : ∀ k, tchN f k 7 = f 7
  | 0 => rfl
  | k + 1 => by rw [tchN, tchF_7, tchN_7 k]
theorem dinF_off {f a o : Nat → Int32} {k j φ : Nat} (hφ : f (13 + 16 * k) = nI φ) (h5 : φ < 5) (h : ∀ v, v < 5 → j ≠ 13 + 16 * k + 5 + v) (h2 : j ≠ 13 + 16 * k + 3) : dinF f a o k j = f j := by
  rcases slp_or f a o k with e | ⟨v, hv, e⟩
  · rw [din_f e]
  · rw [din_t hφ h5 hv e, pk_un h2, mvF_n (h v hv)]
/-- floors of the first c lodgers are floors -/
def Flo (f : Nat → Int32) (c : Nat) : Prop := ∀ k, k < c → ∃ φ, φ < 5 ∧ f (13 + 16 * k) = nI φ
theorem Flo.of {f g : Nat → Int32} {c : Nat} (h : Flo f c) (e : ∀ k, k < c → g (13 + 16 * k) = f (13 + 16 * k)) : Flo g c := fun k hk => by rw [e k hk]; exact h k hk
theorem chgN_fl {f : Nat → Int32} {j : Nat} : ∀ k, chgN f k (13 + 16 * j) = f (13 + 16 * j)
  | 0 => rfl
  | k + 1 => by rw [chgN, chgF, pk_un (by omega), chg1, pk_un (by omega), chgN_fl k]
theorem tchN_fl {f : Nat → Int32} {j : Nat} : ∀ k, tchN f k (13 + 16 * j) = f (13 + 16 * j)
  | 0 => rfl
  | k + 1 => by rw [tchN, tchF_off (fun v hv => by omega) (by omega), tchN_fl k]
theorem dinN_fl {f a o : Nat → Int32} {c j : Nat} (h : Flo f c) : ∀ k, k ≤ c → dinN f a o k (13 + 16 * j) = f (13 + 16 * j)
  | 0, _ => rfl
  | k + 1, hk => by
    obtain ⟨φ, h1, h2⟩ := h k (by omega)
    rw [dinN, dinF_off (φ := φ) (by rw [dinN_fl h k (by omega)]; exact h2) h1 (fun v hv => by omega) (by omega), dinN_fl h k (by omega)]
theorem dinN_7 {f a o : Nat → Int32} {c : Nat} (h : Flo f c) : ∀ k, k ≤ c → dinN f a o k 7 = f 7
  | 0, _ => rfl
  | k + 1, hk => by
    obtain ⟨φ, h1, h2⟩ := h k (by omega)
    rw [dinN, dinF_off (φ := φ) (by rw [dinN_fl h k (by omega)]; exact h2) h1 (fun v hv => by omega) (by omega), dinN_7 h k (by omega)]
/-- a day up to the inspection -/
def dayA (f : Nat → Int32) (c : Nat) : Nat → Int32 := tchN (chgN f c) c
def dayB (f : Nat → Int32) (c : Nat) : Nat → Int32 := dinN (dayA f c) (avU (dayA f c) (fun _ => 0) c 25) (onU (dayA f c) (fun _ => 0) c 5) c
def dayC (f : Nat → Int32) (c : Nat) : Nat → Int32 := upd (dayB f c) 8 (dayB f c 8 + nI 1)
/-- is there an inspection now -/
def InsB (f : Nat → Int32) : Bool := decide (f 8 - f 8 / nI 7 * nI 7 = 0)
def dayM (f I : Nat → Int32) (c : Nat) : (Nat → Int32) × (Nat → Int32) := if InsB (dayC f c) = true then insM c 0 (dayC f c) I else (dayC f c, I)
/-- scratch arrays apart -/
def Sc (A B : Nat → Nat → Int32) : Prop := ∀ j, j ≠ 6 → j ≠ 7 → B j = A j
theorem Sc.rf {A : Nat → Nat → Int32} : Sc A A := fun _ _ _ => rfl
theorem Sc.tr {A B C : Nat → Nat → Int32} (h : Sc A B) (h2 : Sc B C) : Sc A C := fun j a b => (h2 j a b).trans (h j a b)
theorem Sc.av {A : Nat → Nat → Int32} {o a : Nat → Int32} : Sc A (avA A o a) := fun j a b => by unfold avA; rw [if_neg b, if_neg a]
theorem slpF_c {f a a2 o o2 : Nat → Int32} {k φ : Nat} (hφ : f (13 + 16 * k) = nI φ) (h5 : φ < 5) (ha : ∀ j, j < 25 → a j = a2 j) (ho : ∀ j, j < 5 → o j = o2 j) : slpF f a o k = slpF f a2 o2 k := by
  rw [slpF_eq hφ h5, slpF_eq hφ h5, ho φ h5]
  have : ∀ n, n ≤ 5 → far (rw5 f k) (fun v => a (5 * φ + v)) n = far (rw5 f k) (fun v => a2 (5 * φ + v)) n := by
    intro n
    induction n with
    | zero => intro _; rfl
    | succ n ih => intro hn; rw [far, far, ih (by omega), ha (5 * φ + n) (by omega)]
  rw [this 5 (Nat.le_refl 5)]
theorem dinF_c {f a a2 o o2 : Nat → Int32} {k φ : Nat} (hφ : f (13 + 16 * k) = nI φ) (h5 : φ < 5) (ha : ∀ j, j < 25 → a j = a2 j) (ho : ∀ j, j < 5 → o j = o2 j) : dinF f a o k = dinF f a2 o2 k := by
  have e := slpF_c (f := f) (k := k) hφ h5 ha ho
  rcases slp_or f a2 o2 k with z | ⟨v, hv, z⟩
  · rw [din_f (e.trans z), din_f z]
  · rw [din_t hφ h5 hv (e.trans z), din_t hφ h5 hv z, ha (5 * φ + v) (by omega)]
theorem dinN_c {f a a2 o o2 : Nat → Int32} {c : Nat} (h : Flo f c) (ha : ∀ j, j < 25 → a j = a2 j) (ho : ∀ j, j < 5 → o j = o2 j) : ∀ k, k ≤ c → dinN f a o k = dinN f a2 o2 k
  | 0, _ => rfl
  | k + 1, hk => by
    obtain ⟨φ, h1, h2⟩ := h k (by omega)
    rw [dinN, dinN, dinN_c h ha ho k (by omega)]
    exact dinF_c (by rw [dinN_fl h k (by omega)]; exact h2) h1 ha ho
/-- what of a row a day and its callees need -/
def Okr (f : Nat → Int32) (c : Nat) : Prop := f 7 = nI c ∧ c ≤ 12 ∧ Flo f c
theorem shf_fl {f : Nat → Int32} {k c j : Nat} (hkc : k < c) (hj : j < c - 1) : shf f (13 + 16 * k) (16 * (c - 1 - k)) (13 + 16 * j) = if k ≤ j then f (13 + 16 * (j + 1)) else f (13 + 16 * j) := by
  unfold shf
  by_cases h : k ≤ j
  · rw [if_pos (by omega), if_pos h]; congr 1
  · rw [if_neg (by omega), if_neg h]
theorem gonF_fl {f : Nat → Int32} {k c j : Nat} (hkc : k < c) (hj : j < c - 1) : gonF f k c (13 + 16 * j) = if k ≤ j then f (13 + 16 * (j + 1)) else f (13 + 16 * j) := by
  unfold gonF
  rw [shf_fl hkc hj]
  split <;> (unfold gon2 gon1; rw [pk_un (by omega), pk_un (by omega)])
theorem Okr.gone {f : Nat → Int32} {k c : Nat} (h : Okr f c) (hkc : k < c) : Okr (upd (gonF f k c) 9 (gonF f k c 9 + nI 1)) (c - 1) := by
  obtain ⟨h1, h2, h3⟩ := h
  refine ⟨by rw [upd9_7, gonF_7 h1 (by omega)], by omega, fun j hj => ?_⟩
  rw [pk_un (by omega), gonF_fl hkc hj]
  split
  · exact h3 _ (by omega)
  · exact h3 _ (by omega)
theorem insM_ok : ∀ (m p : Nat) (f I : Nat → Int32), Okr f (p + m) → ∃ c, c ≤ p + m ∧ Okr (insM m p f I).1 c
  | 0, p, f, I, h => ⟨p, Nat.le_refl _, h⟩
  | m + 1, p, f, I, h => by
    by_cases hM : MustB f p = true
    · rw [insM_t hM]
      obtain ⟨c, h1, h2⟩ := insM_ok m p _ (trkF I f p) (show Okr _ (p + m) from h.gone (k := p) (by omega))
      exact ⟨c, by omega, h2⟩
    · rw [insM_f hM]
      obtain ⟨c, h1, h2⟩ := insM_ok m (p + 1) f I (by rw [show p + 1 + m = p + (m + 1) by omega]; exact h)
      exact ⟨c, by omega, h2⟩
theorem dayA_ok {f : Nat → Int32} {c : Nat} (h : Okr f c) : Okr (dayA f c) c := ⟨by unfold dayA; rw [tchN_7, chgN_7]; exact h.1, h.2.1, h.2.2.of fun k _ => by unfold dayA; rw [tchN_fl, chgN_fl]⟩
theorem dayC_ok {f : Nat → Int32} {c : Nat} (h : Okr f c) : Okr (dayC f c) c := by
  have ha := dayA_ok h
  refine ⟨by unfold dayC; rw [pk_un (by decide)]; unfold dayB; rw [dinN_7 ha.2.2 c (Nat.le_refl c)]; exact ha.1, h.2.1, ha.2.2.of fun k _ => ?_⟩
  unfold dayC; rw [pk_un (by omega)]; unfold dayB; rw [dinN_fl ha.2.2 c (Nat.le_refl c)]
theorem dayM_t {f I : Nat → Int32} {c : Nat} (h : InsB (dayC f c) = true) : dayM f I c = insM c 0 (dayC f c) I := if_pos h
theorem dayM_f {f I : Nat → Int32} {c : Nat} (h : ¬ InsB (dayC f c) = true) : dayM f I c = (dayC f c, I) := if_neg h
theorem dayM_ok {f I : Nat → Int32} {c : Nat} (h : Okr f c) : ∃ c2, c2 ≤ c ∧ Okr (dayM f I c).1 c2 := by
  have hc := dayC_ok h
  unfold dayM
  split
  · obtain ⟨c2, h1, h2⟩ := insM_ok c 0 (dayC f c) I (by rw [Nat.zero_add]; exact hc)
    exact ⟨c2, by omega, h2⟩
  · exact ⟨c, Nat.le_refl c, hc⟩
/-- as many lodgers as the row says -/
def mny (f : Nat → Int32) : Nat := (f 7).toNatClampNeg
theorem mny_eq {f : Nat → Int32} {c : Nat} (h : Okr f c) : mny f = c := by unfold mny; rw [h.1, nI_clamp (by have := h.2.1; omega)]
/-- n days -/
def dysM (f I : Nat → Int32) : Nat → (Nat → Int32) × (Nat → Int32)
  | 0 => (f, I)
  | n + 1 => dayM (dysM f I n).1 (dysM f I n).2 (mny (dysM f I n).1)
theorem dysM_ok {f I : Nat → Int32} {c : Nat} (h : Okr f c) : ∀ n, ∃ c2, c2 ≤ c ∧ Okr (dysM f I n).1 c2
  | 0 => ⟨c, Nat.le_refl c, h⟩
  | n + 1 => by
    obtain ⟨c2, h1, h2⟩ := dysM_ok h n
    obtain ⟨c3, h3, h4⟩ := dayM_ok (I := (dysM f I n).2) h2
    refine ⟨c3, by omega, ?_⟩
    rw [dysM, mny_eq h2]
    exact h4
theorem InsB_t {f : Nat → Int32} : InsB f = true ↔ f 8 - f 8 / nI 7 * nI 7 = 0 := by unfold InsB; simp
section
variable {Γ : Gm} {d : Nat} {M : Mr} {P : Po} {X : Px} {pc : Nat} {lv : List (Nat × Value)} {st rest : List Value} {E : Hp} {n kc ks : Nat} {M1 : Mr} {d1 mc ms ix k b : Nat} {As : List Value} {P1 : Po}
/-- a call whose answer the post tells -/
theorem gx_V0 (hC : Ct Γ d1 M1 mc ms (.ref b :: As) E n P1 X0) (lk : LkV M.1 ix M1 k) (hk : As.length = k) (hr : Rcv Γ E b M1.1) (hd : d1 + 1 ≤ d) (hrest : (rest.map fun v => v.category).sum ≤ 8) (hst : st = As.reverse ++ .ref b :: rest) (dg : decode M.2.2.1 pc = .ok (.invokevirtual ix, 3)) (hv : ∀ v E1 n1, P1 v E1 n1 → v = none)
    (kk : ∀ E1 n1, P1 none E1 n1 → G Γ d M P X (pc + 3) lv rest E1 n1 kc ks) : G Γ d M P X pc lv st E n (kc + mc) (ks + ms) := g_invV hC lk hk hr hd hrest hst dg (fun _ _ _ h => h.elim) (fun v E1 n1 h => by have e := hv v E1 n1 h; subst e; exact kk E1 n1 h)
theorem gx_Vi (hC : Ct Γ d1 M1 mc ms (.ref b :: As) E n P1 X0) (lk : LkV M.1 ix M1 k) (hk : As.length = k) (hr : Rcv Γ E b M1.1) (hd : d1 + 1 ≤ d) (hrest : (rest.map fun v => v.category).sum ≤ 8) (hst : st = As.reverse ++ .ref b :: rest) (dg : decode M.2.2.1 pc = .ok (.invokevirtual ix, 3)) (hv : ∀ v E1 n1, P1 v E1 n1 → ∃ x, v = some (.int x))
    (kk : ∀ x E1 n1, P1 (some (.int x)) E1 n1 → G Γ d M P X (pc + 3) lv (.int x :: rest) E1 n1 kc ks) : G Γ d M P X pc lv st E n (kc + mc) (ks + ms) := g_invV hC lk hk hr hd hrest hst dg (fun _ _ _ h => h.elim) (fun v E1 n1 h => by obtain ⟨x, e⟩ := hv v E1 n1 h; subst e; exact kk x E1 n1 h)
end
end GPURE3
