/-! the class's output: its world, its text -/
section GOUT
variable {Γ : Gm} {d : Nat} {M : Mr} {P : Po} {X : Px} {pc : Nat} {lv : List (Nat × Value)} {st rest : List Value} {E : Hp} {n kc ks : Nat}
theorem G.cst (k : (∀ i q, gstrs[i]? = some q → gV Γ i < gB Γ) → (∀ a e, E a = some e → gB Γ ≤ a) → G Γ d M P X pc lv st E n kc ks) : G Γ d M P X pc lv st E n kc ks := by
  intro p e R s m args below meth c Q hF hE H locs cells slots ls h1 h2 h3 h4 h5 h6
  refine k (fun i q hq => ?_) (fun a e ha => (h1 a e ha).2) p e R s m args below meth c Q hF hE H locs cells slots ls h1 h2 h3 h4 h5 h6
  obtain ⟨-, -, -, -, -, -, -, z⟩ := (hF.2.2.2.2.2.1.2.2.2.2.1 i q hq).2.2.2.2
  exact Nat.lt_of_not_le z
end GOUT
section GOUT2
variable {Γ : Gm} {ab n : Nat} {S E : Hp} {q : CQ}
def qO (q : CQ) (v cap cnt : Nat) (b : Nat → Int32) : CQ := (q.1, q.2.1, (v, cap, cnt, b), q.2.2.2)
theorem CA.setO {E2 : Hp} {v2 cap2 cnt2 n2 : Nat} {b2 : Nat → Int32} (h : CA Γ ab n S E q) (hs : SB Γ E2 (ab + 2) v2 cap2 b2 cnt2) (hF : ∀ a, a ≠ ab + 2 → a ≠ q_ov q → a < n → E2 a = E a) (hv : v2 = q_ov q ∨ n ≤ v2) (hn : n ≤ n2) (hl : v2 < n2) : CA Γ ab n2 S E2 (qO q v2 cap2 cnt2 b2) := by
  have hb := h.bd
  have hx : ∀ a, ab ≤ a → a < ab + 642 → a ≠ ab + 2 → a ≠ ab + 3 → E2 a = E a := fun a h1 h2 h3 h4 => hF a h3 (by omega) (by omega)
  refine ⟨(hx _ (by omega) (by omega) (by omega) (by omega)).trans h.co, (hx _ (by omega) (by omega) (by omega) (by omega)).trans h.ii, hs, (hx _ (by omega) (by omega) (by omega) (by omega)).trans h.pp, (hx _ (by omega) (by omega) (by omega) (by omega)).trans h.tt, h.ll.of (hx _ (by omega) (by omega) (by omega) (by omega)) (hF _ (by show q_lv q ≠ _; omega) hb.2.2.2.1 hb.2.2.2.2.1), (hx _ (by omega) (by omega) (by omega) (by omega)).trans h.hi, (hx _ (by omega) (by omega) (by omega) (by omega)).trans h.ha, (hx _ (by omega) (by omega) (by omega) (by omega)).trans h.sv, (hx _ (by omega) (by omega) (by omega) (by omega)).trans h.sz, fun i hi k hk => ?_, fun a v ha => ?_, ?_⟩
  · have hr := hh_in (ab := ab) hi
    exact (hx _ (by omega) (by omega) (by omega) (by omega)).trans (h.qq i hi k hk)
  · obtain ⟨g1, g2, g3, g4, g5⟩ := h.st a v ha
    refine ⟨(hF a (by omega) g5 g3).trans g1, g2, by omega, g4, ?_⟩
    show a ≠ v2
    omega
  · show ab + 642 ≤ n2 ∧ (q_lv q = ab + 49 ∨ ab + 642 ≤ q_lv q) ∧ (v2 = ab + 3 ∨ ab + 642 ≤ v2) ∧ q_lv q ≠ v2 ∧ q_lv q < n2 ∧ v2 < n2
    omega
/-- the class's object, with a text t of cnt signs -/
def Out (Γ : Gm) (ab n : Nat) (S E : Hp) (q : CQ) (cnt : Nat) (t : Nat → Int32) (n2 : Nat) (E2 : Hp) : Prop :=
  ∃ v2 cap2 b2, CA Γ ab n2 S E2 (qO q v2 cap2 cnt b2) ∧ n ≤ n2 ∧ (v2 = q_ov q ∨ n ≤ v2) ∧ (∀ a, a ≠ ab + 2 → a ≠ q_ov q → a < n → E2 a = E a) ∧ ∀ j, j < cnt → b2 j = t j
theorem Out.ini {E2 : Hp} {n2 K cnt : Nat} {B : Nat → Int32} (h : CA Γ ab n S E q) (hp : SBp Γ E n (ab + 2) (q_ov q) K cnt B E2 n2) (hl : ∀ a e, E2 a = some e → a < n2) : Out Γ ab n S E q cnt B n2 E2 := by
  obtain ⟨v2, cap2, b2, h1, -, h3, h4, h5, h6⟩ := hp
  exact ⟨v2, cap2, b2, h.setO h1 h4 h5 h6 (hl _ _ h1.2.1), h6, h5, h4, h3⟩
theorem Out.txt0 {E2 : Hp} {n2 : Nat} {t t2 : Nat → Int32} (h : Out Γ ab n S E q 0 t n2 E2) : Out Γ ab n S E q 0 t2 n2 E2 := by
  obtain ⟨v2, cap2, b2, h1, h2, h3, h4, h5⟩ := h
  exact ⟨v2, cap2, b2, h1, h2, h3, h4, fun j hj => absurd hj (Nat.not_lt_zero j)⟩
theorem Out.step {E1 E2 : Hp} {n1 n2 K cnt cnt2 : Nat} {t B : Nat → Int32} {v1 cap1 : Nat} {b1 : Nat → Int32} (h : CA Γ ab n1 S E1 (qO q v1 cap1 cnt b1)) (hn : n ≤ n1) (hv : v1 = q_ov q ∨ n ≤ v1) (hF : ∀ a, a ≠ ab + 2 → a ≠ q_ov q → a < n → E1 a = E a) (hp : SBp Γ E1 n1 (ab + 2) v1 K cnt2 B E2 n2) (hl : ∀ a e, E2 a = some e → a < n2) (hB : ∀ j, j < cnt2 → B j = t j) : Out Γ ab n S E q cnt2 t n2 E2 := by
  obtain ⟨v2, cap2, b2, h1, -, h3, h4, h5, h6⟩ := hp
  exact ⟨v2, cap2, b2, h.setO h1 h4 h5 h6 (hl _ _ h1.2.1), by omega, by omega, fun a g1 g2 g3 => (h4 a g1 (by omega) (by omega)).trans (hF a g1 g2 g3), fun j hj => (h3 j hj).trans (hB j hj)⟩
theorem CA.ho (h : CA Γ ab n S E q) : E (ab + 50) = some (.inr (6, hoF (ab + 50) (q_Q q 1).1)) := h.h1 0 (by decide)
theorem CA.hl3 (h : CA Γ ab n S E q) : E (ab + 50 + 3) = some (.inl (gA Γ 5, 12, .inr (.inr (.inr (.inr (laF (ab + 50) (hO (q_Q q 1)))))))) := h.h1 3 (by decide)
section
variable {d : Nat} {M : Mr} {P : Po} {X : Px} {pc : Nat} {lv : List (Nat × Value)} {st : List Value} {kc ks : Nat}
theorem ca_aald {k : Nat} (h : CA Γ ab n S E q) (hk : k < 12) {n1 : Nat} (dg : decode M.2.2.1 pc = .ok (.aaload, 1)) (kk : G Γ d M P X (pc + 1) lv (.ref (ab + 50 + 6 + 3 * hO (q_Q q 1) k) :: st) E n1 kc ks) : G Γ d M P X pc lv (.int (nI k) :: .ref (ab + 50 + 3) :: st) E n1 kc ks :=
  g_aald (C := "AccentHouse$Lodger") (t := 5) h.hl3 rfl (vp_in_nI hk (by decide)) dg (by rw [nI_clamp (by omega)]; exact kk)
end
theorem CA.lod {o : Nat} (h : CA Γ ab n S E q) (ho : o < 12) : E (ab + 50 + 6 + 3 * o) = some (.inr (7, loF (ab + 50) o (hN (q_Q q 1) o) (hR (q_Q q 1) o))) := (congrFun h.h1.eq _).trans (HW_l ho)
theorem CA.acc {o : Nat} (h : CA Γ ab n S E q) (ho : o < 12) : E (ab + 50 + 7 + 3 * o) = some (.inr (4, [.ref (ab + 50 + 8 + 3 * o)])) := (congrFun h.h1.eq _).trans (HW_a ho)
theorem CA.pos {o : Nat} (h : CA Γ ab n S E q) (ho : o < 12) : E (ab + 50 + 8 + 3 * o) = some (.inl (gA Γ 0, 5, .inl (hA (q_Q q 1) o))) := (congrFun h.h1.eq _).trans (HW_p ho)
/-- texts -/
theorem wrN_v {o f : Nat → Int32} {m k j : Nat} : ∀ i, wrN o f m k i j = if m ≤ j ∧ j < m + i then chr (f (13 + 16 * k + 10 + (j - m))) else o j
  | 0 => by rw [wrN, if_neg (by omega)]
  | i + 1 => by
    rw [wrN]; unfold upd
    by_cases e : j = m + i
    · subst e; rw [if_pos rfl, if_pos (by omega), Nat.add_sub_cancel_left]
    · rw [if_neg e, wrN_v i]
      by_cases g : m ≤ j ∧ j < m + i
      · rw [if_pos g, if_pos (by omega)]
      · rw [if_neg g, if_neg (by omega)]
theorem wrD_v {o : Nat → Int32} {m w D j : Nat} : ∀ i, wrD o m w D i j = if m ≤ j ∧ j < m + i then chr (nI (48 + w / 10 ^ (D - 1 - (j - m)) % 10)) else o j
  | 0 => by rw [wrD, if_neg (by omega)]
  | i + 1 => by
    rw [wrD]; unfold upd
    by_cases e : j = m + i
    · subst e; rw [if_pos rfl, if_pos (by omega), Nat.add_sub_cancel_left]
    · rw [if_neg e, wrD_v i]
      by_cases g : m ≤ j ∧ j < m + i
      · rw [if_pos g, if_pos (by omega)]
      · rw [if_neg g, if_neg (by omega)]
theorem chr_l {l : Nat} (h : l < 128) : chr (nI l) = nI l := (a7_all l h).2.2.2
/-- a name behind m signs -/
theorem out_nam {f b t o : Nat → Int32} {m k N : Nat} (hb : ∀ j, j < m → b j = o j) (h5 : ∀ i, i < N → t i = f (13 + 16 * k + 10 + i) ∧ ∃ q, 97 ≤ q ∧ q ≤ 122 ∧ f (13 + 16 * k + 10 + i) = nI q) : ∀ j, j < m + N → catF b m t j = wrN o f m k N j := fun j hj => by
  rw [wrN_v]; unfold catF
  by_cases e : j < m
  · rw [if_pos e, if_neg (by omega), hb j e]
  · rw [if_neg e, if_pos (by omega)]
    obtain ⟨h1, p, h2, h3, h4⟩ := h5 (j - m) (by omega)
    rw [h1, h4, chr_l (by omega)]
theorem out_chr {b o : Nat → Int32} {m l : Nat} (hb : ∀ j, j < m → b j = o j) (hl : l < 128) : ∀ j, j < m + 1 → upd b m (nI l) j = upd o m (chr (nI l)) j := fun j hj => by
  unfold upd
  by_cases e : j = m
  · rw [if_pos e, if_pos e, chr_l hl]
  · rw [if_neg e, if_neg e, hb j (by omega)]
theorem out_dig {b o : Nat → Int32} {m w D : Nat} (hb : ∀ j, j < m → b j = o j) : ∀ j, j < m + D → gcF b (m + D) w D j = wrD o m w D D j := fun j hj => by
  rw [wrD_v]; unfold gcF
  by_cases e : j < m
  · rw [if_neg (by omega), if_neg (by omega), hb j e]
  · rw [if_pos (by omega), if_pos (by omega), chr_l (by omega), show m + D - 1 - j = D - 1 - (j - m) by omega]
theorem sb_dg_s {p : Nat} (h : p ≤ 9) : sb_dg p = 1 := by
  have : ∀ p, p ≤ 9 → sb_dg p = 1 := by decide
  exact this p h
/-- a place of the accent behind m signs -/
theorem out_pos {f b o : Nat → Int32} {x : Int32} {m k v : Nat} (hb : ∀ j, j < m + v → b j = wrP o f m k v j) (hx : f (13 + 16 * k + 5 + v) = x) {p : Nat} (hp : p ≤ 9) (hxp : x = nI p) : ∀ j, j < m + v + (0 + 1) → gcS b (m + v) 0 p 1 j = wrP o f m k (v + 1) j := fun j hj => by
  rw [wrP, hx, hxp, nI_add, chr_l (by omega)]
  unfold gcS gcF upd
  rw [if_pos rfl]
  by_cases e : j = m + v
  · subst e; rw [if_pos rfl, if_pos (by omega), show m + v + (0 + 1) - 1 - (m + v) = 0 by omega, Nat.pow_zero, Nat.div_one, Nat.mod_eq_of_lt (by omega)]
  · rw [if_neg e, if_neg (by omega), hb j (by omega)]
/-- a number behind m signs -/
theorem out_num {b o : Nat → Int32} {v : Int32} {m w : Nat} (hb : ∀ j, j < m → b j = o j) (hw : iabs v = nI w) (hw31 : w < 2 ^ 31) : m + ((if v < 0 then 1 else 0) + sb_dg w) = wnM m v ∧ ∀ j, j < wnM m v → gcS b m (if v < 0 then 1 else 0) w (sb_dg w) j = wnO o m v j := by
  unfold wnM wnO
  rw [hw, nI_clamp hw31]
  by_cases e : v < 0
  · rw [if_pos e, if_pos e, if_pos e]
    refine ⟨by omega, fun j hj => ?_⟩
    unfold gcS
    rw [if_neg (by decide)]
    by_cases z : j = m
    · subst z
      rw [wrD_v, if_neg (by omega)]; unfold upd; rw [if_pos rfl, if_pos rfl]
      exact (chr_l (by decide)).symm
    · rw [show upd (gcF b (m + (1 + sb_dg w)) w (sb_dg w)) m (nI 45) j = gcF b (m + (1 + sb_dg w)) w (sb_dg w) j from if_neg z, show m + (1 + sb_dg w) = m + 1 + sb_dg w by omega]
      rw [wrD_v]; unfold gcF upd
      by_cases g : j < m
      · rw [if_neg (by omega), if_neg (by omega), if_neg z, hb j g]
      · rw [if_pos (by omega), if_pos (by omega), chr_l (by omega), show m + 1 + sb_dg w - 1 - j = sb_dg w - 1 - (j - (m + 1)) by omega]
  · rw [if_neg e, if_neg e, if_neg e]
    refine ⟨by omega, fun j hj => ?_⟩
    unfold gcS
    rw [if_pos rfl, Nat.zero_add]
    exact out_dig hb j hj
theorem sb_dg_10 {w : Nat} : sb_dg w ≤ 10 := by
  unfold sb_dg; (repeat' split) <;> decide
theorem Bal.iab {B : Nat} {x : Int32} (h : Bal B x) (hB : B < 2 ^ 31) : ∃ w, w < 2 ^ 31 ∧ iabs x = nI w := by
  by_cases e : x < 0
  · refine ⟨x.toInt.natAbs, ?_, ?_⟩
    · have := h.1; have := h.2; omega
    · unfold iabs
      rw [if_pos e]
      apply Int32.toInt_inj.mp
      have h1 := h.1
      have h2 : x.toInt < 0 := by have := Int32.lt_iff_toInt_lt.mp e; exact this
      rw [Int32.toInt_neg, nI_toInt (by omega)]
      have hz : (2 : Nat) ^ 32 = 4294967296 := by decide
      unfold Int.bmod
      rw [hz]
      show (if (-x.toInt) % ((4294967296 : Nat) : Int) < (((4294967296 : Nat) : Int) + 1) / 2 then (-x.toInt) % ((4294967296 : Nat) : Int) else (-x.toInt) % ((4294967296 : Nat) : Int) - ((4294967296 : Nat) : Int)) = _
      split <;> omega
  · obtain ⟨p, hp, rfl⟩ := nI_of e
    exact ⟨p, hp, by unfold iabs; rw [if_neg e]⟩
/-- the names of a floor -/
theorem wfP_le {f o : Nat → Int32} {fl : Int32} : ∀ k, (wfP f fl o k).2 ≤ 7 * cntA f fl k
  | 0 => Nat.le_refl 0
  | k + 1 => by
    have ih := wfP_le (f := f) (o := o) (fl := fl) k
    have hl := lenN_le (f := f) (k := k)
    by_cases e : f (13 + 16 * k) = fl
    · have ec : cntA f fl (k + 1) = cntA f fl k + 1 := by rw [cntA, if_pos e]
      by_cases z : (wfP f fl o k).2 = 0
      · rw [wfP_0 e z, ec]; show lenN f k ≤ _; omega
      · rw [wfP_1 e z, ec]; show (wfP f fl o k).2 + 1 + lenN f k ≤ _; omega
    · have ec : cntA f fl (k + 1) = cntA f fl k := by rw [cntA, if_neg e]; try rfl
      rw [wfP_n e, ec]; exact ih
theorem wfP_ln {f o : Nat → Int32} {fl : Int32} {k : Nat} : (wfP f fl o k).2 ≤ (wfP f fl o (k + 1)).2 := by
  by_cases e : f (13 + 16 * k) = fl
  · by_cases z : (wfP f fl o k).2 = 0
    · rw [z]; exact Nat.zero_le _
    · rw [wfP_1 e z]; show _ ≤ (wfP f fl o k).2 + 1 + lenN f k; omega
  · rw [wfP_n e]; exact Nat.le_refl _
theorem cntA_mo {f : Nat → Int32} {fl : Int32} : ∀ m k, cntA f fl k ≤ cntA f fl (k + m)
  | 0, k => Nat.le_refl _
  | m + 1, k => by
    refine Nat.le_trans (cntA_mo m k) ?_
    rw [show k + (m + 1) = (k + m) + 1 by omega]
    by_cases e : f (13 + 16 * (k + m)) = fl
    · rw [show cntA f fl (k + m + 1) = cntA f fl (k + m) + 1 by rw [cntA, if_pos e]]; omega
    · rw [show cntA f fl (k + m + 1) = cntA f fl (k + m) by rw [cntA, if_neg e]; try rfl]; exact Nat.le_refl _
end GOUT2
