section GPP7
variable {Γ : Gm} {d : Nat} {M : Mr} {P : Po} {X : Px} {pc : Nat} {lv : List (Nat × Value)} {st rest : List Value} {E : Hp} {n kc ks : Nat}
theorem gn_ldcw {ix a : Nat} (hw : Cond.constant M.1 ix (nI a) ∈ wl) (dg : decode M.2.2.1 pc = .ok (.ldc_w ix, 3)) (k : G Γ d M P X (pc + 3) lv (.int (nI a) :: st) E n kc ks) : G Γ d M P X pc lv st E n kc ks := G.goF (fun hF _ _ _ _ k => lv_ldcw hF.1 hF.2.1 hF.2.2.2.1 (hF.2.2.2.2.1 _ hw) dg k) k
/-- five words of bytes -/
def fd5 (inp : Nat → Int32) (m : Nat) (a b c d e : Int32) : Nat → Int32 := fdF (fdF (fdF (fdF (fdF inp m a) (m + 4) b) (m + 4 + 4) c) (m + 4 + 4 + 4) d) (m + 4 + 4 + 4 + 4) e
/-- who is watched: nobody, or one of c lodgers -/
def Wr (c : Nat) (I : Nat → Int32) : Prop := I 11 = -1 ∨ ∃ j, j < c ∧ I 11 = nI j
def Rr (I J : Nat → Int32) : Prop := I 11 = J 11 ∧ (I 11 = -1 → I 12 = J 12)
theorem nI_pr {j : Nat} (h : 0 < j) : nI j - nI 1 = nI (j - 1) := pk_sub h
theorem trk_11 {I f : Nat → Int32} {k : Nat} : trkF I f k 11 = if I 11 = nI k then -1 else if nI k < I 11 then I 11 - nI 1 else I 11 := by
  unfold trkF; split
  · rw [pk_un (by decide), pk_us]
  · split
    · rw [pk_us]
    · rfl
theorem trk_12 {I f : Nat → Int32} {k : Nat} : trkF I f k 12 = if I 11 = nI k then f (13 + 16 * k + 1) else I 12 := by
  unfold trkF; split
  · rw [pk_us]
  · split
    · rw [pk_un (by decide)]
    · rfl
theorem trk_o {I f : Nat → Int32} {k j : Nat} (h : j ≠ 11) (h2 : j ≠ 12) : trkF I f k j = I j := by
  unfold trkF; split
  · rw [pk_un h2, pk_un h]
  · split
    · rw [pk_un h]
    · rfl
theorem Wr.trk {c k : Nat} {I f : Nat → Int32} (h : Wr c I) (hk : k < c) (hc : c ≤ 12) : Wr (c - 1) (trkF I f k) := by
  rcases h with z | ⟨j, hj, z⟩
  · left; rw [trkF_n z (by omega)]; exact z
  · unfold Wr
    rw [trk_11, z]
    by_cases e : j = k
    · subst e; rw [if_pos rfl]; exact Or.inl rfl
    · rw [if_neg (fun y => e ((nI_eq (by omega) (by omega)).mp y))]
      by_cases l : k < j
      · rw [if_pos (nI_lt l (by omega)), nI_pr (by omega)]; exact Or.inr ⟨j - 1, by omega, rfl⟩
      · rw [if_neg (nI_nlt (by omega) (by omega))]; exact Or.inr ⟨j, by omega, rfl⟩
theorem Rr.trk {c k : Nat} {I J f : Nat → Int32} (h : Rr I J) (hw : Wr c I) (hk : k < c) (hc : c ≤ 12) : Rr (trkF I f k) (trkF J f k) := by
  refine ⟨by rw [trk_11, trk_11, ← h.1], fun z => ?_⟩
  rw [trk_12, trk_12, ← h.1]
  rw [trk_11] at z
  by_cases e : I 11 = nI k
  · rw [if_pos e, if_pos e]
  · rw [if_neg e, if_neg e]
    rw [if_neg e] at z
    rcases hw with y | ⟨j, hj, y⟩
    · exact h.2 y
    · exfalso
      by_cases l : nI k < I 11
      · rw [if_pos l, y] at z
        rw [y] at l
        have l2 := (nI_ltI (by omega) (by omega)).mp l
        rw [nI_pr (by omega)] at z
        exact nI_nm1' (by omega) z
      · rw [if_neg l, y] at z; exact nI_nm1' (by omega) z
theorem insM_R : ∀ (m p : Nat) (f I J : Nat → Int32), Okr f (p + m) → Wr (p + m) I → Rr I J → Rr (insM m p f I).2 (insM m p f J).2 ∧ Wr (mny (insM m p f I).1) (insM m p f I).2
  | 0, p, f, I, J, h, hw, hr => ⟨hr, by show Wr (mny f) I; rw [mny_eq h]; exact hw⟩
  | m + 1, p, f, I, J, h, hw, hr => by
    have h12 := h.2.1
    by_cases hM : MustB f p = true
    · rw [insM_t hM, insM_t hM]
      exact insM_R m p _ _ _ (show Okr _ (p + m) from h.gone (k := p) (by omega)) (show Wr (p + m) _ from hw.trk (k := p) (by omega) h12) (hr.trk hw (by omega) h12)
    · rw [insM_f hM, insM_f hM]
      exact insM_R m (p + 1) f I J (by rw [show p + 1 + m = p + (m + 1) by omega]; exact h) (by rw [show p + 1 + m = p + (m + 1) by omega]; exact hw) hr
theorem insM_o : ∀ (m p : Nat) (f I : Nat → Int32) (j : Nat), j ≠ 11 → j ≠ 12 → (insM m p f I).2 j = I j
  | 0, p, f, I, j, h, h2 => rfl
  | m + 1, p, f, I, j, h, h2 => by
    by_cases hM : MustB f p = true
    · rw [insM_t hM, insM_o m p _ _ j h h2, trk_o h h2]
    · rw [insM_f hM, insM_o m (p + 1) _ _ j h h2]
theorem dayM_R {f I J : Nat → Int32} {c : Nat} (h : Okr f c) (hw : Wr c I) (hr : Rr I J) : Rr (dayM f I c).2 (dayM f J c).2 ∧ Wr (mny (dayM f I c).1) (dayM f I c).2 := by
  have hc := dayC_ok h
  unfold dayM; split
  · exact insM_R c 0 _ I J (by rw [Nat.zero_add]; exact hc) (by rw [Nat.zero_add]; exact hw) hr
  · exact ⟨hr, by show Wr (mny (dayC f c)) I; rw [mny_eq hc]; exact hw⟩
theorem dayM_o {f I : Nat → Int32} {c j : Nat} (h : j ≠ 11) (h2 : j ≠ 12) : (dayM f I c).2 j = I j := by
  unfold dayM; split
  · exact insM_o _ _ _ _ j h h2
  · rfl
theorem dysM_R {f I J : Nat → Int32} {c : Nat} (h : Okr f c) (hw : Wr c I) (hr : Rr I J) : ∀ t, Rr (dysM f I t).2 (dysM f J t).2 ∧ Wr (mny (dysM f I t).1) (dysM f I t).2
  | 0 => ⟨hr, by show Wr (mny f) I; rw [mny_eq h]; exact hw⟩
  | t + 1 => by
    obtain ⟨c2, h1, h2⟩ := dysM_ok (I := I) h t
    obtain ⟨r1, r2⟩ := dysM_R h hw hr t
    rw [dysM, dysM]
    have e : (dysM f J t).1 = (dysM f I t).1 := dysM_1 J I t
    rw [e]
    rw [mny_eq h2] at r2 ⊢
    exact dayM_R h2 r2 r1
theorem dysM_o {f I : Nat → Int32} {j : Nat} (h : j ≠ 11) (h2 : j ≠ 12) : ∀ t, (dysM f I t).2 j = I j
  | 0 => rfl
  | t + 1 => by rw [dysM, dayM_o h h2, dysM_o h h2 t]
/-- lodger k is watched -/
def wI (k : Nat) : Nat → Int32 := fun j => if j = 11 then nI k else nI 0
theorem wI_R {I : Nat → Int32} {k : Nat} (hk : k < 2 ^ 31) : Rr (upd I 11 (nI k)) (wI k) := ⟨by rw [pk_us]; exact (if_pos rfl).symm, fun z => by rw [pk_us] at z; exact absurd z (nI_nm1' hk)⟩
theorem Wr.w {I : Nat → Int32} {k c : Nat} (hk : k < c) : Wr c (upd I 11 (nI k)) := Or.inr ⟨k, hk, pk_us⟩
/-- the forecasts' answers, out of a row and who is watched -/
def balR (r : (Nat → Int32) × (Nat → Int32)) : Int32 := if r.2 11 = -1 then r.2 12 else r.1 (13 + 16 * (r.2 11).toNatClampNeg + 1)
def dsR (r : (Nat → Int32) × (Nat → Int32)) : Int32 := if r.2 11 = -1 then -1 else dst (rw5 r.1 (r.2 11).toNatClampNeg) (la5 r.1) 5
def gonB (f : Nat → Int32) (k t : Nat) : Bool := decide ((dysM f (wI k) t).2 11 = -1)
/-- after how many days lodger k is gone, of m more than i -/
def evF (f : Nat → Int32) (k : Nat) : Nat → Nat → Int32
  | 0, i => if gonB f k i = true then nI i else -1
  | m + 1, i => if gonB f k i = true then nI i else evF f k m (i + 1)
theorem evF_t {f : Nat → Int32} {k m i : Nat} (h : gonB f k i = true) : evF f k m i = nI i := by cases m <;> exact if_pos h
theorem evF_f {f : Nat → Int32} {k m i : Nat} (h : ¬ gonB f k i = true) : evF f k (m + 1) i = evF f k m (i + 1) := if_neg h
theorem evF_0 {f : Nat → Int32} {k i : Nat} (h : ¬ gonB f k i = true) : evF f k 0 i = -1 := if_neg h
/-- does lodger k stay with a payment of x, within t days -/
def payx (f : Nat → Int32) (k : Nat) (x : Int32) : Nat → Int32 := upd f (13 + 16 * k + 1) (f (13 + 16 * k + 1) + x)
def styB (f : Nat → Int32) (k : Nat) (x : Int32) (t : Nat) : Bool := !gonB (payx f k x) k t
theorem payx_ok {f : Nat → Int32} {c k : Nat} {x : Int32} (h : Okr f c) : Okr (payx f k x) c := ⟨by unfold payx; rw [pk_un (by omega)]; exact h.1, h.2.1, h.2.2.of fun j _ => by unfold payx; rw [pk_un (by omega)]⟩
def pmt (f : Nat → Int32) (k d : Nat) : Int32 := (f 0 + nI 5 * f (13 + 16 * k)) * nI d - f (13 + 16 * k + 1)
def ptF (f : Nat → Int32) (k t : Nat) : Nat → Nat → Int32
  | 0, _ => -1
  | m + 1, d => if (nI 1 ≤ pmt f k d ∧ pmt f k d ≤ nI 999) ∧ styB f k (pmt f k d) t = true then pmt f k d else ptF f k t m (d + 1)
theorem ptF_t {f : Nat → Int32} {k t m d : Nat} (h : nI 1 ≤ pmt f k d ∧ pmt f k d ≤ nI 999) (h2 : styB f k (pmt f k d) t = true) : ptF f k t (m + 1) d = pmt f k d := if_pos ⟨h, h2⟩
theorem ptF_f {f : Nat → Int32} {k t m d : Nat} (h : ¬ ((nI 1 ≤ pmt f k d ∧ pmt f k d ≤ nI 999) ∧ styB f k (pmt f k d) t = true)) : ptF f k t (m + 1) d = ptF f k t m (d + 1) := if_neg h
def ptR (f : Nat → Int32) (k t : Nat) : Int32 := if styB f k (nI 0) t = true then nI 0 else ptF f k t t 1
theorem dl_eq {f : Nat → Int32} {dy : Nat} (h : f 8 = nI dy) (h2 : dy < 2 ^ 31) : nI 7 - (f 8 - f 8 / nI 7 * nI 7) = nI (7 - dy % 7) := by
  rw [h, pk_rem h2 (by decide) (by decide), pk_sub (by omega)]
/-- whole numbers behind a forecast -/
def Sj (I J : Nat → Int32) : Prop := J 11 = -1 ∧ ∀ j, j ≠ 11 → j ≠ 12 → J j = I j
def Si (I J : Nat → Int32) : Prop := J 2 = nI 0 ∧ J 11 = -1 ∧ ∀ j, j ≠ 2 → j ≠ 11 → j ≠ 12 → J j = I j
theorem Sj.tr {I J K : Nat → Int32} (h : Sj I J) (h2 : Sj J K) : Sj I K := ⟨h2.1, fun j a b => (h2.2 j a b).trans (h.2 j a b)⟩
theorem Sj.dys {I f : Nat → Int32} {k t : Nat} : Sj I (upd (dysM f (upd I 11 (nI k)) t).2 11 (-1)) := ⟨pk_us, fun j a b => by rw [pk_un a, dysM_o a b, pk_un a]⟩
theorem Sj.told {I J : Nat → Int32} (h : Sj I J) : Si I (upd J 2 (nI 0)) := ⟨pk_us, by rw [pk_un (by decide)]; exact h.1, fun j a b c => by rw [pk_un a]; exact h.2 j b c⟩
/-- the row laid aside comes back -/
theorem tk_cp {B o f g : Nat → Int32} (h : B = cpO o f 0 205) : ∀ j, j < 205 → tkO B g 0 205 j = f j := fun j hj => by
  subst h; unfold tkO; rw [if_pos hj, Nat.zero_add]; unfold cpO; rw [if_pos (by omega), Nat.sub_zero]
/-- accounts -/
def ldN (f : Nat → Int32) : Nat → Int32
  | 0 => f 12 - f 10 + f 11
  | k + 1 => ldN f k + f (13 + 16 * k + 1)
/-- a kept row of 205 places -/
abbrev rowO (o : Nat → Int32) (s : Nat) : Nat → Int32 := fun j => o (s * 205 + j)
theorem tk_row {o f : Nat → Int32} {s : Nat} : ∀ j, j < 205 → tkO o f (s * 205) 205 j = rowO o s j := fun j hj => if_pos hj
/-- signs -/
def chr (x : Int32) : Int32 := (x.toUInt32 % 65536).toInt32
theorem chr_v {x : Int32} : vp_nar .char (chr x) = chr x := pk_vc x
/-- letters of lodger k's name behind m signs -/
def wrN (o f : Nat → Int32) (m k : Nat) : Nat → Nat → Int32
  | 0 => o
  | i + 1 => upd (wrN o f m k i) (m + i) (chr (f (13 + 16 * k + 10 + i)))
/-- figures of w, from the p-th of D on -/
def wrD (o : Nat → Int32) (m w D : Nat) : Nat → Nat → Int32
  | 0 => o
  | i + 1 => upd (wrD o m w D i) (m + i) (chr (nI (48 + w / 10 ^ (D - 1 - i) % 10)))
def wrP (o : Nat → Int32) (f : Nat → Int32) (m k : Nat) : Nat → Nat → Int32
  | 0 => o
  | i + 1 => upd (wrP o f m k i) (m + i) (chr (nI 48 + f (13 + 16 * k + 5 + i)))
/-- the number v behind m signs: signs and length -/
def wnO (o : Nat → Int32) (m : Nat) (v : Int32) : Nat → Int32 := if v < 0 then wrD (upd o m (chr (nI 45))) (m + 1) (iabs v).toNatClampNeg (sb_dg (iabs v).toNatClampNeg) (sb_dg (iabs v).toNatClampNeg) else wrD o m (iabs v).toNatClampNeg (sb_dg (iabs v).toNatClampNeg) (sb_dg (iabs v).toNatClampNeg)
def wnM (m : Nat) (v : Int32) : Nat := (if v < 0 then m + 1 else m) + sb_dg (iabs v).toNatClampNeg
theorem sb_dgP {w : Nat} (hw : w < 2 ^ 31) : 10 ^ (sb_dg w - 1) ≤ w ∨ sb_dg w = 1 := by
  unfold sb_dg; (repeat' split) <;> first | exact Or.inr rfl | (left; show _ ≤ w; omega)
theorem sb_dgU {w : Nat} (hw : w < 2 ^ 31) : w < 10 ^ sb_dg w := by
  unfold sb_dg; (repeat' split) <;> first | omega | (show w < _; omega)
end GPP7
