/-! the class in the law: the house f of c lodgers, kp changes kept (top: the last of them), slot s0 holds g0 -/
section GIWD
variable {Γ : Gm} {ab ra B B2 D D2 s0 c c2 k kp n n2 : Nat} {g0 f g : Nat → Int32} {top : Option (Nat → Int32)} {E E2 E3 S S2 : Hp} {q q2 : CQ} {I I2 : Nat → Int32} {A A2 : Nat → Nat → Int32} {P2 R2 : Hr}
theorem RV.st (h : RV Γ B S q I A f) (e : ∀ a, Le S S2 a) : RV Γ B S2 q I A f := ⟨h.1, h.2.1, h.2.2.1.mono e, h.2.2.2.1.le (Nat.le_refl B) e, h.2.2.2.2.1.le (Nat.le_refl B) e, h.2.2.2.2.2.1, h.2.2.2.2.2.2.1.mono e, h.2.2.2.2.2.2.2⟩
/-- what the law asks of a row: accounts that are even, not too late a day -/
def Gd (D : Nat) (f : Nat → Int32) (c : Nat) : Prop := f 7 = nI c ∧ c ≤ 12 ∧ ldN f c = 0 ∧ ∃ dy, dy ≤ D ∧ f 8 = nI dy
theorem Gd.le (h : Gd D f c) (hD : D ≤ D2) : Gd D2 f c := ⟨h.1, h.2.1, h.2.2.1, by obtain ⟨dy, h1, h2⟩ := h.2.2.2; exact ⟨dy, by omega, h2⟩⟩
theorem Gd.congr (h : Gd D f c) (e : ∀ j, j < 205 → g j = f j) : Gd D g c := ⟨(e 7 (by decide)).trans h.1, h.2.1, (ldN_c (e 12 (by decide)) (e 10 (by decide)) (e 11 (by decide)) (fun k hk => e _ (by have := h.2.1; omega))).trans h.2.2.1, by obtain ⟨dy, h1, h2⟩ := h.2.2.2; exact ⟨dy, h1, (e 8 (by decide)).trans h2⟩⟩
/-- the law's own row of one number -/
def Out1 (Γ : Gm) (ab ra n : Nat) (S E : Hp) (q : CQ) : Prop := (q_im q = 0 ∧ ab + 642 ≤ ra) ∧ ra < n ∧ ra ≠ q_lv q ∧ ra ≠ q_ov q ∧ S ra = none ∧ ∃ x, E ra = some (.inl (gA Γ 0, 1, .inl x))
def His (D kp : Nat) (A : Nat → Nat → Int32) (top : Option (Nat → Int32)) : Prop := (∀ j, j < kp → ∃ c, Gd D (rowO (A 4) j) c) ∧ ∀ t, top = some t → 0 < kp ∧ ∀ j, j < 205 → t j = rowO (A 4) (kp - 1) j
def Sav (D s0 : Nat) (g0 : Nat → Int32) (q : CQ) (A : Nat → Nat → Int32) : Prop := s0 < 2 → q_sv q s0 = nI 1 ∧ (∃ c, Gd D g0 c) ∧ ∀ j, j < 205 → g0 j = rowO (A 5) s0 j
def IW (Γ : Gm) (ab ra B D s0 : Nat) (g0 f : Nat → Int32) (c kp : Nat) (top : Option (Nat → Int32)) (E : Hp) (n : Nat) : Prop := ∃ S q I A, CA Γ ab n S E q ∧ RV Γ B S q I A f ∧ Gd D f c ∧ q_kp q = kp ∧ His D kp A top ∧ Sav D s0 g0 q A ∧ Out1 Γ ab ra n S E q
theorem RV.rowc (h : RV Γ B S q I A f) (h7 : f 7 = nI c) (hc : c ≤ 12) : Rp Γ S f c (q_Q q 1) ∧ Val B f c := by
  obtain ⟨c2, h1, h2⟩ := h.row
  obtain rfl : c2 = c := (nI_eq (by have := h1.2.1; omega) (by omega)).mp (h1.2.2.1.symm.trans h7)
  exact ⟨h1, h2⟩
theorem IW.get (h : IW Γ ab ra B D s0 g0 f c kp top E n) : ∃ S q I A, CA Γ ab n S E q ∧ RV Γ B S q I A f ∧ Rp Γ S f c (q_Q q 1) ∧ Val B f c ∧ Gd D f c ∧ q_kp q = kp ∧ His D kp A top ∧ Sav D s0 g0 q A ∧ Out1 Γ ab ra n S E q := by
  obtain ⟨S, q, I, A, h1, h2, h3, h4⟩ := h
  obtain ⟨h5, h6⟩ := h2.rowc h3.1 h3.2.1
  exact ⟨S, q, I, A, h1, h2, h5, h6, h3, h4⟩
theorem IW.val (h : IW Γ ab ra B D s0 g0 f c kp top E n) : Val B f c := by
  obtain ⟨S, q, I, A, h1, h2, h5, h6, -⟩ := h.get
  exact h6
theorem IW.gd (h : IW Γ ab ra B D s0 g0 f c kp top E n) : Gd D f c := by
  obtain ⟨S, q, I, A, h1, h2, h3, h4⟩ := h
  exact h3
theorem IW.rc (h : IW Γ ab ra B D s0 g0 f c kp top E n) : Rcv Γ E ab RX7 := by
  obtain ⟨S, q, I, A, h1, -⟩ := h
  exact Rcv.of h1.co rfl
theorem IW.rra (h : IW Γ ab ra B D s0 g0 f c kp top E n) : ab + 642 ≤ ra ∧ ra < n ∧ ∃ x, E ra = some (.inl (gA Γ 0, 1, .inl x)) := by
  obtain ⟨S, q, I, A, -, -, -, -, -, -, h1, h2, -, -, -, h3⟩ := h
  exact ⟨h1.2, h2, h3⟩
theorem IW.le (h : IW Γ ab ra B D s0 g0 f c kp top E n) (hB : B ≤ B2) (hD : D ≤ D2) : IW Γ ab ra B2 D2 s0 g0 f c kp top E n := by
  obtain ⟨S, q, I, A, h1, h2, h3, h4, h5, h6, h7⟩ := h
  refine ⟨S, q, I, A, h1, h2.le hB, h3.le hD, h4, ⟨fun j hj => ?_, h5.2⟩, fun hs => ?_, h7⟩
  · obtain ⟨c, z⟩ := h5.1 j hj; exact ⟨c, z.le hD⟩
  · obtain ⟨z1, ⟨c, z2⟩, z3⟩ := h6 hs; exact ⟨z1, ⟨c, z2.le hD⟩, z3⟩
theorem IW.tp0 (h : IW Γ ab ra B D s0 g0 f c kp top E n) : IW Γ ab ra B D s0 g0 f c kp none E n := by
  obtain ⟨S, q, I, A, h1, h2, h3, h4, h5, h6⟩ := h
  exact ⟨S, q, I, A, h1, h2, h3, h4, ⟨h5.1, fun t z => by cases z⟩, h6⟩
theorem CA.fr (h : CA Γ ab n S E q) (hO : Out1 Γ ab ra n S E q) (e : ∀ a, a < n → a ≠ ra → E2 a = E a) (hn : n ≤ n2) : CA Γ ab n2 S E2 q := by
  have hb := h.bd
  obtain ⟨o1, o2, o3, o4, o5, -⟩ := hO
  have hx : ∀ a, a < ab + 642 → E2 a = E a := fun a ha => e a (by omega) (by omega)
  refine ⟨(hx _ (by omega)).trans h.co, (hx _ (by omega)).trans h.ii, h.oo.of (hx _ (by omega)) (e _ hb.2.2.2.2.2 (fun z => o4 z.symm)), (hx _ (by omega)).trans h.pp, (hx _ (by omega)).trans h.tt, h.ll.of (hx _ (by omega)) (e _ hb.2.2.2.2.1 (fun z => o3 z.symm)), (hx _ (by omega)).trans h.hi, (hx _ (by omega)).trans h.ha, (hx _ (by omega)).trans h.sv, (hx _ (by omega)).trans h.sz, fun i hi j hj => ?_, fun a v hv => ?_, by omega⟩
  · have hr := hh_in (ab := ab) hi
    exact (hx _ (by omega)).trans (h.qq i hi j hj)
  · have hz := h.st a v hv
    exact ⟨(e a hz.2.2.1 (fun y => by rw [y, o5] at hv; cases hv)).trans hz.1, hz.2.1, by omega, hz.2.2.2⟩
/-- the law's own things change -/
theorem IW.fr (h : IW Γ ab ra B D s0 g0 f c kp top E n) (e : ∀ a, a < n → a ≠ ra → E2 a = E a) (hx : ∃ x, E2 ra = some (.inl (gA Γ 0, 1, .inl x))) (hn : n ≤ n2) : IW Γ ab ra B D s0 g0 f c kp top E2 n2 := by
  obtain ⟨S, q, I, A, h1, h2, h3, h4, h5, h6, h7⟩ := h
  exact ⟨S, q, I, A, h1.fr h7 e hn, h2, h3, h4, h5, h6, h7.1, Nat.lt_of_lt_of_le h7.2.1 hn, h7.2.2.1, h7.2.2.2.1, h7.2.2.2.2.1, hx⟩
theorem IW.up (h : IW Γ ab ra B D s0 g0 f c kp top E n) (hn : n ≤ n2) : IW Γ ab ra B D s0 g0 f c kp top E n2 := h.fr (fun _ _ _ => rfl) h.rra.2.2 hn
/-- another house in its place -/
theorem IW.q12 {i : Nat} (h1 : CA Γ ab n S E q) (h2 : RV Γ B S q I A f) (h3 : Gd D f c) (h4 : q_kp q = kp) (h5 : His D kp A top) (h6 : Sav D s0 g0 q A) (h7 : Out1 Γ ab ra n S E q) (hi : i = 2 ∨ (i = 1 ∧ RH Γ B S f R2)) (hw : Wf R2) : IW Γ ab ra B D s0 g0 f c kp top (HW Γ (hh ab i) E R2) n := by
  have hi15 : i < 15 := by omega
  have hr := hh_in (ab := ab) hi15
  obtain ⟨o1, o2, o3, o4, o5, x, o6⟩ := h7
  exact ⟨S, qQ q i R2, I, A, h1.setQ hi15, h2.q12 hi hw, h3, h4, h5, h6, o1, o2, o3, o4, o5, x, (HW_o (by omega)).trans o6⟩
theorem rem_le {kp : Nat} (h : kp ≤ 10) : remM kp ≤ 10 := by unfold remM; split <;> omega
theorem rem_pos {kp : Nat} : 0 < remM kp := by unfold remM; split <;> omega
/-- rows that are kept stay good -/
theorem His.rem (h : His D kp A top) (hk : kp ≤ 10) (hf : Gd D f c) : His D (remM kp) (updA A 4 (remO (A 4) f kp)) (some f) := by
  have e4 : updA A 4 (remO (A 4) f kp) 4 = remO (A 4) f kp := updA_s
  refine ⟨fun j hj => ?_, fun t ht => ⟨rem_pos, fun j hj => ?_⟩⟩
  · rw [e4]
    by_cases e : j = remM kp - 1
    · subst e; exact ⟨c, hf.congr (fun i hi => remO_l hk hi)⟩
    · by_cases z : kp = 10
      · subst z
        obtain ⟨c2, h2⟩ := h.1 (j + 1) (by unfold remM at hj e; rw [if_pos rfl] at hj e; omega)
        exact ⟨c2, h2.congr (fun i hi => remO_10 (by unfold remM at hj e; rw [if_pos rfl] at hj e; omega) hi)⟩
      · have hj2 : j < kp := by unfold remM at hj e; rw [if_neg z] at hj e; omega
        obtain ⟨c2, h2⟩ := h.1 j hj2
        exact ⟨c2, h2.congr (fun i hi => remO_o z hj2 hi)⟩
  · cases ht
    rw [e4]; exact (remO_l hk hj).symm
/-- a change -/
theorem IW.chg (h1 : CA Γ ab n S E q) (h2 : RV Γ B S q I A f) (h3 : Gd D f c) (hv : Val B f c) (h4 : q_kp q = kp) (h5 : His D kp A top) (h6 : Sav D s0 g0 q A) (h7 : Out1 Γ ab ra n S E q) (hrem : Rem Γ ab n S E q f c P2 E3) (hr2 : RH Γ B2 S g R2) (hg : Gd D2 g c2) (hB : B ≤ B2) (hD : D ≤ D2) : IW Γ ab ra B2 D2 s0 g0 g c2 (remM kp) (some f) (HW Γ (ab + 50) E3 R2) n := by
  have hkp : q_kp q ≤ 10 := h2.2.2.2.1.1
  obtain ⟨o1, o2, o3, o4, o5, x, o6⟩ := h7
  have k1 := hrem.1.setQ (i := 1) (R := R2) (by decide)
  have k2 := hrem.2.2.hw (Γ := Γ) (i := 1) (R := R2) (by decide)
  have h5' : His D2 kp A top := ⟨fun j hj => by obtain ⟨c, z⟩ := h5.1 j hj; exact ⟨c, z.le hD⟩, h5.2⟩
  refine ⟨S, qQ (qR q P2) 1 R2, _, _, k1, (h2.le hB).rem hrem.2.1 (hv.le hB) hr2, hg, ?_, ?_, fun hs => ?_, o1, o2, o3, o4, o5, x, (k2 ra o2 (by omega) o3 o4).trans o6⟩
  · show remM (q_kp q) = _
    rw [h4]
  · rw [h4]; exact h5'.rem (by omega) (h3.le hD)
  · obtain ⟨z1, ⟨c, z2⟩, z3⟩ := h6 hs
    exact ⟨z1, ⟨c, z2.le hD⟩, fun j hj => by rw [z3 j hj, updA_n (by decide)]⟩
end GIWD
