/-! the class and the reference side by side -/
section GREL
/-- the law's answer -/
def lgE (Γ : Gm) (g : Nat → Int64) : va_E := .inl (gA Γ 3, 1, .inr (.inl g))
def PIo (I : Nat → Int32) : Prop := ∃ s : PS, I = pI I s ∧ s.2.2.2.1 < 2 ^ 31 ∧ s.2.2.2.2.2 ≤ 600
def RH (Γ : Gm) (B : Nat) (S : Hp) (f : Nat → Int32) (R : Hr) : Prop := ∃ c, Rp Γ S f c R ∧ Val B f c
def rIn (q : CQ) (I a : Nat → Int32) : Prop := q_im q ≤ 600 ∧ I 14 = nI (q_im q) ∧ ∀ j, j < q_im q → q_inp q j = a j
def rEr (q : CQ) (I : Nat → Int32) : Prop := I 17 = q_rk q ∧ I 18 = q_ro q
def rHi (Γ : Gm) (B : Nat) (S : Hp) (q : CQ) (I a : Nat → Int32) : Prop := q_kp q ≤ 10 ∧ q_ol q < 10 ∧ I 6 = nI (q_kp q) ∧ ∀ j, j < q_kp q → RH Γ B S (rowO a j) (q_Q q (3 + (q_ol q + j) % 10))
def rSv (Γ : Gm) (B : Nat) (S : Hp) (q : CQ) (I a : Nat → Int32) : Prop := (∃ b, b < 4 ∧ I 8 = nI b) ∧ ∀ s, s < 2 → ((I 8 >>> (nI s &&& 31)) &&& nI 1 = q_sv q s) ∧ (q_sv q s = nI 0 ∨ (q_sv q s = nI 1 ∧ RH Γ B S (rowO a s) (q_Q q (13 + s))))
def rOu (q : CQ) (I a : Nat → Int32) : Prop := q_om q ≤ 34 ∧ I 16 = nI (q_om q) ∧ ∀ j, j < q_om q → q_ob q j = a j
def rMi (Γ : Gm) (S : Hp) (q : CQ) (I a : Nat → Int32) : Prop := Hok Γ S (q_Q q 0) ∧ (∀ i, i < 15 → Wf (q_Q q i)) ∧ a = kyF ∧ I 11 = -1 ∧ PIo I
def RV (Γ : Gm) (B : Nat) (S : Hp) (q : CQ) (I : Nat → Int32) (A : Nat → Nat → Int32) (f : Nat → Int32) : Prop :=
  rIn q I (A 8) ∧ rEr q I ∧ RH Γ B S f (q_Q q 1) ∧ rHi Γ B S q I (A 4) ∧ rSv Γ B S q I (A 5) ∧ rOu q I (A 9) ∧ rMi Γ S q I (A 0)
variable {Γ : Gm} {B B2 t d7 d8 mc ms ab mo n n2 k k0 : Nat} {S S2 E E2 : Hp} {q q2 : CQ} {I I2 : Nat → Int32} {A A2 : Nat → Nat → Int32} {f f2 : Nat → Int32} {R : Hr} {M7 M8 : Mr} {As Bs : List Value} {hs : List String}
theorem PIo.eq (h : PIo I) (e : ∀ j, 20 ≤ j → I2 j = I j) : PIo I2 := by
  obtain ⟨s, h1, h2, h3⟩ := h
  refine ⟨s, ?_, h2, h3⟩
  funext i
  have h4 := congrFun h1 i
  unfold pI at *
  repeat' split
  · rename_i z; subst z; rw [e _ (by omega), h4]; exact if_pos rfl
  · rename_i z; subst z; rw [e _ (by omega), h4]; rfl
  · rename_i z; subst z; rw [e _ (by omega), h4]; rfl
  · rename_i z; subst z; rw [e _ (by omega), h4]; rfl
  · rename_i z; subst z; rw [e _ (by omega), h4]; rfl
  · rename_i z; subst z; rw [e _ (by omega), h4]; rfl
  · rfl
theorem PIo.u {j : Nat} {x : Int32} (h : PIo I) (hj : j < 20) : PIo (upd I j x) := h.eq (fun i hi => pk_un (by omega))
theorem RH.le (h : RH Γ B S f R) (hb : B ≤ B2) : RH Γ B2 S f R := by
  obtain ⟨c, h1, h2⟩ := h
  exact ⟨c, h1, h2.le hb⟩
theorem RH.mono (h : RH Γ B S f R) (e : ∀ a, Le S S2 a) : RH Γ B S2 f R := by
  obtain ⟨c, h1, h2⟩ := h
  exact ⟨c, h1.mono e, h2⟩
theorem Val.congr {g : Nat → Int32} {c : Nat} (h : Val B f c) (e : ∀ j, j < 205 → g j = f j) : Val B g c := by
  obtain ⟨h1, h2, h3, h4, h5⟩ := h
  refine ⟨(e 7 (by decide)).trans h1, h2, fun k hk => (h3 k hk).of (e _ (by omega)) (e _ (by omega)) (fun v hv => e _ (by omega)), h4.of (e _ (by decide)) (e _ (by decide)) (fun v hv => e _ (by omega)) (e _ (by decide)), h5.of (fun k hk => e _ (by omega))⟩
theorem RH.congr {g : Nat → Int32} (h : RH Γ B S f R) (e : ∀ j, j < 205 → g j = f j) : RH Γ B S g R := by
  obtain ⟨c, h1, h2⟩ := h
  exact ⟨c, h1.congr (fun j hj => e j (by have := h1.2.1; omega)), h2.congr e⟩
theorem rHi.le (h : rHi Γ B S q I f) (hb : B ≤ B2) (e : ∀ a, Le S S2 a) : rHi Γ B2 S2 q I f := ⟨h.1, h.2.1, h.2.2.1, fun j hj => ((h.2.2.2 j hj).le hb).mono e⟩
theorem rSv.le (h : rSv Γ B S q I f) (hb : B ≤ B2) (e : ∀ a, Le S S2 a) : rSv Γ B2 S2 q I f := ⟨h.1, fun s hs => ⟨(h.2 s hs).1, (h.2 s hs).2.imp id (fun z => ⟨z.1, (z.2.le hb).mono e⟩)⟩⟩
theorem RV.le (h : RV Γ B S q I A f) (hb : B ≤ B2) : RV Γ B2 S q I A f := ⟨h.1, h.2.1, h.2.2.1.le hb, h.2.2.2.1.le hb (fun _ _ z => z), h.2.2.2.2.1.le hb (fun _ _ z => z), h.2.2.2.2.2⟩
/-- other whole numbers than those that count -/
theorem RV.io (h : RV Γ B S q I A f) (e : ∀ j, j ≠ 2 → j ≠ 12 → j ≠ 19 → I2 j = I j) : RV Γ B S q I2 A f := by
  obtain ⟨h1, h2, h3, h4, h5, h6, h7⟩ := h
  have e8 := e 8 (by decide) (by decide) (by decide)
  refine ⟨⟨h1.1, (e 14 (by decide) (by decide) (by decide)).trans h1.2.1, h1.2.2⟩, ⟨(e 17 (by decide) (by decide) (by decide)).trans h2.1, (e 18 (by decide) (by decide) (by decide)).trans h2.2⟩, h3, ⟨h4.1, h4.2.1, (e 6 (by decide) (by decide) (by decide)).trans h4.2.2.1, h4.2.2.2⟩, ?_, ⟨h6.1, (e 16 (by decide) (by decide) (by decide)).trans h6.2.1, h6.2.2⟩, ⟨h7.1, h7.2.1, h7.2.2.1, (e 11 (by decide) (by decide) (by decide)).trans h7.2.2.2.1, h7.2.2.2.2.eq (fun j hj => e j (by omega) (by omega) (by omega))⟩⟩
  unfold rSv; rw [e8]; exact h5
theorem RV.u2 {x : Int32} (h : RV Γ B S q I A f) : RV Γ B S q (upd I 2 x) A f := h.io (fun j a _ _ => pk_un a)
theorem RV.si (h : RV Γ B S q I A f) (hi : Si I I2) : RV Γ B S q I2 A f := h.io (fun j a b c => by
  by_cases e : j = 11
  · subst e; rw [hi.2.1, h.2.2.2.2.2.2.2.2.2.1]
  · exact hi.2.2 j a e b)
theorem RV.sc (h : RV Γ B S q I A f) (e : Sc3 A A2) : RV Γ B S q I A2 f := by
  unfold RV
  rw [e 8 (by decide) (by decide) (by decide), e 4 (by decide) (by decide) (by decide), e 5 (by decide) (by decide) (by decide), e 9 (by decide) (by decide) (by decide), e 0 (by decide) (by decide) (by decide)]
  exact h
theorem RV.row (h : RV Γ B S q I A f) : ∃ c, Rp Γ S f c (q_Q q 1) ∧ Val B f c := h.2.2.1
/-- places -/
def Sep (ab mo n : Nat) (S : Hp) (q : CQ) : Prop := ab + 642 ≤ mo ∧ mo + 12 ≤ n ∧ (q_lv q < mo ∨ mo + 12 ≤ q_lv q) ∧ (q_ov q < mo ∨ mo + 12 ≤ q_ov q) ∧ ∀ a v, S a = some v → a < mo ∨ mo + 12 ≤ a
theorem CA.away (h : CA Γ ab n S E q) (hs : Sep ab mo n S q) (e : ∀ a, ¬ (mo ≤ a ∧ a < mo + 12) → E2 a = E a) : CA Γ ab n S E2 q := by
  obtain ⟨s1, s2, s3, s4, s5⟩ := hs
  have hb := h.bd
  have hx : ∀ a, a < ab + 642 → E2 a = E a := fun a ha => e a (by omega)
  refine ⟨(hx _ (by omega)).trans h.co, (hx _ (by omega)).trans h.ii, h.oo.of (hx _ (by omega)) (e _ (by show ¬ (mo ≤ q_ov q ∧ q_ov q < _); omega)), (hx _ (by omega)).trans h.pp, (hx _ (by omega)).trans h.tt, h.ll.of (hx _ (by omega)) (e _ (by show ¬ (mo ≤ q_lv q ∧ q_lv q < _); omega)), (hx _ (by omega)).trans h.hi, (hx _ (by omega)).trans h.ha, (hx _ (by omega)).trans h.sv, (hx _ (by omega)).trans h.sz, fun i hi j hj => ?_, fun a v hv => ?_, hb⟩
  · have hr := hh_in (ab := ab) hi
    exact (hx _ (by omega)).trans (h.qq i hi j hj)
  · have hz := h.st a v hv
    exact ⟨(e a (by have := s5 a v hv; omega)).trans hz.1, hz.2⟩
theorem CA.up (h : CA Γ ab n S E q) (hn : n ≤ n2) : CA Γ ab n2 S E q := by
  have hb := h.bd
  exact ⟨h.co, h.ii, h.oo, h.pp, h.tt, h.ll, h.hi, h.ha, h.sv, h.sz, h.qq, fun a v hv => by have hz := h.st a v hv; exact ⟨hz.1, hz.2.1, by omega, hz.2.2.2⟩, by omega⟩
theorem Sep.up (h : Sep ab mo n S q) (hn : n ≤ n2) : Sep ab mo n2 S q := ⟨h.1, by have := h.2.1; omega, h.2.2⟩
theorem MW_o {F : Hp} {a : Nat} (h : ¬ (mo ≤ a ∧ a < mo + 11)) : MW Γ mo F I A f a = F a := by
  unfold MW
  rw [if_neg (by omega), if_neg (by omega), if_neg (by omega), if_neg (by omega), if_neg (by omega), if_neg (by omega), if_neg (by omega), if_neg (by omega), if_neg (by omega), if_neg (by omega), if_neg (by omega)]
theorem MW_in {F F2 : Hp} {a : Nat} (h : mo ≤ a ∧ a < mo + 11) : MW Γ mo F I A f a = MW Γ mo F2 I A f a := by
  unfold MW
  repeat (refine ite_congr rfl (fun _ => rfl) (fun _ => ?_))
  exfalso; omega
theorem MW_to (h : E = MW Γ mo E I A f) (e : ∀ a, mo ≤ a → a < mo + 11 → E2 a = E a) : E2 = MW Γ mo E2 I A f := by
  funext a
  by_cases z : mo ≤ a ∧ a < mo + 11
  · rw [e a z.1 z.2, MW_in (F2 := E) z, ← h]
  · rw [MW_o z]
/-- class and reference, after t calls; k what the reference has thrown -/
def IVo (Γ : Gm) (ab mo k t : Nat) (E : Hp) (n : Nat) : Prop := ∃ S q I A f, CA Γ ab n S E q ∧ E = MW Γ mo E I A f ∧ (∃ g, E (mo + 11) = some (lgE Γ g)) ∧ Sep ab mo n S q ∧ RV Γ (2000000 + 10000 * t) S q I A f ∧ I 2 = nI k
/-- a contract whose ends may be read more widely -/
def CtW (Γ : Gm) (d : Nat) (M : Mr) (mc ms : Nat) (av : List Value) (E : Hp) (n : Nat) (P : Po) (X : Px) : Prop := ∃ P1 X1, Ct Γ d M mc ms av E n P1 X1 ∧ (∀ r E2 n2, P1 r E2 n2 → P r E2 n2) ∧ ∀ y E2 n2, X1 y E2 n2 → X y E2 n2
/-- the reference's part is to come -/
def Pre (Γ : Gm) (ab mo t k : Nat) (K : Option Value → Prop) (M8 : Mr) (Bs : List Value) (E2 : Hp) (n2 : Nat) : Prop := (∃ g, E2 (mo + 11) = some (lgE Γ g)) ∧ (∃ fs, E2 mo = some (.inr (11, fs))) ∧ ∀ g n', n2 ≤ n' → ∃ d8, d8 ≤ 13 ∧ CtW Γ d8 M8 0 0 (.ref mo :: Bs) (hset E2 (mo + 11) (lgE Γ g)) n' (fun r E3 n3 => n3 = n' ∧ E3 (mo + 11) = some (lgE Γ g) ∧ K r ∧ IVo Γ ab mo k (t + 1) E3 n3) X0
def KI (k : Nat) (x : Int32) : Option Value → Prop := fun r => ∃ b, r = some (.int b) ∧ (k = 0 → b = x)
def KV (v : Value) : Option Value → Prop := fun r => r = some v
theorem Pre.of {K : Option Value → Prop} {P8 : Hp → Nat → Po} (hCA : CA Γ ab n2 S E2 q) (hM : E2 = MW Γ mo E2 I A f) (hg : ∃ g, E2 (mo + 11) = some (lgE Γ g)) (hs : Sep ab mo n2 S q) (hd8 : d8 ≤ 13) (hc : ∀ F n, Ct Γ d8 M8 0 0 (.ref mo :: Bs) (MW Γ mo F I A f) n (P8 F n) X0)
    (hp : ∀ F n r E3 n3, P8 F n r E3 n3 → n3 = n ∧ K r ∧ ∃ I2 A2 f2, E3 = MW Γ mo F I2 A2 f2 ∧ RV Γ (2000000 + 10000 * (t + 1)) S q I2 A2 f2 ∧ I2 2 = nI k) : Pre Γ ab mo t k K M8 Bs E2 n2 := by
  refine ⟨hg, ⟨_, (congrFun hM mo).trans MW_0⟩, fun g n' hn => ?_⟩
  have hW : hset E2 (mo + 11) (lgE Γ g) = MW Γ mo (hset E2 (mo + 11) (lgE Γ g)) I A f := MW_to hM (fun a h1 h2 => hset_n (by omega))
  have h0 := hc (hset E2 (mo + 11) (lgE Γ g)) n'
  rw [← hW] at h0
  refine ⟨d8, hd8, _, _, h0, fun r E3 n3 h => ?_, fun _ _ _ h => h⟩
  obtain ⟨e1, h2, I2, A2, f2, rfl, h3, h4⟩ := hp _ _ _ _ _ h
  refine ⟨e1, (MW_o (by omega)).trans hset_s, h2, S, q, I2, A2, f2, ?_, ?_, ⟨g, (MW_o (by omega)).trans hset_s⟩, ?_, h3, h4⟩
  · have h5 := (hCA.up (n2 := n3) (by omega)).away (hs.up (by omega)) (E2 := MW Γ mo (hset E2 (mo + 11) (lgE Γ g)) I2 A2 f2) (fun a ha => (MW_o (by omega)).trans (hset_n (by omega)))
    exact h5
  · funext a
    by_cases z : mo ≤ a ∧ a < mo + 11
    · exact MW_in z
    · exact (MW_o z).symm
  · exact hs.up (by omega)
theorem Pre.rt {b x : Int32} (hCA : CA Γ ab n2 S E2 q) (hM : E2 = MW Γ mo E2 I A f) (hg : ∃ g, E2 (mo + 11) = some (lgE Γ g)) (hs : Sep ab mo n2 S q) (hd8 : d8 ≤ 13) (hc : ∀ F n, Ct Γ d8 M8 0 0 (.ref mo :: Bs) (MW Γ mo F I A f) n (Rt (some (.int b)) (MW Γ mo F I2 A2 f2) n) X0) (hb : k = 0 → b = x) (hr : RV Γ (2000000 + 10000 * (t + 1)) S q I2 A2 f2) (hk : I2 2 = nI k) : Pre Γ ab mo t k (KI k x) M8 Bs E2 n2 :=
  Pre.of hCA hM hg hs hd8 hc (fun F n r E3 n3 h => by obtain ⟨rfl, rfl, rfl⟩ := h; exact ⟨rfl, ⟨b, rfl, hb⟩, I2, A2, f2, rfl, hr, hk⟩)
/-- one call of the class, the reference's to come -/
def OPk (Γ : Gm) (ab mo t : Nat) (M7 : Mr) (hs : List String) (M8 : Mr) (As : List Value) (E : Hp) (n : Nat) : Prop := ∃ d7 mc ms, d7 ≤ 13 ∧ mc ≤ 330 ∧ ms ≤ 10200 ∧ CtW Γ d7 M7 mc ms (.ref ab :: As) E n (fun r E2 n2 => ∃ x, r = some (.int x) ∧ Pre Γ ab mo t 0 (KI 0 x) M8 As E2 n2) (fun y E2 n2 => ∃ j, hs[j]? = some y ∧ Pre Γ ab mo t (j + 1) (KI (j + 1) 0) M8 As E2 n2)
def IVd (Γ : Gm) (ab mo t : Nat) (S : Hp) (q : CQ) (I : Nat → Int32) (A : Nat → Nat → Int32) (f : Nat → Int32) (E : Hp) (n : Nat) : Prop := CA Γ ab n S E q ∧ E = MW Γ mo E I A f ∧ (∃ g, E (mo + 11) = some (lgE Γ g)) ∧ Sep ab mo n S q ∧ RV Γ (2000000 + 10000 * t) S q I A f
theorem IVo.d (h : IVo Γ ab mo k t E n) : ∃ S q I A f, IVd Γ ab mo t S q I A f E n := by
  obtain ⟨S, q, I, A, f, h1, h2, h3, h4, h5, -⟩ := h
  exact ⟨S, q, I, A, f, h1, h2, h3, h4, h5⟩
theorem RV.nxt (h : RV Γ (2000000 + 10000 * t) S q I A f) : RV Γ (2000000 + 10000 * (t + 1)) S q I A f := h.le (by omega)
/-- nothing changes -/
theorem op_ro {x b : Int32} (h : IVd Γ ab mo t S q I A f E n) (hc7 : Ct Γ d7 M7 mc ms (.ref ab :: As) E n (Rt (some (.int x)) E n) X0) (hc8 : ∀ F n, Ct Γ d8 M8 0 0 (.ref mo :: As) (MW Γ mo F I A f) n (Rt (some (.int b)) (MW Γ mo F (upd I 2 (nI 0)) A f) n) X0) (hb : b = x) (hd7 : d7 ≤ 13 := by decide) (hd8 : d8 ≤ 13 := by decide) (hmc : mc ≤ 330 := by decide) (hms : ms ≤ 10200 := by decide) : OPk Γ ab mo t M7 hs M8 As E n := by
  obtain ⟨h1, h2, h3, h4, h5⟩ := h
  refine ⟨d7, mc, ms, hd7, hmc, hms, _, _, hc7, fun r E2 n2 z => ?_, fun _ _ _ z => z.elim⟩
  obtain ⟨rfl, rfl, rfl⟩ := z
  exact ⟨x, rfl, Pre.rt h1 h2 h3 h4 hd8 hc8 (fun _ => hb) (RV.nxt h5).u2 pk_us⟩
/-- what is refused -/
theorem op_no {b : Int32} {y : String} {j : Nat} (h : IVd Γ ab mo t S q I A f E n) (hj : hs[j]? = some y) (hc7 : Ct Γ d7 M7 mc ms (.ref ab :: As) E n PNo (Xe y E n)) (hc8 : ∀ F n, Ct Γ d8 M8 0 0 (.ref mo :: As) (MW Γ mo F I A f) n (Rt (some (.int b)) (MW Γ mo F (upd I 2 (nI (j + 1))) A f) n) X0) (hd7 : d7 ≤ 13 := by decide) (hd8 : d8 ≤ 13 := by decide) (hmc : mc ≤ 330 := by decide) (hms : ms ≤ 10200 := by decide) : OPk Γ ab mo t M7 hs M8 As E n := by
  obtain ⟨h1, h2, h3, h4, h5⟩ := h
  refine ⟨d7, mc, ms, hd7, hmc, hms, _, _, hc7, fun _ _ _ z => z.elim, fun y2 E2 n2 z => ?_⟩
  obtain ⟨rfl, rfl, rfl⟩ := z
  exact ⟨j, hj, Pre.rt h1 h2 h3 h4 hd8 hc8 (fun z => absurd z (by omega)) (RV.nxt h5).u2 pk_us⟩
theorem lod_of {x : Int32} {c : Nat} (hc : c ≤ 600) (h : nI 0 ≤ x ∧ x ≤ nI c - nI 1) : ∃ k, k < c ∧ x = nI k := by
  obtain ⟨p, hp, rfl⟩ := nI_of (Int32.not_lt.mpr h.1)
  rcases c with _ | c
  · exact absurd h.2 (by
      intro z
      have z2 := Int32.le_trans h.1 z
      exact absurd z2 (by decide))
  · rw [pk_sub (by omega), Nat.add_sub_cancel] at h
    exact ⟨p, by have := (nI_leI hp (by omega)).mp h.2; omega, rfl⟩
theorem rng_of {x : Int32} {a b : Nat} (hb : b < 2 ^ 31) (ha : a < 2 ^ 31) (h : nI a ≤ x ∧ x ≤ nI b) : ∃ k, a ≤ k ∧ k ≤ b ∧ x = nI k := by
  obtain ⟨p, hp, rfl⟩ := nI_of (Int32.not_lt.mpr (Int32.le_trans (nI_le (Nat.zero_le a) ha) h.1))
  exact ⟨p, (nI_leI ha hp).mp h.1, (nI_leI hp hb).mp h.2, rfl⟩
theorem IVd.les (h : IVd Γ ab mo t S q I A f E n) : ∀ a, Le S (HW Γ (ab + 50) E (q_Q q 1)) a := fun a v hv => by
  rw [← h.1.h1.eq]; exact h.1.le a v hv
end GREL
