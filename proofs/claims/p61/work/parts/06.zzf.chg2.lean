/-! one call that changes something -/
section GCH2
variable {Γ : Gm} {B t ab mo n c s d7 d8 mc ms : Nat} {S E : Hp} {q : CQ} {I : Nat → Int32} {A : Nat → Nat → Int32} {f g : Nat → Int32} {R2 : Hr} {M7 M8 : Mr} {As : List Value} {hs : List String}
theorem IVd.hw (h : IVd Γ ab mo t S q I A f E n) : ∀ i, i < 15 → Wf (q_Q q i) := h.2.2.2.2.2.2.2.2.2.2.2.1
theorem IVd.hol (h : IVd Γ ab mo t S q I A f E n) : q_ol q < 10 := h.2.2.2.2.2.2.2.1.2.1
theorem IVd.hkp (h : IVd Γ ab mo t S q I A f E n) : q_kp q ≤ 10 := h.2.2.2.2.2.2.2.1.1
theorem IVd.i6 (h : IVd Γ ab mo t S q I A f E n) : I 6 = nI (q_kp q) := h.2.2.2.2.2.2.2.1.2.2.1
theorem IVd.i11 (h : IVd Γ ab mo t S q I A f E n) : I 11 = -1 := h.2.2.2.2.2.2.2.2.2.2.2.2.2.1
theorem IVd.inn (h : IVd Γ ab mo t S q I A f E n) : rIn q I (A 8) := h.2.2.2.2.1
theorem IVd.out (h : IVd Γ ab mo t S q I A f E n) : rOu q I (A 9) := h.2.2.2.2.2.2.2.2.2.1
theorem IVd.sav (h : IVd Γ ab mo t S q I A f E n) : rSv Γ (2000000 + 10000 * t) S q I (A 5) := h.2.2.2.2.2.2.2.2.1
theorem IVd.mis (h : IVd Γ ab mo t S q I A f E n) : rMi Γ S q I (A 0) := h.2.2.2.2.2.2.2.2.2.2
theorem op_gen {x b : Int32} {P7 : Po} {P8 : Hp → Nat → Po} {Z : Hp → CQ → Prop} (h : IVd Γ ab mo t S q I A f E n) (hc7 : Ct Γ d7 M7 mc ms (.ref ab :: As) E n P7 X0)
    (hp7 : ∀ r E2 n2, P7 r E2 n2 → r = some (.int x) ∧ ∃ S2 q2, CA Γ ab n2 S2 E2 q2 ∧ n ≤ n2 ∧ Frm ab n (q_lv q) (q_ov q) E E2 ∧ (q_lv q2 = q_lv q ∨ n ≤ q_lv q2) ∧ (q_ov q2 = q_ov q ∨ n ≤ q_ov q2) ∧ (∀ a v, S2 a = some v → S a = some v ∨ n ≤ a) ∧ Z S2 q2)
    (hc8 : ∀ F n, Ct Γ d8 M8 0 0 (.ref mo :: As) (MW Γ mo F I A f) n (P8 F n) X0)
    (hp8 : ∀ S2 q2, Z S2 q2 → ∀ F n r E3 n3, P8 F n r E3 n3 → n3 = n ∧ r = some (.int b) ∧ ∃ I2 A2 f2, E3 = MW Γ mo F I2 A2 f2 ∧ RV Γ (2000000 + 10000 * (t + 1)) S2 q2 I2 A2 f2 ∧ I2 2 = nI 0) (hb : b = x) (hd7 : d7 ≤ 13 := by decide) (hd8 : d8 ≤ 13 := by decide) (hmc : mc ≤ 330 := by decide) (hms : ms ≤ 10200 := by decide) : OPk Γ ab mo t M7 hs M8 As E n := by
  refine ⟨d7, mc, ms, hd7, hmc, hms, _, _, hc7, fun r E2 n2 z => ?_, fun _ _ _ z => z.elim⟩
  obtain ⟨rfl, S2, q2, k1, k2, k3, k4, k5, k6, k7⟩ := hp7 r E2 n2 z
  obtain ⟨e1, e2, e3⟩ := h.frm (q2 := q2) (S2 := S2) k3 k2 k4 k5 k6
  exact ⟨x, rfl, Pre.of k1 e1 e2 e3 hd8 hc8 (fun F n r E3 n3 y => by
    obtain ⟨y1, y2, I2, A2, f2, y3, y4, y5⟩ := hp8 S2 q2 k7 F n r E3 n3 y
    exact ⟨y1, ⟨b, y2, fun _ => hb⟩, I2, A2, f2, y3, y4, y5⟩)⟩
/-- remember, then another house -/
theorem op_ch {x b : Int32} {W : Hr → Prop} {P8 : Hp → Nat → Po} (h : IVd Γ ab mo t S q I A f E n) (hr : Rp Γ S f c (q_Q q 1)) (hv : Val (2000000 + 10000 * t) f c)
    (hc7 : Ct Γ d7 M7 mc ms (.ref ab :: As) E n (fun r9 E2 n2 => r9 = some (.int x) ∧ n2 = n ∧ ∃ P2 R2 E3, Rem Γ ab n S E q f c P2 E3 ∧ E2 = HW Γ (ab + 50) E3 R2 ∧ W R2) X0) (hW : ∀ R2, W R2 → RH Γ (2000000 + 10000 * (t + 1)) S g R2)
    (hc8 : ∀ F n, Ct Γ d8 M8 0 0 (.ref mo :: As) (MW Γ mo F I A f) n (P8 F n) X0)
    (hp8 : ∀ F n r E3 n3, P8 F n r E3 n3 → r = some (.int b) ∧ n3 = n ∧ ∃ A2, Sc3 (updA A 4 (remO (A 4) f (q_kp q))) A2 ∧ E3 = MW Γ mo F (upd (upd I 6 (nI (remM (q_kp q)))) 2 (nI 0)) A2 g) (hb : b = x) (hd7 : d7 ≤ 13 := by decide) (hd8 : d8 ≤ 13 := by decide) (hmc : mc ≤ 330 := by decide) (hms : ms ≤ 10200 := by decide) : OPk Γ ab mo t M7 hs M8 As E n := by
  refine op_gen (Z := fun S2 q2 => ∃ P2 R2, S2 = S ∧ q2 = qQ (qR q P2) 1 R2 ∧ Rp Γ S f c P2 ∧ W R2) h hc7 (fun r E2 n2 z => ?_) hc8 (fun S2 q2 z F n r E3 n3 y => ?_) hb hd7 hd8 hmc hms
  · obtain ⟨rfl, rfl, P2, R2, E3, k1, rfl, k2⟩ := z
    exact ⟨rfl, S, qQ (qR q P2) 1 R2, k1.1.setQ (i := 1) (R := R2) (by decide), Nat.le_refl _, k1.2.2.hw (i := 1) (by decide), Or.inl rfl, Or.inl rfl, fun _ _ w => Or.inl w, P2, R2, rfl, rfl, k1.2.1, k2⟩
  · obtain ⟨P2, R2, rfl, rfl, k1, k2⟩ := z
    obtain ⟨y1, y2, A2, y3, y4⟩ := hp8 F n r E3 n3 y
    exact ⟨y2, y1, _, A2, g, y4, ((RV.nxt h.2.2.2.2).rem k1 (hv.le (by omega)) (hW R2 k2)).sc y3, pk_us⟩
theorem rt_ch {b : Int32} {F : Hp} {n3 : Nat} {r : Option Value} {E3 : Hp} {I2 : Nat → Int32} {A2 : Nat → Nat → Int32} (h : Rt (some (.int b)) (MW Γ mo F I2 A2 g) n r E3 n3) : r = some (.int b) ∧ n3 = n ∧ ∃ A3, Sc3 A2 A3 ∧ E3 = MW Γ mo F I2 A3 g := ⟨h.1, h.2.2, A2, Sc3.rf, h.2.1⟩
theorem RH.at {R : Hr} {c2 : Nat} (h : Rp Γ S g c R) (hv : Val B g c2) : RH Γ B S g R := by
  obtain rfl : c = c2 := (nI_eq (by have := h.2.1; omega) (by have := hv.2.1; omega)).mp (h.2.2.1.symm.trans hv.1)
  exact ⟨c, h, hv⟩
/-- another head -/
theorem Val.head (h : Val B f c) (e : ∀ j, 13 ≤ j → g j = f j) (e7 : g 7 = f 7) (hh : Hd B g) : Val B g c := ⟨e7.trans h.1, h.2.1, fun k hk => (h.2.2.1 k hk).of (e _ (by omega)) (e _ (by omega)) (fun v hv => e _ (by omega)), hh, h.2.2.2.2.of (fun k hk => e _ (by omega))⟩
theorem Val.s0 {p : Nat} (h : Val B f c) (hp : p ≤ 50) : Val B (upd f 0 (nI p)) c := h.head (fun j hj => pk_un (by omega)) (pk_un (by decide)) ⟨⟨p, hp, pk_us⟩, by rw [pk_un (by decide)]; exact h.2.2.2.1.2.1, fun v hv => by rw [pk_un (by omega)]; exact h.2.2.2.1.2.2.1 v hv, by rw [pk_un (by decide)]; exact h.2.2.2.1.2.2.2⟩
theorem Val.s1 {p : Nat} (h : Val B f c) (hp : p ≤ 45) : Val B (upd f 1 (nI p)) c := h.head (fun j hj => pk_un (by omega)) (pk_un (by decide)) ⟨by rw [pk_un (by decide)]; exact h.2.2.2.1.1, ⟨p, hp, pk_us⟩, fun v hv => by rw [pk_un (by omega)]; exact h.2.2.2.1.2.2.1 v hv, by rw [pk_un (by decide)]; exact h.2.2.2.1.2.2.2⟩
theorem Val.sL {v p : Nat} (h : Val B f c) (hv : v < 5) (hp : p ≤ 9) : Val B (upd f (2 + v) (nI p)) c := h.head (fun j hj => pk_un (by omega)) (pk_un (by omega)) ⟨by rw [pk_un (by omega)]; exact h.2.2.2.1.1, by rw [pk_un (by omega)]; exact h.2.2.2.1.2.1, fun w hw => by
    by_cases e : w = v
    · subst e; exact ⟨p, hp, pk_us⟩
    · rw [pk_un (by omega)]; exact h.2.2.2.1.2.2.1 w hw, by rw [pk_un (by omega)]; exact h.2.2.2.1.2.2.2⟩
theorem Val.out {k : Nat} (h : Val B f c) (hk : k < c) : Val B (gonF f k c) (c - 1) := by
  have h1 := h.gone hk
  have e : ∀ j, j ≠ 9 → gonF f k c j = upd (gonF f k c) 9 (gonF f k c 9 + nI 1) j := fun j hj => (pk_un hj).symm
  exact h1.head (fun j hj => e j (by omega)) (e 7 (by decide)) (h1.2.2.2.1.of (e 0 (by decide)) (e 1 (by decide)) (fun v hv => e _ (by omega)) (e 8 (by decide)))
theorem Val.on4 {fl bt : Int32} (h : Val B f c) : cntOn f fl bt c ≤ 4 := Nat.le_trans (cntOn_A f fl bt c) (h.2.2.2.2 fl)
theorem Val.adv {J : Nat → Int32} {tt : Nat} {R : Hr} {c2 : Nat} (h : Val (2000000 + 10000 * t) f c) (ht : tt ≤ 100) (h5 : t ≤ 600) (hr : Rp Γ S (dysM f J tt).1 c2 R) : RH Γ (2000000 + 10000 * (t + 1)) S (dysM f J tt).1 R := by
  obtain ⟨c3, -, h2⟩ := val_dys (I := J) h tt (by omega)
  exact RH.at hr (h2.le (by omega))
end GCH2
