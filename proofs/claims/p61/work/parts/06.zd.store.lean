/-! the class's parser: the store of names, newcomers' lines, all lines (pure) -/
noncomputable section GSTO
/-- letters' builder at pb+44, names in S -/
def Pst (Γ : Gm) (pb : Nat) (F S : Hp) (n lv cap : Nat) (b : Nat → Int32) (cnt : Nat) : Prop := SB Γ F (pb + 44) lv cap b cnt ∧ Sto S F (pb + 638) n lv ∧ pb + 45 ≤ lv ∧ pb + 638 ≤ n
/-- the store has grown -/
def Grw (pb : Nat) (F S : Hp) (n lv : Nat) (F2 S2 : Hp) (n2 lv2 : Nat) : Prop := (∀ a, a < n → ¬ (pb ≤ a ∧ a < pb + 45) → a ≠ lv → F2 a = F a) ∧ (lv2 = lv ∨ n ≤ lv2) ∧ n ≤ n2 ∧ (∀ a, Le S S2 a) ∧ (∀ a v, S2 a = some v → S a = some v ∨ n ≤ a)
variable {Γ : Gm} {pb ti e n n1 n2 lv lv1 lv2 cap cnt : Nat} {F F1 F2 S S1 S2 : Hp} {b : Nat → Int32} {t t2 : PT} {R R2 : Hr} {inp f : Nat → Int32} {s s2 : PS} {c : Nat}
theorem Grw.refl : Grw pb F S n lv F S n lv := ⟨fun _ _ _ _ => rfl, Or.inl rfl, Nat.le_refl n, fun _ _ h => h, fun _ _ h => Or.inl h⟩
theorem Grw.trans (h : Grw pb F S n lv F1 S1 n1 lv1) (h2 : Grw pb F1 S1 n1 lv1 F2 S2 n2 lv2) : Grw pb F S n lv F2 S2 n2 lv2 := by
  obtain ⟨a1, a2, a3, a4, a5⟩ := h
  obtain ⟨b1, b2, b3, b4, b5⟩ := h2
  refine ⟨fun a h1 h2 h3 => (b1 a (by omega) h2 (by omega)).trans (a1 a h1 h2 h3), by omega, by omega, fun a v hv => b4 a v (a4 a v hv), fun a v hv => ?_⟩
  rcases b5 a v hv with z | z
  · exact a5 a v z
  · exact Or.inr (by omega)
theorem Pst.txt (h : Pst Γ pb F S n lv cap b cnt) (hg : Grw pb F S n lv F2 S2 n2 lv2) (hti : ti < pb) : F2 ti = F ti := hg.1 ti (by have := h.2.2.2; omega) (by omega) (by have := h.2.2.1; omega)
theorem Pst.sb (h : Pst Γ pb F S n lv cap b cnt) : SB Γ (PW Γ pb ti F e t R) (pb + 44) lv cap b cnt := by
  obtain ⟨⟨⟨ml, h1⟩, h2, h3⟩, -, h5, -⟩ := h
  exact ⟨⟨ml, (PW_o (by omega)).trans h1⟩, (PW_o (by omega)).trans h2, h3⟩
theorem Pst.word {cap2 cnt2 sw w N : Nat} {b2 y : Nat → Int32} {E2 : Hp} (h : Pst Γ pb F S n lv cap b cnt) (h1 : SB Γ E2 (pb + 44) lv2 cap2 b2 cnt2) (h2 : lv2 = lv ∨ n ≤ lv2) (h3 : n ≤ sw) (h4 : n ≤ w) (h5 : sw < n2) (h6 : w < n2) (h7 : lv2 ≠ sw) (h8 : lv2 ≠ w) (h9 : E2 sw = some (.inr (0, [.ref w, .int (nI 0), .int (nI 0), .int (nI 0)]))) (h10 : E2 w = some (.inl (gA Γ 1, N, .inl y))) (h11 : Fx (PW Γ pb ti F e t R) E2 n (pb + 44) lv) (h12 : n ≤ n2) :
    ∃ S2, E2 = PW Γ pb ti E2 e t R ∧ Pst Γ pb E2 S2 n2 lv2 cap2 b2 cnt2 ∧ Grw pb F S n lv E2 S2 n2 lv2 ∧ SF Γ S2 sw w ∧ BA Γ S2 w N y := by
  obtain ⟨g1, g2, g3, g4⟩ := h
  have hfr : ∀ a, a < n → a ≠ pb + 44 → a ≠ lv → E2 a = PW Γ pb ti F e t R a := fun a q1 q2 q3 => h11 a q2 q3 q1
  refine ⟨fun a => if a = sw ∨ a = w then E2 a else S a, PW_of ((hfr _ (by omega) (by omega) (by omega)).trans PW_p) ((hfr _ (by omega) (by omega) (by omega)).trans PW_t) (fun j hj => (hfr _ (by omega) (by omega) (by omega)).trans (HAt.of j hj)), ⟨h1, fun a v hv => ?_, by omega, by omega⟩, ⟨fun a q1 q2 q3 => ?_, h2, h12, fun a v hv => ?_, fun a v hv => ?_⟩, Or.inl ⟨.int (nI 0), .int (nI 0), ?_⟩, Or.inl ?_⟩
  · replace hv : (if a = sw ∨ a = w then E2 a else S a) = some v := hv
    by_cases z : a = sw ∨ a = w
    · rw [if_pos z] at hv
      rcases z with z | z
      · subst z; exact ⟨hv, by omega, h5, fun q => h7 q.symm⟩
      · subst z; exact ⟨hv, by omega, h6, fun q => h8 q.symm⟩
    · rw [if_neg z] at hv
      obtain ⟨k1, k2, k3, k4⟩ := g2 a v hv
      exact ⟨(hfr a k3 (by omega) k4).trans ((PW_o (by omega)).trans k1), k2, by omega, by omega⟩
  · exact (hfr a q1 (by omega) q3).trans (PW_o (by omega))
  · obtain ⟨k1, k2, k3, k4⟩ := g2 a v hv
    show (if a = sw ∨ a = w then E2 a else S a) = some v
    rw [if_neg (by omega)]; exact hv
  · have hv' : (if a = sw ∨ a = w then E2 a else S a) = some v := hv
    by_cases z : a = sw ∨ a = w
    · exact Or.inr (by omega)
    · rw [if_neg z] at hv'; exact Or.inl hv'
  · show (if sw = sw ∨ sw = w then E2 sw else S sw) = _
    rw [if_pos (Or.inl rfl), h9]; rfl
  · show (if w = sw ∨ w = w then E2 w else S w) = _
    rw [if_pos (Or.inr rfl)]; exact h10
/-- a newcomer's line, at its ends -/
theorem rlC_d (h : (rlA inp e f c s).2.2.2.2.1 ≠ 0) : (rlE inp e f c s).2 = rlA inp e f c s := by
  have e1 : rlB inp e f c s = rlA inp e f c s := goP_f h
  have h1 : (rlB inp e f c s).2.2.2.2.1 ≠ 0 := by rw [e1]; exact h
  have e2 : rlC inp e f c s = rlB inp e f c s := by
    show goP inp e (rl6 f (hvP 0 4 (rlB inp e f c s)) (-1) c (hrP 0 4 (rlB inp e f c s))) = _
    rw [hrP_f h1, rl6_d h1, goP_f h1]
  have h2 : (rlC inp e f c s).2.2.2.2.1 ≠ 0 := by rw [e2]; exact h1
  have e3 : rlD inp e f c s = rlC inp e f c s := tn_d h2
  have h3 : (rlD inp e f c s).2.2.2.2.1 ≠ 0 := by rw [e3]; exact h2
  show (acP inp e (rlD inp e f c s) 5).2 = _
  rw [ac_d h3, e3, e2, e1]
theorem rl_12 (h : PRel inp e s t) (h7 : f 7 = nI 12) (hr : Rp Γ S f c R) : PRel inp e (rlP inp e f c s) (flT t 5 t.2.2.2.1) ∧ Rp Γ S (rlF inp e f c s) c R := by
  have e1 : rlP inp e f c s = erP 5 s := by unfold rlP; rw [op_eq, if_pos h7]
  have e2 : rlF inp e f c s = f := by unfold rlF; rw [if_neg (fun z => z.1 h7)]
  rw [e1, e2]; exact ⟨h.fail (by decide) (by decide), hr⟩
theorem rl_dd (h : PRel inp e (rlA inp e f c s) t) (hd : (rlA inp e f c s).2.2.2.2.1 ≠ 0) (h7 : ¬ f 7 = nI 12) (hr : Rp Γ S f c R) : PRel inp e (rlP inp e f c s) t ∧ Rp Γ S (rlF inp e f c s) c R := by
  have e0 := rlC_d hd
  have e1 : rlP inp e f c s = rlA inp e f c s := by unfold rlP; rw [op_eq, if_neg h7, e0]
  have e2 : rlF inp e f c s = f := by unfold rlF; rw [if_neg (fun z => hd (by rw [e0] at z; exact z.2))]
  rw [e1, e2]; exact ⟨h, hr⟩
theorem rl_nm (h : PRel inp e (nxP inp e s) t) (h0 : (nxP inp e s).2.2.2.2.1 = 0) (hp : ¬ (t.2.2.1 = 1 ∧ t.2.2.2.2 - t.2.2.2.1 ≤ 6)) (h7 : ¬ f 7 = nI 12) (hr : Rp Γ S f c R) : PRel inp e (rlP inp e f c s) (flT t 1 t.2.2.2.1) ∧ Rp Γ S (rlF inp e f c s) c R := by
  have e1 : rlA inp e f c s = erP 1 (nxP inp e s) := by
    show rl3 inp f c (nmP (nxP inp e s)) = _
    rw [nm_n h h0 hp, rl3_d (erP_ne (by decide))]
  refine rl_dd (by rw [e1]; exact h.fail (by decide) (by decide)) (by rw [e1]; exact erP_ne (by decide)) h7 hr
theorem rl_dup (h : PRel inp e (nxP inp e s) t) (h0 : (nxP inp e s).2.2.2.2.1 = 0) (hp : t.2.2.1 = 1 ∧ t.2.2.2.2 - t.2.2.2.1 ≤ 6) (hf : ¬ fndF inp f t.2.2.2.1 (t.2.2.2.2 - t.2.2.2.1) c = -1) (h7 : ¬ f 7 = nI 12) (hr : Rp Γ S f c R) : PRel inp e (rlP inp e f c s) (flT t 4 t.2.2.2.1) ∧ Rp Γ S (rlF inp e f c s) c R := by
  obtain ⟨-, -, ⟨h3, h4, -, -⟩, -⟩ := h.live h0
  rw [h3, h4] at hf
  have e1 : rlA inp e f c s = erP 4 (nxP inp e s) := by
    show rl3 inp f c (nmP (nxP inp e s)) = _
    rw [nm_y h h0 hp]
    unfold rl3; rw [op_eq, if_pos ⟨h0, hf⟩]
  refine rl_dd (by rw [e1]; exact h.fail (by decide) (by decide)) (by rw [e1]; exact erP_ne (by decide)) h7 hr
theorem rl_ok (h : PRel inp e (nxP inp e s) t) (h0 : (nxP inp e s).2.2.2.2.1 = 0) (hp : t.2.2.1 = 1 ∧ t.2.2.2.2 - t.2.2.2.1 ≤ 6) (hf : fndF inp f t.2.2.2.1 (t.2.2.2.2 - t.2.2.2.1) c = -1) : rlA inp e f c s = nxP inp e s ∧ PRel inp e (rlB inp e f c s) (stT inp e t) := by
  obtain ⟨-, -, ⟨h3, h4, -, -⟩, -⟩ := h.live h0
  rw [h3, h4] at hf
  have e1 : rlA inp e f c s = nxP inp e s := by
    show rl3 inp f c (nmP (nxP inp e s)) = _
    rw [nm_y h h0 hp]
    unfold rl3; rw [op_eq, if_neg (fun z => z.2 hf)]
  refine ⟨e1, ?_⟩
  show PRel inp e (goP inp e (rlA inp e f c s)) _
  rw [e1]
  have e4 := (h.nm h0).mp hp
  exact h.step (fun _ => by omega)
theorem nmF_at {r w i : Nat} : ∀ n, i < n → nmF f inp r w n (r + i) = inp (w + i)
  | 0, h => absurd h (Nat.not_lt_zero i)
  | n + 1, h => by
    rw [nmF]
    by_cases z : i = n
    · subst z; exact pk_us
    · rw [pk_un (by omega)]; exact nmF_at n (by omega)
theorem nmF_hi {r w i : Nat} : ∀ n, n ≤ i → nmF f inp r w n (r + i) = f (r + i)
  | 0, _ => rfl
  | n + 1, h => by rw [nmF, pk_un (by omega)]; exact nmF_hi n (by omega)
theorem com_n {fl pay : Int32} {a i : Nat} (hi : i < 6) : comF f fl pay a c (13 + 16 * c + 10 + i) = nI 0 := by
  unfold comF; rw [pk_un (by omega)]; unfold cm5; rw [pk_un (by omega), pk_un (by omega), pk_un (by omega), pk_un (by omega), pk_un (by omega)]
  unfold cm4; rw [pk_un (by omega)]; unfold cm3; rw [pk_un (by omega)]; unfold cm2; rw [pk_un (by omega)]; unfold cm1; rw [pk_un (by omega)]; unfold zro; rw [if_pos (by omega)]
theorem rl_end {fl pay a N sw w : Nat} {y : Nat → Int32} (h12 : c < 12) (h7 : ¬ f 7 = nI 12) (hr : Rp Γ S f c R) (hl : (rlE inp e f c s).2.2.2.2.2.1 = 0) (hfl : (rlC inp e f c s).2.2.2.2.1 = 0 → fl = hvP 0 4 (rlB inp e f c s)) (hpay : (rlD inp e f c s).2.2.2.2.1 = 0 → pay = hvP 0 999 (rlC inp e f c s)) (ha : (rlE inp e f c s).2.2.2.2.2.1 = 0 → a = (rlE inp e f c s).1)
    (hs : SF Γ S sw w) (hb : BA Γ S w N y) (hN : N = (rlA inp e f c s).2.2.1 - (rlA inp e f c s).2.1) (hN1 : 1 ≤ N) (hN6 : N ≤ 6) (hy : ∀ i, i < N → y i = inp ((rlA inp e f c s).2.1 + i)) (hlt : ∀ i, i < N → ltB inp ((rlA inp e f c s).2.1 + i) = true) :
    Rp Γ S (rlF inp e f c s) (c + 1) (rcR R sw (nI fl) (nI pay) a c) := by
  have l4 : (rlD inp e f c s).2.2.2.2.1 = 0 := by
    have : ∀ i, (acP inp e (rlD inp e f c s) i).2.2.2.2.2.1 = 0 → (rlD inp e f c s).2.2.2.2.1 = 0 := by
      intro i
      induction i with
      | zero => intro z; exact z
      | succ i ih => intro z; exact ih (tnP_live z).1
    exact this 5 hl
  have l3 : (rlC inp e f c s).2.2.2.2.1 = 0 := (tnP_live l4).1
  have e1 : rlF inp e f c s = nmF (comF f (nI (hvP 0 4 (rlB inp e f c s))) (nI (hvP 0 999 (rlC inp e f c s))) (rlE inp e f c s).1 c) inp (13 + 16 * c + 10) (rlA inp e f c s).2.1 ((rlA inp e f c s).2.2.1 - (rlA inp e f c s).2.1) := by unfold rlF; rw [if_pos ⟨h7, hl⟩]
  rw [e1, ← hfl l3, ← hpay l4, ← ha hl, ← hN]
  refine hr.come h12 ⟨w, N, y, hs, hb, hN1, hN6, fun i hi => ?_, fun i hi hi6 => ?_⟩ (fun j hj => nmF_o N hj)
  · show y i = nmF _ _ _ _ N (13 + 16 * c + 10 + i) ∧ ∃ q, 97 ≤ q ∧ q ≤ 122 ∧ nmF _ _ _ _ N (13 + 16 * c + 10 + i) = nI q
    rw [nmF_at N hi]
    obtain ⟨q, q1, q2, q3⟩ := lt_q (hlt i hi)
    exact ⟨hy i hi, q, q1, q2, q3⟩
  · show nmF _ _ _ _ N (13 + 16 * c + 10 + i) = nI 0
    rw [nmF_hi N hi, com_n hi6]
theorem rl_no (h : PRel inp e (rlE inp e f c s).2 t) (hd : (rlE inp e f c s).2.2.2.2.2.1 ≠ 0) (h7 : ¬ f 7 = nI 12) (hr : Rp Γ S f c R) : PRel inp e (rlP inp e f c s) t ∧ Rp Γ S (rlF inp e f c s) c R := by
  have e1 : rlP inp e f c s = (rlE inp e f c s).2 := by unfold rlP; rw [op_eq, if_neg h7]
  have e2 : rlF inp e f c s = f := by unfold rlF; rw [if_neg (fun z => hd z.2)]
  rw [e1, e2]; exact ⟨h, hr⟩
theorem rlP_e (h7 : ¬ f 7 = nI 12) : rlP inp e f c s = (rlE inp e f c s).2 := by unfold rlP; rw [op_eq, if_neg h7]
/-- the head, cut short -/
theorem hd_no (h : PRel inp e (tsP inp e (rtD inp e s)) t) (hd : (tsP inp e (rtD inp e s)).2.2.2.2.1 ≠ 0) : PRel inp e (lpP inp e (rtE inp e s) 5) t ∧ (lpP inp e (rtE inp e s) 5).2.2.2.2.1 ≠ 0 := by
  have e1 : rtE inp e s = tsP inp e (rtD inp e s) := tw_d hd
  have e2 : lpP inp e (rtE inp e s) 5 = tsP inp e (rtD inp e s) := by rw [lp_ac, e1, ac_d hd]
  rw [e2]; exact ⟨h, hd⟩
theorem ac_l : ∀ i, (acP inp e s i).2.2.2.2.2.1 = 0 → s.2.2.2.2.1 = 0
  | 0, z => z
  | i + 1, z => ac_l i (tnP_live (s := (acP inp e s i).2) z).1
theorem tw_l {key : Nat} (h : (twP inp e key s).2.2.2.2.1 = 0) : s.2.2.2.2.1 = 0 := Classical.byContradiction fun z => by rw [tw_d z] at h; exact z h
theorem ts_l (h : (tsP inp e s).2.2.2.2.1 = 0) : s.2.2.2.2.1 = 0 := Classical.byContradiction fun z => by rw [ts_d z] at h; exact z h
theorem hd_yes {v1 v2 a : Nat} (hw : Wf R) (h1 : (rtC inp e s).2.2.2.2.1 = 0 → v1 = hvP 0 50 (rtB inp e s)) (h2 : (rtD inp e s).2.2.2.2.1 = 0 → v2 = hvP 0 45 (rtC inp e s)) (h3 : (acP inp e (rtE inp e s) 5).2.2.2.2.2.1 = 0 → a = (acP inp e (rtE inp e s) 5).1) : (lpP inp e (rtE inp e s) 5).2.2.2.2.1 = 0 → Rp Γ S (hdF inp e s 5) 0 (opR2 R v1 v2 a) := fun z => by
  rw [lp_ac] at z
  have l1 := ts_l (tw_l (ac_l 5 z))
  exact Rp.head hw (h1 (tnP_live l1).1) (h2 l1) (h3 z)
theorem val_hd : Val 0 (hdF inp e s 5) 0 := by
  refine ⟨hdF_hi (by decide) 5 (by decide), Nat.zero_le _, fun k hk => absurd hk (Nat.not_lt_zero k), ⟨?_, ?_, fun v hv => ?_, ⟨0, Nat.le_refl 0, hdF_hi (by decide) 5 (by decide)⟩⟩, fun fl => Nat.zero_le 4⟩
  · rw [hdF_lo (by decide), hdF, pk_un (by decide), pk_us]; exact ⟨_, (hvP_b (show 0 ≤ 50 by decide)).2, rfl⟩
  · rw [hdF_lo (by decide), hdF, pk_us]; exact ⟨_, (hvP_b (show 0 ≤ 45 by decide)).2, rfl⟩
  · rw [hdF_v 5 hv]; exact ⟨_, (hvP_b (show 0 ≤ 9 by decide)).2, rfl⟩
/-- the lines -/
theorem ln_2 {J : Nat → Int32} (h : keyP inp s 2 = true) : lnP inp e f c s = rlP inp e f c s ∧ lnF inp e f J c s = rlF inp e f c s := by
  unfold lnP lnF; rw [op_eq, if_pos h, if_pos h]; exact ⟨rfl, rfl⟩
theorem ln_3 {J : Nat → Int32} (h2 : ¬ keyP inp s 2 = true) (h : keyP inp s 3 = true) : lnP inp e f c s = ryP inp e f c s ∧ lnF inp e f J c s = ryF inp e f c s := by
  unfold lnP lnF; rw [op_eq, if_neg h2, if_neg h2, if_pos h, if_pos h]; exact ⟨rfl, rfl⟩
theorem ln_4 {J : Nat → Int32} (h2 : ¬ keyP inp s 2 = true) (h3 : ¬ keyP inp s 3 = true) (h : keyP inp s 4 = true) : lnP inp e f c s = rmP inp e f c s ∧ lnF inp e f J c s = rmF inp e f c s := by
  unfold lnP lnF; rw [op_eq, if_neg h2, if_neg h2, if_neg h3, if_neg h3, if_pos h, if_pos h]; exact ⟨rfl, rfl⟩
theorem ln_5 {J : Nat → Int32} (h2 : ¬ keyP inp s 2 = true) (h3 : ¬ keyP inp s 3 = true) (h4 : ¬ keyP inp s 4 = true) (h : keyP inp s 5 = true) : lnP inp e f c s = rdP inp e s ∧ lnF inp e f J c s = (dysM f J (rdN inp e s)).1 := by
  unfold lnP lnF; rw [op_eq, if_neg h2, if_neg h2, if_neg h3, if_neg h3, if_neg h4, if_neg h4, if_pos h, if_pos h]; exact ⟨rfl, rfl⟩
theorem ln_n {J : Nat → Int32} (h2 : ¬ keyP inp s 2 = true) (h3 : ¬ keyP inp s 3 = true) (h4 : ¬ keyP inp s 4 = true) (h : ¬ keyP inp s 5 = true) : lnP inp e f c s = erP 1 s ∧ lnF inp e f J c s = f := by
  unfold lnP lnF; rw [op_eq, if_neg h2, if_neg h2, if_neg h3, if_neg h3, if_neg h4, if_neg h4, if_neg h, if_neg h]; exact ⟨rfl, rfl⟩
/-- how far a line reaches -/
theorem key_len {key : Nat} (hk : key < 6) (h : keyP inp s key = true) : kyN key ≤ s.2.2.1 - s.2.1 := by
  obtain ⟨g1, g2, g3⟩ := keyP_i h
  have g4 := eqK_at 8 g3
  have hN := kyN_le key hk
  refine Nat.le_of_not_lt fun z => ?_
  have q := g4 _ (show s.2.2.1 - s.2.1 < 8 by omega)
  rw [letP_f (by omega)] at q
  have q2 := ((ky_all key hk _ (show s.2.2.1 - s.2.1 < 8 by omega)).1 z)
  exact q2.1 ((nI_eq (by omega) (by omega)).mp q.symm)
theorem tn_adv {lo hi : Nat} (hs : PV e s) (h : (tnP inp e lo hi s).2.2.2.2.1 = 0) : s.2.1 + 1 ≤ (tnP inp e lo hi s).2.1 := by
  obtain ⟨h1, h2, h3, h4, -⟩ := tnP_live h
  have e1 : tnP inp e lo hi s = nxP inp e s := by unfold tnP; rw [h4, goP_t h1]
  rw [e1]
  have h5 := hs.2.2.2.2.2.2.2.1 (by omega)
  have h6 : s.2.2.1 ≤ (nxP inp e s).2.1 := nxP_fr
  omega
theorem ac_adv (hs : PV e s) : ∀ i, (acP inp e s i).2.2.2.2.2.1 = 0 → s.2.1 + i ≤ (acP inp e s i).2.2.1
  | 0, _ => Nat.le_refl _
  | i + 1, h => by
    have h1 := ac_adv hs i (tnP_live (s := (acP inp e s i).2) h).1
    have h2 := tn_adv (acP_v hs i) h
    show _ ≤ (tnP inp e 0 9 (acP inp e s i).2).2.1
    omega
theorem rl_live (h : (rlC inp e f c s).2.2.2.2.1 = 0) : (rlB inp e f c s).2.2.2.2.1 = 0 ∧ (rlB inp e f c s).1 = 2 ∧ rlC inp e f c s = goP inp e (rlB inp e f c s) ∧ ¬ cntOn f (nI (hvP 0 4 (rlB inp e f c s))) (-1) c = 4 := by
  have a3 : (rl6 f (hvP 0 4 (rlB inp e f c s)) (-1) c (hrP 0 4 (rlB inp e f c s))).2.2.2.2.1 = 0 := by have := h; rwa [goP_ft] at this
  by_cases z : (hrP 0 4 (rlB inp e f c s)).2.2.2.2.1 = 0 ∧ cntOn f (nI (hvP 0 4 (rlB inp e f c s))) (-1) c = 4
  · unfold rl6 at a3
    rw [op_eq, if_pos z] at a3
    exact absurd a3 (erP_ne (by decide))
  · have e1 : rl6 f (hvP 0 4 (rlB inp e f c s)) (-1) c (hrP 0 4 (rlB inp e f c s)) = hrP 0 4 (rlB inp e f c s) := by unfold rl6; rw [op_eq, if_neg z]
    rw [e1] at a3
    obtain ⟨b1, b2, b3, b4⟩ := hrP_live a3
    refine ⟨b1, b2, ?_, fun y => z ⟨a3, y⟩⟩
    show goP inp e (rl6 f (hvP 0 4 (rlB inp e f c s)) (-1) c (hrP 0 4 (rlB inp e f c s))) = _
    rw [e1, b4]
theorem rl_adv (hs : PV e s) (hk : keyP inp s 2 = true) (h7 : ¬ f 7 = nI 12) (h : (rlP inp e f c s).2.2.2.2.1 = 0) : s.2.1 + 14 ≤ (rlP inp e f c s).2.1 := by
  rw [rlP_e h7] at h ⊢
  have hk6 : 6 ≤ s.2.2.1 - s.2.1 := key_len (by decide) hk
  have h4 := ac_l 5 h
  have h3 : (rlC inp e f c s).2.2.2.2.1 = 0 := (tnP_live h4).1
  obtain ⟨l1, l2, l3, -⟩ := rl_live h3
  have hA : (rlA inp e f c s).2.2.2.2.1 = 0 := by have := l1; rwa [goP_ft] at this
  obtain ⟨a1, a2, a3, -, -⟩ := rlA_ok hA
  have p1 : s.2.2.1 ≤ (nxP inp e s).2.1 := nxP_fr
  have vA : PV e (rlA inp e f c s) := rlA_v hs
  have p2 : (rlA inp e f c s).2.1 < (rlA inp e f c s).2.2.1 := vA.2.2.2.2.2.2.2.1 (by rw [a1, a3]; decide)
  have p3 : (rlA inp e f c s).2.2.1 ≤ (rlB inp e f c s).2.1 := by
    show _ ≤ (goP inp e (rlA inp e f c s)).2.1
    rw [goP_t hA]; exact nxP_fr
  have vB : PV e (rlB inp e f c s) := rlB_v hs
  have p4 : (rlB inp e f c s).2.1 < (rlB inp e f c s).2.2.1 := vB.2.2.2.2.2.2.2.1 (by rw [l2]; decide)
  have p5 : (rlB inp e f c s).2.2.1 ≤ (rlC inp e f c s).2.1 := by rw [l3, goP_t l1]; exact nxP_fr
  have p6 := tn_adv (rlC_v hs) h4
  have p7 := ac_adv (rlD_v hs) 5 h
  have p8 : (rlD inp e f c s).2.1 = (tnP inp e 0 999 (rlC inp e f c s)).2.1 := rfl
  rw [a1] at p2
  show _ ≤ (acP inp e (rlD inp e f c s) 5).2.2.1
  rw [a1] at p3
  omega
end GSTO
