/-! the class's parser: names, payments, moves, the head (pure) -/
noncomputable section GPAR2
variable {Γ : Gm} {pb ti e : Nat} {F S : Hp} {t t2 : PT} {R R2 : Hr} {inp f : Nat → Int32} {s s2 : PS} {c : Nat}
theorem nm_d (h0 : s.2.2.2.2.1 ≠ 0) : nmP s = s := by unfold nmP; rw [op_eq, if_neg (fun z => h0 z.1)]
theorem nm_y (h : PRel inp e s t) (h0 : s.2.2.2.2.1 = 0) (hp : t.2.2.1 = 1 ∧ t.2.2.2.2 - t.2.2.2.1 ≤ 6) : nmP s = s := by
  unfold nmP; rw [op_eq, if_neg (fun z => (h.nm h0).mp hp z.2)]
theorem nm_n (h : PRel inp e s t) (h0 : s.2.2.2.2.1 = 0) (hp : ¬ (t.2.2.1 = 1 ∧ t.2.2.2.2 - t.2.2.2.1 ≤ 6)) : nmP s = erP 1 s := by
  unfold nmP; rw [op_eq, if_pos ⟨h0, Classical.byContradiction fun y => hp ((h.nm h0).mpr y)⟩]
theorem tl_d (h0 : (nmP s).2.2.2.2.1 ≠ 0) : tlP inp e f c s = nmP s := by
  have e1 : tl1 inp f c s = nI 0 := if_neg h0
  have e2 : tl2 inp f c s = nmP s := by unfold tl2; rw [op_eq, e1, if_neg (by decide)]
  unfold tlP; rw [op_eq, e2, goP_f h0]
theorem kn_no1 (h : PRel inp e s t) (hp : ¬ (t.2.2.1 = 1 ∧ t.2.2.2.2 - t.2.2.2.1 ≤ 6)) : PRel inp e (tlP inp e f c s) (flT t 1 t.2.2.2.1) ∧ (tlP inp e f c s).2.2.2.2.1 ≠ 0 := by
  by_cases h0 : s.2.2.2.2.1 = 0
  · have e1 := nm_n h h0 hp
    have e2 : (nmP s).2.2.2.2.1 ≠ 0 := by rw [e1]; exact erP_ne (by decide)
    rw [tl_d e2, e1]
    exact ⟨h.fail (by decide) (by decide), erP_ne (by decide)⟩
  · have e1 : nmP s = s := nm_d h0
    rw [tl_d (by rw [e1]; exact h0), e1, flT_n (h.n0 h0)]
    exact ⟨h, h0⟩
theorem kn_no2 (h : PRel inp e s t) (hp : t.2.2.1 = 1 ∧ t.2.2.2.2 - t.2.2.2.1 ≤ 6) (hf : fndF inp f t.2.2.2.1 (t.2.2.2.2 - t.2.2.2.1) c = -1) : PRel inp e (tlP inp e f c s) (flT t 3 t.2.2.2.1) ∧ (tlP inp e f c s).2.2.2.2.1 ≠ 0 := by
  by_cases h0 : s.2.2.2.2.1 = 0
  · have e1 := nm_y h h0 hp
    obtain ⟨-, -, ⟨h3, h4, -, -⟩, -⟩ := h.live h0
    have e2 : tl1 inp f c s = -1 := by
      unfold tl1; rw [e1, if_pos h0, ← h3, ← h4]; exact hf
    have e3 : tlP inp e f c s = erP 3 s := by
      unfold tlP tl2; rw [op_eq, op_eq, if_pos e2, e1, goP_f (erP_ne (by decide))]
    rw [e3]
    exact ⟨h.fail (by decide) (by decide), erP_ne (by decide)⟩
  · have e1 : nmP s = s := nm_d h0
    rw [tl_d (by rw [e1]; exact h0), e1, flT_n (h.n0 h0)]
    exact ⟨h, h0⟩
theorem kn_y {k : Nat} (h : PRel inp e s t) (hp : t.2.2.1 = 1 ∧ t.2.2.2.2 - t.2.2.2.1 ≤ 6) (hk : k < 2 ^ 31) (hf : fndF inp f t.2.2.2.1 (t.2.2.2.2 - t.2.2.2.1) c = nI k) : PRel inp e (tlP inp e f c s) (stT inp e t) ∧ ((tlP inp e f c s).2.2.2.2.1 = 0 → tlV inp e f c s = k) := by
  by_cases h0 : s.2.2.2.2.1 = 0
  · have e1 := nm_y h h0 hp
    obtain ⟨-, -, ⟨h3, h4, -, -⟩, -⟩ := h.live h0
    have e2 : tl1 inp f c s = nI k := by
      unfold tl1; rw [e1, if_pos h0, ← h3, ← h4]; exact hf
    have e3 : tlP inp e f c s = goP inp e s := by
      unfold tlP tl2; rw [op_eq, op_eq, e2, if_neg (nI_nm1' hk), e1]
    have e4 := (h.nm h0).mp hp
    refine ⟨by rw [e3]; exact h.step (fun _ => by omega), fun z => ?_⟩
    unfold tlV
    rw [if_pos z, e2, nI_clamp hk]
  · have e1 : nmP s = s := nm_d h0
    have e2 : tlP inp e f c s = s := by rw [tl_d (by rw [e1]; exact h0), e1]
    rw [e2]
    exact ⟨by have := h.step (fun z => absurd z h0); rw [goP_f h0] at this; exact this, fun z => absurd z h0⟩
/-- a payment's line -/
theorem ry_no (h : PRel inp e (tnP inp e 1 999 (ryA inp e f c s)) t) (hn : (tnP inp e 1 999 (ryA inp e f c s)).2.2.2.2.1 ≠ 0) (hr : Rp Γ S f c R) : PRel inp e (ryP inp e f c s) t ∧ Rp Γ S (ryF inp e f c s) c R := by
  rw [ryP_eq] at h hn
  exact ⟨h, by unfold ryF; rw [if_neg hn]; exact hr⟩
theorem ry_y {k v : Nat} (h : PRel inp e (tnP inp e 1 999 (ryA inp e f c s)) t) (h0 : t.1 = 0) (hk : (ryA inp e f c s).2.2.2.2.1 = 0 → k = tlV inp e f c (nxP inp e s)) (hv : (tnP inp e 1 999 (ryA inp e f c s)).2.2.2.2.1 = 0 → v = hvP 1 999 (ryA inp e f c s)) (hr : Rp Γ S (payF f k (nI v)) c R) : PRel inp e (ryP inp e f c s) t ∧ Rp Γ S (ryF inp e f c s) c R := by
  have z : (tnP inp e 1 999 (ryA inp e f c s)).2.2.2.2.1 = 0 := by rw [← h.ek]; exact h0
  rw [hk (tnP_live z).1, hv z] at hr
  rw [ryP_eq] at h z
  exact ⟨h, by unfold ryF; rw [if_pos z]; exact hr⟩
/-- a move's line -/
abbrev rmS (inp : Nat → Int32) (e : Nat) (f : Nat → Int32) (c : Nat) (s : PS) : PS := goP inp e (rl6 f (hvP 0 4 (ryA inp e f c s)) (nI (tlV inp e f c (nxP inp e s))) c (hrP 0 4 (ryA inp e f c s)))
theorem rm_live (h : (rmS inp e f c s).2.2.2.2.1 = 0) : (ryA inp e f c s).2.2.2.2.1 = 0 := by
  have h1 : (rl6 f (hvP 0 4 (ryA inp e f c s)) (nI (tlV inp e f c (nxP inp e s))) c (hrP 0 4 (ryA inp e f c s))).2.2.2.2.1 = 0 := by
    have : (goP inp e (rl6 f (hvP 0 4 (ryA inp e f c s)) (nI (tlV inp e f c (nxP inp e s))) c (hrP 0 4 (ryA inp e f c s)))).2.2.2.2.1 = 0 := h
    rwa [goP_ft] at this
  unfold rl6 at h1
  rw [op_eq] at h1
  by_cases z : (hrP 0 4 (ryA inp e f c s)).2.2.2.2.1 = 0 ∧ cntOn f (nI (hvP 0 4 (ryA inp e f c s))) (nI (tlV inp e f c (nxP inp e s))) c = 4
  · exact (hrP_live z.1).1
  · rw [if_neg z] at h1; exact (hrP_live h1).1
theorem rm_no (h : PRel inp e (rmS inp e f c s) t) (hn : (rmS inp e f c s).2.2.2.2.1 ≠ 0) (hr : Rp Γ S f c R) : PRel inp e (rmP inp e f c s) t ∧ Rp Γ S (rmF inp e f c s) c R := by
  have h' : PRel inp e (goP inp e (rl6 f (hvP 0 4 (ryA inp e f c s)) (nI (tlV inp e f c (nxP inp e s))) c (hrP 0 4 (ryA inp e f c s)))) t := h
  have hn' : (goP inp e (rl6 f (hvP 0 4 (ryA inp e f c s)) (nI (tlV inp e f c (nxP inp e s))) c (hrP 0 4 (ryA inp e f c s)))).2.2.2.2.1 ≠ 0 := hn
  rw [rmP_eq] at h' hn'
  exact ⟨h', by unfold rmF; rw [if_neg hn']; exact hr⟩
theorem rm_y {k v : Nat} (h : PRel inp e (rmS inp e f c s) t) (h0 : t.1 = 0) (hk : (ryA inp e f c s).2.2.2.2.1 = 0 → k = tlV inp e f c (nxP inp e s)) (hv : (rmS inp e f c s).2.2.2.2.1 = 0 → v = hvP 0 4 (ryA inp e f c s)) (hr : Rp Γ S (upd f (13 + 16 * k) (nI v)) c R) : PRel inp e (rmP inp e f c s) t ∧ Rp Γ S (rmF inp e f c s) c R := by
  have z : (rmS inp e f c s).2.2.2.2.1 = 0 := by rw [← h.ek]; exact h0
  rw [hk (rm_live z), hv z] at hr
  have h' : PRel inp e (goP inp e (rl6 f (hvP 0 4 (ryA inp e f c s)) (nI (tlV inp e f c (nxP inp e s))) c (hrP 0 4 (ryA inp e f c s)))) t := h
  have z' : (goP inp e (rl6 f (hvP 0 4 (ryA inp e f c s)) (nI (tlV inp e f c (nxP inp e s))) c (hrP 0 4 (ryA inp e f c s)))).2.2.2.2.1 = 0 := z
  rw [rmP_eq] at h' z'
  exact ⟨h', by unfold rmF; rw [if_pos z']; exact hr⟩
/-- dead ends stay -/
theorem tn_d {lo hi : Nat} (h0 : s.2.2.2.2.1 ≠ 0) : tnP inp e lo hi s = s := by unfold tnP; rw [hrP_f h0, goP_f h0]
theorem tw_d {key : Nat} (h0 : s.2.2.2.2.1 ≠ 0) : twP inp e key s = s := by unfold twP; rw [op_eq, if_neg (fun z => h0 z.1), goP_f h0]
theorem ts_d (h0 : s.2.2.2.2.1 ≠ 0) : tsP inp e s = s := by unfold tsP; rw [op_eq, if_neg (fun z => h0 z.1), goP_f h0]
theorem lp_ac : ∀ i, lpP inp e s i = (acP inp e s i).2
  | 0 => rfl
  | i + 1 => by show tnP inp e 0 9 (lpP inp e s i) = tnP inp e 0 9 (acP inp e s i).2; rw [lp_ac i]
theorem ac_d (h0 : s.2.2.2.2.1 ≠ 0) : ∀ i, (acP inp e s i).2 = s
  | 0 => rfl
  | i + 1 => by show tnP inp e 0 9 (acP inp e s i).2 = s; rw [ac_d h0 i, tn_d h0]
theorem rl6_d {fl : Nat} {bt : Int32} (h0 : s.2.2.2.2.1 ≠ 0) : rl6 f fl bt c s = s := by unfold rl6; rw [op_eq, if_neg (fun z => h0 z.1)]
theorem rl3_d (h0 : s.2.2.2.2.1 ≠ 0) : rl3 inp f c s = s := by unfold rl3; rw [op_eq, if_neg (fun z => h0 z.1)]
theorem ts_n (h : PRel inp e s t) (hk : ¬ t.2.2.1 = 3) : PRel inp e (tsP inp e s) (flT t 1 t.2.2.2.1) ∧ (tsP inp e s).2.2.2.2.1 ≠ 0 := by
  by_cases h0 : s.2.2.2.2.1 = 0
  · obtain ⟨-, -, ⟨h3, h4, h5, -⟩, -⟩ := h.live h0
    have e1 : tsP inp e s = erP 1 s := by
      unfold tsP; rw [op_eq, if_pos ⟨h0, by omega⟩, goP_f (erP_ne (by decide))]
    rw [e1]
    exact ⟨h.fail (by decide) (by decide), erP_ne (by decide)⟩
  · rw [ts_d h0, flT_n (h.n0 h0)]
    exact ⟨h, h0⟩
theorem ts_y (h : PRel inp e s t) (hk : t.2.2.1 = 3) : PRel inp e (tsP inp e s) (stT inp e t) := by
  by_cases h0 : s.2.2.2.2.1 = 0
  · obtain ⟨-, -, ⟨h3, h4, h5, -⟩, -⟩ := h.live h0
    have e1 : tsP inp e s = goP inp e s := by
      unfold tsP; rw [op_eq, if_neg (fun z => z.2 (by omega))]
    rw [e1]; exact h.step (fun _ => by omega)
  · have := h.step (fun z => absurd z h0)
    rw [goP_f h0] at this
    rw [ts_d h0]; exact this
/-- the head's numbers -/
theorem ac_dg {x : Nat → Int32} {v : Nat} (hv : v < 5) : dgF x (acP inp e s 5).1 v = nI (hvP 0 9 (acP inp e s v).2) := by
  have b : ∀ i, hvP 0 9 (acP inp e s i).2 ≤ 9 := fun i => (hvP_b (s := (acP inp e s i).2) (show 0 ≤ 9 by decide)).2
  have e1 : (acP inp e s 5).1 = 10 * (10 * (10 * (10 * (10 * 0 + hvP 0 9 (acP inp e s 0).2) + hvP 0 9 (acP inp e s 1).2) + hvP 0 9 (acP inp e s 2).2) + hvP 0 9 (acP inp e s 3).2) + hvP 0 9 (acP inp e s 4).2 := rfl
  rw [e1]
  have b0 := b 0
  have b1 := b 1
  have b2 := b 2
  have b3 := b 3
  have b4 := b 4
  have : v = 0 ∨ v = 1 ∨ v = 2 ∨ v = 3 ∨ v = 4 := by omega
  unfold dgF
  rcases this with rfl | rfl | rfl | rfl | rfl
  · rw [pk_us]; congr 1; omega
  · rw [pk_un (by omega), pk_us]; congr 1; omega
  · rw [pk_un (by omega), pk_un (by omega), pk_us]; congr 1; omega
  · rw [pk_un (by omega), pk_un (by omega), pk_un (by omega), pk_us]; congr 1; omega
  · rw [pk_un (by omega), pk_un (by omega), pk_un (by omega), pk_un (by omega), pk_us]; congr 1; omega
theorem hdF_lo {j : Nat} (hj : j < 2) : ∀ i, hdF inp e s i j = hdF inp e s 0 j
  | 0 => rfl
  | i + 1 => by show upd (hdF inp e s i) (2 + i) _ j = _; rw [pk_un (by omega)]; exact hdF_lo hj i
theorem hdF_v {v : Nat} : ∀ i, v < i → hdF inp e s i (2 + v) = nI (hvP 0 9 (lpP inp e (rtE inp e s) v))
  | 0, h => absurd h (Nat.not_lt_zero v)
  | i + 1, h => by
    rw [hdF]
    by_cases z : v = i
    · subst z; exact pk_us
    · rw [pk_un (by omega)]; exact hdF_v i (by omega)
abbrev opR2 (R : Hr) (v1 v2 a : Nat) : Hr := sL (opR R (nI v1) (nI v2)) (dgF (hL R) a)
theorem opR_d {v1 v2 a j : Nat} (hj : j < 13) (hn : ¬ (2 ≤ j ∧ j < 7)) : (opR2 R v1 v2 a).1 j = if j = 0 then nI v1 else if j = 1 then nI v2 else nI 0 := by
  show upd (upd (upd (upd (upd (upd (upd (upd R.1 8 (nI 0)) 0 (nI v1)) 1 (nI v2)) 9 (nI 0)) 10 (nI 0)) 11 (nI 0)) 12 (nI 0)) 7 (nI 0) j = _
  have : j = 0 ∨ j = 1 ∨ j = 7 ∨ j = 8 ∨ j = 9 ∨ j = 10 ∨ j = 11 ∨ j = 12 := by omega
  rcases this with rfl | rfl | rfl | rfl | rfl | rfl | rfl | rfl <;> rfl
theorem Rp.head {v1 v2 a : Nat} (hw : Wf R) (h1 : v1 = hvP 0 50 (rtB inp e s)) (h2 : v2 = hvP 0 45 (rtC inp e s)) (h3 : a = (acP inp e (rtE inp e s) 5).1) : Rp Γ S (hdF inp e s 5) 0 (opR2 R v1 v2 a) := by
  refine ⟨hw, Nat.zero_le _, hdF_hi (by decide) 5 (by decide), fun j hj hn => ?_, fun v hv => ?_, fun k hk => absurd hk (Nat.not_lt_zero k)⟩
  · rw [opR_d hj hn]
    by_cases e0 : j = 0
    · subst e0; rw [if_pos rfl, hdF_lo (by decide), hdF, pk_un (by decide), pk_us, h1]
    · by_cases e1 : j = 1
      · subst e1; rw [if_neg e0, if_pos rfl, hdF_lo (by decide), hdF, pk_us, h2]
      · rw [if_neg e0, if_neg e1]; exact (hdF_hi (by omega) 5 (by decide)).symm
  · show dgF (hL R) a v = _
    rw [hdF_v 5 hv, h3, ac_dg hv, lp_ac]
/-- a house that is one, whatever its row -/
def Hok (Γ : Gm) (S : Hp) (R : Hr) : Prop := ∃ g c, Rp Γ S g c R ∧ Flo g c ∧ Fl4 g c
theorem Hok.opn {v1 v2 a : Nat} (hw : Wf R) : Hok Γ S (opR2 R v1 v2 a) := by
  refine ⟨fun j => if 2 ≤ j ∧ j < 7 then dgF (hL R) a (j - 2) else (opR2 R v1 v2 a).1 j, 0, ⟨hw, Nat.zero_le _, ?_, fun j hj hn => ?_, fun v hv => ?_, fun k hk => absurd hk (Nat.not_lt_zero k)⟩, fun k hk => absurd hk (Nat.not_lt_zero k), fun fl => Nat.zero_le 4⟩
  · rfl
  · exact (if_neg hn).symm
  · show _ = if 2 ≤ 2 + v ∧ 2 + v < 7 then dgF (hL R) a (2 + v - 2) else _
    rw [if_pos (by omega), Nat.add_sub_cancel_left]; rfl
theorem Hok.wf (h : Hok Γ S R) : Wf R := by obtain ⟨g, c, h1, -⟩ := h; exact h1.1
/-- a fresh start -/
theorem PRel.init (he : e ≤ 600) (hv : s.2.2.2.1 < 2 ^ 31) (hfa : s.2.2.2.2.2 ≤ 600) : PRel inp e (nxP inp e (z0 s)) (0, -1, nxT inp e 3 0) := by
  have h1 : PRel inp e (0, 0, 0, s.2.2.2.1, 0, s.2.2.2.2.2) (0, -1, 0, 0, 0) := ⟨⟨by decide, Nat.le_refl _, Nat.zero_le _, (fun z => by cases z), (fun z => by cases z), fun z => absurd rfl z⟩, ⟨Nat.zero_le _, Nat.le_refl _, Nat.zero_le _, hv, Nat.zero_le _, hfa, (fun z => by cases z), (fun z => absurd rfl z), he⟩, Or.inl ⟨rfl, rfl, rfl, ⟨rfl, rfl, Or.inl rfl, fun z => by cases z⟩, fun z => by cases z⟩⟩
  have h2 := h1.step (fun _ => rfl)
  rw [goP_t rfl] at h2
  have e1 : nxP inp e (0, 0, 0, s.2.2.2.1, 0, s.2.2.2.2.2) = nxP inp e (z0 s) := by unfold nxP; rfl
  have e2 : nxT inp e 0 0 = nxT inp e 3 0 := by unfold nxT; rfl
  rw [e1] at h2
  have e3 : stT inp e (0, -1, 0, 0, 0) = (0, -1, nxT inp e 3 0) := by unfold stT; rw [← e2]
  rw [e3] at h2
  exact h2
end GPAR2
