/-! loading, means (pure) -/
section GLOD
variable {Γ : Gm} {B t ab mo n c l lv cap cnt : Nat} {S S2 E : Hp} {q : CQ} {I I2 : Nat → Int32} {A A2 : Nat → Nat → Int32} {f g : Nat → Int32} {R2 R3 : Hr} {t2 : PT} {b : Nat → Int32}
theorem pI_lt {J : Nat → Int32} {s : PS} {j : Nat} (hj : j < 20) : pI J s j = J j := by
  unfold pI; rw [if_neg (by omega), if_neg (by omega), if_neg (by omega), if_neg (by omega), if_neg (by omega), if_neg (by omega)]
theorem PIo.pIk {J : Nat → Int32} {s : PS} (h1 : s.2.2.2.1 < 2 ^ 31) (h2 : s.2.2.2.2.2 ≤ 600) : PIo (pI J s) := by
  refine ⟨s, ?_, h1, h2⟩
  funext i
  unfold pI
  repeat' split
  all_goals rfl
theorem RV.lok (h : RV Γ B S q I A f) (hB : 1200000 ≤ B) (e14 : I2 14 = nI 0) (e17 : I2 17 = nI 0) (e18 : I2 18 = -1) (e6 : I2 6 = nI 0) (e8 : I2 8 = nI 0) (e16 : I2 16 = I 16) (e11 : I2 11 = I 11) (hp : PIo I2) (hA : Sc3 A A2) (h1 : t2.1 = 0) (h2 : t2.2.1 = -1) (hok : Hok Γ S2 R2) (hr : Rp Γ S2 g c R3) (hv : Val 1200000 g c) : RV Γ B S2 (LDq q l t2 lv cap cnt b R2 R3) I2 A2 g := by
  obtain ⟨-, -, -, -, -, h6, h7⟩ := h
  refine ⟨⟨by show 0 ≤ 600; decide, e14, fun j hj => absurd hj (Nat.not_lt_zero j)⟩, ⟨e17.trans (by show nI 0 = nI t2.1; rw [h1]), e18.trans h2.symm⟩, ⟨c, ?_, hv.le hB⟩, ⟨by show 0 ≤ 10; decide, by show 0 < 10; decide, e6, fun j hj => absurd hj (Nat.not_lt_zero j)⟩, ⟨⟨0, by decide, e8⟩, fun s hs => ?_⟩, ⟨h6.1, e16.trans h6.2.1, ?_⟩, ⟨?_, ?_, ?_, e11.trans h7.2.2.2.1, hp⟩⟩
  · show Rp Γ S2 g c (up (up (q_Q q) 0 R2) 1 R3 1)
    rw [up_s]; exact hr
  · rw [e8]
    show (_ = upd (upd (q_sv q) 0 (nI 0)) 1 (nI 0) s) ∧ (upd (upd (q_sv q) 0 (nI 0)) 1 (nI 0) s = nI 0 ∨ _)
    have e : upd (upd (q_sv q) 0 (nI 0)) 1 (nI 0) s = nI 0 := by
      by_cases z : s = 1
      · subst z; exact pk_us
      · rw [pk_un z, show s = 0 by omega]; exact pk_us
    rw [e]
    refine ⟨?_, Or.inl rfl⟩
    have e2 : ∀ s, s < 2 → (nI 0 >>> (nI s &&& 31)) &&& nI 1 = nI 0 := by decide +kernel
    exact e2 s hs
  · rw [hA 9 (by decide) (by decide) (by decide)]; exact h6.2.2
  · show Hok Γ S2 (up (up (q_Q q) 0 R2) 1 R3 0)
    rw [up_n (by decide), up_s]; exact hok
  · exact wf_up (wf_up h7.2.1 hok.wf) hr.1
  · rw [hA 0 (by decide) (by decide) (by decide)]; exact h7.2.2.1
theorem RV.ler {kd of : Nat} (h : RV Γ B S q I A f) (e14 : I2 14 = nI 0) (e17 : I2 17 = nI kd) (e18 : I2 18 = nI of) (e6 : I2 6 = I 6) (e8 : I2 8 = I 8) (e16 : I2 16 = I 16) (e11 : I2 11 = -1) (hp : PIo I2) (hA : Sc3 A A2) (h1 : t2.1 = kd) (h2 : t2.2.1 = nI of) (hok : Hok Γ S2 R2) (hS : ∀ a, Le S S2 a) : RV Γ B S2 (qC (qP q t2 l lv cap cnt b R2) 0 (nI t2.1) t2.2.1) I2 A2 f := by
  obtain ⟨-, -, h3, h4, h5, h6, h7⟩ := h
  refine ⟨⟨by show 0 ≤ 600; decide, e14, fun j hj => absurd hj (Nat.not_lt_zero j)⟩, ⟨e17.trans (by show nI kd = nI t2.1; rw [h1]), e18.trans h2.symm⟩, ?_, ⟨h4.1, h4.2.1, e6.trans h4.2.2.1, fun j hj => ?_⟩, ?_, ⟨h6.1, e16.trans h6.2.1, ?_⟩, ⟨?_, wf_up h7.2.1 hok.wf, ?_, e11, hp⟩⟩
  · show RH Γ B S2 f (up (q_Q q) 0 R2 1)
    rw [up_n (by decide)]; exact h3.mono hS
  · rw [hA 4 (by decide) (by decide) (by decide)]
    show RH Γ B S2 _ (up (q_Q q) 0 R2 (3 + (q_ol q + j) % 10))
    rw [up_n (by omega)]; exact (h4.2.2.2 j hj).mono hS
  · rw [hA 5 (by decide) (by decide) (by decide)]
    have h8 := h5.le (Nat.le_refl B) hS
    exact h8.q1 (q2 := qC (qP q t2 l lv cap cnt b R2) 0 (nI t2.1) t2.2.1) (fun s _ => by show up (q_Q q) 0 R2 (13 + s) = _; exact up_n (by omega)) rfl e8
  · rw [hA 9 (by decide) (by decide) (by decide)]; exact h6.2.2
  · show Hok Γ S2 (up (q_Q q) 0 R2 0)
    rw [up_s]; exact hok
  · rw [hA 0 (by decide) (by decide) (by decide)]; exact h7.2.2.1
/-- means -/
theorem gap_b : ∀ p, p ≤ 9 → ∀ r, r ≤ 9 → ∃ d, d ≤ 9 ∧ iabs (nI p - nI r) = nI d := by
  have h : ∀ p, p ≤ 9 → ∀ r, r ≤ 9 → (iabs (nI p - nI r)).toNatClampNeg ≤ 9 ∧ iabs (nI p - nI r) = nI (iabs (nI p - nI r)).toNatClampNeg := by decide +kernel
  exact fun p hp r hr => ⟨_, h p hp r hr⟩
theorem dst_b {x y : Nat → Int32} : ∀ m, (∀ v, v < m → Pos (x v)) → (∀ v, v < m → Pos (y v)) → ∃ d, d ≤ 9 * m ∧ dst x y m = nI d
  | 0, _, _ => ⟨0, Nat.le_refl 0, rfl⟩
  | m + 1, hx, hy => by
    obtain ⟨d, h1, h2⟩ := dst_b m (fun v hv => hx v (by omega)) (fun v hv => hy v (by omega))
    obtain ⟨p, hp, ep⟩ := hx m (by omega)
    obtain ⟨r, hr, er⟩ := hy m (by omega)
    obtain ⟨g, h3, h4⟩ := gap_b p hp r hr
    exact ⟨d + g, by omega, by rw [dst, h2, ep, er, h4, nI_add]⟩
theorem sumD_b (hv : Val B f c) : ∀ m, m ≤ c → ∃ s, s ≤ 45 * m ∧ sumD f m = nI s
  | 0, _ => ⟨0, Nat.le_refl 0, rfl⟩
  | m + 1, hm => by
    obtain ⟨s, h1, h2⟩ := sumD_b hv m (by omega)
    obtain ⟨d, h3, h4⟩ := dst_b (x := rw5 f m) (y := la5 f) 5 (fun v hv5 => (hv.2.2.1 m (by omega)).2.2 v hv5) (fun v hv5 => hv.2.2.2.1.2.2.1 v hv5)
    exact ⟨s + d, by omega, by rw [sumD, h2, h4, nI_add]⟩
theorem mean_d : ∀ k, k ≤ 12 → k ≠ 0 → ∀ s, s ≤ 45 * k → (FP.ddiv (FP.i2d (nI s)) (FP.i2d (nI k)) &&& 0x7fffffffffffffff ≤ 0x7ff0000000000000) ∧ FP.dcmp (FP.ddiv (FP.i2d (nI s)) (FP.i2d (nI k))) (FP.ddiv (FP.i2d (nI s)) (FP.i2d (nI k))) = some .eq := by decide +kernel
theorem share_d : ∀ k, k ≤ 12 → k ≠ 0 → ∀ s, s ≤ k → (FP.fdiv (FP.i2f (nI s)) (FP.i2f (nI k)) &&& 0x7fffffff ≤ 0x7f800000) ∧ (FP.f2d (FP.fdiv (FP.i2f (nI s)) (FP.i2f (nI k))) &&& 0x7fffffffffffffff ≤ 0x7ff0000000000000) ∧ FP.dcmp (FP.f2d (FP.fdiv (FP.i2f (nI s)) (FP.i2f (nI k)))) (FP.f2d (FP.fdiv (FP.i2f (nI s)) (FP.i2f (nI k)))) = some .eq := by decide +kernel
/-- a double that is a number -/
def okD (x : UInt64) : Prop := vf_n64 x ∧ FP.dcmp x x = some .eq
def okF (x : UInt32) : Prop := vf_n32 x ∧ okD (FP.f2d x)
theorem okD_0 : okD FP.dconst0 := ⟨by unfold vf_n64; decide +kernel, by decide +kernel⟩
theorem okF_0 : okF FP.fconst0 := ⟨by unfold vf_n32; decide +kernel, by unfold vf_n64; decide +kernel, by decide +kernel⟩
theorem mean_n (hv : Val B f c) (h0 : ¬ c = 0) : okD (FP.ddiv (FP.i2d (sumD f c)) (FP.i2d (nI c))) := by
  obtain ⟨s, h1, h2⟩ := sumD_b hv c (Nat.le_refl c)
  rw [h2]
  exact mean_d c hv.2.1 h0 s h1
theorem share_n (hv : Val B f c) (h0 : ¬ c = 0) : okF (FP.fdiv (FP.i2f (nI (cntR f c))) (FP.i2f (nI c))) := share_d c hv.2.1 h0 _ (cntR_le f c)
end GLOD
