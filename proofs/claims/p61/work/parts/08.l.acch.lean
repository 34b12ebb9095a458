/-! what the law reckons of accents (pure) -/
section GACH
variable {f x y : Nat → Int32} {c k n B : Nat}
theorem oI_lt {z : Option Nat} (hb : ∀ b, z = some b → b < 2 ^ 31) (h : oI z < 0) : z = none := by
  cases z with
  | none => rfl
  | some b => exact absurd h (nI_pos (hb b rfl))
theorem oI_nl {z : Option Nat} (h : ¬ oI z < 0) : ∃ b, z = some b := by
  cases z with
  | none => exact absurd (show (-1 : Int32) < 0 by decide) h
  | some b => exact ⟨b, rfl⟩
theorem dif_0 (hx : Pos (x n)) (hy : Pos (y n)) (h : iabs (x n - y n) ≤ 0) : dif x y (n + 1) = dif x y n := by
  obtain ⟨q, q1, q2, q3⟩ := pos_d hx hy
  rw [q2, show (0 : Int32) = nI 0 from nI_0.symm, nI_leI (by omega) (by decide)] at h
  rw [dif, if_pos (q3.mp (by omega)), Nat.add_zero]
theorem dif_1 (hx : Pos (x n)) (hy : Pos (y n)) (h : ¬ iabs (x n - y n) ≤ 0) : dif x y (n + 1) = dif x y n + 1 := by
  obtain ⟨q, q1, q2, q3⟩ := pos_d hx hy
  rw [q2, show (0 : Int32) = nI 0 from nI_0.symm, nI_leI (by omega) (by decide)] at h
  rw [dif, if_neg (fun z => h (by have := q3.mpr z; omega))]
theorem bal_0 (hk : k < 2 ^ 31) : balR (dysM f (wI k) 0) = f (13 + 16 * k + 1) := by
  show (if wI k 11 = -1 then _ else f (13 + 16 * (wI k 11).toNatClampNeg + 1)) = _
  rw [wI_11, if_neg (nI_nm1' hk), nI_clamp hk]
theorem dis_0 (hk : k < 2 ^ 31) : dsR (dysM f (wI k) 0) = dst (rw5 f k) (la5 f) 5 := by
  show (if wI k 11 = -1 then _ else dst (rw5 f (wI k 11).toNatClampNeg) (la5 f) 5) = _
  rw [wI_11, if_neg (nI_nm1' hk), nI_clamp hk]
theorem share_f : ∀ k, k ≤ 12 → k ≠ 0 → ∀ s, s ≤ k → FP.fcmp (FP.fdiv (FP.i2f (nI s)) (FP.i2f (nI k))) (FP.fdiv (FP.i2f (nI s)) (FP.i2f (nI k))) = some .eq := by decide +kernel
theorem mean_0 : Op.cmpValue (FP.dcmp FP.dconst0 FP.dconst0) .l = 0 := by decide +kernel
theorem share_0 : Op.cmpValue (FP.fcmp FP.fconst0 FP.fconst0) .l = 0 := by decide +kernel
end GACH
