section GPP8
theorem upd_id {f : Nat → Int32} {k : Nat} {x : Int32} (h : f k = x) : upd f k x = f := by
  funext j; unfold upd; by_cases e : j = k
  · subst e; rw [if_pos rfl]; exact h.symm
  · rw [if_neg e]
/-- units: from the highest down, then 0 -/
def unD (D i : Nat) : Nat := if i < D then 10 ^ (D - 1 - i) else 0
theorem unD_t {D i : Nat} (h : i < D) : unD D i = 10 ^ (D - 1 - i) := if_pos h
theorem unD_s {D i : Nat} (h : i < D) : unD D i / 10 = unD D (i + 1) := by
  rw [unD_t h]
  unfold unD
  by_cases h2 : i + 1 < D
  · rw [if_pos h2, show D - 1 - i = (D - 1 - (i + 1)) + 1 by omega, Nat.pow_succ, Nat.mul_div_cancel _ (by decide)]
  · rw [if_neg h2, show D - 1 - i = 0 by omega]
theorem p10_pos (j : Nat) : 0 < 10 ^ j := Nat.pow_pos (by decide)
theorem p10_le {j : Nat} (h : j ≤ 9) : 10 ^ j ≤ 1000000000 := Nat.le_trans (Nat.pow_le_pow_right (by decide) h) (by decide)
theorem unD_lt {D i : Nat} (h : D ≤ 10) : unD D i ≤ 1000000000 := by
  unfold unD; split
  · exact p10_le (by omega)
  · omega
/-- the number of figures, by the first loop's end -/
theorem dg_is {w j : Nat} (hw : w < 2 ^ 31) (hj : j ≤ 9) (h1 : j = 0 ∨ 10 ^ j ≤ w) (h2 : w / 10 ^ j ≤ 9) : sb_dg w = j + 1 := by
  have h3 : w < 10 ^ j * 10 := by
    have := Nat.div_add_mod w (10 ^ j)
    have h4 := Nat.mod_lt w (p10_pos j)
    have h5 : 10 ^ j * (w / 10 ^ j) ≤ 10 ^ j * 9 := Nat.mul_le_mul_left _ h2
    omega
  have hj' : j = 0 ∨ j = 1 ∨ j = 2 ∨ j = 3 ∨ j = 4 ∨ j = 5 ∨ j = 6 ∨ j = 7 ∨ j = 8 ∨ j = 9 := by omega
  unfold sb_dg
  rcases hj' with rfl | rfl | rfl | rfl | rfl | rfl | rfl | rfl | rfl | rfl <;> (try simp only [Nat.reducePow] at h1) <;> (try simp only [Nat.reducePow] at h3) <;> (repeat' split) <;> omega
/-- a floor's names: signs and their number -/
def wfP (f : Nat → Int32) (fl : Int32) (o : Nat → Int32) : Nat → (Nat → Int32) × Nat
  | 0 => (o, 0)
  | k + 1 => if f (13 + 16 * k) = fl then
      (if (wfP f fl o k).2 = 0 then (wrN (wfP f fl o k).1 f 0 k (lenN f k), lenN f k)
       else (wrN (upd (wfP f fl o k).1 (wfP f fl o k).2 (chr (nI 44))) f ((wfP f fl o k).2 + 1) k (lenN f k), (wfP f fl o k).2 + 1 + lenN f k))
    else wfP f fl o k
theorem wfP_n {f o : Nat → Int32} {fl : Int32} {k : Nat} (h : ¬ f (13 + 16 * k) = fl) : wfP f fl o (k + 1) = wfP f fl o k := by rw [wfP, if_neg h]
theorem wfP_0 {f o : Nat → Int32} {fl : Int32} {k : Nat} (h : f (13 + 16 * k) = fl) (h2 : (wfP f fl o k).2 = 0) : wfP f fl o (k + 1) = (wrN (wfP f fl o k).1 f 0 k (lenN f k), lenN f k) := by rw [wfP, if_pos h, if_pos h2]
theorem wfP_1 {f o : Nat → Int32} {fl : Int32} {k : Nat} (h : f (13 + 16 * k) = fl) (h2 : ¬ (wfP f fl o k).2 = 0) : wfP f fl o (k + 1) = (wrN (upd (wfP f fl o k).1 (wfP f fl o k).2 (chr (nI 44))) f ((wfP f fl o k).2 + 1) k (lenN f k), (wfP f fl o k).2 + 1 + lenN f k) := by rw [wfP, if_pos h, if_neg h2]
theorem wfP_s {f o : Nat → Int32} {fl : Int32} {k : Nat} : (wfP f fl o k).2 ≤ (wfP f fl o (k + 1)).2 := by
  by_cases h : f (13 + 16 * k) = fl
  · by_cases h2 : (wfP f fl o k).2 = 0
    · rw [wfP_0 h h2, h2]; exact Nat.zero_le _
    · rw [wfP_1 h h2]; show _ ≤ _ + 1 + _; omega
  · rw [wfP_n h]; exact Nat.le_refl _
theorem wfP_mono {f o : Nat → Int32} {fl : Int32} {j : Nat} : ∀ {k : Nat}, j ≤ k → (wfP f fl o j).2 ≤ (wfP f fl o k).2
  | 0, h => by obtain rfl : j = 0 := by omega
               exact Nat.le_refl _
  | k + 1, h => by
    by_cases e : j = k + 1
    · subst e; exact Nat.le_refl _
    · exact Nat.le_trans (wfP_mono (k := k) (by omega)) wfP_s
variable {Γ : Gm} {d : Nat} {M : Mr} {P : Po} {X : Px} {pc : Nat} {lv : List (Nat × Value)} {st rest : List Value} {E : Hp} {n kc ks : Nat}
theorem gn_if_le {a : Nat} {off : Int} {tgt : Nat} (ha : a < 2 ^ 31) (ht : (pc : Int) + off = (tgt : Int)) (dg : decode M.2.2.1 pc = .ok (.ifCond .le off, 3)) (ka : a = 0 → G Γ d M P X tgt lv st E n kc ks) (kb : ¬ a = 0 → G Γ d M P X (pc + 3) lv st E n kc ks) : G Γ d M P X pc lv (.int (nI a) :: st) E n kc ks := g_if_le ht dg (fun z => ka (Classical.byContradiction fun y => nI_nle (by omega) ha z)) (fun z => kb (fun y => z (by subst y; exact Int32.le_refl _)))
end GPP8
