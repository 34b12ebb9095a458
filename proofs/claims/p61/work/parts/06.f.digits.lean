section GDIG
/-- the last t figures of w ahead of K -/
def gcF (b : Nat → Int32) (K w t : Nat) : Nat → Int32 := fun j => if j < K ∧ K ≤ j + t then nI (48 + w / 10 ^ (K - 1 - j) % 10) else b j
theorem gcF_0 {b : Nat → Int32} {K w : Nat} : gcF b K w 0 = b := by
  funext j; unfold gcF; rw [if_neg (by omega)]
theorem gcF_u {b : Nat → Int32} {K w t p r : Nat} (hp : p + t = K) (hp0 : 0 < p) (hr : r = 48 + w / 10 ^ t % 10) : upd (gcF b K w t) (p - 1) (nI r).toInt8.toInt32 = gcF b K w (t + 1) := by
  have hr2 : r < 128 := by omega
  rw [(a7_all r hr2).2.1]
  funext j; unfold upd gcF
  by_cases e : j = p - 1
  · rw [if_pos e, if_pos (by omega), hr, show K - 1 - j = t by omega]
  · rw [if_neg e]
    by_cases h : j < K ∧ K ≤ j + t
    · rw [if_pos h, if_pos (by omega)]
    · rw [if_neg h, if_neg (by omega)]
theorem A7.gc {b : Nat → Int32} {N K w t : Nat} (h : A7 b N) : A7 (gcF b K w t) N := fun j hj => by
  unfold gcF
  by_cases e : j < K ∧ K ≤ j + t
  · rw [if_pos e]; exact ⟨_, by omega, rfl⟩
  · rw [if_neg e]; exact h j hj
/-- a number behind b's first cnt, e for its sign -/
def gcS (b : Nat → Int32) (cnt e w D : Nat) : Nat → Int32 := if e = 0 then gcF b (cnt + (e + D)) w D else upd (gcF b (cnt + (e + D)) w D) cnt (nI 45)
theorem A7.gcs {b : Nat → Int32} {N cnt e w D : Nat} (h : A7 b N) : A7 (gcS b cnt e w D) N := by
  unfold gcS; split
  · exact h.gc
  · exact h.gc.put (by decide)
theorem gcS_eq {b b2 : Nat → Int32} {cnt e w D : Nat} (h : ∀ j, j < cnt → b2 j = b j) (he : e ≤ 1) : ∀ j, j < cnt + (e + D) → gcS b2 cnt e w D j = gcS b cnt e w D j := fun j hj => by
  unfold gcS
  by_cases e0 : e = 0
  · rw [if_pos e0, if_pos e0]; unfold gcF
    by_cases g : j < cnt + (e + D) ∧ cnt + (e + D) ≤ j + D
    · rw [if_pos g, if_pos g]
    · rw [if_neg g, if_neg g]; exact h j (by omega)
  · rw [if_neg e0, if_neg e0]; unfold upd
    by_cases g1 : j = cnt
    · rw [if_pos g1, if_pos g1]
    · rw [if_neg g1, if_neg g1]; unfold gcF
      by_cases g : j < cnt + (e + D) ∧ cnt + (e + D) ≤ j + D
      · rw [if_pos g, if_pos g]
      · rw [if_neg g, if_neg g]; exact h j (by omega)
theorem hset_id {E : Hp} {a : Nat} {x : va_E} (h : E a = some x) : hset E a x = E := by
  funext q; unfold hset
  by_cases e : q = a
  · rw [if_pos e, e, h]
  · rw [if_neg e]
theorem sb_dg1 {w : Nat} (h : w < 10) : sb_dg w = 1 := by unfold sb_dg; rw [if_pos h]
theorem sb_dg2 {w : Nat} (h : ¬ w < 10) (h2 : w < 100) : sb_dg w = 2 := by unfold sb_dg; rw [if_neg h, if_pos h2]
theorem n10neg {a : Nat} : nI 10 * -nI a = -nI (10 * a) := by rw [Int32.mul_neg, nI_mul]
theorem neg_of {x : Int32} {w : Nat} (hw : iabs x = nI w) : (x < 0 → x = -nI w) ∧ (¬ x < 0 → x = nI w) := by
  unfold iabs at hw
  constructor
  · intro h; rw [if_pos h] at hw; rw [← hw, Int32.neg_neg]
  · intro h; rw [if_neg h] at hw; exact hw
theorem iabs_p {v : Int32} (h : 0 ≤ v) : v = iabs v := by unfold iabs; rw [if_neg (Int32.not_lt.mpr h)]
theorem iabs_n {v : Int32} (h : ¬ 0 ≤ v) : -v = iabs v := by unfold iabs; rw [if_pos (Int32.not_le.mp h)]
end GDIG
