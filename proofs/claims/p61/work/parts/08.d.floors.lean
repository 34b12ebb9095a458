/-! floors and accents (pure): what the law reckons anew -/
section GFLO
variable {f g x y : Nat → Int32} {c k m p n φ : Nat} {fl : Int32}
/-- the p-th lodger of a floor -/
theorem plF_at : ∀ (m k p : Nat), p + cntA f fl k < cntA f fl (k + m) → ∃ r, plF f fl m k p = some r ∧ k ≤ r ∧ r < k + m ∧ f (13 + 16 * r) = fl ∧ cntA f fl r = p + cntA f fl k
  | 0, k, p, h => absurd h (by rw [Nat.add_zero]; omega)
  | m + 1, k, p, h => by
    by_cases e : f (13 + 16 * k) = fl
    · have e1 : cntA f fl (k + 1) = cntA f fl k + 1 := by rw [cntA, if_pos e]
      by_cases e0 : p = 0
      · exact ⟨k, plF_0 e e0, Nat.le_refl k, by omega, e, by omega⟩
      · obtain ⟨r, h1, h2, h3, h4, h5⟩ := plF_at m (k + 1) (p - 1) (by rw [show k + 1 + m = k + (m + 1) by omega]; omega)
        exact ⟨r, by rw [plF_1 e e0]; exact h1, by omega, by omega, h4, by omega⟩
    · have e1 : cntA f fl (k + 1) = cntA f fl k := by rw [cntA, if_neg e, Nat.add_zero]
      obtain ⟨r, h1, h2, h3, h4, h5⟩ := plF_at m (k + 1) p (by rw [show k + 1 + m = k + (m + 1) by omega]; omega)
      exact ⟨r, by rw [plF_n e]; exact h1, by omega, by omega, h4, by omega⟩
theorem plF_none : ∀ (m k p : Nat), cntA f fl (k + m) ≤ p + cntA f fl k → plF f fl m k p = none
  | 0, k, p, _ => rfl
  | m + 1, k, p, h => by
    rw [show k + (m + 1) = k + 1 + m by omega] at h
    by_cases e : f (13 + 16 * k) = fl
    · have e1 : cntA f fl (k + 1) = cntA f fl k + 1 := by rw [cntA, if_pos e]
      by_cases e0 : p = 0
      · exfalso
        have : ∀ m, cntA f fl (k + 1) ≤ cntA f fl (k + 1 + m) := fun m => by
          induction m with
          | zero => exact Nat.le_refl _
          | succ m ih => exact Nat.le_trans ih (Nat.le_add_right _ _)
        have := this m; omega
      · rw [plF_1 e e0]; exact plF_none m (k + 1) (p - 1) (by omega)
    · have e1 : cntA f fl (k + 1) = cntA f fl k := by rw [cntA, if_neg e, Nat.add_zero]
      rw [plF_n e]; exact plF_none m (k + 1) p (by omega)
theorem cntA_mono {a : Nat} : ∀ {b : Nat}, a ≤ b → cntA f fl a ≤ cntA f fl b
  | 0, h => by rw [show a = 0 by omega]; exact Nat.le_refl _
  | b + 1, h => by
    by_cases e : a = b + 1
    · rw [e]; exact Nat.le_refl _
    · rw [cntA]; have := cntA_mono (show a ≤ b by omega); omega
/-- all on the five floors -/
def cnt5 (f : Nat → Int32) (c : Nat) : Nat → Nat
  | 0 => 0
  | φ + 1 => cnt5 f c φ + cntA f (nI φ) c
theorem cnt5_s (hφ : φ < 5) (h : f (13 + 16 * c) = nI φ) : ∀ q, q ≤ 5 → cnt5 f (c + 1) q = cnt5 f c q + (if φ < q then 1 else 0)
  | 0, _ => by rw [if_neg (Nat.not_lt_zero φ)]; rfl
  | q + 1, hq => by
    rw [cnt5, cnt5, cnt5_s hφ h q (by omega), cntA, h]
    by_cases e : φ = q
    · subst e; rw [if_pos rfl, if_neg (Nat.lt_irrefl φ), if_pos (Nat.lt_succ_self φ)]; omega
    · rw [if_neg (fun z => e ((nI_eq (by omega) (by omega)).mp z))]
      by_cases z : φ < q
      · rw [if_pos z, if_pos (by omega)]; omega
      · rw [if_neg z, if_neg (by omega)]; omega
theorem cnt5_all : ∀ c, Flo f c → cnt5 f c 5 = c
  | 0, _ => rfl
  | c + 1, h => by
    obtain ⟨φ, h1, h2⟩ := h c (by omega)
    rw [cnt5_s h1 h2 5 (Nat.le_refl 5), if_pos h1, cnt5_all c (fun k hk => h k (by omega))]
/-- differences -/
theorem iabs_c (a b : Int32) : iabs (a - b) = iabs (b - a) := by
  have h1 : b - a = -(a - b) := by rw [Int32.neg_sub]
  rw [h1]
  generalize a - b = d
  have a1 := Int32.le_toInt d
  have a2 := Int32.toInt_lt d
  have z0 : (0 : Int32).toInt = 0 := rfl
  have e0 : ∀ t : Int32, t < 0 ↔ t.toInt < 0 := fun t => by rw [Int32.lt_iff_toInt_lt, z0]
  by_cases z : d.toInt = -2147483648
  · have e3 : d = Int32.minValue := Int32.toInt_inj.mp z
    subst e3; decide
  · have en : (-d).toInt = -d.toInt := by rw [Int32.toInt_neg, Int.bmod_eq_of_le (by omega) (by omega)]
    unfold iabs
    by_cases e : d < 0
    · have y1 := (e0 d).mp e
      rw [if_pos e, if_neg (fun y => by have y2 := (e0 (-d)).mp y; rw [en] at y2; omega)]
    · rw [if_neg e]
      by_cases e2 : -d < 0
      · rw [if_pos e2, Int32.neg_neg]
      · rw [if_neg e2]
        have y1 : ¬ d.toInt < 0 := fun y => e ((e0 d).mpr y)
        have y2 : ¬ (-d).toInt < 0 := fun y => e2 ((e0 (-d)).mpr y)
        rw [en] at y2
        have e3 : d = 0 := Int32.toInt_inj.mp (by rw [z0]; omega)
        rw [e3]; rfl
theorem dst_comm : ∀ n, dst x y n = dst y x n
  | 0 => rfl
  | n + 1 => by rw [dst, dst, dst_comm n, iabs_c]
theorem dif_comm : ∀ n, dif x y n = dif y x n
  | 0 => rfl
  | n + 1 => by
    rw [dif, dif, dif_comm n]
    by_cases e : x n = y n
    · rw [if_pos e, if_pos e.symm]
    · rw [if_neg e, if_neg (fun z => e z.symm)]
/-- of positions -/
theorem pos_d {a b : Int32} (ha : Pos a) (hb : Pos b) : ∃ q, q ≤ 9 ∧ iabs (a - b) = nI q ∧ (q = 0 ↔ a = b) := by
  obtain ⟨p, p1, rfl⟩ := ha
  obtain ⟨r, r1, rfl⟩ := hb
  have h : ∀ p, p ≤ 9 → ∀ r, r ≤ 9 → iabs (nI p - nI r) = nI (p - r + (r - p)) := by decide +kernel
  refine ⟨p - r + (r - p), by omega, h p p1 r r1, ?_⟩
  rw [nI_eq (by omega) (by omega)]; omega
theorem dst_n (hx : ∀ v, v < 5 → Pos (x v)) (hy : ∀ v, v < 5 → Pos (y v)) : ∀ n, n ≤ 5 → ∃ s, s ≤ 9 * n ∧ dst x y n = nI s
  | 0, _ => ⟨0, Nat.le_refl 0, rfl⟩
  | n + 1, hn => by
    obtain ⟨s, s1, s2⟩ := dst_n hx hy n (by omega)
    obtain ⟨q, q1, q2, -⟩ := pos_d (hx n (by omega)) (hy n (by omega))
    exact ⟨s + q, by omega, by rw [dst, s2, q2, nI_add]⟩
theorem far_2n (hx : ∀ v, v < 5 → Pos (x v)) (hy : ∀ v, v < 5 → Pos (y v)) : ∀ n, n ≤ 5 → ∃ s, s ≤ 9 ∧ (far x y n).2 = nI s
  | 0, _ => ⟨0, by decide, rfl⟩
  | n + 1, hn => by
    obtain ⟨s, s1, s2⟩ := far_2n hx hy n (by omega)
    obtain ⟨q, q1, q2, -⟩ := pos_d (hx n (by omega)) (hy n (by omega))
    by_cases e : iabs (x n - y n) ≤ (far x y n).2
    · rw [far_p e]; exact ⟨s, s1, s2⟩
    · rw [far_n e]; exact ⟨q, q1, q2⟩
/-- alone on a floor: no slip -/
theorem slip_1 (hk : k < c) (hφ : f (13 + 16 * k) = nI φ) (h1 : cntA f (nI φ) c ≤ 1) : (far (rw5 f k) (fun v => avgF f (f (13 + 16 * k)) v c) 5).1 = -1 := by
  have h3 : ∀ v, v < 5 → rw5 f k v = avgF f (f (13 + 16 * k)) v c := fun v hv => by
    obtain ⟨s1, s2⟩ := sumA_1 (v := v) hφ c hk h1
    unfold avgF
    rw [hφ, s2, if_neg (by decide), s1, div_1]
  rw [far_same 5 h3]
theorem Rws.pos {B v : Nat} (h : Val B f c) (hk : k < c) (hv : v < 5) : Pos (rw5 f k v) := (h.2.2.1 k hk).2.2 v hv
theorem Hd.pos {B v : Nat} (h : Val B f c) (hv : v < 5) : Pos (la5 f v) := h.2.2.2.1.2.2.1 v hv
theorem avg_p {B v : Nat} (h : Val B f c) (hv : v < 5) : Pos (avgF f fl v c) := avg_pos h.2.1 (fun k hk => Rws.pos h hk hv)
theorem sumD_n {B : Nat} (h : Val B f c) : ∀ n, n ≤ c → ∃ s, s ≤ 45 * n ∧ sumD f n = nI s
  | 0, _ => ⟨0, Nat.le_refl 0, rfl⟩
  | n + 1, hn => by
    obtain ⟨s, s1, s2⟩ := sumD_n h n (by omega)
    obtain ⟨q, q1, q2⟩ := dst_n (x := rw5 f n) (y := la5 f) (fun v hv => Rws.pos h (by omega) hv) (fun v hv => Hd.pos h hv) 5 (Nat.le_refl 5)
    exact ⟨s + q, by omega, by rw [sumD, s2, q2, nI_add]⟩
end GFLO
