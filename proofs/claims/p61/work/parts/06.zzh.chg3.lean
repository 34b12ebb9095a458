/-! one call: input, output, forecasts (pure) -/
section GCH3
variable {Γ : Gm} {B t ab mo n c k : Nat} {S S2 E : Hp} {q : CQ} {I : Nat → Int32} {A : Nat → Nat → Int32} {f : Nat → Int32} {R2 : Hr}
theorem fdF_c {a b : Nat → Int32} {m : Nat} {w : Int32} (h : ∀ j, j < m → a j = b j) : ∀ j, j < m + 4 → fdF a m w j = fdF b m w j := fun j hj => by
  unfold fdF upd
  repeat' split
  all_goals first | rfl | exact h j (by omega)
theorem fd5_c {a b : Nat → Int32} {m : Nat} {w1 w2 w3 w4 w5 : Int32} (h : ∀ j, j < m → a j = b j) : ∀ j, j < m + 4 + 4 + 4 + 4 + 4 → fd5 a m w1 w2 w3 w4 w5 j = fd5 b m w1 w2 w3 w4 w5 j := fdF_c (fdF_c (fdF_c (fdF_c (fdF_c h))))
theorem RV.app {w1 w2 w3 w4 w5 : Int32} (h : RV Γ B S q I A f) (h20 : q_im q + 20 ≤ 600) : RV Γ B S (qC (qI q (fd5 (q_inp q) (q_im q) w1 w2 w3 w4 w5)) (q_im q + 4 + 4 + 4 + 4 + 4) (q_rk q) (q_ro q)) (upd (upd I 14 (nI (q_im q + 4 + 4 + 4 + 4 + 4))) 2 (nI 0)) (updA A 8 (fd5 (A 8) (q_im q) w1 w2 w3 w4 w5)) f := by
  obtain ⟨h1, h2, h3, h4, h5, h6, h7⟩ := h
  have e : ∀ j, j ≠ 2 → j ≠ 14 → upd (upd I 14 (nI (q_im q + 4 + 4 + 4 + 4 + 4))) 2 (nI 0) j = I j := fun j a b => by rw [pk_un a, pk_un b]
  refine ⟨⟨by show q_im q + 4 + 4 + 4 + 4 + 4 ≤ 600; omega, by rw [pk_un (by decide), pk_us]; rfl, fd5_c h1.2.2⟩, ⟨(e 17 (by decide) (by decide)).trans h2.1, (e 18 (by decide) (by decide)).trans h2.2⟩, h3, ⟨h4.1, h4.2.1, (e 6 (by decide) (by decide)).trans h4.2.2.1, h4.2.2.2⟩, ?_, ⟨h6.1, (e 16 (by decide) (by decide)).trans h6.2.1, h6.2.2⟩, ⟨h7.1, h7.2.1, h7.2.2.1, (e 11 (by decide) (by decide)).trans h7.2.2.2.1, (h7.2.2.2.2.u (by decide)).u (by decide)⟩⟩
  exact rSv.q1 (q2 := qC (qI q (fd5 (q_inp q) (q_im q) w1 w2 w3 w4 w5)) (q_im q + 4 + 4 + 4 + 4 + 4) (q_rk q) (q_ro q)) h5 (fun _ _ => rfl) rfl (e 8 (by decide) (by decide))
theorem RV.otx {v cap cnt : Nat} {b o : Nat → Int32} (h : RV Γ B S q I A f) (h34 : cnt ≤ 34) (hb : ∀ j, j < cnt → b j = o j) : RV Γ B S (qO q v cap cnt b) (upd (upd I 16 (nI cnt)) 2 (nI 0)) (updA A 9 o) f := by
  obtain ⟨h1, h2, h3, h4, h5, h6, h7⟩ := h
  have e : ∀ j, j ≠ 2 → j ≠ 16 → upd (upd I 16 (nI cnt)) 2 (nI 0) j = I j := fun j a b => by rw [pk_un a, pk_un b]
  refine ⟨⟨h1.1, (e 14 (by decide) (by decide)).trans h1.2.1, h1.2.2⟩, ⟨(e 17 (by decide) (by decide)).trans h2.1, (e 18 (by decide) (by decide)).trans h2.2⟩, h3, ⟨h4.1, h4.2.1, (e 6 (by decide) (by decide)).trans h4.2.2.1, h4.2.2.2⟩, ?_, ⟨h34, by rw [pk_un (by decide), pk_us]; rfl, hb⟩, ⟨h7.1, h7.2.1, h7.2.2.1, (e 11 (by decide) (by decide)).trans h7.2.2.2.1, (h7.2.2.2.2.u (by decide)).u (by decide)⟩⟩
  exact rSv.q1 (q2 := qO q v cap cnt b) h5 (fun _ _ => rfl) rfl (e 8 (by decide) (by decide))
/-- another house at place 1 or 2 -/
theorem RV.q12 {i : Nat} (h : RV Γ B S q I A f) (hi : i = 2 ∨ (i = 1 ∧ RH Γ B S f R2)) (hw : Wf R2) : RV Γ B S (qQ q i R2) I A f := by
  obtain ⟨h1, h2, h3, h4, h5, h6, h7⟩ := h
  have hi2 : i = 1 ∨ i = 2 := by omega
  refine ⟨h1, h2, ?_, ⟨h4.1, h4.2.1, h4.2.2.1, fun j hj => ?_⟩, ?_, h6, ⟨?_, wf_up h7.2.1 hw, h7.2.2⟩⟩
  · show RH Γ B S f (up (q_Q q) i R2 1)
    rcases hi with z | ⟨z, h8⟩
    · rw [up_n (by omega)]; exact h3
    · rw [z, up_s]; exact h8
  · show RH Γ B S _ (up (q_Q q) i R2 (3 + (q_ol q + j) % 10))
    rw [up_n (by omega)]; exact h4.2.2.2 j hj
  · exact rSv.q1 (q2 := qQ q i R2) h5 (fun s _ => by show up (q_Q q) i R2 (13 + s) = _; exact up_n (by omega)) rfl rfl
  · show Hok Γ S (up (q_Q q) i R2 0)
    rw [up_n (by omega)]; exact h7.1
/-- alone on a floor -/
theorem sumA_0 {fl : Int32} {v : Nat} : ∀ m, cntA f fl m = 0 → sumA f fl v m = nI 0
  | 0, _ => rfl
  | m + 1, h => by
    rw [cntA] at h
    by_cases e : f (13 + 16 * m) = fl
    · rw [if_pos e] at h; omega
    · rw [sumA, if_neg e, sumA_0 m (by rw [if_neg e] at h; omega)]; decide
theorem sumA_1 {fl : Int32} {v : Nat} (hk : f (13 + 16 * k) = fl) : ∀ m, k < m → cntA f fl m ≤ 1 → sumA f fl v m = f (13 + 16 * k + 5 + v) ∧ cntA f fl m = 1
  | 0, h, _ => absurd h (Nat.not_lt_zero k)
  | m + 1, h, h1 => by
    rw [cntA] at h1 ⊢
    rw [sumA]
    by_cases e : k = m
    · subst e
      rw [if_pos hk] at h1 ⊢
      rw [if_pos hk, sumA_0 k (by omega)]
      exact ⟨by rw [nI_0]; exact Int32.zero_add _, by omega⟩
    · have ih := sumA_1 (v := v) hk m (by omega) (by omega)
      by_cases e2 : f (13 + 16 * m) = fl
      · rw [if_pos e2] at h1; omega
      · rw [if_neg e2, if_neg e2, ih.1]
        exact ⟨by rw [nI_0]; exact Int32.add_zero _, by omega⟩
theorem far_same {x y : Nat → Int32} : ∀ m, (∀ v, v < m → x v = y v) → far x y m = (-1, nI 0)
  | 0, _ => rfl
  | m + 1, h => by
    have ih := far_same m (fun v hv => h v (by omega))
    have e : iabs (x m - y m) = nI 0 := by rw [h m (by omega), Int32.sub_self]; exact iabs_0
    rw [far_p (by rw [ih, e]; exact Int32.le_refl _)]; exact ih
theorem div_1 (x : Int32) : x / nI 1 = x := by
  apply Int32.toInt_inj.mp
  rw [Int32.toInt_div, show (nI 1).toInt = 1 by decide, Int.tdiv_one]
  first
    | exact Int32.toInt_bmod x
    | exact Int32.toInt_bmod_size x
    | simp
    | (have h1 := Int32.le_toInt x; have h2 := Int32.toInt_lt x; unfold Int.bmod; omega)
theorem slp_eq {a o : Nat → Int32} {φ : Nat} (hc : c ≤ 12) (hk : k < c) (hφ : f (13 + 16 * k) = nI φ) (hφ5 : φ < 5) : slpF f (avU f a c 25) (onU f o c 5) k = (far (rw5 f k) (fun v => avgF f (f (13 + 16 * k)) v c) 5).1 := by
  unfold slpF
  rw [hφ, nI_clamp (by omega)]
  have e1 : onU f o c 5 φ = nI (cntA f (nI φ) c) := by
    unfold onU; rw [if_pos hφ5, cntA_on c (by omega)]
  have hcl := cntA_le f (nI φ) c
  rw [e1]
  by_cases e : nI (cntA f (nI φ) c) < nI 2
  · rw [if_pos e]
    have h2 := (nI_ltI (by omega) (by decide)).mp e
    have h3 : ∀ v, v < 5 → rw5 f k v = avgF f (nI φ) v c := fun v hv => by
      obtain ⟨s1, s2⟩ := sumA_1 (v := v) hφ c hk (by omega)
      unfold avgF
      rw [s2, if_neg (by decide), s1, div_1]
    rw [far_same 5 h3]
  · rw [if_neg e]
    exact congrArg (·.1) (far_c 5 (fun v _ => rfl) (fun v hv => by
      show avU f a c 25 (5 * φ + v) = _
      unfold avU
      rw [if_pos (by omega), show (5 * φ + v) / 5 = φ by omega, show (5 * φ + v) % 5 = v by omega]))
end GCH3
