/-! the law's start -/
section GLST
variable {Γ : Gm} {d d1 pc ix k mc ms n kc ks : Nat} {M M1 : Mr} {P P1 : Po} {X : Px} {lv : List (Nat × Value)} {st rest As : List Value} {E : Hp}
abbrev ML_law : Mr := (RL, yL_law, cL_law, 13, some .boolean)
def Pl : Po := fun r _ _ => r = some (.int 1)
theorem gn_X7 {ix : Nat} (hl : Cond.classLink M.1 ix "AccentHouse" ∈ wl) (hi : Cond.instantiable "AccentHouse" 11 ∈ wl) (hini : Cond.initialized "AccentHouse" ∈ wl) (dg : decode M.2.2.1 pc = .ok (.new ix, 3)) (kk : gB Γ ≤ n → (∀ a e, E a = some e → a < n) → G Γ d M P X (pc + 3) lv (.ref n :: st) (hset E n (.inr (10, dfX7))) (n + 1) kc ks) : G Γ d M P X pc lv st E n (kc + 1) (ks + 11) :=
  g_new (ci := 10) (C := "AccentHouse") (T := TX7) (ty := tyX7) rfl u_X7 tyX7_ok hl hi hini (fun j hj => by
    have h : j = 0 ∨ j = 1 ∨ j = 2 ∨ j = 3 ∨ j = 4 ∨ j = 5 ∨ j = 6 ∨ j = 7 ∨ j = 8 ∨ j = 9 ∨ j = 10 := by omega
    rcases h with rfl | rfl | rfl | rfl | rfl | rfl | rfl | rfl | rfl | rfl | rfl <;> rfl) dg kk
/-- a static method's answer is a reference -/
theorem g_Sr (hC : Ct Γ d1 M1 mc ms As E n P1 X0) (lk : LkS M.1 ix M1 k) (hk : As.length = k) (hd : d1 + 1 ≤ d) (hrest : (rest.map fun v => v.category).sum ≤ 8) (hst : st = As.reverse ++ rest) (dg : decode M.2.2.1 pc = .ok (.invokestatic ix, 3)) (hv : ∀ r E1 n1, P1 r E1 n1 → ∃ a, r = some (.ref a))
    (kk : ∀ a E1 n1, P1 (some (.ref a)) E1 n1 → G Γ d M P X (pc + 3) lv (.ref a :: rest) E1 n1 kc ks) : G Γ d M P X pc lv st E n (kc + mc) (ks + ms) := g_invS hC lk hk hd hrest hst dg (fun _ _ _ h => h.elim) (fun r E1 n1 h => by
  obtain ⟨a, rfl⟩ := hv _ _ _ h
  exact kk a E1 n1 h)
theorem iniH_z {j : Nat} (hj : 7 ≤ j) : ∀ i, i ≤ 5 → iniH i j = nI 0
  | 0, _ => by rw [iniH, pk_un (by omega), pk_un (by omega)]
  | i + 1, h => by rw [iniH, pk_un (by omega)]; exact iniH_z hj i (by omega)
theorem iniL_ld : ∀ k, k ≤ 4 → ldN (iniL k) k = 0 ∧ iniL k 8 = nI 0
  | 0, _ => by
    refine ⟨?_, iniH_z (by decide) 5 (Nat.le_refl 5)⟩
    show iniH 5 12 - iniH 5 10 + iniH 5 11 = 0
    rw [iniH_z (by decide) 5 (Nat.le_refl 5), iniH_z (by decide) 5 (Nat.le_refl 5), iniH_z (by decide) 5 (Nat.le_refl 5)]; decide
  | k + 1, h => by
    obtain ⟨h1, h2⟩ := iniL_ld k (by omega)
    rw [iniL]
    refine ⟨(ldN_com (by omega) (fun j hj => nmF_o 3 hj)).trans h1, ?_⟩
    rw [nmF_o 3 (by omega), com_out (by decide) (by decide) (by omega)]; exact h2
theorem ini_gd {c : Nat} (hv : Val 1200000 (dayM (iniL 4) iniI 4).1 c) : Gd 5 (dayM (iniL 4) iniI 4).1 c := by
  obtain ⟨c2, b1, b2, b3, b4, b8, b5⟩ := day_led (I := iniI) (iniL_ok 4 (Nat.le_refl 4))
  obtain ⟨h1, h2⟩ := iniL_ld 4 (Nat.le_refl 4)
  clear b4 b5
  rw [h1] at b3
  rw [h2] at b8
  generalize (dayM (iniL 4) iniI 4).1 = f9 at *
  obtain rfl : c2 = c := (nI_eq (by omega) (by have := hv.2.1; omega)).mp (b2.1.symm.trans hv.1)
  exact ⟨hv.1, by omega, b3, 1, by decide, b8⟩
theorem iI_p {j : Nat} : pI iniI (0, 0, 0, 0, 0, 0) j = iniI j := by
  unfold pI iniI
  repeat' split
  all_goals first | rfl | (exfalso; omega)
theorem rv_start {S : Hp} {ab c lv cap cnt : Nat} {t2 : PT} {b : Nat → Int32} {R2 R3 : Hr} {f : Nat → Int32} (hok : Hok Γ S R2) (hr : Rp Γ S f c R3) (hv : Val 1200000 f c) : RV Γ 1200000 S (qini ab t2 lv cap cnt b R2 R3 (R0 Γ)) iniI iniA f := by
  refine ⟨⟨by show 0 ≤ 600; decide, by show iniI 14 = nI 0; decide +kernel, fun j hj => absurd hj (Nat.not_lt_zero j)⟩, ⟨by show iniI 17 = nI 0; decide +kernel, by show iniI 18 = -1; decide +kernel⟩, ⟨c, hr, hv⟩, ⟨by show 0 ≤ 10; decide, by show 0 < 10; decide, by show iniI 6 = nI 0; decide +kernel, fun j hj => absurd hj (Nat.not_lt_zero j)⟩, ⟨⟨0, by decide, by decide +kernel⟩, fun s hs => ⟨?_, Or.inl rfl⟩⟩, ⟨by show 0 ≤ 34; decide, by show iniI 16 = nI 0; decide +kernel, fun j hj => absurd hj (Nat.not_lt_zero j)⟩, ⟨hok, fun i hi => ?_, rfl, by decide +kernel, ⟨(0, 0, 0, 0, 0, 0), funext fun j => iI_p.symm, by decide, by decide⟩⟩⟩
  · show (iniI 8 >>> (nI s &&& 31)) &&& nI 1 = nI 0
    have e2 : ∀ s, s < 2 → (iniI 8 >>> (nI s &&& 31)) &&& nI 1 = nI 0 := by decide +kernel
    exact e2 s hs
  · show Wf (if i = 0 then R2 else if i = 1 then R3 else R0 Γ)
    by_cases h0 : i = 0
    · rw [if_pos h0]; exact hok.wf
    · rw [if_neg h0]
      by_cases h1 : i = 1
      · rw [if_pos h1]; exact hr.1
      · rw [if_neg h1]; exact R0_wf
theorem iw_start {S E1 E2 : Hp} {ab mo c lv cap cnt : Nat} {t2 : PT} {b x f g0 : Nat → Int32} {R2 R3 : Hr} (hCA : CA Γ ab mo S E1 (qini ab t2 lv cap cnt b R2 R3 (R0 Γ))) (hok : Hok Γ S R2) (hr : Rp Γ S f c R3) (hv : Val 1200000 f c) (hg : Gd 5 f c) (h2 : ∀ a, a < mo → E2 a = E1 a) (hx : E2 mo = some (.inl (gA Γ 0, 1, .inl x))) : IW Γ ab mo 1200000 5 2 g0 f c 0 none E2 (mo + 1) := by
  have hbd := hCA.bd
  have hS : S mo = none := by
    cases hz : S mo with
    | none => rfl
    | some v => have := (hCA.st mo v hz).2.2.1; omega
  exact ⟨S, _, iniI, iniA, hCA.fr2 (ra := mo) (by omega) (by omega) (by omega) hS (fun a ha _ => h2 a ha) (by omega), rv_start hok hr hv, hg, rfl, ⟨fun j hj => absurd hj (Nat.not_lt_zero j), fun t z => by cases z⟩, fun hs => absurd hs (by decide), ⟨rfl, by omega⟩, by omega, by omega, by omega, hS, x, hx⟩
theorem no12 : ∀ c, c ≤ 12 → ¬ (nI 0 ≤ nI 12 ∧ nI 12 ≤ nI c - nI 1) := by decide +kernel
end GLST
