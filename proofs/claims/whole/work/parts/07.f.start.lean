/-! the law from its first instruction -/
section GSTART
variable {Γ : Gm} {d : Nat} {M : Mr} {P : Po} {X : Px} {pc : Nat} {lv : List (Nat × Value)} {st rest : List Value} {E : Hp} {n kc ks : Nat}
theorem gn_X7 {ix : Nat} (hl : Cond.classLink M.1 ix "AccentHouse" ∈ wl) (hi : Cond.instantiable "AccentHouse" 11 ∈ wl) (hini : Cond.initialized "AccentHouse" ∈ wl) (dg : decode M.2.2.1 pc = .ok (.new ix, 3)) (kk : gB Γ ≤ n → (∀ a e, E a = some e → a < n) → G Γ d M P X (pc + 3) lv (.ref n :: st) (hset E n (.inr (10, dfX7))) (n + 1) kc ks) : G Γ d M P X pc lv st E n (kc + 1) (ks + 11) :=
  g_new (ci := 10) (C := "AccentHouse") (T := TX7) (ty := tyX7) rfl u_X7 tyX7_ok hl hi hini (fun j hj => by
    have h : j = 0 ∨ j = 1 ∨ j = 2 ∨ j = 3 ∨ j = 4 ∨ j = 5 ∨ j = 6 ∨ j = 7 ∨ j = 8 ∨ j = 9 ∨ j = 10 := by omega
    rcases h with rfl | rfl | rfl | rfl | rfl | rfl | rfl | rfl | rfl | rfl | rfl <;> rfl) dg kk
theorem gn_X8 {ix : Nat} (hl : Cond.classLink M.1 ix "AccentHouseModel" ∈ wl) (hi : Cond.instantiable "AccentHouseModel" 26 ∈ wl) (hini : Cond.initialized "AccentHouseModel" ∈ wl) (dg : decode M.2.2.1 pc = .ok (.new ix, 3)) (kk : gB Γ ≤ n → (∀ a e, E a = some e → a < n) → G Γ d M P X (pc + 3) lv (.ref n :: st) (hset E n (.inr (11, moObj0))) (n + 1) kc ks) : G Γ d M P X pc lv st E n (kc + 1) (ks + 26) :=
  g_new (ci := 11) (C := "AccentHouseModel") (T := TX8) (ty := tyX8) rfl u_X8 tyX8_ok hl hi hini (fun j hj => by
    have h : j = 0 ∨ j = 1 ∨ j = 2 ∨ j = 3 ∨ j = 4 ∨ j = 5 ∨ j = 6 ∨ j = 7 ∨ j = 8 ∨ j = 9 ∨ j = 10 ∨ j = 11 ∨ j = 12 ∨ j = 13 ∨ j = 14 ∨ j = 15 ∨ j = 16 ∨ j = 17 ∨ j = 18 ∨ j = 19 ∨ j = 20 ∨ j = 21 ∨ j = 22 ∨ j = 23 ∨ j = 24 ∨ j = 25 := by omega
    rcases h with rfl | rfl | rfl | rfl | rfl | rfl | rfl | rfl | rfl | rfl | rfl | rfl | rfl | rfl | rfl | rfl | rfl | rfl | rfl | rfl | rfl | rfl | rfl | rfl | rfl | rfl <;> rfl) dg kk
theorem gn_newl (hw : Cond.arrayClass .long ∈ wl) (dg : decode M.2.2.1 pc = .ok (.newarray .long, 2)) (kk : gB Γ ≤ n → (∀ a e, E a = some e → a < n) → G Γ d M P X (pc + 2) lv (.ref n :: st) (hset E n (lgE Γ (fun _ => 0))) (n + 1) kc ks) : G Γ d M P X pc lv (.int (nI 1) :: st) E n (kc + 1) (ks + 1) :=
  g_newa (t := 3) (N := 1) (ty := .long) (a0 := (1, .inr (.inl (fun _ => 0)))) rfl rfl hw (fun cA => by rw [vp_cell_l]; rfl) (nI_pos (by decide)) (nI_clamp (by decide)) (by decide) (fun U cA h => h) dg kk
theorem iI_p {j : Nat} : pI iniI (0, 0, 0, 0, 0, 0) j = iniI j := by
  unfold pI iniI
  repeat' split
  all_goals first | rfl | (exfalso; omega)
/-- the two at the start -/
theorem rv_start {S : Hp} {ab c lv cap cnt : Nat} {t2 : PT} {b : Nat → Int32} {R2 R3 : Hr} {A2 : Nat → Nat → Int32} {f : Nat → Int32} (hA : Sc iniA A2) (hok : Hok Γ S R2) (hr : Rp Γ S f c R3) (hv : Val 1200000 f c) : RV Γ (2000000 + 10000 * 0) S (qini ab t2 lv cap cnt b R2 R3 (R0 Γ)) iniI A2 f := by
  refine ⟨⟨by show 0 ≤ 600; decide, by show iniI 14 = nI 0; decide +kernel, fun j hj => absurd hj (Nat.not_lt_zero j)⟩, ⟨by show iniI 17 = nI 0; decide +kernel, by show iniI 18 = -1; decide +kernel⟩, ⟨c, hr, hv.le (by decide)⟩, ⟨by show 0 ≤ 10; decide, by show 0 < 10; decide, by show iniI 6 = nI 0; decide +kernel, fun j hj => absurd hj (Nat.not_lt_zero j)⟩, ⟨⟨0, by decide, by decide +kernel⟩, fun s hs => ⟨?_, Or.inl rfl⟩⟩, ⟨by show 0 ≤ 34; decide, by show iniI 16 = nI 0; decide +kernel, fun j hj => absurd hj (Nat.not_lt_zero j)⟩, ⟨hok, fun i hi => ?_, ?_, by decide +kernel, ⟨(0, 0, 0, 0, 0, 0), funext fun j => iI_p.symm, by decide, by decide⟩⟩⟩
  · show (iniI 8 >>> (nI s &&& 31)) &&& nI 1 = nI 0
    have e2 : ∀ s, s < 2 → (iniI 8 >>> (nI s &&& 31)) &&& nI 1 = nI 0 := by decide +kernel
    exact e2 s hs
  · show Wf (if i = 0 then R2 else if i = 1 then R3 else R0 Γ)
    by_cases h0 : i = 0
    · rw [if_pos h0]; exact hok.wf
    · rw [if_neg h0]
      by_cases h1 : i = 1
      · rw [if_pos h1]; exact hr.1
      · rw [if_neg h1]; exact R0_wf
  · rw [hA 0 (by decide) (by decide)]; rfl
theorem iv_start {S E1 E2 : Hp} {ab mo c lv cap cnt : Nat} {t2 : PT} {b : Nat → Int32} {R2 R3 : Hr} {A2 : Nat → Nat → Int32} {f : Nat → Int32} {F : Hp} {g : Nat → Int64} (hCA : CA Γ ab mo S E1 (qini ab t2 lv cap cnt b R2 R3 (R0 Γ))) (hA : Sc iniA A2) (hok : Hok Γ S R2) (hr : Rp Γ S f c R3) (hv : Val 1200000 f c) (hF : ∀ a, ¬ (mo ≤ a ∧ a < mo + 12) → F a = E1 a) (h2 : E2 = hset (MW Γ mo F iniI A2 f) (mo + 11) (lgE Γ g)) : IVo Γ ab mo 0 0 E2 (mo + 12) := by
  have hbd := hCA.bd
  have hs : Sep ab mo (mo + 12) S (qini ab t2 lv cap cnt b R2 R3 (R0 Γ)) := ⟨by omega, Nat.le_refl _, Or.inl hbd.2.2.2.2.1, Or.inl hbd.2.2.2.2.2, fun a v ha => by
    have hz := hCA.st a v ha
    exact Or.inl hz.2.2.1⟩
  have h3 : ∀ a, ¬ (mo ≤ a ∧ a < mo + 12) → E2 a = E1 a := fun a ha => by
    rw [h2, hset_n (by omega), MW_o (by omega)]; exact hF a ha
  refine ⟨S, _, iniI, A2, f, (hCA.up (n2 := mo + 12) (by omega)).away hs h3, ?_, ⟨g, by rw [h2]; exact hset_s⟩, hs, rv_start hA hok hr hv, by decide +kernel⟩
  funext a
  by_cases z : mo ≤ a ∧ a < mo + 11
  · rw [h2, hset_n (by omega)]; exact MW_in z
  · exact (MW_o z).symm
set_option maxRecDepth 100000 in
set_option maxHeartbeats 400000 in
theorem law_pre {ab : Nat} (K : ∀ E2 mo, IVo Γ ab mo 0 0 E2 (mo + 12) → G Γ 15 ML_law Pl X0 23 (lvL Γ ab mo 0) [] E2 (mo + 12) kc ks) : G Γ 15 ML_law Pl X0 0 [(0, .ref (gF Γ 9))] [] (fun _ => none) ab (kc + 1 + 10 + 1 + 970 + 1) (ks + 1 + 3632 + 26 + 13710 + 11) := by
  refine gn_X7 (wl_1 30 rfl rfl) (wl_1 31 rfl rfl) (wl_1 1 rfl rfl) dL_law_0 (fun _ _ => ?_)
  refine g_dup rfl dL_law_3 ?_
  have hz := c_X7_init (Γ := Γ) (ab := ab) (E := hset (fun _ => none) ab (.inr (10, dfX7))) hset_s
  have hy := fun (F : Hp) (mo : Nat) (h : F mo = some (.inr (11, moObj0))) => c_X8_init (Γ := Γ) h
  generalize (dayM (iniL 4) iniI 4).1 = f9 at hz hy
  refine gx_I0 (kc := kc + 1 + 10 + 1) (ks := ks + 1 + 3632 + 26) hz l_L_150 rfl (Nat.le_of_ble_eq_true rfl) (Nat.le_of_ble_eq_true rfl) rfl dL_law_4 (fun _ _ _ h => h.1) (fun E1 mo z => ?_)
  obtain ⟨-, S, q, c, hCA, ⟨t2, lv, cap, cnt, b, R2, R3, rfl, hok, hr3, hv3⟩, -⟩ := z
  refine g_astore_n (lv2 := [(1, _), (0, _)]) (by decide) rfl dL_law_7 ?_
  refine gn_X8 (wl_6 228 rfl rfl) (wl_6 229 rfl rfl) (wl_1 28 rfl rfl) dL_law_8 (fun _ _ => ?_)
  refine g_dup rfl dL_law_11 ?_
  refine gx_I0 (kc := kc + 1) (ks := ks + 1) (hy _ _ hset_s) l_L_153 rfl (Nat.le_of_ble_eq_true rfl) (Nat.le_of_ble_eq_true rfl) rfl dL_law_12 (fun _ _ _ h => h.1) (fun E2 n2 z => ?_)
  obtain ⟨-, rfl, A2, hA, rfl⟩ := z
  refine g_astore_n (lv2 := [(2, _), (1, _), (0, _)]) (by decide) rfl dL_law_15 ?_
  refine gn_ic 1 (by decide) dL_law_16 ?_
  refine gn_newl (wl_9 87 rfl rfl) dL_law_17 (fun _ _ => ?_)
  refine g_astore_n (lv2 := [(3, _), (2, _), (1, _), (0, _)]) (by decide) rfl dL_law_19 ?_
  refine gn_ic 0 (by decide) dL_law_20 ?_
  refine g_istore (lv2 := [(4, _), (3, _), (2, _), (1, _), (0, _)]) (by decide) rfl dL_law_21 ?_
  exact G.sub [4, 3, 2, 1, 0] rfl (K _ _ (iv_start hCA hA hok hr3 hv3 (fun a ha => hset_n (by omega)) rfl))
theorem law_start {ab : Nat} : G Γ 15 ML_law Pl X0 0 [(0, .ref (gF Γ 9))] [] (fun _ => none) ab 612181 7259561 :=
  G.mono (kc2 := 330 * 512 + 1 + 10 + 1 + 970 + 1) (ks2 := 10200 * 512 + 1 + 3632 + 26 + 13710 + 11) (by decide +kernel) (by decide +kernel) (law_pre (fun E2 mo h => law_loop 512 0 E2 (mo + 12) 0 (Nat.zero_add 512) h))
end GSTART
