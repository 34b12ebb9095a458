section GQ9
set_option maxRecDepth 100000 in
set_option maxHeartbeats 4000000 in
theorem c_L_house {Γ : Gm} {n : Nat} {E : Hp} {ab ra B D s0 c kp : Nat} {g0 f : Nat → Int32} {top : Option (Nat → Int32)} {L : Nat} (hI : IW Γ ab ra B D s0 g0 f c kp top E n) (hL : L ≤ 8) : Ct Γ 12 ML_house 150 60000 [.int (nI L), .ref ra] (E) n (fun r E2 n2 => ∃ e t o w, r = some (.ref o) ∧ n ≤ n2 ∧ IW Γ ab ra B D s0 g0 f c kp top E2 n2 ∧ (∃ h z, E2 o = some (.inr (0, [.ref w, .int 0, h, z]))) ∧ E2 w = some (.inl (gA Γ 1, e, .inl t)) ∧ n ≤ o ∧ n ≤ w ∧ A7 t e ∧ Txt t e L ∧ e ≤ 380) X0 := by
  refine Ct.of (by decide +kernel) rfl (Nat.le_of_ble_eq_true rfl) ?_
  have hA7 : ∀ j, j < 6 → ∃ l, l < 128 ∧ ([104, 111, 117, 115, 101, 32] : List Int32).getD j 0 = nI l := fun j hj => ⟨[104, 111, 117, 115, 101, 32].getD j 0, (show ∀ j, j < 6 → ([104, 111, 117, 115, 101, 32] : List Nat).getD j 0 < 128 ∧ ([104, 111, 117, 115, 101, 32] : List Int32).getD j 0 = nI ([104, 111, 117, 115, 101, 32].getD j 0) by decide) j hj⟩
  have hH5 : ∀ i, i < 5 → ([104, 111, 117, 115, 101, 32] : List Int32).getD i 0 = nI ([104, 111, 117, 115, 101].getD i 0) := by decide
  have hD5 : ∀ i, i < 5 → [59, 100, 97, 121, 115, 32].getD i 0 = [59, 100, 97, 121, 115].getD i 0 := by decide
  obtain ⟨-, hra0, -⟩ := hI.rra
  refine G.sub (lv2 := [(0, _), (1, _)]) [0, 1] rfl ?_
  refine G.mono (kc2 := (L * 16 + 18) + 2 + 1) (ks2 := (L * 16 + 18) * 382 + 404 + 4) (by omega) (by omega) ?_
  refine gn_sb (wl_5 163 rfl rfl) (wl_1 38 rfl rfl) (wl_1 3 rfl rfl) dL_house_0 (fun hB0 hf0 => ?_)
  refine g_dup rfl dL_house_3 ?_
  refine g_ldcS (i := 34) rfl dL_house_4 ?_
  refine gx_I0 (kc := L * 16 + 18) (ks := (L * 16 + 18) * 382) (cg_init (s := gK Γ 34) (w := gV Γ 34) (t := fun j => ([104, 111, 117, 115, 101, 32] : List Int32).getD j 0) hset_s (Or.inr ⟨34, _, rfl, rfl, rfl⟩) (Or.inr ⟨34, _, rfl, rfl, rfl, fun _ _ => rfl⟩) (fun j hj => hA7 j hj)) l_L_81 rfl (Nat.le_of_ble_eq_true rfl) (Nat.le_of_ble_eq_true rfl) rfl dL_house_6 (fun _ _ _ h => h.1) (fun E6 n6 hp => ?_)
  obtain ⟨-, v6, cap6, b6, q1, q2, q3, q4, q5⟩ := hp
  have hb6 : HB Γ ab ra B D s0 g0 f c kp top n E6 n6 n 6 b6 := ⟨hI.fr (fun q hq _ => (q3 q (by omega) (by omega)).trans (hset_n (by omega))) (by obtain ⟨-, hra, x, hx⟩ := hI.rra; exact ⟨x, ((q3 ra (by omega) (by omega)).trans (hset_n (by omega))).trans hx⟩) (Nat.le_refl _), hB0, Nat.le_refl _, by omega, v6, cap6, b6, q1, by omega, fun _ _ => rfl⟩
  have w0 : Wd b6 0 [104, 111, 117, 115, 101] := fun i hi => by
    have hi5 : i < 5 := hi
    rw [Nat.zero_add, q2 i (by omega)]; exact hH5 i hi5
  have s0w : b6 5 = nI 32 := (q2 5 (by decide)).trans (by decide)
  refine g_aload_n 1 rfl dL_house_9 ?_
  refine hb_next hb6 l_L_84 (Nat.le_of_ble_eq_true rfl) (Nat.le_of_ble_eq_true rfl) dL_house_10 (fun m10 E10 h10 hb10 => ?_)
  refine gn_bp 20 (by decide) dL_house_13 ?_
  refine gn_irem (by omega) (by decide) (by decide) dL_house_15 ?_
  refine G.mono (kc2 := (L * 16 + 17) + 1) (ks2 := (L * 16 + 17) * 382 + 382) (by omega) (by omega) ?_
  refine hb_i (kc := L * 16 + 17) (ks := (L * 16 + 17) * 382) hb10 (by omega) (by omega) l_L_88 (Nat.le_of_ble_eq_true rfl) (Nat.le_of_ble_eq_true rfl) dL_house_16 (fun E16 n16 b16 q16 eq16 hb16 f16 g16 => ?_)
  have n16 : Nm b16 5 q16 (m10 % 20) := g16 5 rfl s0w
  have dd16 := dgs_2 (w := m10 % 20) (by omega)
  refine gn_bp 32 (by decide) dL_house_19 ?_
  refine G.mono (kc2 := (L * 16 + 16) + 1) (ks2 := (L * 16 + 16) * 382 + 382) (by omega) (by omega) ?_
  refine hb_c (kc := L * 16 + 16) (ks := (L * 16 + 16) * 382) hb16 (by decide) (by omega) l_L_91 (Nat.le_of_ble_eq_true rfl) (Nat.le_of_ble_eq_true rfl) dL_house_21 (fun E21 n21 b21 hb21 f21 g21 => ?_)
  refine g_aload_n 1 rfl dL_house_24 ?_
  refine hb_next hb21 l_L_84 (Nat.le_of_ble_eq_true rfl) (Nat.le_of_ble_eq_true rfl) dL_house_25 (fun m25 E25 h25 hb25 => ?_)
  refine gn_bp 30 (by decide) dL_house_28 ?_
  refine gn_irem (by omega) (by decide) (by decide) dL_house_30 ?_
  refine G.mono (kc2 := (L * 16 + 15) + 1) (ks2 := (L * 16 + 15) * 382 + 382) (by omega) (by omega) ?_
  refine hb_i (kc := L * 16 + 15) (ks := (L * 16 + 15) * 382) hb25 (by omega) (by omega) l_L_88 (Nat.le_of_ble_eq_true rfl) (Nat.le_of_ble_eq_true rfl) dL_house_31 (fun E31 n31 b31 q31 eq31 hb31 f31 g31 => ?_)
  have n31 : Nm b31 q16 q31 (m25 % 30) := g31 q16 rfl g21
  have dd31 := dgs_2 (w := m25 % 30) (by omega)
  refine g_ldcS (i := 35) rfl dL_house_34 ?_
  refine G.mono (kc2 := (L * 16 + 14) + 1) (ks2 := (L * 16 + 14) * 382 + 382) (by omega) (by omega) ?_
  refine hb_s (i := 35) (N := 9) (W := [59, 108, 97, 110, 100, 108, 97, 100, 121]) (kc := L * 16 + 14) (ks := (L * 16 + 14) * 382) hb31 rfl rfl rfl (by decide) (by decide) (by omega) l_L_96 (Nat.le_of_ble_eq_true rfl) (Nat.le_of_ble_eq_true rfl) dL_house_36 (fun E36 n36 b36 hb36 f36 g36 => ?_)
  have hd36 : HdP b36 q31 := ⟨q16, m10 % 20, m25 % 30, by omega, by omega, w0.of (fun j hj => by change j < 0 + 5 at hj; exact (f36 j (by omega)).trans ((f31 j (by omega)).trans ((f21 j (by omega)).trans (f16 j (by omega))))), n16.of (fun j hj => (f36 j (by omega)).trans ((f31 j (by omega)).trans (f21 j hj))), n31.of (fun j hj => f36 j hj), g36⟩
  refine g_astore_n (lv2 := [(2, _), (0, _), (1, _)]) (by decide) rfl dL_house_39 ?_
  refine gn_ic 0 (by decide) dL_house_40 ?_
  refine g_istore_n (lv2 := [(3, _), (2, _), (0, _), (1, _)]) (by decide) rfl dL_house_41 ?_
  have L42 : ∀ (m42 : Nat) (i42 : Nat) (E42 : Hp) (n42 : Nat) (b42 : Nat → Int32), (i42 + m42 = 5) → (HB Γ ab ra B D s0 g0 f c kp top n E42 n42 n (q31 + 9 + 2 * i42) b42) → (HdP b42 q31) → (Nms b42 i42 (q31 + 9) (q31 + 9 + 2 * i42)) → G Γ 12 ML_house (fun r E2 n2 => ∃ e t o w, r = some (.ref o) ∧ n ≤ n2 ∧ IW Γ ab ra B D s0 g0 f c kp top E2 n2 ∧ (∃ h z, E2 o = some (.inr (0, [.ref w, .int 0, h, z]))) ∧ E2 w = some (.inl (gA Γ 1, e, .inl t)) ∧ n ≤ o ∧ n ≤ w ∧ A7 t e ∧ Txt t e L ∧ e ≤ 380) X0 42 [(0, .int (nI L)), (1, .ref ra), (2, .ref n), (3, .int (nI i42))] [] (E42) n42 (m42 * 2 + (L * 16 + 4)) ((m42 * 2 + (L * 16 + 4)) * 382) := by
    intro m42
    induction m42 with
    | zero =>
      intro i42 E42 n42 b42 hi42 hb42 hd42 hn42
      refine g_iload_n 3 rfl dL_house_42 ?_
      refine gn_ic 5 (by decide) dL_house_43 ?_
      refine gn_icmp_ge (by omega) (by omega) (tgt := 70) (by decide) dL_house_44 (fun cc1 => ?_) (fun cc1 => ?_)
      · -- t 70
        obtain rfl : i42 = 5 := by omega
        refine g_aload_n 1 rfl dL_house_70 ?_
        refine hb_next hb42 l_L_84 (Nat.le_of_ble_eq_true rfl) (Nat.le_of_ble_eq_true rfl) dL_house_71 (fun m71 E71 h71 hb71 => ?_)
        refine gn_ic 5 (by decide) dL_house_74 ?_
        refine gn_irem (by omega) (by decide) (by decide) dL_house_75 ?_
        obtain ⟨sh, hsh, esh⟩ : ∃ t, t < 5 ∧ m71 % 5 = t := ⟨_, by omega, rfl⟩
        rw [esh]
        refine g_istore_n (lv2 := [(3, _), (0, _), (1, _), (2, _)]) (by decide) rfl dL_house_76 ?_
        refine gn_ic 0 (by decide) dL_house_77 ?_
        refine g_istore (lv2 := [(4, _), (3, _), (0, _), (1, _), (2, _)]) (by decide) rfl dL_house_78 ?_
        have L80 : ∀ (m80 : Nat) (i80 : Nat) (E80 : Hp) (n80 : Nat) (b80 : Nat → Int32) (p80 : Nat), (i80 + m80 = L) → (HB Γ ab ra B D s0 g0 f c kp top n E80 n80 n p80 b80) → (PreP b80 sh i80 p80) → (q31 + 19 + 23 * i80 ≤ p80 ∧ p80 ≤ q31 + 19 + 25 * i80) → G Γ 12 ML_house (fun r E2 n2 => ∃ e t o w, r = some (.ref o) ∧ n ≤ n2 ∧ IW Γ ab ra B D s0 g0 f c kp top E2 n2 ∧ (∃ h z, E2 o = some (.inr (0, [.ref w, .int 0, h, z]))) ∧ E2 w = some (.inl (gA Γ 1, e, .inl t)) ∧ n ≤ o ∧ n ≤ w ∧ A7 t e ∧ Txt t e L ∧ e ≤ 380) X0 80 [(0, .int (nI L)), (1, .ref ra), (2, .ref n), (3, .int (nI sh)), (4, .int (nI i80))] [] (E80) n80 (m80 * 16 + 4) ((m80 * 16 + 4) * 382) := by
          intro m80
          induction m80 with
          | zero =>
            intro i80 E80 n80 b80 p80 hi80 hb80 hp80 hl80
            refine g_iload 4 rfl dL_house_80 ?_
            refine g_iload_n 0 rfl dL_house_82 ?_
            refine gn_icmp_ge (by omega) (by omega) (tgt := 172) (by decide) dL_house_83 (fun cc2 => ?_) (fun cc2 => ?_)
            · -- t 172
              obtain rfl : L = i80 := by omega
              refine g_aload_n 2 rfl dL_house_172 ?_
              refine g_ldcS (i := 37) rfl dL_house_173 ?_
              refine G.mono (kc2 := (3) + 1) (ks2 := (3) * 382 + 382) (by omega) (by omega) ?_
              refine hb_s (i := 37) (N := 6) (W := [59, 100, 97, 121, 115, 32]) (kc := 3) (ks := (3) * 382) hb80 rfl rfl rfl (by decide) (by decide) (by omega) l_L_96 (Nat.le_of_ble_eq_true rfl) (Nat.le_of_ble_eq_true rfl) dL_house_175 (fun E175 n175 b175 hb175 f175 g175 => ?_)
              refine gn_ic 1 (by decide) dL_house_178 ?_
              refine g_aload_n 1 rfl dL_house_179 ?_
              refine hb_next hb175 l_L_84 (Nat.le_of_ble_eq_true rfl) (Nat.le_of_ble_eq_true rfl) dL_house_180 (fun m180 E180 h180 hb180 => ?_)
              refine gn_ic 5 (by decide) dL_house_183 ?_
              refine gn_irem (by omega) (by decide) (by decide) dL_house_184 ?_
              refine gn_iadd dL_house_185 ?_
              refine G.mono (kc2 := (2) + 1) (ks2 := (2) * 382 + 382) (by omega) (by omega) ?_
              refine hb_i (kc := 2) (ks := (2) * 382) hb180 (by omega) (by omega) l_L_88 (Nat.le_of_ble_eq_true rfl) (Nat.le_of_ble_eq_true rfl) dL_house_186 (fun E186 n186 b186 q186 eq186 hb186 f186 g186 => ?_)
              have dd186 := dgs_1 (w := 1 + m180 % 5) (by omega)
              have nn186 := g186 (p80 + 5) rfl (g175 5 (by decide))
              have t186 : Txt b186 q186 L := Txt.mk (hp80.of (q := p80) (fun j hj => (f186 j (by omega)).trans (f175 j hj)) (Nat.le_refl _)) hsh (fun i hi => by have hi5 : i < 5 := hi; rw [← hD5 i hi5]; exact (f186 _ (by omega)).trans (g175 i (show i < 6 by omega))) (by omega) (by omega) nn186
              obtain ⟨hI2, hB2, ha2, hn2, v2, cap2, b2, hS2, hv2, hb2⟩ := hb186
              have hcc : q186 ≠ cap2 := by obtain ⟨-, -, -, hg, -⟩ := id hS2; unfold CapG at hg; omega
              refine G.mono (kc2 := 0 + 2) (ks2 := 0 + 404) (by omega) (by omega) ?_
              refine gv_V (kc := 0) (ks := 0) (cg_toString hS2 hcc) l_L_103 rfl hS2.rcv (Nat.le_of_ble_eq_true rfl) (Nat.le_of_ble_eq_true rfl) rfl dL_house_189 ?_
              have h7 : ∀ j, j < q186 → va_cpy b2 (fun _ => nI 0) 0 0 (q186 - 0) j = b2 j := fun j hj => sb_cpy0 (by omega)
              obtain ⟨⟨ml2, hs2⟩, hvv2, hb72, hg2, hc2⟩ := hS2
              obtain ⟨-, hra, x, hx⟩ := hI2.rra
              exact g_aret ⟨q186, va_cpy b2 (fun _ => nI 0) 0 0 (q186 - 0), n186, n186 + 1, rfl, by omega, hI2.fr (fun q hq _ => (hset_n (by omega)).trans (hset_n (by omega))) ⟨x, ((hset_n (by omega)).trans (hset_n (by omega))).trans hx⟩ (by omega), ⟨_, _, (hset_n (by omega)).trans hset_s⟩, hset_s, by omega, by omega, fun j hj => by rw [h7 j hj]; exact hb72 j (by omega), t186.of (fun j hj => (h7 j hj).trans (hb2 j hj)), by omega⟩ rfl dL_house_192
            · -- f 86
              exfalso; omega
          | succ m80 ih80 =>
            intro i80 E80 n80 b80 p80 hi80 hb80 hp80 hl80
            refine g_iload 4 rfl dL_house_80 ?_
            refine g_iload_n 0 rfl dL_house_82 ?_
            refine gn_icmp_ge (by omega) (by omega) (tgt := 172) (by decide) dL_house_83 (fun cc3 => ?_) (fun cc3 => ?_)
            · -- t 172
              exfalso; omega
            · -- f 86
              refine g_aload_n 2 rfl dL_house_86 ?_
              refine g_ldcS (i := 36) rfl dL_house_87 ?_
              refine G.mono (kc2 := (m80 * 16 + 19) + 1) (ks2 := (m80 * 16 + 19) * 382 + 382) (by omega) (by omega) ?_
              refine hb_s (i := 36) (N := 8) (W := [59, 108, 111, 100, 103, 101, 114, 32]) (kc := m80 * 16 + 19) (ks := (m80 * 16 + 19) * 382) hb80 rfl rfl rfl (by decide) (by decide) (by omega) l_L_96 (Nat.le_of_ble_eq_true rfl) (Nat.le_of_ble_eq_true rfl) dL_house_89 (fun E89 n89 b89 hb89 f89 g89 => ?_)
              refine gn_bp 97 (by decide) dL_house_92 ?_
              refine g_iload 4 rfl dL_house_94 ?_
              refine gn_iadd dL_house_96 ?_
              refine g_i2c dL_house_97 ?_
              refine g_top (y := nI (97 + i80)) (a7_all (97 + i80) (by omega)).2.2.2 ?_
              refine G.mono (kc2 := (m80 * 16 + 18) + 1) (ks2 := (m80 * 16 + 18) * 382 + 382) (by omega) (by omega) ?_
              refine hb_c (kc := m80 * 16 + 18) (ks := (m80 * 16 + 18) * 382) hb89 (by omega) (by omega) l_L_91 (Nat.le_of_ble_eq_true rfl) (Nat.le_of_ble_eq_true rfl) dL_house_98 (fun E98 n98 b98 hb98 f98 g98 => ?_)
              refine gn_bp 32 (by decide) dL_house_101 ?_
              refine G.mono (kc2 := (m80 * 16 + 17) + 1) (ks2 := (m80 * 16 + 17) * 382 + 382) (by omega) (by omega) ?_
              refine hb_c (kc := m80 * 16 + 17) (ks := (m80 * 16 + 17) * 382) hb98 (by decide) (by omega) l_L_91 (Nat.le_of_ble_eq_true rfl) (Nat.le_of_ble_eq_true rfl) dL_house_103 (fun E103 n103 b103 hb103 f103 g103 => ?_)
              refine g_iload_n 3 rfl dL_house_106 ?_
              refine g_iload 4 rfl dL_house_107 ?_
              refine gn_ic 3 (by decide) dL_house_109 ?_
              refine gn_idiv (by omega) (by decide) (by decide) dL_house_110 ?_
              refine gn_iadd dL_house_111 ?_
              refine gn_ic 5 (by decide) dL_house_112 ?_
              refine gn_irem (by omega) (by decide) (by decide) dL_house_113 ?_
              refine G.mono (kc2 := (m80 * 16 + 16) + 1) (ks2 := (m80 * 16 + 16) * 382 + 382) (by omega) (by omega) ?_
              refine hb_i (kc := m80 * 16 + 16) (ks := (m80 * 16 + 16) * 382) hb103 (by omega) (by omega) l_L_88 (Nat.le_of_ble_eq_true rfl) (Nat.le_of_ble_eq_true rfl) dL_house_114 (fun E114 n114 b114 q114 eq114 hb114 f114 g114 => ?_)
              have n114 : Nm b114 (p80 + 8 + 1) q114 ((sh + i80 / 3) % 5) := g114 (p80 + 8 + 1) rfl g103
              have dd114 := dgs_1 (w := (sh + i80 / 3) % 5) (by omega)
              refine gn_bp 32 (by decide) dL_house_117 ?_
              refine G.mono (kc2 := (m80 * 16 + 15) + 1) (ks2 := (m80 * 16 + 15) * 382 + 382) (by omega) (by omega) ?_
              refine hb_c (kc := m80 * 16 + 15) (ks := (m80 * 16 + 15) * 382) hb114 (by decide) (by omega) l_L_91 (Nat.le_of_ble_eq_true rfl) (Nat.le_of_ble_eq_true rfl) dL_house_119 (fun E119 n119 b119 hb119 f119 g119 => ?_)
              refine g_aload_n 1 rfl dL_house_122 ?_
              refine hb_next hb119 l_L_84 (Nat.le_of_ble_eq_true rfl) (Nat.le_of_ble_eq_true rfl) dL_house_123 (fun m123 E123 h123 hb123 => ?_)
              refine gn_sp 150 (by decide) dL_house_126 ?_
              refine gn_irem (by omega) (by decide) (by decide) dL_house_129 ?_
              refine G.mono (kc2 := (m80 * 16 + 14) + 1) (ks2 := (m80 * 16 + 14) * 382 + 382) (by omega) (by omega) ?_
              refine hb_i (kc := m80 * 16 + 14) (ks := (m80 * 16 + 14) * 382) hb123 (by omega) (by omega) l_L_88 (Nat.le_of_ble_eq_true rfl) (Nat.le_of_ble_eq_true rfl) dL_house_130 (fun E130 n130 b130 q130 eq130 hb130 f130 g130 => ?_)
              have n130 : Nm b130 q114 q130 (m123 % 150) := g130 q114 rfl g119
              have dd130 := dgs_3 (w := m123 % 150) (by omega)
              have ho130 : LodP b130 i80 ((sh + i80 / 3) % 5) p80 q130 := ⟨g89.of (fun j hj => by change j < p80 + 8 at hj; exact (f130 j (by omega)).trans ((f119 j (by omega)).trans ((f114 j (by omega)).trans ((f103 j (by omega)).trans (f98 j (by omega)))))), ((f130 _ (by omega)).trans ((f119 _ (by omega)).trans ((f114 _ (by omega)).trans (f103 _ (by omega))))).trans g98, q114, m123 % 150, by omega, n114.of (fun j hj => (f130 j (by omega)).trans (f119 j hj)), n130⟩
              have hp130 : PreP b130 sh i80 p80 := hp80.of (q := p80) (fun j hj => (f130 j (by omega)).trans ((f119 j (by omega)).trans ((f114 j (by omega)).trans ((f103 j (by omega)).trans ((f98 j (by omega)).trans (f89 j hj)))))) (Nat.le_refl _)
              refine g_pop rfl dL_house_133 ?_
              refine gn_ic 0 (by decide) dL_house_134 ?_
              refine g_istore (lv2 := [(5, _), (0, _), (1, _), (2, _), (3, _), (4, _)]) (by decide) rfl dL_house_135 ?_
              have L137 : ∀ (m137 : Nat) (i137 : Nat) (E137 : Hp) (n137 : Nat) (b137 : Nat → Int32), (i137 + m137 = 5) → (HB Γ ab ra B D s0 g0 f c kp top n E137 n137 n (q130 + 2 * i137) b137) → (PreP b137 sh i80 p80) → (LodP b137 i80 ((sh + i80 / 3) % 5) p80 q130) → (Nms b137 i137 q130 (q130 + 2 * i137)) → G Γ 12 ML_house (fun r E2 n2 => ∃ e t o w, r = some (.ref o) ∧ n ≤ n2 ∧ IW Γ ab ra B D s0 g0 f c kp top E2 n2 ∧ (∃ h z, E2 o = some (.inr (0, [.ref w, .int 0, h, z]))) ∧ E2 w = some (.inl (gA Γ 1, e, .inl t)) ∧ n ≤ o ∧ n ≤ w ∧ A7 t e ∧ Txt t e L ∧ e ≤ 380) X0 137 [(0, .int (nI L)), (1, .ref ra), (2, .ref n), (3, .int (nI sh)), (4, .int (nI i80)), (5, .int (nI i137))] [] (E137) n137 (m137 * 2 + (m80 * 16 + 4)) ((m137 * 2 + (m80 * 16 + 4)) * 382) := by
                intro m137
                induction m137 with
                | zero =>
                  intro i137 E137 n137 b137 hi137 hb137 hp137 ho137 hn137
                  refine g_iload 5 rfl dL_house_137 ?_
                  refine gn_ic 5 (by decide) dL_house_139 ?_
                  refine gn_icmp_ge (by omega) (by omega) (tgt := 166) (by decide) dL_house_140 (fun cc4 => ?_) (fun cc4 => ?_)
                  · -- t 166
                    obtain rfl : i137 = 5 := by omega
                    refine gn_inc (lv2 := [(4, _), (0, _), (1, _), (2, _), (3, _), (5, _)]) 4 rfl (by decide) rfl dL_house_166 ?_
                    refine g_goto (tgt := 80) (by decide) dL_house_169 ?_
                    refine G.sub [1, 2, 3, 4, 0] rfl ?_
                    refine G.mono (kc2 := m80 * 16 + 4) (ks2 := (m80 * 16 + 4) * 382) (by omega) (by omega) ?_
                    exact ih80 (i80 + 1) _ _ b137 (q130 + 2 * 5) (by omega) hb137 (hp137.step ho137 hn137) (by omega)
                  · -- f 143
                    exfalso; omega
                | succ m137 ih137 =>
                  intro i137 E137 n137 b137 hi137 hb137 hp137 ho137 hn137
                  refine g_iload 5 rfl dL_house_137 ?_
                  refine gn_ic 5 (by decide) dL_house_139 ?_
                  refine gn_icmp_ge (by omega) (by omega) (tgt := 166) (by decide) dL_house_140 (fun cc5 => ?_) (fun cc5 => ?_)
                  · -- t 166
                    exfalso; omega
                  · -- f 143
                    refine g_aload_n 2 rfl dL_house_143 ?_
                    refine gn_bp 32 (by decide) dL_house_144 ?_
                    refine G.mono (kc2 := ((m137 * 2 + (m80 * 16 + 4)) + 1) + 1) (ks2 := ((m137 * 2 + (m80 * 16 + 4)) + 1) * 382 + 382) (by omega) (by omega) ?_
                    refine hb_c (kc := (m137 * 2 + (m80 * 16 + 4)) + 1) (ks := ((m137 * 2 + (m80 * 16 + 4)) + 1) * 382) hb137 (by decide) (by omega) l_L_91 (Nat.le_of_ble_eq_true rfl) (Nat.le_of_ble_eq_true rfl) dL_house_146 (fun E146 n146 b146 hb146 f146 g146 => ?_)
                    refine g_aload_n 1 rfl dL_house_149 ?_
                    refine hb_next hb146 l_L_84 (Nat.le_of_ble_eq_true rfl) (Nat.le_of_ble_eq_true rfl) dL_house_150 (fun m150 E150 h150 hb150 => ?_)
                    refine gn_bp 10 (by decide) dL_house_153 ?_
                    refine gn_irem (by omega) (by decide) (by decide) dL_house_155 ?_
                    refine G.mono (kc2 := ((m137 * 2 + (m80 * 16 + 4)) + 0) + 1) (ks2 := ((m137 * 2 + (m80 * 16 + 4)) + 0) * 382 + 382) (by omega) (by omega) ?_
                    refine hb_i (kc := (m137 * 2 + (m80 * 16 + 4)) + 0) (ks := ((m137 * 2 + (m80 * 16 + 4)) + 0) * 382) hb150 (by omega) (by omega) l_L_88 (Nat.le_of_ble_eq_true rfl) (Nat.le_of_ble_eq_true rfl) dL_house_156 (fun E156 n156 b156 q156 eq156 hb156 f156 g156 => ?_)
                    have dd156 := dgs_1 (w := m150 % 10) (by omega)
                    have e156 : q156 = q130 + 2 * (i137 + 1) := by omega
                    subst e156
                    refine g_pop rfl dL_house_159 ?_
                    refine gn_inc (lv2 := [(5, _), (0, _), (1, _), (2, _), (3, _), (4, _)]) 5 rfl (by decide) rfl dL_house_160 ?_
                    refine g_goto (tgt := 137) (by decide) dL_house_163 ?_
                    refine G.sub [1, 2, 3, 4, 5, 0] rfl ?_
                    refine G.mono (kc2 := m137 * 2 + (m80 * 16 + 4)) (ks2 := (m137 * 2 + (m80 * 16 + 4)) * 382) (by omega) (by omega) ?_
                    exact ih137 (i137 + 1) _ _ b156 (by omega) hb156 (hp137.of (q := q130 + 2 * i137) (fun j hj => (f156 j (by omega)).trans (f146 j hj)) (by have := ho137.lt; omega)) (ho137.of (q := q130 + 2 * i137) (fun j hj => (f156 j (by omega)).trans (f146 j hj)) (by omega)) ⟨q130 + 2 * i137, m150 % 10, by omega, hn137.of (fun j hj => (f156 j (by omega)).trans (f146 j hj)), g156 _ rfl g146⟩
              refine G.sub [1, 2, 3, 4, 5, 0] rfl ?_
              refine G.mono (kc2 := 5 * 2 + (m80 * 16 + 4)) (ks2 := (5 * 2 + (m80 * 16 + 4)) * 382) (by omega) (by omega) ?_
              exact L137 5 0 _ _ b130 (by omega) hb130 hp130 ho130 rfl
        refine G.sub [2, 3, 4, 1, 0] rfl ?_
        refine G.mono (kc2 := L * 16 + 4) (ks2 := (L * 16 + 4) * 382) (by omega) (by omega) ?_
        exact L80 L 0 _ _ b42 (q31 + 9 + 2 * 5) (by omega) hb71 ⟨q31, q31 + 9 + 2 * 5, hd42, hn42, rfl⟩ (by omega)
      · -- f 47
        exfalso; omega
    | succ m42 ih42 =>
      intro i42 E42 n42 b42 hi42 hb42 hd42 hn42
      refine g_iload_n 3 rfl dL_house_42 ?_
      refine gn_ic 5 (by decide) dL_house_43 ?_
      refine gn_icmp_ge (by omega) (by omega) (tgt := 70) (by decide) dL_house_44 (fun cc6 => ?_) (fun cc6 => ?_)
      · -- t 70
        exfalso; omega
      · -- f 47
        refine g_aload_n 2 rfl dL_house_47 ?_
        refine gn_bp 32 (by decide) dL_house_48 ?_
        refine G.mono (kc2 := ((m42 * 2 + (L * 16 + 4)) + 1) + 1) (ks2 := ((m42 * 2 + (L * 16 + 4)) + 1) * 382 + 382) (by omega) (by omega) ?_
        refine hb_c (kc := (m42 * 2 + (L * 16 + 4)) + 1) (ks := ((m42 * 2 + (L * 16 + 4)) + 1) * 382) hb42 (by decide) (by omega) l_L_91 (Nat.le_of_ble_eq_true rfl) (Nat.le_of_ble_eq_true rfl) dL_house_50 (fun E50 n50 b50 hb50 f50 g50 => ?_)
        refine g_aload_n 1 rfl dL_house_53 ?_
        refine hb_next hb50 l_L_84 (Nat.le_of_ble_eq_true rfl) (Nat.le_of_ble_eq_true rfl) dL_house_54 (fun m54 E54 h54 hb54 => ?_)
        refine gn_bp 10 (by decide) dL_house_57 ?_
        refine gn_irem (by omega) (by decide) (by decide) dL_house_59 ?_
        refine G.mono (kc2 := ((m42 * 2 + (L * 16 + 4)) + 0) + 1) (ks2 := ((m42 * 2 + (L * 16 + 4)) + 0) * 382 + 382) (by omega) (by omega) ?_
        refine hb_i (kc := (m42 * 2 + (L * 16 + 4)) + 0) (ks := ((m42 * 2 + (L * 16 + 4)) + 0) * 382) hb54 (by omega) (by omega) l_L_88 (Nat.le_of_ble_eq_true rfl) (Nat.le_of_ble_eq_true rfl) dL_house_60 (fun E60 n60 b60 q60 eq60 hb60 f60 g60 => ?_)
        have dd60 := dgs_1 (w := m54 % 10) (by omega)
        have e60 : q60 = q31 + 9 + 2 * (i42 + 1) := by omega
        subst e60
        refine g_pop rfl dL_house_63 ?_
        refine gn_inc (lv2 := [(3, _), (0, _), (1, _), (2, _)]) 3 rfl (by decide) rfl dL_house_64 ?_
        refine g_goto (tgt := 42) (by decide) dL_house_67 ?_
        refine G.sub [1, 2, 3, 0] rfl ?_
        refine G.mono (kc2 := m42 * 2 + (L * 16 + 4)) (ks2 := (m42 * 2 + (L * 16 + 4)) * 382) (by omega) (by omega) ?_
        exact ih42 (i42 + 1) _ _ b60 (by omega) hb60 (hd42.of (q := q31 + 9 + 2 * i42) (fun j hj => (f60 j (by omega)).trans (f50 j hj)) (by omega)) ⟨q31 + 9 + 2 * i42, m54 % 10, by omega, hn42.of (fun j hj => (f60 j (by omega)).trans (f50 j hj)), g60 _ rfl g50⟩
  refine G.sub [2, 3, 1, 0] rfl ?_
  refine G.mono (kc2 := 5 * 2 + (L * 16 + 4)) (ks2 := (5 * 2 + (L * 16 + 4)) * 382) (by omega) (by omega) ?_
  exact L42 5 0 _ _ b36 (by omega) hb36 hd36 rfl
end GQ9
