section GQ10
set_option maxRecDepth 100000 in
set_option maxHeartbeats 4000000 in
theorem c_L_type {Γ : Gm} {n : Nat} {E : Hp} {ab ra B : Nat} {f t : Nat → Int32} {o w e : Nat} (hI : IT Γ ab ra B f (tyT t e) 0 E n) (hs0 : ∃ h z, E o = some (.inr (0, [.ref w, .int 0, h, z]))) (hb0 : E w = some (.inl (gA Γ 1, e, .inl t))) (hoa : ab + 642 ≤ o) (hwa : ab + 642 ≤ w) (ht7 : A7 t e) (he : e ≤ 380) : Ct Γ 9 ML_type 1 5 [.ref ab, .ref o] (E) n (fun r E2 n2 => r = some (.int (nI e)) ∧ n2 = n + 1 ∧ ∃ m, e ≤ m ∧ IT Γ ab ra B f (tyT t e) m E2 n2) X0 := by
  refine Ct.of (by decide +kernel) rfl (Nat.le_of_ble_eq_true rfl) ?_
  refine G.lt (fun hlt hgB => ?_)
  obtain ⟨h1o, z1o, hs0⟩ := hs0
  have hon := hlt _ _ hs0
  have hwn := hlt _ _ hb0
  refine G.sub (lv2 := [(0, _), (1, _)]) [0, 1] rfl ?_
  refine gn_ic 0 (by decide) dL_type_0 ?_
  refine g_istore_n (lv2 := [(2, _), (0, _), (1, _)]) (by decide) rfl dL_type_1 ?_
  refine gn_ic 5 (by decide) dL_type_2 ?_
  refine G.mono (kc2 := 0 + 1) (ks2 := 0 + 5) (by omega) (by omega) ?_
  refine gn_ni (wl_1 94 rfl rfl) (by omega) dL_type_3 (fun hB3 hf3 => ?_)
  refine g_astore_n (lv2 := [(3, _), (2, _), (0, _), (1, _)]) (by decide) rfl dL_type_5 ?_
  refine gn_ic 0 (by decide) dL_type_6 ?_
  refine g_istore (lv2 := [(4, _), (3, _), (2, _), (0, _), (1, _)]) (by decide) rfl dL_type_7 ?_
  have L9 : ∀ (m9 : Nat) (i9 : Nat) (E9 : Hp) (V9 : Nat → Int32), (i9 + m9 = (e + 19) / 20) → (IT Γ ab ra B f (tyT t e) (20 * i9) E9 n) → (E9 n = some (.inl (gA Γ 0, 5, .inl (V9)))) → (E9 o = some (.inr (0, [.ref w, .int 0, h1o, z1o]))) → (E9 w = some (.inl (gA Γ 1, e, .inl t))) → G Γ 9 ML_type (fun r E2 n2 => r = some (.int (nI e)) ∧ n2 = n + 1 ∧ ∃ m, e ≤ m ∧ IT Γ ab ra B f (tyT t e) m E2 n2) X0 9 [(0, .ref ab), (1, .ref o), (3, .ref n), (4, .int (nI (20 * i9)))] [] (E9) (n + 1) 0 0 := by
    intro m9
    induction m9 with
    | zero =>
      intro i9 E9 V9 hi9 hI9 hv9 hso9 hwo9
      have hs9 : SF Γ E9 o w := Or.inl ⟨_, _, hso9⟩
      have hb9 : BA Γ E9 w e t := Or.inl hwo9
      refine g_iload 3 rfl dL_type_9 ?_
      refine g_aload_n 1 rfl dL_type_11 ?_
      refine gv_Vz (c_J0_length_8abf5 hs9 hb9) l_L_8 rfl hs9.rcv (Nat.le_of_ble_eq_true rfl) (Nat.le_of_ble_eq_true rfl) rfl dL_type_12 ?_
      refine gn_icmp_ge (by omega) (by omega) (tgt := 102) (by decide) dL_type_15 (fun cc1 => ?_) (fun cc1 => ?_)
      · -- t 102
        have hm9 : e ≤ 20 * i9 := by omega
        refine g_aload_n 1 rfl dL_type_102 ?_
        refine gv_Vz (c_J0_length_8abf5 hs9 hb9) l_L_8 rfl hs9.rcv (Nat.le_of_ble_eq_true rfl) (Nat.le_of_ble_eq_true rfl) rfl dL_type_103 ?_
        exact g_iret ⟨rfl, rfl, 20 * i9, hm9, hI9.fr (fun _ _ => rfl) (by omega)⟩ rfl rfl dL_type_106
      · -- f 18
        exfalso; omega
    | succ m9 ih9 =>
      intro i9 E9 V9 hi9 hI9 hv9 hso9 hwo9
      have hs9 : SF Γ E9 o w := Or.inl ⟨_, _, hso9⟩
      have hb9 : BA Γ E9 w e t := Or.inl hwo9
      refine g_iload 3 rfl dL_type_9 ?_
      refine g_aload_n 1 rfl dL_type_11 ?_
      refine gv_Vz (c_J0_length_8abf5 hs9 hb9) l_L_8 rfl hs9.rcv (Nat.le_of_ble_eq_true rfl) (Nat.le_of_ble_eq_true rfl) rfl dL_type_12 ?_
      refine gn_icmp_ge (by omega) (by omega) (tgt := 102) (by decide) dL_type_15 (fun cc2 => ?_) (fun cc2 => ?_)
      · -- t 102
        exfalso; omega
      · -- f 18
        refine gn_ic 0 (by decide) dL_type_18 ?_
        refine g_istore (lv2 := [(5, _), (0, _), (1, _), (3, _), (4, _)]) (by decide) rfl dL_type_19 ?_
        have L21 : ∀ (m21 i21 : Nat), i21 + m21 = 20 → G Γ 9 ML_type (fun r E2 n2 => r = some (.int (nI e)) ∧ n2 = n + 1 ∧ ∃ m, e ≤ m ∧ IT Γ ab ra B f (tyT t e) m E2 n2) X0 21 [(0, .ref ab), (1, .ref o), (3, .ref n), (4, .int (nI (20 * i9))), (5, .int (nI i21))] [] (hset E9 n (.inl (gA Γ 0, 5, .inl (tyV V9 (tyT t e) (20 * i9) i21)))) (n + 1) 0 0 := by
          intro m21
          induction m21 with
          | zero =>
            intro i21 hi21
            have hs21 : SF Γ (hset E9 n (.inl (gA Γ 0, 5, .inl (tyV V9 (tyT t e) (20 * i9) i21)))) o w := Or.inl ⟨_, _, (hset_n (by omega)).trans hso9⟩
            have hb21 : BA Γ (hset E9 n (.inl (gA Γ 0, 5, .inl (tyV V9 (tyT t e) (20 * i9) i21)))) w e t := Or.inl ((hset_n (by omega)).trans hwo9)
            refine g_iload 4 rfl dL_type_21 ?_
            refine gn_bp 20 (by decide) dL_type_23 ?_
            refine gn_icmp_ge (by omega) (by omega) (tgt := 76) (by decide) dL_type_25 (fun cc3 => ?_) (fun cc3 => ?_)
            · -- t 76
              obtain rfl : i21 = 20 := by omega
              refine g_aload_n 0 rfl dL_type_76 ?_
              refine g_aload_n 2 rfl dL_type_77 ?_
              refine gn_ic 0 (by decide) dL_type_78 ?_
              refine gn_iald hset_s (by omega) (by decide) dL_type_79 ?_
              refine g_aload_n 2 rfl dL_type_80 ?_
              refine gn_ic 1 (by decide) dL_type_81 ?_
              refine gn_iald hset_s (by omega) (by decide) dL_type_82 ?_
              refine g_aload_n 2 rfl dL_type_83 ?_
              refine gn_ic 2 (by decide) dL_type_84 ?_
              refine gn_iald hset_s (by omega) (by decide) dL_type_85 ?_
              refine g_aload_n 2 rfl dL_type_86 ?_
              refine gn_ic 3 (by decide) dL_type_87 ?_
              refine gn_iald hset_s (by omega) (by decide) dL_type_88 ?_
              refine g_aload_n 2 rfl dL_type_89 ?_
              refine gn_ic 4 (by decide) dL_type_90 ?_
              refine gn_iald hset_s (by omega) (by decide) dL_type_91 ?_
              have hx21 : IT Γ ab ra B f (tyT t e) (20 * i9) (hset E9 n (.inl (gA Γ 0, 5, .inl (tyV V9 (tyT t e) (20 * i9) 20)))) n := hI9.fr (fun a ha => hset_n (by omega)) (Nat.le_refl _)
              obtain ⟨S, q, I, A, hCA, hRV, him, hin, o1, o2, o3, o4, o5, x, o6⟩ := hx21
              have h600 : q_im q + 20 ≤ 600 := by omega
              refine gv_Vz (c_X7_append_ok hCA.co hCA.ii h600) l_L_18 rfl (Rcv.of hCA.co rfl) (Nat.le_of_ble_eq_true rfl) (Nat.le_of_ble_eq_true rfl) rfl dL_type_92 ?_
              have hI92 : IT Γ ab ra B f (tyT t e) (20 * (i9 + 1)) (WA Γ ab (hset E9 n (.inl (gA Γ 0, 5, .inl (tyV V9 (tyT t e) (20 * i9) 20)))) (q_im q + 4 + 4 + 4 + 4 + 4) (q_rk q) (q_ro q) (fd5 (q_inp q) (q_im q) (tyV V9 (tyT t e) (20 * i9) 20 0) (tyV V9 (tyT t e) (20 * i9) 20 1) (tyV V9 (tyT t e) (20 * i9) 20 2) (tyV V9 (tyT t e) (20 * i9) 20 3) (tyV V9 (tyT t e) (20 * i9) 20 4))) n := IT.app (k := 20 * i9) hCA hRV him hin o1 o2 o3 o4 o5 o6 (tyT_b ht7) h600
              have hwn2 : WA Γ ab (hset E9 n (.inl (gA Γ 0, 5, .inl (tyV V9 (tyT t e) (20 * i9) 20)))) (q_im q + 4 + 4 + 4 + 4 + 4) (q_rk q) (q_ro q) (fd5 (q_inp q) (q_im q) (tyV V9 (tyT t e) (20 * i9) 20 0) (tyV V9 (tyT t e) (20 * i9) 20 1) (tyV V9 (tyT t e) (20 * i9) 20 2) (tyV V9 (tyT t e) (20 * i9) 20 3) (tyV V9 (tyT t e) (20 * i9) 20 4)) n = some (.inl (gA Γ 0, 5, .inl (tyV V9 (tyT t e) (20 * i9) 20))) := ((hset_n (by omega)).trans (hset_n (by omega))).trans hset_s
              have hsd : ∀ a v, E9 a = some v → a ≠ n → ab + 2 ≤ a → WA Γ ab (hset E9 n (.inl (gA Γ 0, 5, .inl (tyV V9 (tyT t e) (20 * i9) 20)))) (q_im q + 4 + 4 + 4 + 4 + 4) (q_rk q) (q_ro q) (fd5 (q_inp q) (q_im q) (tyV V9 (tyT t e) (20 * i9) 20 0) (tyV V9 (tyT t e) (20 * i9) 20 1) (tyV V9 (tyT t e) (20 * i9) 20 2) (tyV V9 (tyT t e) (20 * i9) 20 3) (tyV V9 (tyT t e) (20 * i9) 20 4)) a = some v := fun a v h1 h2 h3 => ((hset_n (by omega)).trans ((hset_n (by omega)).trans (hset_n h2))).trans h1
              refine g_istore_n (lv2 := [(2, _), (0, _), (1, _), (3, _), (4, _), (5, _)]) (by decide) rfl dL_type_95 ?_
              refine g_iinc (v := nI (20 * i9 + 20)) (lv2 := [(4, _), (2, _), (0, _), (1, _), (3, _), (5, _)]) 4 rfl (by rw [← nI_add]; rfl) (by decide) rfl dL_type_96 ?_
              refine g_goto (tgt := 9) (by decide) dL_type_99 ?_
              refine G.sub [2, 3, 4, 0] rfl ?_
              exact ih9 (i9 + 1) _ _ (by omega) hI92 hwn2 (hsd o _ hso9 (by omega) (by omega)) (hsd w _ hwo9 (by omega) (by omega))
            · -- f 28
              exfalso; omega
          | succ m21 ih21 =>
            intro i21 hi21
            have hs21 : SF Γ (hset E9 n (.inl (gA Γ 0, 5, .inl (tyV V9 (tyT t e) (20 * i9) i21)))) o w := Or.inl ⟨_, _, (hset_n (by omega)).trans hso9⟩
            have hb21 : BA Γ (hset E9 n (.inl (gA Γ 0, 5, .inl (tyV V9 (tyT t e) (20 * i9) i21)))) w e t := Or.inl ((hset_n (by omega)).trans hwo9)
            refine g_iload 4 rfl dL_type_21 ?_
            refine gn_bp 20 (by decide) dL_type_23 ?_
            refine gn_icmp_ge (by omega) (by omega) (tgt := 76) (by decide) dL_type_25 (fun cc4 => ?_) (fun cc4 => ?_)
            · -- t 76
              exfalso; omega
            · -- f 28
              refine g_aload_n 2 rfl dL_type_28 ?_
              refine g_iload 4 rfl dL_type_29 ?_
              refine gn_ic 4 (by decide) dL_type_31 ?_
              refine gn_idiv (by omega) (by decide) (by decide) dL_type_32 ?_
              refine g_aload_n 2 rfl dL_type_33 ?_
              refine g_iload 4 rfl dL_type_34 ?_
              refine gn_ic 4 (by decide) dL_type_36 ?_
              refine gn_idiv (by omega) (by decide) (by decide) dL_type_37 ?_
              refine gn_iald hset_s (by omega) (by decide) dL_type_38 ?_
              refine gn_bp 8 (by decide) dL_type_39 ?_
              refine g_ishl dL_type_41 ?_
              refine g_iload 3 rfl dL_type_42 ?_
              refine g_iload 4 rfl dL_type_44 ?_
              refine gn_iadd dL_type_46 ?_
              refine g_aload_n 1 rfl dL_type_47 ?_
              refine gv_Vz (c_J0_length_8abf5 hs21 hb21) l_L_8 rfl hs21.rcv (Nat.le_of_ble_eq_true rfl) (Nat.le_of_ble_eq_true rfl) rfl dL_type_48 ?_
              refine gn_icmp_ge (by omega) (by omega) (tgt := 66) (by decide) dL_type_51 (fun h51 => ?_) (fun h51 => ?_)
              · -- t 66
                refine gn_bp 32 (by decide) dL_type_66 ?_
                refine g_top (y := nI (tyT t e (20 * i9 + i21))) (tyT_hi (by omega)) ?_
                refine g_ior dL_type_68 ?_
                refine gn_iast hset_s (by omega) (by decide) hset_hs dL_type_69 ?_
                refine gn_inc (lv2 := [(5, _), (0, _), (1, _), (3, _), (4, _)]) 4 rfl (by decide) rfl dL_type_70 ?_
                refine g_goto (tgt := 21) (by decide) dL_type_73 ?_
                refine G.sub [1, 2, 3, 4, 0] rfl ?_
                exact ih21 (i21 + 1) (by omega)
              · -- f 54
                refine g_aload_n 1 rfl dL_type_54 ?_
                refine g_iload 3 rfl dL_type_55 ?_
                refine g_iload 4 rfl dL_type_57 ?_
                refine gn_iadd dL_type_59 ?_
                refine gv_Vz (c_J0_charAt_5068e hs21 hb21 (by omega) (by omega)) l_L_14 rfl hs21.rcv (Nat.le_of_ble_eq_true rfl) (Nat.le_of_ble_eq_true rfl) rfl dL_type_60 ?_
                refine g_top (y := nI (tyT t e (20 * i9 + i21))) (tyT_lo ht7 (by omega)).2 ?_
                refine g_goto (tgt := 68) (by decide) dL_type_63 ?_
                refine g_ior dL_type_68 ?_
                refine gn_iast hset_s (by omega) (by decide) hset_hs dL_type_69 ?_
                refine gn_inc (lv2 := [(5, _), (0, _), (1, _), (3, _), (4, _)]) 4 rfl (by decide) rfl dL_type_70 ?_
                refine g_goto (tgt := 21) (by decide) dL_type_73 ?_
                refine G.sub [1, 2, 3, 4, 0] rfl ?_
                exact ih21 (i21 + 1) (by omega)
        refine G.sub [1, 2, 3, 4, 0] rfl ?_
        refine g_world (E2 := hset E9 n (.inl (gA Γ 0, 5, .inl (tyV V9 (tyT t e) (20 * i9) 0)))) (hset_id hv9).symm ?_
        exact L21 _ 0 (Nat.zero_add _)
  refine G.sub [3, 4, 1, 0] rfl ?_
  exact L9 _ 0 _ (fun _ => nI 0) (Nat.zero_add _) (hI.fr (fun a ha => hset_n (by omega)) (Nat.le_refl _)) hset_s ((hset_n (by omega)).trans hs0) ((hset_n (by omega)).trans hb0)
end GQ10
