section GQ11
set_option maxRecDepth 100000 in
set_option maxHeartbeats 4000000 in
theorem law_loop {Γ : Gm} {ab ra : Nat} (hsl : gF Γ 10 < 2 ^ 31) : ∀ (m34 : Nat) (i34 : Nat) (E34 : Hp) (n34 s34 : Nat) (g34 f34 : Nat → Int32) (c34 k34 : Nat) (t34 : Option (Nat → Int32)), (i34 + m34 = 2) → (IW Γ ab ra (1200000 + 90000 * i34) (5 + 80 * i34) s34 g34 f34 c34 k34 t34 E34 n34) → G Γ 15 ML_law Pl X0 34 [(0, .ref (gF Γ 9)), (1, .ref ab), (2, .ref ra), (3, .int (nI 1)), (4, .int (nI i34))] [] E34 n34 (m34 * 1000) (m34 * 80000) := by
  intro m34
  induction m34 with
  | zero =>
    intro i34 E34 n34 s34 g34 f34 c34 k34 t34 hi34 hI34
    refine g_iload 4 rfl dL_law_34 ?_
    refine gn_ic 2 (by decide) dL_law_36 ?_
    refine gn_icmp_ge (by omega) (by omega) (tgt := 388) (by decide) dL_law_37 (fun cc1 => ?_) (fun cc1 => ?_)
    · -- t 388
      refine g_iload_n 3 rfl dL_law_388 ?_
      exact g_iret rfl rfl rfl dL_law_389
    · -- f 40
      exfalso; omega
  | succ m34 ih34 =>
    intro i34 E34 n34 s34 g34 f34 c34 k34 t34 hi34 hI34
    refine g_iload 4 rfl dL_law_34 ?_
    refine gn_ic 2 (by decide) dL_law_36 ?_
    refine gn_icmp_ge (by omega) (by omega) (tgt := 388) (by decide) dL_law_37 (fun cc2 => ?_) (fun cc2 => ?_)
    · -- t 388
      exfalso; omega
    · -- f 40
      refine g_iload_n 3 rfl dL_law_40 ?_
      refine gn_if_eq (by omega) (tgt := 388) (by decide) dL_law_41 (fun cc3 => ?_) (fun cc3 => ?_)
      · -- t 388
        exact absurd cc3 (by decide)
      · -- f 44
        refine g_aload_n 2 rfl dL_law_44 ?_
        refine gn_ic 0 (by decide) dL_law_45 ?_
        refine g_dup2 rfl rfl dL_law_46 ?_
        obtain ⟨hra1, hra2, x34, hx34⟩ := hI34.rra
        refine gn_iald hx34 (by omega) (by decide) dL_law_47 ?_
        refine g_iload 4 rfl dL_law_48 ?_
        refine g_aload_n 0 rfl dL_law_50 ?_
        refine g_slen dL_law_51 ?_
        refine gn_icmp_ge (by omega) hsl (tgt := 62) (by decide) dL_law_52 (fun h52 => ?_) (fun h52 => ?_)
        · -- t 62
          refine gn_ic 0 (by decide) dL_law_62 ?_
          refine g_ixor dL_law_63 ?_
          refine gn_iast hx34 (by omega) (by decide) rfl dL_law_64 ?_
          have hI64 := fun y => hI34.fr (E2 := hset E34 ra (.inl (gA Γ 0, 1, .inl y))) (fun a _ ha => hset_n ha) ⟨y, hset_s⟩ (Nat.le_refl _)
          refine g_aload_n 2 rfl dL_law_65 ?_
          refine g_next (hI64 _) l_L_84 (Nat.le_of_ble_eq_true rfl) (Nat.le_of_ble_eq_true rfl) dL_law_66 (fun m66 E66 hm66 hI66 => ?_)
          refine gn_bp 9 (by decide) dL_law_69 ?_
          refine gn_irem (by omega) (by decide) (by decide) dL_law_71 ?_
          obtain ⟨L, hL, eL⟩ : ∃ t, t ≤ 8 ∧ m66 % 9 = t := ⟨_, by omega, rfl⟩
          rw [eL]
          refine g_istore (lv2 := [(5, _), (0, _), (1, _), (2, _), (3, _), (4, _)]) (by decide) rfl dL_law_72 ?_
          refine g_aload_n 2 rfl dL_law_74 ?_
          refine g_iload 0 rfl dL_law_75 ?_
          refine g_aload_n 3 rfl dL_law_77 ?_
          refine G.mono (kc2 := (m34 * 1000 + 850) + 150) (ks2 := (m34 * 80000 + 20000) + 60000) (by omega) (by omega) ?_
          refine g_Sr (kc := m34 * 1000 + 850) (ks := m34 * 80000 + 20000) (c_L_house hI66 hL) l_L_269 rfl (Nat.le_of_ble_eq_true rfl) (Nat.le_of_ble_eq_true rfl) rfl dL_law_78 (fun _ _ _ z => by obtain ⟨e, t, o, w, h, -⟩ := z; exact ⟨_, h⟩) (fun a78 E78 n78 z78 => ?_)
          obtain ⟨e78, t78, o78, w78, eo78, hn78, hI78, hs78, hb78, ho78, hw78, h778, hT78, he78⟩ := z78
          have eo9 := Value.ref.inj (Option.some.inj eo78)
          subst eo9
          refine G.mono (kc2 := (m34 * 1000 + 500) + 329) (ks2 := (m34 * 80000 + 9000) + 10173) (by omega) (by omega) ?_
          refine g_SHi (kc := m34 * 1000 + 500) (ks := m34 * 80000 + 9000) (c_L_load (D := (5 + 80 * i34)) hI78 hs78 hb78 (by omega) (by omega) h778 he78 hT78 hL (by omega) (by omega)) l_L_273 rfl (Nat.le_of_ble_eq_true rfl) (Nat.le_of_ble_eq_true rfl) rfl dL_law_81 (fun _ _ _ z => ⟨_, z.1⟩) (fun x81 E81 n81 z81 => ?_)
          obtain ⟨e81, hn81, F, hI81⟩ := z81
          have e981 := (Value.int.inj (Option.some.inj e81)).symm
          subst e981
          refine g_iload 0 rfl dL_law_84 ?_
          refine gn_icmp_ne (by omega) (by omega) (tgt := 106) (by decide) dL_law_86 (fun cc4 => ?_) (fun cc4 => ?_)
          · -- t 106
            exfalso; omega
          · -- f 89
            refine g_aload_n 2 rfl dL_law_89 ?_
            refine g_iload 5 rfl dL_law_90 ?_
            refine gw_Viz (k_save hI81 (s := i34) (by omega)) l_L_275 rfl hI81.rc (Nat.le_of_ble_eq_true rfl) (Nat.le_of_ble_eq_true rfl) rfl dL_law_92 (fun _ _ _ z => ⟨_, z.1⟩) (fun x92 E92 n92 z92 => ?_)
            obtain ⟨e92, e292, hI92⟩ := z92
            have e992 := (Value.int.inj (Option.some.inj e92)).symm
            subst e992
            have e392 := e292.symm
            subst e392
            have hF7 : F 7 = nI L := hI92.gd.1
            refine g_aload_n 2 rfl dL_law_95 ?_
            refine gv_Vz (k_day hI92 ) l_L_109 rfl hI92.rc (Nat.le_of_ble_eq_true rfl) (Nat.le_of_ble_eq_true rfl) rfl dL_law_96 ?_
            refine g_icmp_ne (tgt := 106) (by decide) dL_law_99 (fun h99 => ?_) (fun h99 => ?_)
            · -- t 106
              exact absurd rfl h99
            · -- f 102
              refine gn_ic 1 (by decide) dL_law_102 ?_
              refine g_goto (tgt := 107) (by decide) dL_law_103 ?_
              refine g_istore_n (lv2 := [(3, _), (5, _), (0, _), (1, _), (2, _), (4, _)]) (by decide) rfl dL_law_107 ?_
              refine g_aload_n 3 rfl dL_law_108 ?_
              refine g_sum hI92 l_L_278 (Nat.le_of_ble_eq_true rfl) (Nat.le_of_ble_eq_true rfl) dL_law_109 ?_
              refine g_lstore (lv2 := [(6, _), (3, _), (5, _), (0, _), (1, _), (2, _), (4, _)]) (by decide) rfl dL_law_112 ?_
              refine g_aload_n 4 rfl dL_law_114 ?_
              refine gv_Vz (k_day hI92 ) l_L_109 rfl hI92.rc (Nat.le_of_ble_eq_true rfl) (Nat.le_of_ble_eq_true rfl) rfl dL_law_115 ?_
              refine g_istore (lv2 := [(8, _), (6, _), (3, _), (5, _), (0, _), (1, _), (2, _), (4, _)]) (by decide) rfl dL_law_118 ?_
              refine gn_ic 0 (by decide) dL_law_120 ?_
              refine g_istore (lv2 := [(9, _), (8, _), (6, _), (3, _), (5, _), (0, _), (1, _), (2, _), (4, _)]) (by decide) rfl dL_law_121 ?_
              have L123 : ∀ (m123 : Nat) (i123 : Nat) (E123 : Hp) (n123 : Nat) (f123 : Nat → Int32) (c123 k123 : Nat) (t123 : Option (Nat → Int32)), (i123 + m123 = 8) → (IW Γ ab ra (1200000 + 90000 * i34 + 10000 * i123) (5 + 80 * i34 + 9 * i123) i34 F f123 c123 k123 t123 E123 n123) → G Γ 15 ML_law Pl X0 123 [(0, .ref (gF Γ 9)), (1, .ref ab), (2, .ref ra), (3, .int (nI 1)), (4, .int (nI i34)), (6, .long (smK F L)), (8, .int (F 8)), (9, .int (nI i123))] [] (E123) n123 (m34 * 1000 + m123 * 50) (m34 * 80000 + m123 * 400) := by
                intro m123
                induction m123 with
                | zero =>
                  intro i123 E123 n123 f123 c123 k123 t123 hi123 hI123
                  have hc123 := hI123.gd.2.1
                  refine g_iload 7 rfl dL_law_123 ?_
                  refine gn_bp 8 (by decide) dL_law_125 ?_
                  refine gn_icmp_ge (by omega) (by omega) (tgt := 342) (by decide) dL_law_127 (fun cc5 => ?_) (fun cc5 => ?_)
                  · -- t 342
                    refine g_iload_n 3 rfl dL_law_342 ?_
                    refine gn_if_eq (by omega) (tgt := 382) (by decide) dL_law_343 (fun cc6 => ?_) (fun cc6 => ?_)
                    · -- t 382
                      exact absurd cc6 (by decide)
                    · -- f 346
                      refine g_aload_n 2 rfl dL_law_346 ?_
                      refine g_next hI123 l_L_84 (Nat.le_of_ble_eq_true rfl) (Nat.le_of_ble_eq_true rfl) dL_law_347 (fun m347 E347 hm347 hI347 => ?_)
                      refine gn_ic 2 (by decide) dL_law_350 ?_
                      refine gn_irem (by omega) (by decide) (by decide) dL_law_351 ?_
                      refine gn_if_ne (by omega) (tgt := 382) (by decide) dL_law_352 (fun h352 => ?_) (fun h352 => ?_)
                      · -- t 382
                        refine gn_inc (lv2 := [(4, _), (0, _), (1, _), (2, _), (3, _), (6, _), (8, _), (9, _)]) 4 rfl (by decide) rfl dL_law_382 ?_
                        refine g_goto (tgt := 34) (by decide) dL_law_385 ?_
                        refine G.sub [1, 2, 3, 4, 0] rfl ?_
                        refine G.mono (kc2 := m34 * 1000) (ks2 := m34 * 80000) (by omega) (by omega) ?_
                        exact ih34 (i34 + 1) _ _ _ _ _ _ _ _ (by omega) (hI347.le (by omega) (by omega))
                      · -- f 355
                        refine g_aload_n 1 rfl dL_law_355 ?_
                        refine g_iload 4 rfl dL_law_356 ?_
                        refine gw_Viz (k_restore (c9 := L) hI347 rfl (by omega) (fun c9 hc9 => (nI_eq (by have := hc9.2.1; omega) (by omega)).mp (hc9.1.symm.trans hF7))) l_L_300 rfl hI347.rc (Nat.le_of_ble_eq_true rfl) (Nat.le_of_ble_eq_true rfl) rfl dL_law_358 (fun _ _ _ z => ⟨_, z.1⟩) (fun x358 E358 n358 z358 => ?_)
                        obtain ⟨e358, e2358, hI358⟩ := z358
                        have e9358 := (Value.int.inj (Option.some.inj e358)).symm
                        subst e9358
                        have e3358 := e2358.symm
                        subst e3358
                        refine g_iload 6 rfl dL_law_361 ?_
                        refine g_icmp_ne (tgt := 380) (by decide) dL_law_363 (fun h363 => ?_) (fun h363 => ?_)
                        · -- t 380
                          exact absurd rfl h363
                        · -- f 366
                          refine g_aload_n 1 rfl dL_law_366 ?_
                          refine g_sum hI358 l_L_278 (Nat.le_of_ble_eq_true rfl) (Nat.le_of_ble_eq_true rfl) dL_law_367 ?_
                          refine g_lload 5 rfl dL_law_370 ?_
                          refine g_lcmp0 dL_law_372 ?_
                          refine g_if_ne (tgt := 380) (by decide) dL_law_373 (fun cc7 => ?_) (fun cc7 => ?_)
                          · -- t 380
                            exact absurd cc7 (by decide)
                          · -- f 376
                            refine gn_ic 1 (by decide) dL_law_376 ?_
                            refine g_goto (tgt := 381) (by decide) dL_law_377 ?_
                            refine g_istore_n (lv2 := [(3, _), (0, _), (1, _), (2, _), (4, _), (6, _), (8, _), (9, _)]) (by decide) rfl dL_law_381 ?_
                            refine gn_inc (lv2 := [(4, _), (3, _), (0, _), (1, _), (2, _), (6, _), (8, _), (9, _)]) 4 rfl (by decide) rfl dL_law_382 ?_
                            refine g_goto (tgt := 34) (by decide) dL_law_385 ?_
                            refine G.sub [2, 3, 4, 1, 0] rfl ?_
                            refine G.mono (kc2 := m34 * 1000) (ks2 := m34 * 80000) (by omega) (by omega) ?_
                            exact ih34 (i34 + 1) _ _ _ _ _ _ _ _ (by omega) (hI358.le (by omega) (by omega))
                  · -- f 130
                    exfalso; omega
                | succ m123 ih123 =>
                  intro i123 E123 n123 f123 c123 k123 t123 hi123 hI123
                  have hc123 := hI123.gd.2.1
                  refine g_iload 7 rfl dL_law_123 ?_
                  refine gn_bp 8 (by decide) dL_law_125 ?_
                  refine gn_icmp_ge (by omega) (by omega) (tgt := 342) (by decide) dL_law_127 (fun cc8 => ?_) (fun cc8 => ?_)
                  · -- t 342
                    exfalso; omega
                  · -- f 130
                    refine g_iload_n 3 rfl dL_law_130 ?_
                    refine gn_if_eq (by omega) (tgt := 342) (by decide) dL_law_131 (fun cc9 => ?_) (fun cc9 => ?_)
                    · -- t 342
                      exact absurd cc9 (by decide)
                    · -- f 134
                      refine g_aload_n 1 rfl dL_law_134 ?_
                      refine g_sum hI123 l_L_278 (Nat.le_of_ble_eq_true rfl) (Nat.le_of_ble_eq_true rfl) dL_law_135 ?_
                      refine g_lstore (lv2 := [(10, _), (0, _), (1, _), (2, _), (3, _), (4, _), (6, _), (8, _), (9, _)]) (by decide) rfl dL_law_138 ?_
                      refine g_aload_n 2 rfl dL_law_140 ?_
                      refine gn_ic 0 (by decide) dL_law_141 ?_
                      refine G.mono (kc2 := (m34 * 1000 + m123 * 50 + 49) + 1) (ks2 := (m34 * 80000 + m123 * 400 + 394) + 6) (by omega) (by omega) ?_
                      refine g_SHi (v_advanced_no hI123 (by decide)) l_L_244 rfl (Nat.le_of_ble_eq_true rfl) (Nat.le_of_ble_eq_true rfl) rfl dL_law_142 (fun _ _ _ z => ⟨_, z.1⟩) (fun x142 E142 n142 z142 => ?_)
                      obtain ⟨e142, e2142, e3142⟩ := z142
                      have e9142 := (Value.int.inj (Option.some.inj e142)).symm
                      subst e9142
                      have e4142 := e2142.symm
                      subst e4142
                      have hI142 := hI123.up e3142
                      refine g_bipush (v := -2) dL_law_145 (by decide) ?_
                      refine g_icmp_ne (tgt := 243) (by decide) dL_law_147 (fun h147 => ?_) (fun h147 => ?_)
                      · -- t 243
                        exact absurd rfl h147
                      · -- f 150
                        refine g_aload_n 2 rfl dL_law_150 ?_
                        refine gn_ic 5 (by decide) dL_law_151 ?_
                        refine gn_ic 0 (by decide) dL_law_152 ?_
                        refine gn_ic 0 (by decide) dL_law_153 ?_
                        refine G.mono (kc2 := (m34 * 1000 + m123 * 50 + 48) + 1) (ks2 := (m34 * 80000 + m123 * 400 + 388) + 6) (by omega) (by omega) ?_
                        refine g_SHi (v_movedIn_noF hI142 (by decide)) l_L_249 rfl (Nat.le_of_ble_eq_true rfl) (Nat.le_of_ble_eq_true rfl) rfl dL_law_154 (fun _ _ _ z => ⟨_, z.1⟩) (fun x154 E154 n154 z154 => ?_)
                        obtain ⟨e154, e2154, e3154⟩ := z154
                        have e9154 := (Value.int.inj (Option.some.inj e154)).symm
                        subst e9154
                        have e4154 := e2154.symm
                        subst e4154
                        have hI154 := hI142.up e3154
                        refine g_bipush (v := -2) dL_law_157 (by decide) ?_
                        refine g_icmp_ne (tgt := 243) (by decide) dL_law_159 (fun h159 => ?_) (fun h159 => ?_)
                        · -- t 243
                          exact absurd rfl h159
                        · -- f 162
                          refine g_aload_n 2 rfl dL_law_162 ?_
                          refine gn_bp 12 (by decide) dL_law_163 ?_
                          refine G.mono (kc2 := (m34 * 1000 + m123 * 50 + 47) + 1) (ks2 := (m34 * 80000 + m123 * 400 + 382) + 6) (by omega) (by omega) ?_
                          refine g_SHi (v_movedOut_no hI154 (no12 _ hc123)) l_L_256 rfl (Nat.le_of_ble_eq_true rfl) (Nat.le_of_ble_eq_true rfl) rfl dL_law_165 (fun _ _ _ z => ⟨_, z.1⟩) (fun x165 E165 n165 z165 => ?_)
                          obtain ⟨e165, e2165, e3165⟩ := z165
                          have e9165 := (Value.int.inj (Option.some.inj e165)).symm
                          subst e9165
                          have e4165 := e2165.symm
                          subst e4165
                          have hI165 := hI154.up e3165
                          refine gn_sp 9999 (by decide) dL_law_168 ?_
                          refine g_icmp_ne (tgt := 243) (by decide) dL_law_171 (fun h171 => ?_) (fun h171 => ?_)
                          · -- t 243
                            exact absurd (by decide) h171
                          · -- f 174
                            refine g_aload_n 2 rfl dL_law_174 ?_
                            refine g_iconst (v := -1) dL_law_175 (by decide) ?_
                            refine gn_ic 0 (by decide) dL_law_176 ?_
                            refine G.mono (kc2 := (m34 * 1000 + m123 * 50 + 46) + 1) (ks2 := (m34 * 80000 + m123 * 400 + 376) + 6) (by omega) (by omega) ?_
                            refine g_SHi (v_movedTo_noL hI165 (fun z => absurd z.1 (by decide))) l_L_259 rfl (Nat.le_of_ble_eq_true rfl) (Nat.le_of_ble_eq_true rfl) rfl dL_law_177 (fun _ _ _ z => ⟨_, z.1⟩) (fun x177 E177 n177 z177 => ?_)
                            obtain ⟨e177, e2177, e3177⟩ := z177
                            have e9177 := (Value.int.inj (Option.some.inj e177)).symm
                            subst e9177
                            have e4177 := e2177.symm
                            subst e4177
                            have hI177 := hI165.up e3177
                            refine g_bipush (v := -5) dL_law_180 (by decide) ?_
                            refine g_icmp_ne (tgt := 243) (by decide) dL_law_182 (fun h182 => ?_) (fun h182 => ?_)
                            · -- t 243
                              exact absurd rfl h182
                            · -- f 185
                              refine g_aload_n 2 rfl dL_law_185 ?_
                              refine gn_bp 12 (by decide) dL_law_186 ?_
                              refine gn_ic 1 (by decide) dL_law_188 ?_
                              refine G.mono (kc2 := (m34 * 1000 + m123 * 50 + 45) + 1) (ks2 := (m34 * 80000 + m123 * 400 + 370) + 6) (by omega) (by omega) ?_
                              refine g_SHi (v_paid_noL hI177 (no12 _ hc123)) l_L_237 rfl (Nat.le_of_ble_eq_true rfl) (Nat.le_of_ble_eq_true rfl) rfl dL_law_189 (fun _ _ _ z => ⟨_, z.1⟩) (fun x189 E189 n189 z189 => ?_)
                              obtain ⟨e189, e2189, e3189⟩ := z189
                              have e9189 := (Value.int.inj (Option.some.inj e189)).symm
                              subst e9189
                              have e4189 := e2189.symm
                              subst e4189
                              have hI189 := hI177.up e3189
                              refine g_ldcI (v := -99995) (wl_5 132 rfl rfl) dL_law_192 ?_
                              refine g_icmp_ne (tgt := 243) (by decide) dL_law_194 (fun h194 => ?_) (fun h194 => ?_)
                              · -- t 243
                                exact absurd rfl h194
                              · -- f 197
                                refine g_aload_n 2 rfl dL_law_197 ?_
                                refine gn_ic 5 (by decide) dL_law_198 ?_
                                refine gn_ic 0 (by decide) dL_law_199 ?_
                                refine G.mono (kc2 := (m34 * 1000 + m123 * 50 + 44) + 1) (ks2 := (m34 * 80000 + m123 * 400 + 364) + 6) (by omega) (by omega) ?_
                                refine g_SHi (v_spoke_no hI189 (by decide)) l_L_262 rfl (Nat.le_of_ble_eq_true rfl) (Nat.le_of_ble_eq_true rfl) rfl dL_law_200 (fun _ _ _ z => ⟨_, z.1⟩) (fun x200 E200 n200 z200 => ?_)
                                obtain ⟨e200, e2200, e3200⟩ := z200
                                have e9200 := (Value.int.inj (Option.some.inj e200)).symm
                                subst e9200
                                have e4200 := e2200.symm
                                subst e4200
                                have hI200 := hI189.up e3200
                                refine g_bipush (v := -5) dL_law_203 (by decide) ?_
                                refine g_icmp_ne (tgt := 243) (by decide) dL_law_205 (fun h205 => ?_) (fun h205 => ?_)
                                · -- t 243
                                  exact absurd rfl h205
                                · -- f 208
                                  refine g_aload_n 2 rfl dL_law_208 ?_
                                  refine gn_bp 46 (by decide) dL_law_209 ?_
                                  refine G.mono (kc2 := (m34 * 1000 + m123 * 50 + 43) + 1) (ks2 := (m34 * 80000 + m123 * 400 + 358) + 6) (by omega) (by omega) ?_
                                  refine g_SHi (v_tolerates_no hI200 (by decide)) l_L_265 rfl (Nat.le_of_ble_eq_true rfl) (Nat.le_of_ble_eq_true rfl) rfl dL_law_211 (fun _ _ _ z => ⟨_, z.1⟩) (fun x211 E211 n211 z211 => ?_)
                                  obtain ⟨e211, e2211, e3211⟩ := z211
                                  have e9211 := (Value.int.inj (Option.some.inj e211)).symm
                                  subst e9211
                                  have e4211 := e2211.symm
                                  subst e4211
                                  have hI211 := hI200.up e3211
                                  refine g_bipush (v := -2) dL_law_214 (by decide) ?_
                                  refine g_icmp_ne (tgt := 243) (by decide) dL_law_216 (fun h216 => ?_) (fun h216 => ?_)
                                  · -- t 243
                                    exact absurd rfl h216
                                  · -- f 219
                                    refine g_aload_n 2 rfl dL_law_219 ?_
                                    refine g_iconst (v := -1) dL_law_220 (by decide) ?_
                                    refine G.mono (kc2 := (m34 * 1000 + m123 * 50 + 42) + 1) (ks2 := (m34 * 80000 + m123 * 400 + 352) + 6) (by omega) (by omega) ?_
                                    refine g_SHi (v_rents_no hI211 (fun z => absurd z.1 (by decide))) l_L_253 rfl (Nat.le_of_ble_eq_true rfl) (Nat.le_of_ble_eq_true rfl) rfl dL_law_221 (fun _ _ _ z => ⟨_, z.1⟩) (fun x221 E221 n221 z221 => ?_)
                                    obtain ⟨e221, e2221, e3221⟩ := z221
                                    have e9221 := (Value.int.inj (Option.some.inj e221)).symm
                                    subst e9221
                                    have e4221 := e2221.symm
                                    subst e4221
                                    have hI221 := hI211.up e3221
                                    refine g_bipush (v := -2) dL_law_224 (by decide) ?_
                                    refine g_icmp_ne (tgt := 243) (by decide) dL_law_226 (fun h226 => ?_) (fun h226 => ?_)
                                    · -- t 243
                                      exact absurd rfl h226
                                    · -- f 229
                                      refine g_aload_n 2 rfl dL_law_229 ?_
                                      refine g_sum hI221 l_L_278 (Nat.le_of_ble_eq_true rfl) (Nat.le_of_ble_eq_true rfl) dL_law_230 ?_
                                      refine g_lload 0 rfl dL_law_233 ?_
                                      refine g_lcmp0 dL_law_235 ?_
                                      refine g_if_ne (tgt := 243) (by decide) dL_law_236 (fun cc10 => ?_) (fun cc10 => ?_)
                                      · -- t 243
                                        exact absurd cc10 (by decide)
                                      · -- f 239
                                        refine gn_ic 1 (by decide) dL_law_239 ?_
                                        refine g_goto (tgt := 244) (by decide) dL_law_240 ?_
                                        refine g_istore_n (lv2 := [(3, _), (10, _), (0, _), (1, _), (2, _), (4, _), (6, _), (8, _), (9, _)]) (by decide) rfl dL_law_244 ?_
                                        refine g_iload_n 0 rfl dL_law_245 ?_
                                        refine gn_if_eq (by omega) (tgt := 298) (by decide) dL_law_246 (fun cc11 => ?_) (fun cc11 => ?_)
                                        · -- t 298
                                          exact absurd cc11 (by decide)
                                        · -- f 249
                                          refine g_aload_n 3 rfl dL_law_249 ?_
                                          refine g_aload_n 4 rfl dL_law_250 ?_
                                          refine G.mono (kc2 := (m34 * 1000 + m123 * 50 + 36) + 2) (ks2 := (m34 * 80000 + m123 * 400 + 200) + 44) (by omega) (by omega) ?_
                                          refine g_Sz (v := .int (nI 1)) (kc := m34 * 1000 + m123 * 50 + 36) (ks := m34 * 80000 + m123 * 400 + 200) (c_L_act hI221 (by omega) (by omega) (by omega)) l_L_282 rfl (Nat.le_of_ble_eq_true rfl) (Nat.le_of_ble_eq_true rfl) rfl dL_law_251 (fun _ _ _ z => z.1) (fun E251 n251 z251 => ?_)
                                          obtain ⟨-, hn251, f2, c2, kp2, tp2, hI251⟩ := z251
                                          refine gn_if_eq (by omega) (tgt := 298) (by decide) dL_law_254 (fun cc12 => ?_) (fun cc12 => ?_)
                                          · -- t 298
                                            exact absurd cc12 (by decide)
                                          · -- f 257
                                            refine g_aload_n 3 rfl dL_law_257 ?_
                                            refine G.mono (kc2 := (m34 * 1000 + m123 * 50 + 4) + 30) (ks2 := (m34 * 80000 + m123 * 400 + 20) + 180) (by omega) (by omega) ?_
                                            refine g_Sz (v := .int (nI 1)) (kc := m34 * 1000 + m123 * 50 + 4) (ks := m34 * 80000 + m123 * 400 + 20) (c_L_floors hI251 (by omega)) l_L_286 rfl (Nat.le_of_ble_eq_true rfl) (Nat.le_of_ble_eq_true rfl) rfl dL_law_258 (fun _ _ _ z => z.1) (fun E258 n258 z258 => ?_)
                                            obtain ⟨-, hn258, hI258⟩ := z258
                                            refine gn_if_eq (by omega) (tgt := 298) (by decide) dL_law_261 (fun cc13 => ?_) (fun cc13 => ?_)
                                            · -- t 298
                                              exact absurd cc13 (by decide)
                                            · -- f 264
                                              refine g_aload_n 3 rfl dL_law_264 ?_
                                              refine G.mono (kc2 := (m34 * 1000 + m123 * 50 + 4) + 0) (ks2 := (m34 * 80000 + m123 * 400 + 20) + 0) (by omega) (by omega) ?_
                                              refine g_Sz (v := .int (nI 1)) (kc := m34 * 1000 + m123 * 50 + 4) (ks := m34 * 80000 + m123 * 400 + 20) (c_L_accents hI258) l_L_290 rfl (Nat.le_of_ble_eq_true rfl) (Nat.le_of_ble_eq_true rfl) rfl dL_law_265 (fun _ _ _ z => z.1) (fun E265 n265 z265 => ?_)
                                              obtain ⟨-, hn265, hI265⟩ := z265
                                              have e265 := hn265.symm
                                              subst e265
                                              have hc265 := hI265.gd.2.1
                                              refine gn_if_eq (by omega) (tgt := 298) (by decide) dL_law_268 (fun cc14 => ?_) (fun cc14 => ?_)
                                              · -- t 298
                                                exact absurd cc14 (by decide)
                                              · -- f 271
                                                refine g_aload_n 3 rfl dL_law_271 ?_
                                                refine gv_Vz (k_lodgerCount hI265 ) l_L_133 rfl hI265.rc (Nat.le_of_ble_eq_true rfl) (Nat.le_of_ble_eq_true rfl) rfl dL_law_272 ?_
                                                refine gn_if_eq (by omega) (tgt := 294) (by decide) dL_law_275 (fun h275 => ?_) (fun h275 => ?_)
                                                · -- t 294
                                                  refine gn_ic 1 (by decide) dL_law_294 ?_
                                                  refine g_goto (tgt := 299) (by decide) dL_law_295 ?_
                                                  refine g_istore_n (lv2 := [(3, _), (10, _), (0, _), (1, _), (2, _), (4, _), (6, _), (8, _), (9, _)]) (by decide) rfl dL_law_299 ?_
                                                  refine g_iload_n 0 rfl dL_law_300 ?_
                                                  refine gn_if_eq (by omega) (tgt := 336) (by decide) dL_law_301 (fun cc15 => ?_) (fun cc15 => ?_)
                                                  · -- t 336
                                                    exact absurd cc15 (by decide)
                                                  · -- f 304
                                                    refine g_aload_n 4 rfl dL_law_304 ?_
                                                    refine g_next hI265 l_L_84 (Nat.le_of_ble_eq_true rfl) (Nat.le_of_ble_eq_true rfl) dL_law_305 (fun m305 E305 hm305 hI305 => ?_)
                                                    refine gn_ic 4 (by decide) dL_law_308 ?_
                                                    refine gn_irem (by omega) (by decide) (by decide) dL_law_309 ?_
                                                    refine gn_if_ne (by omega) (tgt := 336) (by decide) dL_law_310 (fun h310 => ?_) (fun h310 => ?_)
                                                    · -- t 336
                                                      refine gn_inc (lv2 := [(9, _), (3, _), (10, _), (0, _), (1, _), (2, _), (4, _), (6, _), (8, _)]) 8 rfl (by decide) rfl dL_law_336 ?_
                                                      refine g_goto (tgt := 123) (by decide) dL_law_339 ?_
                                                      refine G.sub [3, 4, 5, 1, 6, 7, 8, 0] rfl ?_
                                                      refine G.mono (kc2 := m34 * 1000 + m123 * 50) (ks2 := m34 * 80000 + m123 * 400) (by omega) (by omega) ?_
                                                      exact ih123 (i123 + 1) _ _ _ _ _ _ (by omega) (hI305.le (by omega) (by omega))
                                                    · -- f 313
                                                      refine g_aload_n 3 rfl dL_law_313 ?_
                                                      refine gv_Vz (k_undoCount hI305 ) l_L_297 rfl hI305.rc (Nat.le_of_ble_eq_true rfl) (Nat.le_of_ble_eq_true rfl) rfl dL_law_314 ?_
                                                      refine g_istore (lv2 := [(12, _), (3, _), (10, _), (0, _), (1, _), (2, _), (4, _), (6, _), (8, _), (9, _)]) (by decide) rfl dL_law_317 ?_
                                                      refine g_aload_n 4 rfl dL_law_319 ?_
                                                      by_cases k0 : kp2 = 0
                                                      · skip
                                                        refine G.mono (kc2 := (m34 * 1000 + m123 * 50 + 3) + 1) (ks2 := (m34 * 80000 + m123 * 400 + 14) + 6) (by omega) (by omega) ?_
                                                        refine g_SHi (v_undone_no hI305 k0) l_L_240 rfl (Nat.le_of_ble_eq_true rfl) (Nat.le_of_ble_eq_true rfl) rfl dL_law_320 (fun _ _ _ z => ⟨_, z.1⟩) (fun x320 E320 n320 z320 => ?_)
                                                        obtain ⟨e320, e2320, e3320⟩ := z320
                                                        have e9320 := (Value.int.inj (Option.some.inj e320)).symm
                                                        subst e9320
                                                        have e4320 := e2320.symm
                                                        subst e4320
                                                        have hI320 := hI305.up e3320
                                                        refine g_iload 0 rfl dL_law_323 ?_
                                                        refine gn_ic 1 (by decide) dL_law_325 ?_
                                                        refine g_isub dL_law_326 ?_
                                                        refine g_icmp_ne (tgt := 334) (by decide) dL_law_327 (fun h327 => ?_) (fun h327 => ?_)
                                                        · -- t 334
                                                          exact absurd (show (-1 : Int32) = nI kp2 - nI 1 by rw [k0]; decide) h327
                                                        · -- f 330
                                                          refine gn_ic 1 (by decide) dL_law_330 ?_
                                                          refine g_goto (tgt := 335) (by decide) dL_law_331 ?_
                                                          refine g_istore_n (lv2 := [(3, _), (12, _), (10, _), (0, _), (1, _), (2, _), (4, _), (6, _), (8, _), (9, _)]) (by decide) rfl dL_law_335 ?_
                                                          refine gn_inc (lv2 := [(9, _), (3, _), (12, _), (10, _), (0, _), (1, _), (2, _), (4, _), (6, _), (8, _)]) 9 rfl (by decide) rfl dL_law_336 ?_
                                                          refine g_goto (tgt := 123) (by decide) dL_law_339 ?_
                                                          refine G.sub [4, 5, 6, 1, 7, 8, 9, 0] rfl ?_
                                                          refine G.mono (kc2 := m34 * 1000 + m123 * 50) (ks2 := m34 * 80000 + m123 * 400) (by omega) (by omega) ?_
                                                          exact ih123 (i123 + 1) _ _ _ _ _ _ (by omega) (hI320.le (by omega) (by omega))
                                                      · skip
                                                        refine g_SHz (v_undone hI305 (by omega)) l_L_240 rfl (Nat.le_of_ble_eq_true rfl) (Nat.le_of_ble_eq_true rfl) rfl dL_law_320 (fun _ _ _ z => ⟨_, z.1⟩) (fun x320 E320 n320 z320 => ?_)
                                                        obtain ⟨e320, e2320, -, g4, c4, hI320⟩ := z320
                                                        have e9320 := (Value.int.inj (Option.some.inj e320)).symm
                                                        subst e9320
                                                        have e3320 := e2320.symm
                                                        subst e3320
                                                        refine g_iload 0 rfl dL_law_323 ?_
                                                        refine gn_ic 1 (by decide) dL_law_325 ?_
                                                        refine g_isub dL_law_326 ?_
                                                        refine g_icmp_ne (tgt := 334) (by decide) dL_law_327 (fun h327 => ?_) (fun h327 => ?_)
                                                        · -- t 334
                                                          exact absurd (nI_pr (by omega)).symm h327
                                                        · -- f 330
                                                          refine gn_ic 1 (by decide) dL_law_330 ?_
                                                          refine g_goto (tgt := 335) (by decide) dL_law_331 ?_
                                                          refine g_istore_n (lv2 := [(3, _), (12, _), (10, _), (0, _), (1, _), (2, _), (4, _), (6, _), (8, _), (9, _)]) (by decide) rfl dL_law_335 ?_
                                                          refine gn_inc (lv2 := [(9, _), (3, _), (12, _), (10, _), (0, _), (1, _), (2, _), (4, _), (6, _), (8, _)]) 9 rfl (by decide) rfl dL_law_336 ?_
                                                          refine g_goto (tgt := 123) (by decide) dL_law_339 ?_
                                                          refine G.sub [4, 5, 6, 1, 7, 8, 9, 0] rfl ?_
                                                          refine G.mono (kc2 := m34 * 1000 + m123 * 50) (ks2 := m34 * 80000 + m123 * 400) (by omega) (by omega) ?_
                                                          exact ih123 (i123 + 1) _ _ _ _ _ _ (by omega) (hI320.le (by omega) (by omega))
                                                · -- f 278
                                                  refine g_aload_n 3 rfl dL_law_278 ?_
                                                  refine g_aload_n 4 rfl dL_law_279 ?_
                                                  refine g_next hI265 l_L_84 (Nat.le_of_ble_eq_true rfl) (Nat.le_of_ble_eq_true rfl) dL_law_280 (fun m280 E280 hm280 hI280 => ?_)
                                                  refine g_aload_n 3 rfl dL_law_283 ?_
                                                  refine gv_Vz (k_lodgerCount hI280 ) l_L_133 rfl hI280.rc (Nat.le_of_ble_eq_true rfl) (Nat.le_of_ble_eq_true rfl) rfl dL_law_284 ?_
                                                  refine gn_irem (by omega) (by omega) (by omega) dL_law_287 ?_
                                                  refine G.mono (kc2 := (m34 * 1000 + m123 * 50 + 4) + 0) (ks2 := (m34 * 80000 + m123 * 400 + 20) + 0) (by omega) (by omega) ?_
                                                  refine g_Sz (v := .int (nI 1)) (kc := m34 * 1000 + m123 * 50 + 4) (ks := m34 * 80000 + m123 * 400 + 20) (c_L_saves hI280 (Nat.mod_lt _ (by omega)) (by omega) (by omega)) l_L_293 rfl (Nat.le_of_ble_eq_true rfl) (Nat.le_of_ble_eq_true rfl) rfl dL_law_288 (fun _ _ _ z => z.1) (fun E288 n288 z288 => ?_)
                                                  obtain ⟨-, hn288, kp3, tp3, hI288⟩ := z288
                                                  have e288 := hn288.symm
                                                  subst e288
                                                  refine gn_if_eq (by omega) (tgt := 298) (by decide) dL_law_291 (fun cc16 => ?_) (fun cc16 => ?_)
                                                  · -- t 298
                                                    exact absurd cc16 (by decide)
                                                  · -- f 294
                                                    refine gn_ic 1 (by decide) dL_law_294 ?_
                                                    refine g_goto (tgt := 299) (by decide) dL_law_295 ?_
                                                    refine g_istore_n (lv2 := [(3, _), (10, _), (0, _), (1, _), (2, _), (4, _), (6, _), (8, _), (9, _)]) (by decide) rfl dL_law_299 ?_
                                                    refine g_iload_n 0 rfl dL_law_300 ?_
                                                    refine gn_if_eq (by omega) (tgt := 336) (by decide) dL_law_301 (fun cc17 => ?_) (fun cc17 => ?_)
                                                    · -- t 336
                                                      exact absurd cc17 (by decide)
                                                    · -- f 304
                                                      refine g_aload_n 4 rfl dL_law_304 ?_
                                                      refine g_next hI288 l_L_84 (Nat.le_of_ble_eq_true rfl) (Nat.le_of_ble_eq_true rfl) dL_law_305 (fun m305 E305 hm305 hI305 => ?_)
                                                      refine gn_ic 4 (by decide) dL_law_308 ?_
                                                      refine gn_irem (by omega) (by decide) (by decide) dL_law_309 ?_
                                                      refine gn_if_ne (by omega) (tgt := 336) (by decide) dL_law_310 (fun h310 => ?_) (fun h310 => ?_)
                                                      · -- t 336
                                                        refine gn_inc (lv2 := [(9, _), (3, _), (10, _), (0, _), (1, _), (2, _), (4, _), (6, _), (8, _)]) 8 rfl (by decide) rfl dL_law_336 ?_
                                                        refine g_goto (tgt := 123) (by decide) dL_law_339 ?_
                                                        refine G.sub [3, 4, 5, 1, 6, 7, 8, 0] rfl ?_
                                                        refine G.mono (kc2 := m34 * 1000 + m123 * 50) (ks2 := m34 * 80000 + m123 * 400) (by omega) (by omega) ?_
                                                        exact ih123 (i123 + 1) _ _ _ _ _ _ (by omega) (hI305.le (by omega) (by omega))
                                                      · -- f 313
                                                        refine g_aload_n 3 rfl dL_law_313 ?_
                                                        refine gv_Vz (k_undoCount hI305 ) l_L_297 rfl hI305.rc (Nat.le_of_ble_eq_true rfl) (Nat.le_of_ble_eq_true rfl) rfl dL_law_314 ?_
                                                        refine g_istore (lv2 := [(12, _), (3, _), (10, _), (0, _), (1, _), (2, _), (4, _), (6, _), (8, _), (9, _)]) (by decide) rfl dL_law_317 ?_
                                                        refine g_aload_n 4 rfl dL_law_319 ?_
                                                        by_cases k0 : kp3 = 0
                                                        · skip
                                                          refine G.mono (kc2 := (m34 * 1000 + m123 * 50 + 3) + 1) (ks2 := (m34 * 80000 + m123 * 400 + 14) + 6) (by omega) (by omega) ?_
                                                          refine g_SHi (v_undone_no hI305 k0) l_L_240 rfl (Nat.le_of_ble_eq_true rfl) (Nat.le_of_ble_eq_true rfl) rfl dL_law_320 (fun _ _ _ z => ⟨_, z.1⟩) (fun x320 E320 n320 z320 => ?_)
                                                          obtain ⟨e320, e2320, e3320⟩ := z320
                                                          have e9320 := (Value.int.inj (Option.some.inj e320)).symm
                                                          subst e9320
                                                          have e4320 := e2320.symm
                                                          subst e4320
                                                          have hI320 := hI305.up e3320
                                                          refine g_iload 0 rfl dL_law_323 ?_
                                                          refine gn_ic 1 (by decide) dL_law_325 ?_
                                                          refine g_isub dL_law_326 ?_
                                                          refine g_icmp_ne (tgt := 334) (by decide) dL_law_327 (fun h327 => ?_) (fun h327 => ?_)
                                                          · -- t 334
                                                            exact absurd (show (-1 : Int32) = nI kp3 - nI 1 by rw [k0]; decide) h327
                                                          · -- f 330
                                                            refine gn_ic 1 (by decide) dL_law_330 ?_
                                                            refine g_goto (tgt := 335) (by decide) dL_law_331 ?_
                                                            refine g_istore_n (lv2 := [(3, _), (12, _), (10, _), (0, _), (1, _), (2, _), (4, _), (6, _), (8, _), (9, _)]) (by decide) rfl dL_law_335 ?_
                                                            refine gn_inc (lv2 := [(9, _), (3, _), (12, _), (10, _), (0, _), (1, _), (2, _), (4, _), (6, _), (8, _)]) 9 rfl (by decide) rfl dL_law_336 ?_
                                                            refine g_goto (tgt := 123) (by decide) dL_law_339 ?_
                                                            refine G.sub [4, 5, 6, 1, 7, 8, 9, 0] rfl ?_
                                                            refine G.mono (kc2 := m34 * 1000 + m123 * 50) (ks2 := m34 * 80000 + m123 * 400) (by omega) (by omega) ?_
                                                            exact ih123 (i123 + 1) _ _ _ _ _ _ (by omega) (hI320.le (by omega) (by omega))
                                                        · skip
                                                          refine g_SHz (v_undone hI305 (by omega)) l_L_240 rfl (Nat.le_of_ble_eq_true rfl) (Nat.le_of_ble_eq_true rfl) rfl dL_law_320 (fun _ _ _ z => ⟨_, z.1⟩) (fun x320 E320 n320 z320 => ?_)
                                                          obtain ⟨e320, e2320, -, g4, c4, hI320⟩ := z320
                                                          have e9320 := (Value.int.inj (Option.some.inj e320)).symm
                                                          subst e9320
                                                          have e3320 := e2320.symm
                                                          subst e3320
                                                          refine g_iload 0 rfl dL_law_323 ?_
                                                          refine gn_ic 1 (by decide) dL_law_325 ?_
                                                          refine g_isub dL_law_326 ?_
                                                          refine g_icmp_ne (tgt := 334) (by decide) dL_law_327 (fun h327 => ?_) (fun h327 => ?_)
                                                          · -- t 334
                                                            exact absurd (nI_pr (by omega)).symm h327
                                                          · -- f 330
                                                            refine gn_ic 1 (by decide) dL_law_330 ?_
                                                            refine g_goto (tgt := 335) (by decide) dL_law_331 ?_
                                                            refine g_istore_n (lv2 := [(3, _), (12, _), (10, _), (0, _), (1, _), (2, _), (4, _), (6, _), (8, _), (9, _)]) (by decide) rfl dL_law_335 ?_
                                                            refine gn_inc (lv2 := [(9, _), (3, _), (12, _), (10, _), (0, _), (1, _), (2, _), (4, _), (6, _), (8, _)]) 9 rfl (by decide) rfl dL_law_336 ?_
                                                            refine g_goto (tgt := 123) (by decide) dL_law_339 ?_
                                                            refine G.sub [4, 5, 6, 1, 7, 8, 9, 0] rfl ?_
                                                            refine G.mono (kc2 := m34 * 1000 + m123 * 50) (ks2 := m34 * 80000 + m123 * 400) (by omega) (by omega) ?_
                                                            exact ih123 (i123 + 1) _ _ _ _ _ _ (by omega) (hI320.le (by omega) (by omega))
              refine G.sub [5, 6, 7, 3, 8, 2, 1, 0] rfl ?_
              refine G.mono (kc2 := m34 * 1000 + 8 * 50) (ks2 := m34 * 80000 + 8 * 400) (by omega) (by omega) ?_
              exact L123 8 0 _ _ _ _ _ _ (by omega) (hI92.le (by omega) (by omega))
        · -- f 55
          refine g_aload_n 0 rfl dL_law_55 ?_
          refine g_iload 4 rfl dL_law_56 ?_
          refine g_sld (by omega) dL_law_58 ?_
          refine g_goto (tgt := 63) (by decide) dL_law_59 ?_
          refine g_ixor dL_law_63 ?_
          refine gn_iast hx34 (by omega) (by decide) rfl dL_law_64 ?_
          have hI64 := fun y => hI34.fr (E2 := hset E34 ra (.inl (gA Γ 0, 1, .inl y))) (fun a _ ha => hset_n ha) ⟨y, hset_s⟩ (Nat.le_refl _)
          refine g_aload_n 2 rfl dL_law_65 ?_
          refine g_next (hI64 _) l_L_84 (Nat.le_of_ble_eq_true rfl) (Nat.le_of_ble_eq_true rfl) dL_law_66 (fun m66 E66 hm66 hI66 => ?_)
          refine gn_bp 9 (by decide) dL_law_69 ?_
          refine gn_irem (by omega) (by decide) (by decide) dL_law_71 ?_
          obtain ⟨L, hL, eL⟩ : ∃ t, t ≤ 8 ∧ m66 % 9 = t := ⟨_, by omega, rfl⟩
          rw [eL]
          refine g_istore (lv2 := [(5, _), (0, _), (1, _), (2, _), (3, _), (4, _)]) (by decide) rfl dL_law_72 ?_
          refine g_aload_n 2 rfl dL_law_74 ?_
          refine g_iload 0 rfl dL_law_75 ?_
          refine g_aload_n 3 rfl dL_law_77 ?_
          refine G.mono (kc2 := (m34 * 1000 + 850) + 150) (ks2 := (m34 * 80000 + 20000) + 60000) (by omega) (by omega) ?_
          refine g_Sr (kc := m34 * 1000 + 850) (ks := m34 * 80000 + 20000) (c_L_house hI66 hL) l_L_269 rfl (Nat.le_of_ble_eq_true rfl) (Nat.le_of_ble_eq_true rfl) rfl dL_law_78 (fun _ _ _ z => by obtain ⟨e, t, o, w, h, -⟩ := z; exact ⟨_, h⟩) (fun a78 E78 n78 z78 => ?_)
          obtain ⟨e78, t78, o78, w78, eo78, hn78, hI78, hs78, hb78, ho78, hw78, h778, hT78, he78⟩ := z78
          have eo9 := Value.ref.inj (Option.some.inj eo78)
          subst eo9
          refine G.mono (kc2 := (m34 * 1000 + 500) + 329) (ks2 := (m34 * 80000 + 9000) + 10173) (by omega) (by omega) ?_
          refine g_SHi (kc := m34 * 1000 + 500) (ks := m34 * 80000 + 9000) (c_L_load (D := (5 + 80 * i34)) hI78 hs78 hb78 (by omega) (by omega) h778 he78 hT78 hL (by omega) (by omega)) l_L_273 rfl (Nat.le_of_ble_eq_true rfl) (Nat.le_of_ble_eq_true rfl) rfl dL_law_81 (fun _ _ _ z => ⟨_, z.1⟩) (fun x81 E81 n81 z81 => ?_)
          obtain ⟨e81, hn81, F, hI81⟩ := z81
          have e981 := (Value.int.inj (Option.some.inj e81)).symm
          subst e981
          refine g_iload 0 rfl dL_law_84 ?_
          refine gn_icmp_ne (by omega) (by omega) (tgt := 106) (by decide) dL_law_86 (fun cc18 => ?_) (fun cc18 => ?_)
          · -- t 106
            exfalso; omega
          · -- f 89
            refine g_aload_n 2 rfl dL_law_89 ?_
            refine g_iload 5 rfl dL_law_90 ?_
            refine gw_Viz (k_save hI81 (s := i34) (by omega)) l_L_275 rfl hI81.rc (Nat.le_of_ble_eq_true rfl) (Nat.le_of_ble_eq_true rfl) rfl dL_law_92 (fun _ _ _ z => ⟨_, z.1⟩) (fun x92 E92 n92 z92 => ?_)
            obtain ⟨e92, e292, hI92⟩ := z92
            have e992 := (Value.int.inj (Option.some.inj e92)).symm
            subst e992
            have e392 := e292.symm
            subst e392
            have hF7 : F 7 = nI L := hI92.gd.1
            refine g_aload_n 2 rfl dL_law_95 ?_
            refine gv_Vz (k_day hI92 ) l_L_109 rfl hI92.rc (Nat.le_of_ble_eq_true rfl) (Nat.le_of_ble_eq_true rfl) rfl dL_law_96 ?_
            refine g_icmp_ne (tgt := 106) (by decide) dL_law_99 (fun h99 => ?_) (fun h99 => ?_)
            · -- t 106
              exact absurd rfl h99
            · -- f 102
              refine gn_ic 1 (by decide) dL_law_102 ?_
              refine g_goto (tgt := 107) (by decide) dL_law_103 ?_
              refine g_istore_n (lv2 := [(3, _), (5, _), (0, _), (1, _), (2, _), (4, _)]) (by decide) rfl dL_law_107 ?_
              refine g_aload_n 3 rfl dL_law_108 ?_
              refine g_sum hI92 l_L_278 (Nat.le_of_ble_eq_true rfl) (Nat.le_of_ble_eq_true rfl) dL_law_109 ?_
              refine g_lstore (lv2 := [(6, _), (3, _), (5, _), (0, _), (1, _), (2, _), (4, _)]) (by decide) rfl dL_law_112 ?_
              refine g_aload_n 4 rfl dL_law_114 ?_
              refine gv_Vz (k_day hI92 ) l_L_109 rfl hI92.rc (Nat.le_of_ble_eq_true rfl) (Nat.le_of_ble_eq_true rfl) rfl dL_law_115 ?_
              refine g_istore (lv2 := [(8, _), (6, _), (3, _), (5, _), (0, _), (1, _), (2, _), (4, _)]) (by decide) rfl dL_law_118 ?_
              refine gn_ic 0 (by decide) dL_law_120 ?_
              refine g_istore (lv2 := [(9, _), (8, _), (6, _), (3, _), (5, _), (0, _), (1, _), (2, _), (4, _)]) (by decide) rfl dL_law_121 ?_
              have L123 : ∀ (m123 : Nat) (i123 : Nat) (E123 : Hp) (n123 : Nat) (f123 : Nat → Int32) (c123 k123 : Nat) (t123 : Option (Nat → Int32)), (i123 + m123 = 8) → (IW Γ ab ra (1200000 + 90000 * i34 + 10000 * i123) (5 + 80 * i34 + 9 * i123) i34 F f123 c123 k123 t123 E123 n123) → G Γ 15 ML_law Pl X0 123 [(0, .ref (gF Γ 9)), (1, .ref ab), (2, .ref ra), (3, .int (nI 1)), (4, .int (nI i34)), (6, .long (smK F L)), (8, .int (F 8)), (9, .int (nI i123))] [] (E123) n123 (m34 * 1000 + m123 * 50) (m34 * 80000 + m123 * 400) := by
                intro m123
                induction m123 with
                | zero =>
                  intro i123 E123 n123 f123 c123 k123 t123 hi123 hI123
                  have hc123 := hI123.gd.2.1
                  refine g_iload 7 rfl dL_law_123 ?_
                  refine gn_bp 8 (by decide) dL_law_125 ?_
                  refine gn_icmp_ge (by omega) (by omega) (tgt := 342) (by decide) dL_law_127 (fun cc19 => ?_) (fun cc19 => ?_)
                  · -- t 342
                    refine g_iload_n 3 rfl dL_law_342 ?_
                    refine gn_if_eq (by omega) (tgt := 382) (by decide) dL_law_343 (fun cc20 => ?_) (fun cc20 => ?_)
                    · -- t 382
                      exact absurd cc20 (by decide)
                    · -- f 346
                      refine g_aload_n 2 rfl dL_law_346 ?_
                      refine g_next hI123 l_L_84 (Nat.le_of_ble_eq_true rfl) (Nat.le_of_ble_eq_true rfl) dL_law_347 (fun m347 E347 hm347 hI347 => ?_)
                      refine gn_ic 2 (by decide) dL_law_350 ?_
                      refine gn_irem (by omega) (by decide) (by decide) dL_law_351 ?_
                      refine gn_if_ne (by omega) (tgt := 382) (by decide) dL_law_352 (fun h352 => ?_) (fun h352 => ?_)
                      · -- t 382
                        refine gn_inc (lv2 := [(4, _), (0, _), (1, _), (2, _), (3, _), (6, _), (8, _), (9, _)]) 4 rfl (by decide) rfl dL_law_382 ?_
                        refine g_goto (tgt := 34) (by decide) dL_law_385 ?_
                        refine G.sub [1, 2, 3, 4, 0] rfl ?_
                        refine G.mono (kc2 := m34 * 1000) (ks2 := m34 * 80000) (by omega) (by omega) ?_
                        exact ih34 (i34 + 1) _ _ _ _ _ _ _ _ (by omega) (hI347.le (by omega) (by omega))
                      · -- f 355
                        refine g_aload_n 1 rfl dL_law_355 ?_
                        refine g_iload 4 rfl dL_law_356 ?_
                        refine gw_Viz (k_restore (c9 := L) hI347 rfl (by omega) (fun c9 hc9 => (nI_eq (by have := hc9.2.1; omega) (by omega)).mp (hc9.1.symm.trans hF7))) l_L_300 rfl hI347.rc (Nat.le_of_ble_eq_true rfl) (Nat.le_of_ble_eq_true rfl) rfl dL_law_358 (fun _ _ _ z => ⟨_, z.1⟩) (fun x358 E358 n358 z358 => ?_)
                        obtain ⟨e358, e2358, hI358⟩ := z358
                        have e9358 := (Value.int.inj (Option.some.inj e358)).symm
                        subst e9358
                        have e3358 := e2358.symm
                        subst e3358
                        refine g_iload 6 rfl dL_law_361 ?_
                        refine g_icmp_ne (tgt := 380) (by decide) dL_law_363 (fun h363 => ?_) (fun h363 => ?_)
                        · -- t 380
                          exact absurd rfl h363
                        · -- f 366
                          refine g_aload_n 1 rfl dL_law_366 ?_
                          refine g_sum hI358 l_L_278 (Nat.le_of_ble_eq_true rfl) (Nat.le_of_ble_eq_true rfl) dL_law_367 ?_
                          refine g_lload 5 rfl dL_law_370 ?_
                          refine g_lcmp0 dL_law_372 ?_
                          refine g_if_ne (tgt := 380) (by decide) dL_law_373 (fun cc21 => ?_) (fun cc21 => ?_)
                          · -- t 380
                            exact absurd cc21 (by decide)
                          · -- f 376
                            refine gn_ic 1 (by decide) dL_law_376 ?_
                            refine g_goto (tgt := 381) (by decide) dL_law_377 ?_
                            refine g_istore_n (lv2 := [(3, _), (0, _), (1, _), (2, _), (4, _), (6, _), (8, _), (9, _)]) (by decide) rfl dL_law_381 ?_
                            refine gn_inc (lv2 := [(4, _), (3, _), (0, _), (1, _), (2, _), (6, _), (8, _), (9, _)]) 4 rfl (by decide) rfl dL_law_382 ?_
                            refine g_goto (tgt := 34) (by decide) dL_law_385 ?_
                            refine G.sub [2, 3, 4, 1, 0] rfl ?_
                            refine G.mono (kc2 := m34 * 1000) (ks2 := m34 * 80000) (by omega) (by omega) ?_
                            exact ih34 (i34 + 1) _ _ _ _ _ _ _ _ (by omega) (hI358.le (by omega) (by omega))
                  · -- f 130
                    exfalso; omega
                | succ m123 ih123 =>
                  intro i123 E123 n123 f123 c123 k123 t123 hi123 hI123
                  have hc123 := hI123.gd.2.1
                  refine g_iload 7 rfl dL_law_123 ?_
                  refine gn_bp 8 (by decide) dL_law_125 ?_
                  refine gn_icmp_ge (by omega) (by omega) (tgt := 342) (by decide) dL_law_127 (fun cc22 => ?_) (fun cc22 => ?_)
                  · -- t 342
                    exfalso; omega
                  · -- f 130
                    refine g_iload_n 3 rfl dL_law_130 ?_
                    refine gn_if_eq (by omega) (tgt := 342) (by decide) dL_law_131 (fun cc23 => ?_) (fun cc23 => ?_)
                    · -- t 342
                      exact absurd cc23 (by decide)
                    · -- f 134
                      refine g_aload_n 1 rfl dL_law_134 ?_
                      refine g_sum hI123 l_L_278 (Nat.le_of_ble_eq_true rfl) (Nat.le_of_ble_eq_true rfl) dL_law_135 ?_
                      refine g_lstore (lv2 := [(10, _), (0, _), (1, _), (2, _), (3, _), (4, _), (6, _), (8, _), (9, _)]) (by decide) rfl dL_law_138 ?_
                      refine g_aload_n 2 rfl dL_law_140 ?_
                      refine gn_ic 0 (by decide) dL_law_141 ?_
                      refine G.mono (kc2 := (m34 * 1000 + m123 * 50 + 49) + 1) (ks2 := (m34 * 80000 + m123 * 400 + 394) + 6) (by omega) (by omega) ?_
                      refine g_SHi (v_advanced_no hI123 (by decide)) l_L_244 rfl (Nat.le_of_ble_eq_true rfl) (Nat.le_of_ble_eq_true rfl) rfl dL_law_142 (fun _ _ _ z => ⟨_, z.1⟩) (fun x142 E142 n142 z142 => ?_)
                      obtain ⟨e142, e2142, e3142⟩ := z142
                      have e9142 := (Value.int.inj (Option.some.inj e142)).symm
                      subst e9142
                      have e4142 := e2142.symm
                      subst e4142
                      have hI142 := hI123.up e3142
                      refine g_bipush (v := -2) dL_law_145 (by decide) ?_
                      refine g_icmp_ne (tgt := 243) (by decide) dL_law_147 (fun h147 => ?_) (fun h147 => ?_)
                      · -- t 243
                        exact absurd rfl h147
                      · -- f 150
                        refine g_aload_n 2 rfl dL_law_150 ?_
                        refine gn_ic 5 (by decide) dL_law_151 ?_
                        refine gn_ic 0 (by decide) dL_law_152 ?_
                        refine gn_ic 0 (by decide) dL_law_153 ?_
                        refine G.mono (kc2 := (m34 * 1000 + m123 * 50 + 48) + 1) (ks2 := (m34 * 80000 + m123 * 400 + 388) + 6) (by omega) (by omega) ?_
                        refine g_SHi (v_movedIn_noF hI142 (by decide)) l_L_249 rfl (Nat.le_of_ble_eq_true rfl) (Nat.le_of_ble_eq_true rfl) rfl dL_law_154 (fun _ _ _ z => ⟨_, z.1⟩) (fun x154 E154 n154 z154 => ?_)
                        obtain ⟨e154, e2154, e3154⟩ := z154
                        have e9154 := (Value.int.inj (Option.some.inj e154)).symm
                        subst e9154
                        have e4154 := e2154.symm
                        subst e4154
                        have hI154 := hI142.up e3154
                        refine g_bipush (v := -2) dL_law_157 (by decide) ?_
                        refine g_icmp_ne (tgt := 243) (by decide) dL_law_159 (fun h159 => ?_) (fun h159 => ?_)
                        · -- t 243
                          exact absurd rfl h159
                        · -- f 162
                          refine g_aload_n 2 rfl dL_law_162 ?_
                          refine gn_bp 12 (by decide) dL_law_163 ?_
                          refine G.mono (kc2 := (m34 * 1000 + m123 * 50 + 47) + 1) (ks2 := (m34 * 80000 + m123 * 400 + 382) + 6) (by omega) (by omega) ?_
                          refine g_SHi (v_movedOut_no hI154 (no12 _ hc123)) l_L_256 rfl (Nat.le_of_ble_eq_true rfl) (Nat.le_of_ble_eq_true rfl) rfl dL_law_165 (fun _ _ _ z => ⟨_, z.1⟩) (fun x165 E165 n165 z165 => ?_)
                          obtain ⟨e165, e2165, e3165⟩ := z165
                          have e9165 := (Value.int.inj (Option.some.inj e165)).symm
                          subst e9165
                          have e4165 := e2165.symm
                          subst e4165
                          have hI165 := hI154.up e3165
                          refine gn_sp 9999 (by decide) dL_law_168 ?_
                          refine g_icmp_ne (tgt := 243) (by decide) dL_law_171 (fun h171 => ?_) (fun h171 => ?_)
                          · -- t 243
                            exact absurd (by decide) h171
                          · -- f 174
                            refine g_aload_n 2 rfl dL_law_174 ?_
                            refine g_iconst (v := -1) dL_law_175 (by decide) ?_
                            refine gn_ic 0 (by decide) dL_law_176 ?_
                            refine G.mono (kc2 := (m34 * 1000 + m123 * 50 + 46) + 1) (ks2 := (m34 * 80000 + m123 * 400 + 376) + 6) (by omega) (by omega) ?_
                            refine g_SHi (v_movedTo_noL hI165 (fun z => absurd z.1 (by decide))) l_L_259 rfl (Nat.le_of_ble_eq_true rfl) (Nat.le_of_ble_eq_true rfl) rfl dL_law_177 (fun _ _ _ z => ⟨_, z.1⟩) (fun x177 E177 n177 z177 => ?_)
                            obtain ⟨e177, e2177, e3177⟩ := z177
                            have e9177 := (Value.int.inj (Option.some.inj e177)).symm
                            subst e9177
                            have e4177 := e2177.symm
                            subst e4177
                            have hI177 := hI165.up e3177
                            refine g_bipush (v := -5) dL_law_180 (by decide) ?_
                            refine g_icmp_ne (tgt := 243) (by decide) dL_law_182 (fun h182 => ?_) (fun h182 => ?_)
                            · -- t 243
                              exact absurd rfl h182
                            · -- f 185
                              refine g_aload_n 2 rfl dL_law_185 ?_
                              refine gn_bp 12 (by decide) dL_law_186 ?_
                              refine gn_ic 1 (by decide) dL_law_188 ?_
                              refine G.mono (kc2 := (m34 * 1000 + m123 * 50 + 45) + 1) (ks2 := (m34 * 80000 + m123 * 400 + 370) + 6) (by omega) (by omega) ?_
                              refine g_SHi (v_paid_noL hI177 (no12 _ hc123)) l_L_237 rfl (Nat.le_of_ble_eq_true rfl) (Nat.le_of_ble_eq_true rfl) rfl dL_law_189 (fun _ _ _ z => ⟨_, z.1⟩) (fun x189 E189 n189 z189 => ?_)
                              obtain ⟨e189, e2189, e3189⟩ := z189
                              have e9189 := (Value.int.inj (Option.some.inj e189)).symm
                              subst e9189
                              have e4189 := e2189.symm
                              subst e4189
                              have hI189 := hI177.up e3189
                              refine g_ldcI (v := -99995) (wl_5 132 rfl rfl) dL_law_192 ?_
                              refine g_icmp_ne (tgt := 243) (by decide) dL_law_194 (fun h194 => ?_) (fun h194 => ?_)
                              · -- t 243
                                exact absurd rfl h194
                              · -- f 197
                                refine g_aload_n 2 rfl dL_law_197 ?_
                                refine gn_ic 5 (by decide) dL_law_198 ?_
                                refine gn_ic 0 (by decide) dL_law_199 ?_
                                refine G.mono (kc2 := (m34 * 1000 + m123 * 50 + 44) + 1) (ks2 := (m34 * 80000 + m123 * 400 + 364) + 6) (by omega) (by omega) ?_
                                refine g_SHi (v_spoke_no hI189 (by decide)) l_L_262 rfl (Nat.le_of_ble_eq_true rfl) (Nat.le_of_ble_eq_true rfl) rfl dL_law_200 (fun _ _ _ z => ⟨_, z.1⟩) (fun x200 E200 n200 z200 => ?_)
                                obtain ⟨e200, e2200, e3200⟩ := z200
                                have e9200 := (Value.int.inj (Option.some.inj e200)).symm
                                subst e9200
                                have e4200 := e2200.symm
                                subst e4200
                                have hI200 := hI189.up e3200
                                refine g_bipush (v := -5) dL_law_203 (by decide) ?_
                                refine g_icmp_ne (tgt := 243) (by decide) dL_law_205 (fun h205 => ?_) (fun h205 => ?_)
                                · -- t 243
                                  exact absurd rfl h205
                                · -- f 208
                                  refine g_aload_n 2 rfl dL_law_208 ?_
                                  refine gn_bp 46 (by decide) dL_law_209 ?_
                                  refine G.mono (kc2 := (m34 * 1000 + m123 * 50 + 43) + 1) (ks2 := (m34 * 80000 + m123 * 400 + 358) + 6) (by omega) (by omega) ?_
                                  refine g_SHi (v_tolerates_no hI200 (by decide)) l_L_265 rfl (Nat.le_of_ble_eq_true rfl) (Nat.le_of_ble_eq_true rfl) rfl dL_law_211 (fun _ _ _ z => ⟨_, z.1⟩) (fun x211 E211 n211 z211 => ?_)
                                  obtain ⟨e211, e2211, e3211⟩ := z211
                                  have e9211 := (Value.int.inj (Option.some.inj e211)).symm
                                  subst e9211
                                  have e4211 := e2211.symm
                                  subst e4211
                                  have hI211 := hI200.up e3211
                                  refine g_bipush (v := -2) dL_law_214 (by decide) ?_
                                  refine g_icmp_ne (tgt := 243) (by decide) dL_law_216 (fun h216 => ?_) (fun h216 => ?_)
                                  · -- t 243
                                    exact absurd rfl h216
                                  · -- f 219
                                    refine g_aload_n 2 rfl dL_law_219 ?_
                                    refine g_iconst (v := -1) dL_law_220 (by decide) ?_
                                    refine G.mono (kc2 := (m34 * 1000 + m123 * 50 + 42) + 1) (ks2 := (m34 * 80000 + m123 * 400 + 352) + 6) (by omega) (by omega) ?_
                                    refine g_SHi (v_rents_no hI211 (fun z => absurd z.1 (by decide))) l_L_253 rfl (Nat.le_of_ble_eq_true rfl) (Nat.le_of_ble_eq_true rfl) rfl dL_law_221 (fun _ _ _ z => ⟨_, z.1⟩) (fun x221 E221 n221 z221 => ?_)
                                    obtain ⟨e221, e2221, e3221⟩ := z221
                                    have e9221 := (Value.int.inj (Option.some.inj e221)).symm
                                    subst e9221
                                    have e4221 := e2221.symm
                                    subst e4221
                                    have hI221 := hI211.up e3221
                                    refine g_bipush (v := -2) dL_law_224 (by decide) ?_
                                    refine g_icmp_ne (tgt := 243) (by decide) dL_law_226 (fun h226 => ?_) (fun h226 => ?_)
                                    · -- t 243
                                      exact absurd rfl h226
                                    · -- f 229
                                      refine g_aload_n 2 rfl dL_law_229 ?_
                                      refine g_sum hI221 l_L_278 (Nat.le_of_ble_eq_true rfl) (Nat.le_of_ble_eq_true rfl) dL_law_230 ?_
                                      refine g_lload 0 rfl dL_law_233 ?_
                                      refine g_lcmp0 dL_law_235 ?_
                                      refine g_if_ne (tgt := 243) (by decide) dL_law_236 (fun cc24 => ?_) (fun cc24 => ?_)
                                      · -- t 243
                                        exact absurd cc24 (by decide)
                                      · -- f 239
                                        refine gn_ic 1 (by decide) dL_law_239 ?_
                                        refine g_goto (tgt := 244) (by decide) dL_law_240 ?_
                                        refine g_istore_n (lv2 := [(3, _), (10, _), (0, _), (1, _), (2, _), (4, _), (6, _), (8, _), (9, _)]) (by decide) rfl dL_law_244 ?_
                                        refine g_iload_n 0 rfl dL_law_245 ?_
                                        refine gn_if_eq (by omega) (tgt := 298) (by decide) dL_law_246 (fun cc25 => ?_) (fun cc25 => ?_)
                                        · -- t 298
                                          exact absurd cc25 (by decide)
                                        · -- f 249
                                          refine g_aload_n 3 rfl dL_law_249 ?_
                                          refine g_aload_n 4 rfl dL_law_250 ?_
                                          refine G.mono (kc2 := (m34 * 1000 + m123 * 50 + 36) + 2) (ks2 := (m34 * 80000 + m123 * 400 + 200) + 44) (by omega) (by omega) ?_
                                          refine g_Sz (v := .int (nI 1)) (kc := m34 * 1000 + m123 * 50 + 36) (ks := m34 * 80000 + m123 * 400 + 200) (c_L_act hI221 (by omega) (by omega) (by omega)) l_L_282 rfl (Nat.le_of_ble_eq_true rfl) (Nat.le_of_ble_eq_true rfl) rfl dL_law_251 (fun _ _ _ z => z.1) (fun E251 n251 z251 => ?_)
                                          obtain ⟨-, hn251, f2, c2, kp2, tp2, hI251⟩ := z251
                                          refine gn_if_eq (by omega) (tgt := 298) (by decide) dL_law_254 (fun cc26 => ?_) (fun cc26 => ?_)
                                          · -- t 298
                                            exact absurd cc26 (by decide)
                                          · -- f 257
                                            refine g_aload_n 3 rfl dL_law_257 ?_
                                            refine G.mono (kc2 := (m34 * 1000 + m123 * 50 + 4) + 30) (ks2 := (m34 * 80000 + m123 * 400 + 20) + 180) (by omega) (by omega) ?_
                                            refine g_Sz (v := .int (nI 1)) (kc := m34 * 1000 + m123 * 50 + 4) (ks := m34 * 80000 + m123 * 400 + 20) (c_L_floors hI251 (by omega)) l_L_286 rfl (Nat.le_of_ble_eq_true rfl) (Nat.le_of_ble_eq_true rfl) rfl dL_law_258 (fun _ _ _ z => z.1) (fun E258 n258 z258 => ?_)
                                            obtain ⟨-, hn258, hI258⟩ := z258
                                            refine gn_if_eq (by omega) (tgt := 298) (by decide) dL_law_261 (fun cc27 => ?_) (fun cc27 => ?_)
                                            · -- t 298
                                              exact absurd cc27 (by decide)
                                            · -- f 264
                                              refine g_aload_n 3 rfl dL_law_264 ?_
                                              refine G.mono (kc2 := (m34 * 1000 + m123 * 50 + 4) + 0) (ks2 := (m34 * 80000 + m123 * 400 + 20) + 0) (by omega) (by omega) ?_
                                              refine g_Sz (v := .int (nI 1)) (kc := m34 * 1000 + m123 * 50 + 4) (ks := m34 * 80000 + m123 * 400 + 20) (c_L_accents hI258) l_L_290 rfl (Nat.le_of_ble_eq_true rfl) (Nat.le_of_ble_eq_true rfl) rfl dL_law_265 (fun _ _ _ z => z.1) (fun E265 n265 z265 => ?_)
                                              obtain ⟨-, hn265, hI265⟩ := z265
                                              have e265 := hn265.symm
                                              subst e265
                                              have hc265 := hI265.gd.2.1
                                              refine gn_if_eq (by omega) (tgt := 298) (by decide) dL_law_268 (fun cc28 => ?_) (fun cc28 => ?_)
                                              · -- t 298
                                                exact absurd cc28 (by decide)
                                              · -- f 271
                                                refine g_aload_n 3 rfl dL_law_271 ?_
                                                refine gv_Vz (k_lodgerCount hI265 ) l_L_133 rfl hI265.rc (Nat.le_of_ble_eq_true rfl) (Nat.le_of_ble_eq_true rfl) rfl dL_law_272 ?_
                                                refine gn_if_eq (by omega) (tgt := 294) (by decide) dL_law_275 (fun h275 => ?_) (fun h275 => ?_)
                                                · -- t 294
                                                  refine gn_ic 1 (by decide) dL_law_294 ?_
                                                  refine g_goto (tgt := 299) (by decide) dL_law_295 ?_
                                                  refine g_istore_n (lv2 := [(3, _), (10, _), (0, _), (1, _), (2, _), (4, _), (6, _), (8, _), (9, _)]) (by decide) rfl dL_law_299 ?_
                                                  refine g_iload_n 0 rfl dL_law_300 ?_
                                                  refine gn_if_eq (by omega) (tgt := 336) (by decide) dL_law_301 (fun cc29 => ?_) (fun cc29 => ?_)
                                                  · -- t 336
                                                    exact absurd cc29 (by decide)
                                                  · -- f 304
                                                    refine g_aload_n 4 rfl dL_law_304 ?_
                                                    refine g_next hI265 l_L_84 (Nat.le_of_ble_eq_true rfl) (Nat.le_of_ble_eq_true rfl) dL_law_305 (fun m305 E305 hm305 hI305 => ?_)
                                                    refine gn_ic 4 (by decide) dL_law_308 ?_
                                                    refine gn_irem (by omega) (by decide) (by decide) dL_law_309 ?_
                                                    refine gn_if_ne (by omega) (tgt := 336) (by decide) dL_law_310 (fun h310 => ?_) (fun h310 => ?_)
                                                    · -- t 336
                                                      refine gn_inc (lv2 := [(9, _), (3, _), (10, _), (0, _), (1, _), (2, _), (4, _), (6, _), (8, _)]) 8 rfl (by decide) rfl dL_law_336 ?_
                                                      refine g_goto (tgt := 123) (by decide) dL_law_339 ?_
                                                      refine G.sub [3, 4, 5, 1, 6, 7, 8, 0] rfl ?_
                                                      refine G.mono (kc2 := m34 * 1000 + m123 * 50) (ks2 := m34 * 80000 + m123 * 400) (by omega) (by omega) ?_
                                                      exact ih123 (i123 + 1) _ _ _ _ _ _ (by omega) (hI305.le (by omega) (by omega))
                                                    · -- f 313
                                                      refine g_aload_n 3 rfl dL_law_313 ?_
                                                      refine gv_Vz (k_undoCount hI305 ) l_L_297 rfl hI305.rc (Nat.le_of_ble_eq_true rfl) (Nat.le_of_ble_eq_true rfl) rfl dL_law_314 ?_
                                                      refine g_istore (lv2 := [(12, _), (3, _), (10, _), (0, _), (1, _), (2, _), (4, _), (6, _), (8, _), (9, _)]) (by decide) rfl dL_law_317 ?_
                                                      refine g_aload_n 4 rfl dL_law_319 ?_
                                                      by_cases k0 : kp2 = 0
                                                      · skip
                                                        refine G.mono (kc2 := (m34 * 1000 + m123 * 50 + 3) + 1) (ks2 := (m34 * 80000 + m123 * 400 + 14) + 6) (by omega) (by omega) ?_
                                                        refine g_SHi (v_undone_no hI305 k0) l_L_240 rfl (Nat.le_of_ble_eq_true rfl) (Nat.le_of_ble_eq_true rfl) rfl dL_law_320 (fun _ _ _ z => ⟨_, z.1⟩) (fun x320 E320 n320 z320 => ?_)
                                                        obtain ⟨e320, e2320, e3320⟩ := z320
                                                        have e9320 := (Value.int.inj (Option.some.inj e320)).symm
                                                        subst e9320
                                                        have e4320 := e2320.symm
                                                        subst e4320
                                                        have hI320 := hI305.up e3320
                                                        refine g_iload 0 rfl dL_law_323 ?_
                                                        refine gn_ic 1 (by decide) dL_law_325 ?_
                                                        refine g_isub dL_law_326 ?_
                                                        refine g_icmp_ne (tgt := 334) (by decide) dL_law_327 (fun h327 => ?_) (fun h327 => ?_)
                                                        · -- t 334
                                                          exact absurd (show (-1 : Int32) = nI kp2 - nI 1 by rw [k0]; decide) h327
                                                        · -- f 330
                                                          refine gn_ic 1 (by decide) dL_law_330 ?_
                                                          refine g_goto (tgt := 335) (by decide) dL_law_331 ?_
                                                          refine g_istore_n (lv2 := [(3, _), (12, _), (10, _), (0, _), (1, _), (2, _), (4, _), (6, _), (8, _), (9, _)]) (by decide) rfl dL_law_335 ?_
                                                          refine gn_inc (lv2 := [(9, _), (3, _), (12, _), (10, _), (0, _), (1, _), (2, _), (4, _), (6, _), (8, _)]) 9 rfl (by decide) rfl dL_law_336 ?_
                                                          refine g_goto (tgt := 123) (by decide) dL_law_339 ?_
                                                          refine G.sub [4, 5, 6, 1, 7, 8, 9, 0] rfl ?_
                                                          refine G.mono (kc2 := m34 * 1000 + m123 * 50) (ks2 := m34 * 80000 + m123 * 400) (by omega) (by omega) ?_
                                                          exact ih123 (i123 + 1) _ _ _ _ _ _ (by omega) (hI320.le (by omega) (by omega))
                                                      · skip
                                                        refine g_SHz (v_undone hI305 (by omega)) l_L_240 rfl (Nat.le_of_ble_eq_true rfl) (Nat.le_of_ble_eq_true rfl) rfl dL_law_320 (fun _ _ _ z => ⟨_, z.1⟩) (fun x320 E320 n320 z320 => ?_)
                                                        obtain ⟨e320, e2320, -, g4, c4, hI320⟩ := z320
                                                        have e9320 := (Value.int.inj (Option.some.inj e320)).symm
                                                        subst e9320
                                                        have e3320 := e2320.symm
                                                        subst e3320
                                                        refine g_iload 0 rfl dL_law_323 ?_
                                                        refine gn_ic 1 (by decide) dL_law_325 ?_
                                                        refine g_isub dL_law_326 ?_
                                                        refine g_icmp_ne (tgt := 334) (by decide) dL_law_327 (fun h327 => ?_) (fun h327 => ?_)
                                                        · -- t 334
                                                          exact absurd (nI_pr (by omega)).symm h327
                                                        · -- f 330
                                                          refine gn_ic 1 (by decide) dL_law_330 ?_
                                                          refine g_goto (tgt := 335) (by decide) dL_law_331 ?_
                                                          refine g_istore_n (lv2 := [(3, _), (12, _), (10, _), (0, _), (1, _), (2, _), (4, _), (6, _), (8, _), (9, _)]) (by decide) rfl dL_law_335 ?_
                                                          refine gn_inc (lv2 := [(9, _), (3, _), (12, _), (10, _), (0, _), (1, _), (2, _), (4, _), (6, _), (8, _)]) 9 rfl (by decide) rfl dL_law_336 ?_
                                                          refine g_goto (tgt := 123) (by decide) dL_law_339 ?_
                                                          refine G.sub [4, 5, 6, 1, 7, 8, 9, 0] rfl ?_
                                                          refine G.mono (kc2 := m34 * 1000 + m123 * 50) (ks2 := m34 * 80000 + m123 * 400) (by omega) (by omega) ?_
                                                          exact ih123 (i123 + 1) _ _ _ _ _ _ (by omega) (hI320.le (by omega) (by omega))
                                                · -- f 278
                                                  refine g_aload_n 3 rfl dL_law_278 ?_
                                                  refine g_aload_n 4 rfl dL_law_279 ?_
                                                  refine g_next hI265 l_L_84 (Nat.le_of_ble_eq_true rfl) (Nat.le_of_ble_eq_true rfl) dL_law_280 (fun m280 E280 hm280 hI280 => ?_)
                                                  refine g_aload_n 3 rfl dL_law_283 ?_
                                                  refine gv_Vz (k_lodgerCount hI280 ) l_L_133 rfl hI280.rc (Nat.le_of_ble_eq_true rfl) (Nat.le_of_ble_eq_true rfl) rfl dL_law_284 ?_
                                                  refine gn_irem (by omega) (by omega) (by omega) dL_law_287 ?_
                                                  refine G.mono (kc2 := (m34 * 1000 + m123 * 50 + 4) + 0) (ks2 := (m34 * 80000 + m123 * 400 + 20) + 0) (by omega) (by omega) ?_
                                                  refine g_Sz (v := .int (nI 1)) (kc := m34 * 1000 + m123 * 50 + 4) (ks := m34 * 80000 + m123 * 400 + 20) (c_L_saves hI280 (Nat.mod_lt _ (by omega)) (by omega) (by omega)) l_L_293 rfl (Nat.le_of_ble_eq_true rfl) (Nat.le_of_ble_eq_true rfl) rfl dL_law_288 (fun _ _ _ z => z.1) (fun E288 n288 z288 => ?_)
                                                  obtain ⟨-, hn288, kp3, tp3, hI288⟩ := z288
                                                  have e288 := hn288.symm
                                                  subst e288
                                                  refine gn_if_eq (by omega) (tgt := 298) (by decide) dL_law_291 (fun cc30 => ?_) (fun cc30 => ?_)
                                                  · -- t 298
                                                    exact absurd cc30 (by decide)
                                                  · -- f 294
                                                    refine gn_ic 1 (by decide) dL_law_294 ?_
                                                    refine g_goto (tgt := 299) (by decide) dL_law_295 ?_
                                                    refine g_istore_n (lv2 := [(3, _), (10, _), (0, _), (1, _), (2, _), (4, _), (6, _), (8, _), (9, _)]) (by decide) rfl dL_law_299 ?_
                                                    refine g_iload_n 0 rfl dL_law_300 ?_
                                                    refine gn_if_eq (by omega) (tgt := 336) (by decide) dL_law_301 (fun cc31 => ?_) (fun cc31 => ?_)
                                                    · -- t 336
                                                      exact absurd cc31 (by decide)
                                                    · -- f 304
                                                      refine g_aload_n 4 rfl dL_law_304 ?_
                                                      refine g_next hI288 l_L_84 (Nat.le_of_ble_eq_true rfl) (Nat.le_of_ble_eq_true rfl) dL_law_305 (fun m305 E305 hm305 hI305 => ?_)
                                                      refine gn_ic 4 (by decide) dL_law_308 ?_
                                                      refine gn_irem (by omega) (by decide) (by decide) dL_law_309 ?_
                                                      refine gn_if_ne (by omega) (tgt := 336) (by decide) dL_law_310 (fun h310 => ?_) (fun h310 => ?_)
                                                      · -- t 336
                                                        refine gn_inc (lv2 := [(9, _), (3, _), (10, _), (0, _), (1, _), (2, _), (4, _), (6, _), (8, _)]) 8 rfl (by decide) rfl dL_law_336 ?_
                                                        refine g_goto (tgt := 123) (by decide) dL_law_339 ?_
                                                        refine G.sub [3, 4, 5, 1, 6, 7, 8, 0] rfl ?_
                                                        refine G.mono (kc2 := m34 * 1000 + m123 * 50) (ks2 := m34 * 80000 + m123 * 400) (by omega) (by omega) ?_
                                                        exact ih123 (i123 + 1) _ _ _ _ _ _ (by omega) (hI305.le (by omega) (by omega))
                                                      · -- f 313
                                                        refine g_aload_n 3 rfl dL_law_313 ?_
                                                        refine gv_Vz (k_undoCount hI305 ) l_L_297 rfl hI305.rc (Nat.le_of_ble_eq_true rfl) (Nat.le_of_ble_eq_true rfl) rfl dL_law_314 ?_
                                                        refine g_istore (lv2 := [(12, _), (3, _), (10, _), (0, _), (1, _), (2, _), (4, _), (6, _), (8, _), (9, _)]) (by decide) rfl dL_law_317 ?_
                                                        refine g_aload_n 4 rfl dL_law_319 ?_
                                                        by_cases k0 : kp3 = 0
                                                        · skip
                                                          refine G.mono (kc2 := (m34 * 1000 + m123 * 50 + 3) + 1) (ks2 := (m34 * 80000 + m123 * 400 + 14) + 6) (by omega) (by omega) ?_
                                                          refine g_SHi (v_undone_no hI305 k0) l_L_240 rfl (Nat.le_of_ble_eq_true rfl) (Nat.le_of_ble_eq_true rfl) rfl dL_law_320 (fun _ _ _ z => ⟨_, z.1⟩) (fun x320 E320 n320 z320 => ?_)
                                                          obtain ⟨e320, e2320, e3320⟩ := z320
                                                          have e9320 := (Value.int.inj (Option.some.inj e320)).symm
                                                          subst e9320
                                                          have e4320 := e2320.symm
                                                          subst e4320
                                                          have hI320 := hI305.up e3320
                                                          refine g_iload 0 rfl dL_law_323 ?_
                                                          refine gn_ic 1 (by decide) dL_law_325 ?_
                                                          refine g_isub dL_law_326 ?_
                                                          refine g_icmp_ne (tgt := 334) (by decide) dL_law_327 (fun h327 => ?_) (fun h327 => ?_)
                                                          · -- t 334
                                                            exact absurd (show (-1 : Int32) = nI kp3 - nI 1 by rw [k0]; decide) h327
                                                          · -- f 330
                                                            refine gn_ic 1 (by decide) dL_law_330 ?_
                                                            refine g_goto (tgt := 335) (by decide) dL_law_331 ?_
                                                            refine g_istore_n (lv2 := [(3, _), (12, _), (10, _), (0, _), (1, _), (2, _), (4, _), (6, _), (8, _), (9, _)]) (by decide) rfl dL_law_335 ?_
                                                            refine gn_inc (lv2 := [(9, _), (3, _), (12, _), (10, _), (0, _), (1, _), (2, _), (4, _), (6, _), (8, _)]) 9 rfl (by decide) rfl dL_law_336 ?_
                                                            refine g_goto (tgt := 123) (by decide) dL_law_339 ?_
                                                            refine G.sub [4, 5, 6, 1, 7, 8, 9, 0] rfl ?_
                                                            refine G.mono (kc2 := m34 * 1000 + m123 * 50) (ks2 := m34 * 80000 + m123 * 400) (by omega) (by omega) ?_
                                                            exact ih123 (i123 + 1) _ _ _ _ _ _ (by omega) (hI320.le (by omega) (by omega))
                                                        · skip
                                                          refine g_SHz (v_undone hI305 (by omega)) l_L_240 rfl (Nat.le_of_ble_eq_true rfl) (Nat.le_of_ble_eq_true rfl) rfl dL_law_320 (fun _ _ _ z => ⟨_, z.1⟩) (fun x320 E320 n320 z320 => ?_)
                                                          obtain ⟨e320, e2320, -, g4, c4, hI320⟩ := z320
                                                          have e9320 := (Value.int.inj (Option.some.inj e320)).symm
                                                          subst e9320
                                                          have e3320 := e2320.symm
                                                          subst e3320
                                                          refine g_iload 0 rfl dL_law_323 ?_
                                                          refine gn_ic 1 (by decide) dL_law_325 ?_
                                                          refine g_isub dL_law_326 ?_
                                                          refine g_icmp_ne (tgt := 334) (by decide) dL_law_327 (fun h327 => ?_) (fun h327 => ?_)
                                                          · -- t 334
                                                            exact absurd (nI_pr (by omega)).symm h327
                                                          · -- f 330
                                                            refine gn_ic 1 (by decide) dL_law_330 ?_
                                                            refine g_goto (tgt := 335) (by decide) dL_law_331 ?_
                                                            refine g_istore_n (lv2 := [(3, _), (12, _), (10, _), (0, _), (1, _), (2, _), (4, _), (6, _), (8, _), (9, _)]) (by decide) rfl dL_law_335 ?_
                                                            refine gn_inc (lv2 := [(9, _), (3, _), (12, _), (10, _), (0, _), (1, _), (2, _), (4, _), (6, _), (8, _)]) 9 rfl (by decide) rfl dL_law_336 ?_
                                                            refine g_goto (tgt := 123) (by decide) dL_law_339 ?_
                                                            refine G.sub [4, 5, 6, 1, 7, 8, 9, 0] rfl ?_
                                                            refine G.mono (kc2 := m34 * 1000 + m123 * 50) (ks2 := m34 * 80000 + m123 * 400) (by omega) (by omega) ?_
                                                            exact ih123 (i123 + 1) _ _ _ _ _ _ (by omega) (hI320.le (by omega) (by omega))
              refine G.sub [5, 6, 7, 3, 8, 2, 1, 0] rfl ?_
              refine G.mono (kc2 := m34 * 1000 + 8 * 50) (ks2 := m34 * 80000 + 8 * 400) (by omega) (by omega) ?_
              exact L123 8 0 _ _ _ _ _ _ (by omega) (hI92.le (by omega) (by omega))
set_option maxRecDepth 100000 in
set_option maxHeartbeats 400000 in
theorem law_start {Γ : Gm} {ab : Nat} (hsl : gF Γ 10 < 2 ^ 31) : G Γ 15 ML_law Pl X0 0 [(0, .ref (gF Γ 9))] [] (fun _ => none) ab 725037 6926587 := by
  refine G.mono (kc2 := 2 * 1000 + 1 + 970 + 1) (ks2 := 2 * 80000 + 1 + 13710 + 11) (by decide) (by decide) ?_
  refine gn_X7 (wl_1 29 rfl rfl) (wl_1 30 rfl rfl) (wl_1 1 rfl rfl) dL_law_0 (fun _ _ => ?_)
  refine g_dup rfl dL_law_3 ?_
  have hz := c_X7_init (Γ := Γ) (ab := ab) (E := hset (fun _ => none) ab (.inr (10, dfX7))) hset_s
  have hg := fun c => @ini_gd c
  generalize (dayM (iniL 4) iniI 4).1 = f9 at hz hg
  refine gx_I0 (kc := 2 * 1000 + 1) (ks := 2 * 80000 + 1) hz l_L_268 rfl (Nat.le_of_ble_eq_true rfl) (Nat.le_of_ble_eq_true rfl) rfl dL_law_4 (fun _ _ _ h => h.1) (fun E1 mo z => ?_)
  obtain ⟨-, S, q, c, hCA, ⟨t2, lv, cap, cnt, b, R2, R3, rfl, hok, hr3, hv3⟩, -⟩ := z
  refine g_astore_n (lv2 := [(1, _), (0, _)]) (by decide) rfl dL_law_7 ?_
  refine gn_ic 1 (by decide) dL_law_8 ?_
  refine gn_ni (wl_1 94 rfl rfl) (by decide) dL_law_9 (fun _ _ => ?_)
  refine g_dup rfl dL_law_11 ?_
  refine gn_ic 0 (by decide) dL_law_12 ?_
  refine g_aload_n 1 rfl dL_law_13 ?_
  refine g_slen dL_law_14 ?_
  have K : ∀ x : Int32, G Γ 15 ML_law Pl X0 27 [(1, .ref ab), (0, .ref (gF Γ 9))] [.int x, .int (nI 0), .ref mo, .ref mo] (hset E1 mo (.inl (gA Γ 0, 1, .inl (fun _ => nI 0)))) (mo + 1) (2 * 1000) (2 * 80000) := fun x => by
    refine gn_iast hset_s (by decide) (by decide) hset_hs dL_law_27 ?_
    refine g_astore_n (lv2 := [(2, _), (1, _), (0, _)]) (by decide) rfl dL_law_28 ?_
    refine gn_ic 1 (by decide) dL_law_29 ?_
    refine g_istore_n (lv2 := [(3, _), (2, _), (1, _), (0, _)]) (by decide) rfl dL_law_30 ?_
    refine gn_ic 0 (by decide) dL_law_31 ?_
    refine g_istore (lv2 := [(4, _), (3, _), (2, _), (1, _), (0, _)]) (by decide) rfl dL_law_32 ?_
    exact G.sub [4, 3, 2, 1, 0] rfl (law_loop hsl 2 0 _ _ 2 (fun _ => nI 0) f9 c 0 none rfl (iw_start hCA hok hr3 hv3 (hg c hv3) (fun a ha => hset_n (by omega)) hset_s))
  refine gn_if_ne hsl (tgt := 24) (by decide) dL_law_15 (fun h15 => ?_) (fun h15 => ?_)
  · refine g_aload_n 1 rfl dL_law_24 ?_
    refine gn_ic 0 (by decide) dL_law_25 ?_
    refine g_sld (by omega) dL_law_26 ?_
    exact K _
  · refine gn_sp 1813 (by decide) dL_law_18 ?_
    refine g_goto (tgt := 27) (by decide) dL_law_21 ?_
    exact K _
end GQ11
