section GQ8
set_option maxRecDepth 100000 in
set_option maxHeartbeats 4000000 in
theorem c_L_act1 {Γ : Gm} {n : Nat} {E : Hp} {ab ra B D s0 c kp : Nat} {g0 f : Nat → Int32} {top : Option (Nat → Int32)} (hI : IW Γ ab ra B D s0 g0 f c kp top E n) (h0 : ¬ c = 0) (hD : D + 9 ≤ 9999) (hB7 : 7 ≤ B) (hB : B + 8000 < 2 ^ 31) : Ct Γ 14 ML_act 2 44 [.ref ab, .ref ra] (E) n (fun r E2 n2 => r = some (.int (nI 1)) ∧ n ≤ n2 ∧ ∃ f2 c2 kp2 top2, IW Γ ab ra (B + 7000) (D + 9) s0 g0 f2 c2 kp2 top2 E2 n2) X0 := by
  refine Ct.of (by decide +kernel) rfl (Nat.le_of_ble_eq_true rfl) ?_
  have hgd := hI.gd
  have hc12 := hgd.2.1
  have hv := hI.val
  have hok := hv.okr
  obtain ⟨dy, hdy, h8⟩ := hgd.2.2.2
  have hle : ∀ fl, cntA f fl c ≤ 4 := hv.2.2.2.2
  have hr0 : ¬ f 0 < 0 := by obtain ⟨r, h1, h2⟩ := hv.2.2.2.1.1; rw [h2]; exact nI_pos (by omega)
  refine G.sub (lv2 := [(0, _), (1, _)]) [0, 1] rfl ?_
  refine g_aload_n 0 rfl dL_act_0 ?_
  refine gv_Vz (k_lodgerCount hI ) l_L_133 rfl hI.rc (Nat.le_of_ble_eq_true rfl) (Nat.le_of_ble_eq_true rfl) rfl dL_act_1 ?_
  refine g_istore_n (lv2 := [(2, _), (0, _), (1, _)]) (by decide) rfl dL_act_4 ?_
  refine g_iload_n 0 rfl dL_act_5 ?_
  refine gn_if_ne (by omega) (tgt := 13) (by decide) dL_act_6 (fun h6 => ?_) (fun h6 => ?_)
  · -- t 13
    refine g_aload_n 2 rfl dL_act_13 ?_
    refine g_next hI l_L_84 (Nat.le_of_ble_eq_true rfl) (Nat.le_of_ble_eq_true rfl) dL_act_14 (fun m14 E14 hm14 hI14 => ?_)
    refine g_iload_n 0 rfl dL_act_17 ?_
    refine gn_irem (by omega) (by omega) (by omega) dL_act_18 ?_
    obtain ⟨k, hk, ek⟩ : ∃ k, k < c ∧ m14 % c = k := ⟨_, Nat.mod_lt _ (by omega), rfl⟩
    rw [ek]
    refine g_istore_n (lv2 := [(3, _), (2, _), (0, _), (1, _)]) (by decide) rfl dL_act_19 ?_
    refine g_iload_n 1 rfl dL_act_20 ?_
    refine gn_if_ne (by omega) (tgt := 28) (by decide) dL_act_21 (fun h21 => ?_) (fun h21 => ?_)
    · -- t 28
      refine g_aload_n 2 rfl dL_act_28 ?_
      refine g_iload_n 0 rfl dL_act_29 ?_
      refine gv_Vz (k_balanceOf hI14 hk) l_L_139 rfl hI14.rc (Nat.le_of_ble_eq_true rfl) (Nat.le_of_ble_eq_true rfl) rfl dL_act_30 ?_
      refine g_istore (lv2 := [(4, _), (3, _), (2, _), (0, _), (1, _)]) (by decide) rfl dL_act_33 ?_
      refine g_aload_n 4 rfl dL_act_35 ?_
      refine g_next hI14 l_L_84 (Nat.le_of_ble_eq_true rfl) (Nat.le_of_ble_eq_true rfl) dL_act_36 (fun m36 E36 hm36 hI36 => ?_)
      refine gn_bp 8 (by decide) dL_act_39 ?_
      refine gn_irem (by omega) (by decide) (by decide) dL_act_41 ?_
      rcases (show m36 % 8 = 0 ∨ m36 % 8 = 1 ∨ m36 % 8 = 2 ∨ m36 % 8 = 3 ∨ m36 % 8 = 4 ∨ m36 % 8 = 5 ∨ m36 % 8 = 6 ∨ m36 % 8 = 7 by omega) with e42 | e42 | e42 | e42 | e42 | e42 | e42 | e42
      · rw [e42]
        refine g_tswIn (off := 42) (tgt := 84) dL_act_42 (by decide) (by decide) (by decide +kernel) (by decide) ?_
        refine gn_ic 1 (by decide) dL_act_84 ?_
        refine g_aload_n 4 rfl dL_act_85 ?_
        refine g_next hI36 l_L_84 (Nat.le_of_ble_eq_true rfl) (Nat.le_of_ble_eq_true rfl) dL_act_86 (fun m86 E86 hm86 hI86 => ?_)
        refine gn_bp 9 (by decide) dL_act_89 ?_
        refine gn_irem (by omega) (by decide) (by decide) dL_act_91 ?_
        refine gn_iadd dL_act_92 ?_
        obtain ⟨t5, ht5, et5⟩ : ∃ t, (1 ≤ t ∧ t ≤ 9) ∧ 1 + m86 % 9 = t := ⟨_, by omega, rfl⟩
        rw [et5]
        refine g_istore (lv2 := [(5, _), (4, _), (3, _), (2, _), (0, _), (1, _)]) (by decide) rfl dL_act_93 ?_
        refine g_iload_n 3 rfl dL_act_95 ?_
        refine gn_if_ne (by omega) (tgt := 103) (by decide) dL_act_96 (fun h96 => ?_) (fun h96 => ?_)
        · -- t 103
          refine g_aload_n 4 rfl dL_act_103 ?_
          refine g_iload_n 2 rfl dL_act_104 ?_
          refine g_iload 0 rfl dL_act_105 ?_
          refine gw_Viz (k_balanceAfter hI86 hk (by omega)) l_L_217 rfl hI86.rc (Nat.le_of_ble_eq_true rfl) (Nat.le_of_ble_eq_true rfl) rfl dL_act_107 (fun _ _ _ z => ⟨_, z.1⟩) (fun x107 E107 n107 z107 => ?_)
          obtain ⟨e107, e2107, hI107⟩ := z107
          have e9107 := (Value.int.inj (Option.some.inj e107)).symm
          subst e9107
          have e3107 := e2107.symm
          subst e3107
          refine g_istore (lv2 := [(6, _), (5, _), (4, _), (3, _), (2, _), (0, _), (1, _)]) (by decide) rfl dL_act_110 ?_
          refine g_iload_n 4 rfl dL_act_112 ?_
          refine gn_if_ne (by omega) (tgt := 120) (by decide) dL_act_113 (fun h113 => ?_) (fun h113 => ?_)
          · -- t 120
            refine g_aload_n 5 rfl dL_act_120 ?_
            refine g_iload_n 3 rfl dL_act_121 ?_
            refine gw_Viz (k_daysToEviction hI107 hk) l_L_234 rfl hI107.rc (Nat.le_of_ble_eq_true rfl) (Nat.le_of_ble_eq_true rfl) rfl dL_act_122 (fun _ _ _ z => ⟨_, z.1⟩) (fun x122 E122 n122 z122 => ?_)
            obtain ⟨e122, e2122, hI122⟩ := z122
            have e9122 := (Value.int.inj (Option.some.inj e122)).symm
            subst e9122
            have e3122 := e2122.symm
            subst e3122
            refine g_istore (lv2 := [(7, _), (6, _), (5, _), (4, _), (3, _), (2, _), (0, _), (1, _)]) (by decide) rfl dL_act_125 ?_
            refine g_aload_n 6 rfl dL_act_127 ?_
            refine gv_Vz (k_settled hI122 ) l_L_127 rfl hI122.rc (Nat.le_of_ble_eq_true rfl) (Nat.le_of_ble_eq_true rfl) rfl dL_act_128 ?_
            refine g_istore (lv2 := [(8, _), (7, _), (6, _), (5, _), (4, _), (3, _), (2, _), (0, _), (1, _)]) (by decide) rfl dL_act_131 ?_
            refine g_aload_n 7 rfl dL_act_133 ?_
            refine gv_Vz (k_evictions hI122 ) l_L_118 rfl hI122.rc (Nat.le_of_ble_eq_true rfl) (Nat.le_of_ble_eq_true rfl) rfl dL_act_134 ?_
            refine g_istore (lv2 := [(9, _), (8, _), (7, _), (6, _), (5, _), (4, _), (3, _), (2, _), (0, _), (1, _)]) (by decide) rfl dL_act_137 ?_
            refine g_aload_n 8 rfl dL_act_139 ?_
            refine g_iload 4 rfl dL_act_140 ?_
            refine g_SHz (v_advanced (J := wI k) hI122 ht5.1 (by omega) h8 hdy (by omega) (by omega)) l_L_244 rfl (Nat.le_of_ble_eq_true rfl) (Nat.le_of_ble_eq_true rfl) rfl dL_act_142 (fun _ _ _ z => by obtain ⟨c2, a1, a2, a3⟩ := z; exact ⟨_, a2⟩) (fun x142 E142 n142 z142 => ?_)
            obtain ⟨c2, a1, a2, a0, a3, a4, a5, hI142⟩ := z142
            have e9142 := (Value.int.inj (Option.some.inj a2)).symm
            subst e9142
            have e3142 := a0.symm
            subst e3142
            refine g_istore (lv2 := [(10, _), (9, _), (8, _), (7, _), (6, _), (5, _), (4, _), (3, _), (2, _), (0, _), (1, _)]) (by decide) rfl dL_act_145 ?_
            refine g_iload_n 8 rfl dL_act_147 ?_
            refine g_if_le (tgt := 167) (by decide) dL_act_148 (fun h148 => ?_) (fun h148 => ?_)
            · -- t 167
              exact absurd h148 (nI_nle (by omega) (by omega))
            · -- f 151
              refine g_iload 3 rfl dL_act_151 ?_
              refine g_if_lt (tgt := 163) (by decide) dL_act_153 (fun h153 => ?_) (fun h153 => ?_)
              · -- t 163
                refine gn_ic 1 (by decide) dL_act_163 ?_
                refine g_goto (tgt := 168) (by decide) dL_act_164 ?_
                refine g_istore (lv2 := [(11, _), (10, _), (9, _), (8, _), (7, _), (6, _), (5, _), (4, _), (3, _), (2, _), (0, _), (1, _)]) (by decide) rfl dL_act_168 ?_
                refine g_aload_n 10 rfl dL_act_170 ?_
                refine gv_Vz (k_evictions hI142 ) l_L_118 rfl hI142.rc (Nat.le_of_ble_eq_true rfl) (Nat.le_of_ble_eq_true rfl) rfl dL_act_171 ?_
                refine g_iload 2 rfl dL_act_174 ?_
                refine g_iload 1 rfl dL_act_176 ?_
                refine g_iadd dL_act_178 ?_
                refine g_icmp_ne (tgt := 249) (by decide) dL_act_179 (fun h179 => ?_) (fun h179 => ?_)
                · -- t 249
                  exact absurd a4 h179
                · -- f 182
                  refine g_aload_n 10 rfl dL_act_182 ?_
                  refine gv_Vz (k_lodgerCount hI142 ) l_L_133 rfl hI142.rc (Nat.le_of_ble_eq_true rfl) (Nat.le_of_ble_eq_true rfl) rfl dL_act_183 ?_
                  refine g_iload_n 9 rfl dL_act_186 ?_
                  refine g_iload 1 rfl dL_act_187 ?_
                  refine gn_isub (by omega) dL_act_189 ?_
                  refine gn_icmp_ne (by omega) (by omega) (tgt := 249) (by decide) dL_act_190 (fun cc1 => ?_) (fun cc1 => ?_)
                  · -- t 249
                    exfalso; omega
                  · -- f 193
                    refine g_iload_n 9 rfl dL_act_193 ?_
                    refine gn_if_eq (by omega) (tgt := 217) (by decide) dL_act_194 (fun h194 => ?_) (fun h194 => ?_)
                    · -- t 217
                      exact absurd h194 h0
                    · -- f 197
                      refine g_iload 0 rfl dL_act_197 ?_
                      refine gn_if_eq (by omega) (tgt := 217) (by decide) dL_act_199 (fun cc2 => ?_) (fun cc2 => ?_)
                      · -- t 217
                        exact absurd cc2 (by decide)
                      · -- f 202
                        refine g_iload 1 rfl dL_act_202 ?_
                        refine g_if_gt (tgt := 217) (by decide) dL_act_204 (fun h204 => ?_) (fun h204 => ?_)
                        · -- t 217
                          refine g_iload 0 rfl dL_act_217 ?_
                          refine gn_if_ne (by omega) (tgt := 231) (by decide) dL_act_219 (fun cc3 => ?_) (fun cc3 => ?_)
                          · -- t 231
                            refine g_iload 1 rfl dL_act_231 ?_
                            refine g_if_gt (tgt := 245) (by decide) dL_act_233 (fun h233 => ?_) (fun h233 => ?_)
                            · -- t 245
                              refine gn_ic 1 (by decide) dL_act_245 ?_
                              refine g_goto (tgt := 250) (by decide) dL_act_246 ?_
                              exact g_iret ⟨rfl, by omega, _, _, _, _, hI142.le (by omega) (by omega)⟩ rfl rfl dL_act_250
                            · -- f 236
                              have hz233 := ngt h233 (by omega)
                              refine g_aload_n 10 rfl dL_act_236 ?_
                              refine gv_Vz (k_settled hI142 ) l_L_127 rfl hI142.rc (Nat.le_of_ble_eq_true rfl) (Nat.le_of_ble_eq_true rfl) rfl dL_act_237 ?_
                              refine g_iload 3 rfl dL_act_240 ?_
                              refine g_icmp_ne (tgt := 249) (by decide) dL_act_242 (fun h242 => ?_) (fun h242 => ?_)
                              · -- t 249
                                exact absurd (a5 (by omega)).2 h242
                              · -- f 245
                                refine gn_ic 1 (by decide) dL_act_245 ?_
                                refine g_goto (tgt := 250) (by decide) dL_act_246 ?_
                                exact g_iret ⟨rfl, by omega, _, _, _, _, hI142.le (by omega) (by omega)⟩ rfl rfl dL_act_250
                          · -- f 222
                            exact absurd cc3 (by decide)
                        · -- f 207
                          have hz204 := ngt h204 (by omega)
                          refine g_aload_n 10 rfl dL_act_207 ?_
                          refine g_iload_n 8 rfl dL_act_208 ?_
                          refine gv_Vz (k_balanceOf hI142 (by omega)) l_L_139 rfl hI142.rc (Nat.le_of_ble_eq_true rfl) (Nat.le_of_ble_eq_true rfl) rfl dL_act_209 ?_
                          refine g_iload 5 rfl dL_act_212 ?_
                          refine g_icmp_ne (tgt := 249) (by decide) dL_act_214 (fun h214 => ?_) (fun h214 => ?_)
                          · -- t 249
                            exact absurd (bal_same (a5 (by omega)).1 (by omega)).symm h214
                          · -- f 217
                            refine g_iload 0 rfl dL_act_217 ?_
                            refine gn_if_ne (by omega) (tgt := 231) (by decide) dL_act_219 (fun cc4 => ?_) (fun cc4 => ?_)
                            · -- t 231
                              refine g_iload 1 rfl dL_act_231 ?_
                              refine g_if_gt (tgt := 245) (by decide) dL_act_233 (fun h233 => ?_) (fun h233 => ?_)
                              · -- t 245
                                refine gn_ic 1 (by decide) dL_act_245 ?_
                                refine g_goto (tgt := 250) (by decide) dL_act_246 ?_
                                exact g_iret ⟨rfl, by omega, _, _, _, _, hI142.le (by omega) (by omega)⟩ rfl rfl dL_act_250
                              · -- f 236
                                have hz233 := ngt h233 (by omega)
                                refine g_aload_n 10 rfl dL_act_236 ?_
                                refine gv_Vz (k_settled hI142 ) l_L_127 rfl hI142.rc (Nat.le_of_ble_eq_true rfl) (Nat.le_of_ble_eq_true rfl) rfl dL_act_237 ?_
                                refine g_iload 3 rfl dL_act_240 ?_
                                refine g_icmp_ne (tgt := 249) (by decide) dL_act_242 (fun h242 => ?_) (fun h242 => ?_)
                                · -- t 249
                                  exact absurd (a5 (by omega)).2 h242
                                · -- f 245
                                  refine gn_ic 1 (by decide) dL_act_245 ?_
                                  refine g_goto (tgt := 250) (by decide) dL_act_246 ?_
                                  exact g_iret ⟨rfl, by omega, _, _, _, _, hI142.le (by omega) (by omega)⟩ rfl rfl dL_act_250
                            · -- f 222
                              exact absurd cc4 (by decide)
              · -- f 156
                refine g_iload 3 rfl dL_act_156 ?_
                refine g_iload 5 rfl dL_act_158 ?_
                refine g_icmp_le (tgt := 167) (by decide) dL_act_160 (fun h160 => ?_) (fun h160 => ?_)
                · -- t 167
                  refine gn_ic 0 (by decide) dL_act_167 ?_
                  refine g_istore (lv2 := [(11, _), (10, _), (9, _), (8, _), (7, _), (6, _), (5, _), (4, _), (3, _), (2, _), (0, _), (1, _)]) (by decide) rfl dL_act_168 ?_
                  refine g_aload_n 10 rfl dL_act_170 ?_
                  refine gv_Vz (k_evictions hI142 ) l_L_118 rfl hI142.rc (Nat.le_of_ble_eq_true rfl) (Nat.le_of_ble_eq_true rfl) rfl dL_act_171 ?_
                  refine g_iload 2 rfl dL_act_174 ?_
                  refine g_iload 1 rfl dL_act_176 ?_
                  refine g_iadd dL_act_178 ?_
                  refine g_icmp_ne (tgt := 249) (by decide) dL_act_179 (fun h179 => ?_) (fun h179 => ?_)
                  · -- t 249
                    exact absurd a4 h179
                  · -- f 182
                    refine g_aload_n 10 rfl dL_act_182 ?_
                    refine gv_Vz (k_lodgerCount hI142 ) l_L_133 rfl hI142.rc (Nat.le_of_ble_eq_true rfl) (Nat.le_of_ble_eq_true rfl) rfl dL_act_183 ?_
                    refine g_iload_n 9 rfl dL_act_186 ?_
                    refine g_iload 1 rfl dL_act_187 ?_
                    refine gn_isub (by omega) dL_act_189 ?_
                    refine gn_icmp_ne (by omega) (by omega) (tgt := 249) (by decide) dL_act_190 (fun cc5 => ?_) (fun cc5 => ?_)
                    · -- t 249
                      exfalso; omega
                    · -- f 193
                      refine g_iload_n 9 rfl dL_act_193 ?_
                      refine gn_if_eq (by omega) (tgt := 217) (by decide) dL_act_194 (fun h194 => ?_) (fun h194 => ?_)
                      · -- t 217
                        exact absurd h194 h0
                      · -- f 197
                        refine g_iload 0 rfl dL_act_197 ?_
                        refine gn_if_eq (by omega) (tgt := 217) (by decide) dL_act_199 (fun cc6 => ?_) (fun cc6 => ?_)
                        · -- t 217
                          refine g_iload 0 rfl dL_act_217 ?_
                          refine gn_if_ne (by omega) (tgt := 231) (by decide) dL_act_219 (fun cc7 => ?_) (fun cc7 => ?_)
                          · -- t 231
                            exact absurd cc7 (by decide)
                          · -- f 222
                            refine g_iload_n 9 rfl dL_act_222 ?_
                            refine gn_if_eq (by omega) (tgt := 231) (by decide) dL_act_223 (fun h223 => ?_) (fun h223 => ?_)
                            · -- t 231
                              exact absurd h223 h0
                            · -- f 226
                              refine g_iload 1 rfl dL_act_226 ?_
                              refine g_if_le (tgt := 249) (by decide) dL_act_228 (fun h228 => ?_) (fun h228 => ?_)
                              · -- t 249
                                exact absurd (fore_go hok hk (d := t5) (by omega) h153 (Int32.not_lt.mpr h160)) (gon_ne (a5 (by have := nle0 h228 (by omega); omega)).1 (by omega))
                              · -- f 231
                                refine g_iload 1 rfl dL_act_231 ?_
                                refine g_if_gt (tgt := 245) (by decide) dL_act_233 (fun h233 => ?_) (fun h233 => ?_)
                                · -- t 245
                                  refine gn_ic 1 (by decide) dL_act_245 ?_
                                  refine g_goto (tgt := 250) (by decide) dL_act_246 ?_
                                  exact g_iret ⟨rfl, by omega, _, _, _, _, hI142.le (by omega) (by omega)⟩ rfl rfl dL_act_250
                                · -- f 236
                                  have hz233 := ngt h233 (by omega)
                                  refine g_aload_n 10 rfl dL_act_236 ?_
                                  refine gv_Vz (k_settled hI142 ) l_L_127 rfl hI142.rc (Nat.le_of_ble_eq_true rfl) (Nat.le_of_ble_eq_true rfl) rfl dL_act_237 ?_
                                  refine g_iload 3 rfl dL_act_240 ?_
                                  refine g_icmp_ne (tgt := 249) (by decide) dL_act_242 (fun h242 => ?_) (fun h242 => ?_)
                                  · -- t 249
                                    exact absurd (a5 (by omega)).2 h242
                                  · -- f 245
                                    refine gn_ic 1 (by decide) dL_act_245 ?_
                                    refine g_goto (tgt := 250) (by decide) dL_act_246 ?_
                                    exact g_iret ⟨rfl, by omega, _, _, _, _, hI142.le (by omega) (by omega)⟩ rfl rfl dL_act_250
                        · -- f 202
                          exact absurd cc6 (by decide)
                · -- f 163
                  refine gn_ic 1 (by decide) dL_act_163 ?_
                  refine g_goto (tgt := 168) (by decide) dL_act_164 ?_
                  refine g_istore (lv2 := [(11, _), (10, _), (9, _), (8, _), (7, _), (6, _), (5, _), (4, _), (3, _), (2, _), (0, _), (1, _)]) (by decide) rfl dL_act_168 ?_
                  refine g_aload_n 10 rfl dL_act_170 ?_
                  refine gv_Vz (k_evictions hI142 ) l_L_118 rfl hI142.rc (Nat.le_of_ble_eq_true rfl) (Nat.le_of_ble_eq_true rfl) rfl dL_act_171 ?_
                  refine g_iload 2 rfl dL_act_174 ?_
                  refine g_iload 1 rfl dL_act_176 ?_
                  refine g_iadd dL_act_178 ?_
                  refine g_icmp_ne (tgt := 249) (by decide) dL_act_179 (fun h179 => ?_) (fun h179 => ?_)
                  · -- t 249
                    exact absurd a4 h179
                  · -- f 182
                    refine g_aload_n 10 rfl dL_act_182 ?_
                    refine gv_Vz (k_lodgerCount hI142 ) l_L_133 rfl hI142.rc (Nat.le_of_ble_eq_true rfl) (Nat.le_of_ble_eq_true rfl) rfl dL_act_183 ?_
                    refine g_iload_n 9 rfl dL_act_186 ?_
                    refine g_iload 1 rfl dL_act_187 ?_
                    refine gn_isub (by omega) dL_act_189 ?_
                    refine gn_icmp_ne (by omega) (by omega) (tgt := 249) (by decide) dL_act_190 (fun cc8 => ?_) (fun cc8 => ?_)
                    · -- t 249
                      exfalso; omega
                    · -- f 193
                      refine g_iload_n 9 rfl dL_act_193 ?_
                      refine gn_if_eq (by omega) (tgt := 217) (by decide) dL_act_194 (fun h194 => ?_) (fun h194 => ?_)
                      · -- t 217
                        exact absurd h194 h0
                      · -- f 197
                        refine g_iload 0 rfl dL_act_197 ?_
                        refine gn_if_eq (by omega) (tgt := 217) (by decide) dL_act_199 (fun cc9 => ?_) (fun cc9 => ?_)
                        · -- t 217
                          exact absurd cc9 (by decide)
                        · -- f 202
                          refine g_iload 1 rfl dL_act_202 ?_
                          refine g_if_gt (tgt := 217) (by decide) dL_act_204 (fun h204 => ?_) (fun h204 => ?_)
                          · -- t 217
                            refine g_iload 0 rfl dL_act_217 ?_
                            refine gn_if_ne (by omega) (tgt := 231) (by decide) dL_act_219 (fun cc10 => ?_) (fun cc10 => ?_)
                            · -- t 231
                              refine g_iload 1 rfl dL_act_231 ?_
                              refine g_if_gt (tgt := 245) (by decide) dL_act_233 (fun h233 => ?_) (fun h233 => ?_)
                              · -- t 245
                                refine gn_ic 1 (by decide) dL_act_245 ?_
                                refine g_goto (tgt := 250) (by decide) dL_act_246 ?_
                                exact g_iret ⟨rfl, by omega, _, _, _, _, hI142.le (by omega) (by omega)⟩ rfl rfl dL_act_250
                              · -- f 236
                                have hz233 := ngt h233 (by omega)
                                refine g_aload_n 10 rfl dL_act_236 ?_
                                refine gv_Vz (k_settled hI142 ) l_L_127 rfl hI142.rc (Nat.le_of_ble_eq_true rfl) (Nat.le_of_ble_eq_true rfl) rfl dL_act_237 ?_
                                refine g_iload 3 rfl dL_act_240 ?_
                                refine g_icmp_ne (tgt := 249) (by decide) dL_act_242 (fun h242 => ?_) (fun h242 => ?_)
                                · -- t 249
                                  exact absurd (a5 (by omega)).2 h242
                                · -- f 245
                                  refine gn_ic 1 (by decide) dL_act_245 ?_
                                  refine g_goto (tgt := 250) (by decide) dL_act_246 ?_
                                  exact g_iret ⟨rfl, by omega, _, _, _, _, hI142.le (by omega) (by omega)⟩ rfl rfl dL_act_250
                            · -- f 222
                              exact absurd cc10 (by decide)
                          · -- f 207
                            have hz204 := ngt h204 (by omega)
                            refine g_aload_n 10 rfl dL_act_207 ?_
                            refine g_iload_n 8 rfl dL_act_208 ?_
                            refine gv_Vz (k_balanceOf hI142 (by omega)) l_L_139 rfl hI142.rc (Nat.le_of_ble_eq_true rfl) (Nat.le_of_ble_eq_true rfl) rfl dL_act_209 ?_
                            refine g_iload 5 rfl dL_act_212 ?_
                            refine g_icmp_ne (tgt := 249) (by decide) dL_act_214 (fun h214 => ?_) (fun h214 => ?_)
                            · -- t 249
                              exact absurd (bal_same (a5 (by omega)).1 (by omega)).symm h214
                            · -- f 217
                              refine g_iload 0 rfl dL_act_217 ?_
                              refine gn_if_ne (by omega) (tgt := 231) (by decide) dL_act_219 (fun cc11 => ?_) (fun cc11 => ?_)
                              · -- t 231
                                refine g_iload 1 rfl dL_act_231 ?_
                                refine g_if_gt (tgt := 245) (by decide) dL_act_233 (fun h233 => ?_) (fun h233 => ?_)
                                · -- t 245
                                  refine gn_ic 1 (by decide) dL_act_245 ?_
                                  refine g_goto (tgt := 250) (by decide) dL_act_246 ?_
                                  exact g_iret ⟨rfl, by omega, _, _, _, _, hI142.le (by omega) (by omega)⟩ rfl rfl dL_act_250
                                · -- f 236
                                  have hz233 := ngt h233 (by omega)
                                  refine g_aload_n 10 rfl dL_act_236 ?_
                                  refine gv_Vz (k_settled hI142 ) l_L_127 rfl hI142.rc (Nat.le_of_ble_eq_true rfl) (Nat.le_of_ble_eq_true rfl) rfl dL_act_237 ?_
                                  refine g_iload 3 rfl dL_act_240 ?_
                                  refine g_icmp_ne (tgt := 249) (by decide) dL_act_242 (fun h242 => ?_) (fun h242 => ?_)
                                  · -- t 249
                                    exact absurd (a5 (by omega)).2 h242
                                  · -- f 245
                                    refine gn_ic 1 (by decide) dL_act_245 ?_
                                    refine g_goto (tgt := 250) (by decide) dL_act_246 ?_
                                    exact g_iret ⟨rfl, by omega, _, _, _, _, hI142.le (by omega) (by omega)⟩ rfl rfl dL_act_250
                              · -- f 222
                                exact absurd cc11 (by decide)
          · -- f 116
            exact absurd h113 h0
        · -- f 99
          exact absurd h96 h0
      · rw [e42]
        refine g_tswIn (off := 42) (tgt := 84) dL_act_42 (by decide) (by decide) (by decide +kernel) (by decide) ?_
        refine gn_ic 1 (by decide) dL_act_84 ?_
        refine g_aload_n 4 rfl dL_act_85 ?_
        refine g_next hI36 l_L_84 (Nat.le_of_ble_eq_true rfl) (Nat.le_of_ble_eq_true rfl) dL_act_86 (fun m86 E86 hm86 hI86 => ?_)
        refine gn_bp 9 (by decide) dL_act_89 ?_
        refine gn_irem (by omega) (by decide) (by decide) dL_act_91 ?_
        refine gn_iadd dL_act_92 ?_
        obtain ⟨t5, ht5, et5⟩ : ∃ t, (1 ≤ t ∧ t ≤ 9) ∧ 1 + m86 % 9 = t := ⟨_, by omega, rfl⟩
        rw [et5]
        refine g_istore (lv2 := [(5, _), (4, _), (3, _), (2, _), (0, _), (1, _)]) (by decide) rfl dL_act_93 ?_
        refine g_iload_n 3 rfl dL_act_95 ?_
        refine gn_if_ne (by omega) (tgt := 103) (by decide) dL_act_96 (fun h96 => ?_) (fun h96 => ?_)
        · -- t 103
          refine g_aload_n 4 rfl dL_act_103 ?_
          refine g_iload_n 2 rfl dL_act_104 ?_
          refine g_iload 0 rfl dL_act_105 ?_
          refine gw_Viz (k_balanceAfter hI86 hk (by omega)) l_L_217 rfl hI86.rc (Nat.le_of_ble_eq_true rfl) (Nat.le_of_ble_eq_true rfl) rfl dL_act_107 (fun _ _ _ z => ⟨_, z.1⟩) (fun x107 E107 n107 z107 => ?_)
          obtain ⟨e107, e2107, hI107⟩ := z107
          have e9107 := (Value.int.inj (Option.some.inj e107)).symm
          subst e9107
          have e3107 := e2107.symm
          subst e3107
          refine g_istore (lv2 := [(6, _), (5, _), (4, _), (3, _), (2, _), (0, _), (1, _)]) (by decide) rfl dL_act_110 ?_
          refine g_iload_n 4 rfl dL_act_112 ?_
          refine gn_if_ne (by omega) (tgt := 120) (by decide) dL_act_113 (fun h113 => ?_) (fun h113 => ?_)
          · -- t 120
            refine g_aload_n 5 rfl dL_act_120 ?_
            refine g_iload_n 3 rfl dL_act_121 ?_
            refine gw_Viz (k_daysToEviction hI107 hk) l_L_234 rfl hI107.rc (Nat.le_of_ble_eq_true rfl) (Nat.le_of_ble_eq_true rfl) rfl dL_act_122 (fun _ _ _ z => ⟨_, z.1⟩) (fun x122 E122 n122 z122 => ?_)
            obtain ⟨e122, e2122, hI122⟩ := z122
            have e9122 := (Value.int.inj (Option.some.inj e122)).symm
            subst e9122
            have e3122 := e2122.symm
            subst e3122
            refine g_istore (lv2 := [(7, _), (6, _), (5, _), (4, _), (3, _), (2, _), (0, _), (1, _)]) (by decide) rfl dL_act_125 ?_
            refine g_aload_n 6 rfl dL_act_127 ?_
            refine gv_Vz (k_settled hI122 ) l_L_127 rfl hI122.rc (Nat.le_of_ble_eq_true rfl) (Nat.le_of_ble_eq_true rfl) rfl dL_act_128 ?_
            refine g_istore (lv2 := [(8, _), (7, _), (6, _), (5, _), (4, _), (3, _), (2, _), (0, _), (1, _)]) (by decide) rfl dL_act_131 ?_
            refine g_aload_n 7 rfl dL_act_133 ?_
            refine gv_Vz (k_evictions hI122 ) l_L_118 rfl hI122.rc (Nat.le_of_ble_eq_true rfl) (Nat.le_of_ble_eq_true rfl) rfl dL_act_134 ?_
            refine g_istore (lv2 := [(9, _), (8, _), (7, _), (6, _), (5, _), (4, _), (3, _), (2, _), (0, _), (1, _)]) (by decide) rfl dL_act_137 ?_
            refine g_aload_n 8 rfl dL_act_139 ?_
            refine g_iload 4 rfl dL_act_140 ?_
            refine g_SHz (v_advanced (J := wI k) hI122 ht5.1 (by omega) h8 hdy (by omega) (by omega)) l_L_244 rfl (Nat.le_of_ble_eq_true rfl) (Nat.le_of_ble_eq_true rfl) rfl dL_act_142 (fun _ _ _ z => by obtain ⟨c2, a1, a2, a3⟩ := z; exact ⟨_, a2⟩) (fun x142 E142 n142 z142 => ?_)
            obtain ⟨c2, a1, a2, a0, a3, a4, a5, hI142⟩ := z142
            have e9142 := (Value.int.inj (Option.some.inj a2)).symm
            subst e9142
            have e3142 := a0.symm
            subst e3142
            refine g_istore (lv2 := [(10, _), (9, _), (8, _), (7, _), (6, _), (5, _), (4, _), (3, _), (2, _), (0, _), (1, _)]) (by decide) rfl dL_act_145 ?_
            refine g_iload_n 8 rfl dL_act_147 ?_
            refine g_if_le (tgt := 167) (by decide) dL_act_148 (fun h148 => ?_) (fun h148 => ?_)
            · -- t 167
              exact absurd h148 (nI_nle (by omega) (by omega))
            · -- f 151
              refine g_iload 3 rfl dL_act_151 ?_
              refine g_if_lt (tgt := 163) (by decide) dL_act_153 (fun h153 => ?_) (fun h153 => ?_)
              · -- t 163
                refine gn_ic 1 (by decide) dL_act_163 ?_
                refine g_goto (tgt := 168) (by decide) dL_act_164 ?_
                refine g_istore (lv2 := [(11, _), (10, _), (9, _), (8, _), (7, _), (6, _), (5, _), (4, _), (3, _), (2, _), (0, _), (1, _)]) (by decide) rfl dL_act_168 ?_
                refine g_aload_n 10 rfl dL_act_170 ?_
                refine gv_Vz (k_evictions hI142 ) l_L_118 rfl hI142.rc (Nat.le_of_ble_eq_true rfl) (Nat.le_of_ble_eq_true rfl) rfl dL_act_171 ?_
                refine g_iload 2 rfl dL_act_174 ?_
                refine g_iload 1 rfl dL_act_176 ?_
                refine g_iadd dL_act_178 ?_
                refine g_icmp_ne (tgt := 249) (by decide) dL_act_179 (fun h179 => ?_) (fun h179 => ?_)
                · -- t 249
                  exact absurd a4 h179
                · -- f 182
                  refine g_aload_n 10 rfl dL_act_182 ?_
                  refine gv_Vz (k_lodgerCount hI142 ) l_L_133 rfl hI142.rc (Nat.le_of_ble_eq_true rfl) (Nat.le_of_ble_eq_true rfl) rfl dL_act_183 ?_
                  refine g_iload_n 9 rfl dL_act_186 ?_
                  refine g_iload 1 rfl dL_act_187 ?_
                  refine gn_isub (by omega) dL_act_189 ?_
                  refine gn_icmp_ne (by omega) (by omega) (tgt := 249) (by decide) dL_act_190 (fun cc12 => ?_) (fun cc12 => ?_)
                  · -- t 249
                    exfalso; omega
                  · -- f 193
                    refine g_iload_n 9 rfl dL_act_193 ?_
                    refine gn_if_eq (by omega) (tgt := 217) (by decide) dL_act_194 (fun h194 => ?_) (fun h194 => ?_)
                    · -- t 217
                      exact absurd h194 h0
                    · -- f 197
                      refine g_iload 0 rfl dL_act_197 ?_
                      refine gn_if_eq (by omega) (tgt := 217) (by decide) dL_act_199 (fun cc13 => ?_) (fun cc13 => ?_)
                      · -- t 217
                        exact absurd cc13 (by decide)
                      · -- f 202
                        refine g_iload 1 rfl dL_act_202 ?_
                        refine g_if_gt (tgt := 217) (by decide) dL_act_204 (fun h204 => ?_) (fun h204 => ?_)
                        · -- t 217
                          refine g_iload 0 rfl dL_act_217 ?_
                          refine gn_if_ne (by omega) (tgt := 231) (by decide) dL_act_219 (fun cc14 => ?_) (fun cc14 => ?_)
                          · -- t 231
                            refine g_iload 1 rfl dL_act_231 ?_
                            refine g_if_gt (tgt := 245) (by decide) dL_act_233 (fun h233 => ?_) (fun h233 => ?_)
                            · -- t 245
                              refine gn_ic 1 (by decide) dL_act_245 ?_
                              refine g_goto (tgt := 250) (by decide) dL_act_246 ?_
                              exact g_iret ⟨rfl, by omega, _, _, _, _, hI142.le (by omega) (by omega)⟩ rfl rfl dL_act_250
                            · -- f 236
                              have hz233 := ngt h233 (by omega)
                              refine g_aload_n 10 rfl dL_act_236 ?_
                              refine gv_Vz (k_settled hI142 ) l_L_127 rfl hI142.rc (Nat.le_of_ble_eq_true rfl) (Nat.le_of_ble_eq_true rfl) rfl dL_act_237 ?_
                              refine g_iload 3 rfl dL_act_240 ?_
                              refine g_icmp_ne (tgt := 249) (by decide) dL_act_242 (fun h242 => ?_) (fun h242 => ?_)
                              · -- t 249
                                exact absurd (a5 (by omega)).2 h242
                              · -- f 245
                                refine gn_ic 1 (by decide) dL_act_245 ?_
                                refine g_goto (tgt := 250) (by decide) dL_act_246 ?_
                                exact g_iret ⟨rfl, by omega, _, _, _, _, hI142.le (by omega) (by omega)⟩ rfl rfl dL_act_250
                          · -- f 222
                            exact absurd cc14 (by decide)
                        · -- f 207
                          have hz204 := ngt h204 (by omega)
                          refine g_aload_n 10 rfl dL_act_207 ?_
                          refine g_iload_n 8 rfl dL_act_208 ?_
                          refine gv_Vz (k_balanceOf hI142 (by omega)) l_L_139 rfl hI142.rc (Nat.le_of_ble_eq_true rfl) (Nat.le_of_ble_eq_true rfl) rfl dL_act_209 ?_
                          refine g_iload 5 rfl dL_act_212 ?_
                          refine g_icmp_ne (tgt := 249) (by decide) dL_act_214 (fun h214 => ?_) (fun h214 => ?_)
                          · -- t 249
                            exact absurd (bal_same (a5 (by omega)).1 (by omega)).symm h214
                          · -- f 217
                            refine g_iload 0 rfl dL_act_217 ?_
                            refine gn_if_ne (by omega) (tgt := 231) (by decide) dL_act_219 (fun cc15 => ?_) (fun cc15 => ?_)
                            · -- t 231
                              refine g_iload 1 rfl dL_act_231 ?_
                              refine g_if_gt (tgt := 245) (by decide) dL_act_233 (fun h233 => ?_) (fun h233 => ?_)
                              · -- t 245
                                refine gn_ic 1 (by decide) dL_act_245 ?_
                                refine g_goto (tgt := 250) (by decide) dL_act_246 ?_
                                exact g_iret ⟨rfl, by omega, _, _, _, _, hI142.le (by omega) (by omega)⟩ rfl rfl dL_act_250
                              · -- f 236
                                have hz233 := ngt h233 (by omega)
                                refine g_aload_n 10 rfl dL_act_236 ?_
                                refine gv_Vz (k_settled hI142 ) l_L_127 rfl hI142.rc (Nat.le_of_ble_eq_true rfl) (Nat.le_of_ble_eq_true rfl) rfl dL_act_237 ?_
                                refine g_iload 3 rfl dL_act_240 ?_
                                refine g_icmp_ne (tgt := 249) (by decide) dL_act_242 (fun h242 => ?_) (fun h242 => ?_)
                                · -- t 249
                                  exact absurd (a5 (by omega)).2 h242
                                · -- f 245
                                  refine gn_ic 1 (by decide) dL_act_245 ?_
                                  refine g_goto (tgt := 250) (by decide) dL_act_246 ?_
                                  exact g_iret ⟨rfl, by omega, _, _, _, _, hI142.le (by omega) (by omega)⟩ rfl rfl dL_act_250
                            · -- f 222
                              exact absurd cc15 (by decide)
              · -- f 156
                refine g_iload 3 rfl dL_act_156 ?_
                refine g_iload 5 rfl dL_act_158 ?_
                refine g_icmp_le (tgt := 167) (by decide) dL_act_160 (fun h160 => ?_) (fun h160 => ?_)
                · -- t 167
                  refine gn_ic 0 (by decide) dL_act_167 ?_
                  refine g_istore (lv2 := [(11, _), (10, _), (9, _), (8, _), (7, _), (6, _), (5, _), (4, _), (3, _), (2, _), (0, _), (1, _)]) (by decide) rfl dL_act_168 ?_
                  refine g_aload_n 10 rfl dL_act_170 ?_
                  refine gv_Vz (k_evictions hI142 ) l_L_118 rfl hI142.rc (Nat.le_of_ble_eq_true rfl) (Nat.le_of_ble_eq_true rfl) rfl dL_act_171 ?_
                  refine g_iload 2 rfl dL_act_174 ?_
                  refine g_iload 1 rfl dL_act_176 ?_
                  refine g_iadd dL_act_178 ?_
                  refine g_icmp_ne (tgt := 249) (by decide) dL_act_179 (fun h179 => ?_) (fun h179 => ?_)
                  · -- t 249
                    exact absurd a4 h179
                  · -- f 182
                    refine g_aload_n 10 rfl dL_act_182 ?_
                    refine gv_Vz (k_lodgerCount hI142 ) l_L_133 rfl hI142.rc (Nat.le_of_ble_eq_true rfl) (Nat.le_of_ble_eq_true rfl) rfl dL_act_183 ?_
                    refine g_iload_n 9 rfl dL_act_186 ?_
                    refine g_iload 1 rfl dL_act_187 ?_
                    refine gn_isub (by omega) dL_act_189 ?_
                    refine gn_icmp_ne (by omega) (by omega) (tgt := 249) (by decide) dL_act_190 (fun cc16 => ?_) (fun cc16 => ?_)
                    · -- t 249
                      exfalso; omega
                    · -- f 193
                      refine g_iload_n 9 rfl dL_act_193 ?_
                      refine gn_if_eq (by omega) (tgt := 217) (by decide) dL_act_194 (fun h194 => ?_) (fun h194 => ?_)
                      · -- t 217
                        exact absurd h194 h0
                      · -- f 197
                        refine g_iload 0 rfl dL_act_197 ?_
                        refine gn_if_eq (by omega) (tgt := 217) (by decide) dL_act_199 (fun cc17 => ?_) (fun cc17 => ?_)
                        · -- t 217
                          refine g_iload 0 rfl dL_act_217 ?_
                          refine gn_if_ne (by omega) (tgt := 231) (by decide) dL_act_219 (fun cc18 => ?_) (fun cc18 => ?_)
                          · -- t 231
                            exact absurd cc18 (by decide)
                          · -- f 222
                            refine g_iload_n 9 rfl dL_act_222 ?_
                            refine gn_if_eq (by omega) (tgt := 231) (by decide) dL_act_223 (fun h223 => ?_) (fun h223 => ?_)
                            · -- t 231
                              exact absurd h223 h0
                            · -- f 226
                              refine g_iload 1 rfl dL_act_226 ?_
                              refine g_if_le (tgt := 249) (by decide) dL_act_228 (fun h228 => ?_) (fun h228 => ?_)
                              · -- t 249
                                exact absurd (fore_go hok hk (d := t5) (by omega) h153 (Int32.not_lt.mpr h160)) (gon_ne (a5 (by have := nle0 h228 (by omega); omega)).1 (by omega))
                              · -- f 231
                                refine g_iload 1 rfl dL_act_231 ?_
                                refine g_if_gt (tgt := 245) (by decide) dL_act_233 (fun h233 => ?_) (fun h233 => ?_)
                                · -- t 245
                                  refine gn_ic 1 (by decide) dL_act_245 ?_
                                  refine g_goto (tgt := 250) (by decide) dL_act_246 ?_
                                  exact g_iret ⟨rfl, by omega, _, _, _, _, hI142.le (by omega) (by omega)⟩ rfl rfl dL_act_250
                                · -- f 236
                                  have hz233 := ngt h233 (by omega)
                                  refine g_aload_n 10 rfl dL_act_236 ?_
                                  refine gv_Vz (k_settled hI142 ) l_L_127 rfl hI142.rc (Nat.le_of_ble_eq_true rfl) (Nat.le_of_ble_eq_true rfl) rfl dL_act_237 ?_
                                  refine g_iload 3 rfl dL_act_240 ?_
                                  refine g_icmp_ne (tgt := 249) (by decide) dL_act_242 (fun h242 => ?_) (fun h242 => ?_)
                                  · -- t 249
                                    exact absurd (a5 (by omega)).2 h242
                                  · -- f 245
                                    refine gn_ic 1 (by decide) dL_act_245 ?_
                                    refine g_goto (tgt := 250) (by decide) dL_act_246 ?_
                                    exact g_iret ⟨rfl, by omega, _, _, _, _, hI142.le (by omega) (by omega)⟩ rfl rfl dL_act_250
                        · -- f 202
                          exact absurd cc17 (by decide)
                · -- f 163
                  refine gn_ic 1 (by decide) dL_act_163 ?_
                  refine g_goto (tgt := 168) (by decide) dL_act_164 ?_
                  refine g_istore (lv2 := [(11, _), (10, _), (9, _), (8, _), (7, _), (6, _), (5, _), (4, _), (3, _), (2, _), (0, _), (1, _)]) (by decide) rfl dL_act_168 ?_
                  refine g_aload_n 10 rfl dL_act_170 ?_
                  refine gv_Vz (k_evictions hI142 ) l_L_118 rfl hI142.rc (Nat.le_of_ble_eq_true rfl) (Nat.le_of_ble_eq_true rfl) rfl dL_act_171 ?_
                  refine g_iload 2 rfl dL_act_174 ?_
                  refine g_iload 1 rfl dL_act_176 ?_
                  refine g_iadd dL_act_178 ?_
                  refine g_icmp_ne (tgt := 249) (by decide) dL_act_179 (fun h179 => ?_) (fun h179 => ?_)
                  · -- t 249
                    exact absurd a4 h179
                  · -- f 182
                    refine g_aload_n 10 rfl dL_act_182 ?_
                    refine gv_Vz (k_lodgerCount hI142 ) l_L_133 rfl hI142.rc (Nat.le_of_ble_eq_true rfl) (Nat.le_of_ble_eq_true rfl) rfl dL_act_183 ?_
                    refine g_iload_n 9 rfl dL_act_186 ?_
                    refine g_iload 1 rfl dL_act_187 ?_
                    refine gn_isub (by omega) dL_act_189 ?_
                    refine gn_icmp_ne (by omega) (by omega) (tgt := 249) (by decide) dL_act_190 (fun cc19 => ?_) (fun cc19 => ?_)
                    · -- t 249
                      exfalso; omega
                    · -- f 193
                      refine g_iload_n 9 rfl dL_act_193 ?_
                      refine gn_if_eq (by omega) (tgt := 217) (by decide) dL_act_194 (fun h194 => ?_) (fun h194 => ?_)
                      · -- t 217
                        exact absurd h194 h0
                      · -- f 197
                        refine g_iload 0 rfl dL_act_197 ?_
                        refine gn_if_eq (by omega) (tgt := 217) (by decide) dL_act_199 (fun cc20 => ?_) (fun cc20 => ?_)
                        · -- t 217
                          exact absurd cc20 (by decide)
                        · -- f 202
                          refine g_iload 1 rfl dL_act_202 ?_
                          refine g_if_gt (tgt := 217) (by decide) dL_act_204 (fun h204 => ?_) (fun h204 => ?_)
                          · -- t 217
                            refine g_iload 0 rfl dL_act_217 ?_
                            refine gn_if_ne (by omega) (tgt := 231) (by decide) dL_act_219 (fun cc21 => ?_) (fun cc21 => ?_)
                            · -- t 231
                              refine g_iload 1 rfl dL_act_231 ?_
                              refine g_if_gt (tgt := 245) (by decide) dL_act_233 (fun h233 => ?_) (fun h233 => ?_)
                              · -- t 245
                                refine gn_ic 1 (by decide) dL_act_245 ?_
                                refine g_goto (tgt := 250) (by decide) dL_act_246 ?_
                                exact g_iret ⟨rfl, by omega, _, _, _, _, hI142.le (by omega) (by omega)⟩ rfl rfl dL_act_250
                              · -- f 236
                                have hz233 := ngt h233 (by omega)
                                refine g_aload_n 10 rfl dL_act_236 ?_
                                refine gv_Vz (k_settled hI142 ) l_L_127 rfl hI142.rc (Nat.le_of_ble_eq_true rfl) (Nat.le_of_ble_eq_true rfl) rfl dL_act_237 ?_
                                refine g_iload 3 rfl dL_act_240 ?_
                                refine g_icmp_ne (tgt := 249) (by decide) dL_act_242 (fun h242 => ?_) (fun h242 => ?_)
                                · -- t 249
                                  exact absurd (a5 (by omega)).2 h242
                                · -- f 245
                                  refine gn_ic 1 (by decide) dL_act_245 ?_
                                  refine g_goto (tgt := 250) (by decide) dL_act_246 ?_
                                  exact g_iret ⟨rfl, by omega, _, _, _, _, hI142.le (by omega) (by omega)⟩ rfl rfl dL_act_250
                            · -- f 222
                              exact absurd cc21 (by decide)
                          · -- f 207
                            have hz204 := ngt h204 (by omega)
                            refine g_aload_n 10 rfl dL_act_207 ?_
                            refine g_iload_n 8 rfl dL_act_208 ?_
                            refine gv_Vz (k_balanceOf hI142 (by omega)) l_L_139 rfl hI142.rc (Nat.le_of_ble_eq_true rfl) (Nat.le_of_ble_eq_true rfl) rfl dL_act_209 ?_
                            refine g_iload 5 rfl dL_act_212 ?_
                            refine g_icmp_ne (tgt := 249) (by decide) dL_act_214 (fun h214 => ?_) (fun h214 => ?_)
                            · -- t 249
                              exact absurd (bal_same (a5 (by omega)).1 (by omega)).symm h214
                            · -- f 217
                              refine g_iload 0 rfl dL_act_217 ?_
                              refine gn_if_ne (by omega) (tgt := 231) (by decide) dL_act_219 (fun cc22 => ?_) (fun cc22 => ?_)
                              · -- t 231
                                refine g_iload 1 rfl dL_act_231 ?_
                                refine g_if_gt (tgt := 245) (by decide) dL_act_233 (fun h233 => ?_) (fun h233 => ?_)
                                · -- t 245
                                  refine gn_ic 1 (by decide) dL_act_245 ?_
                                  refine g_goto (tgt := 250) (by decide) dL_act_246 ?_
                                  exact g_iret ⟨rfl, by omega, _, _, _, _, hI142.le (by omega) (by omega)⟩ rfl rfl dL_act_250
                                · -- f 236
                                  have hz233 := ngt h233 (by omega)
                                  refine g_aload_n 10 rfl dL_act_236 ?_
                                  refine gv_Vz (k_settled hI142 ) l_L_127 rfl hI142.rc (Nat.le_of_ble_eq_true rfl) (Nat.le_of_ble_eq_true rfl) rfl dL_act_237 ?_
                                  refine g_iload 3 rfl dL_act_240 ?_
                                  refine g_icmp_ne (tgt := 249) (by decide) dL_act_242 (fun h242 => ?_) (fun h242 => ?_)
                                  · -- t 249
                                    exact absurd (a5 (by omega)).2 h242
                                  · -- f 245
                                    refine gn_ic 1 (by decide) dL_act_245 ?_
                                    refine g_goto (tgt := 250) (by decide) dL_act_246 ?_
                                    exact g_iret ⟨rfl, by omega, _, _, _, _, hI142.le (by omega) (by omega)⟩ rfl rfl dL_act_250
                              · -- f 222
                                exact absurd cc22 (by decide)
          · -- f 116
            exact absurd h113 h0
        · -- f 99
          exact absurd h96 h0
      · rw [e42]
        refine g_tswIn (off := 209) (tgt := 251) dL_act_42 (by decide) (by decide) (by decide +kernel) (by decide) ?_
        refine g_aload_n 4 rfl dL_act_251 ?_
        refine g_next hI36 l_L_84 (Nat.le_of_ble_eq_true rfl) (Nat.le_of_ble_eq_true rfl) dL_act_252 (fun m252 E252 hm252 hI252 => ?_)
        refine gn_ic 5 (by decide) dL_act_255 ?_
        refine gn_irem (by omega) (by decide) (by decide) dL_act_256 ?_
        obtain ⟨φ, hφ, eφ⟩ : ∃ t, t < 5 ∧ m252 % 5 = t := ⟨_, by omega, rfl⟩
        rw [eφ]
        refine g_istore (lv2 := [(12, _), (4, _), (3, _), (2, _), (0, _), (1, _)]) (by decide) rfl dL_act_257 ?_
        refine g_iload_n 3 rfl dL_act_259 ?_
        refine gn_bp 12 (by decide) dL_act_260 ?_
        refine gn_icmp_ge (by omega) (by omega) (tgt := 279) (by decide) dL_act_262 (fun h262 => ?_) (fun h262 => ?_)
        · -- t 279
          refine gn_ic 0 (by decide) dL_act_279 ?_
          refine g_istore (lv2 := [(13, _), (12, _), (4, _), (3, _), (2, _), (0, _), (1, _)]) (by decide) rfl dL_act_280 ?_
          refine g_aload_n 6 rfl dL_act_282 ?_
          refine g_next hI252 l_L_84 (Nat.le_of_ble_eq_true rfl) (Nat.le_of_ble_eq_true rfl) dL_act_283 (fun m283 E283 hm283 hI283 => ?_)
          refine gn_ldc (a := 100000) (wl_6 150 rfl rfl) dL_act_286 ?_
          refine gn_irem (by omega) (by decide) (by decide) dL_act_288 ?_
          obtain ⟨a, ha, ea⟩ : ∃ t, t ≤ 99999 ∧ m283 % 100000 = t := ⟨_, by omega, rfl⟩
          rw [ea]
          refine g_istore (lv2 := [(14, _), (13, _), (12, _), (4, _), (3, _), (2, _), (0, _), (1, _)]) (by decide) rfl dL_act_289 ?_
          refine g_aload_n 6 rfl dL_act_291 ?_
          refine g_iload 2 rfl dL_act_292 ?_
          refine gn_bp 7 (by decide) dL_act_294 ?_
          refine g_iload 0 rfl dL_act_296 ?_
          refine G.mono (kc2 := 0 + 1) (ks2 := 0 + 6) (by omega) (by omega) ?_
          refine g_SHi (v_movedIn_noC hI283 hφ (by decide) ha (by omega)) l_L_249 rfl (Nat.le_of_ble_eq_true rfl) (Nat.le_of_ble_eq_true rfl) rfl dL_act_298 (fun _ _ _ z => ⟨_, z.1⟩) (fun x298 E298 n298 z298 => ?_)
          obtain ⟨e298, e2298, e3298⟩ := z298
          have e9298 := (Value.int.inj (Option.some.inj e298)).symm
          subst e9298
          have e4298 := e2298.symm
          subst e4298
          have hI298 := hI283.up e3298
          refine g_istore (lv2 := [(15, _), (14, _), (13, _), (12, _), (4, _), (3, _), (2, _), (0, _), (1, _)]) (by decide) rfl dL_act_301 ?_
          refine g_iload 2 rfl dL_act_303 ?_
          refine gn_if_eq (by omega) (tgt := 373) (by decide) dL_act_305 (fun cc23 => ?_) (fun cc23 => ?_)
          · -- t 373
            refine g_iload 0 rfl dL_act_373 ?_
            refine g_bipush (v := -3) dL_act_375 (by decide) ?_
            refine g_icmp_ne (tgt := 392) (by decide) dL_act_377 (fun h377 => ?_) (fun h377 => ?_)
            · -- t 392
              exact absurd rfl h377
            · -- f 380
              refine g_aload_n 7 rfl dL_act_380 ?_
              refine gn_ic 3 (by decide) dL_act_381 ?_
              refine g_SHz (v_rents hI298 (by decide)) l_L_253 rfl (Nat.le_of_ble_eq_true rfl) (Nat.le_of_ble_eq_true rfl) rfl dL_act_382 (fun _ _ _ z => ⟨_, z.1⟩) (fun x382 E382 n382 z382 => ?_)
              obtain ⟨e382, e2382, hI382⟩ := z382
              have e9382 := (Value.int.inj (Option.some.inj e382)).symm
              subst e9382
              have e6382 := e2382.symm
              subst e6382
              refine g_if_lt (tgt := 392) (by decide) dL_act_385 (fun h385 => ?_) (fun h385 => ?_)
              · -- t 392
                exact absurd h385 hr0
              · -- f 388
                refine gn_ic 1 (by decide) dL_act_388 ?_
                refine g_goto (tgt := 393) (by decide) dL_act_389 ?_
                exact g_iret ⟨rfl, by omega, _, _, _, _, hI382.le (by omega) (by omega)⟩ rfl rfl dL_act_393
          · -- f 308
            exact absurd cc23 (by decide)
        · -- f 265
          refine g_aload_n 4 rfl dL_act_265 ?_
          refine g_iload 0 rfl dL_act_266 ?_
          refine gv_Vz (k_lodgersOn hI252 hφ) l_L_167 rfl hI252.rc (Nat.le_of_ble_eq_true rfl) (Nat.le_of_ble_eq_true rfl) rfl dL_act_268 ?_
          have hlq := hle (nI φ)
          refine gn_ic 4 (by decide) dL_act_271 ?_
          refine gn_icmp_ge (by omega) (by omega) (tgt := 279) (by decide) dL_act_272 (fun h272 => ?_) (fun h272 => ?_)
          · -- t 279
            refine gn_ic 0 (by decide) dL_act_279 ?_
            refine g_istore (lv2 := [(13, _), (12, _), (4, _), (3, _), (2, _), (0, _), (1, _)]) (by decide) rfl dL_act_280 ?_
            refine g_aload_n 6 rfl dL_act_282 ?_
            refine g_next hI252 l_L_84 (Nat.le_of_ble_eq_true rfl) (Nat.le_of_ble_eq_true rfl) dL_act_283 (fun m283 E283 hm283 hI283 => ?_)
            refine gn_ldc (a := 100000) (wl_6 150 rfl rfl) dL_act_286 ?_
            refine gn_irem (by omega) (by decide) (by decide) dL_act_288 ?_
            obtain ⟨a, ha, ea⟩ : ∃ t, t ≤ 99999 ∧ m283 % 100000 = t := ⟨_, by omega, rfl⟩
            rw [ea]
            refine g_istore (lv2 := [(14, _), (13, _), (12, _), (4, _), (3, _), (2, _), (0, _), (1, _)]) (by decide) rfl dL_act_289 ?_
            refine g_aload_n 6 rfl dL_act_291 ?_
            refine g_iload 2 rfl dL_act_292 ?_
            refine gn_bp 7 (by decide) dL_act_294 ?_
            refine g_iload 0 rfl dL_act_296 ?_
            refine G.mono (kc2 := 0 + 1) (ks2 := 0 + 6) (by omega) (by omega) ?_
            refine g_SHi (v_movedIn_noS hI283 hφ (by decide) ha (by omega) (by rw [cntA_on c (by omega)]; exact h272)) l_L_249 rfl (Nat.le_of_ble_eq_true rfl) (Nat.le_of_ble_eq_true rfl) rfl dL_act_298 (fun _ _ _ z => ⟨_, z.1⟩) (fun x298 E298 n298 z298 => ?_)
            obtain ⟨e298, e2298, e3298⟩ := z298
            have e9298 := (Value.int.inj (Option.some.inj e298)).symm
            subst e9298
            have e4298 := e2298.symm
            subst e4298
            have hI298 := hI283.up e3298
            refine g_istore (lv2 := [(15, _), (14, _), (13, _), (12, _), (4, _), (3, _), (2, _), (0, _), (1, _)]) (by decide) rfl dL_act_301 ?_
            refine g_iload 2 rfl dL_act_303 ?_
            refine gn_if_eq (by omega) (tgt := 373) (by decide) dL_act_305 (fun cc24 => ?_) (fun cc24 => ?_)
            · -- t 373
              refine g_iload 0 rfl dL_act_373 ?_
              refine g_bipush (v := -3) dL_act_375 (by decide) ?_
              refine g_icmp_ne (tgt := 392) (by decide) dL_act_377 (fun h377 => ?_) (fun h377 => ?_)
              · -- t 392
                exact absurd rfl h377
              · -- f 380
                refine g_aload_n 7 rfl dL_act_380 ?_
                refine gn_ic 3 (by decide) dL_act_381 ?_
                refine g_SHz (v_rents hI298 (by decide)) l_L_253 rfl (Nat.le_of_ble_eq_true rfl) (Nat.le_of_ble_eq_true rfl) rfl dL_act_382 (fun _ _ _ z => ⟨_, z.1⟩) (fun x382 E382 n382 z382 => ?_)
                obtain ⟨e382, e2382, hI382⟩ := z382
                have e9382 := (Value.int.inj (Option.some.inj e382)).symm
                subst e9382
                have e6382 := e2382.symm
                subst e6382
                refine g_if_lt (tgt := 392) (by decide) dL_act_385 (fun h385 => ?_) (fun h385 => ?_)
                · -- t 392
                  exact absurd h385 hr0
                · -- f 388
                  refine gn_ic 1 (by decide) dL_act_388 ?_
                  refine g_goto (tgt := 393) (by decide) dL_act_389 ?_
                  exact g_iret ⟨rfl, by omega, _, _, _, _, hI382.le (by omega) (by omega)⟩ rfl rfl dL_act_393
            · -- f 308
              exact absurd cc24 (by decide)
          · -- f 275
            refine gn_ic 1 (by decide) dL_act_275 ?_
            refine g_goto (tgt := 280) (by decide) dL_act_276 ?_
            refine g_istore (lv2 := [(13, _), (12, _), (4, _), (3, _), (2, _), (0, _), (1, _)]) (by decide) rfl dL_act_280 ?_
            refine g_aload_n 6 rfl dL_act_282 ?_
            refine g_next hI252 l_L_84 (Nat.le_of_ble_eq_true rfl) (Nat.le_of_ble_eq_true rfl) dL_act_283 (fun m283 E283 hm283 hI283 => ?_)
            refine gn_ldc (a := 100000) (wl_6 150 rfl rfl) dL_act_286 ?_
            refine gn_irem (by omega) (by decide) (by decide) dL_act_288 ?_
            obtain ⟨a, ha, ea⟩ : ∃ t, t ≤ 99999 ∧ m283 % 100000 = t := ⟨_, by omega, rfl⟩
            rw [ea]
            refine g_istore (lv2 := [(14, _), (13, _), (12, _), (4, _), (3, _), (2, _), (0, _), (1, _)]) (by decide) rfl dL_act_289 ?_
            refine g_aload_n 6 rfl dL_act_291 ?_
            refine g_iload 2 rfl dL_act_292 ?_
            refine gn_bp 7 (by decide) dL_act_294 ?_
            refine g_iload 0 rfl dL_act_296 ?_
            refine G.mono (kc2 := 0 + 2) (ks2 := 0 + 44) (by omega) (by omega) ?_
            refine g_SHi (v_movedIn hI283 hφ (by decide) ha (by omega) (by rw [cntA_on c (by omega)]; omega) (by omega) (by omega)) l_L_249 rfl (Nat.le_of_ble_eq_true rfl) (Nat.le_of_ble_eq_true rfl) rfl dL_act_298 (fun _ _ _ z => ⟨_, z.1⟩) (fun x298 E298 n298 z298 => ?_)
            obtain ⟨e298, e2298, hI298⟩ := z298
            have e9298 := (Value.int.inj (Option.some.inj e298)).symm
            subst e9298
            have e6298 := e2298.symm
            subst e6298
            refine g_istore (lv2 := [(15, _), (14, _), (13, _), (12, _), (4, _), (3, _), (2, _), (0, _), (1, _)]) (by decide) rfl dL_act_301 ?_
            refine g_iload 2 rfl dL_act_303 ?_
            refine gn_if_eq (by omega) (tgt := 373) (by decide) dL_act_305 (fun cc25 => ?_) (fun cc25 => ?_)
            · -- t 373
              exact absurd cc25 (by decide)
            · -- f 308
              refine g_iload 0 rfl dL_act_308 ?_
              refine g_iload_n 6 rfl dL_act_310 ?_
              refine gn_icmp_ne (by omega) (by omega) (tgt := 369) (by decide) dL_act_311 (fun cc26 => ?_) (fun cc26 => ?_)
              · -- t 369
                exfalso; omega
              · -- f 314
                refine g_aload_n 7 rfl dL_act_314 ?_
                refine g_iload 0 rfl dL_act_315 ?_
                refine gn_ic 4 (by decide) dL_act_317 ?_
                refine gv_Vz (k_vowelOf hI298 (by omega) (by decide)) l_L_154 rfl hI298.rc (Nat.le_of_ble_eq_true rfl) (Nat.le_of_ble_eq_true rfl) rfl dL_act_318 ?_
                refine g_iload 1 rfl dL_act_321 ?_
                refine gn_bp 10 (by decide) dL_act_323 ?_
                refine gn_irem (by omega) (by decide) (by decide) dL_act_325 ?_
                refine g_icmp_ne (tgt := 369) (by decide) dL_act_326 (fun h326 => ?_) (fun h326 => ?_)
                · -- t 369
                  exact absurd newc_4 h326
                · -- f 329
                  refine g_aload_n 7 rfl dL_act_329 ?_
                  refine g_iload 0 rfl dL_act_330 ?_
                  refine gn_ic 0 (by decide) dL_act_332 ?_
                  refine gv_Vz (k_vowelOf hI298 (by omega) (by decide)) l_L_154 rfl hI298.rc (Nat.le_of_ble_eq_true rfl) (Nat.le_of_ble_eq_true rfl) rfl dL_act_333 ?_
                  refine g_iload 1 rfl dL_act_336 ?_
                  refine gn_sp 10000 (by decide) dL_act_338 ?_
                  refine gn_idiv (by omega) (by decide) (by decide) dL_act_341 ?_
                  refine g_icmp_ne (tgt := 369) (by decide) dL_act_342 (fun h342 => ?_) (fun h342 => ?_)
                  · -- t 369
                    exact absurd (newc_0 ha) h342
                  · -- f 345
                    refine g_aload_n 7 rfl dL_act_345 ?_
                    refine g_iload 0 rfl dL_act_346 ?_
                    refine gv_Vz (k_balanceOf hI298 (by omega)) l_L_139 rfl hI298.rc (Nat.le_of_ble_eq_true rfl) (Nat.le_of_ble_eq_true rfl) rfl dL_act_348 ?_
                    refine gn_bp 7 (by decide) dL_act_351 ?_
                    refine g_icmp_ne (tgt := 369) (by decide) dL_act_353 (fun h353 => ?_) (fun h353 => ?_)
                    · -- t 369
                      exact absurd newc_1 h353
                    · -- f 356
                      refine g_aload_n 7 rfl dL_act_356 ?_
                      refine g_iload 0 rfl dL_act_357 ?_
                      refine gv_Vz (k_daysStayed hI298 (by omega)) l_L_148 rfl hI298.rc (Nat.le_of_ble_eq_true rfl) (Nat.le_of_ble_eq_true rfl) rfl dL_act_359 ?_
                      refine g_if_ne (tgt := 369) (by decide) dL_act_362 (fun h362 => ?_) (fun h362 => ?_)
                      · -- t 369
                        exact absurd newc_d h362
                      · -- f 365
                        refine gn_ic 1 (by decide) dL_act_365 ?_
                        refine g_goto (tgt := 393) (by decide) dL_act_366 ?_
                        exact g_iret ⟨rfl, by omega, _, _, _, _, hI298.le (by omega) (by omega)⟩ rfl rfl dL_act_393
      · rw [e42]
        refine g_tswIn (off := 352) (tgt := 394) dL_act_42 (by decide) (by decide) (by decide +kernel) (by decide) ?_
        refine g_aload_n 3 rfl dL_act_394 ?_
        refine g_iload_n 1 rfl dL_act_395 ?_
        refine g_SHz (v_movedOut hI36 hk) l_L_256 rfl (Nat.le_of_ble_eq_true rfl) (Nat.le_of_ble_eq_true rfl) rfl dL_act_396 (fun _ _ _ z => ⟨_, z.1⟩) (fun x396 E396 n396 z396 => ?_)
        obtain ⟨e396, e2396, hI396⟩ := z396
        have e9396 := (Value.int.inj (Option.some.inj e396)).symm
        subst e9396
        have e6396 := e2396.symm
        subst e6396
        refine g_istore (lv2 := [(16, _), (4, _), (3, _), (2, _), (0, _), (1, _)]) (by decide) rfl dL_act_399 ?_
        refine g_iload_n 3 rfl dL_act_401 ?_
        refine gn_if_ne (by omega) (tgt := 429) (by decide) dL_act_402 (fun h402 => ?_) (fun h402 => ?_)
        · -- t 429
          refine g_iload 0 rfl dL_act_429 ?_
          refine g_iload 1 rfl dL_act_431 ?_
          refine g_icmp_ne (tgt := 450) (by decide) dL_act_433 (fun h433 => ?_) (fun h433 => ?_)
          · -- t 450
            exact absurd rfl h433
          · -- f 436
            refine g_aload_n 4 rfl dL_act_436 ?_
            refine gv_Vz (k_lodgerCount hI396 ) l_L_133 rfl hI396.rc (Nat.le_of_ble_eq_true rfl) (Nat.le_of_ble_eq_true rfl) rfl dL_act_437 ?_
            refine g_iload_n 3 rfl dL_act_440 ?_
            refine gn_ic 1 (by decide) dL_act_441 ?_
            refine gn_isub (by omega) dL_act_442 ?_
            refine gn_icmp_ne (by omega) (by omega) (tgt := 450) (by decide) dL_act_443 (fun cc27 => ?_) (fun cc27 => ?_)
            · -- t 450
              exfalso; omega
            · -- f 446
              refine gn_ic 1 (by decide) dL_act_446 ?_
              refine g_goto (tgt := 451) (by decide) dL_act_447 ?_
              exact g_iret ⟨rfl, by omega, _, _, _, _, hI396.le (by omega) (by omega)⟩ rfl rfl dL_act_451
        · -- f 405
          exact absurd h402 h0
      · rw [e42]
        refine g_tswIn (off := 410) (tgt := 452) dL_act_42 (by decide) (by decide) (by decide +kernel) (by decide) ?_
        refine g_aload_n 4 rfl dL_act_452 ?_
        refine g_next hI36 l_L_84 (Nat.le_of_ble_eq_true rfl) (Nat.le_of_ble_eq_true rfl) dL_act_453 (fun m453 E453 hm453 hI453 => ?_)
        refine gn_ic 5 (by decide) dL_act_456 ?_
        refine gn_irem (by omega) (by decide) (by decide) dL_act_457 ?_
        obtain ⟨φ, hφ, eφ⟩ : ∃ t, t < 5 ∧ m453 % 5 = t := ⟨_, by omega, rfl⟩
        rw [eφ]
        refine g_istore (lv2 := [(17, _), (4, _), (3, _), (2, _), (0, _), (1, _)]) (by decide) rfl dL_act_458 ?_
        refine g_iload_n 3 rfl dL_act_460 ?_
        refine gn_if_ne (by omega) (tgt := 468) (by decide) dL_act_461 (fun h461 => ?_) (fun h461 => ?_)
        · -- t 468
          refine g_aload_n 4 rfl dL_act_468 ?_
          refine g_iload_n 2 rfl dL_act_469 ?_
          refine gv_Vz (k_floorOf hI453 hk) l_L_136 rfl hI453.rc (Nat.le_of_ble_eq_true rfl) (Nat.le_of_ble_eq_true rfl) rfl dL_act_470 ?_
          refine g_istore (lv2 := [(18, _), (17, _), (4, _), (3, _), (2, _), (0, _), (1, _)]) (by decide) rfl dL_act_473 ?_
          refine g_iload_n 4 rfl dL_act_475 ?_
          refine g_if_le (tgt := 500) (by decide) dL_act_476 (fun h476 => ?_) (fun h476 => ?_)
          · -- t 500
            exact absurd h476 (nI_nle (by omega) (by omega))
          · -- f 479
            refine g_iload 0 rfl dL_act_479 ?_
            refine g_iload 1 rfl dL_act_481 ?_
            refine g_icmp_eq (tgt := 496) (by decide) dL_act_483 (fun h483 => ?_) (fun h483 => ?_)
            · -- t 496
              refine gn_ic 1 (by decide) dL_act_496 ?_
              refine g_goto (tgt := 501) (by decide) dL_act_497 ?_
              refine g_istore (lv2 := [(19, _), (18, _), (17, _), (4, _), (3, _), (2, _), (0, _), (1, _)]) (by decide) rfl dL_act_501 ?_
              refine g_aload_n 6 rfl dL_act_503 ?_
              refine g_iload_n 4 rfl dL_act_504 ?_
              refine g_iload 2 rfl dL_act_505 ?_
              refine g_SHz (v_movedTo hI453 hk hφ (mv_ok1 hk hc12 hle h483)) l_L_259 rfl (Nat.le_of_ble_eq_true rfl) (Nat.le_of_ble_eq_true rfl) rfl dL_act_507 (fun _ _ _ z => ⟨_, z.1⟩) (fun x507 E507 n507 z507 => ?_)
              obtain ⟨e507, e2507, hI507⟩ := z507
              have e9507 := (Value.int.inj (Option.some.inj e507)).symm
              subst e9507
              have e6507 := e2507.symm
              subst e6507
              refine g_istore (lv2 := [(20, _), (19, _), (18, _), (17, _), (4, _), (3, _), (2, _), (0, _), (1, _)]) (by decide) rfl dL_act_510 ?_
              refine g_iload 1 rfl dL_act_512 ?_
              refine gn_if_eq (by omega) (tgt := 542) (by decide) dL_act_514 (fun cc28 => ?_) (fun cc28 => ?_)
              · -- t 542
                exact absurd cc28 (by decide)
              · -- f 517
                refine g_iload 0 rfl dL_act_517 ?_
                refine g_iload 2 rfl dL_act_519 ?_
                refine g_icmp_ne (tgt := 538) (by decide) dL_act_521 (fun h521 => ?_) (fun h521 => ?_)
                · -- t 538
                  exact absurd rfl h521
                · -- f 524
                  refine g_aload_n 7 rfl dL_act_524 ?_
                  refine g_iload_n 5 rfl dL_act_525 ?_
                  refine gv_Vz (k_floorOf hI507 hk) l_L_136 rfl hI507.rc (Nat.le_of_ble_eq_true rfl) (Nat.le_of_ble_eq_true rfl) rfl dL_act_526 ?_
                  refine g_iload 3 rfl dL_act_529 ?_
                  refine g_icmp_ne (tgt := 538) (by decide) dL_act_531 (fun h531 => ?_) (fun h531 => ?_)
                  · -- t 538
                    exact absurd pk_us h531
                  · -- f 534
                    refine gn_ic 1 (by decide) dL_act_534 ?_
                    refine g_goto (tgt := 562) (by decide) dL_act_535 ?_
                    exact g_iret ⟨rfl, by omega, _, _, _, _, hI507.le (by omega) (by omega)⟩ rfl rfl dL_act_562
            · -- f 486
              refine g_aload_n 5 rfl dL_act_486 ?_
              refine g_iload 1 rfl dL_act_487 ?_
              refine gv_Vz (k_lodgersOn hI453 hφ) l_L_167 rfl hI453.rc (Nat.le_of_ble_eq_true rfl) (Nat.le_of_ble_eq_true rfl) rfl dL_act_489 ?_
              have hlq := hle (nI φ)
              refine gn_ic 4 (by decide) dL_act_492 ?_
              refine gn_icmp_ge (by omega) (by omega) (tgt := 500) (by decide) dL_act_493 (fun h493 => ?_) (fun h493 => ?_)
              · -- t 500
                refine gn_ic 0 (by decide) dL_act_500 ?_
                refine g_istore (lv2 := [(19, _), (18, _), (17, _), (4, _), (3, _), (2, _), (0, _), (1, _)]) (by decide) rfl dL_act_501 ?_
                refine g_aload_n 6 rfl dL_act_503 ?_
                refine g_iload_n 4 rfl dL_act_504 ?_
                refine g_iload 2 rfl dL_act_505 ?_
                refine G.mono (kc2 := 0 + 1) (ks2 := 0 + 6) (by omega) (by omega) ?_
                refine g_SHi (v_movedTo_noP hI453 hk hφ (mv_no hk hc12 h483 h493)) l_L_259 rfl (Nat.le_of_ble_eq_true rfl) (Nat.le_of_ble_eq_true rfl) rfl dL_act_507 (fun _ _ _ z => ⟨_, z.1⟩) (fun x507 E507 n507 z507 => ?_)
                obtain ⟨e507, e2507, e3507⟩ := z507
                have e9507 := (Value.int.inj (Option.some.inj e507)).symm
                subst e9507
                have e4507 := e2507.symm
                subst e4507
                have hI507 := hI453.up e3507
                refine g_istore (lv2 := [(20, _), (19, _), (18, _), (17, _), (4, _), (3, _), (2, _), (0, _), (1, _)]) (by decide) rfl dL_act_510 ?_
                refine g_iload 1 rfl dL_act_512 ?_
                refine gn_if_eq (by omega) (tgt := 542) (by decide) dL_act_514 (fun cc29 => ?_) (fun cc29 => ?_)
                · -- t 542
                  refine g_iload 0 rfl dL_act_542 ?_
                  refine g_bipush (v := -2) dL_act_544 (by decide) ?_
                  refine g_icmp_ge (tgt := 561) (by decide) dL_act_546 (fun h546 => ?_) (fun h546 => ?_)
                  · -- t 561
                    exact absurd h546 (by decide)
                  · -- f 549
                    refine g_aload_n 7 rfl dL_act_549 ?_
                    refine gn_ic 5 (by decide) dL_act_550 ?_
                    refine g_SHz (v_rents hI507 (by decide)) l_L_253 rfl (Nat.le_of_ble_eq_true rfl) (Nat.le_of_ble_eq_true rfl) rfl dL_act_551 (fun _ _ _ z => ⟨_, z.1⟩) (fun x551 E551 n551 z551 => ?_)
                    obtain ⟨e551, e2551, hI551⟩ := z551
                    have e9551 := (Value.int.inj (Option.some.inj e551)).symm
                    subst e9551
                    have e6551 := e2551.symm
                    subst e6551
                    refine g_if_lt (tgt := 561) (by decide) dL_act_554 (fun h554 => ?_) (fun h554 => ?_)
                    · -- t 561
                      exact absurd h554 hr0
                    · -- f 557
                      refine gn_ic 1 (by decide) dL_act_557 ?_
                      refine g_goto (tgt := 562) (by decide) dL_act_558 ?_
                      exact g_iret ⟨rfl, by omega, _, _, _, _, hI551.le (by omega) (by omega)⟩ rfl rfl dL_act_562
                · -- f 517
                  exact absurd cc29 (by decide)
              · -- f 496
                refine gn_ic 1 (by decide) dL_act_496 ?_
                refine g_goto (tgt := 501) (by decide) dL_act_497 ?_
                refine g_istore (lv2 := [(19, _), (18, _), (17, _), (4, _), (3, _), (2, _), (0, _), (1, _)]) (by decide) rfl dL_act_501 ?_
                refine g_aload_n 6 rfl dL_act_503 ?_
                refine g_iload_n 4 rfl dL_act_504 ?_
                refine g_iload 2 rfl dL_act_505 ?_
                refine g_SHz (v_movedTo hI453 hk hφ (mv_ok2 hk hc12 h493)) l_L_259 rfl (Nat.le_of_ble_eq_true rfl) (Nat.le_of_ble_eq_true rfl) rfl dL_act_507 (fun _ _ _ z => ⟨_, z.1⟩) (fun x507 E507 n507 z507 => ?_)
                obtain ⟨e507, e2507, hI507⟩ := z507
                have e9507 := (Value.int.inj (Option.some.inj e507)).symm
                subst e9507
                have e6507 := e2507.symm
                subst e6507
                refine g_istore (lv2 := [(20, _), (19, _), (18, _), (17, _), (4, _), (3, _), (2, _), (0, _), (1, _)]) (by decide) rfl dL_act_510 ?_
                refine g_iload 1 rfl dL_act_512 ?_
                refine gn_if_eq (by omega) (tgt := 542) (by decide) dL_act_514 (fun cc30 => ?_) (fun cc30 => ?_)
                · -- t 542
                  exact absurd cc30 (by decide)
                · -- f 517
                  refine g_iload 0 rfl dL_act_517 ?_
                  refine g_iload 2 rfl dL_act_519 ?_
                  refine g_icmp_ne (tgt := 538) (by decide) dL_act_521 (fun h521 => ?_) (fun h521 => ?_)
                  · -- t 538
                    exact absurd rfl h521
                  · -- f 524
                    refine g_aload_n 7 rfl dL_act_524 ?_
                    refine g_iload_n 5 rfl dL_act_525 ?_
                    refine gv_Vz (k_floorOf hI507 hk) l_L_136 rfl hI507.rc (Nat.le_of_ble_eq_true rfl) (Nat.le_of_ble_eq_true rfl) rfl dL_act_526 ?_
                    refine g_iload 3 rfl dL_act_529 ?_
                    refine g_icmp_ne (tgt := 538) (by decide) dL_act_531 (fun h531 => ?_) (fun h531 => ?_)
                    · -- t 538
                      exact absurd pk_us h531
                    · -- f 534
                      refine gn_ic 1 (by decide) dL_act_534 ?_
                      refine g_goto (tgt := 562) (by decide) dL_act_535 ?_
                      exact g_iret ⟨rfl, by omega, _, _, _, _, hI507.le (by omega) (by omega)⟩ rfl rfl dL_act_562
        · -- f 464
          exact absurd h461 h0
      · rw [e42]
        refine g_tswIn (off := 521) (tgt := 563) dL_act_42 (by decide) (by decide) (by decide +kernel) (by decide) ?_
        refine gn_ic 1 (by decide) dL_act_563 ?_
        refine g_aload_n 4 rfl dL_act_564 ?_
        refine g_next hI36 l_L_84 (Nat.le_of_ble_eq_true rfl) (Nat.le_of_ble_eq_true rfl) dL_act_565 (fun m565 E565 hm565 hI565 => ?_)
        refine gn_sp 300 (by decide) dL_act_568 ?_
        refine gn_irem (by omega) (by decide) (by decide) dL_act_571 ?_
        refine gn_iadd dL_act_572 ?_
        obtain ⟨t5, ht5, et5⟩ : ∃ t, (1 ≤ t ∧ t ≤ 300) ∧ 1 + m565 % 300 = t := ⟨_, by omega, rfl⟩
        rw [et5]
        refine g_istore (lv2 := [(21, _), (4, _), (3, _), (2, _), (0, _), (1, _)]) (by decide) rfl dL_act_573 ?_
        refine g_aload_n 4 rfl dL_act_575 ?_
        refine g_iload_n 2 rfl dL_act_576 ?_
        refine g_iload 0 rfl dL_act_577 ?_
        refine g_SHz (v_paid hI565 hk ht5.1 (by omega) (by omega)) l_L_237 rfl (Nat.le_of_ble_eq_true rfl) (Nat.le_of_ble_eq_true rfl) rfl dL_act_579 (fun _ _ _ z => ⟨_, z.1⟩) (fun x579 E579 n579 z579 => ?_)
        obtain ⟨e579, e2579, hI579⟩ := z579
        have e9579 := (Value.int.inj (Option.some.inj e579)).symm
        subst e9579
        have e6579 := e2579.symm
        subst e6579
        refine g_istore (lv2 := [(22, _), (21, _), (4, _), (3, _), (2, _), (0, _), (1, _)]) (by decide) rfl dL_act_582 ?_
        refine g_iload_n 4 rfl dL_act_584 ?_
        refine gn_if_ne (by omega) (tgt := 612) (by decide) dL_act_585 (fun h585 => ?_) (fun h585 => ?_)
        · -- t 612
          refine g_iload 0 rfl dL_act_612 ?_
          refine g_iload 2 rfl dL_act_614 ?_
          refine g_iload 1 rfl dL_act_616 ?_
          refine g_iadd dL_act_618 ?_
          refine g_icmp_ne (tgt := 636) (by decide) dL_act_619 (fun h619 => ?_) (fun h619 => ?_)
          · -- t 636
            exact absurd payF_b h619
          · -- f 622
            refine g_aload_n 5 rfl dL_act_622 ?_
            refine g_iload_n 3 rfl dL_act_623 ?_
            refine gv_Vz (k_balanceOf hI579 hk) l_L_139 rfl hI579.rc (Nat.le_of_ble_eq_true rfl) (Nat.le_of_ble_eq_true rfl) rfl dL_act_624 ?_
            refine g_iload 0 rfl dL_act_627 ?_
            refine g_icmp_ne (tgt := 636) (by decide) dL_act_629 (fun h629 => ?_) (fun h629 => ?_)
            · -- t 636
              exact absurd rfl h629
            · -- f 632
              refine gn_ic 1 (by decide) dL_act_632 ?_
              refine g_goto (tgt := 637) (by decide) dL_act_633 ?_
              exact g_iret ⟨rfl, by omega, _, _, _, _, hI579.le (by omega) (by omega)⟩ rfl rfl dL_act_637
        · -- f 588
          exact absurd h585 h0
      · rw [e42]
        refine g_tswIn (off := 596) (tgt := 638) dL_act_42 (by decide) (by decide) (by decide +kernel) (by decide) ?_
        refine g_aload_n 4 rfl dL_act_638 ?_
        refine g_next hI36 l_L_84 (Nat.le_of_ble_eq_true rfl) (Nat.le_of_ble_eq_true rfl) dL_act_639 (fun m639 E639 hm639 hI639 => ?_)
        refine gn_ic 5 (by decide) dL_act_642 ?_
        refine gn_irem (by omega) (by decide) (by decide) dL_act_643 ?_
        obtain ⟨v, hv, ev⟩ : ∃ t, t < 5 ∧ m639 % 5 = t := ⟨_, by omega, rfl⟩
        rw [ev]
        refine g_istore (lv2 := [(23, _), (4, _), (3, _), (2, _), (0, _), (1, _)]) (by decide) rfl dL_act_644 ?_
        refine g_aload_n 4 rfl dL_act_646 ?_
        refine g_iload 0 rfl dL_act_647 ?_
        refine gv_Vz (k_landladyVowel hI639 hv) l_L_130 rfl hI639.rc (Nat.le_of_ble_eq_true rfl) (Nat.le_of_ble_eq_true rfl) rfl dL_act_649 ?_
        refine g_istore (lv2 := [(24, _), (23, _), (4, _), (3, _), (2, _), (0, _), (1, _)]) (by decide) rfl dL_act_652 ?_
        refine g_aload_n 6 rfl dL_act_654 ?_
        refine g_next hI639 l_L_84 (Nat.le_of_ble_eq_true rfl) (Nat.le_of_ble_eq_true rfl) dL_act_655 (fun m655 E655 hm655 hI655 => ?_)
        refine gn_bp 10 (by decide) dL_act_658 ?_
        refine gn_irem (by omega) (by decide) (by decide) dL_act_660 ?_
        obtain ⟨p, hp, ep⟩ : ∃ t, t ≤ 9 ∧ m655 % 10 = t := ⟨_, by omega, rfl⟩
        rw [ep]
        refine g_istore (lv2 := [(25, _), (24, _), (23, _), (4, _), (3, _), (2, _), (0, _), (1, _)]) (by decide) rfl dL_act_661 ?_
        refine g_aload_n 6 rfl dL_act_663 ?_
        refine g_iload 2 rfl dL_act_664 ?_
        refine g_iload 0 rfl dL_act_666 ?_
        refine g_SHz (v_spoke hI655 hv hp) l_L_262 rfl (Nat.le_of_ble_eq_true rfl) (Nat.le_of_ble_eq_true rfl) rfl dL_act_668 (fun _ _ _ z => ⟨_, z.1⟩) (fun x668 E668 n668 z668 => ?_)
        obtain ⟨e668, e2668, hI668⟩ := z668
        have e9668 := (Value.int.inj (Option.some.inj e668)).symm
        subst e9668
        have e6668 := e2668.symm
        subst e6668
        refine g_iload 1 rfl dL_act_671 ?_
        refine g_icmp_ne (tgt := 691) (by decide) dL_act_673 (fun h673 => ?_) (fun h673 => ?_)
        · -- t 691
          exact absurd rfl h673
        · -- f 676
          refine g_aload_n 6 rfl dL_act_676 ?_
          refine g_iload 2 rfl dL_act_677 ?_
          refine gv_Vz (k_landladyVowel hI668 hv) l_L_130 rfl hI668.rc (Nat.le_of_ble_eq_true rfl) (Nat.le_of_ble_eq_true rfl) rfl dL_act_679 ?_
          refine g_iload 0 rfl dL_act_682 ?_
          refine g_icmp_ne (tgt := 691) (by decide) dL_act_684 (fun h684 => ?_) (fun h684 => ?_)
          · -- t 691
            exact absurd pk_us h684
          · -- f 687
            refine gn_ic 1 (by decide) dL_act_687 ?_
            refine g_goto (tgt := 692) (by decide) dL_act_688 ?_
            exact g_iret ⟨rfl, by omega, _, _, _, _, hI668.le (by omega) (by omega)⟩ rfl rfl dL_act_692
      · rw [e42]
        refine g_tswOut (tgt := 693) dL_act_42 (Or.inr (by decide)) (by decide) ?_
        refine g_aload_n 3 rfl dL_act_693 ?_
        refine gv_Vz (k_tolerance hI36 ) l_L_115 rfl hI36.rc (Nat.le_of_ble_eq_true rfl) (Nat.le_of_ble_eq_true rfl) rfl dL_act_694 ?_
        refine g_istore (lv2 := [(26, _), (4, _), (3, _), (2, _), (0, _), (1, _)]) (by decide) rfl dL_act_697 ?_
        refine g_aload_n 5 rfl dL_act_699 ?_
        refine g_next hI36 l_L_84 (Nat.le_of_ble_eq_true rfl) (Nat.le_of_ble_eq_true rfl) dL_act_700 (fun m700 E700 hm700 hI700 => ?_)
        refine gn_bp 46 (by decide) dL_act_703 ?_
        refine gn_irem (by omega) (by decide) (by decide) dL_act_705 ?_
        obtain ⟨p, hp, ep⟩ : ∃ t, t ≤ 45 ∧ m700 % 46 = t := ⟨_, by omega, rfl⟩
        rw [ep]
        refine g_istore (lv2 := [(27, _), (26, _), (4, _), (3, _), (2, _), (0, _), (1, _)]) (by decide) rfl dL_act_706 ?_
        refine g_aload_n 5 rfl dL_act_708 ?_
        refine g_iload 0 rfl dL_act_709 ?_
        refine g_SHz (v_tolerates hI700 hp) l_L_265 rfl (Nat.le_of_ble_eq_true rfl) (Nat.le_of_ble_eq_true rfl) rfl dL_act_711 (fun _ _ _ z => ⟨_, z.1⟩) (fun x711 E711 n711 z711 => ?_)
        obtain ⟨e711, e2711, hI711⟩ := z711
        have e9711 := (Value.int.inj (Option.some.inj e711)).symm
        subst e9711
        have e6711 := e2711.symm
        subst e6711
        refine g_iload 1 rfl dL_act_714 ?_
        refine g_icmp_ne (tgt := 732) (by decide) dL_act_716 (fun h716 => ?_) (fun h716 => ?_)
        · -- t 732
          exact absurd rfl h716
        · -- f 719
          refine g_aload_n 5 rfl dL_act_719 ?_
          refine gv_Vz (k_tolerance hI711 ) l_L_115 rfl hI711.rc (Nat.le_of_ble_eq_true rfl) (Nat.le_of_ble_eq_true rfl) rfl dL_act_720 ?_
          refine g_iload 0 rfl dL_act_723 ?_
          refine g_icmp_ne (tgt := 732) (by decide) dL_act_725 (fun h725 => ?_) (fun h725 => ?_)
          · -- t 732
            exact absurd pk_us h725
          · -- f 728
            refine gn_ic 1 (by decide) dL_act_728 ?_
            refine g_goto (tgt := 733) (by decide) dL_act_729 ?_
            exact g_iret ⟨rfl, by omega, _, _, _, _, hI711.le (by omega) (by omega)⟩ rfl rfl dL_act_733
    · -- f 24
      exact absurd h21 h0
  · -- f 9
    exact absurd h6 h0
set_option maxRecDepth 100000 in
set_option maxHeartbeats 4000000 in
theorem c_L_act0 {Γ : Gm} {n : Nat} {E : Hp} {ab ra B D s0 c kp : Nat} {g0 f : Nat → Int32} {top : Option (Nat → Int32)} (hI : IW Γ ab ra B D s0 g0 f c kp top E n) (h0 : c = 0) (hD : D + 9 ≤ 9999) (hB7 : 7 ≤ B) (hB : B + 8000 < 2 ^ 31) : Ct Γ 14 ML_act 2 44 [.ref ab, .ref ra] (E) n (fun r E2 n2 => r = some (.int (nI 1)) ∧ n ≤ n2 ∧ ∃ f2 c2 kp2 top2, IW Γ ab ra (B + 7000) (D + 9) s0 g0 f2 c2 kp2 top2 E2 n2) X0 := by
  refine Ct.of (by decide +kernel) rfl (Nat.le_of_ble_eq_true rfl) ?_
  have hgd := hI.gd
  have hc12 := hgd.2.1
  have hv := hI.val
  have hok := hv.okr
  obtain ⟨dy, hdy, h8⟩ := hgd.2.2.2
  have hle : ∀ fl, cntA f fl c ≤ 4 := hv.2.2.2.2
  have hr0 : ¬ f 0 < 0 := by obtain ⟨r, h1, h2⟩ := hv.2.2.2.1.1; rw [h2]; exact nI_pos (by omega)
  refine G.sub (lv2 := [(0, _), (1, _)]) [0, 1] rfl ?_
  refine g_aload_n 0 rfl dL_act_0 ?_
  refine gv_Vz (k_lodgerCount hI ) l_L_133 rfl hI.rc (Nat.le_of_ble_eq_true rfl) (Nat.le_of_ble_eq_true rfl) rfl dL_act_1 ?_
  refine g_istore_n (lv2 := [(2, _), (0, _), (1, _)]) (by decide) rfl dL_act_4 ?_
  refine g_iload_n 0 rfl dL_act_5 ?_
  refine gn_if_ne (by omega) (tgt := 13) (by decide) dL_act_6 (fun h6 => ?_) (fun h6 => ?_)
  · -- t 13
    exact absurd h0 h6
  · -- f 9
    refine gn_ic 0 (by decide) dL_act_9 ?_
    refine g_goto (tgt := 19) (by decide) dL_act_10 ?_
    refine g_istore_n (lv2 := [(3, _), (2, _), (0, _), (1, _)]) (by decide) rfl dL_act_19 ?_
    refine g_iload_n 1 rfl dL_act_20 ?_
    refine gn_if_ne (by omega) (tgt := 28) (by decide) dL_act_21 (fun h21 => ?_) (fun h21 => ?_)
    · -- t 28
      exact absurd h0 h21
    · -- f 24
      refine gn_ic 0 (by decide) dL_act_24 ?_
      refine g_goto (tgt := 33) (by decide) dL_act_25 ?_
      refine g_istore (lv2 := [(4, _), (3, _), (2, _), (0, _), (1, _)]) (by decide) rfl dL_act_33 ?_
      refine g_aload_n 4 rfl dL_act_35 ?_
      refine g_next hI l_L_84 (Nat.le_of_ble_eq_true rfl) (Nat.le_of_ble_eq_true rfl) dL_act_36 (fun m36 E36 hm36 hI36 => ?_)
      refine gn_bp 8 (by decide) dL_act_39 ?_
      refine gn_irem (by omega) (by decide) (by decide) dL_act_41 ?_
      rcases (show m36 % 8 = 0 ∨ m36 % 8 = 1 ∨ m36 % 8 = 2 ∨ m36 % 8 = 3 ∨ m36 % 8 = 4 ∨ m36 % 8 = 5 ∨ m36 % 8 = 6 ∨ m36 % 8 = 7 by omega) with e42 | e42 | e42 | e42 | e42 | e42 | e42 | e42
      · rw [e42]
        refine g_tswIn (off := 42) (tgt := 84) dL_act_42 (by decide) (by decide) (by decide +kernel) (by decide) ?_
        refine gn_ic 1 (by decide) dL_act_84 ?_
        refine g_aload_n 4 rfl dL_act_85 ?_
        refine g_next hI36 l_L_84 (Nat.le_of_ble_eq_true rfl) (Nat.le_of_ble_eq_true rfl) dL_act_86 (fun m86 E86 hm86 hI86 => ?_)
        refine gn_bp 9 (by decide) dL_act_89 ?_
        refine gn_irem (by omega) (by decide) (by decide) dL_act_91 ?_
        refine gn_iadd dL_act_92 ?_
        obtain ⟨t5, ht5, et5⟩ : ∃ t, (1 ≤ t ∧ t ≤ 9) ∧ 1 + m86 % 9 = t := ⟨_, by omega, rfl⟩
        rw [et5]
        refine g_istore (lv2 := [(5, _), (4, _), (3, _), (2, _), (0, _), (1, _)]) (by decide) rfl dL_act_93 ?_
        refine g_iload_n 3 rfl dL_act_95 ?_
        refine gn_if_ne (by omega) (tgt := 103) (by decide) dL_act_96 (fun h96 => ?_) (fun h96 => ?_)
        · -- t 103
          exact absurd h0 h96
        · -- f 99
          refine gn_ic 0 (by decide) dL_act_99 ?_
          refine g_goto (tgt := 110) (by decide) dL_act_100 ?_
          refine g_istore (lv2 := [(6, _), (5, _), (4, _), (3, _), (2, _), (0, _), (1, _)]) (by decide) rfl dL_act_110 ?_
          refine g_iload_n 4 rfl dL_act_112 ?_
          refine gn_if_ne (by omega) (tgt := 120) (by decide) dL_act_113 (fun h113 => ?_) (fun h113 => ?_)
          · -- t 120
            exact absurd h0 h113
          · -- f 116
            refine g_iconst (v := -1) dL_act_116 (by decide) ?_
            refine g_goto (tgt := 125) (by decide) dL_act_117 ?_
            refine g_istore (lv2 := [(7, _), (6, _), (5, _), (4, _), (3, _), (2, _), (0, _), (1, _)]) (by decide) rfl dL_act_125 ?_
            refine g_aload_n 6 rfl dL_act_127 ?_
            refine gv_Vz (k_settled hI86 ) l_L_127 rfl hI86.rc (Nat.le_of_ble_eq_true rfl) (Nat.le_of_ble_eq_true rfl) rfl dL_act_128 ?_
            refine g_istore (lv2 := [(8, _), (7, _), (6, _), (5, _), (4, _), (3, _), (2, _), (0, _), (1, _)]) (by decide) rfl dL_act_131 ?_
            refine g_aload_n 7 rfl dL_act_133 ?_
            refine gv_Vz (k_evictions hI86 ) l_L_118 rfl hI86.rc (Nat.le_of_ble_eq_true rfl) (Nat.le_of_ble_eq_true rfl) rfl dL_act_134 ?_
            refine g_istore (lv2 := [(9, _), (8, _), (7, _), (6, _), (5, _), (4, _), (3, _), (2, _), (0, _), (1, _)]) (by decide) rfl dL_act_137 ?_
            refine g_aload_n 8 rfl dL_act_139 ?_
            refine g_iload 4 rfl dL_act_140 ?_
            refine g_SHz (v_advanced (J := wI 0) hI86 ht5.1 (by omega) h8 hdy (by omega) (by omega)) l_L_244 rfl (Nat.le_of_ble_eq_true rfl) (Nat.le_of_ble_eq_true rfl) rfl dL_act_142 (fun _ _ _ z => by obtain ⟨c2, a1, a2, a3⟩ := z; exact ⟨_, a2⟩) (fun x142 E142 n142 z142 => ?_)
            obtain ⟨c2, a1, a2, a0, a3, a4, a5, hI142⟩ := z142
            have e9142 := (Value.int.inj (Option.some.inj a2)).symm
            subst e9142
            have e3142 := a0.symm
            subst e3142
            refine g_istore (lv2 := [(10, _), (9, _), (8, _), (7, _), (6, _), (5, _), (4, _), (3, _), (2, _), (0, _), (1, _)]) (by decide) rfl dL_act_145 ?_
            refine g_iload_n 8 rfl dL_act_147 ?_
            refine g_if_le (tgt := 167) (by decide) dL_act_148 (fun h148 => ?_) (fun h148 => ?_)
            · -- t 167
              refine gn_ic 0 (by decide) dL_act_167 ?_
              refine g_istore (lv2 := [(11, _), (10, _), (9, _), (8, _), (7, _), (6, _), (5, _), (4, _), (3, _), (2, _), (0, _), (1, _)]) (by decide) rfl dL_act_168 ?_
              refine g_aload_n 10 rfl dL_act_170 ?_
              refine gv_Vz (k_evictions hI142 ) l_L_118 rfl hI142.rc (Nat.le_of_ble_eq_true rfl) (Nat.le_of_ble_eq_true rfl) rfl dL_act_171 ?_
              refine g_iload 2 rfl dL_act_174 ?_
              refine g_iload 1 rfl dL_act_176 ?_
              refine g_iadd dL_act_178 ?_
              refine g_icmp_ne (tgt := 249) (by decide) dL_act_179 (fun h179 => ?_) (fun h179 => ?_)
              · -- t 249
                exact absurd a4 h179
              · -- f 182
                refine g_aload_n 10 rfl dL_act_182 ?_
                refine gv_Vz (k_lodgerCount hI142 ) l_L_133 rfl hI142.rc (Nat.le_of_ble_eq_true rfl) (Nat.le_of_ble_eq_true rfl) rfl dL_act_183 ?_
                refine g_iload_n 9 rfl dL_act_186 ?_
                refine g_iload 1 rfl dL_act_187 ?_
                refine gn_isub (by omega) dL_act_189 ?_
                refine gn_icmp_ne (by omega) (by omega) (tgt := 249) (by decide) dL_act_190 (fun cc1 => ?_) (fun cc1 => ?_)
                · -- t 249
                  exfalso; omega
                · -- f 193
                  refine g_iload_n 9 rfl dL_act_193 ?_
                  refine gn_if_eq (by omega) (tgt := 217) (by decide) dL_act_194 (fun h194 => ?_) (fun h194 => ?_)
                  · -- t 217
                    refine g_iload 0 rfl dL_act_217 ?_
                    refine gn_if_ne (by omega) (tgt := 231) (by decide) dL_act_219 (fun cc2 => ?_) (fun cc2 => ?_)
                    · -- t 231
                      exact absurd cc2 (by decide)
                    · -- f 222
                      refine g_iload_n 9 rfl dL_act_222 ?_
                      refine gn_if_eq (by omega) (tgt := 231) (by decide) dL_act_223 (fun h223 => ?_) (fun h223 => ?_)
                      · -- t 231
                        refine g_iload 1 rfl dL_act_231 ?_
                        refine g_if_gt (tgt := 245) (by decide) dL_act_233 (fun h233 => ?_) (fun h233 => ?_)
                        · -- t 245
                          refine gn_ic 1 (by decide) dL_act_245 ?_
                          refine g_goto (tgt := 250) (by decide) dL_act_246 ?_
                          exact g_iret ⟨rfl, by omega, _, _, _, _, hI142.le (by omega) (by omega)⟩ rfl rfl dL_act_250
                        · -- f 236
                          have hz233 := ngt h233 (by omega)
                          refine g_aload_n 10 rfl dL_act_236 ?_
                          refine gv_Vz (k_settled hI142 ) l_L_127 rfl hI142.rc (Nat.le_of_ble_eq_true rfl) (Nat.le_of_ble_eq_true rfl) rfl dL_act_237 ?_
                          refine g_iload 3 rfl dL_act_240 ?_
                          refine g_icmp_ne (tgt := 249) (by decide) dL_act_242 (fun h242 => ?_) (fun h242 => ?_)
                          · -- t 249
                            exact absurd (a5 (by omega)).2 h242
                          · -- f 245
                            refine gn_ic 1 (by decide) dL_act_245 ?_
                            refine g_goto (tgt := 250) (by decide) dL_act_246 ?_
                            exact g_iret ⟨rfl, by omega, _, _, _, _, hI142.le (by omega) (by omega)⟩ rfl rfl dL_act_250
                      · -- f 226
                        exact absurd h0 h223
                  · -- f 197
                    exact absurd h0 h194
            · -- f 151
              exact absurd (show nI c ≤ 0 by rw [h0]; decide) h148
      · rw [e42]
        refine g_tswIn (off := 42) (tgt := 84) dL_act_42 (by decide) (by decide) (by decide +kernel) (by decide) ?_
        refine gn_ic 1 (by decide) dL_act_84 ?_
        refine g_aload_n 4 rfl dL_act_85 ?_
        refine g_next hI36 l_L_84 (Nat.le_of_ble_eq_true rfl) (Nat.le_of_ble_eq_true rfl) dL_act_86 (fun m86 E86 hm86 hI86 => ?_)
        refine gn_bp 9 (by decide) dL_act_89 ?_
        refine gn_irem (by omega) (by decide) (by decide) dL_act_91 ?_
        refine gn_iadd dL_act_92 ?_
        obtain ⟨t5, ht5, et5⟩ : ∃ t, (1 ≤ t ∧ t ≤ 9) ∧ 1 + m86 % 9 = t := ⟨_, by omega, rfl⟩
        rw [et5]
        refine g_istore (lv2 := [(5, _), (4, _), (3, _), (2, _), (0, _), (1, _)]) (by decide) rfl dL_act_93 ?_
        refine g_iload_n 3 rfl dL_act_95 ?_
        refine gn_if_ne (by omega) (tgt := 103) (by decide) dL_act_96 (fun h96 => ?_) (fun h96 => ?_)
        · -- t 103
          exact absurd h0 h96
        · -- f 99
          refine gn_ic 0 (by decide) dL_act_99 ?_
          refine g_goto (tgt := 110) (by decide) dL_act_100 ?_
          refine g_istore (lv2 := [(6, _), (5, _), (4, _), (3, _), (2, _), (0, _), (1, _)]) (by decide) rfl dL_act_110 ?_
          refine g_iload_n 4 rfl dL_act_112 ?_
          refine gn_if_ne (by omega) (tgt := 120) (by decide) dL_act_113 (fun h113 => ?_) (fun h113 => ?_)
          · -- t 120
            exact absurd h0 h113
          · -- f 116
            refine g_iconst (v := -1) dL_act_116 (by decide) ?_
            refine g_goto (tgt := 125) (by decide) dL_act_117 ?_
            refine g_istore (lv2 := [(7, _), (6, _), (5, _), (4, _), (3, _), (2, _), (0, _), (1, _)]) (by decide) rfl dL_act_125 ?_
            refine g_aload_n 6 rfl dL_act_127 ?_
            refine gv_Vz (k_settled hI86 ) l_L_127 rfl hI86.rc (Nat.le_of_ble_eq_true rfl) (Nat.le_of_ble_eq_true rfl) rfl dL_act_128 ?_
            refine g_istore (lv2 := [(8, _), (7, _), (6, _), (5, _), (4, _), (3, _), (2, _), (0, _), (1, _)]) (by decide) rfl dL_act_131 ?_
            refine g_aload_n 7 rfl dL_act_133 ?_
            refine gv_Vz (k_evictions hI86 ) l_L_118 rfl hI86.rc (Nat.le_of_ble_eq_true rfl) (Nat.le_of_ble_eq_true rfl) rfl dL_act_134 ?_
            refine g_istore (lv2 := [(9, _), (8, _), (7, _), (6, _), (5, _), (4, _), (3, _), (2, _), (0, _), (1, _)]) (by decide) rfl dL_act_137 ?_
            refine g_aload_n 8 rfl dL_act_139 ?_
            refine g_iload 4 rfl dL_act_140 ?_
            refine g_SHz (v_advanced (J := wI 0) hI86 ht5.1 (by omega) h8 hdy (by omega) (by omega)) l_L_244 rfl (Nat.le_of_ble_eq_true rfl) (Nat.le_of_ble_eq_true rfl) rfl dL_act_142 (fun _ _ _ z => by obtain ⟨c2, a1, a2, a3⟩ := z; exact ⟨_, a2⟩) (fun x142 E142 n142 z142 => ?_)
            obtain ⟨c2, a1, a2, a0, a3, a4, a5, hI142⟩ := z142
            have e9142 := (Value.int.inj (Option.some.inj a2)).symm
            subst e9142
            have e3142 := a0.symm
            subst e3142
            refine g_istore (lv2 := [(10, _), (9, _), (8, _), (7, _), (6, _), (5, _), (4, _), (3, _), (2, _), (0, _), (1, _)]) (by decide) rfl dL_act_145 ?_
            refine g_iload_n 8 rfl dL_act_147 ?_
            refine g_if_le (tgt := 167) (by decide) dL_act_148 (fun h148 => ?_) (fun h148 => ?_)
            · -- t 167
              refine gn_ic 0 (by decide) dL_act_167 ?_
              refine g_istore (lv2 := [(11, _), (10, _), (9, _), (8, _), (7, _), (6, _), (5, _), (4, _), (3, _), (2, _), (0, _), (1, _)]) (by decide) rfl dL_act_168 ?_
              refine g_aload_n 10 rfl dL_act_170 ?_
              refine gv_Vz (k_evictions hI142 ) l_L_118 rfl hI142.rc (Nat.le_of_ble_eq_true rfl) (Nat.le_of_ble_eq_true rfl) rfl dL_act_171 ?_
              refine g_iload 2 rfl dL_act_174 ?_
              refine g_iload 1 rfl dL_act_176 ?_
              refine g_iadd dL_act_178 ?_
              refine g_icmp_ne (tgt := 249) (by decide) dL_act_179 (fun h179 => ?_) (fun h179 => ?_)
              · -- t 249
                exact absurd a4 h179
              · -- f 182
                refine g_aload_n 10 rfl dL_act_182 ?_
                refine gv_Vz (k_lodgerCount hI142 ) l_L_133 rfl hI142.rc (Nat.le_of_ble_eq_true rfl) (Nat.le_of_ble_eq_true rfl) rfl dL_act_183 ?_
                refine g_iload_n 9 rfl dL_act_186 ?_
                refine g_iload 1 rfl dL_act_187 ?_
                refine gn_isub (by omega) dL_act_189 ?_
                refine gn_icmp_ne (by omega) (by omega) (tgt := 249) (by decide) dL_act_190 (fun cc3 => ?_) (fun cc3 => ?_)
                · -- t 249
                  exfalso; omega
                · -- f 193
                  refine g_iload_n 9 rfl dL_act_193 ?_
                  refine gn_if_eq (by omega) (tgt := 217) (by decide) dL_act_194 (fun h194 => ?_) (fun h194 => ?_)
                  · -- t 217
                    refine g_iload 0 rfl dL_act_217 ?_
                    refine gn_if_ne (by omega) (tgt := 231) (by decide) dL_act_219 (fun cc4 => ?_) (fun cc4 => ?_)
                    · -- t 231
                      exact absurd cc4 (by decide)
                    · -- f 222
                      refine g_iload_n 9 rfl dL_act_222 ?_
                      refine gn_if_eq (by omega) (tgt := 231) (by decide) dL_act_223 (fun h223 => ?_) (fun h223 => ?_)
                      · -- t 231
                        refine g_iload 1 rfl dL_act_231 ?_
                        refine g_if_gt (tgt := 245) (by decide) dL_act_233 (fun h233 => ?_) (fun h233 => ?_)
                        · -- t 245
                          refine gn_ic 1 (by decide) dL_act_245 ?_
                          refine g_goto (tgt := 250) (by decide) dL_act_246 ?_
                          exact g_iret ⟨rfl, by omega, _, _, _, _, hI142.le (by omega) (by omega)⟩ rfl rfl dL_act_250
                        · -- f 236
                          have hz233 := ngt h233 (by omega)
                          refine g_aload_n 10 rfl dL_act_236 ?_
                          refine gv_Vz (k_settled hI142 ) l_L_127 rfl hI142.rc (Nat.le_of_ble_eq_true rfl) (Nat.le_of_ble_eq_true rfl) rfl dL_act_237 ?_
                          refine g_iload 3 rfl dL_act_240 ?_
                          refine g_icmp_ne (tgt := 249) (by decide) dL_act_242 (fun h242 => ?_) (fun h242 => ?_)
                          · -- t 249
                            exact absurd (a5 (by omega)).2 h242
                          · -- f 245
                            refine gn_ic 1 (by decide) dL_act_245 ?_
                            refine g_goto (tgt := 250) (by decide) dL_act_246 ?_
                            exact g_iret ⟨rfl, by omega, _, _, _, _, hI142.le (by omega) (by omega)⟩ rfl rfl dL_act_250
                      · -- f 226
                        exact absurd h0 h223
                  · -- f 197
                    exact absurd h0 h194
            · -- f 151
              exact absurd (show nI c ≤ 0 by rw [h0]; decide) h148
      · rw [e42]
        refine g_tswIn (off := 209) (tgt := 251) dL_act_42 (by decide) (by decide) (by decide +kernel) (by decide) ?_
        refine g_aload_n 4 rfl dL_act_251 ?_
        refine g_next hI36 l_L_84 (Nat.le_of_ble_eq_true rfl) (Nat.le_of_ble_eq_true rfl) dL_act_252 (fun m252 E252 hm252 hI252 => ?_)
        refine gn_ic 5 (by decide) dL_act_255 ?_
        refine gn_irem (by omega) (by decide) (by decide) dL_act_256 ?_
        obtain ⟨φ, hφ, eφ⟩ : ∃ t, t < 5 ∧ m252 % 5 = t := ⟨_, by omega, rfl⟩
        rw [eφ]
        refine g_istore (lv2 := [(12, _), (4, _), (3, _), (2, _), (0, _), (1, _)]) (by decide) rfl dL_act_257 ?_
        refine g_iload_n 3 rfl dL_act_259 ?_
        refine gn_bp 12 (by decide) dL_act_260 ?_
        refine gn_icmp_ge (by omega) (by omega) (tgt := 279) (by decide) dL_act_262 (fun h262 => ?_) (fun h262 => ?_)
        · -- t 279
          exfalso; omega
        · -- f 265
          refine g_aload_n 4 rfl dL_act_265 ?_
          refine g_iload 0 rfl dL_act_266 ?_
          refine gv_Vz (k_lodgersOn hI252 hφ) l_L_167 rfl hI252.rc (Nat.le_of_ble_eq_true rfl) (Nat.le_of_ble_eq_true rfl) rfl dL_act_268 ?_
          have hlq := hle (nI φ)
          refine gn_ic 4 (by decide) dL_act_271 ?_
          refine gn_icmp_ge (by omega) (by omega) (tgt := 279) (by decide) dL_act_272 (fun h272 => ?_) (fun h272 => ?_)
          · -- t 279
            refine gn_ic 0 (by decide) dL_act_279 ?_
            refine g_istore (lv2 := [(13, _), (12, _), (4, _), (3, _), (2, _), (0, _), (1, _)]) (by decide) rfl dL_act_280 ?_
            refine g_aload_n 6 rfl dL_act_282 ?_
            refine g_next hI252 l_L_84 (Nat.le_of_ble_eq_true rfl) (Nat.le_of_ble_eq_true rfl) dL_act_283 (fun m283 E283 hm283 hI283 => ?_)
            refine gn_ldc (a := 100000) (wl_6 150 rfl rfl) dL_act_286 ?_
            refine gn_irem (by omega) (by decide) (by decide) dL_act_288 ?_
            obtain ⟨a, ha, ea⟩ : ∃ t, t ≤ 99999 ∧ m283 % 100000 = t := ⟨_, by omega, rfl⟩
            rw [ea]
            refine g_istore (lv2 := [(14, _), (13, _), (12, _), (4, _), (3, _), (2, _), (0, _), (1, _)]) (by decide) rfl dL_act_289 ?_
            refine g_aload_n 6 rfl dL_act_291 ?_
            refine g_iload 2 rfl dL_act_292 ?_
            refine gn_bp 7 (by decide) dL_act_294 ?_
            refine g_iload 0 rfl dL_act_296 ?_
            refine G.mono (kc2 := 0 + 1) (ks2 := 0 + 6) (by omega) (by omega) ?_
            refine g_SHi (v_movedIn_noS hI283 hφ (by decide) ha (by omega) (by rw [cntA_on c (by omega)]; exact h272)) l_L_249 rfl (Nat.le_of_ble_eq_true rfl) (Nat.le_of_ble_eq_true rfl) rfl dL_act_298 (fun _ _ _ z => ⟨_, z.1⟩) (fun x298 E298 n298 z298 => ?_)
            obtain ⟨e298, e2298, e3298⟩ := z298
            have e9298 := (Value.int.inj (Option.some.inj e298)).symm
            subst e9298
            have e4298 := e2298.symm
            subst e4298
            have hI298 := hI283.up e3298
            refine g_istore (lv2 := [(15, _), (14, _), (13, _), (12, _), (4, _), (3, _), (2, _), (0, _), (1, _)]) (by decide) rfl dL_act_301 ?_
            refine g_iload 2 rfl dL_act_303 ?_
            refine gn_if_eq (by omega) (tgt := 373) (by decide) dL_act_305 (fun cc5 => ?_) (fun cc5 => ?_)
            · -- t 373
              refine g_iload 0 rfl dL_act_373 ?_
              refine g_bipush (v := -3) dL_act_375 (by decide) ?_
              refine g_icmp_ne (tgt := 392) (by decide) dL_act_377 (fun h377 => ?_) (fun h377 => ?_)
              · -- t 392
                exact absurd rfl h377
              · -- f 380
                refine g_aload_n 7 rfl dL_act_380 ?_
                refine gn_ic 3 (by decide) dL_act_381 ?_
                refine g_SHz (v_rents hI298 (by decide)) l_L_253 rfl (Nat.le_of_ble_eq_true rfl) (Nat.le_of_ble_eq_true rfl) rfl dL_act_382 (fun _ _ _ z => ⟨_, z.1⟩) (fun x382 E382 n382 z382 => ?_)
                obtain ⟨e382, e2382, hI382⟩ := z382
                have e9382 := (Value.int.inj (Option.some.inj e382)).symm
                subst e9382
                have e6382 := e2382.symm
                subst e6382
                refine g_if_lt (tgt := 392) (by decide) dL_act_385 (fun h385 => ?_) (fun h385 => ?_)
                · -- t 392
                  exact absurd h385 hr0
                · -- f 388
                  refine gn_ic 1 (by decide) dL_act_388 ?_
                  refine g_goto (tgt := 393) (by decide) dL_act_389 ?_
                  exact g_iret ⟨rfl, by omega, _, _, _, _, hI382.le (by omega) (by omega)⟩ rfl rfl dL_act_393
            · -- f 308
              exact absurd cc5 (by decide)
          · -- f 275
            refine gn_ic 1 (by decide) dL_act_275 ?_
            refine g_goto (tgt := 280) (by decide) dL_act_276 ?_
            refine g_istore (lv2 := [(13, _), (12, _), (4, _), (3, _), (2, _), (0, _), (1, _)]) (by decide) rfl dL_act_280 ?_
            refine g_aload_n 6 rfl dL_act_282 ?_
            refine g_next hI252 l_L_84 (Nat.le_of_ble_eq_true rfl) (Nat.le_of_ble_eq_true rfl) dL_act_283 (fun m283 E283 hm283 hI283 => ?_)
            refine gn_ldc (a := 100000) (wl_6 150 rfl rfl) dL_act_286 ?_
            refine gn_irem (by omega) (by decide) (by decide) dL_act_288 ?_
            obtain ⟨a, ha, ea⟩ : ∃ t, t ≤ 99999 ∧ m283 % 100000 = t := ⟨_, by omega, rfl⟩
            rw [ea]
            refine g_istore (lv2 := [(14, _), (13, _), (12, _), (4, _), (3, _), (2, _), (0, _), (1, _)]) (by decide) rfl dL_act_289 ?_
            refine g_aload_n 6 rfl dL_act_291 ?_
            refine g_iload 2 rfl dL_act_292 ?_
            refine gn_bp 7 (by decide) dL_act_294 ?_
            refine g_iload 0 rfl dL_act_296 ?_
            refine G.mono (kc2 := 0 + 2) (ks2 := 0 + 44) (by omega) (by omega) ?_
            refine g_SHi (v_movedIn hI283 hφ (by decide) ha (by omega) (by rw [cntA_on c (by omega)]; omega) (by omega) (by omega)) l_L_249 rfl (Nat.le_of_ble_eq_true rfl) (Nat.le_of_ble_eq_true rfl) rfl dL_act_298 (fun _ _ _ z => ⟨_, z.1⟩) (fun x298 E298 n298 z298 => ?_)
            obtain ⟨e298, e2298, hI298⟩ := z298
            have e9298 := (Value.int.inj (Option.some.inj e298)).symm
            subst e9298
            have e6298 := e2298.symm
            subst e6298
            refine g_istore (lv2 := [(15, _), (14, _), (13, _), (12, _), (4, _), (3, _), (2, _), (0, _), (1, _)]) (by decide) rfl dL_act_301 ?_
            refine g_iload 2 rfl dL_act_303 ?_
            refine gn_if_eq (by omega) (tgt := 373) (by decide) dL_act_305 (fun cc6 => ?_) (fun cc6 => ?_)
            · -- t 373
              exact absurd cc6 (by decide)
            · -- f 308
              refine g_iload 0 rfl dL_act_308 ?_
              refine g_iload_n 6 rfl dL_act_310 ?_
              refine gn_icmp_ne (by omega) (by omega) (tgt := 369) (by decide) dL_act_311 (fun cc7 => ?_) (fun cc7 => ?_)
              · -- t 369
                exfalso; omega
              · -- f 314
                refine g_aload_n 7 rfl dL_act_314 ?_
                refine g_iload 0 rfl dL_act_315 ?_
                refine gn_ic 4 (by decide) dL_act_317 ?_
                refine gv_Vz (k_vowelOf hI298 (by omega) (by decide)) l_L_154 rfl hI298.rc (Nat.le_of_ble_eq_true rfl) (Nat.le_of_ble_eq_true rfl) rfl dL_act_318 ?_
                refine g_iload 1 rfl dL_act_321 ?_
                refine gn_bp 10 (by decide) dL_act_323 ?_
                refine gn_irem (by omega) (by decide) (by decide) dL_act_325 ?_
                refine g_icmp_ne (tgt := 369) (by decide) dL_act_326 (fun h326 => ?_) (fun h326 => ?_)
                · -- t 369
                  exact absurd newc_4 h326
                · -- f 329
                  refine g_aload_n 7 rfl dL_act_329 ?_
                  refine g_iload 0 rfl dL_act_330 ?_
                  refine gn_ic 0 (by decide) dL_act_332 ?_
                  refine gv_Vz (k_vowelOf hI298 (by omega) (by decide)) l_L_154 rfl hI298.rc (Nat.le_of_ble_eq_true rfl) (Nat.le_of_ble_eq_true rfl) rfl dL_act_333 ?_
                  refine g_iload 1 rfl dL_act_336 ?_
                  refine gn_sp 10000 (by decide) dL_act_338 ?_
                  refine gn_idiv (by omega) (by decide) (by decide) dL_act_341 ?_
                  refine g_icmp_ne (tgt := 369) (by decide) dL_act_342 (fun h342 => ?_) (fun h342 => ?_)
                  · -- t 369
                    exact absurd (newc_0 ha) h342
                  · -- f 345
                    refine g_aload_n 7 rfl dL_act_345 ?_
                    refine g_iload 0 rfl dL_act_346 ?_
                    refine gv_Vz (k_balanceOf hI298 (by omega)) l_L_139 rfl hI298.rc (Nat.le_of_ble_eq_true rfl) (Nat.le_of_ble_eq_true rfl) rfl dL_act_348 ?_
                    refine gn_bp 7 (by decide) dL_act_351 ?_
                    refine g_icmp_ne (tgt := 369) (by decide) dL_act_353 (fun h353 => ?_) (fun h353 => ?_)
                    · -- t 369
                      exact absurd newc_1 h353
                    · -- f 356
                      refine g_aload_n 7 rfl dL_act_356 ?_
                      refine g_iload 0 rfl dL_act_357 ?_
                      refine gv_Vz (k_daysStayed hI298 (by omega)) l_L_148 rfl hI298.rc (Nat.le_of_ble_eq_true rfl) (Nat.le_of_ble_eq_true rfl) rfl dL_act_359 ?_
                      refine g_if_ne (tgt := 369) (by decide) dL_act_362 (fun h362 => ?_) (fun h362 => ?_)
                      · -- t 369
                        exact absurd newc_d h362
                      · -- f 365
                        refine gn_ic 1 (by decide) dL_act_365 ?_
                        refine g_goto (tgt := 393) (by decide) dL_act_366 ?_
                        exact g_iret ⟨rfl, by omega, _, _, _, _, hI298.le (by omega) (by omega)⟩ rfl rfl dL_act_393
      · rw [e42]
        refine g_tswIn (off := 352) (tgt := 394) dL_act_42 (by decide) (by decide) (by decide +kernel) (by decide) ?_
        refine g_aload_n 3 rfl dL_act_394 ?_
        refine g_iload_n 1 rfl dL_act_395 ?_
        refine G.mono (kc2 := 0 + 1) (ks2 := 0 + 6) (by omega) (by omega) ?_
        refine g_SHi (v_movedOut_no hI36 (by subst h0; decide)) l_L_256 rfl (Nat.le_of_ble_eq_true rfl) (Nat.le_of_ble_eq_true rfl) rfl dL_act_396 (fun _ _ _ z => ⟨_, z.1⟩) (fun x396 E396 n396 z396 => ?_)
        obtain ⟨e396, e2396, e3396⟩ := z396
        have e9396 := (Value.int.inj (Option.some.inj e396)).symm
        subst e9396
        have e4396 := e2396.symm
        subst e4396
        have hI396 := hI36.up e3396
        refine g_istore (lv2 := [(16, _), (4, _), (3, _), (2, _), (0, _), (1, _)]) (by decide) rfl dL_act_399 ?_
        refine g_iload_n 3 rfl dL_act_401 ?_
        refine gn_if_ne (by omega) (tgt := 429) (by decide) dL_act_402 (fun h402 => ?_) (fun h402 => ?_)
        · -- t 429
          exact absurd h0 h402
        · -- f 405
          refine g_iload 0 rfl dL_act_405 ?_
          refine gn_sp 9999 (by decide) dL_act_407 ?_
          refine g_icmp_ne (tgt := 425) (by decide) dL_act_410 (fun h410 => ?_) (fun h410 => ?_)
          · -- t 425
            exact absurd (by decide) h410
          · -- f 413
            refine g_aload_n 4 rfl dL_act_413 ?_
            refine gn_ic 4 (by decide) dL_act_414 ?_
            refine g_SHz (v_rents hI396 (by decide)) l_L_253 rfl (Nat.le_of_ble_eq_true rfl) (Nat.le_of_ble_eq_true rfl) rfl dL_act_415 (fun _ _ _ z => ⟨_, z.1⟩) (fun x415 E415 n415 z415 => ?_)
            obtain ⟨e415, e2415, hI415⟩ := z415
            have e9415 := (Value.int.inj (Option.some.inj e415)).symm
            subst e9415
            have e6415 := e2415.symm
            subst e6415
            refine g_if_lt (tgt := 425) (by decide) dL_act_418 (fun h418 => ?_) (fun h418 => ?_)
            · -- t 425
              exact absurd h418 hr0
            · -- f 421
              refine gn_ic 1 (by decide) dL_act_421 ?_
              refine g_goto (tgt := 451) (by decide) dL_act_422 ?_
              exact g_iret ⟨rfl, by omega, _, _, _, _, hI415.le (by omega) (by omega)⟩ rfl rfl dL_act_451
      · rw [e42]
        refine g_tswIn (off := 410) (tgt := 452) dL_act_42 (by decide) (by decide) (by decide +kernel) (by decide) ?_
        refine g_aload_n 4 rfl dL_act_452 ?_
        refine g_next hI36 l_L_84 (Nat.le_of_ble_eq_true rfl) (Nat.le_of_ble_eq_true rfl) dL_act_453 (fun m453 E453 hm453 hI453 => ?_)
        refine gn_ic 5 (by decide) dL_act_456 ?_
        refine gn_irem (by omega) (by decide) (by decide) dL_act_457 ?_
        obtain ⟨φ, hφ, eφ⟩ : ∃ t, t < 5 ∧ m453 % 5 = t := ⟨_, by omega, rfl⟩
        rw [eφ]
        refine g_istore (lv2 := [(17, _), (4, _), (3, _), (2, _), (0, _), (1, _)]) (by decide) rfl dL_act_458 ?_
        refine g_iload_n 3 rfl dL_act_460 ?_
        refine gn_if_ne (by omega) (tgt := 468) (by decide) dL_act_461 (fun h461 => ?_) (fun h461 => ?_)
        · -- t 468
          exact absurd h0 h461
        · -- f 464
          refine gn_ic 0 (by decide) dL_act_464 ?_
          refine g_goto (tgt := 473) (by decide) dL_act_465 ?_
          refine g_istore (lv2 := [(18, _), (17, _), (4, _), (3, _), (2, _), (0, _), (1, _)]) (by decide) rfl dL_act_473 ?_
          refine g_iload_n 4 rfl dL_act_475 ?_
          refine g_if_le (tgt := 500) (by decide) dL_act_476 (fun h476 => ?_) (fun h476 => ?_)
          · -- t 500
            refine gn_ic 0 (by decide) dL_act_500 ?_
            refine g_istore (lv2 := [(19, _), (18, _), (17, _), (4, _), (3, _), (2, _), (0, _), (1, _)]) (by decide) rfl dL_act_501 ?_
            refine g_aload_n 6 rfl dL_act_503 ?_
            refine g_iload_n 4 rfl dL_act_504 ?_
            refine g_iload 2 rfl dL_act_505 ?_
            refine G.mono (kc2 := 0 + 1) (ks2 := 0 + 6) (by omega) (by omega) ?_
            refine g_SHi (v_movedTo_noL hI453 (by subst h0; decide)) l_L_259 rfl (Nat.le_of_ble_eq_true rfl) (Nat.le_of_ble_eq_true rfl) rfl dL_act_507 (fun _ _ _ z => ⟨_, z.1⟩) (fun x507 E507 n507 z507 => ?_)
            obtain ⟨e507, e2507, e3507⟩ := z507
            have e9507 := (Value.int.inj (Option.some.inj e507)).symm
            subst e9507
            have e4507 := e2507.symm
            subst e4507
            have hI507 := hI453.up e3507
            refine g_istore (lv2 := [(20, _), (19, _), (18, _), (17, _), (4, _), (3, _), (2, _), (0, _), (1, _)]) (by decide) rfl dL_act_510 ?_
            refine g_iload 1 rfl dL_act_512 ?_
            refine gn_if_eq (by omega) (tgt := 542) (by decide) dL_act_514 (fun cc8 => ?_) (fun cc8 => ?_)
            · -- t 542
              refine g_iload 0 rfl dL_act_542 ?_
              refine g_bipush (v := -2) dL_act_544 (by decide) ?_
              refine g_icmp_ge (tgt := 561) (by decide) dL_act_546 (fun h546 => ?_) (fun h546 => ?_)
              · -- t 561
                exact absurd h546 (by decide)
              · -- f 549
                refine g_aload_n 7 rfl dL_act_549 ?_
                refine gn_ic 5 (by decide) dL_act_550 ?_
                refine g_SHz (v_rents hI507 (by decide)) l_L_253 rfl (Nat.le_of_ble_eq_true rfl) (Nat.le_of_ble_eq_true rfl) rfl dL_act_551 (fun _ _ _ z => ⟨_, z.1⟩) (fun x551 E551 n551 z551 => ?_)
                obtain ⟨e551, e2551, hI551⟩ := z551
                have e9551 := (Value.int.inj (Option.some.inj e551)).symm
                subst e9551
                have e6551 := e2551.symm
                subst e6551
                refine g_if_lt (tgt := 561) (by decide) dL_act_554 (fun h554 => ?_) (fun h554 => ?_)
                · -- t 561
                  exact absurd h554 hr0
                · -- f 557
                  refine gn_ic 1 (by decide) dL_act_557 ?_
                  refine g_goto (tgt := 562) (by decide) dL_act_558 ?_
                  exact g_iret ⟨rfl, by omega, _, _, _, _, hI551.le (by omega) (by omega)⟩ rfl rfl dL_act_562
            · -- f 517
              exact absurd cc8 (by decide)
          · -- f 479
            exact absurd (show nI c ≤ 0 by rw [h0]; decide) h476
      · rw [e42]
        refine g_tswIn (off := 521) (tgt := 563) dL_act_42 (by decide) (by decide) (by decide +kernel) (by decide) ?_
        refine gn_ic 1 (by decide) dL_act_563 ?_
        refine g_aload_n 4 rfl dL_act_564 ?_
        refine g_next hI36 l_L_84 (Nat.le_of_ble_eq_true rfl) (Nat.le_of_ble_eq_true rfl) dL_act_565 (fun m565 E565 hm565 hI565 => ?_)
        refine gn_sp 300 (by decide) dL_act_568 ?_
        refine gn_irem (by omega) (by decide) (by decide) dL_act_571 ?_
        refine gn_iadd dL_act_572 ?_
        obtain ⟨t5, ht5, et5⟩ : ∃ t, (1 ≤ t ∧ t ≤ 300) ∧ 1 + m565 % 300 = t := ⟨_, by omega, rfl⟩
        rw [et5]
        refine g_istore (lv2 := [(21, _), (4, _), (3, _), (2, _), (0, _), (1, _)]) (by decide) rfl dL_act_573 ?_
        refine g_aload_n 4 rfl dL_act_575 ?_
        refine g_iload_n 2 rfl dL_act_576 ?_
        refine g_iload 0 rfl dL_act_577 ?_
        refine G.mono (kc2 := 0 + 1) (ks2 := 0 + 6) (by omega) (by omega) ?_
        refine g_SHi (v_paid_noL hI565 (by subst h0; decide)) l_L_237 rfl (Nat.le_of_ble_eq_true rfl) (Nat.le_of_ble_eq_true rfl) rfl dL_act_579 (fun _ _ _ z => ⟨_, z.1⟩) (fun x579 E579 n579 z579 => ?_)
        obtain ⟨e579, e2579, e3579⟩ := z579
        have e9579 := (Value.int.inj (Option.some.inj e579)).symm
        subst e9579
        have e4579 := e2579.symm
        subst e4579
        have hI579 := hI565.up e3579
        refine g_istore (lv2 := [(22, _), (21, _), (4, _), (3, _), (2, _), (0, _), (1, _)]) (by decide) rfl dL_act_582 ?_
        refine g_iload_n 4 rfl dL_act_584 ?_
        refine gn_if_ne (by omega) (tgt := 612) (by decide) dL_act_585 (fun h585 => ?_) (fun h585 => ?_)
        · -- t 612
          exact absurd h0 h585
        · -- f 588
          refine g_iload 0 rfl dL_act_588 ?_
          refine g_ldcI (v := -99995) (wl_5 132 rfl rfl) dL_act_590 ?_
          refine g_icmp_ne (tgt := 608) (by decide) dL_act_592 (fun h592 => ?_) (fun h592 => ?_)
          · -- t 608
            exact absurd rfl h592
          · -- f 595
            refine g_aload_n 5 rfl dL_act_595 ?_
            refine gn_bp 6 (by decide) dL_act_596 ?_
            refine g_SHz (v_rents hI579 (by decide)) l_L_253 rfl (Nat.le_of_ble_eq_true rfl) (Nat.le_of_ble_eq_true rfl) rfl dL_act_598 (fun _ _ _ z => ⟨_, z.1⟩) (fun x598 E598 n598 z598 => ?_)
            obtain ⟨e598, e2598, hI598⟩ := z598
            have e9598 := (Value.int.inj (Option.some.inj e598)).symm
            subst e9598
            have e6598 := e2598.symm
            subst e6598
            refine g_if_lt (tgt := 608) (by decide) dL_act_601 (fun h601 => ?_) (fun h601 => ?_)
            · -- t 608
              exact absurd h601 hr0
            · -- f 604
              refine gn_ic 1 (by decide) dL_act_604 ?_
              refine g_goto (tgt := 637) (by decide) dL_act_605 ?_
              exact g_iret ⟨rfl, by omega, _, _, _, _, hI598.le (by omega) (by omega)⟩ rfl rfl dL_act_637
      · rw [e42]
        refine g_tswIn (off := 596) (tgt := 638) dL_act_42 (by decide) (by decide) (by decide +kernel) (by decide) ?_
        refine g_aload_n 4 rfl dL_act_638 ?_
        refine g_next hI36 l_L_84 (Nat.le_of_ble_eq_true rfl) (Nat.le_of_ble_eq_true rfl) dL_act_639 (fun m639 E639 hm639 hI639 => ?_)
        refine gn_ic 5 (by decide) dL_act_642 ?_
        refine gn_irem (by omega) (by decide) (by decide) dL_act_643 ?_
        obtain ⟨v, hv, ev⟩ : ∃ t, t < 5 ∧ m639 % 5 = t := ⟨_, by omega, rfl⟩
        rw [ev]
        refine g_istore (lv2 := [(23, _), (4, _), (3, _), (2, _), (0, _), (1, _)]) (by decide) rfl dL_act_644 ?_
        refine g_aload_n 4 rfl dL_act_646 ?_
        refine g_iload 0 rfl dL_act_647 ?_
        refine gv_Vz (k_landladyVowel hI639 hv) l_L_130 rfl hI639.rc (Nat.le_of_ble_eq_true rfl) (Nat.le_of_ble_eq_true rfl) rfl dL_act_649 ?_
        refine g_istore (lv2 := [(24, _), (23, _), (4, _), (3, _), (2, _), (0, _), (1, _)]) (by decide) rfl dL_act_652 ?_
        refine g_aload_n 6 rfl dL_act_654 ?_
        refine g_next hI639 l_L_84 (Nat.le_of_ble_eq_true rfl) (Nat.le_of_ble_eq_true rfl) dL_act_655 (fun m655 E655 hm655 hI655 => ?_)
        refine gn_bp 10 (by decide) dL_act_658 ?_
        refine gn_irem (by omega) (by decide) (by decide) dL_act_660 ?_
        obtain ⟨p, hp, ep⟩ : ∃ t, t ≤ 9 ∧ m655 % 10 = t := ⟨_, by omega, rfl⟩
        rw [ep]
        refine g_istore (lv2 := [(25, _), (24, _), (23, _), (4, _), (3, _), (2, _), (0, _), (1, _)]) (by decide) rfl dL_act_661 ?_
        refine g_aload_n 6 rfl dL_act_663 ?_
        refine g_iload 2 rfl dL_act_664 ?_
        refine g_iload 0 rfl dL_act_666 ?_
        refine g_SHz (v_spoke hI655 hv hp) l_L_262 rfl (Nat.le_of_ble_eq_true rfl) (Nat.le_of_ble_eq_true rfl) rfl dL_act_668 (fun _ _ _ z => ⟨_, z.1⟩) (fun x668 E668 n668 z668 => ?_)
        obtain ⟨e668, e2668, hI668⟩ := z668
        have e9668 := (Value.int.inj (Option.some.inj e668)).symm
        subst e9668
        have e6668 := e2668.symm
        subst e6668
        refine g_iload 1 rfl dL_act_671 ?_
        refine g_icmp_ne (tgt := 691) (by decide) dL_act_673 (fun h673 => ?_) (fun h673 => ?_)
        · -- t 691
          exact absurd rfl h673
        · -- f 676
          refine g_aload_n 6 rfl dL_act_676 ?_
          refine g_iload 2 rfl dL_act_677 ?_
          refine gv_Vz (k_landladyVowel hI668 hv) l_L_130 rfl hI668.rc (Nat.le_of_ble_eq_true rfl) (Nat.le_of_ble_eq_true rfl) rfl dL_act_679 ?_
          refine g_iload 0 rfl dL_act_682 ?_
          refine g_icmp_ne (tgt := 691) (by decide) dL_act_684 (fun h684 => ?_) (fun h684 => ?_)
          · -- t 691
            exact absurd pk_us h684
          · -- f 687
            refine gn_ic 1 (by decide) dL_act_687 ?_
            refine g_goto (tgt := 692) (by decide) dL_act_688 ?_
            exact g_iret ⟨rfl, by omega, _, _, _, _, hI668.le (by omega) (by omega)⟩ rfl rfl dL_act_692
      · rw [e42]
        refine g_tswOut (tgt := 693) dL_act_42 (Or.inr (by decide)) (by decide) ?_
        refine g_aload_n 3 rfl dL_act_693 ?_
        refine gv_Vz (k_tolerance hI36 ) l_L_115 rfl hI36.rc (Nat.le_of_ble_eq_true rfl) (Nat.le_of_ble_eq_true rfl) rfl dL_act_694 ?_
        refine g_istore (lv2 := [(26, _), (4, _), (3, _), (2, _), (0, _), (1, _)]) (by decide) rfl dL_act_697 ?_
        refine g_aload_n 5 rfl dL_act_699 ?_
        refine g_next hI36 l_L_84 (Nat.le_of_ble_eq_true rfl) (Nat.le_of_ble_eq_true rfl) dL_act_700 (fun m700 E700 hm700 hI700 => ?_)
        refine gn_bp 46 (by decide) dL_act_703 ?_
        refine gn_irem (by omega) (by decide) (by decide) dL_act_705 ?_
        obtain ⟨p, hp, ep⟩ : ∃ t, t ≤ 45 ∧ m700 % 46 = t := ⟨_, by omega, rfl⟩
        rw [ep]
        refine g_istore (lv2 := [(27, _), (26, _), (4, _), (3, _), (2, _), (0, _), (1, _)]) (by decide) rfl dL_act_706 ?_
        refine g_aload_n 5 rfl dL_act_708 ?_
        refine g_iload 0 rfl dL_act_709 ?_
        refine g_SHz (v_tolerates hI700 hp) l_L_265 rfl (Nat.le_of_ble_eq_true rfl) (Nat.le_of_ble_eq_true rfl) rfl dL_act_711 (fun _ _ _ z => ⟨_, z.1⟩) (fun x711 E711 n711 z711 => ?_)
        obtain ⟨e711, e2711, hI711⟩ := z711
        have e9711 := (Value.int.inj (Option.some.inj e711)).symm
        subst e9711
        have e6711 := e2711.symm
        subst e6711
        refine g_iload 1 rfl dL_act_714 ?_
        refine g_icmp_ne (tgt := 732) (by decide) dL_act_716 (fun h716 => ?_) (fun h716 => ?_)
        · -- t 732
          exact absurd rfl h716
        · -- f 719
          refine g_aload_n 5 rfl dL_act_719 ?_
          refine gv_Vz (k_tolerance hI711 ) l_L_115 rfl hI711.rc (Nat.le_of_ble_eq_true rfl) (Nat.le_of_ble_eq_true rfl) rfl dL_act_720 ?_
          refine g_iload 0 rfl dL_act_723 ?_
          refine g_icmp_ne (tgt := 732) (by decide) dL_act_725 (fun h725 => ?_) (fun h725 => ?_)
          · -- t 732
            exact absurd pk_us h725
          · -- f 728
            refine gn_ic 1 (by decide) dL_act_728 ?_
            refine g_goto (tgt := 733) (by decide) dL_act_729 ?_
            exact g_iret ⟨rfl, by omega, _, _, _, _, hI711.le (by omega) (by omega)⟩ rfl rfl dL_act_733
theorem c_L_act {Γ : Gm} {n : Nat} {E : Hp} {ab ra B D s0 c kp : Nat} {g0 f : Nat → Int32} {top : Option (Nat → Int32)} (hI : IW Γ ab ra B D s0 g0 f c kp top E n) (hD : D + 9 ≤ 9999) (hB7 : 7 ≤ B) (hB : B + 8000 < 2 ^ 31) : Ct Γ 14 ML_act 2 44 [.ref ab, .ref ra] E n (fun r E2 n2 => r = some (.int (nI 1)) ∧ n ≤ n2 ∧ ∃ f2 c2 kp2 top2, IW Γ ab ra (B + 7000) (D + 9) s0 g0 f2 c2 kp2 top2 E2 n2) X0 := by
  by_cases h0 : c = 0
  · exact c_L_act0 hI h0 hD hB7 hB
  · exact c_L_act1 hI h0 hD hB7 hB
end GQ8
