section GQ5
set_option maxRecDepth 100000 in
set_option maxHeartbeats 4000000 in
theorem c_L_floors {Γ : Gm} {n : Nat} {E : Hp} {ab ra B D s0 c kp : Nat} {g0 f : Nat → Int32} {top : Option (Nat → Int32)} (hI : IW Γ ab ra B D s0 g0 f c kp top E n) (hD : D ≤ 9999) : Ct Γ 14 ML_floors 30 180 [.ref ab] (E) n (fun r E2 n2 => r = some (.int (nI 1)) ∧ n ≤ n2 ∧ IW Γ ab ra B D s0 g0 f c kp top E2 n2) X0 := by
  refine Ct.of (by decide +kernel) rfl (Nat.le_of_ble_eq_true rfl) ?_
  have hc12 := hI.gd.2.1
  obtain ⟨dy, hdy, h8⟩ := hI.gd.2.2.2
  have hv := hI.val
  have hfl := hv.okr.2.2
  have h5 := cnt5_all c hfl
  have hle : ∀ fl, cntA f fl c ≤ 4 := hv.2.2.2.2
  refine G.sub (lv2 := [(0, _)]) [0] rfl ?_
  refine gn_ic 0 (by decide) dL_floors_0 ?_
  refine g_istore_n (lv2 := [(1, _), (0, _)]) (by decide) rfl dL_floors_1 ?_
  refine g_aload_n 1 rfl dL_floors_2 ?_
  refine gv_Vz (k_ledgerDifference hI ) l_L_161 rfl hI.rc (Nat.le_of_ble_eq_true rfl) (Nat.le_of_ble_eq_true rfl) rfl dL_floors_3 ?_
  refine gn_if_ne (by omega) (tgt := 30) (by decide) dL_floors_6 (fun cc1 => ?_) (fun cc1 => ?_)
  · -- t 30
    exact absurd cc1 (by decide)
  · -- f 9
    refine g_aload_n 1 rfl dL_floors_9 ?_
    refine gv_Vz (k_daysToInspection hI h8 (by omega)) l_L_164 rfl hI.rc (Nat.le_of_ble_eq_true rfl) (Nat.le_of_ble_eq_true rfl) rfl dL_floors_10 ?_
    refine gn_bp 7 (by decide) dL_floors_13 ?_
    refine g_aload_n 1 rfl dL_floors_15 ?_
    refine gv_Vz (k_day hI ) l_L_109 rfl hI.rc (Nat.le_of_ble_eq_true rfl) (Nat.le_of_ble_eq_true rfl) rfl dL_floors_16 ?_
    refine g_top (y := nI dy) h8 ?_
    refine gn_bp 7 (by decide) dL_floors_19 ?_
    refine gn_irem (by omega) (by decide) (by decide) dL_floors_21 ?_
    refine gn_isub (by omega) dL_floors_22 ?_
    refine gn_icmp_ne (by omega) (by omega) (tgt := 30) (by decide) dL_floors_23 (fun cc2 => ?_) (fun cc2 => ?_)
    · -- t 30
      exfalso; omega
    · -- f 26
      refine gn_ic 1 (by decide) dL_floors_26 ?_
      refine g_goto (tgt := 31) (by decide) dL_floors_27 ?_
      refine g_istore_n (lv2 := [(2, _), (1, _), (0, _)]) (by decide) rfl dL_floors_31 ?_
      refine gn_ic 0 (by decide) dL_floors_32 ?_
      refine g_istore_n (lv2 := [(3, _), (2, _), (1, _), (0, _)]) (by decide) rfl dL_floors_33 ?_
      have L34 : ∀ (m34 : Nat) (i34 n34 : Nat), (i34 + m34 = 5) → (n ≤ n34) → (IW Γ ab ra B D s0 g0 f c kp top E n34) → G Γ 14 ML_floors (fun r E2 n2 => r = some (.int (nI 1)) ∧ n ≤ n2 ∧ IW Γ ab ra B D s0 g0 f c kp top E2 n2) X0 34 [(0, .ref ab), (1, .int (nI (cnt5 f c i34))), (2, .int (nI 1)), (3, .int (nI i34))] [] (E) n34 (m34 * 6) (m34 * 36) := by
        intro m34
        induction m34 with
        | zero =>
          intro i34 n34 hi34 hn34 hI34
          refine g_iload_n 3 rfl dL_floors_34 ?_
          refine gn_ic 5 (by decide) dL_floors_35 ?_
          refine gn_icmp_ge (by omega) (by omega) (tgt := 262) (by decide) dL_floors_36 (fun cc3 => ?_) (fun cc3 => ?_)
          · -- t 262
            obtain rfl : i34 = 5 := by omega
            refine gn_ic 0 (by decide) dL_floors_262 ?_
            refine g_istore_n (lv2 := [(3, _), (0, _), (1, _), (2, _)]) (by decide) rfl dL_floors_263 ?_
            have L264 : ∀ (m264 : Nat) (i264 : Nat) (E264 : Hp), (i264 + m264 = c) → (IW Γ ab ra B D s0 g0 f c kp top E264 n34) → G Γ 14 ML_floors (fun r E2 n2 => r = some (.int (nI 1)) ∧ n ≤ n2 ∧ IW Γ ab ra B D s0 g0 f c kp top E2 n2) X0 264 [(0, .ref ab), (1, .int (nI (cnt5 f c 5))), (2, .int (nI 1)), (3, .int (nI i264))] [] (E264) n34 0 0 := by
              intro m264
              induction m264 with
              | zero =>
                intro i264 E264 hi264 hI264
                refine g_iload_n 3 rfl dL_floors_264 ?_
                refine g_aload_n 0 rfl dL_floors_265 ?_
                refine gv_Vz (k_lodgerCount hI264 ) l_L_133 rfl hI264.rc (Nat.le_of_ble_eq_true rfl) (Nat.le_of_ble_eq_true rfl) rfl dL_floors_266 ?_
                refine gn_icmp_ge (by omega) (by omega) (tgt := 382) (by decide) dL_floors_269 (fun cc4 => ?_) (fun cc4 => ?_)
                · -- t 382
                  obtain rfl : c = i264 := by omega
                  refine g_iload_n 2 rfl dL_floors_382 ?_
                  refine gn_if_eq (by omega) (tgt := 398) (by decide) dL_floors_383 (fun cc5 => ?_) (fun cc5 => ?_)
                  · -- t 398
                    exact absurd cc5 (by decide)
                  · -- f 386
                    refine g_iload_n 1 rfl dL_floors_386 ?_
                    refine g_aload_n 0 rfl dL_floors_387 ?_
                    refine gv_Vz (k_lodgerCount hI264 ) l_L_133 rfl hI264.rc (Nat.le_of_ble_eq_true rfl) (Nat.le_of_ble_eq_true rfl) rfl dL_floors_388 ?_
                    refine gn_icmp_ne (by omega) (by omega) (tgt := 398) (by decide) dL_floors_391 (fun cc6 => ?_) (fun cc6 => ?_)
                    · -- t 398
                      exfalso; omega
                    · -- f 394
                      refine gn_ic 1 (by decide) dL_floors_394 ?_
                      refine g_goto (tgt := 399) (by decide) dL_floors_395 ?_
                      exact g_iret ⟨rfl, hn34, hI264⟩ rfl rfl dL_floors_399
                · -- f 272
                  exfalso; omega
              | succ m264 ih264 =>
                intro i264 E264 hi264 hI264
                refine g_iload_n 3 rfl dL_floors_264 ?_
                refine g_aload_n 0 rfl dL_floors_265 ?_
                refine gv_Vz (k_lodgerCount hI264 ) l_L_133 rfl hI264.rc (Nat.le_of_ble_eq_true rfl) (Nat.le_of_ble_eq_true rfl) rfl dL_floors_266 ?_
                refine gn_icmp_ge (by omega) (by omega) (tgt := 382) (by decide) dL_floors_269 (fun cc7 => ?_) (fun cc7 => ?_)
                · -- t 382
                  exfalso; omega
                · -- f 272
                  refine g_iload_n 2 rfl dL_floors_272 ?_
                  refine gn_if_eq (by omega) (tgt := 382) (by decide) dL_floors_273 (fun cc8 => ?_) (fun cc8 => ?_)
                  · -- t 382
                    exact absurd cc8 (by decide)
                  · -- f 276
                    refine g_iconst (v := -1) dL_floors_276 (by decide) ?_
                    refine g_istore (lv2 := [(4, _), (0, _), (1, _), (2, _), (3, _)]) (by decide) rfl dL_floors_277 ?_
                    refine gn_ic 0 (by decide) dL_floors_279 ?_
                    refine g_istore (lv2 := [(5, _), (4, _), (0, _), (1, _), (2, _), (3, _)]) (by decide) rfl dL_floors_280 ?_
                    refine g_aload_n 2 rfl dL_floors_282 ?_
                    refine g_iload_n 5 rfl dL_floors_283 ?_
                    obtain ⟨φ284, hφ284, eφ284⟩ := hfl i264 (by omega)
                    have hl284 := hle (nI φ284)
                    refine gv_Vz (k_floorOf hI264 (by omega)) l_L_136 rfl hI264.rc (Nat.le_of_ble_eq_true rfl) (Nat.le_of_ble_eq_true rfl) rfl dL_floors_284 ?_
                    refine g_top (y := nI φ284) eφ284 ?_
                    refine g_istore (lv2 := [(6, _), (5, _), (4, _), (0, _), (1, _), (2, _), (3, _)]) (by decide) rfl dL_floors_287 ?_
                    by_cases hfk : cntA f (nI φ284) c ≤ 1
                    · skip
                      refine gn_ic 0 (by decide) dL_floors_289 ?_
                      refine g_istore (lv2 := [(7, _), (6, _), (5, _), (4, _), (0, _), (1, _), (2, _), (3, _)]) (by decide) rfl dL_floors_290 ?_
                      refine g_iload 0 rfl dL_floors_292 ?_
                      refine gn_ic 5 (by decide) dL_floors_294 ?_
                      refine gn_icmp_ge (by omega) (by omega) (tgt := 360) (by decide) dL_floors_295 (fun cc9 => ?_) (fun cc9 => ?_)
                      · -- t 360
                        exact absurd cc9 (by decide)
                      · -- f 298
                        refine g_aload_n 4 rfl dL_floors_298 ?_
                        refine g_iload 1 rfl dL_floors_299 ?_
                        refine gv_Vz (k_lodgersOn hI264 (by omega)) l_L_167 rfl hI264.rc (Nat.le_of_ble_eq_true rfl) (Nat.le_of_ble_eq_true rfl) rfl dL_floors_301 ?_
                        refine gn_ic 1 (by decide) dL_floors_304 ?_
                        refine gn_icmp_le (by omega) (by omega) (tgt := 360) (by decide) dL_floors_305 (fun cc305 => ?_) (fun cc305 => ?_)
                        · -- t 360
                          refine g_aload_n 4 rfl dL_floors_360 ?_
                          refine g_iload_n 7 rfl dL_floors_361 ?_
                          refine gw_Viz (k_slipVowel hI264 (by omega)) l_L_188 rfl hI264.rc (Nat.le_of_ble_eq_true rfl) (Nat.le_of_ble_eq_true rfl) rfl dL_floors_362 (fun _ _ _ z => ⟨_, z.1⟩) (fun x362 E362 n362 z362 => ?_)
                          obtain ⟨e362, e2362, hI362⟩ := z362
                          have e9362 := (Value.int.inj (Option.some.inj e362)).symm
                          subst e9362
                          have e3362 := e2362.symm
                          subst e3362
                          refine g_iload 3 rfl dL_floors_365 ?_
                          refine g_icmp_ne (tgt := 374) (by decide) dL_floors_367 (fun h367 => ?_) (fun h367 => ?_)
                          · -- t 374
                            exact absurd (slip_1 (by omega) eφ284 hfk) h367
                          · -- f 370
                            refine gn_ic 1 (by decide) dL_floors_370 ?_
                            refine g_goto (tgt := 375) (by decide) dL_floors_371 ?_
                            refine g_istore_n (lv2 := [(2, _), (7, _), (6, _), (5, _), (4, _), (0, _), (1, _), (3, _)]) (by decide) rfl dL_floors_375 ?_
                            refine gn_inc (lv2 := [(3, _), (2, _), (7, _), (6, _), (5, _), (4, _), (0, _), (1, _)]) 7 rfl (by decide) rfl dL_floors_376 ?_
                            refine g_goto (tgt := 264) (by decide) dL_floors_379 ?_
                            refine G.sub [6, 7, 1, 0] rfl ?_
                            exact ih264 (i264 + 1) _ (by omega) hI362
                        · -- f 308
                          exact absurd hfk cc305
                    · skip
                      refine gn_ic 0 (by decide) dL_floors_289 ?_
                      refine g_istore (lv2 := [(7, _), (6, _), (5, _), (4, _), (0, _), (1, _), (2, _), (3, _)]) (by decide) rfl dL_floors_290 ?_
                      have L292 : ∀ (m292 i292 : Nat), i292 + m292 = 5 → G Γ 14 ML_floors (fun r E2 n2 => r = some (.int (nI 1)) ∧ n ≤ n2 ∧ IW Γ ab ra B D s0 g0 f c kp top E2 n2) X0 292 [(0, .ref ab), (1, .int (nI (cnt5 f c 5))), (2, .int (nI 1)), (3, .int (nI i264)), (4, .int (far (rw5 f i264) (fun v => avgF f (nI φ284) v c) i292).1), (5, .int (far (rw5 f i264) (fun v => avgF f (nI φ284) v c) i292).2), (6, .int (nI φ284)), (7, .int (nI i292))] [] (E264) n34 0 0 := by
                        intro m292
                        induction m292 with
                        | zero =>
                          intro i292 hi292
                          refine g_iload 7 rfl dL_floors_292 ?_
                          refine gn_ic 5 (by decide) dL_floors_294 ?_
                          refine gn_icmp_ge (by omega) (by omega) (tgt := 360) (by decide) dL_floors_295 (fun cc10 => ?_) (fun cc10 => ?_)
                          · -- t 360
                            obtain rfl : i292 = 5 := by omega
                            refine g_aload_n 0 rfl dL_floors_360 ?_
                            refine g_iload_n 3 rfl dL_floors_361 ?_
                            refine gw_Viz (k_slipVowel hI264 (by omega)) l_L_188 rfl hI264.rc (Nat.le_of_ble_eq_true rfl) (Nat.le_of_ble_eq_true rfl) rfl dL_floors_362 (fun _ _ _ z => ⟨_, z.1⟩) (fun x362 E362 n362 z362 => ?_)
                            obtain ⟨e362, e2362, hI362⟩ := z362
                            have e9362 := (Value.int.inj (Option.some.inj e362)).symm
                            subst e9362
                            have e3362 := e2362.symm
                            subst e3362
                            refine g_iload 4 rfl dL_floors_365 ?_
                            refine g_icmp_ne (tgt := 374) (by decide) dL_floors_367 (fun h367 => ?_) (fun h367 => ?_)
                            · -- t 374
                              exact absurd (by rw [eφ284]) h367
                            · -- f 370
                              refine gn_ic 1 (by decide) dL_floors_370 ?_
                              refine g_goto (tgt := 375) (by decide) dL_floors_371 ?_
                              refine g_istore_n (lv2 := [(2, _), (0, _), (1, _), (3, _), (4, _), (5, _), (6, _), (7, _)]) (by decide) rfl dL_floors_375 ?_
                              refine gn_inc (lv2 := [(3, _), (2, _), (0, _), (1, _), (4, _), (5, _), (6, _), (7, _)]) 3 rfl (by decide) rfl dL_floors_376 ?_
                              refine g_goto (tgt := 264) (by decide) dL_floors_379 ?_
                              refine G.sub [2, 3, 1, 0] rfl ?_
                              exact ih264 (i264 + 1) _ (by omega) hI362
                          · -- f 298
                            exfalso; omega
                        | succ m292 ih292 =>
                          intro i292 hi292
                          refine g_iload 7 rfl dL_floors_292 ?_
                          refine gn_ic 5 (by decide) dL_floors_294 ?_
                          refine gn_icmp_ge (by omega) (by omega) (tgt := 360) (by decide) dL_floors_295 (fun cc11 => ?_) (fun cc11 => ?_)
                          · -- t 360
                            exfalso; omega
                          · -- f 298
                            refine g_aload_n 0 rfl dL_floors_298 ?_
                            refine g_iload 6 rfl dL_floors_299 ?_
                            refine gv_Vz (k_lodgersOn hI264 (by omega)) l_L_167 rfl hI264.rc (Nat.le_of_ble_eq_true rfl) (Nat.le_of_ble_eq_true rfl) rfl dL_floors_301 ?_
                            refine gn_ic 1 (by decide) dL_floors_304 ?_
                            refine gn_icmp_le (by omega) (by omega) (tgt := 360) (by decide) dL_floors_305 (fun cc305 => ?_) (fun cc305 => ?_)
                            · -- t 360
                              exact absurd cc305 hfk
                            · -- f 308
                              refine g_aload_n 0 rfl dL_floors_308 ?_
                              refine g_iload_n 3 rfl dL_floors_309 ?_
                              refine g_iload 7 rfl dL_floors_310 ?_
                              refine gv_Vz (k_vowelOf hI264 (by omega) (by omega)) l_L_154 rfl hI264.rc (Nat.le_of_ble_eq_true rfl) (Nat.le_of_ble_eq_true rfl) rfl dL_floors_312 ?_
                              refine g_aload_n 0 rfl dL_floors_315 ?_
                              refine g_iload 6 rfl dL_floors_316 ?_
                              refine g_iload 7 rfl dL_floors_318 ?_
                              refine g_SHz (v_average hI264 (by omega) (by omega) (by omega)) l_L_177 rfl (Nat.le_of_ble_eq_true rfl) (Nat.le_of_ble_eq_true rfl) rfl dL_floors_320 (fun _ _ _ z => ⟨_, z.1⟩) (fun x320 E320 n320 z320 => ?_)
                              obtain ⟨e320, e2320, e3320⟩ := z320
                              have e9320 := (Value.int.inj (Option.some.inj e320)).symm
                              subst e9320
                              have e5320 := e2320.symm
                              subst e5320
                              have e4320 := e3320.symm
                              subst e4320
                              refine g_isub dL_floors_323 ?_
                              refine g_mabs l_L_180 (Nat.le_of_ble_eq_true rfl) (Nat.le_of_ble_eq_true rfl) dL_floors_324 ?_
                              refine g_istore (lv2 := [(8, _), (0, _), (1, _), (2, _), (3, _), (4, _), (5, _), (6, _), (7, _)]) (by decide) rfl dL_floors_327 ?_
                              refine g_iload 0 rfl dL_floors_329 ?_
                              refine g_iload 6 rfl dL_floors_331 ?_
                              refine g_icmp_le (tgt := 341) (by decide) dL_floors_333 (fun h333 => ?_) (fun h333 => ?_)
                              · -- t 341
                                refine g_iload 5 rfl dL_floors_341 ?_
                                refine g_istore (lv2 := [(4, _), (8, _), (0, _), (1, _), (2, _), (3, _), (5, _), (6, _), (7, _)]) (by decide) rfl dL_floors_343 ?_
                                refine g_iload 6 rfl dL_floors_345 ?_
                                refine g_iload 1 rfl dL_floors_347 ?_
                                refine g_mmaxI l_L_185 (Nat.le_of_ble_eq_true rfl) (Nat.le_of_ble_eq_true rfl) dL_floors_349 ?_
                                refine g_top (mx_p h333) ?_
                                refine g_istore (lv2 := [(5, _), (4, _), (8, _), (0, _), (1, _), (2, _), (3, _), (6, _), (7, _)]) (by decide) rfl dL_floors_352 ?_
                                refine gn_inc (lv2 := [(7, _), (5, _), (4, _), (8, _), (0, _), (1, _), (2, _), (3, _), (6, _)]) 8 rfl (by decide) rfl dL_floors_354 ?_
                                refine g_goto (tgt := 292) (by decide) dL_floors_357 ?_
                                refine G.sub [4, 5, 6, 7, 2, 1, 8, 0] rfl ?_
                                have hq := ih292 (i292 + 1) (by omega)
                                rw [show far (rw5 f i264) (fun v => avgF f (nI φ284) v c) (i292 + 1) = _ from far_p (g := rw5 f i264) (h := (fun v => avgF f (nI φ284) v c)) (v := i292) h333] at hq
                                exact hq
                              · -- f 336
                                refine g_iload 8 rfl dL_floors_336 ?_
                                refine g_goto (tgt := 343) (by decide) dL_floors_338 ?_
                                refine g_istore (lv2 := [(4, _), (8, _), (0, _), (1, _), (2, _), (3, _), (5, _), (6, _), (7, _)]) (by decide) rfl dL_floors_343 ?_
                                refine g_iload 6 rfl dL_floors_345 ?_
                                refine g_iload 1 rfl dL_floors_347 ?_
                                refine g_mmaxI l_L_185 (Nat.le_of_ble_eq_true rfl) (Nat.le_of_ble_eq_true rfl) dL_floors_349 ?_
                                refine g_top (mx_n h333) ?_
                                refine g_istore (lv2 := [(5, _), (4, _), (8, _), (0, _), (1, _), (2, _), (3, _), (6, _), (7, _)]) (by decide) rfl dL_floors_352 ?_
                                refine gn_inc (lv2 := [(7, _), (5, _), (4, _), (8, _), (0, _), (1, _), (2, _), (3, _), (6, _)]) 8 rfl (by decide) rfl dL_floors_354 ?_
                                refine g_goto (tgt := 292) (by decide) dL_floors_357 ?_
                                refine G.sub [4, 5, 6, 7, 2, 1, 8, 0] rfl ?_
                                have hq := ih292 (i292 + 1) (by omega)
                                rw [show far (rw5 f i264) (fun v => avgF f (nI φ284) v c) (i292 + 1) = _ from far_n (g := rw5 f i264) (h := (fun v => avgF f (nI φ284) v c)) (v := i292) h333] at hq
                                exact hq
                      refine G.sub [4, 5, 6, 7, 3, 2, 1, 0] rfl ?_
                      exact L292 _ 0 (Nat.zero_add _)
            refine G.sub [1, 2, 3, 0] rfl ?_
            refine G.mono (kc2 := 0) (ks2 := 0) (by omega) (by omega) ?_
            exact L264 _ 0 _ (Nat.zero_add _) hI34
          · -- f 39
            exfalso; omega
        | succ m34 ih34 =>
          intro i34 n34 hi34 hn34 hI34
          refine g_iload_n 3 rfl dL_floors_34 ?_
          refine gn_ic 5 (by decide) dL_floors_35 ?_
          refine gn_icmp_ge (by omega) (by omega) (tgt := 262) (by decide) dL_floors_36 (fun cc12 => ?_) (fun cc12 => ?_)
          · -- t 262
            exfalso; omega
          · -- f 39
            refine g_iload_n 2 rfl dL_floors_39 ?_
            refine gn_if_eq (by omega) (tgt := 262) (by decide) dL_floors_40 (fun cc13 => ?_) (fun cc13 => ?_)
            · -- t 262
              exact absurd cc13 (by decide)
            · -- f 43
              refine g_aload_n 0 rfl dL_floors_43 ?_
              refine g_iload_n 3 rfl dL_floors_44 ?_
              refine gv_Vz (k_lodgersOn hI34 (by omega)) l_L_167 rfl hI34.rc (Nat.le_of_ble_eq_true rfl) (Nat.le_of_ble_eq_true rfl) rfl dL_floors_45 ?_
              refine g_istore (lv2 := [(4, _), (0, _), (1, _), (2, _), (3, _)]) (by decide) rfl dL_floors_48 ?_
              refine g_iconst (v := -1) dL_floors_50 (by decide) ?_
              refine g_istore (lv2 := [(5, _), (4, _), (0, _), (1, _), (2, _), (3, _)]) (by decide) rfl dL_floors_51 ?_
              refine gn_ic 0 (by decide) dL_floors_53 ?_
              refine g_istore (lv2 := [(6, _), (5, _), (4, _), (0, _), (1, _), (2, _), (3, _)]) (by decide) rfl dL_floors_54 ?_
              have L56 : ∀ (m56 : Nat) (i56 : Nat) (b56 : Int32), (i56 + m56 = cntA f (nI i34) c) → ((b56 = -1 ∧ i56 = 0) ∨ ∃ q, q < c ∧ b56 = nI q ∧ cntA f (nI i34) q + 1 = i56) → G Γ 14 ML_floors (fun r E2 n2 => r = some (.int (nI 1)) ∧ n ≤ n2 ∧ IW Γ ab ra B D s0 g0 f c kp top E2 n2) X0 56 [(0, .ref ab), (1, .int (nI (cnt5 f c i34))), (2, .int (nI 1)), (3, .int (nI i34)), (4, .int (nI (cntA f (nI i34) c))), (5, .int b56), (6, .int (nI i56))] [] (E) n34 ((m34 + 1) * 6) ((m34 + 1) * 36) := by
                intro m56
                induction m56 with
                | zero =>
                  intro i56 b56 hi56 hb56
                  have hl56 := hle (nI i34)
                  refine g_iload 6 rfl dL_floors_56 ?_
                  refine g_iload 4 rfl dL_floors_58 ?_
                  refine gn_icmp_ge (by omega) (by omega) (tgt := 109) (by decide) dL_floors_60 (fun cc14 => ?_) (fun cc14 => ?_)
                  · -- t 109
                    refine g_iload_n 2 rfl dL_floors_109 ?_
                    refine gn_if_eq (by omega) (tgt := 151) (by decide) dL_floors_110 (fun cc15 => ?_) (fun cc15 => ?_)
                    · -- t 151
                      exact absurd cc15 (by decide)
                    · -- f 113
                      refine g_iload 4 rfl dL_floors_113 ?_
                      refine gn_ic 4 (by decide) dL_floors_115 ?_
                      refine gn_icmp_gt (by omega) (by omega) (tgt := 151) (by decide) dL_floors_116 (fun cc16 => ?_) (fun cc16 => ?_)
                      · -- t 151
                        exfalso; omega
                      · -- f 119
                        refine g_aload_n 0 rfl dL_floors_119 ?_
                        refine g_iload_n 3 rfl dL_floors_120 ?_
                        refine g_iload 4 rfl dL_floors_121 ?_
                        refine G.mono (kc2 := (m34 * 6 + 5) + 1) (ks2 := (m34 * 36 + 30) + 6) (by omega) (by omega) ?_
                        refine g_SHi (v_lodgerAt_no hI34 (by omega) (by omega) (plF_none c 0 _ (by rw [Nat.zero_add]; exact Nat.le_add_right _ _))) l_L_170 rfl (Nat.le_of_ble_eq_true rfl) (Nat.le_of_ble_eq_true rfl) rfl dL_floors_123 (fun _ _ _ z => ⟨_, z.1⟩) (fun x123 E123 n123 z123 => ?_)
                        obtain ⟨e123, e2123, e3123⟩ := z123
                        have e9123 := (Value.int.inj (Option.some.inj e123)).symm
                        subst e9123
                        have e4123 := e2123.symm
                        subst e4123
                        have hI123 := hI34.up e3123
                        refine g_bipush (v := -5) dL_floors_126 (by decide) ?_
                        refine g_icmp_ne (tgt := 151) (by decide) dL_floors_128 (fun h128 => ?_) (fun h128 => ?_)
                        · -- t 151
                          exact absurd rfl h128
                        · -- f 131
                          refine g_aload_n 0 rfl dL_floors_131 ?_
                          refine g_iload_n 3 rfl dL_floors_132 ?_
                          refine gv_Vz (k_rentOf hI123 (by omega)) l_L_174 rfl hI123.rc (Nat.le_of_ble_eq_true rfl) (Nat.le_of_ble_eq_true rfl) rfl dL_floors_133 ?_
                          refine g_aload_n 0 rfl dL_floors_136 ?_
                          refine gv_Vz (k_baseRent hI123 ) l_L_112 rfl hI123.rc (Nat.le_of_ble_eq_true rfl) (Nat.le_of_ble_eq_true rfl) rfl dL_floors_137 ?_
                          refine gn_ic 5 (by decide) dL_floors_140 ?_
                          refine g_iload_n 3 rfl dL_floors_141 ?_
                          refine g_imul dL_floors_142 ?_
                          refine g_iadd dL_floors_143 ?_
                          refine g_icmp_ne (tgt := 151) (by decide) dL_floors_144 (fun h144 => ?_) (fun h144 => ?_)
                          · -- t 151
                            exact absurd rfl h144
                          · -- f 147
                            refine gn_ic 1 (by decide) dL_floors_147 ?_
                            refine g_goto (tgt := 152) (by decide) dL_floors_148 ?_
                            refine g_istore_n (lv2 := [(2, _), (0, _), (1, _), (3, _), (4, _), (5, _), (6, _)]) (by decide) rfl dL_floors_152 ?_
                            refine gn_ic 0 (by decide) dL_floors_153 ?_
                            refine g_istore (lv2 := [(6, _), (2, _), (0, _), (1, _), (3, _), (4, _), (5, _)]) (by decide) rfl dL_floors_154 ?_
                            have L156 : ∀ (m156 : Nat) (i156 n156 : Nat), (i156 + m156 = 5) → (n ≤ n156) → (IW Γ ab ra B D s0 g0 f c kp top E n156) → G Γ 14 ML_floors (fun r E2 n2 => r = some (.int (nI 1)) ∧ n ≤ n2 ∧ IW Γ ab ra B D s0 g0 f c kp top E2 n2) X0 156 [(0, .ref ab), (1, .int (nI (cnt5 f c i34))), (2, .int (nI 1)), (3, .int (nI i34)), (4, .int (nI (cntA f (nI i34) c))), (6, .int (nI i156))] [] (E) n156 (m34 * 6 + m156) (m34 * 36 + m156 * 6) := by
                              intro m156
                              induction m156 with
                              | zero =>
                                intro i156 n156 hi156 hn156 hI156
                                refine g_iload 5 rfl dL_floors_156 ?_
                                refine gn_ic 5 (by decide) dL_floors_158 ?_
                                refine gn_icmp_ge (by omega) (by omega) (tgt := 251) (by decide) dL_floors_159 (fun cc17 => ?_) (fun cc17 => ?_)
                                · -- t 251
                                  obtain rfl : i156 = 5 := by omega
                                  refine g_iload_n 1 rfl dL_floors_251 ?_
                                  refine g_iload 4 rfl dL_floors_252 ?_
                                  refine gn_iadd dL_floors_254 ?_
                                  refine g_istore_n (lv2 := [(1, _), (0, _), (2, _), (3, _), (4, _), (6, _)]) (by decide) rfl dL_floors_255 ?_
                                  refine gn_inc (lv2 := [(3, _), (1, _), (0, _), (2, _), (4, _), (6, _)]) 3 rfl (by decide) rfl dL_floors_256 ?_
                                  refine g_goto (tgt := 34) (by decide) dL_floors_259 ?_
                                  refine G.sub [2, 1, 3, 0] rfl ?_
                                  refine G.mono (kc2 := m34 * 6) (ks2 := m34 * 36) (by omega) (by omega) ?_
                                  exact ih34 (i34 + 1) _ (by omega) (by omega) hI156
                                · -- f 162
                                  exfalso; omega
                              | succ m156 ih156 =>
                                intro i156 n156 hi156 hn156 hI156
                                refine g_iload 5 rfl dL_floors_156 ?_
                                refine gn_ic 5 (by decide) dL_floors_158 ?_
                                refine gn_icmp_ge (by omega) (by omega) (tgt := 251) (by decide) dL_floors_159 (fun cc18 => ?_) (fun cc18 => ?_)
                                · -- t 251
                                  exfalso; omega
                                · -- f 162
                                  refine g_iload_n 2 rfl dL_floors_162 ?_
                                  refine gn_if_eq (by omega) (tgt := 251) (by decide) dL_floors_163 (fun cc19 => ?_) (fun cc19 => ?_)
                                  · -- t 251
                                    exact absurd cc19 (by decide)
                                  · -- f 166
                                    refine gn_ic 0 (by decide) dL_floors_166 ?_
                                    refine g_istore (lv2 := [(7, _), (0, _), (1, _), (2, _), (3, _), (4, _), (6, _)]) (by decide) rfl dL_floors_167 ?_
                                    refine gn_ic 0 (by decide) dL_floors_169 ?_
                                    refine g_istore (lv2 := [(8, _), (7, _), (0, _), (1, _), (2, _), (3, _), (4, _), (6, _)]) (by decide) rfl dL_floors_170 ?_
                                    have L172 : ∀ (m172 i172 : Nat), i172 + m172 = c → G Γ 14 ML_floors (fun r E2 n2 => r = some (.int (nI 1)) ∧ n ≤ n2 ∧ IW Γ ab ra B D s0 g0 f c kp top E2 n2) X0 172 [(0, .ref ab), (1, .int (nI (cnt5 f c i34))), (2, .int (nI 1)), (3, .int (nI i34)), (4, .int (nI (cntA f (nI i34) c))), (6, .int (nI i156)), (7, .int (sumA f (nI i34) i156 i172)), (8, .int (nI i172))] [] (E) n156 (m34 * 6 + (m156 + 1)) (m34 * 36 + (m156 + 1) * 6) := by
                                      intro m172
                                      induction m172 with
                                      | zero =>
                                        intro i172 hi172
                                        refine g_iload 7 rfl dL_floors_172 ?_
                                        refine g_aload_n 0 rfl dL_floors_174 ?_
                                        refine gv_Vz (k_lodgerCount hI156 ) l_L_133 rfl hI156.rc (Nat.le_of_ble_eq_true rfl) (Nat.le_of_ble_eq_true rfl) rfl dL_floors_175 ?_
                                        refine gn_icmp_ge (by omega) (by omega) (tgt := 214) (by decide) dL_floors_178 (fun cc20 => ?_) (fun cc20 => ?_)
                                        · -- t 214
                                          obtain rfl : c = i172 := by omega
                                          refine g_aload_n 0 rfl dL_floors_214 ?_
                                          refine g_iload_n 3 rfl dL_floors_215 ?_
                                          refine g_iload 5 rfl dL_floors_216 ?_
                                          by_cases hfk : cntA f (nI i34) c = 0
                                          · skip
                                            refine G.mono (kc2 := (m34 * 6 + m156) + 1) (ks2 := (m34 * 36 + m156 * 6) + 6) (by omega) (by omega) ?_
                                            refine g_SHi (v_average_no hI156 (by omega) (by omega) hfk) l_L_177 rfl (Nat.le_of_ble_eq_true rfl) (Nat.le_of_ble_eq_true rfl) rfl dL_floors_218 (fun _ _ _ z => ⟨_, z.1⟩) (fun x218 E218 n218 z218 => ?_)
                                            obtain ⟨e218, e2218, e3218⟩ := z218
                                            have e9218 := (Value.int.inj (Option.some.inj e218)).symm
                                            subst e9218
                                            have e4218 := e2218.symm
                                            subst e4218
                                            have hI218 := hI156.up e3218
                                            refine g_iload 4 rfl dL_floors_221 ?_
                                            refine gn_if_ne (by omega) (tgt := 231) (by decide) dL_floors_223 (fun cc223 => ?_) (fun cc223 => ?_)
                                            · -- t 231
                                              exact absurd hfk cc223
                                            · -- f 226
                                              refine g_bipush (v := -3) dL_floors_226 (by decide) ?_
                                              refine g_goto (tgt := 236) (by decide) dL_floors_228 ?_
                                              refine g_icmp_ne (tgt := 243) (by decide) dL_floors_236 (fun h236 => ?_) (fun h236 => ?_)
                                              · -- t 243
                                                exact absurd rfl h236
                                              · -- f 239
                                                refine gn_ic 1 (by decide) dL_floors_239 ?_
                                                refine g_goto (tgt := 244) (by decide) dL_floors_240 ?_
                                                refine g_istore_n (lv2 := [(2, _), (0, _), (1, _), (3, _), (4, _), (6, _), (7, _), (8, _)]) (by decide) rfl dL_floors_244 ?_
                                                refine gn_inc (lv2 := [(6, _), (2, _), (0, _), (1, _), (3, _), (4, _), (7, _), (8, _)]) 5 rfl (by decide) rfl dL_floors_245 ?_
                                                refine g_goto (tgt := 156) (by decide) dL_floors_248 ?_
                                                refine G.sub [2, 3, 1, 4, 5, 0] rfl ?_
                                                refine G.mono (kc2 := m34 * 6 + m156) (ks2 := m34 * 36 + m156 * 6) (by omega) (by omega) ?_
                                                exact ih156 (i156 + 1) _ (by omega) (by omega) hI218
                                          · skip
                                            refine g_SHz (v_average hI156 (by omega) (by omega) hfk) l_L_177 rfl (Nat.le_of_ble_eq_true rfl) (Nat.le_of_ble_eq_true rfl) rfl dL_floors_218 (fun _ _ _ z => ⟨_, z.1⟩) (fun x218 E218 n218 z218 => ?_)
                                            obtain ⟨e218, e2218, e3218⟩ := z218
                                            have e9218 := (Value.int.inj (Option.some.inj e218)).symm
                                            subst e9218
                                            have e5218 := e2218.symm
                                            subst e5218
                                            have e4218 := e3218.symm
                                            subst e4218
                                            refine g_iload 4 rfl dL_floors_221 ?_
                                            refine gn_if_ne (by omega) (tgt := 231) (by decide) dL_floors_223 (fun cc223 => ?_) (fun cc223 => ?_)
                                            · -- t 231
                                              refine g_iload 6 rfl dL_floors_231 ?_
                                              refine g_iload 4 rfl dL_floors_233 ?_
                                              refine g_idiv (nI_ne0 (by omega) (by omega)) dL_floors_235 ?_
                                              refine g_icmp_ne (tgt := 243) (by decide) dL_floors_236 (fun h236 => ?_) (fun h236 => ?_)
                                              · -- t 243
                                                exact absurd (show avgF f (nI i34) i156 c = _ from if_neg hfk) h236
                                              · -- f 239
                                                refine gn_ic 1 (by decide) dL_floors_239 ?_
                                                refine g_goto (tgt := 244) (by decide) dL_floors_240 ?_
                                                refine g_istore_n (lv2 := [(2, _), (0, _), (1, _), (3, _), (4, _), (6, _), (7, _), (8, _)]) (by decide) rfl dL_floors_244 ?_
                                                refine gn_inc (lv2 := [(6, _), (2, _), (0, _), (1, _), (3, _), (4, _), (7, _), (8, _)]) 5 rfl (by decide) rfl dL_floors_245 ?_
                                                refine g_goto (tgt := 156) (by decide) dL_floors_248 ?_
                                                refine G.sub [2, 3, 1, 4, 5, 0] rfl ?_
                                                refine G.mono (kc2 := m34 * 6 + m156) (ks2 := m34 * 36 + m156 * 6) (by omega) (by omega) ?_
                                                exact ih156 (i156 + 1) _ (by omega) (by omega) hI156
                                            · -- f 226
                                              exact absurd cc223 hfk
                                        · -- f 181
                                          exfalso; omega
                                      | succ m172 ih172 =>
                                        intro i172 hi172
                                        refine g_iload 7 rfl dL_floors_172 ?_
                                        refine g_aload_n 0 rfl dL_floors_174 ?_
                                        refine gv_Vz (k_lodgerCount hI156 ) l_L_133 rfl hI156.rc (Nat.le_of_ble_eq_true rfl) (Nat.le_of_ble_eq_true rfl) rfl dL_floors_175 ?_
                                        refine gn_icmp_ge (by omega) (by omega) (tgt := 214) (by decide) dL_floors_178 (fun cc21 => ?_) (fun cc21 => ?_)
                                        · -- t 214
                                          exfalso; omega
                                        · -- f 181
                                          refine g_iload 6 rfl dL_floors_181 ?_
                                          refine g_aload_n 0 rfl dL_floors_183 ?_
                                          refine g_iload 7 rfl dL_floors_184 ?_
                                          refine gv_Vz (k_floorOf hI156 (by omega)) l_L_136 rfl hI156.rc (Nat.le_of_ble_eq_true rfl) (Nat.le_of_ble_eq_true rfl) rfl dL_floors_186 ?_
                                          refine g_iload_n 3 rfl dL_floors_189 ?_
                                          refine g_icmp_ne (tgt := 204) (by decide) dL_floors_190 (fun h190 => ?_) (fun h190 => ?_)
                                          · -- t 204
                                            refine gn_ic 0 (by decide) dL_floors_204 ?_
                                            refine g_iadd dL_floors_205 ?_
                                            refine g_istore (lv2 := [(7, _), (0, _), (1, _), (2, _), (3, _), (4, _), (6, _), (8, _)]) (by decide) rfl dL_floors_206 ?_
                                            refine gn_inc (lv2 := [(8, _), (7, _), (0, _), (1, _), (2, _), (3, _), (4, _), (6, _)]) 7 rfl (by decide) rfl dL_floors_208 ?_
                                            refine g_goto (tgt := 172) (by decide) dL_floors_211 ?_
                                            refine G.sub [2, 3, 4, 5, 6, 7, 1, 0] rfl ?_
                                            have hq := ih172 (i172 + 1) (by omega)
                                            rw [sumA, if_neg h190] at hq
                                            exact hq
                                          · -- f 193
                                            refine g_aload_n 0 rfl dL_floors_193 ?_
                                            refine g_iload 7 rfl dL_floors_194 ?_
                                            refine g_iload 5 rfl dL_floors_196 ?_
                                            refine gv_Vz (k_vowelOf hI156 (by omega) (by omega)) l_L_154 rfl hI156.rc (Nat.le_of_ble_eq_true rfl) (Nat.le_of_ble_eq_true rfl) rfl dL_floors_198 ?_
                                            refine g_goto (tgt := 205) (by decide) dL_floors_201 ?_
                                            refine g_iadd dL_floors_205 ?_
                                            refine g_istore (lv2 := [(7, _), (0, _), (1, _), (2, _), (3, _), (4, _), (6, _), (8, _)]) (by decide) rfl dL_floors_206 ?_
                                            refine gn_inc (lv2 := [(8, _), (7, _), (0, _), (1, _), (2, _), (3, _), (4, _), (6, _)]) 7 rfl (by decide) rfl dL_floors_208 ?_
                                            refine g_goto (tgt := 172) (by decide) dL_floors_211 ?_
                                            refine G.sub [2, 3, 4, 5, 6, 7, 1, 0] rfl ?_
                                            have hq := ih172 (i172 + 1) (by omega)
                                            rw [sumA, if_pos h190] at hq
                                            exact hq
                                    refine G.sub [2, 3, 4, 5, 6, 7, 1, 0] rfl ?_
                                    exact L172 _ 0 (Nat.zero_add _)
                            refine G.sub [2, 3, 1, 4, 5, 0] rfl ?_
                            refine G.mono (kc2 := m34 * 6 + 5) (ks2 := m34 * 36 + 5 * 6) (by omega) (by omega) ?_
                            exact L156 5 0 _ (by omega) (by omega) hI123
                  · -- f 63
                    exfalso; omega
                | succ m56 ih56 =>
                  intro i56 b56 hi56 hb56
                  have hl56 := hle (nI i34)
                  refine g_iload 6 rfl dL_floors_56 ?_
                  refine g_iload 4 rfl dL_floors_58 ?_
                  refine gn_icmp_ge (by omega) (by omega) (tgt := 109) (by decide) dL_floors_60 (fun cc22 => ?_) (fun cc22 => ?_)
                  · -- t 109
                    exfalso; omega
                  · -- f 63
                    refine g_iload_n 2 rfl dL_floors_63 ?_
                    refine gn_if_eq (by omega) (tgt := 109) (by decide) dL_floors_64 (fun cc23 => ?_) (fun cc23 => ?_)
                    · -- t 109
                      exact absurd cc23 (by decide)
                    · -- f 67
                      refine g_aload_n 0 rfl dL_floors_67 ?_
                      refine g_iload_n 3 rfl dL_floors_68 ?_
                      refine g_iload 6 rfl dL_floors_69 ?_
                      obtain ⟨r71, p1, p2, p3, p4, p5⟩ := plF_at (f := f) (fl := (nI i34)) c 0 i56 (by rw [Nat.zero_add]; show i56 + 0 < _; omega)
                      have p6 : cntA f (nI i34) r71 = i56 := p5
                      refine g_SHz (v_lodgerAt hI34 (by omega) (by omega) p1) l_L_170 rfl (Nat.le_of_ble_eq_true rfl) (Nat.le_of_ble_eq_true rfl) rfl dL_floors_71 (fun _ _ _ z => ⟨_, z.1⟩) (fun x71 E71 n71 z71 => ?_)
                      obtain ⟨e71, e271, e371⟩ := z71
                      have e971 := (Value.int.inj (Option.some.inj e71)).symm
                      subst e971
                      have e571 := e271.symm
                      subst e571
                      have e471 := e371.symm
                      subst e471
                      refine g_istore (lv2 := [(7, _), (0, _), (1, _), (2, _), (3, _), (4, _), (5, _), (6, _)]) (by decide) rfl dL_floors_74 ?_
                      refine g_iload 0 rfl dL_floors_76 ?_
                      refine g_iload 6 rfl dL_floors_78 ?_
                      refine g_icmp_le (tgt := 97) (by decide) dL_floors_80 (fun h80 => ?_) (fun h80 => ?_)
                      · -- t 97
                        exact absurd h80 (plc_t hc12 hb56 (by omega) p6)
                      · -- f 83
                        refine g_aload_n 1 rfl dL_floors_83 ?_
                        refine g_iload 0 rfl dL_floors_84 ?_
                        refine gv_Vz (k_floorOf hI34 (by omega)) l_L_136 rfl hI34.rc (Nat.le_of_ble_eq_true rfl) (Nat.le_of_ble_eq_true rfl) rfl dL_floors_86 ?_
                        refine g_iload_n 4 rfl dL_floors_89 ?_
                        refine g_icmp_ne (tgt := 97) (by decide) dL_floors_90 (fun h90 => ?_) (fun h90 => ?_)
                        · -- t 97
                          exact absurd p4 h90
                        · -- f 93
                          refine gn_ic 1 (by decide) dL_floors_93 ?_
                          refine g_goto (tgt := 98) (by decide) dL_floors_94 ?_
                          refine g_istore_n (lv2 := [(2, _), (7, _), (0, _), (1, _), (3, _), (4, _), (5, _), (6, _)]) (by decide) rfl dL_floors_98 ?_
                          refine g_iload 1 rfl dL_floors_99 ?_
                          refine g_istore (lv2 := [(5, _), (2, _), (7, _), (0, _), (1, _), (3, _), (4, _), (6, _)]) (by decide) rfl dL_floors_101 ?_
                          refine gn_inc (lv2 := [(6, _), (5, _), (2, _), (7, _), (0, _), (1, _), (3, _), (4, _)]) 7 rfl (by decide) rfl dL_floors_103 ?_
                          refine g_goto (tgt := 56) (by decide) dL_floors_106 ?_
                          refine G.sub [4, 5, 2, 6, 7, 1, 0] rfl ?_
                          exact ih56 (i56 + 1) _ (by omega) (Or.inr ⟨r71, by omega, rfl, by omega⟩)
              refine G.sub [3, 4, 5, 6, 2, 1, 0] rfl ?_
              exact L56 _ 0 (-1) (Nat.zero_add _) (Or.inl ⟨rfl, rfl⟩)
      refine G.sub [3, 2, 1, 0] rfl ?_
      refine G.mono (kc2 := 5 * 6) (ks2 := 5 * 36) (by omega) (by omega) ?_
      exact L34 5 0 _ (by omega) (Nat.le_refl _) hI
end GQ5
