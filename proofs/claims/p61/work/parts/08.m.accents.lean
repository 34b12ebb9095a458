section GQ6
set_option maxRecDepth 100000 in
set_option maxHeartbeats 4000000 in
theorem c_L_accents {Γ : Gm} {n : Nat} {E : Hp} {ab ra B D s0 c kp : Nat} {g0 f : Nat → Int32} {top : Option (Nat → Int32)} (hI : IW Γ ab ra B D s0 g0 f c kp top E n)  : Ct Γ 10 ML_accents 0 0 [.ref ab] (E) n (fun r E2 n2 => r = some (.int (nI 1)) ∧ n2 = n ∧ IW Γ ab ra B D s0 g0 f c kp top E2 n2) X0 := by
  refine Ct.of (by decide +kernel) rfl (Nat.le_of_ble_eq_true rfl) ?_
  have hc12 := hI.gd.2.1
  have hv := hI.val
  have hpp : ∀ k v, k < c → v < 5 → Pos (rw5 f k v) := fun k v h1 h2 => Rws.pos hv h1 h2
  have hpl : ∀ v, v < 5 → Pos (la5 f v) := fun v h => Hd.pos hv h
  refine G.sub (lv2 := [(0, _)]) [0] rfl ?_
  refine g_aload_n 0 rfl dL_accents_0 ?_
  refine gv_Vz (k_lodgerCount hI ) l_L_133 rfl hI.rc (Nat.le_of_ble_eq_true rfl) (Nat.le_of_ble_eq_true rfl) rfl dL_accents_1 ?_
  refine g_istore_n (lv2 := [(1, _), (0, _)]) (by decide) rfl dL_accents_4 ?_
  refine gn_ic 0 (by decide) dL_accents_5 ?_
  refine g_istore_n (lv2 := [(2, _), (1, _), (0, _)]) (by decide) rfl dL_accents_6 ?_
  refine gn_ic 0 (by decide) dL_accents_7 ?_
  refine g_istore_n (lv2 := [(3, _), (2, _), (1, _), (0, _)]) (by decide) rfl dL_accents_8 ?_
  refine gn_ic 1 (by decide) dL_accents_9 ?_
  refine g_istore (lv2 := [(4, _), (3, _), (2, _), (1, _), (0, _)]) (by decide) rfl dL_accents_10 ?_
  refine gn_ic 0 (by decide) dL_accents_12 ?_
  refine g_istore (lv2 := [(5, _), (4, _), (3, _), (2, _), (1, _), (0, _)]) (by decide) rfl dL_accents_13 ?_
  have L15 : ∀ (m15 : Nat) (i15 : Nat) (E15 : Hp), (i15 + m15 = c) → (IW Γ ab ra B D s0 g0 f c kp top E15 n) → G Γ 10 ML_accents (fun r E2 n2 => r = some (.int (nI 1)) ∧ n2 = n ∧ IW Γ ab ra B D s0 g0 f c kp top E2 n2) X0 15 [(0, .ref ab), (1, .int (nI c)), (2, .int (sumD f i15)), (3, .int (nI (cntR f i15))), (4, .int (nI 1)), (5, .int (nI i15))] [] (E15) n 0 0 := by
    intro m15
    induction m15 with
    | zero =>
      intro i15 E15 hi15 hI15
      have hcr := cntR_le f i15
      refine g_iload 5 rfl dL_accents_15 ?_
      refine g_iload_n 1 rfl dL_accents_17 ?_
      refine gn_icmp_ge (by omega) (by omega) (tgt := 481) (by decide) dL_accents_18 (fun cc1 => ?_) (fun cc1 => ?_)
      · -- t 481
        obtain rfl : c = i15 := by omega
        refine g_iload 4 rfl dL_accents_481 ?_
        refine gn_if_eq (by omega) (tgt := 532) (by decide) dL_accents_483 (fun cc2 => ?_) (fun cc2 => ?_)
        · -- t 532
          exact absurd cc2 (by decide)
        · -- f 486
          refine g_aload_n 0 rfl dL_accents_486 ?_
          by_cases h0 : c = 0
          · skip
            refine gv_Vz (k_meanDistance hI15 ) l_L_223 rfl hI15.rc (Nat.le_of_ble_eq_true rfl) (Nat.le_of_ble_eq_true rfl) rfl dL_accents_487 ?_
            rw [if_pos h0]
            refine g_iload_n 1 rfl dL_accents_490 ?_
            refine gn_if_ne (by omega) (tgt := 498) (by decide) dL_accents_491 (fun h491 => ?_) (fun h491 => ?_)
            · -- t 498
              exact absurd h0 h491
            · -- f 494
              refine g_dconst0 dL_accents_494 ?_
              refine g_goto (tgt := 503) (by decide) dL_accents_495 ?_
              refine g_dcmp dL_accents_503 ?_
              refine g_if_ne (tgt := 532) (by decide) dL_accents_504 (fun h504 => ?_) (fun h504 => ?_)
              · -- t 532
                exact absurd mean_0 h504
              · -- f 507
                refine g_aload_n 0 rfl dL_accents_507 ?_
                refine gv_Vz (k_rhymingShare hI15 ) l_L_227 rfl hI15.rc (Nat.le_of_ble_eq_true rfl) (Nat.le_of_ble_eq_true rfl) rfl dL_accents_508 ?_
                rw [if_pos h0]
                refine g_iload_n 1 rfl dL_accents_511 ?_
                refine gn_if_ne (by omega) (tgt := 519) (by decide) dL_accents_512 (fun h512 => ?_) (fun h512 => ?_)
                · -- t 519
                  exact absurd h0 h512
                · -- f 515
                  refine g_fconst0 dL_accents_515 ?_
                  refine g_goto (tgt := 524) (by decide) dL_accents_516 ?_
                  refine g_fcmp dL_accents_524 ?_
                  refine g_if_ne (tgt := 532) (by decide) dL_accents_525 (fun h525 => ?_) (fun h525 => ?_)
                  · -- t 532
                    exact absurd share_0 h525
                  · -- f 528
                    refine gn_ic 1 (by decide) dL_accents_528 ?_
                    refine g_goto (tgt := 533) (by decide) dL_accents_529 ?_
                    exact g_iret ⟨rfl, rfl, hI15⟩ rfl rfl dL_accents_533
          · skip
            refine gv_Vz (k_meanDistance hI15 ) l_L_223 rfl hI15.rc (Nat.le_of_ble_eq_true rfl) (Nat.le_of_ble_eq_true rfl) rfl dL_accents_487 ?_
            rw [if_neg h0]
            refine g_iload_n 1 rfl dL_accents_490 ?_
            refine gn_if_ne (by omega) (tgt := 498) (by decide) dL_accents_491 (fun h491 => ?_) (fun h491 => ?_)
            · -- t 498
              refine g_iload_n 2 rfl dL_accents_498 ?_
              refine g_i2d dL_accents_499 ?_
              refine g_iload_n 1 rfl dL_accents_500 ?_
              refine g_i2d dL_accents_501 ?_
              refine g_ddiv (mean_n hv h0).1 dL_accents_502 ?_
              refine g_dcmp dL_accents_503 ?_
              refine g_if_ne (tgt := 532) (by decide) dL_accents_504 (fun h504 => ?_) (fun h504 => ?_)
              · -- t 532
                exact absurd (by rw [(mean_n hv h0).2]; rfl) h504
              · -- f 507
                refine g_aload_n 0 rfl dL_accents_507 ?_
                refine gv_Vz (k_rhymingShare hI15 ) l_L_227 rfl hI15.rc (Nat.le_of_ble_eq_true rfl) (Nat.le_of_ble_eq_true rfl) rfl dL_accents_508 ?_
                rw [if_neg h0]
                refine g_iload_n 1 rfl dL_accents_511 ?_
                refine gn_if_ne (by omega) (tgt := 519) (by decide) dL_accents_512 (fun h512 => ?_) (fun h512 => ?_)
                · -- t 519
                  refine g_iload_n 3 rfl dL_accents_519 ?_
                  refine g_i2f dL_accents_520 ?_
                  refine g_iload_n 1 rfl dL_accents_521 ?_
                  refine g_i2f dL_accents_522 ?_
                  refine g_fdiv (share_n hv h0).1 dL_accents_523 ?_
                  refine g_fcmp dL_accents_524 ?_
                  refine g_if_ne (tgt := 532) (by decide) dL_accents_525 (fun h525 => ?_) (fun h525 => ?_)
                  · -- t 532
                    exact absurd (by rw [share_f c hc12 h0 _ (cntR_le f c)]; rfl) h525
                  · -- f 528
                    refine gn_ic 1 (by decide) dL_accents_528 ?_
                    refine g_goto (tgt := 533) (by decide) dL_accents_529 ?_
                    exact g_iret ⟨rfl, rfl, hI15⟩ rfl rfl dL_accents_533
                · -- f 515
                  exact absurd h512 h0
            · -- f 494
              exact absurd h491 h0
      · -- f 21
        exfalso; omega
    | succ m15 ih15 =>
      intro i15 E15 hi15 hI15
      have hcr := cntR_le f i15
      refine g_iload 5 rfl dL_accents_15 ?_
      refine g_iload_n 1 rfl dL_accents_17 ?_
      refine gn_icmp_ge (by omega) (by omega) (tgt := 481) (by decide) dL_accents_18 (fun cc3 => ?_) (fun cc3 => ?_)
      · -- t 481
        exfalso; omega
      · -- f 21
        refine g_iload 4 rfl dL_accents_21 ?_
        refine gn_if_eq (by omega) (tgt := 481) (by decide) dL_accents_23 (fun cc4 => ?_) (fun cc4 => ?_)
        · -- t 481
          exact absurd cc4 (by decide)
        · -- f 26
          refine gn_ic 0 (by decide) dL_accents_26 ?_
          refine g_istore (lv2 := [(6, _), (0, _), (1, _), (2, _), (3, _), (4, _), (5, _)]) (by decide) rfl dL_accents_27 ?_
          refine gn_ic 0 (by decide) dL_accents_29 ?_
          refine g_istore (lv2 := [(7, _), (6, _), (0, _), (1, _), (2, _), (3, _), (4, _), (5, _)]) (by decide) rfl dL_accents_30 ?_
          refine g_iconst (v := -1) dL_accents_32 (by decide) ?_
          refine g_istore (lv2 := [(8, _), (7, _), (6, _), (0, _), (1, _), (2, _), (3, _), (4, _), (5, _)]) (by decide) rfl dL_accents_33 ?_
          refine gn_ic 0 (by decide) dL_accents_35 ?_
          refine g_istore (lv2 := [(9, _), (8, _), (7, _), (6, _), (0, _), (1, _), (2, _), (3, _), (4, _), (5, _)]) (by decide) rfl dL_accents_36 ?_
          refine gn_ic 0 (by decide) dL_accents_38 ?_
          refine g_istore (lv2 := [(10, _), (9, _), (8, _), (7, _), (6, _), (0, _), (1, _), (2, _), (3, _), (4, _), (5, _)]) (by decide) rfl dL_accents_39 ?_
          have L41 : ∀ (m41 i41 : Nat), i41 + m41 = 5 → G Γ 10 ML_accents (fun r E2 n2 => r = some (.int (nI 1)) ∧ n2 = n ∧ IW Γ ab ra B D s0 g0 f c kp top E2 n2) X0 41 [(0, .ref ab), (1, .int (nI c)), (2, .int (sumD f i15)), (3, .int (nI (cntR f i15))), (4, .int (nI 1)), (5, .int (nI i15)), (6, .int (dst (rw5 f i15) (la5 f) i41)), (7, .int (nI (dif (rw5 f i15) (la5 f) i41))), (8, .int (far (rw5 f i15) (la5 f) i41).1), (9, .int (far (rw5 f i15) (la5 f) i41).2), (10, .int (nI i41))] [] (E15) n 0 0 := by
            intro m41
            induction m41 with
            | zero =>
              intro i41 hi41
              have hdl := dif_le (rw5 f i15) (la5 f) i41
              refine g_iload 10 rfl dL_accents_41 ?_
              refine gn_ic 5 (by decide) dL_accents_43 ?_
              refine gn_icmp_ge (by omega) (by omega) (tgt := 120) (by decide) dL_accents_44 (fun cc5 => ?_) (fun cc5 => ?_)
              · -- t 120
                obtain rfl : i41 = 5 := by omega
                refine gn_ic 0 (by decide) dL_accents_120 ?_
                refine g_istore (lv2 := [(10, _), (0, _), (1, _), (2, _), (3, _), (4, _), (5, _), (6, _), (7, _), (8, _), (9, _)]) (by decide) rfl dL_accents_121 ?_
                refine g_iconst (v := -1) dL_accents_123 (by decide) ?_
                refine g_istore (lv2 := [(11, _), (10, _), (0, _), (1, _), (2, _), (3, _), (4, _), (5, _), (6, _), (7, _), (8, _), (9, _)]) (by decide) rfl dL_accents_124 ?_
                refine gn_ic 0 (by decide) dL_accents_126 ?_
                refine g_istore (lv2 := [(12, _), (11, _), (10, _), (0, _), (1, _), (2, _), (3, _), (4, _), (5, _), (6, _), (7, _), (8, _), (9, _)]) (by decide) rfl dL_accents_127 ?_
                have L129 : ∀ (m129 i129 : Nat), i129 + m129 = c → G Γ 10 ML_accents (fun r E2 n2 => r = some (.int (nI 1)) ∧ n2 = n ∧ IW Γ ab ra B D s0 g0 f c kp top E2 n2) X0 129 [(0, .ref ab), (1, .int (nI c)), (2, .int (sumD f i15)), (3, .int (nI (cntR f i15))), (4, .int (nI 1)), (5, .int (nI i15)), (6, .int (dst (rw5 f i15) (la5 f) 5)), (7, .int (nI (dif (rw5 f i15) (la5 f) 5))), (8, .int (far (rw5 f i15) (la5 f) 5).1), (10, .int (nI (rcF f i15 i129))), (11, .int (oI (clF f i15 i129))), (12, .int (nI i129))] [] (E15) n 0 0 := by
                  intro m129
                  induction m129 with
                  | zero =>
                    intro i129 hi129
                    have hdl2 := dif_le (rw5 f i15) (la5 f) 5
                    have hrl := rcF_le f i15 i129
                    refine g_iload 11 rfl dL_accents_129 ?_
                    refine g_iload_n 1 rfl dL_accents_131 ?_
                    refine gn_icmp_ge (by omega) (by omega) (tgt := 310) (by decide) dL_accents_132 (fun cc6 => ?_) (fun cc6 => ?_)
                    · -- t 310
                      obtain rfl : c = i129 := by omega
                      refine g_aload_n 0 rfl dL_accents_310 ?_
                      refine g_iload 5 rfl dL_accents_311 ?_
                      refine gv_Vz (k_balanceOf hI15 (by omega)) l_L_139 rfl hI15.rc (Nat.le_of_ble_eq_true rfl) (Nat.le_of_ble_eq_true rfl) rfl dL_accents_313 ?_
                      refine g_if_ge (tgt := 338) (by decide) dL_accents_316 (fun h316 => ?_) (fun h316 => ?_)
                      · -- t 338
                        refine gn_ic 0 (by decide) dL_accents_338 ?_
                        refine g_istore (lv2 := [(12, _), (0, _), (1, _), (2, _), (3, _), (4, _), (5, _), (6, _), (7, _), (8, _), (10, _), (11, _)]) (by decide) rfl dL_accents_339 ?_
                        refine g_iload_n 3 rfl dL_accents_341 ?_
                        refine g_iload 7 rfl dL_accents_342 ?_
                        refine g_iadd dL_accents_344 ?_
                        refine g_istore_n (lv2 := [(2, _), (12, _), (0, _), (1, _), (3, _), (4, _), (5, _), (6, _), (7, _), (8, _), (10, _), (11, _)]) (by decide) rfl dL_accents_345 ?_
                        refine g_iload_n 4 rfl dL_accents_346 ?_
                        refine g_iload 8 rfl dL_accents_347 ?_
                        refine gn_ic 2 (by decide) dL_accents_349 ?_
                        refine gn_icmp_ge (by omega) (by omega) (tgt := 357) (by decide) dL_accents_350 (fun h350 => ?_) (fun h350 => ?_)
                        · -- t 357
                          refine gn_ic 0 (by decide) dL_accents_357 ?_
                          refine gn_iadd0 dL_accents_358 ?_
                          refine g_istore_n (lv2 := [(3, _), (2, _), (12, _), (0, _), (1, _), (4, _), (5, _), (6, _), (7, _), (8, _), (10, _), (11, _)]) (by decide) rfl dL_accents_359 ?_
                          refine g_iload 5 rfl dL_accents_360 ?_
                          refine gn_if_eq (by omega) (tgt := 472) (by decide) dL_accents_362 (fun cc7 => ?_) (fun cc7 => ?_)
                          · -- t 472
                            exact absurd cc7 (by decide)
                          · -- f 365
                            refine g_aload_n 3 rfl dL_accents_365 ?_
                            refine g_iload 6 rfl dL_accents_366 ?_
                            refine gv_Vz (k_distanceToLandlady hI15 (by omega)) l_L_198 rfl hI15.rc (Nat.le_of_ble_eq_true rfl) (Nat.le_of_ble_eq_true rfl) rfl dL_accents_368 ?_
                            refine g_iload 7 rfl dL_accents_371 ?_
                            refine g_icmp_ne (tgt := 472) (by decide) dL_accents_373 (fun h373 => ?_) (fun h373 => ?_)
                            · -- t 472
                              exact absurd rfl h373
                            · -- f 376
                              refine g_aload_n 3 rfl dL_accents_376 ?_
                              refine g_iload 6 rfl dL_accents_377 ?_
                              refine gv_Vz (k_rhymesWithLandlady hI15 (by omega)) l_L_201 rfl hI15.rc (Nat.le_of_ble_eq_true rfl) (Nat.le_of_ble_eq_true rfl) rfl dL_accents_379 ?_
                              refine g_iload 8 rfl dL_accents_382 ?_
                              refine gn_ic 2 (by decide) dL_accents_384 ?_
                              refine gn_icmp_ge (by omega) (by omega) (tgt := 392) (by decide) dL_accents_385 (fun h385 => ?_) (fun h385 => ?_)
                              · -- t 392
                                refine gn_ic 0 (by decide) dL_accents_392 ?_
                                refine g_icmp_ne (tgt := 472) (by decide) dL_accents_393 (fun h393 => ?_) (fun h393 => ?_)
                                · -- t 472
                                  exact absurd (bi_f (by omega)) h393
                                · -- f 396
                                  refine g_aload_n 3 rfl dL_accents_396 ?_
                                  refine g_iload 6 rfl dL_accents_397 ?_
                                  refine gv_Vz (k_lessonVowel hI15 (by omega)) l_L_205 rfl hI15.rc (Nat.le_of_ble_eq_true rfl) (Nat.le_of_ble_eq_true rfl) rfl dL_accents_399 ?_
                                  refine g_iload 9 rfl dL_accents_402 ?_
                                  refine g_icmp_ne (tgt := 472) (by decide) dL_accents_404 (fun h404 => ?_) (fun h404 => ?_)
                                  · -- t 472
                                    exact absurd rfl h404
                                  · -- f 407
                                    refine g_aload_n 3 rfl dL_accents_407 ?_
                                    refine g_iload 6 rfl dL_accents_408 ?_
                                    refine gv_Vz (k_rhymeCount hI15 (by omega)) l_L_208 rfl hI15.rc (Nat.le_of_ble_eq_true rfl) (Nat.le_of_ble_eq_true rfl) rfl dL_accents_410 ?_
                                    refine g_iload 10 rfl dL_accents_413 ?_
                                    refine g_icmp_ne (tgt := 472) (by decide) dL_accents_415 (fun h415 => ?_) (fun h415 => ?_)
                                    · -- t 472
                                      exact absurd rfl h415
                                    · -- f 418
                                      refine g_aload_n 3 rfl dL_accents_418 ?_
                                      refine g_iload 6 rfl dL_accents_419 ?_
                                      refine gv_Vz (k_closestTo hI15 (by omega)) l_L_211 rfl hI15.rc (Nat.le_of_ble_eq_true rfl) (Nat.le_of_ble_eq_true rfl) rfl dL_accents_421 ?_
                                      refine g_iload 11 rfl dL_accents_424 ?_
                                      refine g_icmp_ne (tgt := 472) (by decide) dL_accents_426 (fun h426 => ?_) (fun h426 => ?_)
                                      · -- t 472
                                        exact absurd rfl h426
                                      · -- f 429
                                        refine g_aload_n 3 rfl dL_accents_429 ?_
                                        refine g_iload 6 rfl dL_accents_430 ?_
                                        refine gv_Vz (k_mustGo hI15 (by omega)) l_L_214 rfl hI15.rc (Nat.le_of_ble_eq_true rfl) (Nat.le_of_ble_eq_true rfl) rfl dL_accents_432 ?_
                                        refine g_iload 2 rfl dL_accents_435 ?_
                                        refine g_icmp_ne (tgt := 472) (by decide) dL_accents_437 (fun h437 => ?_) (fun h437 => ?_)
                                        · -- t 472
                                          exact absurd (bi_f (fun z => absurd (must_t.mp z).1 (Int32.not_lt.mpr h316))) h437
                                        · -- f 440
                                          refine g_aload_n 3 rfl dL_accents_440 ?_
                                          refine g_iload 6 rfl dL_accents_441 ?_
                                          refine gn_ic 0 (by decide) dL_accents_443 ?_
                                          refine gw_Viz (k_balanceAfter hI15 (by omega) (by omega)) l_L_217 rfl hI15.rc (Nat.le_of_ble_eq_true rfl) (Nat.le_of_ble_eq_true rfl) rfl dL_accents_444 (fun _ _ _ z => ⟨_, z.1⟩) (fun x444 E444 n444 z444 => ?_)
                                          obtain ⟨e444, e2444, hI444⟩ := z444
                                          have e9444 := (Value.int.inj (Option.some.inj e444)).symm
                                          subst e9444
                                          have e3444 := e2444.symm
                                          subst e3444
                                          refine g_aload_n 3 rfl dL_accents_447 ?_
                                          refine g_iload 6 rfl dL_accents_448 ?_
                                          refine gv_Vz (k_balanceOf hI444 (by omega)) l_L_139 rfl hI444.rc (Nat.le_of_ble_eq_true rfl) (Nat.le_of_ble_eq_true rfl) rfl dL_accents_450 ?_
                                          refine g_icmp_ne (tgt := 472) (by decide) dL_accents_453 (fun h453 => ?_) (fun h453 => ?_)
                                          · -- t 472
                                            exact absurd (bal_0 (by omega)) h453
                                          · -- f 456
                                            refine g_aload_n 3 rfl dL_accents_456 ?_
                                            refine g_iload 6 rfl dL_accents_457 ?_
                                            refine gn_ic 0 (by decide) dL_accents_459 ?_
                                            refine gw_Viz (k_distanceAfter hI444 (by omega) (by omega)) l_L_220 rfl hI444.rc (Nat.le_of_ble_eq_true rfl) (Nat.le_of_ble_eq_true rfl) rfl dL_accents_460 (fun _ _ _ z => ⟨_, z.1⟩) (fun x460 E460 n460 z460 => ?_)
                                            obtain ⟨e460, e2460, hI460⟩ := z460
                                            have e9460 := (Value.int.inj (Option.some.inj e460)).symm
                                            subst e9460
                                            have e3460 := e2460.symm
                                            subst e3460
                                            refine g_iload 7 rfl dL_accents_463 ?_
                                            refine g_icmp_ne (tgt := 472) (by decide) dL_accents_465 (fun h465 => ?_) (fun h465 => ?_)
                                            · -- t 472
                                              exact absurd (dis_0 (by omega)) h465
                                            · -- f 468
                                              refine gn_ic 1 (by decide) dL_accents_468 ?_
                                              refine g_goto (tgt := 473) (by decide) dL_accents_469 ?_
                                              refine g_istore (lv2 := [(4, _), (3, _), (2, _), (12, _), (0, _), (1, _), (5, _), (6, _), (7, _), (8, _), (10, _), (11, _)]) (by decide) rfl dL_accents_473 ?_
                                              refine gn_inc (lv2 := [(5, _), (4, _), (3, _), (2, _), (12, _), (0, _), (1, _), (6, _), (7, _), (8, _), (10, _), (11, _)]) 6 rfl (by decide) rfl dL_accents_475 ?_
                                              refine g_goto (tgt := 15) (by decide) dL_accents_478 ?_
                                              refine G.sub [5, 6, 3, 2, 1, 0] rfl ?_
                                              have hq := ih15 (i15 + 1) _ (by omega) hI460
                                              rw [show cntR f (i15 + 1) = cntR f i15 from by rw [cntR, if_neg (by omega), Nat.add_zero]] at hq
                                              exact hq
                              · -- f 388
                                exact absurd h350 h385
                        · -- f 353
                          refine gn_ic 1 (by decide) dL_accents_353 ?_
                          refine g_goto (tgt := 358) (by decide) dL_accents_354 ?_
                          refine gn_iadd dL_accents_358 ?_
                          refine g_istore_n (lv2 := [(3, _), (2, _), (12, _), (0, _), (1, _), (4, _), (5, _), (6, _), (7, _), (8, _), (10, _), (11, _)]) (by decide) rfl dL_accents_359 ?_
                          refine g_iload 5 rfl dL_accents_360 ?_
                          refine gn_if_eq (by omega) (tgt := 472) (by decide) dL_accents_362 (fun cc8 => ?_) (fun cc8 => ?_)
                          · -- t 472
                            exact absurd cc8 (by decide)
                          · -- f 365
                            refine g_aload_n 3 rfl dL_accents_365 ?_
                            refine g_iload 6 rfl dL_accents_366 ?_
                            refine gv_Vz (k_distanceToLandlady hI15 (by omega)) l_L_198 rfl hI15.rc (Nat.le_of_ble_eq_true rfl) (Nat.le_of_ble_eq_true rfl) rfl dL_accents_368 ?_
                            refine g_iload 7 rfl dL_accents_371 ?_
                            refine g_icmp_ne (tgt := 472) (by decide) dL_accents_373 (fun h373 => ?_) (fun h373 => ?_)
                            · -- t 472
                              exact absurd rfl h373
                            · -- f 376
                              refine g_aload_n 3 rfl dL_accents_376 ?_
                              refine g_iload 6 rfl dL_accents_377 ?_
                              refine gv_Vz (k_rhymesWithLandlady hI15 (by omega)) l_L_201 rfl hI15.rc (Nat.le_of_ble_eq_true rfl) (Nat.le_of_ble_eq_true rfl) rfl dL_accents_379 ?_
                              refine g_iload 8 rfl dL_accents_382 ?_
                              refine gn_ic 2 (by decide) dL_accents_384 ?_
                              refine gn_icmp_ge (by omega) (by omega) (tgt := 392) (by decide) dL_accents_385 (fun h385 => ?_) (fun h385 => ?_)
                              · -- t 392
                                exact absurd h385 h350
                              · -- f 388
                                refine gn_ic 1 (by decide) dL_accents_388 ?_
                                refine g_goto (tgt := 393) (by decide) dL_accents_389 ?_
                                refine g_icmp_ne (tgt := 472) (by decide) dL_accents_393 (fun h393 => ?_) (fun h393 => ?_)
                                · -- t 472
                                  exact absurd (bi_t (by omega)) h393
                                · -- f 396
                                  refine g_aload_n 3 rfl dL_accents_396 ?_
                                  refine g_iload 6 rfl dL_accents_397 ?_
                                  refine gv_Vz (k_lessonVowel hI15 (by omega)) l_L_205 rfl hI15.rc (Nat.le_of_ble_eq_true rfl) (Nat.le_of_ble_eq_true rfl) rfl dL_accents_399 ?_
                                  refine g_iload 9 rfl dL_accents_402 ?_
                                  refine g_icmp_ne (tgt := 472) (by decide) dL_accents_404 (fun h404 => ?_) (fun h404 => ?_)
                                  · -- t 472
                                    exact absurd rfl h404
                                  · -- f 407
                                    refine g_aload_n 3 rfl dL_accents_407 ?_
                                    refine g_iload 6 rfl dL_accents_408 ?_
                                    refine gv_Vz (k_rhymeCount hI15 (by omega)) l_L_208 rfl hI15.rc (Nat.le_of_ble_eq_true rfl) (Nat.le_of_ble_eq_true rfl) rfl dL_accents_410 ?_
                                    refine g_iload 10 rfl dL_accents_413 ?_
                                    refine g_icmp_ne (tgt := 472) (by decide) dL_accents_415 (fun h415 => ?_) (fun h415 => ?_)
                                    · -- t 472
                                      exact absurd rfl h415
                                    · -- f 418
                                      refine g_aload_n 3 rfl dL_accents_418 ?_
                                      refine g_iload 6 rfl dL_accents_419 ?_
                                      refine gv_Vz (k_closestTo hI15 (by omega)) l_L_211 rfl hI15.rc (Nat.le_of_ble_eq_true rfl) (Nat.le_of_ble_eq_true rfl) rfl dL_accents_421 ?_
                                      refine g_iload 11 rfl dL_accents_424 ?_
                                      refine g_icmp_ne (tgt := 472) (by decide) dL_accents_426 (fun h426 => ?_) (fun h426 => ?_)
                                      · -- t 472
                                        exact absurd rfl h426
                                      · -- f 429
                                        refine g_aload_n 3 rfl dL_accents_429 ?_
                                        refine g_iload 6 rfl dL_accents_430 ?_
                                        refine gv_Vz (k_mustGo hI15 (by omega)) l_L_214 rfl hI15.rc (Nat.le_of_ble_eq_true rfl) (Nat.le_of_ble_eq_true rfl) rfl dL_accents_432 ?_
                                        refine g_iload 2 rfl dL_accents_435 ?_
                                        refine g_icmp_ne (tgt := 472) (by decide) dL_accents_437 (fun h437 => ?_) (fun h437 => ?_)
                                        · -- t 472
                                          exact absurd (bi_f (fun z => absurd (must_t.mp z).1 (Int32.not_lt.mpr h316))) h437
                                        · -- f 440
                                          refine g_aload_n 3 rfl dL_accents_440 ?_
                                          refine g_iload 6 rfl dL_accents_441 ?_
                                          refine gn_ic 0 (by decide) dL_accents_443 ?_
                                          refine gw_Viz (k_balanceAfter hI15 (by omega) (by omega)) l_L_217 rfl hI15.rc (Nat.le_of_ble_eq_true rfl) (Nat.le_of_ble_eq_true rfl) rfl dL_accents_444 (fun _ _ _ z => ⟨_, z.1⟩) (fun x444 E444 n444 z444 => ?_)
                                          obtain ⟨e444, e2444, hI444⟩ := z444
                                          have e9444 := (Value.int.inj (Option.some.inj e444)).symm
                                          subst e9444
                                          have e3444 := e2444.symm
                                          subst e3444
                                          refine g_aload_n 3 rfl dL_accents_447 ?_
                                          refine g_iload 6 rfl dL_accents_448 ?_
                                          refine gv_Vz (k_balanceOf hI444 (by omega)) l_L_139 rfl hI444.rc (Nat.le_of_ble_eq_true rfl) (Nat.le_of_ble_eq_true rfl) rfl dL_accents_450 ?_
                                          refine g_icmp_ne (tgt := 472) (by decide) dL_accents_453 (fun h453 => ?_) (fun h453 => ?_)
                                          · -- t 472
                                            exact absurd (bal_0 (by omega)) h453
                                          · -- f 456
                                            refine g_aload_n 3 rfl dL_accents_456 ?_
                                            refine g_iload 6 rfl dL_accents_457 ?_
                                            refine gn_ic 0 (by decide) dL_accents_459 ?_
                                            refine gw_Viz (k_distanceAfter hI444 (by omega) (by omega)) l_L_220 rfl hI444.rc (Nat.le_of_ble_eq_true rfl) (Nat.le_of_ble_eq_true rfl) rfl dL_accents_460 (fun _ _ _ z => ⟨_, z.1⟩) (fun x460 E460 n460 z460 => ?_)
                                            obtain ⟨e460, e2460, hI460⟩ := z460
                                            have e9460 := (Value.int.inj (Option.some.inj e460)).symm
                                            subst e9460
                                            have e3460 := e2460.symm
                                            subst e3460
                                            refine g_iload 7 rfl dL_accents_463 ?_
                                            refine g_icmp_ne (tgt := 472) (by decide) dL_accents_465 (fun h465 => ?_) (fun h465 => ?_)
                                            · -- t 472
                                              exact absurd (dis_0 (by omega)) h465
                                            · -- f 468
                                              refine gn_ic 1 (by decide) dL_accents_468 ?_
                                              refine g_goto (tgt := 473) (by decide) dL_accents_469 ?_
                                              refine g_istore (lv2 := [(4, _), (3, _), (2, _), (12, _), (0, _), (1, _), (5, _), (6, _), (7, _), (8, _), (10, _), (11, _)]) (by decide) rfl dL_accents_473 ?_
                                              refine gn_inc (lv2 := [(5, _), (4, _), (3, _), (2, _), (12, _), (0, _), (1, _), (6, _), (7, _), (8, _), (10, _), (11, _)]) 6 rfl (by decide) rfl dL_accents_475 ?_
                                              refine g_goto (tgt := 15) (by decide) dL_accents_478 ?_
                                              refine G.sub [5, 6, 3, 2, 1, 0] rfl ?_
                                              have hq := ih15 (i15 + 1) _ (by omega) hI460
                                              rw [show cntR f (i15 + 1) = cntR f i15 + 1 from by rw [cntR, if_pos (by omega)]] at hq
                                              exact hq
                      · -- f 319
                        refine g_iload 6 rfl dL_accents_319 ?_
                        refine g_aload_n 0 rfl dL_accents_321 ?_
                        refine gv_Vz (k_tolerance hI15 ) l_L_115 rfl hI15.rc (Nat.le_of_ble_eq_true rfl) (Nat.le_of_ble_eq_true rfl) rfl dL_accents_322 ?_
                        refine g_icmp_le (tgt := 338) (by decide) dL_accents_325 (fun h325 => ?_) (fun h325 => ?_)
                        · -- t 338
                          refine gn_ic 0 (by decide) dL_accents_338 ?_
                          refine g_istore (lv2 := [(12, _), (0, _), (1, _), (2, _), (3, _), (4, _), (5, _), (6, _), (7, _), (8, _), (10, _), (11, _)]) (by decide) rfl dL_accents_339 ?_
                          refine g_iload_n 3 rfl dL_accents_341 ?_
                          refine g_iload 7 rfl dL_accents_342 ?_
                          refine g_iadd dL_accents_344 ?_
                          refine g_istore_n (lv2 := [(2, _), (12, _), (0, _), (1, _), (3, _), (4, _), (5, _), (6, _), (7, _), (8, _), (10, _), (11, _)]) (by decide) rfl dL_accents_345 ?_
                          refine g_iload_n 4 rfl dL_accents_346 ?_
                          refine g_iload 8 rfl dL_accents_347 ?_
                          refine gn_ic 2 (by decide) dL_accents_349 ?_
                          refine gn_icmp_ge (by omega) (by omega) (tgt := 357) (by decide) dL_accents_350 (fun h350 => ?_) (fun h350 => ?_)
                          · -- t 357
                            refine gn_ic 0 (by decide) dL_accents_357 ?_
                            refine gn_iadd0 dL_accents_358 ?_
                            refine g_istore_n (lv2 := [(3, _), (2, _), (12, _), (0, _), (1, _), (4, _), (5, _), (6, _), (7, _), (8, _), (10, _), (11, _)]) (by decide) rfl dL_accents_359 ?_
                            refine g_iload 5 rfl dL_accents_360 ?_
                            refine gn_if_eq (by omega) (tgt := 472) (by decide) dL_accents_362 (fun cc9 => ?_) (fun cc9 => ?_)
                            · -- t 472
                              exact absurd cc9 (by decide)
                            · -- f 365
                              refine g_aload_n 3 rfl dL_accents_365 ?_
                              refine g_iload 6 rfl dL_accents_366 ?_
                              refine gv_Vz (k_distanceToLandlady hI15 (by omega)) l_L_198 rfl hI15.rc (Nat.le_of_ble_eq_true rfl) (Nat.le_of_ble_eq_true rfl) rfl dL_accents_368 ?_
                              refine g_iload 7 rfl dL_accents_371 ?_
                              refine g_icmp_ne (tgt := 472) (by decide) dL_accents_373 (fun h373 => ?_) (fun h373 => ?_)
                              · -- t 472
                                exact absurd rfl h373
                              · -- f 376
                                refine g_aload_n 3 rfl dL_accents_376 ?_
                                refine g_iload 6 rfl dL_accents_377 ?_
                                refine gv_Vz (k_rhymesWithLandlady hI15 (by omega)) l_L_201 rfl hI15.rc (Nat.le_of_ble_eq_true rfl) (Nat.le_of_ble_eq_true rfl) rfl dL_accents_379 ?_
                                refine g_iload 8 rfl dL_accents_382 ?_
                                refine gn_ic 2 (by decide) dL_accents_384 ?_
                                refine gn_icmp_ge (by omega) (by omega) (tgt := 392) (by decide) dL_accents_385 (fun h385 => ?_) (fun h385 => ?_)
                                · -- t 392
                                  refine gn_ic 0 (by decide) dL_accents_392 ?_
                                  refine g_icmp_ne (tgt := 472) (by decide) dL_accents_393 (fun h393 => ?_) (fun h393 => ?_)
                                  · -- t 472
                                    exact absurd (bi_f (by omega)) h393
                                  · -- f 396
                                    refine g_aload_n 3 rfl dL_accents_396 ?_
                                    refine g_iload 6 rfl dL_accents_397 ?_
                                    refine gv_Vz (k_lessonVowel hI15 (by omega)) l_L_205 rfl hI15.rc (Nat.le_of_ble_eq_true rfl) (Nat.le_of_ble_eq_true rfl) rfl dL_accents_399 ?_
                                    refine g_iload 9 rfl dL_accents_402 ?_
                                    refine g_icmp_ne (tgt := 472) (by decide) dL_accents_404 (fun h404 => ?_) (fun h404 => ?_)
                                    · -- t 472
                                      exact absurd rfl h404
                                    · -- f 407
                                      refine g_aload_n 3 rfl dL_accents_407 ?_
                                      refine g_iload 6 rfl dL_accents_408 ?_
                                      refine gv_Vz (k_rhymeCount hI15 (by omega)) l_L_208 rfl hI15.rc (Nat.le_of_ble_eq_true rfl) (Nat.le_of_ble_eq_true rfl) rfl dL_accents_410 ?_
                                      refine g_iload 10 rfl dL_accents_413 ?_
                                      refine g_icmp_ne (tgt := 472) (by decide) dL_accents_415 (fun h415 => ?_) (fun h415 => ?_)
                                      · -- t 472
                                        exact absurd rfl h415
                                      · -- f 418
                                        refine g_aload_n 3 rfl dL_accents_418 ?_
                                        refine g_iload 6 rfl dL_accents_419 ?_
                                        refine gv_Vz (k_closestTo hI15 (by omega)) l_L_211 rfl hI15.rc (Nat.le_of_ble_eq_true rfl) (Nat.le_of_ble_eq_true rfl) rfl dL_accents_421 ?_
                                        refine g_iload 11 rfl dL_accents_424 ?_
                                        refine g_icmp_ne (tgt := 472) (by decide) dL_accents_426 (fun h426 => ?_) (fun h426 => ?_)
                                        · -- t 472
                                          exact absurd rfl h426
                                        · -- f 429
                                          refine g_aload_n 3 rfl dL_accents_429 ?_
                                          refine g_iload 6 rfl dL_accents_430 ?_
                                          refine gv_Vz (k_mustGo hI15 (by omega)) l_L_214 rfl hI15.rc (Nat.le_of_ble_eq_true rfl) (Nat.le_of_ble_eq_true rfl) rfl dL_accents_432 ?_
                                          refine g_iload 2 rfl dL_accents_435 ?_
                                          refine g_icmp_ne (tgt := 472) (by decide) dL_accents_437 (fun h437 => ?_) (fun h437 => ?_)
                                          · -- t 472
                                            exact absurd (bi_f (fun z => absurd (must_t.mp z).2.1 (Int32.not_lt.mpr h325))) h437
                                          · -- f 440
                                            refine g_aload_n 3 rfl dL_accents_440 ?_
                                            refine g_iload 6 rfl dL_accents_441 ?_
                                            refine gn_ic 0 (by decide) dL_accents_443 ?_
                                            refine gw_Viz (k_balanceAfter hI15 (by omega) (by omega)) l_L_217 rfl hI15.rc (Nat.le_of_ble_eq_true rfl) (Nat.le_of_ble_eq_true rfl) rfl dL_accents_444 (fun _ _ _ z => ⟨_, z.1⟩) (fun x444 E444 n444 z444 => ?_)
                                            obtain ⟨e444, e2444, hI444⟩ := z444
                                            have e9444 := (Value.int.inj (Option.some.inj e444)).symm
                                            subst e9444
                                            have e3444 := e2444.symm
                                            subst e3444
                                            refine g_aload_n 3 rfl dL_accents_447 ?_
                                            refine g_iload 6 rfl dL_accents_448 ?_
                                            refine gv_Vz (k_balanceOf hI444 (by omega)) l_L_139 rfl hI444.rc (Nat.le_of_ble_eq_true rfl) (Nat.le_of_ble_eq_true rfl) rfl dL_accents_450 ?_
                                            refine g_icmp_ne (tgt := 472) (by decide) dL_accents_453 (fun h453 => ?_) (fun h453 => ?_)
                                            · -- t 472
                                              exact absurd (bal_0 (by omega)) h453
                                            · -- f 456
                                              refine g_aload_n 3 rfl dL_accents_456 ?_
                                              refine g_iload 6 rfl dL_accents_457 ?_
                                              refine gn_ic 0 (by decide) dL_accents_459 ?_
                                              refine gw_Viz (k_distanceAfter hI444 (by omega) (by omega)) l_L_220 rfl hI444.rc (Nat.le_of_ble_eq_true rfl) (Nat.le_of_ble_eq_true rfl) rfl dL_accents_460 (fun _ _ _ z => ⟨_, z.1⟩) (fun x460 E460 n460 z460 => ?_)
                                              obtain ⟨e460, e2460, hI460⟩ := z460
                                              have e9460 := (Value.int.inj (Option.some.inj e460)).symm
                                              subst e9460
                                              have e3460 := e2460.symm
                                              subst e3460
                                              refine g_iload 7 rfl dL_accents_463 ?_
                                              refine g_icmp_ne (tgt := 472) (by decide) dL_accents_465 (fun h465 => ?_) (fun h465 => ?_)
                                              · -- t 472
                                                exact absurd (dis_0 (by omega)) h465
                                              · -- f 468
                                                refine gn_ic 1 (by decide) dL_accents_468 ?_
                                                refine g_goto (tgt := 473) (by decide) dL_accents_469 ?_
                                                refine g_istore (lv2 := [(4, _), (3, _), (2, _), (12, _), (0, _), (1, _), (5, _), (6, _), (7, _), (8, _), (10, _), (11, _)]) (by decide) rfl dL_accents_473 ?_
                                                refine gn_inc (lv2 := [(5, _), (4, _), (3, _), (2, _), (12, _), (0, _), (1, _), (6, _), (7, _), (8, _), (10, _), (11, _)]) 6 rfl (by decide) rfl dL_accents_475 ?_
                                                refine g_goto (tgt := 15) (by decide) dL_accents_478 ?_
                                                refine G.sub [5, 6, 3, 2, 1, 0] rfl ?_
                                                have hq := ih15 (i15 + 1) _ (by omega) hI460
                                                rw [show cntR f (i15 + 1) = cntR f i15 from by rw [cntR, if_neg (by omega), Nat.add_zero]] at hq
                                                exact hq
                                · -- f 388
                                  exact absurd h350 h385
                          · -- f 353
                            refine gn_ic 1 (by decide) dL_accents_353 ?_
                            refine g_goto (tgt := 358) (by decide) dL_accents_354 ?_
                            refine gn_iadd dL_accents_358 ?_
                            refine g_istore_n (lv2 := [(3, _), (2, _), (12, _), (0, _), (1, _), (4, _), (5, _), (6, _), (7, _), (8, _), (10, _), (11, _)]) (by decide) rfl dL_accents_359 ?_
                            refine g_iload 5 rfl dL_accents_360 ?_
                            refine gn_if_eq (by omega) (tgt := 472) (by decide) dL_accents_362 (fun cc10 => ?_) (fun cc10 => ?_)
                            · -- t 472
                              exact absurd cc10 (by decide)
                            · -- f 365
                              refine g_aload_n 3 rfl dL_accents_365 ?_
                              refine g_iload 6 rfl dL_accents_366 ?_
                              refine gv_Vz (k_distanceToLandlady hI15 (by omega)) l_L_198 rfl hI15.rc (Nat.le_of_ble_eq_true rfl) (Nat.le_of_ble_eq_true rfl) rfl dL_accents_368 ?_
                              refine g_iload 7 rfl dL_accents_371 ?_
                              refine g_icmp_ne (tgt := 472) (by decide) dL_accents_373 (fun h373 => ?_) (fun h373 => ?_)
                              · -- t 472
                                exact absurd rfl h373
                              · -- f 376
                                refine g_aload_n 3 rfl dL_accents_376 ?_
                                refine g_iload 6 rfl dL_accents_377 ?_
                                refine gv_Vz (k_rhymesWithLandlady hI15 (by omega)) l_L_201 rfl hI15.rc (Nat.le_of_ble_eq_true rfl) (Nat.le_of_ble_eq_true rfl) rfl dL_accents_379 ?_
                                refine g_iload 8 rfl dL_accents_382 ?_
                                refine gn_ic 2 (by decide) dL_accents_384 ?_
                                refine gn_icmp_ge (by omega) (by omega) (tgt := 392) (by decide) dL_accents_385 (fun h385 => ?_) (fun h385 => ?_)
                                · -- t 392
                                  exact absurd h385 h350
                                · -- f 388
                                  refine gn_ic 1 (by decide) dL_accents_388 ?_
                                  refine g_goto (tgt := 393) (by decide) dL_accents_389 ?_
                                  refine g_icmp_ne (tgt := 472) (by decide) dL_accents_393 (fun h393 => ?_) (fun h393 => ?_)
                                  · -- t 472
                                    exact absurd (bi_t (by omega)) h393
                                  · -- f 396
                                    refine g_aload_n 3 rfl dL_accents_396 ?_
                                    refine g_iload 6 rfl dL_accents_397 ?_
                                    refine gv_Vz (k_lessonVowel hI15 (by omega)) l_L_205 rfl hI15.rc (Nat.le_of_ble_eq_true rfl) (Nat.le_of_ble_eq_true rfl) rfl dL_accents_399 ?_
                                    refine g_iload 9 rfl dL_accents_402 ?_
                                    refine g_icmp_ne (tgt := 472) (by decide) dL_accents_404 (fun h404 => ?_) (fun h404 => ?_)
                                    · -- t 472
                                      exact absurd rfl h404
                                    · -- f 407
                                      refine g_aload_n 3 rfl dL_accents_407 ?_
                                      refine g_iload 6 rfl dL_accents_408 ?_
                                      refine gv_Vz (k_rhymeCount hI15 (by omega)) l_L_208 rfl hI15.rc (Nat.le_of_ble_eq_true rfl) (Nat.le_of_ble_eq_true rfl) rfl dL_accents_410 ?_
                                      refine g_iload 10 rfl dL_accents_413 ?_
                                      refine g_icmp_ne (tgt := 472) (by decide) dL_accents_415 (fun h415 => ?_) (fun h415 => ?_)
                                      · -- t 472
                                        exact absurd rfl h415
                                      · -- f 418
                                        refine g_aload_n 3 rfl dL_accents_418 ?_
                                        refine g_iload 6 rfl dL_accents_419 ?_
                                        refine gv_Vz (k_closestTo hI15 (by omega)) l_L_211 rfl hI15.rc (Nat.le_of_ble_eq_true rfl) (Nat.le_of_ble_eq_true rfl) rfl dL_accents_421 ?_
                                        refine g_iload 11 rfl dL_accents_424 ?_
                                        refine g_icmp_ne (tgt := 472) (by decide) dL_accents_426 (fun h426 => ?_) (fun h426 => ?_)
                                        · -- t 472
                                          exact absurd rfl h426
                                        · -- f 429
                                          refine g_aload_n 3 rfl dL_accents_429 ?_
                                          refine g_iload 6 rfl dL_accents_430 ?_
                                          refine gv_Vz (k_mustGo hI15 (by omega)) l_L_214 rfl hI15.rc (Nat.le_of_ble_eq_true rfl) (Nat.le_of_ble_eq_true rfl) rfl dL_accents_432 ?_
                                          refine g_iload 2 rfl dL_accents_435 ?_
                                          refine g_icmp_ne (tgt := 472) (by decide) dL_accents_437 (fun h437 => ?_) (fun h437 => ?_)
                                          · -- t 472
                                            exact absurd (bi_f (fun z => absurd (must_t.mp z).2.1 (Int32.not_lt.mpr h325))) h437
                                          · -- f 440
                                            refine g_aload_n 3 rfl dL_accents_440 ?_
                                            refine g_iload 6 rfl dL_accents_441 ?_
                                            refine gn_ic 0 (by decide) dL_accents_443 ?_
                                            refine gw_Viz (k_balanceAfter hI15 (by omega) (by omega)) l_L_217 rfl hI15.rc (Nat.le_of_ble_eq_true rfl) (Nat.le_of_ble_eq_true rfl) rfl dL_accents_444 (fun _ _ _ z => ⟨_, z.1⟩) (fun x444 E444 n444 z444 => ?_)
                                            obtain ⟨e444, e2444, hI444⟩ := z444
                                            have e9444 := (Value.int.inj (Option.some.inj e444)).symm
                                            subst e9444
                                            have e3444 := e2444.symm
                                            subst e3444
                                            refine g_aload_n 3 rfl dL_accents_447 ?_
                                            refine g_iload 6 rfl dL_accents_448 ?_
                                            refine gv_Vz (k_balanceOf hI444 (by omega)) l_L_139 rfl hI444.rc (Nat.le_of_ble_eq_true rfl) (Nat.le_of_ble_eq_true rfl) rfl dL_accents_450 ?_
                                            refine g_icmp_ne (tgt := 472) (by decide) dL_accents_453 (fun h453 => ?_) (fun h453 => ?_)
                                            · -- t 472
                                              exact absurd (bal_0 (by omega)) h453
                                            · -- f 456
                                              refine g_aload_n 3 rfl dL_accents_456 ?_
                                              refine g_iload 6 rfl dL_accents_457 ?_
                                              refine gn_ic 0 (by decide) dL_accents_459 ?_
                                              refine gw_Viz (k_distanceAfter hI444 (by omega) (by omega)) l_L_220 rfl hI444.rc (Nat.le_of_ble_eq_true rfl) (Nat.le_of_ble_eq_true rfl) rfl dL_accents_460 (fun _ _ _ z => ⟨_, z.1⟩) (fun x460 E460 n460 z460 => ?_)
                                              obtain ⟨e460, e2460, hI460⟩ := z460
                                              have e9460 := (Value.int.inj (Option.some.inj e460)).symm
                                              subst e9460
                                              have e3460 := e2460.symm
                                              subst e3460
                                              refine g_iload 7 rfl dL_accents_463 ?_
                                              refine g_icmp_ne (tgt := 472) (by decide) dL_accents_465 (fun h465 => ?_) (fun h465 => ?_)
                                              · -- t 472
                                                exact absurd (dis_0 (by omega)) h465
                                              · -- f 468
                                                refine gn_ic 1 (by decide) dL_accents_468 ?_
                                                refine g_goto (tgt := 473) (by decide) dL_accents_469 ?_
                                                refine g_istore (lv2 := [(4, _), (3, _), (2, _), (12, _), (0, _), (1, _), (5, _), (6, _), (7, _), (8, _), (10, _), (11, _)]) (by decide) rfl dL_accents_473 ?_
                                                refine gn_inc (lv2 := [(5, _), (4, _), (3, _), (2, _), (12, _), (0, _), (1, _), (6, _), (7, _), (8, _), (10, _), (11, _)]) 6 rfl (by decide) rfl dL_accents_475 ?_
                                                refine g_goto (tgt := 15) (by decide) dL_accents_478 ?_
                                                refine G.sub [5, 6, 3, 2, 1, 0] rfl ?_
                                                have hq := ih15 (i15 + 1) _ (by omega) hI460
                                                rw [show cntR f (i15 + 1) = cntR f i15 + 1 from by rw [cntR, if_pos (by omega)]] at hq
                                                exact hq
                        · -- f 328
                          refine g_iload 7 rfl dL_accents_328 ?_
                          refine gn_ic 1 (by decide) dL_accents_330 ?_
                          refine gn_icmp_le (by omega) (by omega) (tgt := 338) (by decide) dL_accents_331 (fun h331 => ?_) (fun h331 => ?_)
                          · -- t 338
                            refine gn_ic 0 (by decide) dL_accents_338 ?_
                            refine g_istore (lv2 := [(12, _), (0, _), (1, _), (2, _), (3, _), (4, _), (5, _), (6, _), (7, _), (8, _), (10, _), (11, _)]) (by decide) rfl dL_accents_339 ?_
                            refine g_iload_n 3 rfl dL_accents_341 ?_
                            refine g_iload 7 rfl dL_accents_342 ?_
                            refine g_iadd dL_accents_344 ?_
                            refine g_istore_n (lv2 := [(2, _), (12, _), (0, _), (1, _), (3, _), (4, _), (5, _), (6, _), (7, _), (8, _), (10, _), (11, _)]) (by decide) rfl dL_accents_345 ?_
                            refine g_iload_n 4 rfl dL_accents_346 ?_
                            refine g_iload 8 rfl dL_accents_347 ?_
                            refine gn_ic 2 (by decide) dL_accents_349 ?_
                            refine gn_icmp_ge (by omega) (by omega) (tgt := 357) (by decide) dL_accents_350 (fun h350 => ?_) (fun h350 => ?_)
                            · -- t 357
                              refine gn_ic 0 (by decide) dL_accents_357 ?_
                              refine gn_iadd0 dL_accents_358 ?_
                              refine g_istore_n (lv2 := [(3, _), (2, _), (12, _), (0, _), (1, _), (4, _), (5, _), (6, _), (7, _), (8, _), (10, _), (11, _)]) (by decide) rfl dL_accents_359 ?_
                              refine g_iload 5 rfl dL_accents_360 ?_
                              refine gn_if_eq (by omega) (tgt := 472) (by decide) dL_accents_362 (fun cc11 => ?_) (fun cc11 => ?_)
                              · -- t 472
                                exact absurd cc11 (by decide)
                              · -- f 365
                                refine g_aload_n 3 rfl dL_accents_365 ?_
                                refine g_iload 6 rfl dL_accents_366 ?_
                                refine gv_Vz (k_distanceToLandlady hI15 (by omega)) l_L_198 rfl hI15.rc (Nat.le_of_ble_eq_true rfl) (Nat.le_of_ble_eq_true rfl) rfl dL_accents_368 ?_
                                refine g_iload 7 rfl dL_accents_371 ?_
                                refine g_icmp_ne (tgt := 472) (by decide) dL_accents_373 (fun h373 => ?_) (fun h373 => ?_)
                                · -- t 472
                                  exact absurd rfl h373
                                · -- f 376
                                  refine g_aload_n 3 rfl dL_accents_376 ?_
                                  refine g_iload 6 rfl dL_accents_377 ?_
                                  refine gv_Vz (k_rhymesWithLandlady hI15 (by omega)) l_L_201 rfl hI15.rc (Nat.le_of_ble_eq_true rfl) (Nat.le_of_ble_eq_true rfl) rfl dL_accents_379 ?_
                                  refine g_iload 8 rfl dL_accents_382 ?_
                                  refine gn_ic 2 (by decide) dL_accents_384 ?_
                                  refine gn_icmp_ge (by omega) (by omega) (tgt := 392) (by decide) dL_accents_385 (fun h385 => ?_) (fun h385 => ?_)
                                  · -- t 392
                                    refine gn_ic 0 (by decide) dL_accents_392 ?_
                                    refine g_icmp_ne (tgt := 472) (by decide) dL_accents_393 (fun h393 => ?_) (fun h393 => ?_)
                                    · -- t 472
                                      exact absurd (bi_f (by omega)) h393
                                    · -- f 396
                                      refine g_aload_n 3 rfl dL_accents_396 ?_
                                      refine g_iload 6 rfl dL_accents_397 ?_
                                      refine gv_Vz (k_lessonVowel hI15 (by omega)) l_L_205 rfl hI15.rc (Nat.le_of_ble_eq_true rfl) (Nat.le_of_ble_eq_true rfl) rfl dL_accents_399 ?_
                                      refine g_iload 9 rfl dL_accents_402 ?_
                                      refine g_icmp_ne (tgt := 472) (by decide) dL_accents_404 (fun h404 => ?_) (fun h404 => ?_)
                                      · -- t 472
                                        exact absurd rfl h404
                                      · -- f 407
                                        refine g_aload_n 3 rfl dL_accents_407 ?_
                                        refine g_iload 6 rfl dL_accents_408 ?_
                                        refine gv_Vz (k_rhymeCount hI15 (by omega)) l_L_208 rfl hI15.rc (Nat.le_of_ble_eq_true rfl) (Nat.le_of_ble_eq_true rfl) rfl dL_accents_410 ?_
                                        refine g_iload 10 rfl dL_accents_413 ?_
                                        refine g_icmp_ne (tgt := 472) (by decide) dL_accents_415 (fun h415 => ?_) (fun h415 => ?_)
                                        · -- t 472
                                          exact absurd rfl h415
                                        · -- f 418
                                          refine g_aload_n 3 rfl dL_accents_418 ?_
                                          refine g_iload 6 rfl dL_accents_419 ?_
                                          refine gv_Vz (k_closestTo hI15 (by omega)) l_L_211 rfl hI15.rc (Nat.le_of_ble_eq_true rfl) (Nat.le_of_ble_eq_true rfl) rfl dL_accents_421 ?_
                                          refine g_iload 11 rfl dL_accents_424 ?_
                                          refine g_icmp_ne (tgt := 472) (by decide) dL_accents_426 (fun h426 => ?_) (fun h426 => ?_)
                                          · -- t 472
                                            exact absurd rfl h426
                                          · -- f 429
                                            refine g_aload_n 3 rfl dL_accents_429 ?_
                                            refine g_iload 6 rfl dL_accents_430 ?_
                                            refine gv_Vz (k_mustGo hI15 (by omega)) l_L_214 rfl hI15.rc (Nat.le_of_ble_eq_true rfl) (Nat.le_of_ble_eq_true rfl) rfl dL_accents_432 ?_
                                            refine g_iload 2 rfl dL_accents_435 ?_
                                            refine g_icmp_ne (tgt := 472) (by decide) dL_accents_437 (fun h437 => ?_) (fun h437 => ?_)
                                            · -- t 472
                                              exact absurd (bi_f (fun z => (must_t.mp z).2.2 h331)) h437
                                            · -- f 440
                                              refine g_aload_n 3 rfl dL_accents_440 ?_
                                              refine g_iload 6 rfl dL_accents_441 ?_
                                              refine gn_ic 0 (by decide) dL_accents_443 ?_
                                              refine gw_Viz (k_balanceAfter hI15 (by omega) (by omega)) l_L_217 rfl hI15.rc (Nat.le_of_ble_eq_true rfl) (Nat.le_of_ble_eq_true rfl) rfl dL_accents_444 (fun _ _ _ z => ⟨_, z.1⟩) (fun x444 E444 n444 z444 => ?_)
                                              obtain ⟨e444, e2444, hI444⟩ := z444
                                              have e9444 := (Value.int.inj (Option.some.inj e444)).symm
                                              subst e9444
                                              have e3444 := e2444.symm
                                              subst e3444
                                              refine g_aload_n 3 rfl dL_accents_447 ?_
                                              refine g_iload 6 rfl dL_accents_448 ?_
                                              refine gv_Vz (k_balanceOf hI444 (by omega)) l_L_139 rfl hI444.rc (Nat.le_of_ble_eq_true rfl) (Nat.le_of_ble_eq_true rfl) rfl dL_accents_450 ?_
                                              refine g_icmp_ne (tgt := 472) (by decide) dL_accents_453 (fun h453 => ?_) (fun h453 => ?_)
                                              · -- t 472
                                                exact absurd (bal_0 (by omega)) h453
                                              · -- f 456
                                                refine g_aload_n 3 rfl dL_accents_456 ?_
                                                refine g_iload 6 rfl dL_accents_457 ?_
                                                refine gn_ic 0 (by decide) dL_accents_459 ?_
                                                refine gw_Viz (k_distanceAfter hI444 (by omega) (by omega)) l_L_220 rfl hI444.rc (Nat.le_of_ble_eq_true rfl) (Nat.le_of_ble_eq_true rfl) rfl dL_accents_460 (fun _ _ _ z => ⟨_, z.1⟩) (fun x460 E460 n460 z460 => ?_)
                                                obtain ⟨e460, e2460, hI460⟩ := z460
                                                have e9460 := (Value.int.inj (Option.some.inj e460)).symm
                                                subst e9460
                                                have e3460 := e2460.symm
                                                subst e3460
                                                refine g_iload 7 rfl dL_accents_463 ?_
                                                refine g_icmp_ne (tgt := 472) (by decide) dL_accents_465 (fun h465 => ?_) (fun h465 => ?_)
                                                · -- t 472
                                                  exact absurd (dis_0 (by omega)) h465
                                                · -- f 468
                                                  refine gn_ic 1 (by decide) dL_accents_468 ?_
                                                  refine g_goto (tgt := 473) (by decide) dL_accents_469 ?_
                                                  refine g_istore (lv2 := [(4, _), (3, _), (2, _), (12, _), (0, _), (1, _), (5, _), (6, _), (7, _), (8, _), (10, _), (11, _)]) (by decide) rfl dL_accents_473 ?_
                                                  refine gn_inc (lv2 := [(5, _), (4, _), (3, _), (2, _), (12, _), (0, _), (1, _), (6, _), (7, _), (8, _), (10, _), (11, _)]) 6 rfl (by decide) rfl dL_accents_475 ?_
                                                  refine g_goto (tgt := 15) (by decide) dL_accents_478 ?_
                                                  refine G.sub [5, 6, 3, 2, 1, 0] rfl ?_
                                                  have hq := ih15 (i15 + 1) _ (by omega) hI460
                                                  rw [show cntR f (i15 + 1) = cntR f i15 from by rw [cntR, if_neg (by omega), Nat.add_zero]] at hq
                                                  exact hq
                                  · -- f 388
                                    exact absurd h350 h385
                            · -- f 353
                              refine gn_ic 1 (by decide) dL_accents_353 ?_
                              refine g_goto (tgt := 358) (by decide) dL_accents_354 ?_
                              refine gn_iadd dL_accents_358 ?_
                              refine g_istore_n (lv2 := [(3, _), (2, _), (12, _), (0, _), (1, _), (4, _), (5, _), (6, _), (7, _), (8, _), (10, _), (11, _)]) (by decide) rfl dL_accents_359 ?_
                              refine g_iload 5 rfl dL_accents_360 ?_
                              refine gn_if_eq (by omega) (tgt := 472) (by decide) dL_accents_362 (fun cc12 => ?_) (fun cc12 => ?_)
                              · -- t 472
                                exact absurd cc12 (by decide)
                              · -- f 365
                                refine g_aload_n 3 rfl dL_accents_365 ?_
                                refine g_iload 6 rfl dL_accents_366 ?_
                                refine gv_Vz (k_distanceToLandlady hI15 (by omega)) l_L_198 rfl hI15.rc (Nat.le_of_ble_eq_true rfl) (Nat.le_of_ble_eq_true rfl) rfl dL_accents_368 ?_
                                refine g_iload 7 rfl dL_accents_371 ?_
                                refine g_icmp_ne (tgt := 472) (by decide) dL_accents_373 (fun h373 => ?_) (fun h373 => ?_)
                                · -- t 472
                                  exact absurd rfl h373
                                · -- f 376
                                  refine g_aload_n 3 rfl dL_accents_376 ?_
                                  refine g_iload 6 rfl dL_accents_377 ?_
                                  refine gv_Vz (k_rhymesWithLandlady hI15 (by omega)) l_L_201 rfl hI15.rc (Nat.le_of_ble_eq_true rfl) (Nat.le_of_ble_eq_true rfl) rfl dL_accents_379 ?_
                                  refine g_iload 8 rfl dL_accents_382 ?_
                                  refine gn_ic 2 (by decide) dL_accents_384 ?_
                                  refine gn_icmp_ge (by omega) (by omega) (tgt := 392) (by decide) dL_accents_385 (fun h385 => ?_) (fun h385 => ?_)
                                  · -- t 392
                                    exact absurd h385 h350
                                  · -- f 388
                                    refine gn_ic 1 (by decide) dL_accents_388 ?_
                                    refine g_goto (tgt := 393) (by decide) dL_accents_389 ?_
                                    refine g_icmp_ne (tgt := 472) (by decide) dL_accents_393 (fun h393 => ?_) (fun h393 => ?_)
                                    · -- t 472
                                      exact absurd (bi_t (by omega)) h393
                                    · -- f 396
                                      refine g_aload_n 3 rfl dL_accents_396 ?_
                                      refine g_iload 6 rfl dL_accents_397 ?_
                                      refine gv_Vz (k_lessonVowel hI15 (by omega)) l_L_205 rfl hI15.rc (Nat.le_of_ble_eq_true rfl) (Nat.le_of_ble_eq_true rfl) rfl dL_accents_399 ?_
                                      refine g_iload 9 rfl dL_accents_402 ?_
                                      refine g_icmp_ne (tgt := 472) (by decide) dL_accents_404 (fun h404 => ?_) (fun h404 => ?_)
                                      · -- t 472
                                        exact absurd rfl h404
                                      · -- f 407
                                        refine g_aload_n 3 rfl dL_accents_407 ?_
                                        refine g_iload 6 rfl dL_accents_408 ?_
                                        refine gv_Vz (k_rhymeCount hI15 (by omega)) l_L_208 rfl hI15.rc (Nat.le_of_ble_eq_true rfl) (Nat.le_of_ble_eq_true rfl) rfl dL_accents_410 ?_
                                        refine g_iload 10 rfl dL_accents_413 ?_
                                        refine g_icmp_ne (tgt := 472) (by decide) dL_accents_415 (fun h415 => ?_) (fun h415 => ?_)
                                        · -- t 472
                                          exact absurd rfl h415
                                        · -- f 418
                                          refine g_aload_n 3 rfl dL_accents_418 ?_
                                          refine g_iload 6 rfl dL_accents_419 ?_
                                          refine gv_Vz (k_closestTo hI15 (by omega)) l_L_211 rfl hI15.rc (Nat.le_of_ble_eq_true rfl) (Nat.le_of_ble_eq_true rfl) rfl dL_accents_421 ?_
                                          refine g_iload 11 rfl dL_accents_424 ?_
                                          refine g_icmp_ne (tgt := 472) (by decide) dL_accents_426 (fun h426 => ?_) (fun h426 => ?_)
                                          · -- t 472
                                            exact absurd rfl h426
                                          · -- f 429
                                            refine g_aload_n 3 rfl dL_accents_429 ?_
                                            refine g_iload 6 rfl dL_accents_430 ?_
                                            refine gv_Vz (k_mustGo hI15 (by omega)) l_L_214 rfl hI15.rc (Nat.le_of_ble_eq_true rfl) (Nat.le_of_ble_eq_true rfl) rfl dL_accents_432 ?_
                                            refine g_iload 2 rfl dL_accents_435 ?_
                                            refine g_icmp_ne (tgt := 472) (by decide) dL_accents_437 (fun h437 => ?_) (fun h437 => ?_)
                                            · -- t 472
                                              exact absurd (bi_f (fun z => (must_t.mp z).2.2 h331)) h437
                                            · -- f 440
                                              refine g_aload_n 3 rfl dL_accents_440 ?_
                                              refine g_iload 6 rfl dL_accents_441 ?_
                                              refine gn_ic 0 (by decide) dL_accents_443 ?_
                                              refine gw_Viz (k_balanceAfter hI15 (by omega) (by omega)) l_L_217 rfl hI15.rc (Nat.le_of_ble_eq_true rfl) (Nat.le_of_ble_eq_true rfl) rfl dL_accents_444 (fun _ _ _ z => ⟨_, z.1⟩) (fun x444 E444 n444 z444 => ?_)
                                              obtain ⟨e444, e2444, hI444⟩ := z444
                                              have e9444 := (Value.int.inj (Option.some.inj e444)).symm
                                              subst e9444
                                              have e3444 := e2444.symm
                                              subst e3444
                                              refine g_aload_n 3 rfl dL_accents_447 ?_
                                              refine g_iload 6 rfl dL_accents_448 ?_
                                              refine gv_Vz (k_balanceOf hI444 (by omega)) l_L_139 rfl hI444.rc (Nat.le_of_ble_eq_true rfl) (Nat.le_of_ble_eq_true rfl) rfl dL_accents_450 ?_
                                              refine g_icmp_ne (tgt := 472) (by decide) dL_accents_453 (fun h453 => ?_) (fun h453 => ?_)
                                              · -- t 472
                                                exact absurd (bal_0 (by omega)) h453
                                              · -- f 456
                                                refine g_aload_n 3 rfl dL_accents_456 ?_
                                                refine g_iload 6 rfl dL_accents_457 ?_
                                                refine gn_ic 0 (by decide) dL_accents_459 ?_
                                                refine gw_Viz (k_distanceAfter hI444 (by omega) (by omega)) l_L_220 rfl hI444.rc (Nat.le_of_ble_eq_true rfl) (Nat.le_of_ble_eq_true rfl) rfl dL_accents_460 (fun _ _ _ z => ⟨_, z.1⟩) (fun x460 E460 n460 z460 => ?_)
                                                obtain ⟨e460, e2460, hI460⟩ := z460
                                                have e9460 := (Value.int.inj (Option.some.inj e460)).symm
                                                subst e9460
                                                have e3460 := e2460.symm
                                                subst e3460
                                                refine g_iload 7 rfl dL_accents_463 ?_
                                                refine g_icmp_ne (tgt := 472) (by decide) dL_accents_465 (fun h465 => ?_) (fun h465 => ?_)
                                                · -- t 472
                                                  exact absurd (dis_0 (by omega)) h465
                                                · -- f 468
                                                  refine gn_ic 1 (by decide) dL_accents_468 ?_
                                                  refine g_goto (tgt := 473) (by decide) dL_accents_469 ?_
                                                  refine g_istore (lv2 := [(4, _), (3, _), (2, _), (12, _), (0, _), (1, _), (5, _), (6, _), (7, _), (8, _), (10, _), (11, _)]) (by decide) rfl dL_accents_473 ?_
                                                  refine gn_inc (lv2 := [(5, _), (4, _), (3, _), (2, _), (12, _), (0, _), (1, _), (6, _), (7, _), (8, _), (10, _), (11, _)]) 6 rfl (by decide) rfl dL_accents_475 ?_
                                                  refine g_goto (tgt := 15) (by decide) dL_accents_478 ?_
                                                  refine G.sub [5, 6, 3, 2, 1, 0] rfl ?_
                                                  have hq := ih15 (i15 + 1) _ (by omega) hI460
                                                  rw [show cntR f (i15 + 1) = cntR f i15 + 1 from by rw [cntR, if_pos (by omega)]] at hq
                                                  exact hq
                          · -- f 334
                            refine gn_ic 1 (by decide) dL_accents_334 ?_
                            refine g_goto (tgt := 339) (by decide) dL_accents_335 ?_
                            refine g_istore (lv2 := [(12, _), (0, _), (1, _), (2, _), (3, _), (4, _), (5, _), (6, _), (7, _), (8, _), (10, _), (11, _)]) (by decide) rfl dL_accents_339 ?_
                            refine g_iload_n 3 rfl dL_accents_341 ?_
                            refine g_iload 7 rfl dL_accents_342 ?_
                            refine g_iadd dL_accents_344 ?_
                            refine g_istore_n (lv2 := [(2, _), (12, _), (0, _), (1, _), (3, _), (4, _), (5, _), (6, _), (7, _), (8, _), (10, _), (11, _)]) (by decide) rfl dL_accents_345 ?_
                            refine g_iload_n 4 rfl dL_accents_346 ?_
                            refine g_iload 8 rfl dL_accents_347 ?_
                            refine gn_ic 2 (by decide) dL_accents_349 ?_
                            refine gn_icmp_ge (by omega) (by omega) (tgt := 357) (by decide) dL_accents_350 (fun h350 => ?_) (fun h350 => ?_)
                            · -- t 357
                              refine gn_ic 0 (by decide) dL_accents_357 ?_
                              refine gn_iadd0 dL_accents_358 ?_
                              refine g_istore_n (lv2 := [(3, _), (2, _), (12, _), (0, _), (1, _), (4, _), (5, _), (6, _), (7, _), (8, _), (10, _), (11, _)]) (by decide) rfl dL_accents_359 ?_
                              refine g_iload 5 rfl dL_accents_360 ?_
                              refine gn_if_eq (by omega) (tgt := 472) (by decide) dL_accents_362 (fun cc13 => ?_) (fun cc13 => ?_)
                              · -- t 472
                                exact absurd cc13 (by decide)
                              · -- f 365
                                refine g_aload_n 3 rfl dL_accents_365 ?_
                                refine g_iload 6 rfl dL_accents_366 ?_
                                refine gv_Vz (k_distanceToLandlady hI15 (by omega)) l_L_198 rfl hI15.rc (Nat.le_of_ble_eq_true rfl) (Nat.le_of_ble_eq_true rfl) rfl dL_accents_368 ?_
                                refine g_iload 7 rfl dL_accents_371 ?_
                                refine g_icmp_ne (tgt := 472) (by decide) dL_accents_373 (fun h373 => ?_) (fun h373 => ?_)
                                · -- t 472
                                  exact absurd rfl h373
                                · -- f 376
                                  refine g_aload_n 3 rfl dL_accents_376 ?_
                                  refine g_iload 6 rfl dL_accents_377 ?_
                                  refine gv_Vz (k_rhymesWithLandlady hI15 (by omega)) l_L_201 rfl hI15.rc (Nat.le_of_ble_eq_true rfl) (Nat.le_of_ble_eq_true rfl) rfl dL_accents_379 ?_
                                  refine g_iload 8 rfl dL_accents_382 ?_
                                  refine gn_ic 2 (by decide) dL_accents_384 ?_
                                  refine gn_icmp_ge (by omega) (by omega) (tgt := 392) (by decide) dL_accents_385 (fun h385 => ?_) (fun h385 => ?_)
                                  · -- t 392
                                    refine gn_ic 0 (by decide) dL_accents_392 ?_
                                    refine g_icmp_ne (tgt := 472) (by decide) dL_accents_393 (fun h393 => ?_) (fun h393 => ?_)
                                    · -- t 472
                                      exact absurd (bi_f (by omega)) h393
                                    · -- f 396
                                      refine g_aload_n 3 rfl dL_accents_396 ?_
                                      refine g_iload 6 rfl dL_accents_397 ?_
                                      refine gv_Vz (k_lessonVowel hI15 (by omega)) l_L_205 rfl hI15.rc (Nat.le_of_ble_eq_true rfl) (Nat.le_of_ble_eq_true rfl) rfl dL_accents_399 ?_
                                      refine g_iload 9 rfl dL_accents_402 ?_
                                      refine g_icmp_ne (tgt := 472) (by decide) dL_accents_404 (fun h404 => ?_) (fun h404 => ?_)
                                      · -- t 472
                                        exact absurd rfl h404
                                      · -- f 407
                                        refine g_aload_n 3 rfl dL_accents_407 ?_
                                        refine g_iload 6 rfl dL_accents_408 ?_
                                        refine gv_Vz (k_rhymeCount hI15 (by omega)) l_L_208 rfl hI15.rc (Nat.le_of_ble_eq_true rfl) (Nat.le_of_ble_eq_true rfl) rfl dL_accents_410 ?_
                                        refine g_iload 10 rfl dL_accents_413 ?_
                                        refine g_icmp_ne (tgt := 472) (by decide) dL_accents_415 (fun h415 => ?_) (fun h415 => ?_)
                                        · -- t 472
                                          exact absurd rfl h415
                                        · -- f 418
                                          refine g_aload_n 3 rfl dL_accents_418 ?_
                                          refine g_iload 6 rfl dL_accents_419 ?_
                                          refine gv_Vz (k_closestTo hI15 (by omega)) l_L_211 rfl hI15.rc (Nat.le_of_ble_eq_true rfl) (Nat.le_of_ble_eq_true rfl) rfl dL_accents_421 ?_
                                          refine g_iload 11 rfl dL_accents_424 ?_
                                          refine g_icmp_ne (tgt := 472) (by decide) dL_accents_426 (fun h426 => ?_) (fun h426 => ?_)
                                          · -- t 472
                                            exact absurd rfl h426
                                          · -- f 429
                                            refine g_aload_n 3 rfl dL_accents_429 ?_
                                            refine g_iload 6 rfl dL_accents_430 ?_
                                            refine gv_Vz (k_mustGo hI15 (by omega)) l_L_214 rfl hI15.rc (Nat.le_of_ble_eq_true rfl) (Nat.le_of_ble_eq_true rfl) rfl dL_accents_432 ?_
                                            refine g_iload 2 rfl dL_accents_435 ?_
                                            refine g_icmp_ne (tgt := 472) (by decide) dL_accents_437 (fun h437 => ?_) (fun h437 => ?_)
                                            · -- t 472
                                              exact absurd (bi_t (must_t.mpr ⟨Int32.not_le.mp h316, Int32.not_le.mp h325, h331⟩)) h437
                                            · -- f 440
                                              refine g_aload_n 3 rfl dL_accents_440 ?_
                                              refine g_iload 6 rfl dL_accents_441 ?_
                                              refine gn_ic 0 (by decide) dL_accents_443 ?_
                                              refine gw_Viz (k_balanceAfter hI15 (by omega) (by omega)) l_L_217 rfl hI15.rc (Nat.le_of_ble_eq_true rfl) (Nat.le_of_ble_eq_true rfl) rfl dL_accents_444 (fun _ _ _ z => ⟨_, z.1⟩) (fun x444 E444 n444 z444 => ?_)
                                              obtain ⟨e444, e2444, hI444⟩ := z444
                                              have e9444 := (Value.int.inj (Option.some.inj e444)).symm
                                              subst e9444
                                              have e3444 := e2444.symm
                                              subst e3444
                                              refine g_aload_n 3 rfl dL_accents_447 ?_
                                              refine g_iload 6 rfl dL_accents_448 ?_
                                              refine gv_Vz (k_balanceOf hI444 (by omega)) l_L_139 rfl hI444.rc (Nat.le_of_ble_eq_true rfl) (Nat.le_of_ble_eq_true rfl) rfl dL_accents_450 ?_
                                              refine g_icmp_ne (tgt := 472) (by decide) dL_accents_453 (fun h453 => ?_) (fun h453 => ?_)
                                              · -- t 472
                                                exact absurd (bal_0 (by omega)) h453
                                              · -- f 456
                                                refine g_aload_n 3 rfl dL_accents_456 ?_
                                                refine g_iload 6 rfl dL_accents_457 ?_
                                                refine gn_ic 0 (by decide) dL_accents_459 ?_
                                                refine gw_Viz (k_distanceAfter hI444 (by omega) (by omega)) l_L_220 rfl hI444.rc (Nat.le_of_ble_eq_true rfl) (Nat.le_of_ble_eq_true rfl) rfl dL_accents_460 (fun _ _ _ z => ⟨_, z.1⟩) (fun x460 E460 n460 z460 => ?_)
                                                obtain ⟨e460, e2460, hI460⟩ := z460
                                                have e9460 := (Value.int.inj (Option.some.inj e460)).symm
                                                subst e9460
                                                have e3460 := e2460.symm
                                                subst e3460
                                                refine g_iload 7 rfl dL_accents_463 ?_
                                                refine g_icmp_ne (tgt := 472) (by decide) dL_accents_465 (fun h465 => ?_) (fun h465 => ?_)
                                                · -- t 472
                                                  exact absurd (dis_0 (by omega)) h465
                                                · -- f 468
                                                  refine gn_ic 1 (by decide) dL_accents_468 ?_
                                                  refine g_goto (tgt := 473) (by decide) dL_accents_469 ?_
                                                  refine g_istore (lv2 := [(4, _), (3, _), (2, _), (12, _), (0, _), (1, _), (5, _), (6, _), (7, _), (8, _), (10, _), (11, _)]) (by decide) rfl dL_accents_473 ?_
                                                  refine gn_inc (lv2 := [(5, _), (4, _), (3, _), (2, _), (12, _), (0, _), (1, _), (6, _), (7, _), (8, _), (10, _), (11, _)]) 6 rfl (by decide) rfl dL_accents_475 ?_
                                                  refine g_goto (tgt := 15) (by decide) dL_accents_478 ?_
                                                  refine G.sub [5, 6, 3, 2, 1, 0] rfl ?_
                                                  have hq := ih15 (i15 + 1) _ (by omega) hI460
                                                  rw [show cntR f (i15 + 1) = cntR f i15 from by rw [cntR, if_neg (by omega), Nat.add_zero]] at hq
                                                  exact hq
                                  · -- f 388
                                    exact absurd h350 h385
                            · -- f 353
                              refine gn_ic 1 (by decide) dL_accents_353 ?_
                              refine g_goto (tgt := 358) (by decide) dL_accents_354 ?_
                              refine gn_iadd dL_accents_358 ?_
                              refine g_istore_n (lv2 := [(3, _), (2, _), (12, _), (0, _), (1, _), (4, _), (5, _), (6, _), (7, _), (8, _), (10, _), (11, _)]) (by decide) rfl dL_accents_359 ?_
                              refine g_iload 5 rfl dL_accents_360 ?_
                              refine gn_if_eq (by omega) (tgt := 472) (by decide) dL_accents_362 (fun cc14 => ?_) (fun cc14 => ?_)
                              · -- t 472
                                exact absurd cc14 (by decide)
                              · -- f 365
                                refine g_aload_n 3 rfl dL_accents_365 ?_
                                refine g_iload 6 rfl dL_accents_366 ?_
                                refine gv_Vz (k_distanceToLandlady hI15 (by omega)) l_L_198 rfl hI15.rc (Nat.le_of_ble_eq_true rfl) (Nat.le_of_ble_eq_true rfl) rfl dL_accents_368 ?_
                                refine g_iload 7 rfl dL_accents_371 ?_
                                refine g_icmp_ne (tgt := 472) (by decide) dL_accents_373 (fun h373 => ?_) (fun h373 => ?_)
                                · -- t 472
                                  exact absurd rfl h373
                                · -- f 376
                                  refine g_aload_n 3 rfl dL_accents_376 ?_
                                  refine g_iload 6 rfl dL_accents_377 ?_
                                  refine gv_Vz (k_rhymesWithLandlady hI15 (by omega)) l_L_201 rfl hI15.rc (Nat.le_of_ble_eq_true rfl) (Nat.le_of_ble_eq_true rfl) rfl dL_accents_379 ?_
                                  refine g_iload 8 rfl dL_accents_382 ?_
                                  refine gn_ic 2 (by decide) dL_accents_384 ?_
                                  refine gn_icmp_ge (by omega) (by omega) (tgt := 392) (by decide) dL_accents_385 (fun h385 => ?_) (fun h385 => ?_)
                                  · -- t 392
                                    exact absurd h385 h350
                                  · -- f 388
                                    refine gn_ic 1 (by decide) dL_accents_388 ?_
                                    refine g_goto (tgt := 393) (by decide) dL_accents_389 ?_
                                    refine g_icmp_ne (tgt := 472) (by decide) dL_accents_393 (fun h393 => ?_) (fun h393 => ?_)
                                    · -- t 472
                                      exact absurd (bi_t (by omega)) h393
                                    · -- f 396
                                      refine g_aload_n 3 rfl dL_accents_396 ?_
                                      refine g_iload 6 rfl dL_accents_397 ?_
                                      refine gv_Vz (k_lessonVowel hI15 (by omega)) l_L_205 rfl hI15.rc (Nat.le_of_ble_eq_true rfl) (Nat.le_of_ble_eq_true rfl) rfl dL_accents_399 ?_
                                      refine g_iload 9 rfl dL_accents_402 ?_
                                      refine g_icmp_ne (tgt := 472) (by decide) dL_accents_404 (fun h404 => ?_) (fun h404 => ?_)
                                      · -- t 472
                                        exact absurd rfl h404
                                      · -- f 407
                                        refine g_aload_n 3 rfl dL_accents_407 ?_
                                        refine g_iload 6 rfl dL_accents_408 ?_
                                        refine gv_Vz (k_rhymeCount hI15 (by omega)) l_L_208 rfl hI15.rc (Nat.le_of_ble_eq_true rfl) (Nat.le_of_ble_eq_true rfl) rfl dL_accents_410 ?_
                                        refine g_iload 10 rfl dL_accents_413 ?_
                                        refine g_icmp_ne (tgt := 472) (by decide) dL_accents_415 (fun h415 => ?_) (fun h415 => ?_)
                                        · -- t 472
                                          exact absurd rfl h415
                                        · -- f 418
                                          refine g_aload_n 3 rfl dL_accents_418 ?_
                                          refine g_iload 6 rfl dL_accents_419 ?_
                                          refine gv_Vz (k_closestTo hI15 (by omega)) l_L_211 rfl hI15.rc (Nat.le_of_ble_eq_true rfl) (Nat.le_of_ble_eq_true rfl) rfl dL_accents_421 ?_
                                          refine g_iload 11 rfl dL_accents_424 ?_
                                          refine g_icmp_ne (tgt := 472) (by decide) dL_accents_426 (fun h426 => ?_) (fun h426 => ?_)
                                          · -- t 472
                                            exact absurd rfl h426
                                          · -- f 429
                                            refine g_aload_n 3 rfl dL_accents_429 ?_
                                            refine g_iload 6 rfl dL_accents_430 ?_
                                            refine gv_Vz (k_mustGo hI15 (by omega)) l_L_214 rfl hI15.rc (Nat.le_of_ble_eq_true rfl) (Nat.le_of_ble_eq_true rfl) rfl dL_accents_432 ?_
                                            refine g_iload 2 rfl dL_accents_435 ?_
                                            refine g_icmp_ne (tgt := 472) (by decide) dL_accents_437 (fun h437 => ?_) (fun h437 => ?_)
                                            · -- t 472
                                              exact absurd (bi_t (must_t.mpr ⟨Int32.not_le.mp h316, Int32.not_le.mp h325, h331⟩)) h437
                                            · -- f 440
                                              refine g_aload_n 3 rfl dL_accents_440 ?_
                                              refine g_iload 6 rfl dL_accents_441 ?_
                                              refine gn_ic 0 (by decide) dL_accents_443 ?_
                                              refine gw_Viz (k_balanceAfter hI15 (by omega) (by omega)) l_L_217 rfl hI15.rc (Nat.le_of_ble_eq_true rfl) (Nat.le_of_ble_eq_true rfl) rfl dL_accents_444 (fun _ _ _ z => ⟨_, z.1⟩) (fun x444 E444 n444 z444 => ?_)
                                              obtain ⟨e444, e2444, hI444⟩ := z444
                                              have e9444 := (Value.int.inj (Option.some.inj e444)).symm
                                              subst e9444
                                              have e3444 := e2444.symm
                                              subst e3444
                                              refine g_aload_n 3 rfl dL_accents_447 ?_
                                              refine g_iload 6 rfl dL_accents_448 ?_
                                              refine gv_Vz (k_balanceOf hI444 (by omega)) l_L_139 rfl hI444.rc (Nat.le_of_ble_eq_true rfl) (Nat.le_of_ble_eq_true rfl) rfl dL_accents_450 ?_
                                              refine g_icmp_ne (tgt := 472) (by decide) dL_accents_453 (fun h453 => ?_) (fun h453 => ?_)
                                              · -- t 472
                                                exact absurd (bal_0 (by omega)) h453
                                              · -- f 456
                                                refine g_aload_n 3 rfl dL_accents_456 ?_
                                                refine g_iload 6 rfl dL_accents_457 ?_
                                                refine gn_ic 0 (by decide) dL_accents_459 ?_
                                                refine gw_Viz (k_distanceAfter hI444 (by omega) (by omega)) l_L_220 rfl hI444.rc (Nat.le_of_ble_eq_true rfl) (Nat.le_of_ble_eq_true rfl) rfl dL_accents_460 (fun _ _ _ z => ⟨_, z.1⟩) (fun x460 E460 n460 z460 => ?_)
                                                obtain ⟨e460, e2460, hI460⟩ := z460
                                                have e9460 := (Value.int.inj (Option.some.inj e460)).symm
                                                subst e9460
                                                have e3460 := e2460.symm
                                                subst e3460
                                                refine g_iload 7 rfl dL_accents_463 ?_
                                                refine g_icmp_ne (tgt := 472) (by decide) dL_accents_465 (fun h465 => ?_) (fun h465 => ?_)
                                                · -- t 472
                                                  exact absurd (dis_0 (by omega)) h465
                                                · -- f 468
                                                  refine gn_ic 1 (by decide) dL_accents_468 ?_
                                                  refine g_goto (tgt := 473) (by decide) dL_accents_469 ?_
                                                  refine g_istore (lv2 := [(4, _), (3, _), (2, _), (12, _), (0, _), (1, _), (5, _), (6, _), (7, _), (8, _), (10, _), (11, _)]) (by decide) rfl dL_accents_473 ?_
                                                  refine gn_inc (lv2 := [(5, _), (4, _), (3, _), (2, _), (12, _), (0, _), (1, _), (6, _), (7, _), (8, _), (10, _), (11, _)]) 6 rfl (by decide) rfl dL_accents_475 ?_
                                                  refine g_goto (tgt := 15) (by decide) dL_accents_478 ?_
                                                  refine G.sub [5, 6, 3, 2, 1, 0] rfl ?_
                                                  have hq := ih15 (i15 + 1) _ (by omega) hI460
                                                  rw [show cntR f (i15 + 1) = cntR f i15 + 1 from by rw [cntR, if_pos (by omega)]] at hq
                                                  exact hq
                    · -- f 135
                      exfalso; omega
                  | succ m129 ih129 =>
                    intro i129 hi129
                    have hdl2 := dif_le (rw5 f i15) (la5 f) 5
                    have hrl := rcF_le f i15 i129
                    refine g_iload 11 rfl dL_accents_129 ?_
                    refine g_iload_n 1 rfl dL_accents_131 ?_
                    refine gn_icmp_ge (by omega) (by omega) (tgt := 310) (by decide) dL_accents_132 (fun cc15 => ?_) (fun cc15 => ?_)
                    · -- t 310
                      exfalso; omega
                    · -- f 135
                      refine g_iload 4 rfl dL_accents_135 ?_
                      refine gn_if_eq (by omega) (tgt := 310) (by decide) dL_accents_137 (fun cc16 => ?_) (fun cc16 => ?_)
                      · -- t 310
                        exact absurd cc16 (by decide)
                      · -- f 140
                        refine gn_ic 0 (by decide) dL_accents_140 ?_
                        refine g_istore (lv2 := [(13, _), (0, _), (1, _), (2, _), (3, _), (4, _), (5, _), (6, _), (7, _), (8, _), (10, _), (11, _), (12, _)]) (by decide) rfl dL_accents_141 ?_
                        refine gn_ic 0 (by decide) dL_accents_143 ?_
                        refine g_istore (lv2 := [(14, _), (13, _), (0, _), (1, _), (2, _), (3, _), (4, _), (5, _), (6, _), (7, _), (8, _), (10, _), (11, _), (12, _)]) (by decide) rfl dL_accents_144 ?_
                        refine gn_ic 0 (by decide) dL_accents_146 ?_
                        refine g_istore (lv2 := [(15, _), (14, _), (13, _), (0, _), (1, _), (2, _), (3, _), (4, _), (5, _), (6, _), (7, _), (8, _), (10, _), (11, _), (12, _)]) (by decide) rfl dL_accents_147 ?_
                        have L149 : ∀ (m149 i149 : Nat), i149 + m149 = 5 → G Γ 10 ML_accents (fun r E2 n2 => r = some (.int (nI 1)) ∧ n2 = n ∧ IW Γ ab ra B D s0 g0 f c kp top E2 n2) X0 149 [(0, .ref ab), (1, .int (nI c)), (2, .int (sumD f i15)), (3, .int (nI (cntR f i15))), (4, .int (nI 1)), (5, .int (nI i15)), (6, .int (dst (rw5 f i15) (la5 f) 5)), (7, .int (nI (dif (rw5 f i15) (la5 f) 5))), (8, .int (far (rw5 f i15) (la5 f) 5).1), (10, .int (nI (rcF f i15 i129))), (11, .int (oI (clF f i15 i129))), (12, .int (nI i129)), (13, .int (dst (rw5 f i15) (rw5 f i129) i149)), (14, .int (nI (dif (rw5 f i15) (rw5 f i129) i149))), (15, .int (nI i149))] [] (E15) n 0 0 := by
                          intro m149
                          induction m149 with
                          | zero =>
                            intro i149 hi149
                            have hdl3 := dif_le (rw5 f i15) (rw5 f i129) i149
                            refine g_iload 14 rfl dL_accents_149 ?_
                            refine gn_ic 5 (by decide) dL_accents_151 ?_
                            refine gn_icmp_ge (by omega) (by omega) (tgt := 205) (by decide) dL_accents_152 (fun cc17 => ?_) (fun cc17 => ?_)
                            · -- t 205
                              obtain rfl : i149 = 5 := by omega
                              refine g_iload 9 rfl dL_accents_205 ?_
                              refine g_iload 11 rfl dL_accents_207 ?_
                              refine g_iload 5 rfl dL_accents_209 ?_
                              refine gn_icmp_eq (by omega) (by omega) (tgt := 224) (by decide) dL_accents_211 (fun h211 => ?_) (fun h211 => ?_)
                              · -- t 224
                                refine gn_ic 0 (by decide) dL_accents_224 ?_
                                refine gn_iadd0 dL_accents_225 ?_
                                refine g_istore (lv2 := [(10, _), (0, _), (1, _), (2, _), (3, _), (4, _), (5, _), (6, _), (7, _), (8, _), (11, _), (12, _), (13, _), (14, _), (15, _)]) (by decide) rfl dL_accents_226 ?_
                                refine g_iload 11 rfl dL_accents_228 ?_
                                refine g_iload 6 rfl dL_accents_230 ?_
                                refine gn_icmp_eq (by omega) (by omega) (tgt := 258) (by decide) dL_accents_232 (fun h232 => ?_) (fun h232 => ?_)
                                · -- t 258
                                  refine g_iload 10 rfl dL_accents_258 ?_
                                  refine g_istore (lv2 := [(11, _), (10, _), (0, _), (1, _), (2, _), (3, _), (4, _), (5, _), (6, _), (7, _), (8, _), (12, _), (13, _), (14, _), (15, _)]) (by decide) rfl dL_accents_260 ?_
                                  refine g_aload_n 2 rfl dL_accents_262 ?_
                                  refine g_iload 7 rfl dL_accents_263 ?_
                                  refine g_iload 11 rfl dL_accents_265 ?_
                                  refine gv_Vz (k_distance hI15 (by omega) (by omega)) l_L_191 rfl hI15.rc (Nat.le_of_ble_eq_true rfl) (Nat.le_of_ble_eq_true rfl) rfl dL_accents_267 ?_
                                  refine g_iload 12 rfl dL_accents_270 ?_
                                  refine g_icmp_ne (tgt := 301) (by decide) dL_accents_272 (fun h272 => ?_) (fun h272 => ?_)
                                  · -- t 301
                                    exact absurd rfl h272
                                  · -- f 275
                                    refine g_aload_n 2 rfl dL_accents_275 ?_
                                    refine g_iload 7 rfl dL_accents_276 ?_
                                    refine g_iload 11 rfl dL_accents_278 ?_
                                    refine gv_Vz (k_rhymes hI15 (by omega) (by omega)) l_L_194 rfl hI15.rc (Nat.le_of_ble_eq_true rfl) (Nat.le_of_ble_eq_true rfl) rfl dL_accents_280 ?_
                                    refine g_iload 13 rfl dL_accents_283 ?_
                                    refine gn_ic 2 (by decide) dL_accents_285 ?_
                                    refine gn_icmp_ge (by omega) (by omega) (tgt := 293) (by decide) dL_accents_286 (fun h286 => ?_) (fun h286 => ?_)
                                    · -- t 293
                                      refine gn_ic 0 (by decide) dL_accents_293 ?_
                                      refine g_icmp_ne (tgt := 301) (by decide) dL_accents_294 (fun h294 => ?_) (fun h294 => ?_)
                                      · -- t 301
                                        exact absurd (bi_f (by omega)) h294
                                      · -- f 297
                                        refine gn_ic 1 (by decide) dL_accents_297 ?_
                                        refine g_goto (tgt := 302) (by decide) dL_accents_298 ?_
                                        refine g_istore (lv2 := [(4, _), (11, _), (10, _), (0, _), (1, _), (2, _), (3, _), (5, _), (6, _), (7, _), (8, _), (12, _), (13, _), (14, _), (15, _)]) (by decide) rfl dL_accents_302 ?_
                                        refine gn_inc (lv2 := [(12, _), (4, _), (11, _), (10, _), (0, _), (1, _), (2, _), (3, _), (5, _), (6, _), (7, _), (8, _), (13, _), (14, _), (15, _)]) 11 rfl (by decide) rfl dL_accents_304 ?_
                                        refine g_goto (tgt := 129) (by decide) dL_accents_307 ?_
                                        refine G.sub [4, 5, 6, 7, 1, 8, 9, 10, 11, 3, 2, 0] rfl ?_
                                        have hq := ih129 (i129 + 1) (by omega)
                                        rw [show rcF f i15 (i129 + 1) = rcF f i15 i129 from by rw [rcF, if_neg (fun z => z.1 h211), Nat.add_zero], show clF f i15 (i129 + 1) = clF f i15 i129 from clF_k h232] at hq
                                        exact hq
                                    · -- f 289
                                      refine gn_ic 1 (by decide) dL_accents_289 ?_
                                      refine g_goto (tgt := 294) (by decide) dL_accents_290 ?_
                                      refine g_icmp_ne (tgt := 301) (by decide) dL_accents_294 (fun h294 => ?_) (fun h294 => ?_)
                                      · -- t 301
                                        exact absurd (bi_t (by omega)) h294
                                      · -- f 297
                                        refine gn_ic 1 (by decide) dL_accents_297 ?_
                                        refine g_goto (tgt := 302) (by decide) dL_accents_298 ?_
                                        refine g_istore (lv2 := [(4, _), (11, _), (10, _), (0, _), (1, _), (2, _), (3, _), (5, _), (6, _), (7, _), (8, _), (12, _), (13, _), (14, _), (15, _)]) (by decide) rfl dL_accents_302 ?_
                                        refine gn_inc (lv2 := [(12, _), (4, _), (11, _), (10, _), (0, _), (1, _), (2, _), (3, _), (5, _), (6, _), (7, _), (8, _), (13, _), (14, _), (15, _)]) 11 rfl (by decide) rfl dL_accents_304 ?_
                                        refine g_goto (tgt := 129) (by decide) dL_accents_307 ?_
                                        refine G.sub [4, 5, 6, 7, 1, 8, 9, 10, 11, 3, 2, 0] rfl ?_
                                        have hq := ih129 (i129 + 1) (by omega)
                                        rw [show rcF f i15 (i129 + 1) = rcF f i15 i129 from by rw [rcF, if_neg (fun z => z.1 h211), Nat.add_zero], show clF f i15 (i129 + 1) = clF f i15 i129 from clF_k h232] at hq
                                        exact hq
                                · -- f 235
                                  exact absurd h211 h232
                              · -- f 214
                                refine g_iload 13 rfl dL_accents_214 ?_
                                refine gn_ic 2 (by decide) dL_accents_216 ?_
                                refine gn_icmp_ge (by omega) (by omega) (tgt := 224) (by decide) dL_accents_217 (fun h217 => ?_) (fun h217 => ?_)
                                · -- t 224
                                  refine gn_ic 0 (by decide) dL_accents_224 ?_
                                  refine gn_iadd0 dL_accents_225 ?_
                                  refine g_istore (lv2 := [(10, _), (0, _), (1, _), (2, _), (3, _), (4, _), (5, _), (6, _), (7, _), (8, _), (11, _), (12, _), (13, _), (14, _), (15, _)]) (by decide) rfl dL_accents_226 ?_
                                  refine g_iload 11 rfl dL_accents_228 ?_
                                  refine g_iload 6 rfl dL_accents_230 ?_
                                  refine gn_icmp_eq (by omega) (by omega) (tgt := 258) (by decide) dL_accents_232 (fun h232 => ?_) (fun h232 => ?_)
                                  · -- t 258
                                    exact absurd h232 h211
                                  · -- f 235
                                    refine g_iload 10 rfl dL_accents_235 ?_
                                    refine g_if_lt (tgt := 253) (by decide) dL_accents_237 (fun h237 => ?_) (fun h237 => ?_)
                                    · -- t 253
                                      refine g_iload 11 rfl dL_accents_253 ?_
                                      refine g_goto (tgt := 260) (by decide) dL_accents_255 ?_
                                      refine g_istore (lv2 := [(11, _), (10, _), (0, _), (1, _), (2, _), (3, _), (4, _), (5, _), (6, _), (7, _), (8, _), (12, _), (13, _), (14, _), (15, _)]) (by decide) rfl dL_accents_260 ?_
                                      refine g_aload_n 2 rfl dL_accents_262 ?_
                                      refine g_iload 7 rfl dL_accents_263 ?_
                                      refine g_iload 11 rfl dL_accents_265 ?_
                                      refine gv_Vz (k_distance hI15 (by omega) (by omega)) l_L_191 rfl hI15.rc (Nat.le_of_ble_eq_true rfl) (Nat.le_of_ble_eq_true rfl) rfl dL_accents_267 ?_
                                      refine g_iload 12 rfl dL_accents_270 ?_
                                      refine g_icmp_ne (tgt := 301) (by decide) dL_accents_272 (fun h272 => ?_) (fun h272 => ?_)
                                      · -- t 301
                                        exact absurd rfl h272
                                      · -- f 275
                                        refine g_aload_n 2 rfl dL_accents_275 ?_
                                        refine g_iload 7 rfl dL_accents_276 ?_
                                        refine g_iload 11 rfl dL_accents_278 ?_
                                        refine gv_Vz (k_rhymes hI15 (by omega) (by omega)) l_L_194 rfl hI15.rc (Nat.le_of_ble_eq_true rfl) (Nat.le_of_ble_eq_true rfl) rfl dL_accents_280 ?_
                                        refine g_iload 13 rfl dL_accents_283 ?_
                                        refine gn_ic 2 (by decide) dL_accents_285 ?_
                                        refine gn_icmp_ge (by omega) (by omega) (tgt := 293) (by decide) dL_accents_286 (fun h286 => ?_) (fun h286 => ?_)
                                        · -- t 293
                                          refine gn_ic 0 (by decide) dL_accents_293 ?_
                                          refine g_icmp_ne (tgt := 301) (by decide) dL_accents_294 (fun h294 => ?_) (fun h294 => ?_)
                                          · -- t 301
                                            exact absurd (bi_f (by omega)) h294
                                          · -- f 297
                                            refine gn_ic 1 (by decide) dL_accents_297 ?_
                                            refine g_goto (tgt := 302) (by decide) dL_accents_298 ?_
                                            refine g_istore (lv2 := [(4, _), (11, _), (10, _), (0, _), (1, _), (2, _), (3, _), (5, _), (6, _), (7, _), (8, _), (12, _), (13, _), (14, _), (15, _)]) (by decide) rfl dL_accents_302 ?_
                                            refine gn_inc (lv2 := [(12, _), (4, _), (11, _), (10, _), (0, _), (1, _), (2, _), (3, _), (5, _), (6, _), (7, _), (8, _), (13, _), (14, _), (15, _)]) 11 rfl (by decide) rfl dL_accents_304 ?_
                                            refine g_goto (tgt := 129) (by decide) dL_accents_307 ?_
                                            refine G.sub [4, 5, 6, 7, 1, 8, 9, 10, 11, 3, 2, 0] rfl ?_
                                            have hq := ih129 (i129 + 1) (by omega)
                                            rw [show rcF f i15 (i129 + 1) = rcF f i15 i129 from by rw [rcF, if_neg (fun z => by have z2 := z.2; rw [dif_comm] at z2; omega), Nat.add_zero], show clF f i15 (i129 + 1) = some i129 from clF_0 h232 (oI_lt (fun b z => by have := clF_lt z; omega) h237)] at hq
                                            exact hq
                                        · -- f 289
                                          refine gn_ic 1 (by decide) dL_accents_289 ?_
                                          refine g_goto (tgt := 294) (by decide) dL_accents_290 ?_
                                          refine g_icmp_ne (tgt := 301) (by decide) dL_accents_294 (fun h294 => ?_) (fun h294 => ?_)
                                          · -- t 301
                                            exact absurd (bi_t (by omega)) h294
                                          · -- f 297
                                            refine gn_ic 1 (by decide) dL_accents_297 ?_
                                            refine g_goto (tgt := 302) (by decide) dL_accents_298 ?_
                                            refine g_istore (lv2 := [(4, _), (11, _), (10, _), (0, _), (1, _), (2, _), (3, _), (5, _), (6, _), (7, _), (8, _), (12, _), (13, _), (14, _), (15, _)]) (by decide) rfl dL_accents_302 ?_
                                            refine gn_inc (lv2 := [(12, _), (4, _), (11, _), (10, _), (0, _), (1, _), (2, _), (3, _), (5, _), (6, _), (7, _), (8, _), (13, _), (14, _), (15, _)]) 11 rfl (by decide) rfl dL_accents_304 ?_
                                            refine g_goto (tgt := 129) (by decide) dL_accents_307 ?_
                                            refine G.sub [4, 5, 6, 7, 1, 8, 9, 10, 11, 3, 2, 0] rfl ?_
                                            have hq := ih129 (i129 + 1) (by omega)
                                            rw [show rcF f i15 (i129 + 1) = rcF f i15 i129 from by rw [rcF, if_neg (fun z => by have z2 := z.2; rw [dif_comm] at z2; omega), Nat.add_zero], show clF f i15 (i129 + 1) = some i129 from clF_0 h232 (oI_lt (fun b z => by have := clF_lt z; omega) h237)] at hq
                                            exact hq
                                    · -- f 240
                                      obtain ⟨b237, hb237⟩ := oI_nl h237
                                      have hbl := clF_lt hb237
                                      refine g_iload 12 rfl dL_accents_240 ?_
                                      refine g_aload_n 1 rfl dL_accents_242 ?_
                                      refine g_iload 6 rfl dL_accents_243 ?_
                                      refine g_iload 10 rfl dL_accents_245 ?_
                                      refine g_top (y := nI b237) (by rw [hb237]; rfl) ?_
                                      refine gv_Vz (k_distance hI15 (by omega) (by omega)) l_L_191 rfl hI15.rc (Nat.le_of_ble_eq_true rfl) (Nat.le_of_ble_eq_true rfl) rfl dL_accents_247 ?_
                                      refine g_icmp_ge (tgt := 258) (by decide) dL_accents_250 (fun h250 => ?_) (fun h250 => ?_)
                                      · -- t 258
                                        refine g_iload 10 rfl dL_accents_258 ?_
                                        refine g_istore (lv2 := [(11, _), (10, _), (0, _), (1, _), (2, _), (3, _), (4, _), (5, _), (6, _), (7, _), (8, _), (12, _), (13, _), (14, _), (15, _)]) (by decide) rfl dL_accents_260 ?_
                                        refine g_aload_n 2 rfl dL_accents_262 ?_
                                        refine g_iload 7 rfl dL_accents_263 ?_
                                        refine g_iload 11 rfl dL_accents_265 ?_
                                        refine gv_Vz (k_distance hI15 (by omega) (by omega)) l_L_191 rfl hI15.rc (Nat.le_of_ble_eq_true rfl) (Nat.le_of_ble_eq_true rfl) rfl dL_accents_267 ?_
                                        refine g_iload 12 rfl dL_accents_270 ?_
                                        refine g_icmp_ne (tgt := 301) (by decide) dL_accents_272 (fun h272 => ?_) (fun h272 => ?_)
                                        · -- t 301
                                          exact absurd rfl h272
                                        · -- f 275
                                          refine g_aload_n 2 rfl dL_accents_275 ?_
                                          refine g_iload 7 rfl dL_accents_276 ?_
                                          refine g_iload 11 rfl dL_accents_278 ?_
                                          refine gv_Vz (k_rhymes hI15 (by omega) (by omega)) l_L_194 rfl hI15.rc (Nat.le_of_ble_eq_true rfl) (Nat.le_of_ble_eq_true rfl) rfl dL_accents_280 ?_
                                          refine g_iload 13 rfl dL_accents_283 ?_
                                          refine gn_ic 2 (by decide) dL_accents_285 ?_
                                          refine gn_icmp_ge (by omega) (by omega) (tgt := 293) (by decide) dL_accents_286 (fun h286 => ?_) (fun h286 => ?_)
                                          · -- t 293
                                            refine gn_ic 0 (by decide) dL_accents_293 ?_
                                            refine g_icmp_ne (tgt := 301) (by decide) dL_accents_294 (fun h294 => ?_) (fun h294 => ?_)
                                            · -- t 301
                                              exact absurd (bi_f (by omega)) h294
                                            · -- f 297
                                              refine gn_ic 1 (by decide) dL_accents_297 ?_
                                              refine g_goto (tgt := 302) (by decide) dL_accents_298 ?_
                                              refine g_istore (lv2 := [(4, _), (11, _), (10, _), (0, _), (1, _), (2, _), (3, _), (5, _), (6, _), (7, _), (8, _), (12, _), (13, _), (14, _), (15, _)]) (by decide) rfl dL_accents_302 ?_
                                              refine gn_inc (lv2 := [(12, _), (4, _), (11, _), (10, _), (0, _), (1, _), (2, _), (3, _), (5, _), (6, _), (7, _), (8, _), (13, _), (14, _), (15, _)]) 11 rfl (by decide) rfl dL_accents_304 ?_
                                              refine g_goto (tgt := 129) (by decide) dL_accents_307 ?_
                                              refine G.sub [4, 5, 6, 7, 1, 8, 9, 10, 11, 3, 2, 0] rfl ?_
                                              have hq := ih129 (i129 + 1) (by omega)
                                              rw [show rcF f i15 (i129 + 1) = rcF f i15 i129 from by rw [rcF, if_neg (fun z => by have z2 := z.2; rw [dif_comm] at z2; omega), Nat.add_zero], show clF f i15 (i129 + 1) = clF f i15 i129 from (clF_f h232 hb237 (by rw [dst_comm (x := (rw5 f i129)) (y := (rw5 f i15)) 5, dst_comm (x := rw5 f b237) (y := (rw5 f i15)) 5]; exact Int32.not_lt.mpr h250)).trans hb237.symm] at hq
                                              exact hq
                                          · -- f 289
                                            refine gn_ic 1 (by decide) dL_accents_289 ?_
                                            refine g_goto (tgt := 294) (by decide) dL_accents_290 ?_
                                            refine g_icmp_ne (tgt := 301) (by decide) dL_accents_294 (fun h294 => ?_) (fun h294 => ?_)
                                            · -- t 301
                                              exact absurd (bi_t (by omega)) h294
                                            · -- f 297
                                              refine gn_ic 1 (by decide) dL_accents_297 ?_
                                              refine g_goto (tgt := 302) (by decide) dL_accents_298 ?_
                                              refine g_istore (lv2 := [(4, _), (11, _), (10, _), (0, _), (1, _), (2, _), (3, _), (5, _), (6, _), (7, _), (8, _), (12, _), (13, _), (14, _), (15, _)]) (by decide) rfl dL_accents_302 ?_
                                              refine gn_inc (lv2 := [(12, _), (4, _), (11, _), (10, _), (0, _), (1, _), (2, _), (3, _), (5, _), (6, _), (7, _), (8, _), (13, _), (14, _), (15, _)]) 11 rfl (by decide) rfl dL_accents_304 ?_
                                              refine g_goto (tgt := 129) (by decide) dL_accents_307 ?_
                                              refine G.sub [4, 5, 6, 7, 1, 8, 9, 10, 11, 3, 2, 0] rfl ?_
                                              have hq := ih129 (i129 + 1) (by omega)
                                              rw [show rcF f i15 (i129 + 1) = rcF f i15 i129 from by rw [rcF, if_neg (fun z => by have z2 := z.2; rw [dif_comm] at z2; omega), Nat.add_zero], show clF f i15 (i129 + 1) = clF f i15 i129 from (clF_f h232 hb237 (by rw [dst_comm (x := (rw5 f i129)) (y := (rw5 f i15)) 5, dst_comm (x := rw5 f b237) (y := (rw5 f i15)) 5]; exact Int32.not_lt.mpr h250)).trans hb237.symm] at hq
                                              exact hq
                                      · -- f 253
                                        refine g_iload 11 rfl dL_accents_253 ?_
                                        refine g_goto (tgt := 260) (by decide) dL_accents_255 ?_
                                        refine g_istore (lv2 := [(11, _), (10, _), (0, _), (1, _), (2, _), (3, _), (4, _), (5, _), (6, _), (7, _), (8, _), (12, _), (13, _), (14, _), (15, _)]) (by decide) rfl dL_accents_260 ?_
                                        refine g_aload_n 2 rfl dL_accents_262 ?_
                                        refine g_iload 7 rfl dL_accents_263 ?_
                                        refine g_iload 11 rfl dL_accents_265 ?_
                                        refine gv_Vz (k_distance hI15 (by omega) (by omega)) l_L_191 rfl hI15.rc (Nat.le_of_ble_eq_true rfl) (Nat.le_of_ble_eq_true rfl) rfl dL_accents_267 ?_
                                        refine g_iload 12 rfl dL_accents_270 ?_
                                        refine g_icmp_ne (tgt := 301) (by decide) dL_accents_272 (fun h272 => ?_) (fun h272 => ?_)
                                        · -- t 301
                                          exact absurd rfl h272
                                        · -- f 275
                                          refine g_aload_n 2 rfl dL_accents_275 ?_
                                          refine g_iload 7 rfl dL_accents_276 ?_
                                          refine g_iload 11 rfl dL_accents_278 ?_
                                          refine gv_Vz (k_rhymes hI15 (by omega) (by omega)) l_L_194 rfl hI15.rc (Nat.le_of_ble_eq_true rfl) (Nat.le_of_ble_eq_true rfl) rfl dL_accents_280 ?_
                                          refine g_iload 13 rfl dL_accents_283 ?_
                                          refine gn_ic 2 (by decide) dL_accents_285 ?_
                                          refine gn_icmp_ge (by omega) (by omega) (tgt := 293) (by decide) dL_accents_286 (fun h286 => ?_) (fun h286 => ?_)
                                          · -- t 293
                                            refine gn_ic 0 (by decide) dL_accents_293 ?_
                                            refine g_icmp_ne (tgt := 301) (by decide) dL_accents_294 (fun h294 => ?_) (fun h294 => ?_)
                                            · -- t 301
                                              exact absurd (bi_f (by omega)) h294
                                            · -- f 297
                                              refine gn_ic 1 (by decide) dL_accents_297 ?_
                                              refine g_goto (tgt := 302) (by decide) dL_accents_298 ?_
                                              refine g_istore (lv2 := [(4, _), (11, _), (10, _), (0, _), (1, _), (2, _), (3, _), (5, _), (6, _), (7, _), (8, _), (12, _), (13, _), (14, _), (15, _)]) (by decide) rfl dL_accents_302 ?_
                                              refine gn_inc (lv2 := [(12, _), (4, _), (11, _), (10, _), (0, _), (1, _), (2, _), (3, _), (5, _), (6, _), (7, _), (8, _), (13, _), (14, _), (15, _)]) 11 rfl (by decide) rfl dL_accents_304 ?_
                                              refine g_goto (tgt := 129) (by decide) dL_accents_307 ?_
                                              refine G.sub [4, 5, 6, 7, 1, 8, 9, 10, 11, 3, 2, 0] rfl ?_
                                              have hq := ih129 (i129 + 1) (by omega)
                                              rw [show rcF f i15 (i129 + 1) = rcF f i15 i129 from by rw [rcF, if_neg (fun z => by have z2 := z.2; rw [dif_comm] at z2; omega), Nat.add_zero], show clF f i15 (i129 + 1) = some i129 from clF_t h232 hb237 (by rw [dst_comm (x := (rw5 f i129)) (y := (rw5 f i15)) 5, dst_comm (x := rw5 f b237) (y := (rw5 f i15)) 5]; exact Int32.not_le.mp h250)] at hq
                                              exact hq
                                          · -- f 289
                                            refine gn_ic 1 (by decide) dL_accents_289 ?_
                                            refine g_goto (tgt := 294) (by decide) dL_accents_290 ?_
                                            refine g_icmp_ne (tgt := 301) (by decide) dL_accents_294 (fun h294 => ?_) (fun h294 => ?_)
                                            · -- t 301
                                              exact absurd (bi_t (by omega)) h294
                                            · -- f 297
                                              refine gn_ic 1 (by decide) dL_accents_297 ?_
                                              refine g_goto (tgt := 302) (by decide) dL_accents_298 ?_
                                              refine g_istore (lv2 := [(4, _), (11, _), (10, _), (0, _), (1, _), (2, _), (3, _), (5, _), (6, _), (7, _), (8, _), (12, _), (13, _), (14, _), (15, _)]) (by decide) rfl dL_accents_302 ?_
                                              refine gn_inc (lv2 := [(12, _), (4, _), (11, _), (10, _), (0, _), (1, _), (2, _), (3, _), (5, _), (6, _), (7, _), (8, _), (13, _), (14, _), (15, _)]) 11 rfl (by decide) rfl dL_accents_304 ?_
                                              refine g_goto (tgt := 129) (by decide) dL_accents_307 ?_
                                              refine G.sub [4, 5, 6, 7, 1, 8, 9, 10, 11, 3, 2, 0] rfl ?_
                                              have hq := ih129 (i129 + 1) (by omega)
                                              rw [show rcF f i15 (i129 + 1) = rcF f i15 i129 from by rw [rcF, if_neg (fun z => by have z2 := z.2; rw [dif_comm] at z2; omega), Nat.add_zero], show clF f i15 (i129 + 1) = some i129 from clF_t h232 hb237 (by rw [dst_comm (x := (rw5 f i129)) (y := (rw5 f i15)) 5, dst_comm (x := rw5 f b237) (y := (rw5 f i15)) 5]; exact Int32.not_le.mp h250)] at hq
                                              exact hq
                                · -- f 220
                                  refine gn_ic 1 (by decide) dL_accents_220 ?_
                                  refine g_goto (tgt := 225) (by decide) dL_accents_221 ?_
                                  refine gn_iadd dL_accents_225 ?_
                                  refine g_istore (lv2 := [(10, _), (0, _), (1, _), (2, _), (3, _), (4, _), (5, _), (6, _), (7, _), (8, _), (11, _), (12, _), (13, _), (14, _), (15, _)]) (by decide) rfl dL_accents_226 ?_
                                  refine g_iload 11 rfl dL_accents_228 ?_
                                  refine g_iload 6 rfl dL_accents_230 ?_
                                  refine gn_icmp_eq (by omega) (by omega) (tgt := 258) (by decide) dL_accents_232 (fun h232 => ?_) (fun h232 => ?_)
                                  · -- t 258
                                    exact absurd h232 h211
                                  · -- f 235
                                    refine g_iload 10 rfl dL_accents_235 ?_
                                    refine g_if_lt (tgt := 253) (by decide) dL_accents_237 (fun h237 => ?_) (fun h237 => ?_)
                                    · -- t 253
                                      refine g_iload 11 rfl dL_accents_253 ?_
                                      refine g_goto (tgt := 260) (by decide) dL_accents_255 ?_
                                      refine g_istore (lv2 := [(11, _), (10, _), (0, _), (1, _), (2, _), (3, _), (4, _), (5, _), (6, _), (7, _), (8, _), (12, _), (13, _), (14, _), (15, _)]) (by decide) rfl dL_accents_260 ?_
                                      refine g_aload_n 2 rfl dL_accents_262 ?_
                                      refine g_iload 7 rfl dL_accents_263 ?_
                                      refine g_iload 11 rfl dL_accents_265 ?_
                                      refine gv_Vz (k_distance hI15 (by omega) (by omega)) l_L_191 rfl hI15.rc (Nat.le_of_ble_eq_true rfl) (Nat.le_of_ble_eq_true rfl) rfl dL_accents_267 ?_
                                      refine g_iload 12 rfl dL_accents_270 ?_
                                      refine g_icmp_ne (tgt := 301) (by decide) dL_accents_272 (fun h272 => ?_) (fun h272 => ?_)
                                      · -- t 301
                                        exact absurd rfl h272
                                      · -- f 275
                                        refine g_aload_n 2 rfl dL_accents_275 ?_
                                        refine g_iload 7 rfl dL_accents_276 ?_
                                        refine g_iload 11 rfl dL_accents_278 ?_
                                        refine gv_Vz (k_rhymes hI15 (by omega) (by omega)) l_L_194 rfl hI15.rc (Nat.le_of_ble_eq_true rfl) (Nat.le_of_ble_eq_true rfl) rfl dL_accents_280 ?_
                                        refine g_iload 13 rfl dL_accents_283 ?_
                                        refine gn_ic 2 (by decide) dL_accents_285 ?_
                                        refine gn_icmp_ge (by omega) (by omega) (tgt := 293) (by decide) dL_accents_286 (fun h286 => ?_) (fun h286 => ?_)
                                        · -- t 293
                                          refine gn_ic 0 (by decide) dL_accents_293 ?_
                                          refine g_icmp_ne (tgt := 301) (by decide) dL_accents_294 (fun h294 => ?_) (fun h294 => ?_)
                                          · -- t 301
                                            exact absurd (bi_f (by omega)) h294
                                          · -- f 297
                                            refine gn_ic 1 (by decide) dL_accents_297 ?_
                                            refine g_goto (tgt := 302) (by decide) dL_accents_298 ?_
                                            refine g_istore (lv2 := [(4, _), (11, _), (10, _), (0, _), (1, _), (2, _), (3, _), (5, _), (6, _), (7, _), (8, _), (12, _), (13, _), (14, _), (15, _)]) (by decide) rfl dL_accents_302 ?_
                                            refine gn_inc (lv2 := [(12, _), (4, _), (11, _), (10, _), (0, _), (1, _), (2, _), (3, _), (5, _), (6, _), (7, _), (8, _), (13, _), (14, _), (15, _)]) 11 rfl (by decide) rfl dL_accents_304 ?_
                                            refine g_goto (tgt := 129) (by decide) dL_accents_307 ?_
                                            refine G.sub [4, 5, 6, 7, 1, 8, 9, 10, 11, 3, 2, 0] rfl ?_
                                            have hq := ih129 (i129 + 1) (by omega)
                                            rw [show rcF f i15 (i129 + 1) = rcF f i15 i129 + 1 from by rw [rcF, if_pos ⟨h211, by rw [dif_comm]; omega⟩], show clF f i15 (i129 + 1) = some i129 from clF_0 h232 (oI_lt (fun b z => by have := clF_lt z; omega) h237)] at hq
                                            exact hq
                                        · -- f 289
                                          refine gn_ic 1 (by decide) dL_accents_289 ?_
                                          refine g_goto (tgt := 294) (by decide) dL_accents_290 ?_
                                          refine g_icmp_ne (tgt := 301) (by decide) dL_accents_294 (fun h294 => ?_) (fun h294 => ?_)
                                          · -- t 301
                                            exact absurd (bi_t (by omega)) h294
                                          · -- f 297
                                            refine gn_ic 1 (by decide) dL_accents_297 ?_
                                            refine g_goto (tgt := 302) (by decide) dL_accents_298 ?_
                                            refine g_istore (lv2 := [(4, _), (11, _), (10, _), (0, _), (1, _), (2, _), (3, _), (5, _), (6, _), (7, _), (8, _), (12, _), (13, _), (14, _), (15, _)]) (by decide) rfl dL_accents_302 ?_
                                            refine gn_inc (lv2 := [(12, _), (4, _), (11, _), (10, _), (0, _), (1, _), (2, _), (3, _), (5, _), (6, _), (7, _), (8, _), (13, _), (14, _), (15, _)]) 11 rfl (by decide) rfl dL_accents_304 ?_
                                            refine g_goto (tgt := 129) (by decide) dL_accents_307 ?_
                                            refine G.sub [4, 5, 6, 7, 1, 8, 9, 10, 11, 3, 2, 0] rfl ?_
                                            have hq := ih129 (i129 + 1) (by omega)
                                            rw [show rcF f i15 (i129 + 1) = rcF f i15 i129 + 1 from by rw [rcF, if_pos ⟨h211, by rw [dif_comm]; omega⟩], show clF f i15 (i129 + 1) = some i129 from clF_0 h232 (oI_lt (fun b z => by have := clF_lt z; omega) h237)] at hq
                                            exact hq
                                    · -- f 240
                                      obtain ⟨b237, hb237⟩ := oI_nl h237
                                      have hbl := clF_lt hb237
                                      refine g_iload 12 rfl dL_accents_240 ?_
                                      refine g_aload_n 1 rfl dL_accents_242 ?_
                                      refine g_iload 6 rfl dL_accents_243 ?_
                                      refine g_iload 10 rfl dL_accents_245 ?_
                                      refine g_top (y := nI b237) (by rw [hb237]; rfl) ?_
                                      refine gv_Vz (k_distance hI15 (by omega) (by omega)) l_L_191 rfl hI15.rc (Nat.le_of_ble_eq_true rfl) (Nat.le_of_ble_eq_true rfl) rfl dL_accents_247 ?_
                                      refine g_icmp_ge (tgt := 258) (by decide) dL_accents_250 (fun h250 => ?_) (fun h250 => ?_)
                                      · -- t 258
                                        refine g_iload 10 rfl dL_accents_258 ?_
                                        refine g_istore (lv2 := [(11, _), (10, _), (0, _), (1, _), (2, _), (3, _), (4, _), (5, _), (6, _), (7, _), (8, _), (12, _), (13, _), (14, _), (15, _)]) (by decide) rfl dL_accents_260 ?_
                                        refine g_aload_n 2 rfl dL_accents_262 ?_
                                        refine g_iload 7 rfl dL_accents_263 ?_
                                        refine g_iload 11 rfl dL_accents_265 ?_
                                        refine gv_Vz (k_distance hI15 (by omega) (by omega)) l_L_191 rfl hI15.rc (Nat.le_of_ble_eq_true rfl) (Nat.le_of_ble_eq_true rfl) rfl dL_accents_267 ?_
                                        refine g_iload 12 rfl dL_accents_270 ?_
                                        refine g_icmp_ne (tgt := 301) (by decide) dL_accents_272 (fun h272 => ?_) (fun h272 => ?_)
                                        · -- t 301
                                          exact absurd rfl h272
                                        · -- f 275
                                          refine g_aload_n 2 rfl dL_accents_275 ?_
                                          refine g_iload 7 rfl dL_accents_276 ?_
                                          refine g_iload 11 rfl dL_accents_278 ?_
                                          refine gv_Vz (k_rhymes hI15 (by omega) (by omega)) l_L_194 rfl hI15.rc (Nat.le_of_ble_eq_true rfl) (Nat.le_of_ble_eq_true rfl) rfl dL_accents_280 ?_
                                          refine g_iload 13 rfl dL_accents_283 ?_
                                          refine gn_ic 2 (by decide) dL_accents_285 ?_
                                          refine gn_icmp_ge (by omega) (by omega) (tgt := 293) (by decide) dL_accents_286 (fun h286 => ?_) (fun h286 => ?_)
                                          · -- t 293
                                            refine gn_ic 0 (by decide) dL_accents_293 ?_
                                            refine g_icmp_ne (tgt := 301) (by decide) dL_accents_294 (fun h294 => ?_) (fun h294 => ?_)
                                            · -- t 301
                                              exact absurd (bi_f (by omega)) h294
                                            · -- f 297
                                              refine gn_ic 1 (by decide) dL_accents_297 ?_
                                              refine g_goto (tgt := 302) (by decide) dL_accents_298 ?_
                                              refine g_istore (lv2 := [(4, _), (11, _), (10, _), (0, _), (1, _), (2, _), (3, _), (5, _), (6, _), (7, _), (8, _), (12, _), (13, _), (14, _), (15, _)]) (by decide) rfl dL_accents_302 ?_
                                              refine gn_inc (lv2 := [(12, _), (4, _), (11, _), (10, _), (0, _), (1, _), (2, _), (3, _), (5, _), (6, _), (7, _), (8, _), (13, _), (14, _), (15, _)]) 11 rfl (by decide) rfl dL_accents_304 ?_
                                              refine g_goto (tgt := 129) (by decide) dL_accents_307 ?_
                                              refine G.sub [4, 5, 6, 7, 1, 8, 9, 10, 11, 3, 2, 0] rfl ?_
                                              have hq := ih129 (i129 + 1) (by omega)
                                              rw [show rcF f i15 (i129 + 1) = rcF f i15 i129 + 1 from by rw [rcF, if_pos ⟨h211, by rw [dif_comm]; omega⟩], show clF f i15 (i129 + 1) = clF f i15 i129 from (clF_f h232 hb237 (by rw [dst_comm (x := (rw5 f i129)) (y := (rw5 f i15)) 5, dst_comm (x := rw5 f b237) (y := (rw5 f i15)) 5]; exact Int32.not_lt.mpr h250)).trans hb237.symm] at hq
                                              exact hq
                                          · -- f 289
                                            refine gn_ic 1 (by decide) dL_accents_289 ?_
                                            refine g_goto (tgt := 294) (by decide) dL_accents_290 ?_
                                            refine g_icmp_ne (tgt := 301) (by decide) dL_accents_294 (fun h294 => ?_) (fun h294 => ?_)
                                            · -- t 301
                                              exact absurd (bi_t (by omega)) h294
                                            · -- f 297
                                              refine gn_ic 1 (by decide) dL_accents_297 ?_
                                              refine g_goto (tgt := 302) (by decide) dL_accents_298 ?_
                                              refine g_istore (lv2 := [(4, _), (11, _), (10, _), (0, _), (1, _), (2, _), (3, _), (5, _), (6, _), (7, _), (8, _), (12, _), (13, _), (14, _), (15, _)]) (by decide) rfl dL_accents_302 ?_
                                              refine gn_inc (lv2 := [(12, _), (4, _), (11, _), (10, _), (0, _), (1, _), (2, _), (3, _), (5, _), (6, _), (7, _), (8, _), (13, _), (14, _), (15, _)]) 11 rfl (by decide) rfl dL_accents_304 ?_
                                              refine g_goto (tgt := 129) (by decide) dL_accents_307 ?_
                                              refine G.sub [4, 5, 6, 7, 1, 8, 9, 10, 11, 3, 2, 0] rfl ?_
                                              have hq := ih129 (i129 + 1) (by omega)
                                              rw [show rcF f i15 (i129 + 1) = rcF f i15 i129 + 1 from by rw [rcF, if_pos ⟨h211, by rw [dif_comm]; omega⟩], show clF f i15 (i129 + 1) = clF f i15 i129 from (clF_f h232 hb237 (by rw [dst_comm (x := (rw5 f i129)) (y := (rw5 f i15)) 5, dst_comm (x := rw5 f b237) (y := (rw5 f i15)) 5]; exact Int32.not_lt.mpr h250)).trans hb237.symm] at hq
                                              exact hq
                                      · -- f 253
                                        refine g_iload 11 rfl dL_accents_253 ?_
                                        refine g_goto (tgt := 260) (by decide) dL_accents_255 ?_
                                        refine g_istore (lv2 := [(11, _), (10, _), (0, _), (1, _), (2, _), (3, _), (4, _), (5, _), (6, _), (7, _), (8, _), (12, _), (13, _), (14, _), (15, _)]) (by decide) rfl dL_accents_260 ?_
                                        refine g_aload_n 2 rfl dL_accents_262 ?_
                                        refine g_iload 7 rfl dL_accents_263 ?_
                                        refine g_iload 11 rfl dL_accents_265 ?_
                                        refine gv_Vz (k_distance hI15 (by omega) (by omega)) l_L_191 rfl hI15.rc (Nat.le_of_ble_eq_true rfl) (Nat.le_of_ble_eq_true rfl) rfl dL_accents_267 ?_
                                        refine g_iload 12 rfl dL_accents_270 ?_
                                        refine g_icmp_ne (tgt := 301) (by decide) dL_accents_272 (fun h272 => ?_) (fun h272 => ?_)
                                        · -- t 301
                                          exact absurd rfl h272
                                        · -- f 275
                                          refine g_aload_n 2 rfl dL_accents_275 ?_
                                          refine g_iload 7 rfl dL_accents_276 ?_
                                          refine g_iload 11 rfl dL_accents_278 ?_
                                          refine gv_Vz (k_rhymes hI15 (by omega) (by omega)) l_L_194 rfl hI15.rc (Nat.le_of_ble_eq_true rfl) (Nat.le_of_ble_eq_true rfl) rfl dL_accents_280 ?_
                                          refine g_iload 13 rfl dL_accents_283 ?_
                                          refine gn_ic 2 (by decide) dL_accents_285 ?_
                                          refine gn_icmp_ge (by omega) (by omega) (tgt := 293) (by decide) dL_accents_286 (fun h286 => ?_) (fun h286 => ?_)
                                          · -- t 293
                                            refine gn_ic 0 (by decide) dL_accents_293 ?_
                                            refine g_icmp_ne (tgt := 301) (by decide) dL_accents_294 (fun h294 => ?_) (fun h294 => ?_)
                                            · -- t 301
                                              exact absurd (bi_f (by omega)) h294
                                            · -- f 297
                                              refine gn_ic 1 (by decide) dL_accents_297 ?_
                                              refine g_goto (tgt := 302) (by decide) dL_accents_298 ?_
                                              refine g_istore (lv2 := [(4, _), (11, _), (10, _), (0, _), (1, _), (2, _), (3, _), (5, _), (6, _), (7, _), (8, _), (12, _), (13, _), (14, _), (15, _)]) (by decide) rfl dL_accents_302 ?_
                                              refine gn_inc (lv2 := [(12, _), (4, _), (11, _), (10, _), (0, _), (1, _), (2, _), (3, _), (5, _), (6, _), (7, _), (8, _), (13, _), (14, _), (15, _)]) 11 rfl (by decide) rfl dL_accents_304 ?_
                                              refine g_goto (tgt := 129) (by decide) dL_accents_307 ?_
                                              refine G.sub [4, 5, 6, 7, 1, 8, 9, 10, 11, 3, 2, 0] rfl ?_
                                              have hq := ih129 (i129 + 1) (by omega)
                                              rw [show rcF f i15 (i129 + 1) = rcF f i15 i129 + 1 from by rw [rcF, if_pos ⟨h211, by rw [dif_comm]; omega⟩], show clF f i15 (i129 + 1) = some i129 from clF_t h232 hb237 (by rw [dst_comm (x := (rw5 f i129)) (y := (rw5 f i15)) 5, dst_comm (x := rw5 f b237) (y := (rw5 f i15)) 5]; exact Int32.not_le.mp h250)] at hq
                                              exact hq
                                          · -- f 289
                                            refine gn_ic 1 (by decide) dL_accents_289 ?_
                                            refine g_goto (tgt := 294) (by decide) dL_accents_290 ?_
                                            refine g_icmp_ne (tgt := 301) (by decide) dL_accents_294 (fun h294 => ?_) (fun h294 => ?_)
                                            · -- t 301
                                              exact absurd (bi_t (by omega)) h294
                                            · -- f 297
                                              refine gn_ic 1 (by decide) dL_accents_297 ?_
                                              refine g_goto (tgt := 302) (by decide) dL_accents_298 ?_
                                              refine g_istore (lv2 := [(4, _), (11, _), (10, _), (0, _), (1, _), (2, _), (3, _), (5, _), (6, _), (7, _), (8, _), (12, _), (13, _), (14, _), (15, _)]) (by decide) rfl dL_accents_302 ?_
                                              refine gn_inc (lv2 := [(12, _), (4, _), (11, _), (10, _), (0, _), (1, _), (2, _), (3, _), (5, _), (6, _), (7, _), (8, _), (13, _), (14, _), (15, _)]) 11 rfl (by decide) rfl dL_accents_304 ?_
                                              refine g_goto (tgt := 129) (by decide) dL_accents_307 ?_
                                              refine G.sub [4, 5, 6, 7, 1, 8, 9, 10, 11, 3, 2, 0] rfl ?_
                                              have hq := ih129 (i129 + 1) (by omega)
                                              rw [show rcF f i15 (i129 + 1) = rcF f i15 i129 + 1 from by rw [rcF, if_pos ⟨h211, by rw [dif_comm]; omega⟩], show clF f i15 (i129 + 1) = some i129 from clF_t h232 hb237 (by rw [dst_comm (x := (rw5 f i129)) (y := (rw5 f i15)) 5, dst_comm (x := rw5 f b237) (y := (rw5 f i15)) 5]; exact Int32.not_le.mp h250)] at hq
                                              exact hq
                            · -- f 155
                              exfalso; omega
                          | succ m149 ih149 =>
                            intro i149 hi149
                            have hdl3 := dif_le (rw5 f i15) (rw5 f i129) i149
                            refine g_iload 14 rfl dL_accents_149 ?_
                            refine gn_ic 5 (by decide) dL_accents_151 ?_
                            refine gn_icmp_ge (by omega) (by omega) (tgt := 205) (by decide) dL_accents_152 (fun cc18 => ?_) (fun cc18 => ?_)
                            · -- t 205
                              exfalso; omega
                            · -- f 155
                              refine g_aload_n 0 rfl dL_accents_155 ?_
                              refine g_iload 5 rfl dL_accents_156 ?_
                              refine g_iload 14 rfl dL_accents_158 ?_
                              refine gv_Vz (k_vowelOf hI15 (by omega) (by omega)) l_L_154 rfl hI15.rc (Nat.le_of_ble_eq_true rfl) (Nat.le_of_ble_eq_true rfl) rfl dL_accents_160 ?_
                              refine g_aload_n 0 rfl dL_accents_163 ?_
                              refine g_iload 11 rfl dL_accents_164 ?_
                              refine g_iload 14 rfl dL_accents_166 ?_
                              refine gv_Vz (k_vowelOf hI15 (by omega) (by omega)) l_L_154 rfl hI15.rc (Nat.le_of_ble_eq_true rfl) (Nat.le_of_ble_eq_true rfl) rfl dL_accents_168 ?_
                              refine g_isub dL_accents_171 ?_
                              refine g_mabs l_L_180 (Nat.le_of_ble_eq_true rfl) (Nat.le_of_ble_eq_true rfl) dL_accents_172 ?_
                              refine g_istore (lv2 := [(16, _), (0, _), (1, _), (2, _), (3, _), (4, _), (5, _), (6, _), (7, _), (8, _), (10, _), (11, _), (12, _), (13, _), (14, _), (15, _)]) (by decide) rfl dL_accents_175 ?_
                              refine g_iload 13 rfl dL_accents_177 ?_
                              refine g_iload 0 rfl dL_accents_179 ?_
                              refine g_iadd dL_accents_181 ?_
                              refine g_istore (lv2 := [(13, _), (16, _), (0, _), (1, _), (2, _), (3, _), (4, _), (5, _), (6, _), (7, _), (8, _), (10, _), (11, _), (12, _), (14, _), (15, _)]) (by decide) rfl dL_accents_182 ?_
                              refine g_iload 14 rfl dL_accents_184 ?_
                              refine g_iload 1 rfl dL_accents_186 ?_
                              refine g_if_le (tgt := 195) (by decide) dL_accents_188 (fun h188 => ?_) (fun h188 => ?_)
                              · -- t 195
                                refine gn_ic 0 (by decide) dL_accents_195 ?_
                                refine gn_iadd0 dL_accents_196 ?_
                                refine g_istore (lv2 := [(14, _), (13, _), (16, _), (0, _), (1, _), (2, _), (3, _), (4, _), (5, _), (6, _), (7, _), (8, _), (10, _), (11, _), (12, _), (15, _)]) (by decide) rfl dL_accents_197 ?_
                                refine gn_inc (lv2 := [(15, _), (14, _), (13, _), (16, _), (0, _), (1, _), (2, _), (3, _), (4, _), (5, _), (6, _), (7, _), (8, _), (10, _), (11, _), (12, _)]) 15 rfl (by decide) rfl dL_accents_199 ?_
                                refine g_goto (tgt := 149) (by decide) dL_accents_202 ?_
                                refine G.sub [4, 5, 6, 7, 8, 9, 10, 11, 12, 13, 14, 15, 2, 1, 0] rfl ?_
                                have hq := ih149 (i149 + 1) (by omega)
                                rw [show dif (rw5 f i15) (rw5 f i129) (i149 + 1) = dif (rw5 f i15) (rw5 f i129) i149 from dif_0 (x := (rw5 f i15)) (y := (rw5 f i129)) (n := i149) (hpp _ i149 (by omega) (by omega)) (hpp _ i149 (by omega) (by omega)) h188] at hq
                                exact hq
                              · -- f 191
                                refine gn_ic 1 (by decide) dL_accents_191 ?_
                                refine g_goto (tgt := 196) (by decide) dL_accents_192 ?_
                                refine gn_iadd dL_accents_196 ?_
                                refine g_istore (lv2 := [(14, _), (13, _), (16, _), (0, _), (1, _), (2, _), (3, _), (4, _), (5, _), (6, _), (7, _), (8, _), (10, _), (11, _), (12, _), (15, _)]) (by decide) rfl dL_accents_197 ?_
                                refine gn_inc (lv2 := [(15, _), (14, _), (13, _), (16, _), (0, _), (1, _), (2, _), (3, _), (4, _), (5, _), (6, _), (7, _), (8, _), (10, _), (11, _), (12, _)]) 15 rfl (by decide) rfl dL_accents_199 ?_
                                refine g_goto (tgt := 149) (by decide) dL_accents_202 ?_
                                refine G.sub [4, 5, 6, 7, 8, 9, 10, 11, 12, 13, 14, 15, 2, 1, 0] rfl ?_
                                have hq := ih149 (i149 + 1) (by omega)
                                rw [show dif (rw5 f i15) (rw5 f i129) (i149 + 1) = dif (rw5 f i15) (rw5 f i129) i149 + 1 from dif_1 (x := (rw5 f i15)) (y := (rw5 f i129)) (n := i149) (hpp _ i149 (by omega) (by omega)) (hpp _ i149 (by omega) (by omega)) h188] at hq
                                exact hq
                        refine G.sub [3, 4, 5, 6, 7, 8, 9, 10, 11, 12, 13, 14, 2, 1, 0] rfl ?_
                        exact L149 _ 0 (Nat.zero_add _)
                refine G.sub [3, 4, 5, 6, 7, 8, 9, 10, 11, 2, 1, 0] rfl ?_
                exact L129 _ 0 (Nat.zero_add _)
              · -- f 47
                exfalso; omega
            | succ m41 ih41 =>
              intro i41 hi41
              have hdl := dif_le (rw5 f i15) (la5 f) i41
              refine g_iload 10 rfl dL_accents_41 ?_
              refine gn_ic 5 (by decide) dL_accents_43 ?_
              refine gn_icmp_ge (by omega) (by omega) (tgt := 120) (by decide) dL_accents_44 (fun cc19 => ?_) (fun cc19 => ?_)
              · -- t 120
                exfalso; omega
              · -- f 47
                refine g_aload_n 0 rfl dL_accents_47 ?_
                refine g_iload 5 rfl dL_accents_48 ?_
                refine g_iload 10 rfl dL_accents_50 ?_
                refine gv_Vz (k_vowelOf hI15 (by omega) (by omega)) l_L_154 rfl hI15.rc (Nat.le_of_ble_eq_true rfl) (Nat.le_of_ble_eq_true rfl) rfl dL_accents_52 ?_
                refine g_aload_n 0 rfl dL_accents_55 ?_
                refine g_iload 10 rfl dL_accents_56 ?_
                refine gv_Vz (k_landladyVowel hI15 (by omega)) l_L_130 rfl hI15.rc (Nat.le_of_ble_eq_true rfl) (Nat.le_of_ble_eq_true rfl) rfl dL_accents_58 ?_
                refine g_isub dL_accents_61 ?_
                refine g_mabs l_L_180 (Nat.le_of_ble_eq_true rfl) (Nat.le_of_ble_eq_true rfl) dL_accents_62 ?_
                refine g_istore (lv2 := [(11, _), (0, _), (1, _), (2, _), (3, _), (4, _), (5, _), (6, _), (7, _), (8, _), (9, _), (10, _)]) (by decide) rfl dL_accents_65 ?_
                refine g_iload 7 rfl dL_accents_67 ?_
                refine g_iload 0 rfl dL_accents_69 ?_
                refine g_iadd dL_accents_71 ?_
                refine g_istore (lv2 := [(6, _), (11, _), (0, _), (1, _), (2, _), (3, _), (4, _), (5, _), (7, _), (8, _), (9, _), (10, _)]) (by decide) rfl dL_accents_72 ?_
                refine g_iload 8 rfl dL_accents_74 ?_
                refine g_iload 1 rfl dL_accents_76 ?_
                refine g_if_le (tgt := 85) (by decide) dL_accents_78 (fun h78 => ?_) (fun h78 => ?_)
                · -- t 85
                  refine gn_ic 0 (by decide) dL_accents_85 ?_
                  refine gn_iadd0 dL_accents_86 ?_
                  refine g_istore (lv2 := [(7, _), (6, _), (11, _), (0, _), (1, _), (2, _), (3, _), (4, _), (5, _), (8, _), (9, _), (10, _)]) (by decide) rfl dL_accents_87 ?_
                  refine g_iload 2 rfl dL_accents_89 ?_
                  refine g_iload 10 rfl dL_accents_91 ?_
                  refine g_icmp_le (tgt := 101) (by decide) dL_accents_93 (fun h93 => ?_) (fun h93 => ?_)
                  · -- t 101
                    refine g_iload 9 rfl dL_accents_101 ?_
                    refine g_istore (lv2 := [(8, _), (7, _), (6, _), (11, _), (0, _), (1, _), (2, _), (3, _), (4, _), (5, _), (9, _), (10, _)]) (by decide) rfl dL_accents_103 ?_
                    refine g_iload 10 rfl dL_accents_105 ?_
                    refine g_iload 3 rfl dL_accents_107 ?_
                    refine g_mmaxI l_L_185 (Nat.le_of_ble_eq_true rfl) (Nat.le_of_ble_eq_true rfl) dL_accents_109 ?_
                    refine g_top (mx_p h93) ?_
                    refine g_istore (lv2 := [(9, _), (8, _), (7, _), (6, _), (11, _), (0, _), (1, _), (2, _), (3, _), (4, _), (5, _), (10, _)]) (by decide) rfl dL_accents_112 ?_
                    refine gn_inc (lv2 := [(10, _), (9, _), (8, _), (7, _), (6, _), (11, _), (0, _), (1, _), (2, _), (3, _), (4, _), (5, _)]) 11 rfl (by decide) rfl dL_accents_114 ?_
                    refine g_goto (tgt := 41) (by decide) dL_accents_117 ?_
                    refine G.sub [6, 7, 8, 9, 10, 11, 4, 3, 2, 1, 0] rfl ?_
                    have hq := ih41 (i41 + 1) (by omega)
                    rw [show dif (rw5 f i15) (la5 f) (i41 + 1) = dif (rw5 f i15) (la5 f) i41 from dif_0 (x := (rw5 f i15)) (y := (la5 f)) (n := i41) (hpp _ i41 (by omega) (by omega)) (hpl i41 (by omega)) h78, show far (rw5 f i15) (la5 f) (i41 + 1) = _ from far_p (g := (rw5 f i15)) (h := (la5 f)) (v := i41) h93] at hq
                    exact hq
                  · -- f 96
                    refine g_iload 11 rfl dL_accents_96 ?_
                    refine g_goto (tgt := 103) (by decide) dL_accents_98 ?_
                    refine g_istore (lv2 := [(8, _), (7, _), (6, _), (11, _), (0, _), (1, _), (2, _), (3, _), (4, _), (5, _), (9, _), (10, _)]) (by decide) rfl dL_accents_103 ?_
                    refine g_iload 10 rfl dL_accents_105 ?_
                    refine g_iload 3 rfl dL_accents_107 ?_
                    refine g_mmaxI l_L_185 (Nat.le_of_ble_eq_true rfl) (Nat.le_of_ble_eq_true rfl) dL_accents_109 ?_
                    refine g_top (mx_n h93) ?_
                    refine g_istore (lv2 := [(9, _), (8, _), (7, _), (6, _), (11, _), (0, _), (1, _), (2, _), (3, _), (4, _), (5, _), (10, _)]) (by decide) rfl dL_accents_112 ?_
                    refine gn_inc (lv2 := [(10, _), (9, _), (8, _), (7, _), (6, _), (11, _), (0, _), (1, _), (2, _), (3, _), (4, _), (5, _)]) 11 rfl (by decide) rfl dL_accents_114 ?_
                    refine g_goto (tgt := 41) (by decide) dL_accents_117 ?_
                    refine G.sub [6, 7, 8, 9, 10, 11, 4, 3, 2, 1, 0] rfl ?_
                    have hq := ih41 (i41 + 1) (by omega)
                    rw [show dif (rw5 f i15) (la5 f) (i41 + 1) = dif (rw5 f i15) (la5 f) i41 from dif_0 (x := (rw5 f i15)) (y := (la5 f)) (n := i41) (hpp _ i41 (by omega) (by omega)) (hpl i41 (by omega)) h78, show far (rw5 f i15) (la5 f) (i41 + 1) = _ from far_n (g := (rw5 f i15)) (h := (la5 f)) (v := i41) h93] at hq
                    exact hq
                · -- f 81
                  refine gn_ic 1 (by decide) dL_accents_81 ?_
                  refine g_goto (tgt := 86) (by decide) dL_accents_82 ?_
                  refine gn_iadd dL_accents_86 ?_
                  refine g_istore (lv2 := [(7, _), (6, _), (11, _), (0, _), (1, _), (2, _), (3, _), (4, _), (5, _), (8, _), (9, _), (10, _)]) (by decide) rfl dL_accents_87 ?_
                  refine g_iload 2 rfl dL_accents_89 ?_
                  refine g_iload 10 rfl dL_accents_91 ?_
                  refine g_icmp_le (tgt := 101) (by decide) dL_accents_93 (fun h93 => ?_) (fun h93 => ?_)
                  · -- t 101
                    refine g_iload 9 rfl dL_accents_101 ?_
                    refine g_istore (lv2 := [(8, _), (7, _), (6, _), (11, _), (0, _), (1, _), (2, _), (3, _), (4, _), (5, _), (9, _), (10, _)]) (by decide) rfl dL_accents_103 ?_
                    refine g_iload 10 rfl dL_accents_105 ?_
                    refine g_iload 3 rfl dL_accents_107 ?_
                    refine g_mmaxI l_L_185 (Nat.le_of_ble_eq_true rfl) (Nat.le_of_ble_eq_true rfl) dL_accents_109 ?_
                    refine g_top (mx_p h93) ?_
                    refine g_istore (lv2 := [(9, _), (8, _), (7, _), (6, _), (11, _), (0, _), (1, _), (2, _), (3, _), (4, _), (5, _), (10, _)]) (by decide) rfl dL_accents_112 ?_
                    refine gn_inc (lv2 := [(10, _), (9, _), (8, _), (7, _), (6, _), (11, _), (0, _), (1, _), (2, _), (3, _), (4, _), (5, _)]) 11 rfl (by decide) rfl dL_accents_114 ?_
                    refine g_goto (tgt := 41) (by decide) dL_accents_117 ?_
                    refine G.sub [6, 7, 8, 9, 10, 11, 4, 3, 2, 1, 0] rfl ?_
                    have hq := ih41 (i41 + 1) (by omega)
                    rw [show dif (rw5 f i15) (la5 f) (i41 + 1) = dif (rw5 f i15) (la5 f) i41 + 1 from dif_1 (x := (rw5 f i15)) (y := (la5 f)) (n := i41) (hpp _ i41 (by omega) (by omega)) (hpl i41 (by omega)) h78, show far (rw5 f i15) (la5 f) (i41 + 1) = _ from far_p (g := (rw5 f i15)) (h := (la5 f)) (v := i41) h93] at hq
                    exact hq
                  · -- f 96
                    refine g_iload 11 rfl dL_accents_96 ?_
                    refine g_goto (tgt := 103) (by decide) dL_accents_98 ?_
                    refine g_istore (lv2 := [(8, _), (7, _), (6, _), (11, _), (0, _), (1, _), (2, _), (3, _), (4, _), (5, _), (9, _), (10, _)]) (by decide) rfl dL_accents_103 ?_
                    refine g_iload 10 rfl dL_accents_105 ?_
                    refine g_iload 3 rfl dL_accents_107 ?_
                    refine g_mmaxI l_L_185 (Nat.le_of_ble_eq_true rfl) (Nat.le_of_ble_eq_true rfl) dL_accents_109 ?_
                    refine g_top (mx_n h93) ?_
                    refine g_istore (lv2 := [(9, _), (8, _), (7, _), (6, _), (11, _), (0, _), (1, _), (2, _), (3, _), (4, _), (5, _), (10, _)]) (by decide) rfl dL_accents_112 ?_
                    refine gn_inc (lv2 := [(10, _), (9, _), (8, _), (7, _), (6, _), (11, _), (0, _), (1, _), (2, _), (3, _), (4, _), (5, _)]) 11 rfl (by decide) rfl dL_accents_114 ?_
                    refine g_goto (tgt := 41) (by decide) dL_accents_117 ?_
                    refine G.sub [6, 7, 8, 9, 10, 11, 4, 3, 2, 1, 0] rfl ?_
                    have hq := ih41 (i41 + 1) (by omega)
                    rw [show dif (rw5 f i15) (la5 f) (i41 + 1) = dif (rw5 f i15) (la5 f) i41 + 1 from dif_1 (x := (rw5 f i15)) (y := (la5 f)) (n := i41) (hpp _ i41 (by omega) (by omega)) (hpl i41 (by omega)) h78, show far (rw5 f i15) (la5 f) (i41 + 1) = _ from far_n (g := (rw5 f i15)) (h := (la5 f)) (v := i41) h93] at hq
                    exact hq
          refine G.sub [5, 6, 7, 8, 9, 10, 4, 3, 2, 1, 0] rfl ?_
          exact L41 _ 0 (Nat.zero_add _)
  refine G.sub [5, 4, 3, 2, 1, 0] rfl ?_
  exact L15 _ 0 _ (Nat.zero_add _) hI
end GQ6
