/-! the law's cases: each comes to the loop's end, or the law's own answer is false there, which can't be -/
section GCASE
variable {Γ : Gm} {t ab mo n k0 kc ks : Nat} {E : Hp}
abbrev ML_law : Mr := (RL, yL_law, cL_law, 9, some .boolean)
def Pl : Po := fun r _ _ => r = some (.int 1)
abbrev lvL (Γ : Gm) (ab mo t : Nat) : List (Nat × Value) := [(0, .ref (gF Γ 9)), (1, .ref ab), (2, .ref mo), (3, .ref (mo + 11)), (4, .int (nI (6 * t)))]
/-- the next round of the loop -/
def KL (Γ : Gm) (ab mo t kc ks : Nat) : Prop := ∀ E2 n2 k2, IVo Γ ab mo k2 (t + 1) E2 n2 → G Γ 15 ML_law Pl X0 3119 (lvL Γ ab mo t) [] E2 n2 kc ks
theorem cl0 : (nI 0).toNatClampNeg = 0 := by decide +kernel
theorem cmp_I {g : Nat → Int64} {x b : Int32} (h : g 0 = cvI x) (e : b = x) : lg_cmp (g (nI 0).toNatClampNeg) b.toInt64 = 0 := by
  rw [cl0, h, e]; exact lg_cmp_rf _
theorem cmp_B0 {g : Nat → Int64} {x b : Int32} (h : g 0 = cvB x) (e : b = x) (c : b = 0) : lg_cmp (g (nI 0).toNatClampNeg) 0 = 0 := by
  rw [cl0, h]; unfold cvB; rw [if_pos (e.symm.trans c)]; exact lg_cmp_rf _
theorem cmp_B1 {g : Nat → Int64} {x b : Int32} (h : g 0 = cvB x) (e : b = x) (c : ¬ b = 0) : lg_cmp (g (nI 0).toNatClampNeg) 1 = 0 := by
  rw [cl0, h]; unfold cvB; rw [if_neg (fun z => c (e.trans z))]; exact lg_cmp_rf _
theorem nI_0k {k : Nat} (hk : k ≤ 3) (c : nI k = 0) : k = 0 := by
  match k, hk, c with
  | 0, _, _ => rfl
  | 1, _, c => exact absurd c (by decide)
  | 2, _, c => exact absurd c (by decide)
  | 3, _, c => exact absurd c (by decide)
theorem oDcmp {x : UInt64} (h : okD x) : Op.cmpValue (FP.dcmp x x) .l = 0 := by rw [h.2]; rfl
set_option maxRecDepth 100000 in
set_option maxHeartbeats 1000000 in
theorem q_append (h0 : IVo Γ ab mo k0 t E n) (ht : t ≤ 600) (hL : 6 * t + 6 ≤ gF Γ 10) (K : KL Γ ab mo t kc ks) : G Γ 15 ML_law Pl X0 288 (lvL Γ ab mo t) [] E n (kc + 330) (ks + 10200) := by
  refine g_aload_n 1 rfl dL_law_288 ?_
  refine g_aload_n 0 rfl dL_law_289 ?_
  refine g_iload 4 rfl dL_law_290 ?_
  refine gn_ic 1 (by decide) dL_law_292 ?_
  refine gn_iadd dL_law_293 ?_
  refine g_sld (by omega) dL_law_294 ?_
  refine g_aload_n 0 rfl dL_law_295 ?_
  refine g_iload 4 rfl dL_law_296 ?_
  refine gn_ic 2 (by decide) dL_law_298 ?_
  refine gn_iadd dL_law_299 ?_
  refine g_sld (by omega) dL_law_300 ?_
  refine g_aload_n 0 rfl dL_law_301 ?_
  refine g_iload 4 rfl dL_law_302 ?_
  refine gn_ic 3 (by decide) dL_law_304 ?_
  refine gn_iadd dL_law_305 ?_
  refine g_sld (by omega) dL_law_306 ?_
  refine g_aload_n 0 rfl dL_law_307 ?_
  refine g_iload 4 rfl dL_law_308 ?_
  refine gn_ic 4 (by decide) dL_law_310 ?_
  refine gn_iadd dL_law_311 ?_
  refine g_sld (by omega) dL_law_312 ?_
  refine g_aload_n 0 rfl dL_law_313 ?_
  refine g_iload 4 rfl dL_law_314 ?_
  refine gn_ic 5 (by decide) dL_law_316 ?_
  refine gn_iadd dL_law_317 ?_
  refine g_sld (by omega) dL_law_318 ?_
  refine g_aload_n 3 rfl dL_law_319 ?_
  refine g_invSH (w_append h0 (o_append h0)) l_L_154 rfl (Nat.le_of_ble_eq_true rfl) (Nat.le_of_ble_eq_true rfl) rfl dL_law_320 (fun _ _ _ z => z.elim) (fun r E1 n1 z => ?_)
  obtain ⟨k, x, g, rfl, hk3, hg, hx, ⟨fs, hfs⟩, d8, hd8, hc⟩ := z
  refine g_istore (lv2 := [(5, _), (0, _), (1, _), (2, _), (3, _), (4, _)]) (by decide) rfl dL_law_323 ?_
  refine g_aload_n 3 rfl dL_law_325 ?_
  refine g_aload_n 1 rfl dL_law_326 ?_
  refine g_iload 5 rfl dL_law_327 ?_
  refine gn_ic 1 (by decide) dL_law_329 ?_
  refine gn_iadd dL_law_330 ?_
  refine g_sld (by omega) dL_law_331 ?_
  refine g_aload_n 1 rfl dL_law_332 ?_
  refine g_iload 5 rfl dL_law_333 ?_
  refine gn_ic 2 (by decide) dL_law_335 ?_
  refine gn_iadd dL_law_336 ?_
  refine g_sld (by omega) dL_law_337 ?_
  refine g_aload_n 1 rfl dL_law_338 ?_
  refine g_iload 5 rfl dL_law_339 ?_
  refine gn_ic 3 (by decide) dL_law_341 ?_
  refine gn_iadd dL_law_342 ?_
  refine g_sld (by omega) dL_law_343 ?_
  refine g_aload_n 1 rfl dL_law_344 ?_
  refine g_iload 5 rfl dL_law_345 ?_
  refine gn_ic 4 (by decide) dL_law_347 ?_
  refine gn_iadd dL_law_348 ?_
  refine g_sld (by omega) dL_law_349 ?_
  refine g_aload_n 1 rfl dL_law_350 ?_
  refine g_iload 5 rfl dL_law_351 ?_
  refine gn_ic 5 (by decide) dL_law_353 ?_
  refine gn_iadd dL_law_354 ?_
  refine g_sld (by omega) dL_law_355 ?_
  refine gw_V hc l_L_159 rfl (Rcv.of hfs rfl) (by omega) (Nat.le_of_ble_eq_true rfl) rfl dL_law_356 (fun _ _ _ z => z) (fun r E2 n2 z => ?_)
  obtain ⟨rfl, hg2, ⟨b, rfl, hb⟩, h1⟩ := z
  refine g_istore (lv2 := [(6, _), (5, _), (0, _), (1, _), (2, _), (3, _), (4, _)]) (by decide) rfl dL_law_359 ?_
  refine g_aload_n 4 rfl dL_law_361 ?_
  obtain ⟨S, q, I, A, f, -, i2, -, -, -, i6⟩ := id h1
  refine g_world i2 ?_
  refine gv_V c_X8_thrown l_L_160 rfl m_rcv (Nat.le_of_ble_eq_true rfl) (Nat.le_of_ble_eq_true rfl) rfl dL_law_362 ?_
  refine g_world i2.symm ?_
  refine g_iload 1 rfl dL_law_365 ?_
  refine g_icmp_eq (tgt := 372) (by decide) dL_law_367 (fun _ => ?_) (fun c => absurd i6 c)
  refine g_iload 1 rfl dL_law_372 ?_
  refine g_if_ne (tgt := 389) (by decide) dL_law_374 (fun _ => ?_) (fun c => ?_)
  · skip
    refine g_goto (tgt := 3119) (by decide) dL_law_389 ?_
    exact G.sub [2, 3, 4, 5, 6] rfl (K _ _ _ h1)
  · obtain rfl := nI_0k hk3 c
    have hb := hb rfl
    have hx := hx rfl
    refine g_aload_n 5 rfl dL_law_377 ?_
    refine gn_ic 0 (by decide) dL_law_378 ?_
    refine g_lald (N := 1) (f := g) hg2 (vp_in_nI (by decide) (by decide)) dL_law_379 ?_
    refine g_iload 0 rfl dL_law_380 ?_
    refine g_i2l dL_law_382 ?_
    refine g_lcmp dL_law_383 ?_
    refine g_if_eq (tgt := 389) (by decide) dL_law_384 (fun _ => ?_) (fun c => absurd (cmp_I hx hb) c)
    refine g_goto (tgt := 3119) (by decide) dL_law_389 ?_
    exact G.sub [2, 3, 4, 5, 6] rfl (K _ _ _ h1)
set_option maxRecDepth 100000 in
set_option maxHeartbeats 1000000 in
theorem q_load (h0 : IVo Γ ab mo k0 t E n) (ht : t ≤ 600) (hL : 6 * t + 6 ≤ gF Γ 10) (K : KL Γ ab mo t kc ks) : G Γ 15 ML_law Pl X0 392 (lvL Γ ab mo t) [] E n (kc + 330) (ks + 10200) := by
  refine g_aload_n 1 rfl dL_law_392 ?_
  refine g_aload_n 0 rfl dL_law_393 ?_
  refine g_iload 4 rfl dL_law_394 ?_
  refine gn_ic 1 (by decide) dL_law_396 ?_
  refine gn_iadd dL_law_397 ?_
  refine g_sld (by omega) dL_law_398 ?_
  refine g_aload_n 3 rfl dL_law_399 ?_
  refine g_invSH (w_load h0 (o_load h0)) l_L_163 rfl (Nat.le_of_ble_eq_true rfl) (Nat.le_of_ble_eq_true rfl) rfl dL_law_400 (fun _ _ _ z => z.elim) (fun r E1 n1 z => ?_)
  obtain ⟨k, x, g, rfl, hk3, hg, hx, ⟨fs, hfs⟩, d8, hd8, hc⟩ := z
  refine g_istore (lv2 := [(5, _), (0, _), (1, _), (2, _), (3, _), (4, _)]) (by decide) rfl dL_law_403 ?_
  refine g_aload_n 3 rfl dL_law_405 ?_
  refine g_aload_n 1 rfl dL_law_406 ?_
  refine g_iload 5 rfl dL_law_407 ?_
  refine gn_ic 1 (by decide) dL_law_409 ?_
  refine gn_iadd dL_law_410 ?_
  refine g_sld (by omega) dL_law_411 ?_
  refine gw_V hc l_L_166 rfl (Rcv.of hfs rfl) (by omega) (Nat.le_of_ble_eq_true rfl) rfl dL_law_412 (fun _ _ _ z => z) (fun r E2 n2 z => ?_)
  obtain ⟨rfl, hg2, ⟨b, rfl, hb⟩, h1⟩ := z
  refine g_istore (lv2 := [(6, _), (5, _), (0, _), (1, _), (2, _), (3, _), (4, _)]) (by decide) rfl dL_law_415 ?_
  refine g_aload_n 4 rfl dL_law_417 ?_
  obtain ⟨S, q, I, A, f, -, i2, -, -, -, i6⟩ := id h1
  refine g_world i2 ?_
  refine gv_V c_X8_thrown l_L_160 rfl m_rcv (Nat.le_of_ble_eq_true rfl) (Nat.le_of_ble_eq_true rfl) rfl dL_law_418 ?_
  refine g_world i2.symm ?_
  refine g_iload 1 rfl dL_law_421 ?_
  refine g_icmp_eq (tgt := 428) (by decide) dL_law_423 (fun _ => ?_) (fun c => absurd i6 c)
  refine g_iload 1 rfl dL_law_428 ?_
  refine g_if_ne (tgt := 445) (by decide) dL_law_430 (fun _ => ?_) (fun c => ?_)
  · skip
    refine g_goto (tgt := 3119) (by decide) dL_law_445 ?_
    exact G.sub [2, 3, 4, 5, 6] rfl (K _ _ _ h1)
  · obtain rfl := nI_0k hk3 c
    have hb := hb rfl
    have hx := hx rfl
    refine g_aload_n 5 rfl dL_law_433 ?_
    refine gn_ic 0 (by decide) dL_law_434 ?_
    refine g_lald (N := 1) (f := g) hg2 (vp_in_nI (by decide) (by decide)) dL_law_435 ?_
    refine g_iload 0 rfl dL_law_436 ?_
    refine g_i2l dL_law_438 ?_
    refine g_lcmp dL_law_439 ?_
    refine g_if_eq (tgt := 445) (by decide) dL_law_440 (fun _ => ?_) (fun c => absurd (cmp_I hx hb) c)
    refine g_goto (tgt := 3119) (by decide) dL_law_445 ?_
    exact G.sub [2, 3, 4, 5, 6] rfl (K _ _ _ h1)
set_option maxRecDepth 100000 in
set_option maxHeartbeats 1000000 in
theorem q_errorKind (h0 : IVo Γ ab mo k0 t E n) (ht : t ≤ 600) (hL : 6 * t + 6 ≤ gF Γ 10) (K : KL Γ ab mo t kc ks) : G Γ 15 ML_law Pl X0 448 (lvL Γ ab mo t) [] E n (kc + 330) (ks + 10200) := by
  obtain ⟨d7, mc, ms, q1, q2, q3, hc7⟩ := o_errorKind h0
  refine G.mono (kc2 := kc + mc) (ks2 := ks + ms) (by omega) (by omega) ?_
  refine g_aload_n 1 rfl dL_law_448 ?_
  refine gw_V hc7 l_L_167 rfl h0.rc (by omega) (Nat.le_of_ble_eq_true rfl) rfl dL_law_449 (fun y E1 n1 z => by obtain ⟨j, hj, -⟩ := z; exact absurd hj (by simp)) (fun r E1 n1 z => ?_)
  obtain ⟨x, rfl, hp⟩ := z
  refine g_aload_n 2 rfl dL_law_452 ?_
  obtain ⟨⟨g, hg⟩, ⟨fs, hfs⟩, h3⟩ := hp
  obtain ⟨d8, hd8, hc⟩ := h3 g n1 (Nat.le_refl _)
  rw [hset_id hg] at hc
  refine gw_V hc l_L_170 rfl (Rcv.of hfs rfl) (by omega) (Nat.le_of_ble_eq_true rfl) rfl dL_law_453 (fun _ _ _ z => z) (fun r E2 n2 z => ?_)
  obtain ⟨rfl, hg2, ⟨b, rfl, hb⟩, h1⟩ := z
  refine g_icmp_eq (tgt := 3119) (by decide) dL_law_456 (fun _ => ?_) (fun c => absurd (hb rfl).symm c)
  exact K _ _ _ h1
set_option maxRecDepth 100000 in
set_option maxHeartbeats 1000000 in
theorem q_errorOffset (h0 : IVo Γ ab mo k0 t E n) (ht : t ≤ 600) (hL : 6 * t + 6 ≤ gF Γ 10) (K : KL Γ ab mo t kc ks) : G Γ 15 ML_law Pl X0 461 (lvL Γ ab mo t) [] E n (kc + 330) (ks + 10200) := by
  obtain ⟨d7, mc, ms, q1, q2, q3, hc7⟩ := o_errorOffset h0
  refine G.mono (kc2 := kc + mc) (ks2 := ks + ms) (by omega) (by omega) ?_
  refine g_aload_n 1 rfl dL_law_461 ?_
  refine gw_V hc7 l_L_171 rfl h0.rc (by omega) (Nat.le_of_ble_eq_true rfl) rfl dL_law_462 (fun y E1 n1 z => by obtain ⟨j, hj, -⟩ := z; exact absurd hj (by simp)) (fun r E1 n1 z => ?_)
  obtain ⟨x, rfl, hp⟩ := z
  refine g_aload_n 2 rfl dL_law_465 ?_
  obtain ⟨⟨g, hg⟩, ⟨fs, hfs⟩, h3⟩ := hp
  obtain ⟨d8, hd8, hc⟩ := h3 g n1 (Nat.le_refl _)
  rw [hset_id hg] at hc
  refine gw_V hc l_L_174 rfl (Rcv.of hfs rfl) (by omega) (Nat.le_of_ble_eq_true rfl) rfl dL_law_466 (fun _ _ _ z => z) (fun r E2 n2 z => ?_)
  obtain ⟨rfl, hg2, ⟨b, rfl, hb⟩, h1⟩ := z
  refine g_icmp_eq (tgt := 3119) (by decide) dL_law_469 (fun _ => ?_) (fun c => absurd (hb rfl).symm c)
  exact K _ _ _ h1
set_option maxRecDepth 100000 in
set_option maxHeartbeats 1000000 in
theorem q_day (h0 : IVo Γ ab mo k0 t E n) (ht : t ≤ 600) (hL : 6 * t + 6 ≤ gF Γ 10) (K : KL Γ ab mo t kc ks) : G Γ 15 ML_law Pl X0 474 (lvL Γ ab mo t) [] E n (kc + 330) (ks + 10200) := by
  obtain ⟨d7, mc, ms, q1, q2, q3, hc7⟩ := o_day h0
  refine G.mono (kc2 := kc + mc) (ks2 := ks + ms) (by omega) (by omega) ?_
  refine g_aload_n 1 rfl dL_law_474 ?_
  refine gw_V hc7 l_L_175 rfl h0.rc (by omega) (Nat.le_of_ble_eq_true rfl) rfl dL_law_475 (fun y E1 n1 z => by obtain ⟨j, hj, -⟩ := z; exact absurd hj (by simp)) (fun r E1 n1 z => ?_)
  obtain ⟨x, rfl, hp⟩ := z
  refine g_aload_n 2 rfl dL_law_478 ?_
  obtain ⟨⟨g, hg⟩, ⟨fs, hfs⟩, h3⟩ := hp
  obtain ⟨d8, hd8, hc⟩ := h3 g n1 (Nat.le_refl _)
  rw [hset_id hg] at hc
  refine gw_V hc l_L_178 rfl (Rcv.of hfs rfl) (by omega) (Nat.le_of_ble_eq_true rfl) rfl dL_law_479 (fun _ _ _ z => z) (fun r E2 n2 z => ?_)
  obtain ⟨rfl, hg2, ⟨b, rfl, hb⟩, h1⟩ := z
  refine g_icmp_eq (tgt := 3119) (by decide) dL_law_482 (fun _ => ?_) (fun c => absurd (hb rfl).symm c)
  exact K _ _ _ h1
set_option maxRecDepth 100000 in
set_option maxHeartbeats 1000000 in
theorem q_lodgerCount (h0 : IVo Γ ab mo k0 t E n) (ht : t ≤ 600) (hL : 6 * t + 6 ≤ gF Γ 10) (K : KL Γ ab mo t kc ks) : G Γ 15 ML_law Pl X0 487 (lvL Γ ab mo t) [] E n (kc + 330) (ks + 10200) := by
  obtain ⟨d7, mc, ms, q1, q2, q3, hc7⟩ := o_lodgerCount h0
  refine G.mono (kc2 := kc + mc) (ks2 := ks + ms) (by omega) (by omega) ?_
  refine g_aload_n 1 rfl dL_law_487 ?_
  refine gw_V hc7 l_L_179 rfl h0.rc (by omega) (Nat.le_of_ble_eq_true rfl) rfl dL_law_488 (fun y E1 n1 z => by obtain ⟨j, hj, -⟩ := z; exact absurd hj (by simp)) (fun r E1 n1 z => ?_)
  obtain ⟨x, rfl, hp⟩ := z
  refine g_aload_n 2 rfl dL_law_491 ?_
  obtain ⟨⟨g, hg⟩, ⟨fs, hfs⟩, h3⟩ := hp
  obtain ⟨d8, hd8, hc⟩ := h3 g n1 (Nat.le_refl _)
  rw [hset_id hg] at hc
  refine gw_V hc l_L_182 rfl (Rcv.of hfs rfl) (by omega) (Nat.le_of_ble_eq_true rfl) rfl dL_law_492 (fun _ _ _ z => z) (fun r E2 n2 z => ?_)
  obtain ⟨rfl, hg2, ⟨b, rfl, hb⟩, h1⟩ := z
  refine g_icmp_eq (tgt := 3119) (by decide) dL_law_495 (fun _ => ?_) (fun c => absurd (hb rfl).symm c)
  exact K _ _ _ h1
set_option maxRecDepth 100000 in
set_option maxHeartbeats 1000000 in
theorem q_baseRent (h0 : IVo Γ ab mo k0 t E n) (ht : t ≤ 600) (hL : 6 * t + 6 ≤ gF Γ 10) (K : KL Γ ab mo t kc ks) : G Γ 15 ML_law Pl X0 500 (lvL Γ ab mo t) [] E n (kc + 330) (ks + 10200) := by
  obtain ⟨d7, mc, ms, q1, q2, q3, hc7⟩ := o_baseRent h0
  refine G.mono (kc2 := kc + mc) (ks2 := ks + ms) (by omega) (by omega) ?_
  refine g_aload_n 1 rfl dL_law_500 ?_
  refine gw_V hc7 l_L_183 rfl h0.rc (by omega) (Nat.le_of_ble_eq_true rfl) rfl dL_law_501 (fun y E1 n1 z => by obtain ⟨j, hj, -⟩ := z; exact absurd hj (by simp)) (fun r E1 n1 z => ?_)
  obtain ⟨x, rfl, hp⟩ := z
  refine g_aload_n 2 rfl dL_law_504 ?_
  obtain ⟨⟨g, hg⟩, ⟨fs, hfs⟩, h3⟩ := hp
  obtain ⟨d8, hd8, hc⟩ := h3 g n1 (Nat.le_refl _)
  rw [hset_id hg] at hc
  refine gw_V hc l_L_186 rfl (Rcv.of hfs rfl) (by omega) (Nat.le_of_ble_eq_true rfl) rfl dL_law_505 (fun _ _ _ z => z) (fun r E2 n2 z => ?_)
  obtain ⟨rfl, hg2, ⟨b, rfl, hb⟩, h1⟩ := z
  refine g_icmp_eq (tgt := 3119) (by decide) dL_law_508 (fun _ => ?_) (fun c => absurd (hb rfl).symm c)
  exact K _ _ _ h1
set_option maxRecDepth 100000 in
set_option maxHeartbeats 1000000 in
theorem q_tolerance (h0 : IVo Γ ab mo k0 t E n) (ht : t ≤ 600) (hL : 6 * t + 6 ≤ gF Γ 10) (K : KL Γ ab mo t kc ks) : G Γ 15 ML_law Pl X0 513 (lvL Γ ab mo t) [] E n (kc + 330) (ks + 10200) := by
  obtain ⟨d7, mc, ms, q1, q2, q3, hc7⟩ := o_tolerance h0
  refine G.mono (kc2 := kc + mc) (ks2 := ks + ms) (by omega) (by omega) ?_
  refine g_aload_n 1 rfl dL_law_513 ?_
  refine gw_V hc7 l_L_187 rfl h0.rc (by omega) (Nat.le_of_ble_eq_true rfl) rfl dL_law_514 (fun y E1 n1 z => by obtain ⟨j, hj, -⟩ := z; exact absurd hj (by simp)) (fun r E1 n1 z => ?_)
  obtain ⟨x, rfl, hp⟩ := z
  refine g_aload_n 2 rfl dL_law_517 ?_
  obtain ⟨⟨g, hg⟩, ⟨fs, hfs⟩, h3⟩ := hp
  obtain ⟨d8, hd8, hc⟩ := h3 g n1 (Nat.le_refl _)
  rw [hset_id hg] at hc
  refine gw_V hc l_L_190 rfl (Rcv.of hfs rfl) (by omega) (Nat.le_of_ble_eq_true rfl) rfl dL_law_518 (fun _ _ _ z => z) (fun r E2 n2 z => ?_)
  obtain ⟨rfl, hg2, ⟨b, rfl, hb⟩, h1⟩ := z
  refine g_icmp_eq (tgt := 3119) (by decide) dL_law_521 (fun _ => ?_) (fun c => absurd (hb rfl).symm c)
  exact K _ _ _ h1
set_option maxRecDepth 100000 in
set_option maxHeartbeats 1000000 in
theorem q_rentOf (h0 : IVo Γ ab mo k0 t E n) (ht : t ≤ 600) (hL : 6 * t + 6 ≤ gF Γ 10) (K : KL Γ ab mo t kc ks) : G Γ 15 ML_law Pl X0 526 (lvL Γ ab mo t) [] E n (kc + 330) (ks + 10200) := by
  refine g_aload_n 1 rfl dL_law_526 ?_
  refine g_aload_n 0 rfl dL_law_527 ?_
  refine g_iload 4 rfl dL_law_528 ?_
  refine gn_ic 1 (by decide) dL_law_530 ?_
  refine gn_iadd dL_law_531 ?_
  refine g_sld (by omega) dL_law_532 ?_
  refine g_aload_n 3 rfl dL_law_533 ?_
  refine g_invSH (w_rentOf h0 (o_rentOf h0)) l_L_191 rfl (Nat.le_of_ble_eq_true rfl) (Nat.le_of_ble_eq_true rfl) rfl dL_law_534 (fun _ _ _ z => z.elim) (fun r E1 n1 z => ?_)
  obtain ⟨k, x, g, rfl, hk3, hg, hx, ⟨fs, hfs⟩, d8, hd8, hc⟩ := z
  refine g_istore (lv2 := [(5, _), (0, _), (1, _), (2, _), (3, _), (4, _)]) (by decide) rfl dL_law_537 ?_
  refine g_aload_n 3 rfl dL_law_539 ?_
  refine g_aload_n 1 rfl dL_law_540 ?_
  refine g_iload 5 rfl dL_law_541 ?_
  refine gn_ic 1 (by decide) dL_law_543 ?_
  refine gn_iadd dL_law_544 ?_
  refine g_sld (by omega) dL_law_545 ?_
  refine gw_V hc l_L_193 rfl (Rcv.of hfs rfl) (by omega) (Nat.le_of_ble_eq_true rfl) rfl dL_law_546 (fun _ _ _ z => z) (fun r E2 n2 z => ?_)
  obtain ⟨rfl, hg2, ⟨b, rfl, hb⟩, h1⟩ := z
  refine g_istore (lv2 := [(6, _), (5, _), (0, _), (1, _), (2, _), (3, _), (4, _)]) (by decide) rfl dL_law_549 ?_
  refine g_aload_n 4 rfl dL_law_551 ?_
  obtain ⟨S, q, I, A, f, -, i2, -, -, -, i6⟩ := id h1
  refine g_world i2 ?_
  refine gv_V c_X8_thrown l_L_160 rfl m_rcv (Nat.le_of_ble_eq_true rfl) (Nat.le_of_ble_eq_true rfl) rfl dL_law_552 ?_
  refine g_world i2.symm ?_
  refine g_iload 1 rfl dL_law_555 ?_
  refine g_icmp_eq (tgt := 562) (by decide) dL_law_557 (fun _ => ?_) (fun c => absurd i6 c)
  refine g_iload 1 rfl dL_law_562 ?_
  refine g_if_ne (tgt := 579) (by decide) dL_law_564 (fun _ => ?_) (fun c => ?_)
  · skip
    refine g_goto (tgt := 3119) (by decide) dL_law_579 ?_
    exact G.sub [2, 3, 4, 5, 6] rfl (K _ _ _ h1)
  · obtain rfl := nI_0k hk3 c
    have hb := hb rfl
    have hx := hx rfl
    refine g_aload_n 5 rfl dL_law_567 ?_
    refine gn_ic 0 (by decide) dL_law_568 ?_
    refine g_lald (N := 1) (f := g) hg2 (vp_in_nI (by decide) (by decide)) dL_law_569 ?_
    refine g_iload 0 rfl dL_law_570 ?_
    refine g_i2l dL_law_572 ?_
    refine g_lcmp dL_law_573 ?_
    refine g_if_eq (tgt := 579) (by decide) dL_law_574 (fun _ => ?_) (fun c => absurd (cmp_I hx hb) c)
    refine g_goto (tgt := 3119) (by decide) dL_law_579 ?_
    exact G.sub [2, 3, 4, 5, 6] rfl (K _ _ _ h1)
set_option maxRecDepth 100000 in
set_option maxHeartbeats 1000000 in
theorem q_landladyVowel (h0 : IVo Γ ab mo k0 t E n) (ht : t ≤ 600) (hL : 6 * t + 6 ≤ gF Γ 10) (K : KL Γ ab mo t kc ks) : G Γ 15 ML_law Pl X0 582 (lvL Γ ab mo t) [] E n (kc + 330) (ks + 10200) := by
  refine g_aload_n 1 rfl dL_law_582 ?_
  refine g_aload_n 0 rfl dL_law_583 ?_
  refine g_iload 4 rfl dL_law_584 ?_
  refine gn_ic 1 (by decide) dL_law_586 ?_
  refine gn_iadd dL_law_587 ?_
  refine g_sld (by omega) dL_law_588 ?_
  refine g_aload_n 3 rfl dL_law_589 ?_
  refine g_invSH (w_landladyVowel h0 (o_landladyVowel h0)) l_L_194 rfl (Nat.le_of_ble_eq_true rfl) (Nat.le_of_ble_eq_true rfl) rfl dL_law_590 (fun _ _ _ z => z.elim) (fun r E1 n1 z => ?_)
  obtain ⟨k, x, g, rfl, hk3, hg, hx, ⟨fs, hfs⟩, d8, hd8, hc⟩ := z
  refine g_istore (lv2 := [(5, _), (0, _), (1, _), (2, _), (3, _), (4, _)]) (by decide) rfl dL_law_593 ?_
  refine g_aload_n 3 rfl dL_law_595 ?_
  refine g_aload_n 1 rfl dL_law_596 ?_
  refine g_iload 5 rfl dL_law_597 ?_
  refine gn_ic 1 (by decide) dL_law_599 ?_
  refine gn_iadd dL_law_600 ?_
  refine g_sld (by omega) dL_law_601 ?_
  refine gw_V hc l_L_196 rfl (Rcv.of hfs rfl) (by omega) (Nat.le_of_ble_eq_true rfl) rfl dL_law_602 (fun _ _ _ z => z) (fun r E2 n2 z => ?_)
  obtain ⟨rfl, hg2, ⟨b, rfl, hb⟩, h1⟩ := z
  refine g_istore (lv2 := [(6, _), (5, _), (0, _), (1, _), (2, _), (3, _), (4, _)]) (by decide) rfl dL_law_605 ?_
  refine g_aload_n 4 rfl dL_law_607 ?_
  obtain ⟨S, q, I, A, f, -, i2, -, -, -, i6⟩ := id h1
  refine g_world i2 ?_
  refine gv_V c_X8_thrown l_L_160 rfl m_rcv (Nat.le_of_ble_eq_true rfl) (Nat.le_of_ble_eq_true rfl) rfl dL_law_608 ?_
  refine g_world i2.symm ?_
  refine g_iload 1 rfl dL_law_611 ?_
  refine g_icmp_eq (tgt := 618) (by decide) dL_law_613 (fun _ => ?_) (fun c => absurd i6 c)
  refine g_iload 1 rfl dL_law_618 ?_
  refine g_if_ne (tgt := 635) (by decide) dL_law_620 (fun _ => ?_) (fun c => ?_)
  · skip
    refine g_goto (tgt := 3119) (by decide) dL_law_635 ?_
    exact G.sub [2, 3, 4, 5, 6] rfl (K _ _ _ h1)
  · obtain rfl := nI_0k hk3 c
    have hb := hb rfl
    have hx := hx rfl
    refine g_aload_n 5 rfl dL_law_623 ?_
    refine gn_ic 0 (by decide) dL_law_624 ?_
    refine g_lald (N := 1) (f := g) hg2 (vp_in_nI (by decide) (by decide)) dL_law_625 ?_
    refine g_iload 0 rfl dL_law_626 ?_
    refine g_i2l dL_law_628 ?_
    refine g_lcmp dL_law_629 ?_
    refine g_if_eq (tgt := 635) (by decide) dL_law_630 (fun _ => ?_) (fun c => absurd (cmp_I hx hb) c)
    refine g_goto (tgt := 3119) (by decide) dL_law_635 ?_
    exact G.sub [2, 3, 4, 5, 6] rfl (K _ _ _ h1)
set_option maxRecDepth 100000 in
set_option maxHeartbeats 1000000 in
theorem q_daysToInspection (h0 : IVo Γ ab mo k0 t E n) (ht : t ≤ 600) (hL : 6 * t + 6 ≤ gF Γ 10) (K : KL Γ ab mo t kc ks) : G Γ 15 ML_law Pl X0 638 (lvL Γ ab mo t) [] E n (kc + 330) (ks + 10200) := by
  obtain ⟨d7, mc, ms, q1, q2, q3, hc7⟩ := o_daysToInspection h0
  refine G.mono (kc2 := kc + mc) (ks2 := ks + ms) (by omega) (by omega) ?_
  refine g_aload_n 1 rfl dL_law_638 ?_
  refine gw_V hc7 l_L_197 rfl h0.rc (by omega) (Nat.le_of_ble_eq_true rfl) rfl dL_law_639 (fun y E1 n1 z => by obtain ⟨j, hj, -⟩ := z; exact absurd hj (by simp)) (fun r E1 n1 z => ?_)
  obtain ⟨x, rfl, hp⟩ := z
  refine g_aload_n 2 rfl dL_law_642 ?_
  obtain ⟨⟨g, hg⟩, ⟨fs, hfs⟩, h3⟩ := hp
  obtain ⟨d8, hd8, hc⟩ := h3 g n1 (Nat.le_refl _)
  rw [hset_id hg] at hc
  refine gw_V hc l_L_200 rfl (Rcv.of hfs rfl) (by omega) (Nat.le_of_ble_eq_true rfl) rfl dL_law_643 (fun _ _ _ z => z) (fun r E2 n2 z => ?_)
  obtain ⟨rfl, hg2, ⟨b, rfl, hb⟩, h1⟩ := z
  refine g_icmp_eq (tgt := 3119) (by decide) dL_law_646 (fun _ => ?_) (fun c => absurd (hb rfl).symm c)
  exact K _ _ _ h1
set_option maxRecDepth 100000 in
set_option maxHeartbeats 1000000 in
theorem q_evictions (h0 : IVo Γ ab mo k0 t E n) (ht : t ≤ 600) (hL : 6 * t + 6 ≤ gF Γ 10) (K : KL Γ ab mo t kc ks) : G Γ 15 ML_law Pl X0 651 (lvL Γ ab mo t) [] E n (kc + 330) (ks + 10200) := by
  obtain ⟨d7, mc, ms, q1, q2, q3, hc7⟩ := o_evictions h0
  refine G.mono (kc2 := kc + mc) (ks2 := ks + ms) (by omega) (by omega) ?_
  refine g_aload_n 1 rfl dL_law_651 ?_
  refine gw_V hc7 l_L_201 rfl h0.rc (by omega) (Nat.le_of_ble_eq_true rfl) rfl dL_law_652 (fun y E1 n1 z => by obtain ⟨j, hj, -⟩ := z; exact absurd hj (by simp)) (fun r E1 n1 z => ?_)
  obtain ⟨x, rfl, hp⟩ := z
  refine g_aload_n 2 rfl dL_law_655 ?_
  obtain ⟨⟨g, hg⟩, ⟨fs, hfs⟩, h3⟩ := hp
  obtain ⟨d8, hd8, hc⟩ := h3 g n1 (Nat.le_refl _)
  rw [hset_id hg] at hc
  refine gw_V hc l_L_204 rfl (Rcv.of hfs rfl) (by omega) (Nat.le_of_ble_eq_true rfl) rfl dL_law_656 (fun _ _ _ z => z) (fun r E2 n2 z => ?_)
  obtain ⟨rfl, hg2, ⟨b, rfl, hb⟩, h1⟩ := z
  refine g_icmp_eq (tgt := 3119) (by decide) dL_law_659 (fun _ => ?_) (fun c => absurd (hb rfl).symm c)
  exact K _ _ _ h1
set_option maxRecDepth 100000 in
set_option maxHeartbeats 1000000 in
theorem q_undoCount (h0 : IVo Γ ab mo k0 t E n) (ht : t ≤ 600) (hL : 6 * t + 6 ≤ gF Γ 10) (K : KL Γ ab mo t kc ks) : G Γ 15 ML_law Pl X0 664 (lvL Γ ab mo t) [] E n (kc + 330) (ks + 10200) := by
  obtain ⟨d7, mc, ms, q1, q2, q3, hc7⟩ := o_undoCount h0
  refine G.mono (kc2 := kc + mc) (ks2 := ks + ms) (by omega) (by omega) ?_
  refine g_aload_n 1 rfl dL_law_664 ?_
  refine gw_V hc7 l_L_205 rfl h0.rc (by omega) (Nat.le_of_ble_eq_true rfl) rfl dL_law_665 (fun y E1 n1 z => by obtain ⟨j, hj, -⟩ := z; exact absurd hj (by simp)) (fun r E1 n1 z => ?_)
  obtain ⟨x, rfl, hp⟩ := z
  refine g_aload_n 2 rfl dL_law_668 ?_
  obtain ⟨⟨g, hg⟩, ⟨fs, hfs⟩, h3⟩ := hp
  obtain ⟨d8, hd8, hc⟩ := h3 g n1 (Nat.le_refl _)
  rw [hset_id hg] at hc
  refine gw_V hc l_L_208 rfl (Rcv.of hfs rfl) (by omega) (Nat.le_of_ble_eq_true rfl) rfl dL_law_669 (fun _ _ _ z => z) (fun r E2 n2 z => ?_)
  obtain ⟨rfl, hg2, ⟨b, rfl, hb⟩, h1⟩ := z
  refine g_icmp_eq (tgt := 3119) (by decide) dL_law_672 (fun _ => ?_) (fun c => absurd (hb rfl).symm c)
  exact K _ _ _ h1
set_option maxRecDepth 100000 in
set_option maxHeartbeats 1000000 in
theorem q_floorOf (h0 : IVo Γ ab mo k0 t E n) (ht : t ≤ 600) (hL : 6 * t + 6 ≤ gF Γ 10) (K : KL Γ ab mo t kc ks) : G Γ 15 ML_law Pl X0 677 (lvL Γ ab mo t) [] E n (kc + 330) (ks + 10200) := by
  refine g_aload_n 1 rfl dL_law_677 ?_
  refine g_aload_n 0 rfl dL_law_678 ?_
  refine g_iload 4 rfl dL_law_679 ?_
  refine gn_ic 1 (by decide) dL_law_681 ?_
  refine gn_iadd dL_law_682 ?_
  refine g_sld (by omega) dL_law_683 ?_
  refine g_aload_n 3 rfl dL_law_684 ?_
  refine g_invSH (w_floorOf h0 (o_floorOf h0)) l_L_209 rfl (Nat.le_of_ble_eq_true rfl) (Nat.le_of_ble_eq_true rfl) rfl dL_law_685 (fun _ _ _ z => z.elim) (fun r E1 n1 z => ?_)
  obtain ⟨k, x, g, rfl, hk3, hg, hx, ⟨fs, hfs⟩, d8, hd8, hc⟩ := z
  refine g_istore (lv2 := [(5, _), (0, _), (1, _), (2, _), (3, _), (4, _)]) (by decide) rfl dL_law_688 ?_
  refine g_aload_n 3 rfl dL_law_690 ?_
  refine g_aload_n 1 rfl dL_law_691 ?_
  refine g_iload 5 rfl dL_law_692 ?_
  refine gn_ic 1 (by decide) dL_law_694 ?_
  refine gn_iadd dL_law_695 ?_
  refine g_sld (by omega) dL_law_696 ?_
  refine gw_V hc l_L_211 rfl (Rcv.of hfs rfl) (by omega) (Nat.le_of_ble_eq_true rfl) rfl dL_law_697 (fun _ _ _ z => z) (fun r E2 n2 z => ?_)
  obtain ⟨rfl, hg2, ⟨b, rfl, hb⟩, h1⟩ := z
  refine g_istore (lv2 := [(6, _), (5, _), (0, _), (1, _), (2, _), (3, _), (4, _)]) (by decide) rfl dL_law_700 ?_
  refine g_aload_n 4 rfl dL_law_702 ?_
  obtain ⟨S, q, I, A, f, -, i2, -, -, -, i6⟩ := id h1
  refine g_world i2 ?_
  refine gv_V c_X8_thrown l_L_160 rfl m_rcv (Nat.le_of_ble_eq_true rfl) (Nat.le_of_ble_eq_true rfl) rfl dL_law_703 ?_
  refine g_world i2.symm ?_
  refine g_iload 1 rfl dL_law_706 ?_
  refine g_icmp_eq (tgt := 713) (by decide) dL_law_708 (fun _ => ?_) (fun c => absurd i6 c)
  refine g_iload 1 rfl dL_law_713 ?_
  refine g_if_ne (tgt := 730) (by decide) dL_law_715 (fun _ => ?_) (fun c => ?_)
  · skip
    refine g_goto (tgt := 3119) (by decide) dL_law_730 ?_
    exact G.sub [2, 3, 4, 5, 6] rfl (K _ _ _ h1)
  · obtain rfl := nI_0k hk3 c
    have hb := hb rfl
    have hx := hx rfl
    refine g_aload_n 5 rfl dL_law_718 ?_
    refine gn_ic 0 (by decide) dL_law_719 ?_
    refine g_lald (N := 1) (f := g) hg2 (vp_in_nI (by decide) (by decide)) dL_law_720 ?_
    refine g_iload 0 rfl dL_law_721 ?_
    refine g_i2l dL_law_723 ?_
    refine g_lcmp dL_law_724 ?_
    refine g_if_eq (tgt := 730) (by decide) dL_law_725 (fun _ => ?_) (fun c => absurd (cmp_I hx hb) c)
    refine g_goto (tgt := 3119) (by decide) dL_law_730 ?_
    exact G.sub [2, 3, 4, 5, 6] rfl (K _ _ _ h1)
set_option maxRecDepth 100000 in
set_option maxHeartbeats 1000000 in
theorem q_balanceOf (h0 : IVo Γ ab mo k0 t E n) (ht : t ≤ 600) (hL : 6 * t + 6 ≤ gF Γ 10) (K : KL Γ ab mo t kc ks) : G Γ 15 ML_law Pl X0 733 (lvL Γ ab mo t) [] E n (kc + 330) (ks + 10200) := by
  refine g_aload_n 1 rfl dL_law_733 ?_
  refine g_aload_n 0 rfl dL_law_734 ?_
  refine g_iload 4 rfl dL_law_735 ?_
  refine gn_ic 1 (by decide) dL_law_737 ?_
  refine gn_iadd dL_law_738 ?_
  refine g_sld (by omega) dL_law_739 ?_
  refine g_aload_n 3 rfl dL_law_740 ?_
  refine g_invSH (w_balanceOf h0 (o_balanceOf h0)) l_L_212 rfl (Nat.le_of_ble_eq_true rfl) (Nat.le_of_ble_eq_true rfl) rfl dL_law_741 (fun _ _ _ z => z.elim) (fun r E1 n1 z => ?_)
  obtain ⟨k, x, g, rfl, hk3, hg, hx, ⟨fs, hfs⟩, d8, hd8, hc⟩ := z
  refine g_istore (lv2 := [(5, _), (0, _), (1, _), (2, _), (3, _), (4, _)]) (by decide) rfl dL_law_744 ?_
  refine g_aload_n 3 rfl dL_law_746 ?_
  refine g_aload_n 1 rfl dL_law_747 ?_
  refine g_iload 5 rfl dL_law_748 ?_
  refine gn_ic 1 (by decide) dL_law_750 ?_
  refine gn_iadd dL_law_751 ?_
  refine g_sld (by omega) dL_law_752 ?_
  refine gw_V hc l_L_214 rfl (Rcv.of hfs rfl) (by omega) (Nat.le_of_ble_eq_true rfl) rfl dL_law_753 (fun _ _ _ z => z) (fun r E2 n2 z => ?_)
  obtain ⟨rfl, hg2, ⟨b, rfl, hb⟩, h1⟩ := z
  refine g_istore (lv2 := [(6, _), (5, _), (0, _), (1, _), (2, _), (3, _), (4, _)]) (by decide) rfl dL_law_756 ?_
  refine g_aload_n 4 rfl dL_law_758 ?_
  obtain ⟨S, q, I, A, f, -, i2, -, -, -, i6⟩ := id h1
  refine g_world i2 ?_
  refine gv_V c_X8_thrown l_L_160 rfl m_rcv (Nat.le_of_ble_eq_true rfl) (Nat.le_of_ble_eq_true rfl) rfl dL_law_759 ?_
  refine g_world i2.symm ?_
  refine g_iload 1 rfl dL_law_762 ?_
  refine g_icmp_eq (tgt := 769) (by decide) dL_law_764 (fun _ => ?_) (fun c => absurd i6 c)
  refine g_iload 1 rfl dL_law_769 ?_
  refine g_if_ne (tgt := 786) (by decide) dL_law_771 (fun _ => ?_) (fun c => ?_)
  · skip
    refine g_goto (tgt := 3119) (by decide) dL_law_786 ?_
    exact G.sub [2, 3, 4, 5, 6] rfl (K _ _ _ h1)
  · obtain rfl := nI_0k hk3 c
    have hb := hb rfl
    have hx := hx rfl
    refine g_aload_n 5 rfl dL_law_774 ?_
    refine gn_ic 0 (by decide) dL_law_775 ?_
    refine g_lald (N := 1) (f := g) hg2 (vp_in_nI (by decide) (by decide)) dL_law_776 ?_
    refine g_iload 0 rfl dL_law_777 ?_
    refine g_i2l dL_law_779 ?_
    refine g_lcmp dL_law_780 ?_
    refine g_if_eq (tgt := 786) (by decide) dL_law_781 (fun _ => ?_) (fun c => absurd (cmp_I hx hb) c)
    refine g_goto (tgt := 3119) (by decide) dL_law_786 ?_
    exact G.sub [2, 3, 4, 5, 6] rfl (K _ _ _ h1)
set_option maxRecDepth 100000 in
set_option maxHeartbeats 1000000 in
theorem q_vowelOf (h0 : IVo Γ ab mo k0 t E n) (ht : t ≤ 600) (hL : 6 * t + 6 ≤ gF Γ 10) (K : KL Γ ab mo t kc ks) : G Γ 15 ML_law Pl X0 789 (lvL Γ ab mo t) [] E n (kc + 330) (ks + 10200) := by
  refine g_aload_n 1 rfl dL_law_789 ?_
  refine g_aload_n 0 rfl dL_law_790 ?_
  refine g_iload 4 rfl dL_law_791 ?_
  refine gn_ic 1 (by decide) dL_law_793 ?_
  refine gn_iadd dL_law_794 ?_
  refine g_sld (by omega) dL_law_795 ?_
  refine g_aload_n 0 rfl dL_law_796 ?_
  refine g_iload 4 rfl dL_law_797 ?_
  refine gn_ic 2 (by decide) dL_law_799 ?_
  refine gn_iadd dL_law_800 ?_
  refine g_sld (by omega) dL_law_801 ?_
  refine g_aload_n 3 rfl dL_law_802 ?_
  refine g_invSH (w_vowelOf h0 (o_vowelOf h0)) l_L_215 rfl (Nat.le_of_ble_eq_true rfl) (Nat.le_of_ble_eq_true rfl) rfl dL_law_803 (fun _ _ _ z => z.elim) (fun r E1 n1 z => ?_)
  obtain ⟨k, x, g, rfl, hk3, hg, hx, ⟨fs, hfs⟩, d8, hd8, hc⟩ := z
  refine g_istore (lv2 := [(5, _), (0, _), (1, _), (2, _), (3, _), (4, _)]) (by decide) rfl dL_law_806 ?_
  refine g_aload_n 3 rfl dL_law_808 ?_
  refine g_aload_n 1 rfl dL_law_809 ?_
  refine g_iload 5 rfl dL_law_810 ?_
  refine gn_ic 1 (by decide) dL_law_812 ?_
  refine gn_iadd dL_law_813 ?_
  refine g_sld (by omega) dL_law_814 ?_
  refine g_aload_n 1 rfl dL_law_815 ?_
  refine g_iload 5 rfl dL_law_816 ?_
  refine gn_ic 2 (by decide) dL_law_818 ?_
  refine gn_iadd dL_law_819 ?_
  refine g_sld (by omega) dL_law_820 ?_
  refine gw_V hc l_L_218 rfl (Rcv.of hfs rfl) (by omega) (Nat.le_of_ble_eq_true rfl) rfl dL_law_821 (fun _ _ _ z => z) (fun r E2 n2 z => ?_)
  obtain ⟨rfl, hg2, ⟨b, rfl, hb⟩, h1⟩ := z
  refine g_istore (lv2 := [(6, _), (5, _), (0, _), (1, _), (2, _), (3, _), (4, _)]) (by decide) rfl dL_law_824 ?_
  refine g_aload_n 4 rfl dL_law_826 ?_
  obtain ⟨S, q, I, A, f, -, i2, -, -, -, i6⟩ := id h1
  refine g_world i2 ?_
  refine gv_V c_X8_thrown l_L_160 rfl m_rcv (Nat.le_of_ble_eq_true rfl) (Nat.le_of_ble_eq_true rfl) rfl dL_law_827 ?_
  refine g_world i2.symm ?_
  refine g_iload 1 rfl dL_law_830 ?_
  refine g_icmp_eq (tgt := 837) (by decide) dL_law_832 (fun _ => ?_) (fun c => absurd i6 c)
  refine g_iload 1 rfl dL_law_837 ?_
  refine g_if_ne (tgt := 854) (by decide) dL_law_839 (fun _ => ?_) (fun c => ?_)
  · skip
    refine g_goto (tgt := 3119) (by decide) dL_law_854 ?_
    exact G.sub [2, 3, 4, 5, 6] rfl (K _ _ _ h1)
  · obtain rfl := nI_0k hk3 c
    have hb := hb rfl
    have hx := hx rfl
    refine g_aload_n 5 rfl dL_law_842 ?_
    refine gn_ic 0 (by decide) dL_law_843 ?_
    refine g_lald (N := 1) (f := g) hg2 (vp_in_nI (by decide) (by decide)) dL_law_844 ?_
    refine g_iload 0 rfl dL_law_845 ?_
    refine g_i2l dL_law_847 ?_
    refine g_lcmp dL_law_848 ?_
    refine g_if_eq (tgt := 854) (by decide) dL_law_849 (fun _ => ?_) (fun c => absurd (cmp_I hx hb) c)
    refine g_goto (tgt := 3119) (by decide) dL_law_854 ?_
    exact G.sub [2, 3, 4, 5, 6] rfl (K _ _ _ h1)
set_option maxRecDepth 100000 in
set_option maxHeartbeats 1000000 in
theorem q_lessonsOf (h0 : IVo Γ ab mo k0 t E n) (ht : t ≤ 600) (hL : 6 * t + 6 ≤ gF Γ 10) (K : KL Γ ab mo t kc ks) : G Γ 15 ML_law Pl X0 857 (lvL Γ ab mo t) [] E n (kc + 330) (ks + 10200) := by
  refine g_aload_n 1 rfl dL_law_857 ?_
  refine g_aload_n 0 rfl dL_law_858 ?_
  refine g_iload 4 rfl dL_law_859 ?_
  refine gn_ic 1 (by decide) dL_law_861 ?_
  refine gn_iadd dL_law_862 ?_
  refine g_sld (by omega) dL_law_863 ?_
  refine g_aload_n 3 rfl dL_law_864 ?_
  refine g_invSH (w_lessonsOf h0 (o_lessonsOf h0)) l_L_219 rfl (Nat.le_of_ble_eq_true rfl) (Nat.le_of_ble_eq_true rfl) rfl dL_law_865 (fun _ _ _ z => z.elim) (fun r E1 n1 z => ?_)
  obtain ⟨k, x, g, rfl, hk3, hg, hx, ⟨fs, hfs⟩, d8, hd8, hc⟩ := z
  refine g_istore (lv2 := [(5, _), (0, _), (1, _), (2, _), (3, _), (4, _)]) (by decide) rfl dL_law_868 ?_
  refine g_aload_n 3 rfl dL_law_870 ?_
  refine g_aload_n 1 rfl dL_law_871 ?_
  refine g_iload 5 rfl dL_law_872 ?_
  refine gn_ic 1 (by decide) dL_law_874 ?_
  refine gn_iadd dL_law_875 ?_
  refine g_sld (by omega) dL_law_876 ?_
  refine gw_V hc l_L_221 rfl (Rcv.of hfs rfl) (by omega) (Nat.le_of_ble_eq_true rfl) rfl dL_law_877 (fun _ _ _ z => z) (fun r E2 n2 z => ?_)
  obtain ⟨rfl, hg2, ⟨b, rfl, hb⟩, h1⟩ := z
  refine g_istore (lv2 := [(6, _), (5, _), (0, _), (1, _), (2, _), (3, _), (4, _)]) (by decide) rfl dL_law_880 ?_
  refine g_aload_n 4 rfl dL_law_882 ?_
  obtain ⟨S, q, I, A, f, -, i2, -, -, -, i6⟩ := id h1
  refine g_world i2 ?_
  refine gv_V c_X8_thrown l_L_160 rfl m_rcv (Nat.le_of_ble_eq_true rfl) (Nat.le_of_ble_eq_true rfl) rfl dL_law_883 ?_
  refine g_world i2.symm ?_
  refine g_iload 1 rfl dL_law_886 ?_
  refine g_icmp_eq (tgt := 893) (by decide) dL_law_888 (fun _ => ?_) (fun c => absurd i6 c)
  refine g_iload 1 rfl dL_law_893 ?_
  refine g_if_ne (tgt := 910) (by decide) dL_law_895 (fun _ => ?_) (fun c => ?_)
  · skip
    refine g_goto (tgt := 3119) (by decide) dL_law_910 ?_
    exact G.sub [2, 3, 4, 5, 6] rfl (K _ _ _ h1)
  · obtain rfl := nI_0k hk3 c
    have hb := hb rfl
    have hx := hx rfl
    refine g_aload_n 5 rfl dL_law_898 ?_
    refine gn_ic 0 (by decide) dL_law_899 ?_
    refine g_lald (N := 1) (f := g) hg2 (vp_in_nI (by decide) (by decide)) dL_law_900 ?_
    refine g_iload 0 rfl dL_law_901 ?_
    refine g_i2l dL_law_903 ?_
    refine g_lcmp dL_law_904 ?_
    refine g_if_eq (tgt := 910) (by decide) dL_law_905 (fun _ => ?_) (fun c => absurd (cmp_I hx hb) c)
    refine g_goto (tgt := 3119) (by decide) dL_law_910 ?_
    exact G.sub [2, 3, 4, 5, 6] rfl (K _ _ _ h1)
set_option maxRecDepth 100000 in
set_option maxHeartbeats 1000000 in
theorem q_slipsOf (h0 : IVo Γ ab mo k0 t E n) (ht : t ≤ 600) (hL : 6 * t + 6 ≤ gF Γ 10) (K : KL Γ ab mo t kc ks) : G Γ 15 ML_law Pl X0 913 (lvL Γ ab mo t) [] E n (kc + 330) (ks + 10200) := by
  refine g_aload_n 1 rfl dL_law_913 ?_
  refine g_aload_n 0 rfl dL_law_914 ?_
  refine g_iload 4 rfl dL_law_915 ?_
  refine gn_ic 1 (by decide) dL_law_917 ?_
  refine gn_iadd dL_law_918 ?_
  refine g_sld (by omega) dL_law_919 ?_
  refine g_aload_n 3 rfl dL_law_920 ?_
  refine g_invSH (w_slipsOf h0 (o_slipsOf h0)) l_L_222 rfl (Nat.le_of_ble_eq_true rfl) (Nat.le_of_ble_eq_true rfl) rfl dL_law_921 (fun _ _ _ z => z.elim) (fun r E1 n1 z => ?_)
  obtain ⟨k, x, g, rfl, hk3, hg, hx, ⟨fs, hfs⟩, d8, hd8, hc⟩ := z
  refine g_istore (lv2 := [(5, _), (0, _), (1, _), (2, _), (3, _), (4, _)]) (by decide) rfl dL_law_924 ?_
  refine g_aload_n 3 rfl dL_law_926 ?_
  refine g_aload_n 1 rfl dL_law_927 ?_
  refine g_iload 5 rfl dL_law_928 ?_
  refine gn_ic 1 (by decide) dL_law_930 ?_
  refine gn_iadd dL_law_931 ?_
  refine g_sld (by omega) dL_law_932 ?_
  refine gw_V hc l_L_224 rfl (Rcv.of hfs rfl) (by omega) (Nat.le_of_ble_eq_true rfl) rfl dL_law_933 (fun _ _ _ z => z) (fun r E2 n2 z => ?_)
  obtain ⟨rfl, hg2, ⟨b, rfl, hb⟩, h1⟩ := z
  refine g_istore (lv2 := [(6, _), (5, _), (0, _), (1, _), (2, _), (3, _), (4, _)]) (by decide) rfl dL_law_936 ?_
  refine g_aload_n 4 rfl dL_law_938 ?_
  obtain ⟨S, q, I, A, f, -, i2, -, -, -, i6⟩ := id h1
  refine g_world i2 ?_
  refine gv_V c_X8_thrown l_L_160 rfl m_rcv (Nat.le_of_ble_eq_true rfl) (Nat.le_of_ble_eq_true rfl) rfl dL_law_939 ?_
  refine g_world i2.symm ?_
  refine g_iload 1 rfl dL_law_942 ?_
  refine g_icmp_eq (tgt := 949) (by decide) dL_law_944 (fun _ => ?_) (fun c => absurd i6 c)
  refine g_iload 1 rfl dL_law_949 ?_
  refine g_if_ne (tgt := 966) (by decide) dL_law_951 (fun _ => ?_) (fun c => ?_)
  · skip
    refine g_goto (tgt := 3119) (by decide) dL_law_966 ?_
    exact G.sub [2, 3, 4, 5, 6] rfl (K _ _ _ h1)
  · obtain rfl := nI_0k hk3 c
    have hb := hb rfl
    have hx := hx rfl
    refine g_aload_n 5 rfl dL_law_954 ?_
    refine gn_ic 0 (by decide) dL_law_955 ?_
    refine g_lald (N := 1) (f := g) hg2 (vp_in_nI (by decide) (by decide)) dL_law_956 ?_
    refine g_iload 0 rfl dL_law_957 ?_
    refine g_i2l dL_law_959 ?_
    refine g_lcmp dL_law_960 ?_
    refine g_if_eq (tgt := 966) (by decide) dL_law_961 (fun _ => ?_) (fun c => absurd (cmp_I hx hb) c)
    refine g_goto (tgt := 3119) (by decide) dL_law_966 ?_
    exact G.sub [2, 3, 4, 5, 6] rfl (K _ _ _ h1)
set_option maxRecDepth 100000 in
set_option maxHeartbeats 1000000 in
theorem q_daysStayed (h0 : IVo Γ ab mo k0 t E n) (ht : t ≤ 600) (hL : 6 * t + 6 ≤ gF Γ 10) (K : KL Γ ab mo t kc ks) : G Γ 15 ML_law Pl X0 969 (lvL Γ ab mo t) [] E n (kc + 330) (ks + 10200) := by
  refine g_aload_n 1 rfl dL_law_969 ?_
  refine g_aload_n 0 rfl dL_law_970 ?_
  refine g_iload 4 rfl dL_law_971 ?_
  refine gn_ic 1 (by decide) dL_law_973 ?_
  refine gn_iadd dL_law_974 ?_
  refine g_sld (by omega) dL_law_975 ?_
  refine g_aload_n 3 rfl dL_law_976 ?_
  refine g_invSH (w_daysStayed h0 (o_daysStayed h0)) l_L_225 rfl (Nat.le_of_ble_eq_true rfl) (Nat.le_of_ble_eq_true rfl) rfl dL_law_977 (fun _ _ _ z => z.elim) (fun r E1 n1 z => ?_)
  obtain ⟨k, x, g, rfl, hk3, hg, hx, ⟨fs, hfs⟩, d8, hd8, hc⟩ := z
  refine g_istore (lv2 := [(5, _), (0, _), (1, _), (2, _), (3, _), (4, _)]) (by decide) rfl dL_law_980 ?_
  refine g_aload_n 3 rfl dL_law_982 ?_
  refine g_aload_n 1 rfl dL_law_983 ?_
  refine g_iload 5 rfl dL_law_984 ?_
  refine gn_ic 1 (by decide) dL_law_986 ?_
  refine gn_iadd dL_law_987 ?_
  refine g_sld (by omega) dL_law_988 ?_
  refine gw_V hc l_L_227 rfl (Rcv.of hfs rfl) (by omega) (Nat.le_of_ble_eq_true rfl) rfl dL_law_989 (fun _ _ _ z => z) (fun r E2 n2 z => ?_)
  obtain ⟨rfl, hg2, ⟨b, rfl, hb⟩, h1⟩ := z
  refine g_istore (lv2 := [(6, _), (5, _), (0, _), (1, _), (2, _), (3, _), (4, _)]) (by decide) rfl dL_law_992 ?_
  refine g_aload_n 4 rfl dL_law_994 ?_
  obtain ⟨S, q, I, A, f, -, i2, -, -, -, i6⟩ := id h1
  refine g_world i2 ?_
  refine gv_V c_X8_thrown l_L_160 rfl m_rcv (Nat.le_of_ble_eq_true rfl) (Nat.le_of_ble_eq_true rfl) rfl dL_law_995 ?_
  refine g_world i2.symm ?_
  refine g_iload 1 rfl dL_law_998 ?_
  refine g_icmp_eq (tgt := 1005) (by decide) dL_law_1000 (fun _ => ?_) (fun c => absurd i6 c)
  refine g_iload 1 rfl dL_law_1005 ?_
  refine g_if_ne (tgt := 1022) (by decide) dL_law_1007 (fun _ => ?_) (fun c => ?_)
  · skip
    refine g_goto (tgt := 3119) (by decide) dL_law_1022 ?_
    exact G.sub [2, 3, 4, 5, 6] rfl (K _ _ _ h1)
  · obtain rfl := nI_0k hk3 c
    have hb := hb rfl
    have hx := hx rfl
    refine g_aload_n 5 rfl dL_law_1010 ?_
    refine gn_ic 0 (by decide) dL_law_1011 ?_
    refine g_lald (N := 1) (f := g) hg2 (vp_in_nI (by decide) (by decide)) dL_law_1012 ?_
    refine g_iload 0 rfl dL_law_1013 ?_
    refine g_i2l dL_law_1015 ?_
    refine g_lcmp dL_law_1016 ?_
    refine g_if_eq (tgt := 1022) (by decide) dL_law_1017 (fun _ => ?_) (fun c => absurd (cmp_I hx hb) c)
    refine g_goto (tgt := 3119) (by decide) dL_law_1022 ?_
    exact G.sub [2, 3, 4, 5, 6] rfl (K _ _ _ h1)
set_option maxRecDepth 100000 in
set_option maxHeartbeats 1000000 in
theorem q_nameLength (h0 : IVo Γ ab mo k0 t E n) (ht : t ≤ 600) (hL : 6 * t + 6 ≤ gF Γ 10) (K : KL Γ ab mo t kc ks) : G Γ 15 ML_law Pl X0 1025 (lvL Γ ab mo t) [] E n (kc + 330) (ks + 10200) := by
  refine g_aload_n 1 rfl dL_law_1025 ?_
  refine g_aload_n 0 rfl dL_law_1026 ?_
  refine g_iload 4 rfl dL_law_1027 ?_
  refine gn_ic 1 (by decide) dL_law_1029 ?_
  refine gn_iadd dL_law_1030 ?_
  refine g_sld (by omega) dL_law_1031 ?_
  refine g_aload_n 3 rfl dL_law_1032 ?_
  refine g_invSH (w_nameLength h0 (o_nameLength h0)) l_L_228 rfl (Nat.le_of_ble_eq_true rfl) (Nat.le_of_ble_eq_true rfl) rfl dL_law_1033 (fun _ _ _ z => z.elim) (fun r E1 n1 z => ?_)
  obtain ⟨k, x, g, rfl, hk3, hg, hx, ⟨fs, hfs⟩, d8, hd8, hc⟩ := z
  refine g_istore (lv2 := [(5, _), (0, _), (1, _), (2, _), (3, _), (4, _)]) (by decide) rfl dL_law_1036 ?_
  refine g_aload_n 3 rfl dL_law_1038 ?_
  refine g_aload_n 1 rfl dL_law_1039 ?_
  refine g_iload 5 rfl dL_law_1040 ?_
  refine gn_ic 1 (by decide) dL_law_1042 ?_
  refine gn_iadd dL_law_1043 ?_
  refine g_sld (by omega) dL_law_1044 ?_
  refine gw_V hc l_L_230 rfl (Rcv.of hfs rfl) (by omega) (Nat.le_of_ble_eq_true rfl) rfl dL_law_1045 (fun _ _ _ z => z) (fun r E2 n2 z => ?_)
  obtain ⟨rfl, hg2, ⟨b, rfl, hb⟩, h1⟩ := z
  refine g_istore (lv2 := [(6, _), (5, _), (0, _), (1, _), (2, _), (3, _), (4, _)]) (by decide) rfl dL_law_1048 ?_
  refine g_aload_n 4 rfl dL_law_1050 ?_
  obtain ⟨S, q, I, A, f, -, i2, -, -, -, i6⟩ := id h1
  refine g_world i2 ?_
  refine gv_V c_X8_thrown l_L_160 rfl m_rcv (Nat.le_of_ble_eq_true rfl) (Nat.le_of_ble_eq_true rfl) rfl dL_law_1051 ?_
  refine g_world i2.symm ?_
  refine g_iload 1 rfl dL_law_1054 ?_
  refine g_icmp_eq (tgt := 1061) (by decide) dL_law_1056 (fun _ => ?_) (fun c => absurd i6 c)
  refine g_iload 1 rfl dL_law_1061 ?_
  refine g_if_ne (tgt := 1078) (by decide) dL_law_1063 (fun _ => ?_) (fun c => ?_)
  · skip
    refine g_goto (tgt := 3119) (by decide) dL_law_1078 ?_
    exact G.sub [2, 3, 4, 5, 6] rfl (K _ _ _ h1)
  · obtain rfl := nI_0k hk3 c
    have hb := hb rfl
    have hx := hx rfl
    refine g_aload_n 5 rfl dL_law_1066 ?_
    refine gn_ic 0 (by decide) dL_law_1067 ?_
    refine g_lald (N := 1) (f := g) hg2 (vp_in_nI (by decide) (by decide)) dL_law_1068 ?_
    refine g_iload 0 rfl dL_law_1069 ?_
    refine g_i2l dL_law_1071 ?_
    refine g_lcmp dL_law_1072 ?_
    refine g_if_eq (tgt := 1078) (by decide) dL_law_1073 (fun _ => ?_) (fun c => absurd (cmp_I hx hb) c)
    refine g_goto (tgt := 3119) (by decide) dL_law_1078 ?_
    exact G.sub [2, 3, 4, 5, 6] rfl (K _ _ _ h1)
set_option maxRecDepth 100000 in
set_option maxHeartbeats 1000000 in
theorem q_nameLetter (h0 : IVo Γ ab mo k0 t E n) (ht : t ≤ 600) (hL : 6 * t + 6 ≤ gF Γ 10) (K : KL Γ ab mo t kc ks) : G Γ 15 ML_law Pl X0 1081 (lvL Γ ab mo t) [] E n (kc + 330) (ks + 10200) := by
  refine g_aload_n 1 rfl dL_law_1081 ?_
  refine g_aload_n 0 rfl dL_law_1082 ?_
  refine g_iload 4 rfl dL_law_1083 ?_
  refine gn_ic 1 (by decide) dL_law_1085 ?_
  refine gn_iadd dL_law_1086 ?_
  refine g_sld (by omega) dL_law_1087 ?_
  refine g_aload_n 0 rfl dL_law_1088 ?_
  refine g_iload 4 rfl dL_law_1089 ?_
  refine gn_ic 2 (by decide) dL_law_1091 ?_
  refine gn_iadd dL_law_1092 ?_
  refine g_sld (by omega) dL_law_1093 ?_
  refine g_aload_n 3 rfl dL_law_1094 ?_
  refine g_invSH (w_nameLetter h0 (o_nameLetter h0)) l_L_231 rfl (Nat.le_of_ble_eq_true rfl) (Nat.le_of_ble_eq_true rfl) rfl dL_law_1095 (fun _ _ _ z => z.elim) (fun r E1 n1 z => ?_)
  obtain ⟨k, x, g, rfl, hk3, hg, hx, ⟨fs, hfs⟩, d8, hd8, hc⟩ := z
  refine g_istore (lv2 := [(5, _), (0, _), (1, _), (2, _), (3, _), (4, _)]) (by decide) rfl dL_law_1098 ?_
  refine g_aload_n 3 rfl dL_law_1100 ?_
  refine g_aload_n 1 rfl dL_law_1101 ?_
  refine g_iload 5 rfl dL_law_1102 ?_
  refine gn_ic 1 (by decide) dL_law_1104 ?_
  refine gn_iadd dL_law_1105 ?_
  refine g_sld (by omega) dL_law_1106 ?_
  refine g_aload_n 1 rfl dL_law_1107 ?_
  refine g_iload 5 rfl dL_law_1108 ?_
  refine gn_ic 2 (by decide) dL_law_1110 ?_
  refine gn_iadd dL_law_1111 ?_
  refine g_sld (by omega) dL_law_1112 ?_
  refine gw_V hc l_L_233 rfl (Rcv.of hfs rfl) (by omega) (Nat.le_of_ble_eq_true rfl) rfl dL_law_1113 (fun _ _ _ z => z) (fun r E2 n2 z => ?_)
  obtain ⟨rfl, hg2, ⟨b, rfl, hb⟩, h1⟩ := z
  refine g_istore (lv2 := [(6, _), (5, _), (0, _), (1, _), (2, _), (3, _), (4, _)]) (by decide) rfl dL_law_1116 ?_
  refine g_aload_n 4 rfl dL_law_1118 ?_
  obtain ⟨S, q, I, A, f, -, i2, -, -, -, i6⟩ := id h1
  refine g_world i2 ?_
  refine gv_V c_X8_thrown l_L_160 rfl m_rcv (Nat.le_of_ble_eq_true rfl) (Nat.le_of_ble_eq_true rfl) rfl dL_law_1119 ?_
  refine g_world i2.symm ?_
  refine g_iload 1 rfl dL_law_1122 ?_
  refine g_icmp_eq (tgt := 1129) (by decide) dL_law_1124 (fun _ => ?_) (fun c => absurd i6 c)
  refine g_iload 1 rfl dL_law_1129 ?_
  refine g_if_ne (tgt := 1146) (by decide) dL_law_1131 (fun _ => ?_) (fun c => ?_)
  · skip
    refine g_goto (tgt := 3119) (by decide) dL_law_1146 ?_
    exact G.sub [2, 3, 4, 5, 6] rfl (K _ _ _ h1)
  · obtain rfl := nI_0k hk3 c
    have hb := hb rfl
    have hx := hx rfl
    refine g_aload_n 5 rfl dL_law_1134 ?_
    refine gn_ic 0 (by decide) dL_law_1135 ?_
    refine g_lald (N := 1) (f := g) hg2 (vp_in_nI (by decide) (by decide)) dL_law_1136 ?_
    refine g_iload 0 rfl dL_law_1137 ?_
    refine g_i2l dL_law_1139 ?_
    refine g_lcmp dL_law_1140 ?_
    refine g_if_eq (tgt := 1146) (by decide) dL_law_1141 (fun _ => ?_) (fun c => absurd (cmp_I hx hb) c)
    refine g_goto (tgt := 3119) (by decide) dL_law_1146 ?_
    exact G.sub [2, 3, 4, 5, 6] rfl (K _ _ _ h1)
set_option maxRecDepth 100000 in
set_option maxHeartbeats 1000000 in
theorem q_findByName (h0 : IVo Γ ab mo k0 t E n) (ht : t ≤ 600) (hL : 6 * t + 6 ≤ gF Γ 10) (K : KL Γ ab mo t kc ks) : G Γ 15 ML_law Pl X0 1149 (lvL Γ ab mo t) [] E n (kc + 330) (ks + 10200) := by
  obtain ⟨d7, mc, ms, q1, q2, q3, hc7⟩ := o_findByName h0
  refine G.mono (kc2 := kc + mc) (ks2 := ks + ms) (by omega) (by omega) ?_
  refine g_aload_n 1 rfl dL_law_1149 ?_
  refine gw_V hc7 l_L_234 rfl h0.rc (by omega) (Nat.le_of_ble_eq_true rfl) rfl dL_law_1150 (fun y E1 n1 z => by obtain ⟨j, hj, -⟩ := z; exact absurd hj (by simp)) (fun r E1 n1 z => ?_)
  obtain ⟨x, rfl, hp⟩ := z
  refine g_aload_n 2 rfl dL_law_1153 ?_
  obtain ⟨⟨g, hg⟩, ⟨fs, hfs⟩, h3⟩ := hp
  obtain ⟨d8, hd8, hc⟩ := h3 g n1 (Nat.le_refl _)
  rw [hset_id hg] at hc
  refine gw_V hc l_L_237 rfl (Rcv.of hfs rfl) (by omega) (Nat.le_of_ble_eq_true rfl) rfl dL_law_1154 (fun _ _ _ z => z) (fun r E2 n2 z => ?_)
  obtain ⟨rfl, hg2, ⟨b, rfl, hb⟩, h1⟩ := z
  refine g_icmp_eq (tgt := 3119) (by decide) dL_law_1157 (fun _ => ?_) (fun c => absurd (hb rfl).symm c)
  exact K _ _ _ h1
set_option maxRecDepth 100000 in
set_option maxHeartbeats 1000000 in
theorem q_lodgersOn (h0 : IVo Γ ab mo k0 t E n) (ht : t ≤ 600) (hL : 6 * t + 6 ≤ gF Γ 10) (K : KL Γ ab mo t kc ks) : G Γ 15 ML_law Pl X0 1162 (lvL Γ ab mo t) [] E n (kc + 330) (ks + 10200) := by
  refine g_aload_n 1 rfl dL_law_1162 ?_
  refine g_aload_n 0 rfl dL_law_1163 ?_
  refine g_iload 4 rfl dL_law_1164 ?_
  refine gn_ic 1 (by decide) dL_law_1166 ?_
  refine gn_iadd dL_law_1167 ?_
  refine g_sld (by omega) dL_law_1168 ?_
  refine g_aload_n 3 rfl dL_law_1169 ?_
  refine g_invSH (w_lodgersOn h0 (o_lodgersOn h0)) l_L_238 rfl (Nat.le_of_ble_eq_true rfl) (Nat.le_of_ble_eq_true rfl) rfl dL_law_1170 (fun _ _ _ z => z.elim) (fun r E1 n1 z => ?_)
  obtain ⟨k, x, g, rfl, hk3, hg, hx, ⟨fs, hfs⟩, d8, hd8, hc⟩ := z
  refine g_istore (lv2 := [(5, _), (0, _), (1, _), (2, _), (3, _), (4, _)]) (by decide) rfl dL_law_1173 ?_
  refine g_aload_n 3 rfl dL_law_1175 ?_
  refine g_aload_n 1 rfl dL_law_1176 ?_
  refine g_iload 5 rfl dL_law_1177 ?_
  refine gn_ic 1 (by decide) dL_law_1179 ?_
  refine gn_iadd dL_law_1180 ?_
  refine g_sld (by omega) dL_law_1181 ?_
  refine gw_V hc l_L_240 rfl (Rcv.of hfs rfl) (by omega) (Nat.le_of_ble_eq_true rfl) rfl dL_law_1182 (fun _ _ _ z => z) (fun r E2 n2 z => ?_)
  obtain ⟨rfl, hg2, ⟨b, rfl, hb⟩, h1⟩ := z
  refine g_istore (lv2 := [(6, _), (5, _), (0, _), (1, _), (2, _), (3, _), (4, _)]) (by decide) rfl dL_law_1185 ?_
  refine g_aload_n 4 rfl dL_law_1187 ?_
  obtain ⟨S, q, I, A, f, -, i2, -, -, -, i6⟩ := id h1
  refine g_world i2 ?_
  refine gv_V c_X8_thrown l_L_160 rfl m_rcv (Nat.le_of_ble_eq_true rfl) (Nat.le_of_ble_eq_true rfl) rfl dL_law_1188 ?_
  refine g_world i2.symm ?_
  refine g_iload 1 rfl dL_law_1191 ?_
  refine g_icmp_eq (tgt := 1198) (by decide) dL_law_1193 (fun _ => ?_) (fun c => absurd i6 c)
  refine g_iload 1 rfl dL_law_1198 ?_
  refine g_if_ne (tgt := 1215) (by decide) dL_law_1200 (fun _ => ?_) (fun c => ?_)
  · skip
    refine g_goto (tgt := 3119) (by decide) dL_law_1215 ?_
    exact G.sub [2, 3, 4, 5, 6] rfl (K _ _ _ h1)
  · obtain rfl := nI_0k hk3 c
    have hb := hb rfl
    have hx := hx rfl
    refine g_aload_n 5 rfl dL_law_1203 ?_
    refine gn_ic 0 (by decide) dL_law_1204 ?_
    refine g_lald (N := 1) (f := g) hg2 (vp_in_nI (by decide) (by decide)) dL_law_1205 ?_
    refine g_iload 0 rfl dL_law_1206 ?_
    refine g_i2l dL_law_1208 ?_
    refine g_lcmp dL_law_1209 ?_
    refine g_if_eq (tgt := 1215) (by decide) dL_law_1210 (fun _ => ?_) (fun c => absurd (cmp_I hx hb) c)
    refine g_goto (tgt := 3119) (by decide) dL_law_1215 ?_
    exact G.sub [2, 3, 4, 5, 6] rfl (K _ _ _ h1)
set_option maxRecDepth 100000 in
set_option maxHeartbeats 1000000 in
theorem q_lodgerOn (h0 : IVo Γ ab mo k0 t E n) (ht : t ≤ 600) (hL : 6 * t + 6 ≤ gF Γ 10) (K : KL Γ ab mo t kc ks) : G Γ 15 ML_law Pl X0 1218 (lvL Γ ab mo t) [] E n (kc + 330) (ks + 10200) := by
  refine g_aload_n 1 rfl dL_law_1218 ?_
  refine g_aload_n 0 rfl dL_law_1219 ?_
  refine g_iload 4 rfl dL_law_1220 ?_
  refine gn_ic 1 (by decide) dL_law_1222 ?_
  refine gn_iadd dL_law_1223 ?_
  refine g_sld (by omega) dL_law_1224 ?_
  refine g_aload_n 0 rfl dL_law_1225 ?_
  refine g_iload 4 rfl dL_law_1226 ?_
  refine gn_ic 2 (by decide) dL_law_1228 ?_
  refine gn_iadd dL_law_1229 ?_
  refine g_sld (by omega) dL_law_1230 ?_
  refine g_aload_n 3 rfl dL_law_1231 ?_
  refine g_invSH (w_lodgerOn h0 (o_lodgerOn h0)) l_L_241 rfl (Nat.le_of_ble_eq_true rfl) (Nat.le_of_ble_eq_true rfl) rfl dL_law_1232 (fun _ _ _ z => z.elim) (fun r E1 n1 z => ?_)
  obtain ⟨k, x, g, rfl, hk3, hg, hx, ⟨fs, hfs⟩, d8, hd8, hc⟩ := z
  refine g_istore (lv2 := [(5, _), (0, _), (1, _), (2, _), (3, _), (4, _)]) (by decide) rfl dL_law_1235 ?_
  refine g_aload_n 3 rfl dL_law_1237 ?_
  refine g_aload_n 1 rfl dL_law_1238 ?_
  refine g_iload 5 rfl dL_law_1239 ?_
  refine gn_ic 1 (by decide) dL_law_1241 ?_
  refine gn_iadd dL_law_1242 ?_
  refine g_sld (by omega) dL_law_1243 ?_
  refine g_aload_n 1 rfl dL_law_1244 ?_
  refine g_iload 5 rfl dL_law_1245 ?_
  refine gn_ic 2 (by decide) dL_law_1247 ?_
  refine gn_iadd dL_law_1248 ?_
  refine g_sld (by omega) dL_law_1249 ?_
  refine gw_V hc l_L_243 rfl (Rcv.of hfs rfl) (by omega) (Nat.le_of_ble_eq_true rfl) rfl dL_law_1250 (fun _ _ _ z => z) (fun r E2 n2 z => ?_)
  obtain ⟨rfl, hg2, ⟨b, rfl, hb⟩, h1⟩ := z
  refine g_istore (lv2 := [(6, _), (5, _), (0, _), (1, _), (2, _), (3, _), (4, _)]) (by decide) rfl dL_law_1253 ?_
  refine g_aload_n 4 rfl dL_law_1255 ?_
  obtain ⟨S, q, I, A, f, -, i2, -, -, -, i6⟩ := id h1
  refine g_world i2 ?_
  refine gv_V c_X8_thrown l_L_160 rfl m_rcv (Nat.le_of_ble_eq_true rfl) (Nat.le_of_ble_eq_true rfl) rfl dL_law_1256 ?_
  refine g_world i2.symm ?_
  refine g_iload 1 rfl dL_law_1259 ?_
  refine g_icmp_eq (tgt := 1266) (by decide) dL_law_1261 (fun _ => ?_) (fun c => absurd i6 c)
  refine g_iload 1 rfl dL_law_1266 ?_
  refine g_if_ne (tgt := 1283) (by decide) dL_law_1268 (fun _ => ?_) (fun c => ?_)
  · skip
    refine g_goto (tgt := 3119) (by decide) dL_law_1283 ?_
    exact G.sub [2, 3, 4, 5, 6] rfl (K _ _ _ h1)
  · obtain rfl := nI_0k hk3 c
    have hb := hb rfl
    have hx := hx rfl
    refine g_aload_n 5 rfl dL_law_1271 ?_
    refine gn_ic 0 (by decide) dL_law_1272 ?_
    refine g_lald (N := 1) (f := g) hg2 (vp_in_nI (by decide) (by decide)) dL_law_1273 ?_
    refine g_iload 0 rfl dL_law_1274 ?_
    refine g_i2l dL_law_1276 ?_
    refine g_lcmp dL_law_1277 ?_
    refine g_if_eq (tgt := 1283) (by decide) dL_law_1278 (fun _ => ?_) (fun c => absurd (cmp_I hx hb) c)
    refine g_goto (tgt := 3119) (by decide) dL_law_1283 ?_
    exact G.sub [2, 3, 4, 5, 6] rfl (K _ _ _ h1)
set_option maxRecDepth 100000 in
set_option maxHeartbeats 1000000 in
theorem q_averageVowel (h0 : IVo Γ ab mo k0 t E n) (ht : t ≤ 600) (hL : 6 * t + 6 ≤ gF Γ 10) (K : KL Γ ab mo t kc ks) : G Γ 15 ML_law Pl X0 1286 (lvL Γ ab mo t) [] E n (kc + 330) (ks + 10200) := by
  refine g_aload_n 1 rfl dL_law_1286 ?_
  refine g_aload_n 0 rfl dL_law_1287 ?_
  refine g_iload 4 rfl dL_law_1288 ?_
  refine gn_ic 1 (by decide) dL_law_1290 ?_
  refine gn_iadd dL_law_1291 ?_
  refine g_sld (by omega) dL_law_1292 ?_
  refine g_aload_n 0 rfl dL_law_1293 ?_
  refine g_iload 4 rfl dL_law_1294 ?_
  refine gn_ic 2 (by decide) dL_law_1296 ?_
  refine gn_iadd dL_law_1297 ?_
  refine g_sld (by omega) dL_law_1298 ?_
  refine g_aload_n 3 rfl dL_law_1299 ?_
  refine g_invSH (w_averageVowel h0 (o_averageVowel h0)) l_L_244 rfl (Nat.le_of_ble_eq_true rfl) (Nat.le_of_ble_eq_true rfl) rfl dL_law_1300 (fun _ _ _ z => z.elim) (fun r E1 n1 z => ?_)
  obtain ⟨k, x, g, rfl, hk3, hg, hx, ⟨fs, hfs⟩, d8, hd8, hc⟩ := z
  refine g_istore (lv2 := [(5, _), (0, _), (1, _), (2, _), (3, _), (4, _)]) (by decide) rfl dL_law_1303 ?_
  refine g_aload_n 3 rfl dL_law_1305 ?_
  refine g_aload_n 1 rfl dL_law_1306 ?_
  refine g_iload 5 rfl dL_law_1307 ?_
  refine gn_ic 1 (by decide) dL_law_1309 ?_
  refine gn_iadd dL_law_1310 ?_
  refine g_sld (by omega) dL_law_1311 ?_
  refine g_aload_n 1 rfl dL_law_1312 ?_
  refine g_iload 5 rfl dL_law_1313 ?_
  refine gn_ic 2 (by decide) dL_law_1315 ?_
  refine gn_iadd dL_law_1316 ?_
  refine g_sld (by omega) dL_law_1317 ?_
  refine gw_V hc l_L_246 rfl (Rcv.of hfs rfl) (by omega) (Nat.le_of_ble_eq_true rfl) rfl dL_law_1318 (fun _ _ _ z => z) (fun r E2 n2 z => ?_)
  obtain ⟨rfl, hg2, ⟨b, rfl, hb⟩, h1⟩ := z
  refine g_istore (lv2 := [(6, _), (5, _), (0, _), (1, _), (2, _), (3, _), (4, _)]) (by decide) rfl dL_law_1321 ?_
  refine g_aload_n 4 rfl dL_law_1323 ?_
  obtain ⟨S, q, I, A, f, -, i2, -, -, -, i6⟩ := id h1
  refine g_world i2 ?_
  refine gv_V c_X8_thrown l_L_160 rfl m_rcv (Nat.le_of_ble_eq_true rfl) (Nat.le_of_ble_eq_true rfl) rfl dL_law_1324 ?_
  refine g_world i2.symm ?_
  refine g_iload 1 rfl dL_law_1327 ?_
  refine g_icmp_eq (tgt := 1334) (by decide) dL_law_1329 (fun _ => ?_) (fun c => absurd i6 c)
  refine g_iload 1 rfl dL_law_1334 ?_
  refine g_if_ne (tgt := 1351) (by decide) dL_law_1336 (fun _ => ?_) (fun c => ?_)
  · skip
    refine g_goto (tgt := 3119) (by decide) dL_law_1351 ?_
    exact G.sub [2, 3, 4, 5, 6] rfl (K _ _ _ h1)
  · obtain rfl := nI_0k hk3 c
    have hb := hb rfl
    have hx := hx rfl
    refine g_aload_n 5 rfl dL_law_1339 ?_
    refine gn_ic 0 (by decide) dL_law_1340 ?_
    refine g_lald (N := 1) (f := g) hg2 (vp_in_nI (by decide) (by decide)) dL_law_1341 ?_
    refine g_iload 0 rfl dL_law_1342 ?_
    refine g_i2l dL_law_1344 ?_
    refine g_lcmp dL_law_1345 ?_
    refine g_if_eq (tgt := 1351) (by decide) dL_law_1346 (fun _ => ?_) (fun c => absurd (cmp_I hx hb) c)
    refine g_goto (tgt := 3119) (by decide) dL_law_1351 ?_
    exact G.sub [2, 3, 4, 5, 6] rfl (K _ _ _ h1)
set_option maxRecDepth 100000 in
set_option maxHeartbeats 1000000 in
theorem q_distanceToLandlady (h0 : IVo Γ ab mo k0 t E n) (ht : t ≤ 600) (hL : 6 * t + 6 ≤ gF Γ 10) (K : KL Γ ab mo t kc ks) : G Γ 15 ML_law Pl X0 1354 (lvL Γ ab mo t) [] E n (kc + 330) (ks + 10200) := by
  refine g_aload_n 1 rfl dL_law_1354 ?_
  refine g_aload_n 0 rfl dL_law_1355 ?_
  refine g_iload 4 rfl dL_law_1356 ?_
  refine gn_ic 1 (by decide) dL_law_1358 ?_
  refine gn_iadd dL_law_1359 ?_
  refine g_sld (by omega) dL_law_1360 ?_
  refine g_aload_n 3 rfl dL_law_1361 ?_
  refine g_invSH (w_distanceToLandlady h0 (o_distanceToLandlady h0)) l_L_247 rfl (Nat.le_of_ble_eq_true rfl) (Nat.le_of_ble_eq_true rfl) rfl dL_law_1362 (fun _ _ _ z => z.elim) (fun r E1 n1 z => ?_)
  obtain ⟨k, x, g, rfl, hk3, hg, hx, ⟨fs, hfs⟩, d8, hd8, hc⟩ := z
  refine g_istore (lv2 := [(5, _), (0, _), (1, _), (2, _), (3, _), (4, _)]) (by decide) rfl dL_law_1365 ?_
  refine g_aload_n 3 rfl dL_law_1367 ?_
  refine g_aload_n 1 rfl dL_law_1368 ?_
  refine g_iload 5 rfl dL_law_1369 ?_
  refine gn_ic 1 (by decide) dL_law_1371 ?_
  refine gn_iadd dL_law_1372 ?_
  refine g_sld (by omega) dL_law_1373 ?_
  refine gw_V hc l_L_249 rfl (Rcv.of hfs rfl) (by omega) (Nat.le_of_ble_eq_true rfl) rfl dL_law_1374 (fun _ _ _ z => z) (fun r E2 n2 z => ?_)
  obtain ⟨rfl, hg2, ⟨b, rfl, hb⟩, h1⟩ := z
  refine g_istore (lv2 := [(6, _), (5, _), (0, _), (1, _), (2, _), (3, _), (4, _)]) (by decide) rfl dL_law_1377 ?_
  refine g_aload_n 4 rfl dL_law_1379 ?_
  obtain ⟨S, q, I, A, f, -, i2, -, -, -, i6⟩ := id h1
  refine g_world i2 ?_
  refine gv_V c_X8_thrown l_L_160 rfl m_rcv (Nat.le_of_ble_eq_true rfl) (Nat.le_of_ble_eq_true rfl) rfl dL_law_1380 ?_
  refine g_world i2.symm ?_
  refine g_iload 1 rfl dL_law_1383 ?_
  refine g_icmp_eq (tgt := 1390) (by decide) dL_law_1385 (fun _ => ?_) (fun c => absurd i6 c)
  refine g_iload 1 rfl dL_law_1390 ?_
  refine g_if_ne (tgt := 1407) (by decide) dL_law_1392 (fun _ => ?_) (fun c => ?_)
  · skip
    refine g_goto (tgt := 3119) (by decide) dL_law_1407 ?_
    exact G.sub [2, 3, 4, 5, 6] rfl (K _ _ _ h1)
  · obtain rfl := nI_0k hk3 c
    have hb := hb rfl
    have hx := hx rfl
    refine g_aload_n 5 rfl dL_law_1395 ?_
    refine gn_ic 0 (by decide) dL_law_1396 ?_
    refine g_lald (N := 1) (f := g) hg2 (vp_in_nI (by decide) (by decide)) dL_law_1397 ?_
    refine g_iload 0 rfl dL_law_1398 ?_
    refine g_i2l dL_law_1400 ?_
    refine g_lcmp dL_law_1401 ?_
    refine g_if_eq (tgt := 1407) (by decide) dL_law_1402 (fun _ => ?_) (fun c => absurd (cmp_I hx hb) c)
    refine g_goto (tgt := 3119) (by decide) dL_law_1407 ?_
    exact G.sub [2, 3, 4, 5, 6] rfl (K _ _ _ h1)
set_option maxRecDepth 100000 in
set_option maxHeartbeats 1000000 in
theorem q_distance (h0 : IVo Γ ab mo k0 t E n) (ht : t ≤ 600) (hL : 6 * t + 6 ≤ gF Γ 10) (K : KL Γ ab mo t kc ks) : G Γ 15 ML_law Pl X0 1410 (lvL Γ ab mo t) [] E n (kc + 330) (ks + 10200) := by
  refine g_aload_n 1 rfl dL_law_1410 ?_
  refine g_aload_n 0 rfl dL_law_1411 ?_
  refine g_iload 4 rfl dL_law_1412 ?_
  refine gn_ic 1 (by decide) dL_law_1414 ?_
  refine gn_iadd dL_law_1415 ?_
  refine g_sld (by omega) dL_law_1416 ?_
  refine g_aload_n 0 rfl dL_law_1417 ?_
  refine g_iload 4 rfl dL_law_1418 ?_
  refine gn_ic 2 (by decide) dL_law_1420 ?_
  refine gn_iadd dL_law_1421 ?_
  refine g_sld (by omega) dL_law_1422 ?_
  refine g_aload_n 3 rfl dL_law_1423 ?_
  refine g_invSH (w_distance h0 (o_distance h0)) l_L_250 rfl (Nat.le_of_ble_eq_true rfl) (Nat.le_of_ble_eq_true rfl) rfl dL_law_1424 (fun _ _ _ z => z.elim) (fun r E1 n1 z => ?_)
  obtain ⟨k, x, g, rfl, hk3, hg, hx, ⟨fs, hfs⟩, d8, hd8, hc⟩ := z
  refine g_istore (lv2 := [(5, _), (0, _), (1, _), (2, _), (3, _), (4, _)]) (by decide) rfl dL_law_1427 ?_
  refine g_aload_n 3 rfl dL_law_1429 ?_
  refine g_aload_n 1 rfl dL_law_1430 ?_
  refine g_iload 5 rfl dL_law_1431 ?_
  refine gn_ic 1 (by decide) dL_law_1433 ?_
  refine gn_iadd dL_law_1434 ?_
  refine g_sld (by omega) dL_law_1435 ?_
  refine g_aload_n 1 rfl dL_law_1436 ?_
  refine g_iload 5 rfl dL_law_1437 ?_
  refine gn_ic 2 (by decide) dL_law_1439 ?_
  refine gn_iadd dL_law_1440 ?_
  refine g_sld (by omega) dL_law_1441 ?_
  refine gw_V hc l_L_252 rfl (Rcv.of hfs rfl) (by omega) (Nat.le_of_ble_eq_true rfl) rfl dL_law_1442 (fun _ _ _ z => z) (fun r E2 n2 z => ?_)
  obtain ⟨rfl, hg2, ⟨b, rfl, hb⟩, h1⟩ := z
  refine g_istore (lv2 := [(6, _), (5, _), (0, _), (1, _), (2, _), (3, _), (4, _)]) (by decide) rfl dL_law_1445 ?_
  refine g_aload_n 4 rfl dL_law_1447 ?_
  obtain ⟨S, q, I, A, f, -, i2, -, -, -, i6⟩ := id h1
  refine g_world i2 ?_
  refine gv_V c_X8_thrown l_L_160 rfl m_rcv (Nat.le_of_ble_eq_true rfl) (Nat.le_of_ble_eq_true rfl) rfl dL_law_1448 ?_
  refine g_world i2.symm ?_
  refine g_iload 1 rfl dL_law_1451 ?_
  refine g_icmp_eq (tgt := 1458) (by decide) dL_law_1453 (fun _ => ?_) (fun c => absurd i6 c)
  refine g_iload 1 rfl dL_law_1458 ?_
  refine g_if_ne (tgt := 1475) (by decide) dL_law_1460 (fun _ => ?_) (fun c => ?_)
  · skip
    refine g_goto (tgt := 3119) (by decide) dL_law_1475 ?_
    exact G.sub [2, 3, 4, 5, 6] rfl (K _ _ _ h1)
  · obtain rfl := nI_0k hk3 c
    have hb := hb rfl
    have hx := hx rfl
    refine g_aload_n 5 rfl dL_law_1463 ?_
    refine gn_ic 0 (by decide) dL_law_1464 ?_
    refine g_lald (N := 1) (f := g) hg2 (vp_in_nI (by decide) (by decide)) dL_law_1465 ?_
    refine g_iload 0 rfl dL_law_1466 ?_
    refine g_i2l dL_law_1468 ?_
    refine g_lcmp dL_law_1469 ?_
    refine g_if_eq (tgt := 1475) (by decide) dL_law_1470 (fun _ => ?_) (fun c => absurd (cmp_I hx hb) c)
    refine g_goto (tgt := 3119) (by decide) dL_law_1475 ?_
    exact G.sub [2, 3, 4, 5, 6] rfl (K _ _ _ h1)
set_option maxRecDepth 100000 in
set_option maxHeartbeats 1000000 in
theorem q_rhymes (h0 : IVo Γ ab mo k0 t E n) (ht : t ≤ 600) (hL : 6 * t + 6 ≤ gF Γ 10) (K : KL Γ ab mo t kc ks) : G Γ 15 ML_law Pl X0 1478 (lvL Γ ab mo t) [] E n (kc + 330) (ks + 10200) := by
  refine g_aload_n 1 rfl dL_law_1478 ?_
  refine g_aload_n 0 rfl dL_law_1479 ?_
  refine g_iload 4 rfl dL_law_1480 ?_
  refine gn_ic 1 (by decide) dL_law_1482 ?_
  refine gn_iadd dL_law_1483 ?_
  refine g_sld (by omega) dL_law_1484 ?_
  refine g_aload_n 0 rfl dL_law_1485 ?_
  refine g_iload 4 rfl dL_law_1486 ?_
  refine gn_ic 2 (by decide) dL_law_1488 ?_
  refine gn_iadd dL_law_1489 ?_
  refine g_sld (by omega) dL_law_1490 ?_
  refine g_aload_n 3 rfl dL_law_1491 ?_
  refine g_invSH (w_rhymes h0 (o_rhymes h0)) l_L_253 rfl (Nat.le_of_ble_eq_true rfl) (Nat.le_of_ble_eq_true rfl) rfl dL_law_1492 (fun _ _ _ z => z.elim) (fun r E1 n1 z => ?_)
  obtain ⟨k, x, g, rfl, hk3, hg, hx, ⟨fs, hfs⟩, d8, hd8, hc⟩ := z
  refine g_istore (lv2 := [(5, _), (0, _), (1, _), (2, _), (3, _), (4, _)]) (by decide) rfl dL_law_1495 ?_
  refine g_aload_n 3 rfl dL_law_1497 ?_
  refine g_aload_n 1 rfl dL_law_1498 ?_
  refine g_iload 5 rfl dL_law_1499 ?_
  refine gn_ic 1 (by decide) dL_law_1501 ?_
  refine gn_iadd dL_law_1502 ?_
  refine g_sld (by omega) dL_law_1503 ?_
  refine g_aload_n 1 rfl dL_law_1504 ?_
  refine g_iload 5 rfl dL_law_1505 ?_
  refine gn_ic 2 (by decide) dL_law_1507 ?_
  refine gn_iadd dL_law_1508 ?_
  refine g_sld (by omega) dL_law_1509 ?_
  refine gw_V hc l_L_255 rfl (Rcv.of hfs rfl) (by omega) (Nat.le_of_ble_eq_true rfl) rfl dL_law_1510 (fun _ _ _ z => z) (fun r E2 n2 z => ?_)
  obtain ⟨rfl, hg2, ⟨b, rfl, hb⟩, h1⟩ := z
  refine g_istore (lv2 := [(6, _), (5, _), (0, _), (1, _), (2, _), (3, _), (4, _)]) (by decide) rfl dL_law_1513 ?_
  refine g_aload_n 4 rfl dL_law_1515 ?_
  obtain ⟨S, q, I, A, f, -, i2, -, -, -, i6⟩ := id h1
  refine g_world i2 ?_
  refine gv_V c_X8_thrown l_L_160 rfl m_rcv (Nat.le_of_ble_eq_true rfl) (Nat.le_of_ble_eq_true rfl) rfl dL_law_1516 ?_
  refine g_world i2.symm ?_
  refine g_iload 1 rfl dL_law_1519 ?_
  refine g_icmp_eq (tgt := 1526) (by decide) dL_law_1521 (fun _ => ?_) (fun c => absurd i6 c)
  refine g_iload 1 rfl dL_law_1526 ?_
  refine g_if_ne (tgt := 1550) (by decide) dL_law_1528 (fun _ => ?_) (fun c => ?_)
  · skip
    refine g_goto (tgt := 3119) (by decide) dL_law_1550 ?_
    exact G.sub [2, 3, 4, 5, 6] rfl (K _ _ _ h1)
  · obtain rfl := nI_0k hk3 c
    have hb := hb rfl
    have hx := hx rfl
    refine g_aload_n 5 rfl dL_law_1531 ?_
    refine gn_ic 0 (by decide) dL_law_1532 ?_
    refine g_lald (N := 1) (f := g) hg2 (vp_in_nI (by decide) (by decide)) dL_law_1533 ?_
    refine g_iload 0 rfl dL_law_1534 ?_
    refine g_if_eq (tgt := 1543) (by decide) dL_law_1536 (fun c0 => ?_) (fun c0 => ?_)
    · refine g_lconst (v := 0) dL_law_1543 (by decide) ?_
      refine g_lcmp dL_law_1544 ?_
      refine g_if_eq (tgt := 1550) (by decide) dL_law_1545 (fun _ => ?_) (fun c => absurd (cmp_B0 hx hb c0) c)
      refine g_goto (tgt := 3119) (by decide) dL_law_1550 ?_
      exact G.sub [2, 3, 4, 5, 6] rfl (K _ _ _ h1)
    · refine g_lconst (v := 1) dL_law_1539 (by decide) ?_
      refine g_goto (tgt := 1544) (by decide) dL_law_1540 ?_
      refine g_lcmp dL_law_1544 ?_
      refine g_if_eq (tgt := 1550) (by decide) dL_law_1545 (fun _ => ?_) (fun c => absurd (cmp_B1 hx hb c0) c)
      refine g_goto (tgt := 3119) (by decide) dL_law_1550 ?_
      exact G.sub [2, 3, 4, 5, 6] rfl (K _ _ _ h1)
set_option maxRecDepth 100000 in
set_option maxHeartbeats 1000000 in
theorem q_rhymesWithLandlady (h0 : IVo Γ ab mo k0 t E n) (ht : t ≤ 600) (hL : 6 * t + 6 ≤ gF Γ 10) (K : KL Γ ab mo t kc ks) : G Γ 15 ML_law Pl X0 1553 (lvL Γ ab mo t) [] E n (kc + 330) (ks + 10200) := by
  refine g_aload_n 1 rfl dL_law_1553 ?_
  refine g_aload_n 0 rfl dL_law_1554 ?_
  refine g_iload 4 rfl dL_law_1555 ?_
  refine gn_ic 1 (by decide) dL_law_1557 ?_
  refine gn_iadd dL_law_1558 ?_
  refine g_sld (by omega) dL_law_1559 ?_
  refine g_aload_n 3 rfl dL_law_1560 ?_
  refine g_invSH (w_rhymesWithLandlady h0 (o_rhymesWithLandlady h0)) l_L_256 rfl (Nat.le_of_ble_eq_true rfl) (Nat.le_of_ble_eq_true rfl) rfl dL_law_1561 (fun _ _ _ z => z.elim) (fun r E1 n1 z => ?_)
  obtain ⟨k, x, g, rfl, hk3, hg, hx, ⟨fs, hfs⟩, d8, hd8, hc⟩ := z
  refine g_istore (lv2 := [(5, _), (0, _), (1, _), (2, _), (3, _), (4, _)]) (by decide) rfl dL_law_1564 ?_
  refine g_aload_n 3 rfl dL_law_1566 ?_
  refine g_aload_n 1 rfl dL_law_1567 ?_
  refine g_iload 5 rfl dL_law_1568 ?_
  refine gn_ic 1 (by decide) dL_law_1570 ?_
  refine gn_iadd dL_law_1571 ?_
  refine g_sld (by omega) dL_law_1572 ?_
  refine gw_V hc l_L_258 rfl (Rcv.of hfs rfl) (by omega) (Nat.le_of_ble_eq_true rfl) rfl dL_law_1573 (fun _ _ _ z => z) (fun r E2 n2 z => ?_)
  obtain ⟨rfl, hg2, ⟨b, rfl, hb⟩, h1⟩ := z
  refine g_istore (lv2 := [(6, _), (5, _), (0, _), (1, _), (2, _), (3, _), (4, _)]) (by decide) rfl dL_law_1576 ?_
  refine g_aload_n 4 rfl dL_law_1578 ?_
  obtain ⟨S, q, I, A, f, -, i2, -, -, -, i6⟩ := id h1
  refine g_world i2 ?_
  refine gv_V c_X8_thrown l_L_160 rfl m_rcv (Nat.le_of_ble_eq_true rfl) (Nat.le_of_ble_eq_true rfl) rfl dL_law_1579 ?_
  refine g_world i2.symm ?_
  refine g_iload 1 rfl dL_law_1582 ?_
  refine g_icmp_eq (tgt := 1589) (by decide) dL_law_1584 (fun _ => ?_) (fun c => absurd i6 c)
  refine g_iload 1 rfl dL_law_1589 ?_
  refine g_if_ne (tgt := 1613) (by decide) dL_law_1591 (fun _ => ?_) (fun c => ?_)
  · skip
    refine g_goto (tgt := 3119) (by decide) dL_law_1613 ?_
    exact G.sub [2, 3, 4, 5, 6] rfl (K _ _ _ h1)
  · obtain rfl := nI_0k hk3 c
    have hb := hb rfl
    have hx := hx rfl
    refine g_aload_n 5 rfl dL_law_1594 ?_
    refine gn_ic 0 (by decide) dL_law_1595 ?_
    refine g_lald (N := 1) (f := g) hg2 (vp_in_nI (by decide) (by decide)) dL_law_1596 ?_
    refine g_iload 0 rfl dL_law_1597 ?_
    refine g_if_eq (tgt := 1606) (by decide) dL_law_1599 (fun c0 => ?_) (fun c0 => ?_)
    · refine g_lconst (v := 0) dL_law_1606 (by decide) ?_
      refine g_lcmp dL_law_1607 ?_
      refine g_if_eq (tgt := 1613) (by decide) dL_law_1608 (fun _ => ?_) (fun c => absurd (cmp_B0 hx hb c0) c)
      refine g_goto (tgt := 3119) (by decide) dL_law_1613 ?_
      exact G.sub [2, 3, 4, 5, 6] rfl (K _ _ _ h1)
    · refine g_lconst (v := 1) dL_law_1602 (by decide) ?_
      refine g_goto (tgt := 1607) (by decide) dL_law_1603 ?_
      refine g_lcmp dL_law_1607 ?_
      refine g_if_eq (tgt := 1613) (by decide) dL_law_1608 (fun _ => ?_) (fun c => absurd (cmp_B1 hx hb c0) c)
      refine g_goto (tgt := 3119) (by decide) dL_law_1613 ?_
      exact G.sub [2, 3, 4, 5, 6] rfl (K _ _ _ h1)
end GCASE
