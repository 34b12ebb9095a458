/-! the law's wrappers: one call of the class, what it throws is caught -/
section GWRAP
variable {Γ : Gm} {t ab mo n k0 : Nat} {E : Hp}
theorem IVo.rc (h : IVo Γ ab mo k0 t E n) : Rcv Γ E ab RX7 := by
  obtain ⟨S, q, I, A, f, h1, -⟩ := h
  exact Rcv.of h1.co rfl
abbrev ML_append : Mr := (RL, yL_append, cL_append, 8, some .int)
theorem hh_L_append : gHH yL_append = [(0, 16, 19, 13)] := by decide +kernel
theorem k_L_append : CdW ML_append ∈ wl := by
  unfold CdW
  rw [show gHH (ML_append : Mr).2.1 = _ from hh_L_append]
  exact (wl_5 2 rfl rfl)
theorem n_L_append : nMH ML_append 7 := ⟨⟨by decide +kernel, by decide +kernel⟩, by decide +kernel, by decide⟩
theorem l_L_154 : LkSH RL 154 ML_append 7 := ⟨(wl_5 0 rfl rfl), (wl_5 1 rfl rfl), (wl_1 0 rfl rfl), k_L_append, n_L_append⟩
theorem cat_L_append_0 : Cat ML_append 11 "java/lang/IllegalStateException" 19 := ⟨[], 0, 16, 13, [], hh_L_append, by decide, by decide, by decide, (wl_5 3 rfl rfl), List.mem_of_getElem? (i := 2) rfl, fun _ h => absurd h List.not_mem_nil⟩
set_option maxHeartbeats 1000000 in
theorem w_append {w1 w2 w3 w4 w5 : Int32} (h0 : IVo Γ ab mo k0 t E n) (h : OPk Γ ab mo t MX7_append ["java/lang/IllegalStateException"] MX8_append [.int w1, .int w2, .int w3, .int w4, .int w5] E n) : LW Γ ab mo t cvI ML_append MX8_append [.int w1, .int w2, .int w3, .int w4, .int w5] E n := by
  have hr := h0.rc
  obtain ⟨d7, mc, ms, q1, q2, q3, hc⟩ := h
  refine CtH.of (by decide +kernel) rfl (Nat.le_of_ble_eq_true rfl) ?_
  refine G.sub (lv2 := [(0, _), (1, _), (2, _), (3, _), (4, _), (5, _), (6, _)]) [0, 1, 2, 3, 4, 5, 6] rfl ?_
  refine G.mono (kc2 := 0 + mc) (ks2 := 0 + ms) (by omega) (by omega) ?_
  refine g_aload 6 rfl dL_append_0 ?_
  refine gn_ic 0 (by decide) dL_append_2 ?_
  refine g_aload_n 0 rfl dL_append_3 ?_
  refine g_iload_n 1 rfl dL_append_4 ?_
  refine g_iload_n 2 rfl dL_append_5 ?_
  refine g_iload_n 3 rfl dL_append_6 ?_
  refine g_iload 4 rfl dL_append_7 ?_
  refine g_iload 5 rfl dL_append_9 ?_
  refine gw_VC hc l_L_7 rfl hr (by omega) (Nat.le_of_ble_eq_true rfl) rfl dL_append_11 (fun y E1 n1 n9 z hn => ?_) (fun v E1 n1 z => ?_)
  · obtain ⟨j, hj, hp⟩ := z
    match j, hj, hp with
    | 0, hj, hp =>
      obtain rfl : "java/lang/IllegalStateException" = y := Option.some.inj hj
      refine ⟨19, cat_L_append_0, fun q => ?_⟩
      refine g_astore (lv2 := [(7, _), (0, _), (1, _), (2, _), (3, _), (4, _), (5, _), (6, _)]) (by decide) rfl dL_append_19 ?_
      refine gn_ic 1 (by decide) dL_append_21 ?_
      exact g_iret (LPost.no hp hn (by decide)) rfl rfl dL_append_22
    | j + 1, hj, hp => exact absurd hj (by simp)
  · obtain ⟨x, rfl, hp⟩ := z
    obtain ⟨⟨g, hg⟩, -⟩ := id hp
    refine g_i2l dL_append_14 ?_
    refine g_last (N := 1) (f := g) hg (vp_in_nI (by decide) (by decide)) dL_append_15 ?_
    refine g_goto (tgt := 23) (by decide) dL_append_16 ?_
    refine gn_ic 0 (by decide) dL_append_23 ?_
    exact g_iret (LPost.ok hp (Nat.le_refl _) rfl) rfl rfl dL_append_24
abbrev ML_load : Mr := (RL, yL_load, cL_load, 4, some .int)
theorem hh_L_load : gHH yL_load = [(0, 9, 12, 19), (0, 9, 15, 21)] := by decide +kernel
theorem k_L_load : CdW ML_load ∈ wl := by
  unfold CdW
  rw [show gHH (ML_load : Mr).2.1 = _ from hh_L_load]
  exact (wl_5 30 rfl rfl)
theorem n_L_load : nMH ML_load 3 := ⟨⟨by decide +kernel, by decide +kernel⟩, by decide +kernel, by decide⟩
theorem l_L_163 : LkSH RL 163 ML_load 3 := ⟨(wl_5 28 rfl rfl), (wl_5 29 rfl rfl), (wl_1 0 rfl rfl), k_L_load, n_L_load⟩
theorem cat_L_load_0 : Cat ML_load 4 "java/lang/IndexOutOfBoundsException" 12 := ⟨[], 0, 9, 19, [(0, 9, 15, 21)], hh_L_load, by decide, by decide, by decide, (wl_5 31 rfl rfl), List.mem_of_getElem? (i := 0) rfl, fun _ h => absurd h List.not_mem_nil⟩
theorem cat_L_load_1 : Cat ML_load 4 "java/lang/IllegalArgumentException" 15 := ⟨[(0, 9, 12, 19)], 0, 9, 21, [], hh_L_load, by decide, by decide, by decide, (wl_5 32 rfl rfl), List.mem_of_getElem? (i := 1) rfl, List.forall_mem_cons.mpr ⟨⟨by decide, _, (wl_5 31 rfl rfl), List.mem_of_getElem? (i := 0) rfl⟩, fun _ h => absurd h List.not_mem_nil⟩⟩
set_option maxHeartbeats 1000000 in
theorem w_load {w1 : Int32} (h0 : IVo Γ ab mo k0 t E n) (h : OPk Γ ab mo t MX7_load ["java/lang/IndexOutOfBoundsException", "java/lang/IllegalArgumentException"] MX8_load [.int w1] E n) : LW Γ ab mo t cvI ML_load MX8_load [.int w1] E n := by
  have hr := h0.rc
  obtain ⟨d7, mc, ms, q1, q2, q3, hc⟩ := h
  refine CtH.of (by decide +kernel) rfl (Nat.le_of_ble_eq_true rfl) ?_
  refine G.sub (lv2 := [(0, _), (1, _), (2, _)]) [0, 1, 2] rfl ?_
  refine G.mono (kc2 := 0 + mc) (ks2 := 0 + ms) (by omega) (by omega) ?_
  refine g_aload_n 2 rfl dL_load_0 ?_
  refine gn_ic 0 (by decide) dL_load_1 ?_
  refine g_aload_n 0 rfl dL_load_2 ?_
  refine g_iload_n 1 rfl dL_load_3 ?_
  refine gw_VC hc l_L_15 rfl hr (by omega) (Nat.le_of_ble_eq_true rfl) rfl dL_load_4 (fun y E1 n1 n9 z hn => ?_) (fun v E1 n1 z => ?_)
  · obtain ⟨j, hj, hp⟩ := z
    match j, hj, hp with
    | 0, hj, hp =>
      obtain rfl : "java/lang/IndexOutOfBoundsException" = y := Option.some.inj hj
      refine ⟨12, cat_L_load_0, fun q => ?_⟩
      refine g_astore_n (lv2 := [(3, _), (0, _), (1, _), (2, _)]) (by decide) rfl dL_load_12 ?_
      refine gn_ic 1 (by decide) dL_load_13 ?_
      exact g_iret (LPost.no hp hn (by decide)) rfl rfl dL_load_14
    | 1, hj, hp =>
      obtain rfl : "java/lang/IllegalArgumentException" = y := Option.some.inj hj
      refine ⟨15, cat_L_load_1, fun q => ?_⟩
      refine g_astore_n (lv2 := [(3, _), (0, _), (1, _), (2, _)]) (by decide) rfl dL_load_15 ?_
      refine gn_ic 2 (by decide) dL_load_16 ?_
      exact g_iret (LPost.no hp hn (by decide)) rfl rfl dL_load_17
    | j + 2, hj, hp => exact absurd hj (by simp)
  · obtain ⟨x, rfl, hp⟩ := z
    obtain ⟨⟨g, hg⟩, -⟩ := id hp
    refine g_i2l dL_load_7 ?_
    refine g_last (N := 1) (f := g) hg (vp_in_nI (by decide) (by decide)) dL_load_8 ?_
    refine g_goto (tgt := 18) (by decide) dL_load_9 ?_
    refine gn_ic 0 (by decide) dL_load_18 ?_
    exact g_iret (LPost.ok hp (Nat.le_refl _) rfl) rfl rfl dL_load_19
abbrev ML_rentOf : Mr := (RL, yL_rentOf, cL_rentOf, 4, some .int)
theorem hh_L_rentOf : gHH yL_rentOf = [(0, 9, 12, 19)] := by decide +kernel
theorem k_L_rentOf : CdW ML_rentOf ∈ wl := by
  unfold CdW
  rw [show gHH (ML_rentOf : Mr).2.1 = _ from hh_L_rentOf]
  exact (wl_5 59 rfl rfl)
theorem n_L_rentOf : nMH ML_rentOf 3 := ⟨⟨by decide +kernel, by decide +kernel⟩, by decide +kernel, by decide⟩
theorem l_L_191 : LkSH RL 191 ML_rentOf 3 := ⟨(wl_5 57 rfl rfl), (wl_5 58 rfl rfl), (wl_1 0 rfl rfl), k_L_rentOf, n_L_rentOf⟩
theorem cat_L_rentOf_0 : Cat ML_rentOf 4 "java/lang/IndexOutOfBoundsException" 12 := ⟨[], 0, 9, 19, [], hh_L_rentOf, by decide, by decide, by decide, (wl_5 31 rfl rfl), List.mem_of_getElem? (i := 0) rfl, fun _ h => absurd h List.not_mem_nil⟩
set_option maxHeartbeats 1000000 in
theorem w_rentOf {w1 : Int32} (h0 : IVo Γ ab mo k0 t E n) (h : OPk Γ ab mo t MX7_rentOf ["java/lang/IndexOutOfBoundsException"] MX8_rentOf [.int w1] E n) : LW Γ ab mo t cvI ML_rentOf MX8_rentOf [.int w1] E n := by
  have hr := h0.rc
  obtain ⟨d7, mc, ms, q1, q2, q3, hc⟩ := h
  refine CtH.of (by decide +kernel) rfl (Nat.le_of_ble_eq_true rfl) ?_
  refine G.sub (lv2 := [(0, _), (1, _), (2, _)]) [0, 1, 2] rfl ?_
  refine G.mono (kc2 := 0 + mc) (ks2 := 0 + ms) (by omega) (by omega) ?_
  refine g_aload_n 2 rfl dL_rentOf_0 ?_
  refine gn_ic 0 (by decide) dL_rentOf_1 ?_
  refine g_aload_n 0 rfl dL_rentOf_2 ?_
  refine g_iload_n 1 rfl dL_rentOf_3 ?_
  refine gw_VC hc l_L_23 rfl hr (by omega) (Nat.le_of_ble_eq_true rfl) rfl dL_rentOf_4 (fun y E1 n1 n9 z hn => ?_) (fun v E1 n1 z => ?_)
  · obtain ⟨j, hj, hp⟩ := z
    match j, hj, hp with
    | 0, hj, hp =>
      obtain rfl : "java/lang/IndexOutOfBoundsException" = y := Option.some.inj hj
      refine ⟨12, cat_L_rentOf_0, fun q => ?_⟩
      refine g_astore_n (lv2 := [(3, _), (0, _), (1, _), (2, _)]) (by decide) rfl dL_rentOf_12 ?_
      refine gn_ic 1 (by decide) dL_rentOf_13 ?_
      exact g_iret (LPost.no hp hn (by decide)) rfl rfl dL_rentOf_14
    | j + 1, hj, hp => exact absurd hj (by simp)
  · obtain ⟨x, rfl, hp⟩ := z
    obtain ⟨⟨g, hg⟩, -⟩ := id hp
    refine g_i2l dL_rentOf_7 ?_
    refine g_last (N := 1) (f := g) hg (vp_in_nI (by decide) (by decide)) dL_rentOf_8 ?_
    refine g_goto (tgt := 15) (by decide) dL_rentOf_9 ?_
    refine gn_ic 0 (by decide) dL_rentOf_15 ?_
    exact g_iret (LPost.ok hp (Nat.le_refl _) rfl) rfl rfl dL_rentOf_16
abbrev ML_landladyVowel : Mr := (RL, yL_landladyVowel, cL_landladyVowel, 4, some .int)
theorem hh_L_landladyVowel : gHH yL_landladyVowel = [(0, 9, 12, 19)] := by decide +kernel
theorem k_L_landladyVowel : CdW ML_landladyVowel ∈ wl := by
  unfold CdW
  rw [show gHH (ML_landladyVowel : Mr).2.1 = _ from hh_L_landladyVowel]
  exact (wl_5 72 rfl rfl)
theorem n_L_landladyVowel : nMH ML_landladyVowel 3 := ⟨⟨by decide +kernel, by decide +kernel⟩, by decide +kernel, by decide⟩
theorem l_L_194 : LkSH RL 194 ML_landladyVowel 3 := ⟨(wl_5 70 rfl rfl), (wl_5 71 rfl rfl), (wl_1 0 rfl rfl), k_L_landladyVowel, n_L_landladyVowel⟩
theorem cat_L_landladyVowel_0 : Cat ML_landladyVowel 4 "java/lang/IndexOutOfBoundsException" 12 := ⟨[], 0, 9, 19, [], hh_L_landladyVowel, by decide, by decide, by decide, (wl_5 31 rfl rfl), List.mem_of_getElem? (i := 0) rfl, fun _ h => absurd h List.not_mem_nil⟩
set_option maxHeartbeats 1000000 in
theorem w_landladyVowel {w1 : Int32} (h0 : IVo Γ ab mo k0 t E n) (h : OPk Γ ab mo t MX7_landladyVowel ["java/lang/IndexOutOfBoundsException"] MX8_landladyVowel [.int w1] E n) : LW Γ ab mo t cvI ML_landladyVowel MX8_landladyVowel [.int w1] E n := by
  have hr := h0.rc
  obtain ⟨d7, mc, ms, q1, q2, q3, hc⟩ := h
  refine CtH.of (by decide +kernel) rfl (Nat.le_of_ble_eq_true rfl) ?_
  refine G.sub (lv2 := [(0, _), (1, _), (2, _)]) [0, 1, 2] rfl ?_
  refine G.mono (kc2 := 0 + mc) (ks2 := 0 + ms) (by omega) (by omega) ?_
  refine g_aload_n 2 rfl dL_landladyVowel_0 ?_
  refine gn_ic 0 (by decide) dL_landladyVowel_1 ?_
  refine g_aload_n 0 rfl dL_landladyVowel_2 ?_
  refine g_iload_n 1 rfl dL_landladyVowel_3 ?_
  refine gw_VC hc l_L_26 rfl hr (by omega) (Nat.le_of_ble_eq_true rfl) rfl dL_landladyVowel_4 (fun y E1 n1 n9 z hn => ?_) (fun v E1 n1 z => ?_)
  · obtain ⟨j, hj, hp⟩ := z
    match j, hj, hp with
    | 0, hj, hp =>
      obtain rfl : "java/lang/IndexOutOfBoundsException" = y := Option.some.inj hj
      refine ⟨12, cat_L_landladyVowel_0, fun q => ?_⟩
      refine g_astore_n (lv2 := [(3, _), (0, _), (1, _), (2, _)]) (by decide) rfl dL_landladyVowel_12 ?_
      refine gn_ic 1 (by decide) dL_landladyVowel_13 ?_
      exact g_iret (LPost.no hp hn (by decide)) rfl rfl dL_landladyVowel_14
    | j + 1, hj, hp => exact absurd hj (by simp)
  · obtain ⟨x, rfl, hp⟩ := z
    obtain ⟨⟨g, hg⟩, -⟩ := id hp
    refine g_i2l dL_landladyVowel_7 ?_
    refine g_last (N := 1) (f := g) hg (vp_in_nI (by decide) (by decide)) dL_landladyVowel_8 ?_
    refine g_goto (tgt := 15) (by decide) dL_landladyVowel_9 ?_
    refine gn_ic 0 (by decide) dL_landladyVowel_15 ?_
    exact g_iret (LPost.ok hp (Nat.le_refl _) rfl) rfl rfl dL_landladyVowel_16
abbrev ML_floorOf : Mr := (RL, yL_floorOf, cL_floorOf, 4, some .int)
theorem hh_L_floorOf : gHH yL_floorOf = [(0, 9, 12, 19)] := by decide +kernel
theorem k_L_floorOf : CdW ML_floorOf ∈ wl := by
  unfold CdW
  rw [show gHH (ML_floorOf : Mr).2.1 = _ from hh_L_floorOf]
  exact (wl_5 84 rfl rfl)
theorem n_L_floorOf : nMH ML_floorOf 3 := ⟨⟨by decide +kernel, by decide +kernel⟩, by decide +kernel, by decide⟩
theorem l_L_209 : LkSH RL 209 ML_floorOf 3 := ⟨(wl_5 82 rfl rfl), (wl_5 83 rfl rfl), (wl_1 0 rfl rfl), k_L_floorOf, n_L_floorOf⟩
theorem cat_L_floorOf_0 : Cat ML_floorOf 4 "java/lang/IndexOutOfBoundsException" 12 := ⟨[], 0, 9, 19, [], hh_L_floorOf, by decide, by decide, by decide, (wl_5 31 rfl rfl), List.mem_of_getElem? (i := 0) rfl, fun _ h => absurd h List.not_mem_nil⟩
set_option maxHeartbeats 1000000 in
theorem w_floorOf {w1 : Int32} (h0 : IVo Γ ab mo k0 t E n) (h : OPk Γ ab mo t MX7_floorOf ["java/lang/IndexOutOfBoundsException"] MX8_floorOf [.int w1] E n) : LW Γ ab mo t cvI ML_floorOf MX8_floorOf [.int w1] E n := by
  have hr := h0.rc
  obtain ⟨d7, mc, ms, q1, q2, q3, hc⟩ := h
  refine CtH.of (by decide +kernel) rfl (Nat.le_of_ble_eq_true rfl) ?_
  refine G.sub (lv2 := [(0, _), (1, _), (2, _)]) [0, 1, 2] rfl ?_
  refine G.mono (kc2 := 0 + mc) (ks2 := 0 + ms) (by omega) (by omega) ?_
  refine g_aload_n 2 rfl dL_floorOf_0 ?_
  refine gn_ic 0 (by decide) dL_floorOf_1 ?_
  refine g_aload_n 0 rfl dL_floorOf_2 ?_
  refine g_iload_n 1 rfl dL_floorOf_3 ?_
  refine gw_VC hc l_L_29 rfl hr (by omega) (Nat.le_of_ble_eq_true rfl) rfl dL_floorOf_4 (fun y E1 n1 n9 z hn => ?_) (fun v E1 n1 z => ?_)
  · obtain ⟨j, hj, hp⟩ := z
    match j, hj, hp with
    | 0, hj, hp =>
      obtain rfl : "java/lang/IndexOutOfBoundsException" = y := Option.some.inj hj
      refine ⟨12, cat_L_floorOf_0, fun q => ?_⟩
      refine g_astore_n (lv2 := [(3, _), (0, _), (1, _), (2, _)]) (by decide) rfl dL_floorOf_12 ?_
      refine gn_ic 1 (by decide) dL_floorOf_13 ?_
      exact g_iret (LPost.no hp hn (by decide)) rfl rfl dL_floorOf_14
    | j + 1, hj, hp => exact absurd hj (by simp)
  · obtain ⟨x, rfl, hp⟩ := z
    obtain ⟨⟨g, hg⟩, -⟩ := id hp
    refine g_i2l dL_floorOf_7 ?_
    refine g_last (N := 1) (f := g) hg (vp_in_nI (by decide) (by decide)) dL_floorOf_8 ?_
    refine g_goto (tgt := 15) (by decide) dL_floorOf_9 ?_
    refine gn_ic 0 (by decide) dL_floorOf_15 ?_
    exact g_iret (LPost.ok hp (Nat.le_refl _) rfl) rfl rfl dL_floorOf_16
abbrev ML_balanceOf : Mr := (RL, yL_balanceOf, cL_balanceOf, 4, some .int)
theorem hh_L_balanceOf : gHH yL_balanceOf = [(0, 9, 12, 19)] := by decide +kernel
theorem k_L_balanceOf : CdW ML_balanceOf ∈ wl := by
  unfold CdW
  rw [show gHH (ML_balanceOf : Mr).2.1 = _ from hh_L_balanceOf]
  exact (wl_5 96 rfl rfl)
theorem n_L_balanceOf : nMH ML_balanceOf 3 := ⟨⟨by decide +kernel, by decide +kernel⟩, by decide +kernel, by decide⟩
theorem l_L_212 : LkSH RL 212 ML_balanceOf 3 := ⟨(wl_5 94 rfl rfl), (wl_5 95 rfl rfl), (wl_1 0 rfl rfl), k_L_balanceOf, n_L_balanceOf⟩
theorem cat_L_balanceOf_0 : Cat ML_balanceOf 4 "java/lang/IndexOutOfBoundsException" 12 := ⟨[], 0, 9, 19, [], hh_L_balanceOf, by decide, by decide, by decide, (wl_5 31 rfl rfl), List.mem_of_getElem? (i := 0) rfl, fun _ h => absurd h List.not_mem_nil⟩
set_option maxHeartbeats 1000000 in
theorem w_balanceOf {w1 : Int32} (h0 : IVo Γ ab mo k0 t E n) (h : OPk Γ ab mo t MX7_balanceOf ["java/lang/IndexOutOfBoundsException"] MX8_balanceOf [.int w1] E n) : LW Γ ab mo t cvI ML_balanceOf MX8_balanceOf [.int w1] E n := by
  have hr := h0.rc
  obtain ⟨d7, mc, ms, q1, q2, q3, hc⟩ := h
  refine CtH.of (by decide +kernel) rfl (Nat.le_of_ble_eq_true rfl) ?_
  refine G.sub (lv2 := [(0, _), (1, _), (2, _)]) [0, 1, 2] rfl ?_
  refine G.mono (kc2 := 0 + mc) (ks2 := 0 + ms) (by omega) (by omega) ?_
  refine g_aload_n 2 rfl dL_balanceOf_0 ?_
  refine gn_ic 0 (by decide) dL_balanceOf_1 ?_
  refine g_aload_n 0 rfl dL_balanceOf_2 ?_
  refine g_iload_n 1 rfl dL_balanceOf_3 ?_
  refine gw_VC hc l_L_32 rfl hr (by omega) (Nat.le_of_ble_eq_true rfl) rfl dL_balanceOf_4 (fun y E1 n1 n9 z hn => ?_) (fun v E1 n1 z => ?_)
  · obtain ⟨j, hj, hp⟩ := z
    match j, hj, hp with
    | 0, hj, hp =>
      obtain rfl : "java/lang/IndexOutOfBoundsException" = y := Option.some.inj hj
      refine ⟨12, cat_L_balanceOf_0, fun q => ?_⟩
      refine g_astore_n (lv2 := [(3, _), (0, _), (1, _), (2, _)]) (by decide) rfl dL_balanceOf_12 ?_
      refine gn_ic 1 (by decide) dL_balanceOf_13 ?_
      exact g_iret (LPost.no hp hn (by decide)) rfl rfl dL_balanceOf_14
    | j + 1, hj, hp => exact absurd hj (by simp)
  · obtain ⟨x, rfl, hp⟩ := z
    obtain ⟨⟨g, hg⟩, -⟩ := id hp
    refine g_i2l dL_balanceOf_7 ?_
    refine g_last (N := 1) (f := g) hg (vp_in_nI (by decide) (by decide)) dL_balanceOf_8 ?_
    refine g_goto (tgt := 15) (by decide) dL_balanceOf_9 ?_
    refine gn_ic 0 (by decide) dL_balanceOf_15 ?_
    exact g_iret (LPost.ok hp (Nat.le_refl _) rfl) rfl rfl dL_balanceOf_16
abbrev ML_vowelOf : Mr := (RL, yL_vowelOf, cL_vowelOf, 5, some .int)
theorem hh_L_vowelOf : gHH yL_vowelOf = [(0, 10, 13, 19)] := by decide +kernel
theorem k_L_vowelOf : CdW ML_vowelOf ∈ wl := by
  unfold CdW
  rw [show gHH (ML_vowelOf : Mr).2.1 = _ from hh_L_vowelOf]
  exact (wl_5 103 rfl rfl)
theorem n_L_vowelOf : nMH ML_vowelOf 4 := ⟨⟨by decide +kernel, by decide +kernel⟩, by decide +kernel, by decide⟩
theorem l_L_215 : LkSH RL 215 ML_vowelOf 4 := ⟨(wl_5 101 rfl rfl), (wl_5 102 rfl rfl), (wl_1 0 rfl rfl), k_L_vowelOf, n_L_vowelOf⟩
theorem cat_L_vowelOf_0 : Cat ML_vowelOf 5 "java/lang/IndexOutOfBoundsException" 13 := ⟨[], 0, 10, 19, [], hh_L_vowelOf, by decide, by decide, by decide, (wl_5 31 rfl rfl), List.mem_of_getElem? (i := 0) rfl, fun _ h => absurd h List.not_mem_nil⟩
set_option maxHeartbeats 1000000 in
theorem w_vowelOf {w1 w2 : Int32} (h0 : IVo Γ ab mo k0 t E n) (h : OPk Γ ab mo t MX7_vowelOf ["java/lang/IndexOutOfBoundsException"] MX8_vowelOf [.int w1, .int w2] E n) : LW Γ ab mo t cvI ML_vowelOf MX8_vowelOf [.int w1, .int w2] E n := by
  have hr := h0.rc
  obtain ⟨d7, mc, ms, q1, q2, q3, hc⟩ := h
  refine CtH.of (by decide +kernel) rfl (Nat.le_of_ble_eq_true rfl) ?_
  refine G.sub (lv2 := [(0, _), (1, _), (2, _), (3, _)]) [0, 1, 2, 3] rfl ?_
  refine G.mono (kc2 := 0 + mc) (ks2 := 0 + ms) (by omega) (by omega) ?_
  refine g_aload_n 3 rfl dL_vowelOf_0 ?_
  refine gn_ic 0 (by decide) dL_vowelOf_1 ?_
  refine g_aload_n 0 rfl dL_vowelOf_2 ?_
  refine g_iload_n 1 rfl dL_vowelOf_3 ?_
  refine g_iload_n 2 rfl dL_vowelOf_4 ?_
  refine gw_VC hc l_L_35 rfl hr (by omega) (Nat.le_of_ble_eq_true rfl) rfl dL_vowelOf_5 (fun y E1 n1 n9 z hn => ?_) (fun v E1 n1 z => ?_)
  · obtain ⟨j, hj, hp⟩ := z
    match j, hj, hp with
    | 0, hj, hp =>
      obtain rfl : "java/lang/IndexOutOfBoundsException" = y := Option.some.inj hj
      refine ⟨13, cat_L_vowelOf_0, fun q => ?_⟩
      refine g_astore (lv2 := [(4, _), (0, _), (1, _), (2, _), (3, _)]) (by decide) rfl dL_vowelOf_13 ?_
      refine gn_ic 1 (by decide) dL_vowelOf_15 ?_
      exact g_iret (LPost.no hp hn (by decide)) rfl rfl dL_vowelOf_16
    | j + 1, hj, hp => exact absurd hj (by simp)
  · obtain ⟨x, rfl, hp⟩ := z
    obtain ⟨⟨g, hg⟩, -⟩ := id hp
    refine g_i2l dL_vowelOf_8 ?_
    refine g_last (N := 1) (f := g) hg (vp_in_nI (by decide) (by decide)) dL_vowelOf_9 ?_
    refine g_goto (tgt := 17) (by decide) dL_vowelOf_10 ?_
    refine gn_ic 0 (by decide) dL_vowelOf_17 ?_
    exact g_iret (LPost.ok hp (Nat.le_refl _) rfl) rfl rfl dL_vowelOf_18
abbrev ML_lessonsOf : Mr := (RL, yL_lessonsOf, cL_lessonsOf, 4, some .int)
theorem hh_L_lessonsOf : gHH yL_lessonsOf = [(0, 9, 12, 19)] := by decide +kernel
theorem k_L_lessonsOf : CdW ML_lessonsOf ∈ wl := by
  unfold CdW
  rw [show gHH (ML_lessonsOf : Mr).2.1 = _ from hh_L_lessonsOf]
  exact (wl_5 110 rfl rfl)
theorem n_L_lessonsOf : nMH ML_lessonsOf 3 := ⟨⟨by decide +kernel, by decide +kernel⟩, by decide +kernel, by decide⟩
theorem l_L_219 : LkSH RL 219 ML_lessonsOf 3 := ⟨(wl_5 108 rfl rfl), (wl_5 109 rfl rfl), (wl_1 0 rfl rfl), k_L_lessonsOf, n_L_lessonsOf⟩
theorem cat_L_lessonsOf_0 : Cat ML_lessonsOf 4 "java/lang/IndexOutOfBoundsException" 12 := ⟨[], 0, 9, 19, [], hh_L_lessonsOf, by decide, by decide, by decide, (wl_5 31 rfl rfl), List.mem_of_getElem? (i := 0) rfl, fun _ h => absurd h List.not_mem_nil⟩
set_option maxHeartbeats 1000000 in
theorem w_lessonsOf {w1 : Int32} (h0 : IVo Γ ab mo k0 t E n) (h : OPk Γ ab mo t MX7_lessonsOf ["java/lang/IndexOutOfBoundsException"] MX8_lessonsOf [.int w1] E n) : LW Γ ab mo t cvI ML_lessonsOf MX8_lessonsOf [.int w1] E n := by
  have hr := h0.rc
  obtain ⟨d7, mc, ms, q1, q2, q3, hc⟩ := h
  refine CtH.of (by decide +kernel) rfl (Nat.le_of_ble_eq_true rfl) ?_
  refine G.sub (lv2 := [(0, _), (1, _), (2, _)]) [0, 1, 2] rfl ?_
  refine G.mono (kc2 := 0 + mc) (ks2 := 0 + ms) (by omega) (by omega) ?_
  refine g_aload_n 2 rfl dL_lessonsOf_0 ?_
  refine gn_ic 0 (by decide) dL_lessonsOf_1 ?_
  refine g_aload_n 0 rfl dL_lessonsOf_2 ?_
  refine g_iload_n 1 rfl dL_lessonsOf_3 ?_
  refine gw_VC hc l_L_39 rfl hr (by omega) (Nat.le_of_ble_eq_true rfl) rfl dL_lessonsOf_4 (fun y E1 n1 n9 z hn => ?_) (fun v E1 n1 z => ?_)
  · obtain ⟨j, hj, hp⟩ := z
    match j, hj, hp with
    | 0, hj, hp =>
      obtain rfl : "java/lang/IndexOutOfBoundsException" = y := Option.some.inj hj
      refine ⟨12, cat_L_lessonsOf_0, fun q => ?_⟩
      refine g_astore_n (lv2 := [(3, _), (0, _), (1, _), (2, _)]) (by decide) rfl dL_lessonsOf_12 ?_
      refine gn_ic 1 (by decide) dL_lessonsOf_13 ?_
      exact g_iret (LPost.no hp hn (by decide)) rfl rfl dL_lessonsOf_14
    | j + 1, hj, hp => exact absurd hj (by simp)
  · obtain ⟨x, rfl, hp⟩ := z
    obtain ⟨⟨g, hg⟩, -⟩ := id hp
    refine g_i2l dL_lessonsOf_7 ?_
    refine g_last (N := 1) (f := g) hg (vp_in_nI (by decide) (by decide)) dL_lessonsOf_8 ?_
    refine g_goto (tgt := 15) (by decide) dL_lessonsOf_9 ?_
    refine gn_ic 0 (by decide) dL_lessonsOf_15 ?_
    exact g_iret (LPost.ok hp (Nat.le_refl _) rfl) rfl rfl dL_lessonsOf_16
abbrev ML_slipsOf : Mr := (RL, yL_slipsOf, cL_slipsOf, 4, some .int)
theorem hh_L_slipsOf : gHH yL_slipsOf = [(0, 9, 12, 19)] := by decide +kernel
theorem k_L_slipsOf : CdW ML_slipsOf ∈ wl := by
  unfold CdW
  rw [show gHH (ML_slipsOf : Mr).2.1 = _ from hh_L_slipsOf]
  exact (wl_5 117 rfl rfl)
theorem n_L_slipsOf : nMH ML_slipsOf 3 := ⟨⟨by decide +kernel, by decide +kernel⟩, by decide +kernel, by decide⟩
theorem l_L_222 : LkSH RL 222 ML_slipsOf 3 := ⟨(wl_5 115 rfl rfl), (wl_5 116 rfl rfl), (wl_1 0 rfl rfl), k_L_slipsOf, n_L_slipsOf⟩
theorem cat_L_slipsOf_0 : Cat ML_slipsOf 4 "java/lang/IndexOutOfBoundsException" 12 := ⟨[], 0, 9, 19, [], hh_L_slipsOf, by decide, by decide, by decide, (wl_5 31 rfl rfl), List.mem_of_getElem? (i := 0) rfl, fun _ h => absurd h List.not_mem_nil⟩
set_option maxHeartbeats 1000000 in
theorem w_slipsOf {w1 : Int32} (h0 : IVo Γ ab mo k0 t E n) (h : OPk Γ ab mo t MX7_slipsOf ["java/lang/IndexOutOfBoundsException"] MX8_slipsOf [.int w1] E n) : LW Γ ab mo t cvI ML_slipsOf MX8_slipsOf [.int w1] E n := by
  have hr := h0.rc
  obtain ⟨d7, mc, ms, q1, q2, q3, hc⟩ := h
  refine CtH.of (by decide +kernel) rfl (Nat.le_of_ble_eq_true rfl) ?_
  refine G.sub (lv2 := [(0, _), (1, _), (2, _)]) [0, 1, 2] rfl ?_
  refine G.mono (kc2 := 0 + mc) (ks2 := 0 + ms) (by omega) (by omega) ?_
  refine g_aload_n 2 rfl dL_slipsOf_0 ?_
  refine gn_ic 0 (by decide) dL_slipsOf_1 ?_
  refine g_aload_n 0 rfl dL_slipsOf_2 ?_
  refine g_iload_n 1 rfl dL_slipsOf_3 ?_
  refine gw_VC hc l_L_42 rfl hr (by omega) (Nat.le_of_ble_eq_true rfl) rfl dL_slipsOf_4 (fun y E1 n1 n9 z hn => ?_) (fun v E1 n1 z => ?_)
  · obtain ⟨j, hj, hp⟩ := z
    match j, hj, hp with
    | 0, hj, hp =>
      obtain rfl : "java/lang/IndexOutOfBoundsException" = y := Option.some.inj hj
      refine ⟨12, cat_L_slipsOf_0, fun q => ?_⟩
      refine g_astore_n (lv2 := [(3, _), (0, _), (1, _), (2, _)]) (by decide) rfl dL_slipsOf_12 ?_
      refine gn_ic 1 (by decide) dL_slipsOf_13 ?_
      exact g_iret (LPost.no hp hn (by decide)) rfl rfl dL_slipsOf_14
    | j + 1, hj, hp => exact absurd hj (by simp)
  · obtain ⟨x, rfl, hp⟩ := z
    obtain ⟨⟨g, hg⟩, -⟩ := id hp
    refine g_i2l dL_slipsOf_7 ?_
    refine g_last (N := 1) (f := g) hg (vp_in_nI (by decide) (by decide)) dL_slipsOf_8 ?_
    refine g_goto (tgt := 15) (by decide) dL_slipsOf_9 ?_
    refine gn_ic 0 (by decide) dL_slipsOf_15 ?_
    exact g_iret (LPost.ok hp (Nat.le_refl _) rfl) rfl rfl dL_slipsOf_16
abbrev ML_daysStayed : Mr := (RL, yL_daysStayed, cL_daysStayed, 4, some .int)
theorem hh_L_daysStayed : gHH yL_daysStayed = [(0, 9, 12, 19)] := by decide +kernel
theorem k_L_daysStayed : CdW ML_daysStayed ∈ wl := by
  unfold CdW
  rw [show gHH (ML_daysStayed : Mr).2.1 = _ from hh_L_daysStayed]
  exact (wl_5 124 rfl rfl)
theorem n_L_daysStayed : nMH ML_daysStayed 3 := ⟨⟨by decide +kernel, by decide +kernel⟩, by decide +kernel, by decide⟩
theorem l_L_225 : LkSH RL 225 ML_daysStayed 3 := ⟨(wl_5 122 rfl rfl), (wl_5 123 rfl rfl), (wl_1 0 rfl rfl), k_L_daysStayed, n_L_daysStayed⟩
theorem cat_L_daysStayed_0 : Cat ML_daysStayed 4 "java/lang/IndexOutOfBoundsException" 12 := ⟨[], 0, 9, 19, [], hh_L_daysStayed, by decide, by decide, by decide, (wl_5 31 rfl rfl), List.mem_of_getElem? (i := 0) rfl, fun _ h => absurd h List.not_mem_nil⟩
set_option maxHeartbeats 1000000 in
theorem w_daysStayed {w1 : Int32} (h0 : IVo Γ ab mo k0 t E n) (h : OPk Γ ab mo t MX7_daysStayed ["java/lang/IndexOutOfBoundsException"] MX8_daysStayed [.int w1] E n) : LW Γ ab mo t cvI ML_daysStayed MX8_daysStayed [.int w1] E n := by
  have hr := h0.rc
  obtain ⟨d7, mc, ms, q1, q2, q3, hc⟩ := h
  refine CtH.of (by decide +kernel) rfl (Nat.le_of_ble_eq_true rfl) ?_
  refine G.sub (lv2 := [(0, _), (1, _), (2, _)]) [0, 1, 2] rfl ?_
  refine G.mono (kc2 := 0 + mc) (ks2 := 0 + ms) (by omega) (by omega) ?_
  refine g_aload_n 2 rfl dL_daysStayed_0 ?_
  refine gn_ic 0 (by decide) dL_daysStayed_1 ?_
  refine g_aload_n 0 rfl dL_daysStayed_2 ?_
  refine g_iload_n 1 rfl dL_daysStayed_3 ?_
  refine gw_VC hc l_L_45 rfl hr (by omega) (Nat.le_of_ble_eq_true rfl) rfl dL_daysStayed_4 (fun y E1 n1 n9 z hn => ?_) (fun v E1 n1 z => ?_)
  · obtain ⟨j, hj, hp⟩ := z
    match j, hj, hp with
    | 0, hj, hp =>
      obtain rfl : "java/lang/IndexOutOfBoundsException" = y := Option.some.inj hj
      refine ⟨12, cat_L_daysStayed_0, fun q => ?_⟩
      refine g_astore_n (lv2 := [(3, _), (0, _), (1, _), (2, _)]) (by decide) rfl dL_daysStayed_12 ?_
      refine gn_ic 1 (by decide) dL_daysStayed_13 ?_
      exact g_iret (LPost.no hp hn (by decide)) rfl rfl dL_daysStayed_14
    | j + 1, hj, hp => exact absurd hj (by simp)
  · obtain ⟨x, rfl, hp⟩ := z
    obtain ⟨⟨g, hg⟩, -⟩ := id hp
    refine g_i2l dL_daysStayed_7 ?_
    refine g_last (N := 1) (f := g) hg (vp_in_nI (by decide) (by decide)) dL_daysStayed_8 ?_
    refine g_goto (tgt := 15) (by decide) dL_daysStayed_9 ?_
    refine gn_ic 0 (by decide) dL_daysStayed_15 ?_
    exact g_iret (LPost.ok hp (Nat.le_refl _) rfl) rfl rfl dL_daysStayed_16
abbrev ML_nameLength : Mr := (RL, yL_nameLength, cL_nameLength, 4, some .int)
theorem hh_L_nameLength : gHH yL_nameLength = [(0, 9, 12, 19)] := by decide +kernel
theorem k_L_nameLength : CdW ML_nameLength ∈ wl := by
  unfold CdW
  rw [show gHH (ML_nameLength : Mr).2.1 = _ from hh_L_nameLength]
  exact (wl_5 131 rfl rfl)
theorem n_L_nameLength : nMH ML_nameLength 3 := ⟨⟨by decide +kernel, by decide +kernel⟩, by decide +kernel, by decide⟩
theorem l_L_228 : LkSH RL 228 ML_nameLength 3 := ⟨(wl_5 129 rfl rfl), (wl_5 130 rfl rfl), (wl_1 0 rfl rfl), k_L_nameLength, n_L_nameLength⟩
theorem cat_L_nameLength_0 : Cat ML_nameLength 4 "java/lang/IndexOutOfBoundsException" 12 := ⟨[], 0, 9, 19, [], hh_L_nameLength, by decide, by decide, by decide, (wl_5 31 rfl rfl), List.mem_of_getElem? (i := 0) rfl, fun _ h => absurd h List.not_mem_nil⟩
set_option maxHeartbeats 1000000 in
theorem w_nameLength {w1 : Int32} (h0 : IVo Γ ab mo k0 t E n) (h : OPk Γ ab mo t MX7_nameLength ["java/lang/IndexOutOfBoundsException"] MX8_nameLength [.int w1] E n) : LW Γ ab mo t cvI ML_nameLength MX8_nameLength [.int w1] E n := by
  have hr := h0.rc
  obtain ⟨d7, mc, ms, q1, q2, q3, hc⟩ := h
  refine CtH.of (by decide +kernel) rfl (Nat.le_of_ble_eq_true rfl) ?_
  refine G.sub (lv2 := [(0, _), (1, _), (2, _)]) [0, 1, 2] rfl ?_
  refine G.mono (kc2 := 0 + mc) (ks2 := 0 + ms) (by omega) (by omega) ?_
  refine g_aload_n 2 rfl dL_nameLength_0 ?_
  refine gn_ic 0 (by decide) dL_nameLength_1 ?_
  refine g_aload_n 0 rfl dL_nameLength_2 ?_
  refine g_iload_n 1 rfl dL_nameLength_3 ?_
  refine gw_VC hc l_L_48 rfl hr (by omega) (Nat.le_of_ble_eq_true rfl) rfl dL_nameLength_4 (fun y E1 n1 n9 z hn => ?_) (fun v E1 n1 z => ?_)
  · obtain ⟨j, hj, hp⟩ := z
    match j, hj, hp with
    | 0, hj, hp =>
      obtain rfl : "java/lang/IndexOutOfBoundsException" = y := Option.some.inj hj
      refine ⟨12, cat_L_nameLength_0, fun q => ?_⟩
      refine g_astore_n (lv2 := [(3, _), (0, _), (1, _), (2, _)]) (by decide) rfl dL_nameLength_12 ?_
      refine gn_ic 1 (by decide) dL_nameLength_13 ?_
      exact g_iret (LPost.no hp hn (by decide)) rfl rfl dL_nameLength_14
    | j + 1, hj, hp => exact absurd hj (by simp)
  · obtain ⟨x, rfl, hp⟩ := z
    obtain ⟨⟨g, hg⟩, -⟩ := id hp
    refine g_i2l dL_nameLength_7 ?_
    refine g_last (N := 1) (f := g) hg (vp_in_nI (by decide) (by decide)) dL_nameLength_8 ?_
    refine g_goto (tgt := 15) (by decide) dL_nameLength_9 ?_
    refine gn_ic 0 (by decide) dL_nameLength_15 ?_
    exact g_iret (LPost.ok hp (Nat.le_refl _) rfl) rfl rfl dL_nameLength_16
abbrev ML_nameLetter : Mr := (RL, yL_nameLetter, cL_nameLetter, 5, some .int)
theorem hh_L_nameLetter : gHH yL_nameLetter = [(0, 10, 13, 19)] := by decide +kernel
theorem k_L_nameLetter : CdW ML_nameLetter ∈ wl := by
  unfold CdW
  rw [show gHH (ML_nameLetter : Mr).2.1 = _ from hh_L_nameLetter]
  exact (wl_5 138 rfl rfl)
theorem n_L_nameLetter : nMH ML_nameLetter 4 := ⟨⟨by decide +kernel, by decide +kernel⟩, by decide +kernel, by decide⟩
theorem l_L_231 : LkSH RL 231 ML_nameLetter 4 := ⟨(wl_5 136 rfl rfl), (wl_5 137 rfl rfl), (wl_1 0 rfl rfl), k_L_nameLetter, n_L_nameLetter⟩
theorem cat_L_nameLetter_0 : Cat ML_nameLetter 5 "java/lang/IndexOutOfBoundsException" 13 := ⟨[], 0, 10, 19, [], hh_L_nameLetter, by decide, by decide, by decide, (wl_5 31 rfl rfl), List.mem_of_getElem? (i := 0) rfl, fun _ h => absurd h List.not_mem_nil⟩
set_option maxHeartbeats 1000000 in
theorem w_nameLetter {w1 w2 : Int32} (h0 : IVo Γ ab mo k0 t E n) (h : OPk Γ ab mo t MX7_nameLetter ["java/lang/IndexOutOfBoundsException"] MX8_nameLetter [.int w1, .int w2] E n) : LW Γ ab mo t cvI ML_nameLetter MX8_nameLetter [.int w1, .int w2] E n := by
  have hr := h0.rc
  obtain ⟨d7, mc, ms, q1, q2, q3, hc⟩ := h
  refine CtH.of (by decide +kernel) rfl (Nat.le_of_ble_eq_true rfl) ?_
  refine G.sub (lv2 := [(0, _), (1, _), (2, _), (3, _)]) [0, 1, 2, 3] rfl ?_
  refine G.mono (kc2 := 0 + mc) (ks2 := 0 + ms) (by omega) (by omega) ?_
  refine g_aload_n 3 rfl dL_nameLetter_0 ?_
  refine gn_ic 0 (by decide) dL_nameLetter_1 ?_
  refine g_aload_n 0 rfl dL_nameLetter_2 ?_
  refine g_iload_n 1 rfl dL_nameLetter_3 ?_
  refine g_iload_n 2 rfl dL_nameLetter_4 ?_
  refine gw_VC hc l_L_51 rfl hr (by omega) (Nat.le_of_ble_eq_true rfl) rfl dL_nameLetter_5 (fun y E1 n1 n9 z hn => ?_) (fun v E1 n1 z => ?_)
  · obtain ⟨j, hj, hp⟩ := z
    match j, hj, hp with
    | 0, hj, hp =>
      obtain rfl : "java/lang/IndexOutOfBoundsException" = y := Option.some.inj hj
      refine ⟨13, cat_L_nameLetter_0, fun q => ?_⟩
      refine g_astore (lv2 := [(4, _), (0, _), (1, _), (2, _), (3, _)]) (by decide) rfl dL_nameLetter_13 ?_
      refine gn_ic 1 (by decide) dL_nameLetter_15 ?_
      exact g_iret (LPost.no hp hn (by decide)) rfl rfl dL_nameLetter_16
    | j + 1, hj, hp => exact absurd hj (by simp)
  · obtain ⟨x, rfl, hp⟩ := z
    obtain ⟨⟨g, hg⟩, -⟩ := id hp
    refine g_i2l dL_nameLetter_8 ?_
    refine g_last (N := 1) (f := g) hg (vp_in_nI (by decide) (by decide)) dL_nameLetter_9 ?_
    refine g_goto (tgt := 17) (by decide) dL_nameLetter_10 ?_
    refine gn_ic 0 (by decide) dL_nameLetter_17 ?_
    exact g_iret (LPost.ok hp (Nat.le_refl _) rfl) rfl rfl dL_nameLetter_18
abbrev ML_lodgersOn : Mr := (RL, yL_lodgersOn, cL_lodgersOn, 4, some .int)
theorem hh_L_lodgersOn : gHH yL_lodgersOn = [(0, 9, 12, 19)] := by decide +kernel
theorem k_L_lodgersOn : CdW ML_lodgersOn ∈ wl := by
  unfold CdW
  rw [show gHH (ML_lodgersOn : Mr).2.1 = _ from hh_L_lodgersOn]
  exact (wl_5 146 rfl rfl)
theorem n_L_lodgersOn : nMH ML_lodgersOn 3 := ⟨⟨by decide +kernel, by decide +kernel⟩, by decide +kernel, by decide⟩
theorem l_L_238 : LkSH RL 238 ML_lodgersOn 3 := ⟨(wl_5 144 rfl rfl), (wl_5 145 rfl rfl), (wl_1 0 rfl rfl), k_L_lodgersOn, n_L_lodgersOn⟩
theorem cat_L_lodgersOn_0 : Cat ML_lodgersOn 4 "java/lang/IndexOutOfBoundsException" 12 := ⟨[], 0, 9, 19, [], hh_L_lodgersOn, by decide, by decide, by decide, (wl_5 31 rfl rfl), List.mem_of_getElem? (i := 0) rfl, fun _ h => absurd h List.not_mem_nil⟩
set_option maxHeartbeats 1000000 in
theorem w_lodgersOn {w1 : Int32} (h0 : IVo Γ ab mo k0 t E n) (h : OPk Γ ab mo t MX7_lodgersOn ["java/lang/IndexOutOfBoundsException"] MX8_lodgersOn [.int w1] E n) : LW Γ ab mo t cvI ML_lodgersOn MX8_lodgersOn [.int w1] E n := by
  have hr := h0.rc
  obtain ⟨d7, mc, ms, q1, q2, q3, hc⟩ := h
  refine CtH.of (by decide +kernel) rfl (Nat.le_of_ble_eq_true rfl) ?_
  refine G.sub (lv2 := [(0, _), (1, _), (2, _)]) [0, 1, 2] rfl ?_
  refine G.mono (kc2 := 0 + mc) (ks2 := 0 + ms) (by omega) (by omega) ?_
  refine g_aload_n 2 rfl dL_lodgersOn_0 ?_
  refine gn_ic 0 (by decide) dL_lodgersOn_1 ?_
  refine g_aload_n 0 rfl dL_lodgersOn_2 ?_
  refine g_iload_n 1 rfl dL_lodgersOn_3 ?_
  refine gw_VC hc l_L_55 rfl hr (by omega) (Nat.le_of_ble_eq_true rfl) rfl dL_lodgersOn_4 (fun y E1 n1 n9 z hn => ?_) (fun v E1 n1 z => ?_)
  · obtain ⟨j, hj, hp⟩ := z
    match j, hj, hp with
    | 0, hj, hp =>
      obtain rfl : "java/lang/IndexOutOfBoundsException" = y := Option.some.inj hj
      refine ⟨12, cat_L_lodgersOn_0, fun q => ?_⟩
      refine g_astore_n (lv2 := [(3, _), (0, _), (1, _), (2, _)]) (by decide) rfl dL_lodgersOn_12 ?_
      refine gn_ic 1 (by decide) dL_lodgersOn_13 ?_
      exact g_iret (LPost.no hp hn (by decide)) rfl rfl dL_lodgersOn_14
    | j + 1, hj, hp => exact absurd hj (by simp)
  · obtain ⟨x, rfl, hp⟩ := z
    obtain ⟨⟨g, hg⟩, -⟩ := id hp
    refine g_i2l dL_lodgersOn_7 ?_
    refine g_last (N := 1) (f := g) hg (vp_in_nI (by decide) (by decide)) dL_lodgersOn_8 ?_
    refine g_goto (tgt := 15) (by decide) dL_lodgersOn_9 ?_
    refine gn_ic 0 (by decide) dL_lodgersOn_15 ?_
    exact g_iret (LPost.ok hp (Nat.le_refl _) rfl) rfl rfl dL_lodgersOn_16
abbrev ML_lodgerOn : Mr := (RL, yL_lodgerOn, cL_lodgerOn, 5, some .int)
theorem hh_L_lodgerOn : gHH yL_lodgerOn = [(0, 10, 13, 19)] := by decide +kernel
theorem k_L_lodgerOn : CdW ML_lodgerOn ∈ wl := by
  unfold CdW
  rw [show gHH (ML_lodgerOn : Mr).2.1 = _ from hh_L_lodgerOn]
  exact (wl_5 154 rfl rfl)
theorem n_L_lodgerOn : nMH ML_lodgerOn 4 := ⟨⟨by decide +kernel, by decide +kernel⟩, by decide +kernel, by decide⟩
theorem l_L_241 : LkSH RL 241 ML_lodgerOn 4 := ⟨(wl_5 152 rfl rfl), (wl_5 153 rfl rfl), (wl_1 0 rfl rfl), k_L_lodgerOn, n_L_lodgerOn⟩
theorem cat_L_lodgerOn_0 : Cat ML_lodgerOn 5 "java/lang/IndexOutOfBoundsException" 13 := ⟨[], 0, 10, 19, [], hh_L_lodgerOn, by decide, by decide, by decide, (wl_5 31 rfl rfl), List.mem_of_getElem? (i := 0) rfl, fun _ h => absurd h List.not_mem_nil⟩
set_option maxHeartbeats 1000000 in
theorem w_lodgerOn {w1 w2 : Int32} (h0 : IVo Γ ab mo k0 t E n) (h : OPk Γ ab mo t MX7_lodgerOn ["java/lang/IndexOutOfBoundsException"] MX8_lodgerOn [.int w1, .int w2] E n) : LW Γ ab mo t cvI ML_lodgerOn MX8_lodgerOn [.int w1, .int w2] E n := by
  have hr := h0.rc
  obtain ⟨d7, mc, ms, q1, q2, q3, hc⟩ := h
  refine CtH.of (by decide +kernel) rfl (Nat.le_of_ble_eq_true rfl) ?_
  refine G.sub (lv2 := [(0, _), (1, _), (2, _), (3, _)]) [0, 1, 2, 3] rfl ?_
  refine G.mono (kc2 := 0 + mc) (ks2 := 0 + ms) (by omega) (by omega) ?_
  refine g_aload_n 3 rfl dL_lodgerOn_0 ?_
  refine gn_ic 0 (by decide) dL_lodgerOn_1 ?_
  refine g_aload_n 0 rfl dL_lodgerOn_2 ?_
  refine g_iload_n 1 rfl dL_lodgerOn_3 ?_
  refine g_iload_n 2 rfl dL_lodgerOn_4 ?_
  refine gw_VC hc l_L_58 rfl hr (by omega) (Nat.le_of_ble_eq_true rfl) rfl dL_lodgerOn_5 (fun y E1 n1 n9 z hn => ?_) (fun v E1 n1 z => ?_)
  · obtain ⟨j, hj, hp⟩ := z
    match j, hj, hp with
    | 0, hj, hp =>
      obtain rfl : "java/lang/IndexOutOfBoundsException" = y := Option.some.inj hj
      refine ⟨13, cat_L_lodgerOn_0, fun q => ?_⟩
      refine g_astore (lv2 := [(4, _), (0, _), (1, _), (2, _), (3, _)]) (by decide) rfl dL_lodgerOn_13 ?_
      refine gn_ic 1 (by decide) dL_lodgerOn_15 ?_
      exact g_iret (LPost.no hp hn (by decide)) rfl rfl dL_lodgerOn_16
    | j + 1, hj, hp => exact absurd hj (by simp)
  · obtain ⟨x, rfl, hp⟩ := z
    obtain ⟨⟨g, hg⟩, -⟩ := id hp
    refine g_i2l dL_lodgerOn_8 ?_
    refine g_last (N := 1) (f := g) hg (vp_in_nI (by decide) (by decide)) dL_lodgerOn_9 ?_
    refine g_goto (tgt := 17) (by decide) dL_lodgerOn_10 ?_
    refine gn_ic 0 (by decide) dL_lodgerOn_17 ?_
    exact g_iret (LPost.ok hp (Nat.le_refl _) rfl) rfl rfl dL_lodgerOn_18
abbrev ML_averageVowel : Mr := (RL, yL_averageVowel, cL_averageVowel, 5, some .int)
theorem hh_L_averageVowel : gHH yL_averageVowel = [(0, 10, 13, 19), (0, 10, 17, 13)] := by decide +kernel
theorem k_L_averageVowel : CdW ML_averageVowel ∈ wl := by
  unfold CdW
  rw [show gHH (ML_averageVowel : Mr).2.1 = _ from hh_L_averageVowel]
  exact (wl_5 166 rfl rfl)
theorem n_L_averageVowel : nMH ML_averageVowel 4 := ⟨⟨by decide +kernel, by decide +kernel⟩, by decide +kernel, by decide⟩
theorem l_L_244 : LkSH RL 244 ML_averageVowel 4 := ⟨(wl_5 164 rfl rfl), (wl_5 165 rfl rfl), (wl_1 0 rfl rfl), k_L_averageVowel, n_L_averageVowel⟩
theorem cat_L_averageVowel_0 : Cat ML_averageVowel 5 "java/lang/IndexOutOfBoundsException" 13 := ⟨[], 0, 10, 19, [(0, 10, 17, 13)], hh_L_averageVowel, by decide, by decide, by decide, (wl_5 31 rfl rfl), List.mem_of_getElem? (i := 0) rfl, fun _ h => absurd h List.not_mem_nil⟩
theorem cat_L_averageVowel_1 : Cat ML_averageVowel 5 "java/lang/IllegalStateException" 17 := ⟨[(0, 10, 13, 19)], 0, 10, 13, [], hh_L_averageVowel, by decide, by decide, by decide, (wl_5 3 rfl rfl), List.mem_of_getElem? (i := 2) rfl, List.forall_mem_cons.mpr ⟨⟨by decide, _, (wl_5 31 rfl rfl), List.mem_of_getElem? (i := 1) rfl⟩, fun _ h => absurd h List.not_mem_nil⟩⟩
set_option maxHeartbeats 1000000 in
theorem w_averageVowel {w1 w2 : Int32} (h0 : IVo Γ ab mo k0 t E n) (h : OPk Γ ab mo t MX7_averageVowel ["java/lang/IndexOutOfBoundsException", "java/lang/IllegalStateException"] MX8_averageVowel [.int w1, .int w2] E n) : LW Γ ab mo t cvI ML_averageVowel MX8_averageVowel [.int w1, .int w2] E n := by
  have hr := h0.rc
  obtain ⟨d7, mc, ms, q1, q2, q3, hc⟩ := h
  refine CtH.of (by decide +kernel) rfl (Nat.le_of_ble_eq_true rfl) ?_
  refine G.sub (lv2 := [(0, _), (1, _), (2, _), (3, _)]) [0, 1, 2, 3] rfl ?_
  refine G.mono (kc2 := 0 + mc) (ks2 := 0 + ms) (by omega) (by omega) ?_
  refine g_aload_n 3 rfl dL_averageVowel_0 ?_
  refine gn_ic 0 (by decide) dL_averageVowel_1 ?_
  refine g_aload_n 0 rfl dL_averageVowel_2 ?_
  refine g_iload_n 1 rfl dL_averageVowel_3 ?_
  refine g_iload_n 2 rfl dL_averageVowel_4 ?_
  refine gw_VC hc l_L_61 rfl hr (by omega) (Nat.le_of_ble_eq_true rfl) rfl dL_averageVowel_5 (fun y E1 n1 n9 z hn => ?_) (fun v E1 n1 z => ?_)
  · obtain ⟨j, hj, hp⟩ := z
    match j, hj, hp with
    | 0, hj, hp =>
      obtain rfl : "java/lang/IndexOutOfBoundsException" = y := Option.some.inj hj
      refine ⟨13, cat_L_averageVowel_0, fun q => ?_⟩
      refine g_astore (lv2 := [(4, _), (0, _), (1, _), (2, _), (3, _)]) (by decide) rfl dL_averageVowel_13 ?_
      refine gn_ic 1 (by decide) dL_averageVowel_15 ?_
      exact g_iret (LPost.no hp hn (by decide)) rfl rfl dL_averageVowel_16
    | 1, hj, hp =>
      obtain rfl : "java/lang/IllegalStateException" = y := Option.some.inj hj
      refine ⟨17, cat_L_averageVowel_1, fun q => ?_⟩
      refine g_astore (lv2 := [(4, _), (0, _), (1, _), (2, _), (3, _)]) (by decide) rfl dL_averageVowel_17 ?_
      refine gn_ic 2 (by decide) dL_averageVowel_19 ?_
      exact g_iret (LPost.no hp hn (by decide)) rfl rfl dL_averageVowel_20
    | j + 2, hj, hp => exact absurd hj (by simp)
  · obtain ⟨x, rfl, hp⟩ := z
    obtain ⟨⟨g, hg⟩, -⟩ := id hp
    refine g_i2l dL_averageVowel_8 ?_
    refine g_last (N := 1) (f := g) hg (vp_in_nI (by decide) (by decide)) dL_averageVowel_9 ?_
    refine g_goto (tgt := 21) (by decide) dL_averageVowel_10 ?_
    refine gn_ic 0 (by decide) dL_averageVowel_21 ?_
    exact g_iret (LPost.ok hp (Nat.le_refl _) rfl) rfl rfl dL_averageVowel_22
abbrev ML_distanceToLandlady : Mr := (RL, yL_distanceToLandlady, cL_distanceToLandlady, 4, some .int)
theorem hh_L_distanceToLandlady : gHH yL_distanceToLandlady = [(0, 9, 12, 19)] := by decide +kernel
theorem k_L_distanceToLandlady : CdW ML_distanceToLandlady ∈ wl := by
  unfold CdW
  rw [show gHH (ML_distanceToLandlady : Mr).2.1 = _ from hh_L_distanceToLandlady]
  exact (wl_5 175 rfl rfl)
theorem n_L_distanceToLandlady : nMH ML_distanceToLandlady 3 := ⟨⟨by decide +kernel, by decide +kernel⟩, by decide +kernel, by decide⟩
theorem l_L_247 : LkSH RL 247 ML_distanceToLandlady 3 := ⟨(wl_5 173 rfl rfl), (wl_5 174 rfl rfl), (wl_1 0 rfl rfl), k_L_distanceToLandlady, n_L_distanceToLandlady⟩
theorem cat_L_distanceToLandlady_0 : Cat ML_distanceToLandlady 4 "java/lang/IndexOutOfBoundsException" 12 := ⟨[], 0, 9, 19, [], hh_L_distanceToLandlady, by decide, by decide, by decide, (wl_5 31 rfl rfl), List.mem_of_getElem? (i := 0) rfl, fun _ h => absurd h List.not_mem_nil⟩
set_option maxHeartbeats 1000000 in
theorem w_distanceToLandlady {w1 : Int32} (h0 : IVo Γ ab mo k0 t E n) (h : OPk Γ ab mo t MX7_distanceToLandlady ["java/lang/IndexOutOfBoundsException"] MX8_distanceToLandlady [.int w1] E n) : LW Γ ab mo t cvI ML_distanceToLandlady MX8_distanceToLandlady [.int w1] E n := by
  have hr := h0.rc
  obtain ⟨d7, mc, ms, q1, q2, q3, hc⟩ := h
  refine CtH.of (by decide +kernel) rfl (Nat.le_of_ble_eq_true rfl) ?_
  refine G.sub (lv2 := [(0, _), (1, _), (2, _)]) [0, 1, 2] rfl ?_
  refine G.mono (kc2 := 0 + mc) (ks2 := 0 + ms) (by omega) (by omega) ?_
  refine g_aload_n 2 rfl dL_distanceToLandlady_0 ?_
  refine gn_ic 0 (by decide) dL_distanceToLandlady_1 ?_
  refine g_aload_n 0 rfl dL_distanceToLandlady_2 ?_
  refine g_iload_n 1 rfl dL_distanceToLandlady_3 ?_
  refine gw_VC hc l_L_64 rfl hr (by omega) (Nat.le_of_ble_eq_true rfl) rfl dL_distanceToLandlady_4 (fun y E1 n1 n9 z hn => ?_) (fun v E1 n1 z => ?_)
  · obtain ⟨j, hj, hp⟩ := z
    match j, hj, hp with
    | 0, hj, hp =>
      obtain rfl : "java/lang/IndexOutOfBoundsException" = y := Option.some.inj hj
      refine ⟨12, cat_L_distanceToLandlady_0, fun q => ?_⟩
      refine g_astore_n (lv2 := [(3, _), (0, _), (1, _), (2, _)]) (by decide) rfl dL_distanceToLandlady_12 ?_
      refine gn_ic 1 (by decide) dL_distanceToLandlady_13 ?_
      exact g_iret (LPost.no hp hn (by decide)) rfl rfl dL_distanceToLandlady_14
    | j + 1, hj, hp => exact absurd hj (by simp)
  · obtain ⟨x, rfl, hp⟩ := z
    obtain ⟨⟨g, hg⟩, -⟩ := id hp
    refine g_i2l dL_distanceToLandlady_7 ?_
    refine g_last (N := 1) (f := g) hg (vp_in_nI (by decide) (by decide)) dL_distanceToLandlady_8 ?_
    refine g_goto (tgt := 15) (by decide) dL_distanceToLandlady_9 ?_
    refine gn_ic 0 (by decide) dL_distanceToLandlady_15 ?_
    exact g_iret (LPost.ok hp (Nat.le_refl _) rfl) rfl rfl dL_distanceToLandlady_16
abbrev ML_distance : Mr := (RL, yL_distance, cL_distance, 5, some .int)
theorem hh_L_distance : gHH yL_distance = [(0, 10, 13, 19)] := by decide +kernel
theorem k_L_distance : CdW ML_distance ∈ wl := by
  unfold CdW
  rw [show gHH (ML_distance : Mr).2.1 = _ from hh_L_distance]
  exact (wl_5 182 rfl rfl)
theorem n_L_distance : nMH ML_distance 4 := ⟨⟨by decide +kernel, by decide +kernel⟩, by decide +kernel, by decide⟩
theorem l_L_250 : LkSH RL 250 ML_distance 4 := ⟨(wl_5 180 rfl rfl), (wl_5 181 rfl rfl), (wl_1 0 rfl rfl), k_L_distance, n_L_distance⟩
theorem cat_L_distance_0 : Cat ML_distance 5 "java/lang/IndexOutOfBoundsException" 13 := ⟨[], 0, 10, 19, [], hh_L_distance, by decide, by decide, by decide, (wl_5 31 rfl rfl), List.mem_of_getElem? (i := 0) rfl, fun _ h => absurd h List.not_mem_nil⟩
set_option maxHeartbeats 1000000 in
theorem w_distance {w1 w2 : Int32} (h0 : IVo Γ ab mo k0 t E n) (h : OPk Γ ab mo t MX7_distance ["java/lang/IndexOutOfBoundsException"] MX8_distance [.int w1, .int w2] E n) : LW Γ ab mo t cvI ML_distance MX8_distance [.int w1, .int w2] E n := by
  have hr := h0.rc
  obtain ⟨d7, mc, ms, q1, q2, q3, hc⟩ := h
  refine CtH.of (by decide +kernel) rfl (Nat.le_of_ble_eq_true rfl) ?_
  refine G.sub (lv2 := [(0, _), (1, _), (2, _), (3, _)]) [0, 1, 2, 3] rfl ?_
  refine G.mono (kc2 := 0 + mc) (ks2 := 0 + ms) (by omega) (by omega) ?_
  refine g_aload_n 3 rfl dL_distance_0 ?_
  refine gn_ic 0 (by decide) dL_distance_1 ?_
  refine g_aload_n 0 rfl dL_distance_2 ?_
  refine g_iload_n 1 rfl dL_distance_3 ?_
  refine g_iload_n 2 rfl dL_distance_4 ?_
  refine gw_VC hc l_L_67 rfl hr (by omega) (Nat.le_of_ble_eq_true rfl) rfl dL_distance_5 (fun y E1 n1 n9 z hn => ?_) (fun v E1 n1 z => ?_)
  · obtain ⟨j, hj, hp⟩ := z
    match j, hj, hp with
    | 0, hj, hp =>
      obtain rfl : "java/lang/IndexOutOfBoundsException" = y := Option.some.inj hj
      refine ⟨13, cat_L_distance_0, fun q => ?_⟩
      refine g_astore (lv2 := [(4, _), (0, _), (1, _), (2, _), (3, _)]) (by decide) rfl dL_distance_13 ?_
      refine gn_ic 1 (by decide) dL_distance_15 ?_
      exact g_iret (LPost.no hp hn (by decide)) rfl rfl dL_distance_16
    | j + 1, hj, hp => exact absurd hj (by simp)
  · obtain ⟨x, rfl, hp⟩ := z
    obtain ⟨⟨g, hg⟩, -⟩ := id hp
    refine g_i2l dL_distance_8 ?_
    refine g_last (N := 1) (f := g) hg (vp_in_nI (by decide) (by decide)) dL_distance_9 ?_
    refine g_goto (tgt := 17) (by decide) dL_distance_10 ?_
    refine gn_ic 0 (by decide) dL_distance_17 ?_
    exact g_iret (LPost.ok hp (Nat.le_refl _) rfl) rfl rfl dL_distance_18
abbrev ML_rhymes : Mr := (RL, yL_rhymes, cL_rhymes, 5, some .int)
theorem hh_L_rhymes : gHH yL_rhymes = [(0, 17, 20, 19)] := by decide +kernel
theorem k_L_rhymes : CdW ML_rhymes ∈ wl := by
  unfold CdW
  rw [show gHH (ML_rhymes : Mr).2.1 = _ from hh_L_rhymes]
  exact (wl_5 189 rfl rfl)
theorem n_L_rhymes : nMH ML_rhymes 4 := ⟨⟨by decide +kernel, by decide +kernel⟩, by decide +kernel, by decide⟩
theorem l_L_253 : LkSH RL 253 ML_rhymes 4 := ⟨(wl_5 187 rfl rfl), (wl_5 188 rfl rfl), (wl_1 0 rfl rfl), k_L_rhymes, n_L_rhymes⟩
theorem cat_L_rhymes_0 : Cat ML_rhymes 5 "java/lang/IndexOutOfBoundsException" 20 := ⟨[], 0, 17, 19, [], hh_L_rhymes, by decide, by decide, by decide, (wl_5 31 rfl rfl), List.mem_of_getElem? (i := 0) rfl, fun _ h => absurd h List.not_mem_nil⟩
set_option maxHeartbeats 1000000 in
theorem w_rhymes {w1 w2 : Int32} (h0 : IVo Γ ab mo k0 t E n) (h : OPk Γ ab mo t MX7_rhymes ["java/lang/IndexOutOfBoundsException"] MX8_rhymes [.int w1, .int w2] E n) : LW Γ ab mo t cvB ML_rhymes MX8_rhymes [.int w1, .int w2] E n := by
  have hr := h0.rc
  obtain ⟨d7, mc, ms, q1, q2, q3, hc⟩ := h
  refine CtH.of (by decide +kernel) rfl (Nat.le_of_ble_eq_true rfl) ?_
  refine G.sub (lv2 := [(0, _), (1, _), (2, _), (3, _)]) [0, 1, 2, 3] rfl ?_
  refine G.mono (kc2 := 0 + mc) (ks2 := 0 + ms) (by omega) (by omega) ?_
  refine g_aload_n 3 rfl dL_rhymes_0 ?_
  refine gn_ic 0 (by decide) dL_rhymes_1 ?_
  refine g_aload_n 0 rfl dL_rhymes_2 ?_
  refine g_iload_n 1 rfl dL_rhymes_3 ?_
  refine g_iload_n 2 rfl dL_rhymes_4 ?_
  refine gw_VC hc l_L_70 rfl hr (by omega) (Nat.le_of_ble_eq_true rfl) rfl dL_rhymes_5 (fun y E1 n1 n9 z hn => ?_) (fun v E1 n1 z => ?_)
  · obtain ⟨j, hj, hp⟩ := z
    match j, hj, hp with
    | 0, hj, hp =>
      obtain rfl : "java/lang/IndexOutOfBoundsException" = y := Option.some.inj hj
      refine ⟨20, cat_L_rhymes_0, fun q => ?_⟩
      refine g_astore (lv2 := [(4, _), (0, _), (1, _), (2, _), (3, _)]) (by decide) rfl dL_rhymes_20 ?_
      refine gn_ic 1 (by decide) dL_rhymes_22 ?_
      exact g_iret (LPost.no hp hn (by decide)) rfl rfl dL_rhymes_23
    | j + 1, hj, hp => exact absurd hj (by simp)
  · obtain ⟨x, rfl, hp⟩ := z
    obtain ⟨⟨g, hg⟩, -⟩ := id hp
    refine g_if_eq (tgt := 15) (by decide) dL_rhymes_8 (fun c => ?_) (fun c => ?_)
    · refine g_lconst (v := 0) dL_rhymes_15 (by decide) ?_
      refine g_last (N := 1) (f := g) hg (vp_in_nI (by decide) (by decide)) dL_rhymes_16 ?_
      refine g_goto (tgt := 24) (by decide) dL_rhymes_17 ?_
      refine gn_ic 0 (by decide) dL_rhymes_24 ?_
      exact g_iret (LPost.ok hp (Nat.le_refl _) (by unfold cvB; rw [if_pos c])) rfl rfl dL_rhymes_25
    · refine g_lconst (v := 1) dL_rhymes_11 (by decide) ?_
      refine g_goto (tgt := 16) (by decide) dL_rhymes_12 ?_
      refine g_last (N := 1) (f := g) hg (vp_in_nI (by decide) (by decide)) dL_rhymes_16 ?_
      refine g_goto (tgt := 24) (by decide) dL_rhymes_17 ?_
      refine gn_ic 0 (by decide) dL_rhymes_24 ?_
      exact g_iret (LPost.ok hp (Nat.le_refl _) (by unfold cvB; rw [if_neg c])) rfl rfl dL_rhymes_25
abbrev ML_rhymesWithLandlady : Mr := (RL, yL_rhymesWithLandlady, cL_rhymesWithLandlady, 4, some .int)
theorem hh_L_rhymesWithLandlady : gHH yL_rhymesWithLandlady = [(0, 16, 19, 19)] := by decide +kernel
theorem k_L_rhymesWithLandlady : CdW ML_rhymesWithLandlady ∈ wl := by
  unfold CdW
  rw [show gHH (ML_rhymesWithLandlady : Mr).2.1 = _ from hh_L_rhymesWithLandlady]
  exact (wl_5 196 rfl rfl)
theorem n_L_rhymesWithLandlady : nMH ML_rhymesWithLandlady 3 := ⟨⟨by decide +kernel, by decide +kernel⟩, by decide +kernel, by decide⟩
theorem l_L_256 : LkSH RL 256 ML_rhymesWithLandlady 3 := ⟨(wl_5 194 rfl rfl), (wl_5 195 rfl rfl), (wl_1 0 rfl rfl), k_L_rhymesWithLandlady, n_L_rhymesWithLandlady⟩
theorem cat_L_rhymesWithLandlady_0 : Cat ML_rhymesWithLandlady 4 "java/lang/IndexOutOfBoundsException" 19 := ⟨[], 0, 16, 19, [], hh_L_rhymesWithLandlady, by decide, by decide, by decide, (wl_5 31 rfl rfl), List.mem_of_getElem? (i := 0) rfl, fun _ h => absurd h List.not_mem_nil⟩
set_option maxHeartbeats 1000000 in
theorem w_rhymesWithLandlady {w1 : Int32} (h0 : IVo Γ ab mo k0 t E n) (h : OPk Γ ab mo t MX7_rhymesWithLandlady ["java/lang/IndexOutOfBoundsException"] MX8_rhymesWithLandlady [.int w1] E n) : LW Γ ab mo t cvB ML_rhymesWithLandlady MX8_rhymesWithLandlady [.int w1] E n := by
  have hr := h0.rc
  obtain ⟨d7, mc, ms, q1, q2, q3, hc⟩ := h
  refine CtH.of (by decide +kernel) rfl (Nat.le_of_ble_eq_true rfl) ?_
  refine G.sub (lv2 := [(0, _), (1, _), (2, _)]) [0, 1, 2] rfl ?_
  refine G.mono (kc2 := 0 + mc) (ks2 := 0 + ms) (by omega) (by omega) ?_
  refine g_aload_n 2 rfl dL_rhymesWithLandlady_0 ?_
  refine gn_ic 0 (by decide) dL_rhymesWithLandlady_1 ?_
  refine g_aload_n 0 rfl dL_rhymesWithLandlady_2 ?_
  refine g_iload_n 1 rfl dL_rhymesWithLandlady_3 ?_
  refine gw_VC hc l_L_74 rfl hr (by omega) (Nat.le_of_ble_eq_true rfl) rfl dL_rhymesWithLandlady_4 (fun y E1 n1 n9 z hn => ?_) (fun v E1 n1 z => ?_)
  · obtain ⟨j, hj, hp⟩ := z
    match j, hj, hp with
    | 0, hj, hp =>
      obtain rfl : "java/lang/IndexOutOfBoundsException" = y := Option.some.inj hj
      refine ⟨19, cat_L_rhymesWithLandlady_0, fun q => ?_⟩
      refine g_astore_n (lv2 := [(3, _), (0, _), (1, _), (2, _)]) (by decide) rfl dL_rhymesWithLandlady_19 ?_
      refine gn_ic 1 (by decide) dL_rhymesWithLandlady_20 ?_
      exact g_iret (LPost.no hp hn (by decide)) rfl rfl dL_rhymesWithLandlady_21
    | j + 1, hj, hp => exact absurd hj (by simp)
  · obtain ⟨x, rfl, hp⟩ := z
    obtain ⟨⟨g, hg⟩, -⟩ := id hp
    refine g_if_eq (tgt := 14) (by decide) dL_rhymesWithLandlady_7 (fun c => ?_) (fun c => ?_)
    · refine g_lconst (v := 0) dL_rhymesWithLandlady_14 (by decide) ?_
      refine g_last (N := 1) (f := g) hg (vp_in_nI (by decide) (by decide)) dL_rhymesWithLandlady_15 ?_
      refine g_goto (tgt := 22) (by decide) dL_rhymesWithLandlady_16 ?_
      refine gn_ic 0 (by decide) dL_rhymesWithLandlady_22 ?_
      exact g_iret (LPost.ok hp (Nat.le_refl _) (by unfold cvB; rw [if_pos c])) rfl rfl dL_rhymesWithLandlady_23
    · refine g_lconst (v := 1) dL_rhymesWithLandlady_10 (by decide) ?_
      refine g_goto (tgt := 15) (by decide) dL_rhymesWithLandlady_11 ?_
      refine g_last (N := 1) (f := g) hg (vp_in_nI (by decide) (by decide)) dL_rhymesWithLandlady_15 ?_
      refine g_goto (tgt := 22) (by decide) dL_rhymesWithLandlady_16 ?_
      refine gn_ic 0 (by decide) dL_rhymesWithLandlady_22 ?_
      exact g_iret (LPost.ok hp (Nat.le_refl _) (by unfold cvB; rw [if_neg c])) rfl rfl dL_rhymesWithLandlady_23
abbrev ML_rhymeCount : Mr := (RL, yL_rhymeCount, cL_rhymeCount, 4, some .int)
theorem hh_L_rhymeCount : gHH yL_rhymeCount = [(0, 9, 12, 19)] := by decide +kernel
theorem k_L_rhymeCount : CdW ML_rhymeCount ∈ wl := by
  unfold CdW
  rw [show gHH (ML_rhymeCount : Mr).2.1 = _ from hh_L_rhymeCount]
  exact (wl_5 203 rfl rfl)
theorem n_L_rhymeCount : nMH ML_rhymeCount 3 := ⟨⟨by decide +kernel, by decide +kernel⟩, by decide +kernel, by decide⟩
theorem l_L_259 : LkSH RL 259 ML_rhymeCount 3 := ⟨(wl_5 201 rfl rfl), (wl_5 202 rfl rfl), (wl_1 0 rfl rfl), k_L_rhymeCount, n_L_rhymeCount⟩
theorem cat_L_rhymeCount_0 : Cat ML_rhymeCount 4 "java/lang/IndexOutOfBoundsException" 12 := ⟨[], 0, 9, 19, [], hh_L_rhymeCount, by decide, by decide, by decide, (wl_5 31 rfl rfl), List.mem_of_getElem? (i := 0) rfl, fun _ h => absurd h List.not_mem_nil⟩
set_option maxHeartbeats 1000000 in
theorem w_rhymeCount {w1 : Int32} (h0 : IVo Γ ab mo k0 t E n) (h : OPk Γ ab mo t MX7_rhymeCount ["java/lang/IndexOutOfBoundsException"] MX8_rhymeCount [.int w1] E n) : LW Γ ab mo t cvI ML_rhymeCount MX8_rhymeCount [.int w1] E n := by
  have hr := h0.rc
  obtain ⟨d7, mc, ms, q1, q2, q3, hc⟩ := h
  refine CtH.of (by decide +kernel) rfl (Nat.le_of_ble_eq_true rfl) ?_
  refine G.sub (lv2 := [(0, _), (1, _), (2, _)]) [0, 1, 2] rfl ?_
  refine G.mono (kc2 := 0 + mc) (ks2 := 0 + ms) (by omega) (by omega) ?_
  refine g_aload_n 2 rfl dL_rhymeCount_0 ?_
  refine gn_ic 0 (by decide) dL_rhymeCount_1 ?_
  refine g_aload_n 0 rfl dL_rhymeCount_2 ?_
  refine g_iload_n 1 rfl dL_rhymeCount_3 ?_
  refine gw_VC hc l_L_78 rfl hr (by omega) (Nat.le_of_ble_eq_true rfl) rfl dL_rhymeCount_4 (fun y E1 n1 n9 z hn => ?_) (fun v E1 n1 z => ?_)
  · obtain ⟨j, hj, hp⟩ := z
    match j, hj, hp with
    | 0, hj, hp =>
      obtain rfl : "java/lang/IndexOutOfBoundsException" = y := Option.some.inj hj
      refine ⟨12, cat_L_rhymeCount_0, fun q => ?_⟩
      refine g_astore_n (lv2 := [(3, _), (0, _), (1, _), (2, _)]) (by decide) rfl dL_rhymeCount_12 ?_
      refine gn_ic 1 (by decide) dL_rhymeCount_13 ?_
      exact g_iret (LPost.no hp hn (by decide)) rfl rfl dL_rhymeCount_14
    | j + 1, hj, hp => exact absurd hj (by simp)
  · obtain ⟨x, rfl, hp⟩ := z
    obtain ⟨⟨g, hg⟩, -⟩ := id hp
    refine g_i2l dL_rhymeCount_7 ?_
    refine g_last (N := 1) (f := g) hg (vp_in_nI (by decide) (by decide)) dL_rhymeCount_8 ?_
    refine g_goto (tgt := 15) (by decide) dL_rhymeCount_9 ?_
    refine gn_ic 0 (by decide) dL_rhymeCount_15 ?_
    exact g_iret (LPost.ok hp (Nat.le_refl _) rfl) rfl rfl dL_rhymeCount_16
abbrev ML_closestTo : Mr := (RL, yL_closestTo, cL_closestTo, 4, some .int)
theorem hh_L_closestTo : gHH yL_closestTo = [(0, 9, 12, 19)] := by decide +kernel
theorem k_L_closestTo : CdW ML_closestTo ∈ wl := by
  unfold CdW
  rw [show gHH (ML_closestTo : Mr).2.1 = _ from hh_L_closestTo]
  exact (wl_5 210 rfl rfl)
theorem n_L_closestTo : nMH ML_closestTo 3 := ⟨⟨by decide +kernel, by decide +kernel⟩, by decide +kernel, by decide⟩
theorem l_L_262 : LkSH RL 262 ML_closestTo 3 := ⟨(wl_5 208 rfl rfl), (wl_5 209 rfl rfl), (wl_1 0 rfl rfl), k_L_closestTo, n_L_closestTo⟩
theorem cat_L_closestTo_0 : Cat ML_closestTo 4 "java/lang/IndexOutOfBoundsException" 12 := ⟨[], 0, 9, 19, [], hh_L_closestTo, by decide, by decide, by decide, (wl_5 31 rfl rfl), List.mem_of_getElem? (i := 0) rfl, fun _ h => absurd h List.not_mem_nil⟩
set_option maxHeartbeats 1000000 in
theorem w_closestTo {w1 : Int32} (h0 : IVo Γ ab mo k0 t E n) (h : OPk Γ ab mo t MX7_closestTo ["java/lang/IndexOutOfBoundsException"] MX8_closestTo [.int w1] E n) : LW Γ ab mo t cvI ML_closestTo MX8_closestTo [.int w1] E n := by
  have hr := h0.rc
  obtain ⟨d7, mc, ms, q1, q2, q3, hc⟩ := h
  refine CtH.of (by decide +kernel) rfl (Nat.le_of_ble_eq_true rfl) ?_
  refine G.sub (lv2 := [(0, _), (1, _), (2, _)]) [0, 1, 2] rfl ?_
  refine G.mono (kc2 := 0 + mc) (ks2 := 0 + ms) (by omega) (by omega) ?_
  refine g_aload_n 2 rfl dL_closestTo_0 ?_
  refine gn_ic 0 (by decide) dL_closestTo_1 ?_
  refine g_aload_n 0 rfl dL_closestTo_2 ?_
  refine g_iload_n 1 rfl dL_closestTo_3 ?_
  refine gw_VC hc l_L_81 rfl hr (by omega) (Nat.le_of_ble_eq_true rfl) rfl dL_closestTo_4 (fun y E1 n1 n9 z hn => ?_) (fun v E1 n1 z => ?_)
  · obtain ⟨j, hj, hp⟩ := z
    match j, hj, hp with
    | 0, hj, hp =>
      obtain rfl : "java/lang/IndexOutOfBoundsException" = y := Option.some.inj hj
      refine ⟨12, cat_L_closestTo_0, fun q => ?_⟩
      refine g_astore_n (lv2 := [(3, _), (0, _), (1, _), (2, _)]) (by decide) rfl dL_closestTo_12 ?_
      refine gn_ic 1 (by decide) dL_closestTo_13 ?_
      exact g_iret (LPost.no hp hn (by decide)) rfl rfl dL_closestTo_14
    | j + 1, hj, hp => exact absurd hj (by simp)
  · obtain ⟨x, rfl, hp⟩ := z
    obtain ⟨⟨g, hg⟩, -⟩ := id hp
    refine g_i2l dL_closestTo_7 ?_
    refine g_last (N := 1) (f := g) hg (vp_in_nI (by decide) (by decide)) dL_closestTo_8 ?_
    refine g_goto (tgt := 15) (by decide) dL_closestTo_9 ?_
    refine gn_ic 0 (by decide) dL_closestTo_15 ?_
    exact g_iret (LPost.ok hp (Nat.le_refl _) rfl) rfl rfl dL_closestTo_16
abbrev ML_lessonVowel : Mr := (RL, yL_lessonVowel, cL_lessonVowel, 4, some .int)
theorem hh_L_lessonVowel : gHH yL_lessonVowel = [(0, 9, 12, 19)] := by decide +kernel
theorem k_L_lessonVowel : CdW ML_lessonVowel ∈ wl := by
  unfold CdW
  rw [show gHH (ML_lessonVowel : Mr).2.1 = _ from hh_L_lessonVowel]
  exact (wl_5 217 rfl rfl)
theorem n_L_lessonVowel : nMH ML_lessonVowel 3 := ⟨⟨by decide +kernel, by decide +kernel⟩, by decide +kernel, by decide⟩
theorem l_L_265 : LkSH RL 265 ML_lessonVowel 3 := ⟨(wl_5 215 rfl rfl), (wl_5 216 rfl rfl), (wl_1 0 rfl rfl), k_L_lessonVowel, n_L_lessonVowel⟩
theorem cat_L_lessonVowel_0 : Cat ML_lessonVowel 4 "java/lang/IndexOutOfBoundsException" 12 := ⟨[], 0, 9, 19, [], hh_L_lessonVowel, by decide, by decide, by decide, (wl_5 31 rfl rfl), List.mem_of_getElem? (i := 0) rfl, fun _ h => absurd h List.not_mem_nil⟩
set_option maxHeartbeats 1000000 in
theorem w_lessonVowel {w1 : Int32} (h0 : IVo Γ ab mo k0 t E n) (h : OPk Γ ab mo t MX7_lessonVowel ["java/lang/IndexOutOfBoundsException"] MX8_lessonVowel [.int w1] E n) : LW Γ ab mo t cvI ML_lessonVowel MX8_lessonVowel [.int w1] E n := by
  have hr := h0.rc
  obtain ⟨d7, mc, ms, q1, q2, q3, hc⟩ := h
  refine CtH.of (by decide +kernel) rfl (Nat.le_of_ble_eq_true rfl) ?_
  refine G.sub (lv2 := [(0, _), (1, _), (2, _)]) [0, 1, 2] rfl ?_
  refine G.mono (kc2 := 0 + mc) (ks2 := 0 + ms) (by omega) (by omega) ?_
  refine g_aload_n 2 rfl dL_lessonVowel_0 ?_
  refine gn_ic 0 (by decide) dL_lessonVowel_1 ?_
  refine g_aload_n 0 rfl dL_lessonVowel_2 ?_
  refine g_iload_n 1 rfl dL_lessonVowel_3 ?_
  refine gw_VC hc l_L_84 rfl hr (by omega) (Nat.le_of_ble_eq_true rfl) rfl dL_lessonVowel_4 (fun y E1 n1 n9 z hn => ?_) (fun v E1 n1 z => ?_)
  · obtain ⟨j, hj, hp⟩ := z
    match j, hj, hp with
    | 0, hj, hp =>
      obtain rfl : "java/lang/IndexOutOfBoundsException" = y := Option.some.inj hj
      refine ⟨12, cat_L_lessonVowel_0, fun q => ?_⟩
      refine g_astore_n (lv2 := [(3, _), (0, _), (1, _), (2, _)]) (by decide) rfl dL_lessonVowel_12 ?_
      refine gn_ic 1 (by decide) dL_lessonVowel_13 ?_
      exact g_iret (LPost.no hp hn (by decide)) rfl rfl dL_lessonVowel_14
    | j + 1, hj, hp => exact absurd hj (by simp)
  · obtain ⟨x, rfl, hp⟩ := z
    obtain ⟨⟨g, hg⟩, -⟩ := id hp
    refine g_i2l dL_lessonVowel_7 ?_
    refine g_last (N := 1) (f := g) hg (vp_in_nI (by decide) (by decide)) dL_lessonVowel_8 ?_
    refine g_goto (tgt := 15) (by decide) dL_lessonVowel_9 ?_
    refine gn_ic 0 (by decide) dL_lessonVowel_15 ?_
    exact g_iret (LPost.ok hp (Nat.le_refl _) rfl) rfl rfl dL_lessonVowel_16
abbrev ML_slipVowel : Mr := (RL, yL_slipVowel, cL_slipVowel, 4, some .int)
theorem hh_L_slipVowel : gHH yL_slipVowel = [(0, 9, 12, 19)] := by decide +kernel
theorem k_L_slipVowel : CdW ML_slipVowel ∈ wl := by
  unfold CdW
  rw [show gHH (ML_slipVowel : Mr).2.1 = _ from hh_L_slipVowel]
  exact (wl_5 225 rfl rfl)
theorem n_L_slipVowel : nMH ML_slipVowel 3 := ⟨⟨by decide +kernel, by decide +kernel⟩, by decide +kernel, by decide⟩
theorem l_L_268 : LkSH RL 268 ML_slipVowel 3 := ⟨(wl_5 223 rfl rfl), (wl_5 224 rfl rfl), (wl_1 0 rfl rfl), k_L_slipVowel, n_L_slipVowel⟩
theorem cat_L_slipVowel_0 : Cat ML_slipVowel 4 "java/lang/IndexOutOfBoundsException" 12 := ⟨[], 0, 9, 19, [], hh_L_slipVowel, by decide, by decide, by decide, (wl_5 31 rfl rfl), List.mem_of_getElem? (i := 0) rfl, fun _ h => absurd h List.not_mem_nil⟩
set_option maxHeartbeats 1000000 in
theorem w_slipVowel {w1 : Int32} (h0 : IVo Γ ab mo k0 t E n) (h : OPk Γ ab mo t MX7_slipVowel ["java/lang/IndexOutOfBoundsException"] MX8_slipVowel [.int w1] E n) : LW Γ ab mo t cvI ML_slipVowel MX8_slipVowel [.int w1] E n := by
  have hr := h0.rc
  obtain ⟨d7, mc, ms, q1, q2, q3, hc⟩ := h
  refine CtH.of (by decide +kernel) rfl (Nat.le_of_ble_eq_true rfl) ?_
  refine G.sub (lv2 := [(0, _), (1, _), (2, _)]) [0, 1, 2] rfl ?_
  refine G.mono (kc2 := 0 + mc) (ks2 := 0 + ms) (by omega) (by omega) ?_
  refine g_aload_n 2 rfl dL_slipVowel_0 ?_
  refine gn_ic 0 (by decide) dL_slipVowel_1 ?_
  refine g_aload_n 0 rfl dL_slipVowel_2 ?_
  refine g_iload_n 1 rfl dL_slipVowel_3 ?_
  refine gw_VC hc l_L_87 rfl hr (by omega) (Nat.le_of_ble_eq_true rfl) rfl dL_slipVowel_4 (fun y E1 n1 n9 z hn => ?_) (fun v E1 n1 z => ?_)
  · obtain ⟨j, hj, hp⟩ := z
    match j, hj, hp with
    | 0, hj, hp =>
      obtain rfl : "java/lang/IndexOutOfBoundsException" = y := Option.some.inj hj
      refine ⟨12, cat_L_slipVowel_0, fun q => ?_⟩
      refine g_astore_n (lv2 := [(3, _), (0, _), (1, _), (2, _)]) (by decide) rfl dL_slipVowel_12 ?_
      refine gn_ic 1 (by decide) dL_slipVowel_13 ?_
      exact g_iret (LPost.no hp hn (by decide)) rfl rfl dL_slipVowel_14
    | j + 1, hj, hp => exact absurd hj (by simp)
  · obtain ⟨x, rfl, hp⟩ := z
    obtain ⟨⟨g, hg⟩, -⟩ := id hp
    refine g_i2l dL_slipVowel_7 ?_
    refine g_last (N := 1) (f := g) hg (vp_in_nI (by decide) (by decide)) dL_slipVowel_8 ?_
    refine g_goto (tgt := 15) (by decide) dL_slipVowel_9 ?_
    refine gn_ic 0 (by decide) dL_slipVowel_15 ?_
    exact g_iret (LPost.ok hp (Nat.le_refl _) rfl) rfl rfl dL_slipVowel_16
abbrev ML_mustGo : Mr := (RL, yL_mustGo, cL_mustGo, 4, some .int)
theorem hh_L_mustGo : gHH yL_mustGo = [(0, 16, 19, 19)] := by decide +kernel
theorem k_L_mustGo : CdW ML_mustGo ∈ wl := by
  unfold CdW
  rw [show gHH (ML_mustGo : Mr).2.1 = _ from hh_L_mustGo]
  exact (wl_5 233 rfl rfl)
theorem n_L_mustGo : nMH ML_mustGo 3 := ⟨⟨by decide +kernel, by decide +kernel⟩, by decide +kernel, by decide⟩
theorem l_L_271 : LkSH RL 271 ML_mustGo 3 := ⟨(wl_5 231 rfl rfl), (wl_5 232 rfl rfl), (wl_1 0 rfl rfl), k_L_mustGo, n_L_mustGo⟩
theorem cat_L_mustGo_0 : Cat ML_mustGo 4 "java/lang/IndexOutOfBoundsException" 19 := ⟨[], 0, 16, 19, [], hh_L_mustGo, by decide, by decide, by decide, (wl_5 31 rfl rfl), List.mem_of_getElem? (i := 0) rfl, fun _ h => absurd h List.not_mem_nil⟩
set_option maxHeartbeats 1000000 in
theorem w_mustGo {w1 : Int32} (h0 : IVo Γ ab mo k0 t E n) (h : OPk Γ ab mo t MX7_mustGo ["java/lang/IndexOutOfBoundsException"] MX8_mustGo [.int w1] E n) : LW Γ ab mo t cvB ML_mustGo MX8_mustGo [.int w1] E n := by
  have hr := h0.rc
  obtain ⟨d7, mc, ms, q1, q2, q3, hc⟩ := h
  refine CtH.of (by decide +kernel) rfl (Nat.le_of_ble_eq_true rfl) ?_
  refine G.sub (lv2 := [(0, _), (1, _), (2, _)]) [0, 1, 2] rfl ?_
  refine G.mono (kc2 := 0 + mc) (ks2 := 0 + ms) (by omega) (by omega) ?_
  refine g_aload_n 2 rfl dL_mustGo_0 ?_
  refine gn_ic 0 (by decide) dL_mustGo_1 ?_
  refine g_aload_n 0 rfl dL_mustGo_2 ?_
  refine g_iload_n 1 rfl dL_mustGo_3 ?_
  refine gw_VC hc l_L_90 rfl hr (by omega) (Nat.le_of_ble_eq_true rfl) rfl dL_mustGo_4 (fun y E1 n1 n9 z hn => ?_) (fun v E1 n1 z => ?_)
  · obtain ⟨j, hj, hp⟩ := z
    match j, hj, hp with
    | 0, hj, hp =>
      obtain rfl : "java/lang/IndexOutOfBoundsException" = y := Option.some.inj hj
      refine ⟨19, cat_L_mustGo_0, fun q => ?_⟩
      refine g_astore_n (lv2 := [(3, _), (0, _), (1, _), (2, _)]) (by decide) rfl dL_mustGo_19 ?_
      refine gn_ic 1 (by decide) dL_mustGo_20 ?_
      exact g_iret (LPost.no hp hn (by decide)) rfl rfl dL_mustGo_21
    | j + 1, hj, hp => exact absurd hj (by simp)
  · obtain ⟨x, rfl, hp⟩ := z
    obtain ⟨⟨g, hg⟩, -⟩ := id hp
    refine g_if_eq (tgt := 14) (by decide) dL_mustGo_7 (fun c => ?_) (fun c => ?_)
    · refine g_lconst (v := 0) dL_mustGo_14 (by decide) ?_
      refine g_last (N := 1) (f := g) hg (vp_in_nI (by decide) (by decide)) dL_mustGo_15 ?_
      refine g_goto (tgt := 22) (by decide) dL_mustGo_16 ?_
      refine gn_ic 0 (by decide) dL_mustGo_22 ?_
      exact g_iret (LPost.ok hp (Nat.le_refl _) (by unfold cvB; rw [if_pos c])) rfl rfl dL_mustGo_23
    · refine g_lconst (v := 1) dL_mustGo_10 (by decide) ?_
      refine g_goto (tgt := 15) (by decide) dL_mustGo_11 ?_
      refine g_last (N := 1) (f := g) hg (vp_in_nI (by decide) (by decide)) dL_mustGo_15 ?_
      refine g_goto (tgt := 22) (by decide) dL_mustGo_16 ?_
      refine gn_ic 0 (by decide) dL_mustGo_22 ?_
      exact g_iret (LPost.ok hp (Nat.le_refl _) (by unfold cvB; rw [if_neg c])) rfl rfl dL_mustGo_23
abbrev ML_balanceAfter : Mr := (RL, yL_balanceAfter, cL_balanceAfter, 5, some .int)
theorem hh_L_balanceAfter : gHH yL_balanceAfter = [(0, 10, 13, 19), (0, 10, 17, 21)] := by decide +kernel
theorem k_L_balanceAfter : CdW ML_balanceAfter ∈ wl := by
  unfold CdW
  rw [show gHH (ML_balanceAfter : Mr).2.1 = _ from hh_L_balanceAfter]
  exact (wl_6 1 rfl rfl)
theorem n_L_balanceAfter : nMH ML_balanceAfter 4 := ⟨⟨by decide +kernel, by decide +kernel⟩, by decide +kernel, by decide⟩
theorem l_L_284 : LkSH RL 284 ML_balanceAfter 4 := ⟨(wl_5 239 rfl rfl), (wl_6 0 rfl rfl), (wl_1 0 rfl rfl), k_L_balanceAfter, n_L_balanceAfter⟩
theorem cat_L_balanceAfter_0 : Cat ML_balanceAfter 5 "java/lang/IndexOutOfBoundsException" 13 := ⟨[], 0, 10, 19, [(0, 10, 17, 21)], hh_L_balanceAfter, by decide, by decide, by decide, (wl_5 31 rfl rfl), List.mem_of_getElem? (i := 0) rfl, fun _ h => absurd h List.not_mem_nil⟩
theorem cat_L_balanceAfter_1 : Cat ML_balanceAfter 5 "java/lang/IllegalArgumentException" 17 := ⟨[(0, 10, 13, 19)], 0, 10, 21, [], hh_L_balanceAfter, by decide, by decide, by decide, (wl_5 32 rfl rfl), List.mem_of_getElem? (i := 1) rfl, List.forall_mem_cons.mpr ⟨⟨by decide, _, (wl_5 31 rfl rfl), List.mem_of_getElem? (i := 0) rfl⟩, fun _ h => absurd h List.not_mem_nil⟩⟩
set_option maxHeartbeats 1000000 in
theorem w_balanceAfter {w1 w2 : Int32} (h0 : IVo Γ ab mo k0 t E n) (h : OPk Γ ab mo t MX7_balanceAfter ["java/lang/IndexOutOfBoundsException", "java/lang/IllegalArgumentException"] MX8_balanceAfter [.int w1, .int w2] E n) : LW Γ ab mo t cvI ML_balanceAfter MX8_balanceAfter [.int w1, .int w2] E n := by
  have hr := h0.rc
  obtain ⟨d7, mc, ms, q1, q2, q3, hc⟩ := h
  refine CtH.of (by decide +kernel) rfl (Nat.le_of_ble_eq_true rfl) ?_
  refine G.sub (lv2 := [(0, _), (1, _), (2, _), (3, _)]) [0, 1, 2, 3] rfl ?_
  refine G.mono (kc2 := 0 + mc) (ks2 := 0 + ms) (by omega) (by omega) ?_
  refine g_aload_n 3 rfl dL_balanceAfter_0 ?_
  refine gn_ic 0 (by decide) dL_balanceAfter_1 ?_
  refine g_aload_n 0 rfl dL_balanceAfter_2 ?_
  refine g_iload_n 1 rfl dL_balanceAfter_3 ?_
  refine g_iload_n 2 rfl dL_balanceAfter_4 ?_
  refine gw_VC hc l_L_93 rfl hr (by omega) (Nat.le_of_ble_eq_true rfl) rfl dL_balanceAfter_5 (fun y E1 n1 n9 z hn => ?_) (fun v E1 n1 z => ?_)
  · obtain ⟨j, hj, hp⟩ := z
    match j, hj, hp with
    | 0, hj, hp =>
      obtain rfl : "java/lang/IndexOutOfBoundsException" = y := Option.some.inj hj
      refine ⟨13, cat_L_balanceAfter_0, fun q => ?_⟩
      refine g_astore (lv2 := [(4, _), (0, _), (1, _), (2, _), (3, _)]) (by decide) rfl dL_balanceAfter_13 ?_
      refine gn_ic 1 (by decide) dL_balanceAfter_15 ?_
      exact g_iret (LPost.no hp hn (by decide)) rfl rfl dL_balanceAfter_16
    | 1, hj, hp =>
      obtain rfl : "java/lang/IllegalArgumentException" = y := Option.some.inj hj
      refine ⟨17, cat_L_balanceAfter_1, fun q => ?_⟩
      refine g_astore (lv2 := [(4, _), (0, _), (1, _), (2, _), (3, _)]) (by decide) rfl dL_balanceAfter_17 ?_
      refine gn_ic 2 (by decide) dL_balanceAfter_19 ?_
      exact g_iret (LPost.no hp hn (by decide)) rfl rfl dL_balanceAfter_20
    | j + 2, hj, hp => exact absurd hj (by simp)
  · obtain ⟨x, rfl, hp⟩ := z
    obtain ⟨⟨g, hg⟩, -⟩ := id hp
    refine g_i2l dL_balanceAfter_8 ?_
    refine g_last (N := 1) (f := g) hg (vp_in_nI (by decide) (by decide)) dL_balanceAfter_9 ?_
    refine g_goto (tgt := 21) (by decide) dL_balanceAfter_10 ?_
    refine gn_ic 0 (by decide) dL_balanceAfter_21 ?_
    exact g_iret (LPost.ok hp (Nat.le_refl _) rfl) rfl rfl dL_balanceAfter_22
abbrev ML_distanceAfter : Mr := (RL, yL_distanceAfter, cL_distanceAfter, 5, some .int)
theorem hh_L_distanceAfter : gHH yL_distanceAfter = [(0, 10, 13, 19), (0, 10, 17, 21)] := by decide +kernel
theorem k_L_distanceAfter : CdW ML_distanceAfter ∈ wl := by
  unfold CdW
  rw [show gHH (ML_distanceAfter : Mr).2.1 = _ from hh_L_distanceAfter]
  exact (wl_6 26 rfl rfl)
theorem n_L_distanceAfter : nMH ML_distanceAfter 4 := ⟨⟨by decide +kernel, by decide +kernel⟩, by decide +kernel, by decide⟩
theorem l_L_287 : LkSH RL 287 ML_distanceAfter 4 := ⟨(wl_6 24 rfl rfl), (wl_6 25 rfl rfl), (wl_1 0 rfl rfl), k_L_distanceAfter, n_L_distanceAfter⟩
theorem cat_L_distanceAfter_0 : Cat ML_distanceAfter 5 "java/lang/IndexOutOfBoundsException" 13 := ⟨[], 0, 10, 19, [(0, 10, 17, 21)], hh_L_distanceAfter, by decide, by decide, by decide, (wl_5 31 rfl rfl), List.mem_of_getElem? (i := 0) rfl, fun _ h => absurd h List.not_mem_nil⟩
theorem cat_L_distanceAfter_1 : Cat ML_distanceAfter 5 "java/lang/IllegalArgumentException" 17 := ⟨[(0, 10, 13, 19)], 0, 10, 21, [], hh_L_distanceAfter, by decide, by decide, by decide, (wl_5 32 rfl rfl), List.mem_of_getElem? (i := 1) rfl, List.forall_mem_cons.mpr ⟨⟨by decide, _, (wl_5 31 rfl rfl), List.mem_of_getElem? (i := 0) rfl⟩, fun _ h => absurd h List.not_mem_nil⟩⟩
set_option maxHeartbeats 1000000 in
theorem w_distanceAfter {w1 w2 : Int32} (h0 : IVo Γ ab mo k0 t E n) (h : OPk Γ ab mo t MX7_distanceAfter ["java/lang/IndexOutOfBoundsException", "java/lang/IllegalArgumentException"] MX8_distanceAfter [.int w1, .int w2] E n) : LW Γ ab mo t cvI ML_distanceAfter MX8_distanceAfter [.int w1, .int w2] E n := by
  have hr := h0.rc
  obtain ⟨d7, mc, ms, q1, q2, q3, hc⟩ := h
  refine CtH.of (by decide +kernel) rfl (Nat.le_of_ble_eq_true rfl) ?_
  refine G.sub (lv2 := [(0, _), (1, _), (2, _), (3, _)]) [0, 1, 2, 3] rfl ?_
  refine G.mono (kc2 := 0 + mc) (ks2 := 0 + ms) (by omega) (by omega) ?_
  refine g_aload_n 3 rfl dL_distanceAfter_0 ?_
  refine gn_ic 0 (by decide) dL_distanceAfter_1 ?_
  refine g_aload_n 0 rfl dL_distanceAfter_2 ?_
  refine g_iload_n 1 rfl dL_distanceAfter_3 ?_
  refine g_iload_n 2 rfl dL_distanceAfter_4 ?_
  refine gw_VC hc l_L_96 rfl hr (by omega) (Nat.le_of_ble_eq_true rfl) rfl dL_distanceAfter_5 (fun y E1 n1 n9 z hn => ?_) (fun v E1 n1 z => ?_)
  · obtain ⟨j, hj, hp⟩ := z
    match j, hj, hp with
    | 0, hj, hp =>
      obtain rfl : "java/lang/IndexOutOfBoundsException" = y := Option.some.inj hj
      refine ⟨13, cat_L_distanceAfter_0, fun q => ?_⟩
      refine g_astore (lv2 := [(4, _), (0, _), (1, _), (2, _), (3, _)]) (by decide) rfl dL_distanceAfter_13 ?_
      refine gn_ic 1 (by decide) dL_distanceAfter_15 ?_
      exact g_iret (LPost.no hp hn (by decide)) rfl rfl dL_distanceAfter_16
    | 1, hj, hp =>
      obtain rfl : "java/lang/IllegalArgumentException" = y := Option.some.inj hj
      refine ⟨17, cat_L_distanceAfter_1, fun q => ?_⟩
      refine g_astore (lv2 := [(4, _), (0, _), (1, _), (2, _), (3, _)]) (by decide) rfl dL_distanceAfter_17 ?_
      refine gn_ic 2 (by decide) dL_distanceAfter_19 ?_
      exact g_iret (LPost.no hp hn (by decide)) rfl rfl dL_distanceAfter_20
    | j + 2, hj, hp => exact absurd hj (by simp)
  · obtain ⟨x, rfl, hp⟩ := z
    obtain ⟨⟨g, hg⟩, -⟩ := id hp
    refine g_i2l dL_distanceAfter_8 ?_
    refine g_last (N := 1) (f := g) hg (vp_in_nI (by decide) (by decide)) dL_distanceAfter_9 ?_
    refine g_goto (tgt := 21) (by decide) dL_distanceAfter_10 ?_
    refine gn_ic 0 (by decide) dL_distanceAfter_21 ?_
    exact g_iret (LPost.ok hp (Nat.le_refl _) rfl) rfl rfl dL_distanceAfter_22
abbrev ML_daysToEviction : Mr := (RL, yL_daysToEviction, cL_daysToEviction, 4, some .int)
theorem hh_L_daysToEviction : gHH yL_daysToEviction = [(0, 9, 12, 19)] := by decide +kernel
theorem k_L_daysToEviction : CdW ML_daysToEviction ∈ wl := by
  unfold CdW
  rw [show gHH (ML_daysToEviction : Mr).2.1 = _ from hh_L_daysToEviction]
  exact (wl_6 33 rfl rfl)
theorem n_L_daysToEviction : nMH ML_daysToEviction 3 := ⟨⟨by decide +kernel, by decide +kernel⟩, by decide +kernel, by decide⟩
theorem l_L_290 : LkSH RL 290 ML_daysToEviction 3 := ⟨(wl_6 31 rfl rfl), (wl_6 32 rfl rfl), (wl_1 0 rfl rfl), k_L_daysToEviction, n_L_daysToEviction⟩
theorem cat_L_daysToEviction_0 : Cat ML_daysToEviction 4 "java/lang/IndexOutOfBoundsException" 12 := ⟨[], 0, 9, 19, [], hh_L_daysToEviction, by decide, by decide, by decide, (wl_5 31 rfl rfl), List.mem_of_getElem? (i := 0) rfl, fun _ h => absurd h List.not_mem_nil⟩
set_option maxHeartbeats 1000000 in
theorem w_daysToEviction {w1 : Int32} (h0 : IVo Γ ab mo k0 t E n) (h : OPk Γ ab mo t MX7_daysToEviction ["java/lang/IndexOutOfBoundsException"] MX8_daysToEviction [.int w1] E n) : LW Γ ab mo t cvI ML_daysToEviction MX8_daysToEviction [.int w1] E n := by
  have hr := h0.rc
  obtain ⟨d7, mc, ms, q1, q2, q3, hc⟩ := h
  refine CtH.of (by decide +kernel) rfl (Nat.le_of_ble_eq_true rfl) ?_
  refine G.sub (lv2 := [(0, _), (1, _), (2, _)]) [0, 1, 2] rfl ?_
  refine G.mono (kc2 := 0 + mc) (ks2 := 0 + ms) (by omega) (by omega) ?_
  refine g_aload_n 2 rfl dL_daysToEviction_0 ?_
  refine gn_ic 0 (by decide) dL_daysToEviction_1 ?_
  refine g_aload_n 0 rfl dL_daysToEviction_2 ?_
  refine g_iload_n 1 rfl dL_daysToEviction_3 ?_
  refine gw_VC hc l_L_99 rfl hr (by omega) (Nat.le_of_ble_eq_true rfl) rfl dL_daysToEviction_4 (fun y E1 n1 n9 z hn => ?_) (fun v E1 n1 z => ?_)
  · obtain ⟨j, hj, hp⟩ := z
    match j, hj, hp with
    | 0, hj, hp =>
      obtain rfl : "java/lang/IndexOutOfBoundsException" = y := Option.some.inj hj
      refine ⟨12, cat_L_daysToEviction_0, fun q => ?_⟩
      refine g_astore_n (lv2 := [(3, _), (0, _), (1, _), (2, _)]) (by decide) rfl dL_daysToEviction_12 ?_
      refine gn_ic 1 (by decide) dL_daysToEviction_13 ?_
      exact g_iret (LPost.no hp hn (by decide)) rfl rfl dL_daysToEviction_14
    | j + 1, hj, hp => exact absurd hj (by simp)
  · obtain ⟨x, rfl, hp⟩ := z
    obtain ⟨⟨g, hg⟩, -⟩ := id hp
    refine g_i2l dL_daysToEviction_7 ?_
    refine g_last (N := 1) (f := g) hg (vp_in_nI (by decide) (by decide)) dL_daysToEviction_8 ?_
    refine g_goto (tgt := 15) (by decide) dL_daysToEviction_9 ?_
    refine gn_ic 0 (by decide) dL_daysToEviction_15 ?_
    exact g_iret (LPost.ok hp (Nat.le_refl _) rfl) rfl rfl dL_daysToEviction_16
abbrev ML_paymentToStay : Mr := (RL, yL_paymentToStay, cL_paymentToStay, 4, some .int)
theorem hh_L_paymentToStay : gHH yL_paymentToStay = [(0, 9, 12, 19)] := by decide +kernel
theorem k_L_paymentToStay : CdW ML_paymentToStay ∈ wl := by
  unfold CdW
  rw [show gHH (ML_paymentToStay : Mr).2.1 = _ from hh_L_paymentToStay]
  exact (wl_6 40 rfl rfl)
theorem n_L_paymentToStay : nMH ML_paymentToStay 3 := ⟨⟨by decide +kernel, by decide +kernel⟩, by decide +kernel, by decide⟩
theorem l_L_293 : LkSH RL 293 ML_paymentToStay 3 := ⟨(wl_6 38 rfl rfl), (wl_6 39 rfl rfl), (wl_1 0 rfl rfl), k_L_paymentToStay, n_L_paymentToStay⟩
theorem cat_L_paymentToStay_0 : Cat ML_paymentToStay 4 "java/lang/IndexOutOfBoundsException" 12 := ⟨[], 0, 9, 19, [], hh_L_paymentToStay, by decide, by decide, by decide, (wl_5 31 rfl rfl), List.mem_of_getElem? (i := 0) rfl, fun _ h => absurd h List.not_mem_nil⟩
set_option maxHeartbeats 1000000 in
theorem w_paymentToStay {w1 : Int32} (h0 : IVo Γ ab mo k0 t E n) (h : OPk Γ ab mo t MX7_paymentToStay ["java/lang/IndexOutOfBoundsException"] MX8_paymentToStay [.int w1] E n) : LW Γ ab mo t cvI ML_paymentToStay MX8_paymentToStay [.int w1] E n := by
  have hr := h0.rc
  obtain ⟨d7, mc, ms, q1, q2, q3, hc⟩ := h
  refine CtH.of (by decide +kernel) rfl (Nat.le_of_ble_eq_true rfl) ?_
  refine G.sub (lv2 := [(0, _), (1, _), (2, _)]) [0, 1, 2] rfl ?_
  refine G.mono (kc2 := 0 + mc) (ks2 := 0 + ms) (by omega) (by omega) ?_
  refine g_aload_n 2 rfl dL_paymentToStay_0 ?_
  refine gn_ic 0 (by decide) dL_paymentToStay_1 ?_
  refine g_aload_n 0 rfl dL_paymentToStay_2 ?_
  refine g_iload_n 1 rfl dL_paymentToStay_3 ?_
  refine gw_VC hc l_L_102 rfl hr (by omega) (Nat.le_of_ble_eq_true rfl) rfl dL_paymentToStay_4 (fun y E1 n1 n9 z hn => ?_) (fun v E1 n1 z => ?_)
  · obtain ⟨j, hj, hp⟩ := z
    match j, hj, hp with
    | 0, hj, hp =>
      obtain rfl : "java/lang/IndexOutOfBoundsException" = y := Option.some.inj hj
      refine ⟨12, cat_L_paymentToStay_0, fun q => ?_⟩
      refine g_astore_n (lv2 := [(3, _), (0, _), (1, _), (2, _)]) (by decide) rfl dL_paymentToStay_12 ?_
      refine gn_ic 1 (by decide) dL_paymentToStay_13 ?_
      exact g_iret (LPost.no hp hn (by decide)) rfl rfl dL_paymentToStay_14
    | j + 1, hj, hp => exact absurd hj (by simp)
  · obtain ⟨x, rfl, hp⟩ := z
    obtain ⟨⟨g, hg⟩, -⟩ := id hp
    refine g_i2l dL_paymentToStay_7 ?_
    refine g_last (N := 1) (f := g) hg (vp_in_nI (by decide) (by decide)) dL_paymentToStay_8 ?_
    refine g_goto (tgt := 15) (by decide) dL_paymentToStay_9 ?_
    refine gn_ic 0 (by decide) dL_paymentToStay_15 ?_
    exact g_iret (LPost.ok hp (Nat.le_refl _) rfl) rfl rfl dL_paymentToStay_16
abbrev ML_advance : Mr := (RL, yL_advance, cL_advance, 4, some .int)
theorem hh_L_advance : gHH yL_advance = [(0, 9, 12, 21), (0, 9, 15, 13)] := by decide +kernel
theorem k_L_advance : CdW ML_advance ∈ wl := by
  unfold CdW
  rw [show gHH (ML_advance : Mr).2.1 = _ from hh_L_advance]
  exact (wl_6 52 rfl rfl)
theorem n_L_advance : nMH ML_advance 3 := ⟨⟨by decide +kernel, by decide +kernel⟩, by decide +kernel, by decide⟩
theorem l_L_312 : LkSH RL 312 ML_advance 3 := ⟨(wl_6 50 rfl rfl), (wl_6 51 rfl rfl), (wl_1 0 rfl rfl), k_L_advance, n_L_advance⟩
theorem cat_L_advance_0 : Cat ML_advance 4 "java/lang/IllegalArgumentException" 12 := ⟨[], 0, 9, 21, [(0, 9, 15, 13)], hh_L_advance, by decide, by decide, by decide, (wl_5 32 rfl rfl), List.mem_of_getElem? (i := 1) rfl, fun _ h => absurd h List.not_mem_nil⟩
theorem cat_L_advance_1 : Cat ML_advance 4 "java/lang/IllegalStateException" 15 := ⟨[(0, 9, 12, 21)], 0, 9, 13, [], hh_L_advance, by decide, by decide, by decide, (wl_5 3 rfl rfl), List.mem_of_getElem? (i := 2) rfl, List.forall_mem_cons.mpr ⟨⟨by decide, _, (wl_5 32 rfl rfl), List.mem_of_getElem? (i := 2) rfl⟩, fun _ h => absurd h List.not_mem_nil⟩⟩
set_option maxHeartbeats 1000000 in
theorem w_advance {w1 : Int32} (h0 : IVo Γ ab mo k0 t E n) (h : OPk Γ ab mo t MX7_advance ["java/lang/IllegalArgumentException", "java/lang/IllegalStateException"] MX8_advance [.int w1] E n) : LW Γ ab mo t cvI ML_advance MX8_advance [.int w1] E n := by
  have hr := h0.rc
  obtain ⟨d7, mc, ms, q1, q2, q3, hc⟩ := h
  refine CtH.of (by decide +kernel) rfl (Nat.le_of_ble_eq_true rfl) ?_
  refine G.sub (lv2 := [(0, _), (1, _), (2, _)]) [0, 1, 2] rfl ?_
  refine G.mono (kc2 := 0 + mc) (ks2 := 0 + ms) (by omega) (by omega) ?_
  refine g_aload_n 2 rfl dL_advance_0 ?_
  refine gn_ic 0 (by decide) dL_advance_1 ?_
  refine g_aload_n 0 rfl dL_advance_2 ?_
  refine g_iload_n 1 rfl dL_advance_3 ?_
  refine gw_VC hc l_L_105 rfl hr (by omega) (Nat.le_of_ble_eq_true rfl) rfl dL_advance_4 (fun y E1 n1 n9 z hn => ?_) (fun v E1 n1 z => ?_)
  · obtain ⟨j, hj, hp⟩ := z
    match j, hj, hp with
    | 0, hj, hp =>
      obtain rfl : "java/lang/IllegalArgumentException" = y := Option.some.inj hj
      refine ⟨12, cat_L_advance_0, fun q => ?_⟩
      refine g_astore_n (lv2 := [(3, _), (0, _), (1, _), (2, _)]) (by decide) rfl dL_advance_12 ?_
      refine gn_ic 1 (by decide) dL_advance_13 ?_
      exact g_iret (LPost.no hp hn (by decide)) rfl rfl dL_advance_14
    | 1, hj, hp =>
      obtain rfl : "java/lang/IllegalStateException" = y := Option.some.inj hj
      refine ⟨15, cat_L_advance_1, fun q => ?_⟩
      refine g_astore_n (lv2 := [(3, _), (0, _), (1, _), (2, _)]) (by decide) rfl dL_advance_15 ?_
      refine gn_ic 2 (by decide) dL_advance_16 ?_
      exact g_iret (LPost.no hp hn (by decide)) rfl rfl dL_advance_17
    | j + 2, hj, hp => exact absurd hj (by simp)
  · obtain ⟨x, rfl, hp⟩ := z
    obtain ⟨⟨g, hg⟩, -⟩ := id hp
    refine g_i2l dL_advance_7 ?_
    refine g_last (N := 1) (f := g) hg (vp_in_nI (by decide) (by decide)) dL_advance_8 ?_
    refine g_goto (tgt := 18) (by decide) dL_advance_9 ?_
    refine gn_ic 0 (by decide) dL_advance_18 ?_
    exact g_iret (LPost.ok hp (Nat.le_refl _) rfl) rfl rfl dL_advance_19
abbrev ML_moveIn : Mr := (RL, yL_moveIn, cL_moveIn, 6, some .int)
theorem hh_L_moveIn : gHH yL_moveIn = [(0, 12, 15, 21), (0, 12, 19, 13)] := by decide +kernel
theorem k_L_moveIn : CdW ML_moveIn ∈ wl := by
  unfold CdW
  rw [show gHH (ML_moveIn : Mr).2.1 = _ from hh_L_moveIn]
  exact (wl_6 65 rfl rfl)
theorem n_L_moveIn : nMH ML_moveIn 5 := ⟨⟨by decide +kernel, by decide +kernel⟩, by decide +kernel, by decide⟩
theorem l_L_315 : LkSH RL 315 ML_moveIn 5 := ⟨(wl_6 63 rfl rfl), (wl_6 64 rfl rfl), (wl_1 0 rfl rfl), k_L_moveIn, n_L_moveIn⟩
theorem cat_L_moveIn_0 : Cat ML_moveIn 7 "java/lang/IllegalArgumentException" 15 := ⟨[], 0, 12, 21, [(0, 12, 19, 13)], hh_L_moveIn, by decide, by decide, by decide, (wl_5 32 rfl rfl), List.mem_of_getElem? (i := 1) rfl, fun _ h => absurd h List.not_mem_nil⟩
theorem cat_L_moveIn_1 : Cat ML_moveIn 7 "java/lang/IllegalStateException" 19 := ⟨[(0, 12, 15, 21)], 0, 12, 13, [], hh_L_moveIn, by decide, by decide, by decide, (wl_5 3 rfl rfl), List.mem_of_getElem? (i := 2) rfl, List.forall_mem_cons.mpr ⟨⟨by decide, _, (wl_5 32 rfl rfl), List.mem_of_getElem? (i := 2) rfl⟩, fun _ h => absurd h List.not_mem_nil⟩⟩
set_option maxHeartbeats 1000000 in
theorem w_moveIn {w1 w2 w3 : Int32} (h0 : IVo Γ ab mo k0 t E n) (h : OPk Γ ab mo t MX7_moveIn ["java/lang/IllegalArgumentException", "java/lang/IllegalStateException"] MX8_moveIn [.int w1, .int w2, .int w3] E n) : LW Γ ab mo t cvI ML_moveIn MX8_moveIn [.int w1, .int w2, .int w3] E n := by
  have hr := h0.rc
  obtain ⟨d7, mc, ms, q1, q2, q3, hc⟩ := h
  refine CtH.of (by decide +kernel) rfl (Nat.le_of_ble_eq_true rfl) ?_
  refine G.sub (lv2 := [(0, _), (1, _), (2, _), (3, _), (4, _)]) [0, 1, 2, 3, 4] rfl ?_
  refine G.mono (kc2 := 0 + mc) (ks2 := 0 + ms) (by omega) (by omega) ?_
  refine g_aload 4 rfl dL_moveIn_0 ?_
  refine gn_ic 0 (by decide) dL_moveIn_2 ?_
  refine g_aload_n 0 rfl dL_moveIn_3 ?_
  refine g_iload_n 1 rfl dL_moveIn_4 ?_
  refine g_iload_n 2 rfl dL_moveIn_5 ?_
  refine g_iload_n 3 rfl dL_moveIn_6 ?_
  refine gw_VC hc l_L_108 rfl hr (by omega) (Nat.le_of_ble_eq_true rfl) rfl dL_moveIn_7 (fun y E1 n1 n9 z hn => ?_) (fun v E1 n1 z => ?_)
  · obtain ⟨j, hj, hp⟩ := z
    match j, hj, hp with
    | 0, hj, hp =>
      obtain rfl : "java/lang/IllegalArgumentException" = y := Option.some.inj hj
      refine ⟨15, cat_L_moveIn_0, fun q => ?_⟩
      refine g_astore (lv2 := [(5, _), (0, _), (1, _), (2, _), (3, _), (4, _)]) (by decide) rfl dL_moveIn_15 ?_
      refine gn_ic 1 (by decide) dL_moveIn_17 ?_
      exact g_iret (LPost.no hp hn (by decide)) rfl rfl dL_moveIn_18
    | 1, hj, hp =>
      obtain rfl : "java/lang/IllegalStateException" = y := Option.some.inj hj
      refine ⟨19, cat_L_moveIn_1, fun q => ?_⟩
      refine g_astore (lv2 := [(5, _), (0, _), (1, _), (2, _), (3, _), (4, _)]) (by decide) rfl dL_moveIn_19 ?_
      refine gn_ic 2 (by decide) dL_moveIn_21 ?_
      exact g_iret (LPost.no hp hn (by decide)) rfl rfl dL_moveIn_22
    | j + 2, hj, hp => exact absurd hj (by simp)
  · obtain ⟨x, rfl, hp⟩ := z
    obtain ⟨⟨g, hg⟩, -⟩ := id hp
    refine g_i2l dL_moveIn_10 ?_
    refine g_last (N := 1) (f := g) hg (vp_in_nI (by decide) (by decide)) dL_moveIn_11 ?_
    refine g_goto (tgt := 23) (by decide) dL_moveIn_12 ?_
    refine gn_ic 0 (by decide) dL_moveIn_23 ?_
    exact g_iret (LPost.ok hp (Nat.le_refl _) rfl) rfl rfl dL_moveIn_24
abbrev ML_moveOut : Mr := (RL, yL_moveOut, cL_moveOut, 4, some .int)
theorem hh_L_moveOut : gHH yL_moveOut = [(0, 9, 12, 19)] := by decide +kernel
theorem k_L_moveOut : CdW ML_moveOut ∈ wl := by
  unfold CdW
  rw [show gHH (ML_moveOut : Mr).2.1 = _ from hh_L_moveOut]
  exact (wl_6 117 rfl rfl)
theorem n_L_moveOut : nMH ML_moveOut 3 := ⟨⟨by decide +kernel, by decide +kernel⟩, by decide +kernel, by decide⟩
theorem l_L_319 : LkSH RL 319 ML_moveOut 3 := ⟨(wl_6 115 rfl rfl), (wl_6 116 rfl rfl), (wl_1 0 rfl rfl), k_L_moveOut, n_L_moveOut⟩
theorem cat_L_moveOut_0 : Cat ML_moveOut 4 "java/lang/IndexOutOfBoundsException" 12 := ⟨[], 0, 9, 19, [], hh_L_moveOut, by decide, by decide, by decide, (wl_5 31 rfl rfl), List.mem_of_getElem? (i := 0) rfl, fun _ h => absurd h List.not_mem_nil⟩
set_option maxHeartbeats 1000000 in
theorem w_moveOut {w1 : Int32} (h0 : IVo Γ ab mo k0 t E n) (h : OPk Γ ab mo t MX7_moveOut ["java/lang/IndexOutOfBoundsException"] MX8_moveOut [.int w1] E n) : LW Γ ab mo t cvI ML_moveOut MX8_moveOut [.int w1] E n := by
  have hr := h0.rc
  obtain ⟨d7, mc, ms, q1, q2, q3, hc⟩ := h
  refine CtH.of (by decide +kernel) rfl (Nat.le_of_ble_eq_true rfl) ?_
  refine G.sub (lv2 := [(0, _), (1, _), (2, _)]) [0, 1, 2] rfl ?_
  refine G.mono (kc2 := 0 + mc) (ks2 := 0 + ms) (by omega) (by omega) ?_
  refine g_aload_n 2 rfl dL_moveOut_0 ?_
  refine gn_ic 0 (by decide) dL_moveOut_1 ?_
  refine g_aload_n 0 rfl dL_moveOut_2 ?_
  refine g_iload_n 1 rfl dL_moveOut_3 ?_
  refine gw_VC hc l_L_112 rfl hr (by omega) (Nat.le_of_ble_eq_true rfl) rfl dL_moveOut_4 (fun y E1 n1 n9 z hn => ?_) (fun v E1 n1 z => ?_)
  · obtain ⟨j, hj, hp⟩ := z
    match j, hj, hp with
    | 0, hj, hp =>
      obtain rfl : "java/lang/IndexOutOfBoundsException" = y := Option.some.inj hj
      refine ⟨12, cat_L_moveOut_0, fun q => ?_⟩
      refine g_astore_n (lv2 := [(3, _), (0, _), (1, _), (2, _)]) (by decide) rfl dL_moveOut_12 ?_
      refine gn_ic 1 (by decide) dL_moveOut_13 ?_
      exact g_iret (LPost.no hp hn (by decide)) rfl rfl dL_moveOut_14
    | j + 1, hj, hp => exact absurd hj (by simp)
  · obtain ⟨x, rfl, hp⟩ := z
    obtain ⟨⟨g, hg⟩, -⟩ := id hp
    refine g_i2l dL_moveOut_7 ?_
    refine g_last (N := 1) (f := g) hg (vp_in_nI (by decide) (by decide)) dL_moveOut_8 ?_
    refine g_goto (tgt := 15) (by decide) dL_moveOut_9 ?_
    refine gn_ic 0 (by decide) dL_moveOut_15 ?_
    exact g_iret (LPost.ok hp (Nat.le_refl _) rfl) rfl rfl dL_moveOut_16
abbrev ML_moveTo : Mr := (RL, yL_moveTo, cL_moveTo, 5, some .int)
theorem hh_L_moveTo : gHH yL_moveTo = [(0, 10, 13, 19), (0, 10, 17, 21), (0, 10, 21, 13)] := by decide +kernel
theorem k_L_moveTo : CdW ML_moveTo ∈ wl := by
  unfold CdW
  rw [show gHH (ML_moveTo : Mr).2.1 = _ from hh_L_moveTo]
  exact (wl_6 125 rfl rfl)
theorem n_L_moveTo : nMH ML_moveTo 4 := ⟨⟨by decide +kernel, by decide +kernel⟩, by decide +kernel, by decide⟩
theorem l_L_322 : LkSH RL 322 ML_moveTo 4 := ⟨(wl_6 123 rfl rfl), (wl_6 124 rfl rfl), (wl_1 0 rfl rfl), k_L_moveTo, n_L_moveTo⟩
theorem cat_L_moveTo_0 : Cat ML_moveTo 5 "java/lang/IndexOutOfBoundsException" 13 := ⟨[], 0, 10, 19, [(0, 10, 17, 21), (0, 10, 21, 13)], hh_L_moveTo, by decide, by decide, by decide, (wl_5 31 rfl rfl), List.mem_of_getElem? (i := 0) rfl, fun _ h => absurd h List.not_mem_nil⟩
theorem cat_L_moveTo_1 : Cat ML_moveTo 5 "java/lang/IllegalArgumentException" 17 := ⟨[(0, 10, 13, 19)], 0, 10, 21, [(0, 10, 21, 13)], hh_L_moveTo, by decide, by decide, by decide, (wl_5 32 rfl rfl), List.mem_of_getElem? (i := 1) rfl, List.forall_mem_cons.mpr ⟨⟨by decide, _, (wl_5 31 rfl rfl), List.mem_of_getElem? (i := 0) rfl⟩, fun _ h => absurd h List.not_mem_nil⟩⟩
theorem cat_L_moveTo_2 : Cat ML_moveTo 5 "java/lang/IllegalStateException" 21 := ⟨[(0, 10, 13, 19), (0, 10, 17, 21)], 0, 10, 13, [], hh_L_moveTo, by decide, by decide, by decide, (wl_5 3 rfl rfl), List.mem_of_getElem? (i := 2) rfl, List.forall_mem_cons.mpr ⟨⟨by decide, _, (wl_5 31 rfl rfl), List.mem_of_getElem? (i := 1) rfl⟩, List.forall_mem_cons.mpr ⟨⟨by decide, _, (wl_5 32 rfl rfl), List.mem_of_getElem? (i := 2) rfl⟩, fun _ h => absurd h List.not_mem_nil⟩⟩⟩
set_option maxHeartbeats 1000000 in
theorem w_moveTo {w1 w2 : Int32} (h0 : IVo Γ ab mo k0 t E n) (h : OPk Γ ab mo t MX7_moveTo ["java/lang/IndexOutOfBoundsException", "java/lang/IllegalArgumentException", "java/lang/IllegalStateException"] MX8_moveTo [.int w1, .int w2] E n) : LW Γ ab mo t cvI ML_moveTo MX8_moveTo [.int w1, .int w2] E n := by
  have hr := h0.rc
  obtain ⟨d7, mc, ms, q1, q2, q3, hc⟩ := h
  refine CtH.of (by decide +kernel) rfl (Nat.le_of_ble_eq_true rfl) ?_
  refine G.sub (lv2 := [(0, _), (1, _), (2, _), (3, _)]) [0, 1, 2, 3] rfl ?_
  refine G.mono (kc2 := 0 + mc) (ks2 := 0 + ms) (by omega) (by omega) ?_
  refine g_aload_n 3 rfl dL_moveTo_0 ?_
  refine gn_ic 0 (by decide) dL_moveTo_1 ?_
  refine g_aload_n 0 rfl dL_moveTo_2 ?_
  refine g_iload_n 1 rfl dL_moveTo_3 ?_
  refine g_iload_n 2 rfl dL_moveTo_4 ?_
  refine gw_VC hc l_L_115 rfl hr (by omega) (Nat.le_of_ble_eq_true rfl) rfl dL_moveTo_5 (fun y E1 n1 n9 z hn => ?_) (fun v E1 n1 z => ?_)
  · obtain ⟨j, hj, hp⟩ := z
    match j, hj, hp with
    | 0, hj, hp =>
      obtain rfl : "java/lang/IndexOutOfBoundsException" = y := Option.some.inj hj
      refine ⟨13, cat_L_moveTo_0, fun q => ?_⟩
      refine g_astore (lv2 := [(4, _), (0, _), (1, _), (2, _), (3, _)]) (by decide) rfl dL_moveTo_13 ?_
      refine gn_ic 1 (by decide) dL_moveTo_15 ?_
      exact g_iret (LPost.no hp hn (by decide)) rfl rfl dL_moveTo_16
    | 1, hj, hp =>
      obtain rfl : "java/lang/IllegalArgumentException" = y := Option.some.inj hj
      refine ⟨17, cat_L_moveTo_1, fun q => ?_⟩
      refine g_astore (lv2 := [(4, _), (0, _), (1, _), (2, _), (3, _)]) (by decide) rfl dL_moveTo_17 ?_
      refine gn_ic 2 (by decide) dL_moveTo_19 ?_
      exact g_iret (LPost.no hp hn (by decide)) rfl rfl dL_moveTo_20
    | 2, hj, hp =>
      obtain rfl : "java/lang/IllegalStateException" = y := Option.some.inj hj
      refine ⟨21, cat_L_moveTo_2, fun q => ?_⟩
      refine g_astore (lv2 := [(4, _), (0, _), (1, _), (2, _), (3, _)]) (by decide) rfl dL_moveTo_21 ?_
      refine gn_ic 3 (by decide) dL_moveTo_23 ?_
      exact g_iret (LPost.no hp hn (by decide)) rfl rfl dL_moveTo_24
    | j + 3, hj, hp => exact absurd hj (by simp)
  · obtain ⟨x, rfl, hp⟩ := z
    obtain ⟨⟨g, hg⟩, -⟩ := id hp
    refine g_i2l dL_moveTo_8 ?_
    refine g_last (N := 1) (f := g) hg (vp_in_nI (by decide) (by decide)) dL_moveTo_9 ?_
    refine g_goto (tgt := 25) (by decide) dL_moveTo_10 ?_
    refine gn_ic 0 (by decide) dL_moveTo_25 ?_
    exact g_iret (LPost.ok hp (Nat.le_refl _) rfl) rfl rfl dL_moveTo_26
abbrev ML_pay : Mr := (RL, yL_pay, cL_pay, 5, some .int)
theorem hh_L_pay : gHH yL_pay = [(0, 10, 13, 19), (0, 10, 17, 21)] := by decide +kernel
theorem k_L_pay : CdW ML_pay ∈ wl := by
  unfold CdW
  rw [show gHH (ML_pay : Mr).2.1 = _ from hh_L_pay]
  exact (wl_6 132 rfl rfl)
theorem n_L_pay : nMH ML_pay 4 := ⟨⟨by decide +kernel, by decide +kernel⟩, by decide +kernel, by decide⟩
theorem l_L_325 : LkSH RL 325 ML_pay 4 := ⟨(wl_6 130 rfl rfl), (wl_6 131 rfl rfl), (wl_1 0 rfl rfl), k_L_pay, n_L_pay⟩
theorem cat_L_pay_0 : Cat ML_pay 5 "java/lang/IndexOutOfBoundsException" 13 := ⟨[], 0, 10, 19, [(0, 10, 17, 21)], hh_L_pay, by decide, by decide, by decide, (wl_5 31 rfl rfl), List.mem_of_getElem? (i := 0) rfl, fun _ h => absurd h List.not_mem_nil⟩
theorem cat_L_pay_1 : Cat ML_pay 5 "java/lang/IllegalArgumentException" 17 := ⟨[(0, 10, 13, 19)], 0, 10, 21, [], hh_L_pay, by decide, by decide, by decide, (wl_5 32 rfl rfl), List.mem_of_getElem? (i := 1) rfl, List.forall_mem_cons.mpr ⟨⟨by decide, _, (wl_5 31 rfl rfl), List.mem_of_getElem? (i := 0) rfl⟩, fun _ h => absurd h List.not_mem_nil⟩⟩
set_option maxHeartbeats 1000000 in
theorem w_pay {w1 w2 : Int32} (h0 : IVo Γ ab mo k0 t E n) (h : OPk Γ ab mo t MX7_pay ["java/lang/IndexOutOfBoundsException", "java/lang/IllegalArgumentException"] MX8_pay [.int w1, .int w2] E n) : LW Γ ab mo t cvI ML_pay MX8_pay [.int w1, .int w2] E n := by
  have hr := h0.rc
  obtain ⟨d7, mc, ms, q1, q2, q3, hc⟩ := h
  refine CtH.of (by decide +kernel) rfl (Nat.le_of_ble_eq_true rfl) ?_
  refine G.sub (lv2 := [(0, _), (1, _), (2, _), (3, _)]) [0, 1, 2, 3] rfl ?_
  refine G.mono (kc2 := 0 + mc) (ks2 := 0 + ms) (by omega) (by omega) ?_
  refine g_aload_n 3 rfl dL_pay_0 ?_
  refine gn_ic 0 (by decide) dL_pay_1 ?_
  refine g_aload_n 0 rfl dL_pay_2 ?_
  refine g_iload_n 1 rfl dL_pay_3 ?_
  refine g_iload_n 2 rfl dL_pay_4 ?_
  refine gw_VC hc l_L_118 rfl hr (by omega) (Nat.le_of_ble_eq_true rfl) rfl dL_pay_5 (fun y E1 n1 n9 z hn => ?_) (fun v E1 n1 z => ?_)
  · obtain ⟨j, hj, hp⟩ := z
    match j, hj, hp with
    | 0, hj, hp =>
      obtain rfl : "java/lang/IndexOutOfBoundsException" = y := Option.some.inj hj
      refine ⟨13, cat_L_pay_0, fun q => ?_⟩
      refine g_astore (lv2 := [(4, _), (0, _), (1, _), (2, _), (3, _)]) (by decide) rfl dL_pay_13 ?_
      refine gn_ic 1 (by decide) dL_pay_15 ?_
      exact g_iret (LPost.no hp hn (by decide)) rfl rfl dL_pay_16
    | 1, hj, hp =>
      obtain rfl : "java/lang/IllegalArgumentException" = y := Option.some.inj hj
      refine ⟨17, cat_L_pay_1, fun q => ?_⟩
      refine g_astore (lv2 := [(4, _), (0, _), (1, _), (2, _), (3, _)]) (by decide) rfl dL_pay_17 ?_
      refine gn_ic 2 (by decide) dL_pay_19 ?_
      exact g_iret (LPost.no hp hn (by decide)) rfl rfl dL_pay_20
    | j + 2, hj, hp => exact absurd hj (by simp)
  · obtain ⟨x, rfl, hp⟩ := z
    obtain ⟨⟨g, hg⟩, -⟩ := id hp
    refine g_i2l dL_pay_8 ?_
    refine g_last (N := 1) (f := g) hg (vp_in_nI (by decide) (by decide)) dL_pay_9 ?_
    refine g_goto (tgt := 21) (by decide) dL_pay_10 ?_
    refine gn_ic 0 (by decide) dL_pay_21 ?_
    exact g_iret (LPost.ok hp (Nat.le_refl _) rfl) rfl rfl dL_pay_22
abbrev ML_setLandladyVowel : Mr := (RL, yL_setLandladyVowel, cL_setLandladyVowel, 5, some .int)
theorem hh_L_setLandladyVowel : gHH yL_setLandladyVowel = [(0, 10, 13, 19), (0, 10, 17, 21)] := by decide +kernel
theorem k_L_setLandladyVowel : CdW ML_setLandladyVowel ∈ wl := by
  unfold CdW
  rw [show gHH (ML_setLandladyVowel : Mr).2.1 = _ from hh_L_setLandladyVowel]
  exact (wl_6 140 rfl rfl)
theorem n_L_setLandladyVowel : nMH ML_setLandladyVowel 4 := ⟨⟨by decide +kernel, by decide +kernel⟩, by decide +kernel, by decide⟩
theorem l_L_328 : LkSH RL 328 ML_setLandladyVowel 4 := ⟨(wl_6 138 rfl rfl), (wl_6 139 rfl rfl), (wl_1 0 rfl rfl), k_L_setLandladyVowel, n_L_setLandladyVowel⟩
theorem cat_L_setLandladyVowel_0 : Cat ML_setLandladyVowel 5 "java/lang/IndexOutOfBoundsException" 13 := ⟨[], 0, 10, 19, [(0, 10, 17, 21)], hh_L_setLandladyVowel, by decide, by decide, by decide, (wl_5 31 rfl rfl), List.mem_of_getElem? (i := 0) rfl, fun _ h => absurd h List.not_mem_nil⟩
theorem cat_L_setLandladyVowel_1 : Cat ML_setLandladyVowel 5 "java/lang/IllegalArgumentException" 17 := ⟨[(0, 10, 13, 19)], 0, 10, 21, [], hh_L_setLandladyVowel, by decide, by decide, by decide, (wl_5 32 rfl rfl), List.mem_of_getElem? (i := 1) rfl, List.forall_mem_cons.mpr ⟨⟨by decide, _, (wl_5 31 rfl rfl), List.mem_of_getElem? (i := 0) rfl⟩, fun _ h => absurd h List.not_mem_nil⟩⟩
set_option maxHeartbeats 1000000 in
theorem w_setLandladyVowel {w1 w2 : Int32} (h0 : IVo Γ ab mo k0 t E n) (h : OPk Γ ab mo t MX7_setLandladyVowel ["java/lang/IndexOutOfBoundsException", "java/lang/IllegalArgumentException"] MX8_setLandladyVowel [.int w1, .int w2] E n) : LW Γ ab mo t cvI ML_setLandladyVowel MX8_setLandladyVowel [.int w1, .int w2] E n := by
  have hr := h0.rc
  obtain ⟨d7, mc, ms, q1, q2, q3, hc⟩ := h
  refine CtH.of (by decide +kernel) rfl (Nat.le_of_ble_eq_true rfl) ?_
  refine G.sub (lv2 := [(0, _), (1, _), (2, _), (3, _)]) [0, 1, 2, 3] rfl ?_
  refine G.mono (kc2 := 0 + mc) (ks2 := 0 + ms) (by omega) (by omega) ?_
  refine g_aload_n 3 rfl dL_setLandladyVowel_0 ?_
  refine gn_ic 0 (by decide) dL_setLandladyVowel_1 ?_
  refine g_aload_n 0 rfl dL_setLandladyVowel_2 ?_
  refine g_iload_n 1 rfl dL_setLandladyVowel_3 ?_
  refine g_iload_n 2 rfl dL_setLandladyVowel_4 ?_
  refine gw_VC hc l_L_121 rfl hr (by omega) (Nat.le_of_ble_eq_true rfl) rfl dL_setLandladyVowel_5 (fun y E1 n1 n9 z hn => ?_) (fun v E1 n1 z => ?_)
  · obtain ⟨j, hj, hp⟩ := z
    match j, hj, hp with
    | 0, hj, hp =>
      obtain rfl : "java/lang/IndexOutOfBoundsException" = y := Option.some.inj hj
      refine ⟨13, cat_L_setLandladyVowel_0, fun q => ?_⟩
      refine g_astore (lv2 := [(4, _), (0, _), (1, _), (2, _), (3, _)]) (by decide) rfl dL_setLandladyVowel_13 ?_
      refine gn_ic 1 (by decide) dL_setLandladyVowel_15 ?_
      exact g_iret (LPost.no hp hn (by decide)) rfl rfl dL_setLandladyVowel_16
    | 1, hj, hp =>
      obtain rfl : "java/lang/IllegalArgumentException" = y := Option.some.inj hj
      refine ⟨17, cat_L_setLandladyVowel_1, fun q => ?_⟩
      refine g_astore (lv2 := [(4, _), (0, _), (1, _), (2, _), (3, _)]) (by decide) rfl dL_setLandladyVowel_17 ?_
      refine gn_ic 2 (by decide) dL_setLandladyVowel_19 ?_
      exact g_iret (LPost.no hp hn (by decide)) rfl rfl dL_setLandladyVowel_20
    | j + 2, hj, hp => exact absurd hj (by simp)
  · obtain ⟨x, rfl, hp⟩ := z
    obtain ⟨⟨g, hg⟩, -⟩ := id hp
    refine g_i2l dL_setLandladyVowel_8 ?_
    refine g_last (N := 1) (f := g) hg (vp_in_nI (by decide) (by decide)) dL_setLandladyVowel_9 ?_
    refine g_goto (tgt := 21) (by decide) dL_setLandladyVowel_10 ?_
    refine gn_ic 0 (by decide) dL_setLandladyVowel_21 ?_
    exact g_iret (LPost.ok hp (Nat.le_refl _) rfl) rfl rfl dL_setLandladyVowel_22
abbrev ML_setTolerance : Mr := (RL, yL_setTolerance, cL_setTolerance, 4, some .int)
theorem hh_L_setTolerance : gHH yL_setTolerance = [(0, 9, 12, 21)] := by decide +kernel
theorem k_L_setTolerance : CdW ML_setTolerance ∈ wl := by
  unfold CdW
  rw [show gHH (ML_setTolerance : Mr).2.1 = _ from hh_L_setTolerance]
  exact (wl_6 147 rfl rfl)
theorem n_L_setTolerance : nMH ML_setTolerance 3 := ⟨⟨by decide +kernel, by decide +kernel⟩, by decide +kernel, by decide⟩
theorem l_L_331 : LkSH RL 331 ML_setTolerance 3 := ⟨(wl_6 145 rfl rfl), (wl_6 146 rfl rfl), (wl_1 0 rfl rfl), k_L_setTolerance, n_L_setTolerance⟩
theorem cat_L_setTolerance_0 : Cat ML_setTolerance 4 "java/lang/IllegalArgumentException" 12 := ⟨[], 0, 9, 21, [], hh_L_setTolerance, by decide, by decide, by decide, (wl_5 32 rfl rfl), List.mem_of_getElem? (i := 1) rfl, fun _ h => absurd h List.not_mem_nil⟩
set_option maxHeartbeats 1000000 in
theorem w_setTolerance {w1 : Int32} (h0 : IVo Γ ab mo k0 t E n) (h : OPk Γ ab mo t MX7_setTolerance ["java/lang/IllegalArgumentException"] MX8_setTolerance [.int w1] E n) : LW Γ ab mo t cvI ML_setTolerance MX8_setTolerance [.int w1] E n := by
  have hr := h0.rc
  obtain ⟨d7, mc, ms, q1, q2, q3, hc⟩ := h
  refine CtH.of (by decide +kernel) rfl (Nat.le_of_ble_eq_true rfl) ?_
  refine G.sub (lv2 := [(0, _), (1, _), (2, _)]) [0, 1, 2] rfl ?_
  refine G.mono (kc2 := 0 + mc) (ks2 := 0 + ms) (by omega) (by omega) ?_
  refine g_aload_n 2 rfl dL_setTolerance_0 ?_
  refine gn_ic 0 (by decide) dL_setTolerance_1 ?_
  refine g_aload_n 0 rfl dL_setTolerance_2 ?_
  refine g_iload_n 1 rfl dL_setTolerance_3 ?_
  refine gw_VC hc l_L_124 rfl hr (by omega) (Nat.le_of_ble_eq_true rfl) rfl dL_setTolerance_4 (fun y E1 n1 n9 z hn => ?_) (fun v E1 n1 z => ?_)
  · obtain ⟨j, hj, hp⟩ := z
    match j, hj, hp with
    | 0, hj, hp =>
      obtain rfl : "java/lang/IllegalArgumentException" = y := Option.some.inj hj
      refine ⟨12, cat_L_setTolerance_0, fun q => ?_⟩
      refine g_astore_n (lv2 := [(3, _), (0, _), (1, _), (2, _)]) (by decide) rfl dL_setTolerance_12 ?_
      refine gn_ic 1 (by decide) dL_setTolerance_13 ?_
      exact g_iret (LPost.no hp hn (by decide)) rfl rfl dL_setTolerance_14
    | j + 1, hj, hp => exact absurd hj (by simp)
  · obtain ⟨x, rfl, hp⟩ := z
    obtain ⟨⟨g, hg⟩, -⟩ := id hp
    refine g_i2l dL_setTolerance_7 ?_
    refine g_last (N := 1) (f := g) hg (vp_in_nI (by decide) (by decide)) dL_setTolerance_8 ?_
    refine g_goto (tgt := 15) (by decide) dL_setTolerance_9 ?_
    refine gn_ic 0 (by decide) dL_setTolerance_15 ?_
    exact g_iret (LPost.ok hp (Nat.le_refl _) rfl) rfl rfl dL_setTolerance_16
abbrev ML_setBaseRent : Mr := (RL, yL_setBaseRent, cL_setBaseRent, 4, some .int)
theorem hh_L_setBaseRent : gHH yL_setBaseRent = [(0, 9, 12, 21)] := by decide +kernel
theorem k_L_setBaseRent : CdW ML_setBaseRent ∈ wl := by
  unfold CdW
  rw [show gHH (ML_setBaseRent : Mr).2.1 = _ from hh_L_setBaseRent]
  exact (wl_6 154 rfl rfl)
theorem n_L_setBaseRent : nMH ML_setBaseRent 3 := ⟨⟨by decide +kernel, by decide +kernel⟩, by decide +kernel, by decide⟩
theorem l_L_334 : LkSH RL 334 ML_setBaseRent 3 := ⟨(wl_6 152 rfl rfl), (wl_6 153 rfl rfl), (wl_1 0 rfl rfl), k_L_setBaseRent, n_L_setBaseRent⟩
theorem cat_L_setBaseRent_0 : Cat ML_setBaseRent 4 "java/lang/IllegalArgumentException" 12 := ⟨[], 0, 9, 21, [], hh_L_setBaseRent, by decide, by decide, by decide, (wl_5 32 rfl rfl), List.mem_of_getElem? (i := 1) rfl, fun _ h => absurd h List.not_mem_nil⟩
set_option maxHeartbeats 1000000 in
theorem w_setBaseRent {w1 : Int32} (h0 : IVo Γ ab mo k0 t E n) (h : OPk Γ ab mo t MX7_setBaseRent ["java/lang/IllegalArgumentException"] MX8_setBaseRent [.int w1] E n) : LW Γ ab mo t cvI ML_setBaseRent MX8_setBaseRent [.int w1] E n := by
  have hr := h0.rc
  obtain ⟨d7, mc, ms, q1, q2, q3, hc⟩ := h
  refine CtH.of (by decide +kernel) rfl (Nat.le_of_ble_eq_true rfl) ?_
  refine G.sub (lv2 := [(0, _), (1, _), (2, _)]) [0, 1, 2] rfl ?_
  refine G.mono (kc2 := 0 + mc) (ks2 := 0 + ms) (by omega) (by omega) ?_
  refine g_aload_n 2 rfl dL_setBaseRent_0 ?_
  refine gn_ic 0 (by decide) dL_setBaseRent_1 ?_
  refine g_aload_n 0 rfl dL_setBaseRent_2 ?_
  refine g_iload_n 1 rfl dL_setBaseRent_3 ?_
  refine gw_VC hc l_L_127 rfl hr (by omega) (Nat.le_of_ble_eq_true rfl) rfl dL_setBaseRent_4 (fun y E1 n1 n9 z hn => ?_) (fun v E1 n1 z => ?_)
  · obtain ⟨j, hj, hp⟩ := z
    match j, hj, hp with
    | 0, hj, hp =>
      obtain rfl : "java/lang/IllegalArgumentException" = y := Option.some.inj hj
      refine ⟨12, cat_L_setBaseRent_0, fun q => ?_⟩
      refine g_astore_n (lv2 := [(3, _), (0, _), (1, _), (2, _)]) (by decide) rfl dL_setBaseRent_12 ?_
      refine gn_ic 1 (by decide) dL_setBaseRent_13 ?_
      exact g_iret (LPost.no hp hn (by decide)) rfl rfl dL_setBaseRent_14
    | j + 1, hj, hp => exact absurd hj (by simp)
  · obtain ⟨x, rfl, hp⟩ := z
    obtain ⟨⟨g, hg⟩, -⟩ := id hp
    refine g_i2l dL_setBaseRent_7 ?_
    refine g_last (N := 1) (f := g) hg (vp_in_nI (by decide) (by decide)) dL_setBaseRent_8 ?_
    refine g_goto (tgt := 15) (by decide) dL_setBaseRent_9 ?_
    refine gn_ic 0 (by decide) dL_setBaseRent_15 ?_
    exact g_iret (LPost.ok hp (Nat.le_refl _) rfl) rfl rfl dL_setBaseRent_16
abbrev ML_restore : Mr := (RL, yL_restore, cL_restore, 4, some .int)
theorem hh_L_restore : gHH yL_restore = [(0, 9, 12, 19), (0, 9, 15, 13)] := by decide +kernel
theorem k_L_restore : CdW ML_restore ∈ wl := by
  unfold CdW
  rw [show gHH (ML_restore : Mr).2.1 = _ from hh_L_restore]
  exact (wl_6 161 rfl rfl)
theorem n_L_restore : nMH ML_restore 3 := ⟨⟨by decide +kernel, by decide +kernel⟩, by decide +kernel, by decide⟩
theorem l_L_337 : LkSH RL 337 ML_restore 3 := ⟨(wl_6 159 rfl rfl), (wl_6 160 rfl rfl), (wl_1 0 rfl rfl), k_L_restore, n_L_restore⟩
theorem cat_L_restore_0 : Cat ML_restore 4 "java/lang/IndexOutOfBoundsException" 12 := ⟨[], 0, 9, 19, [(0, 9, 15, 13)], hh_L_restore, by decide, by decide, by decide, (wl_5 31 rfl rfl), List.mem_of_getElem? (i := 0) rfl, fun _ h => absurd h List.not_mem_nil⟩
theorem cat_L_restore_1 : Cat ML_restore 4 "java/lang/IllegalStateException" 15 := ⟨[(0, 9, 12, 19)], 0, 9, 13, [], hh_L_restore, by decide, by decide, by decide, (wl_5 3 rfl rfl), List.mem_of_getElem? (i := 2) rfl, List.forall_mem_cons.mpr ⟨⟨by decide, _, (wl_5 31 rfl rfl), List.mem_of_getElem? (i := 1) rfl⟩, fun _ h => absurd h List.not_mem_nil⟩⟩
set_option maxHeartbeats 1000000 in
theorem w_restore {w1 : Int32} (h0 : IVo Γ ab mo k0 t E n) (h : OPk Γ ab mo t MX7_restore ["java/lang/IndexOutOfBoundsException", "java/lang/IllegalStateException"] MX8_restore [.int w1] E n) : LW Γ ab mo t cvI ML_restore MX8_restore [.int w1] E n := by
  have hr := h0.rc
  obtain ⟨d7, mc, ms, q1, q2, q3, hc⟩ := h
  refine CtH.of (by decide +kernel) rfl (Nat.le_of_ble_eq_true rfl) ?_
  refine G.sub (lv2 := [(0, _), (1, _), (2, _)]) [0, 1, 2] rfl ?_
  refine G.mono (kc2 := 0 + mc) (ks2 := 0 + ms) (by omega) (by omega) ?_
  refine g_aload_n 2 rfl dL_restore_0 ?_
  refine gn_ic 0 (by decide) dL_restore_1 ?_
  refine g_aload_n 0 rfl dL_restore_2 ?_
  refine g_iload_n 1 rfl dL_restore_3 ?_
  refine gw_VC hc l_L_130 rfl hr (by omega) (Nat.le_of_ble_eq_true rfl) rfl dL_restore_4 (fun y E1 n1 n9 z hn => ?_) (fun v E1 n1 z => ?_)
  · obtain ⟨j, hj, hp⟩ := z
    match j, hj, hp with
    | 0, hj, hp =>
      obtain rfl : "java/lang/IndexOutOfBoundsException" = y := Option.some.inj hj
      refine ⟨12, cat_L_restore_0, fun q => ?_⟩
      refine g_astore_n (lv2 := [(3, _), (0, _), (1, _), (2, _)]) (by decide) rfl dL_restore_12 ?_
      refine gn_ic 1 (by decide) dL_restore_13 ?_
      exact g_iret (LPost.no hp hn (by decide)) rfl rfl dL_restore_14
    | 1, hj, hp =>
      obtain rfl : "java/lang/IllegalStateException" = y := Option.some.inj hj
      refine ⟨15, cat_L_restore_1, fun q => ?_⟩
      refine g_astore_n (lv2 := [(3, _), (0, _), (1, _), (2, _)]) (by decide) rfl dL_restore_15 ?_
      refine gn_ic 2 (by decide) dL_restore_16 ?_
      exact g_iret (LPost.no hp hn (by decide)) rfl rfl dL_restore_17
    | j + 2, hj, hp => exact absurd hj (by simp)
  · obtain ⟨x, rfl, hp⟩ := z
    obtain ⟨⟨g, hg⟩, -⟩ := id hp
    refine g_i2l dL_restore_7 ?_
    refine g_last (N := 1) (f := g) hg (vp_in_nI (by decide) (by decide)) dL_restore_8 ?_
    refine g_goto (tgt := 18) (by decide) dL_restore_9 ?_
    refine gn_ic 0 (by decide) dL_restore_18 ?_
    exact g_iret (LPost.ok hp (Nat.le_refl _) rfl) rfl rfl dL_restore_19
abbrev ML_undo : Mr := (RL, yL_undo, cL_undo, 3, some .int)
theorem hh_L_undo : gHH yL_undo = [(0, 8, 11, 13)] := by decide +kernel
theorem k_L_undo : CdW ML_undo ∈ wl := by
  unfold CdW
  rw [show gHH (ML_undo : Mr).2.1 = _ from hh_L_undo]
  exact (wl_6 174 rfl rfl)
theorem n_L_undo : nMH ML_undo 2 := ⟨⟨by decide +kernel, by decide +kernel⟩, by decide +kernel, by decide⟩
theorem l_L_340 : LkSH RL 340 ML_undo 2 := ⟨(wl_6 172 rfl rfl), (wl_6 173 rfl rfl), (wl_1 0 rfl rfl), k_L_undo, n_L_undo⟩
theorem cat_L_undo_0 : Cat ML_undo 3 "java/lang/IllegalStateException" 11 := ⟨[], 0, 8, 13, [], hh_L_undo, by decide, by decide, by decide, (wl_5 3 rfl rfl), List.mem_of_getElem? (i := 2) rfl, fun _ h => absurd h List.not_mem_nil⟩
set_option maxHeartbeats 1000000 in
theorem w_undo (h0 : IVo Γ ab mo k0 t E n) (h : OPk Γ ab mo t MX7_undo ["java/lang/IllegalStateException"] MX8_undo [] E n) : LW Γ ab mo t cvI ML_undo MX8_undo [] E n := by
  have hr := h0.rc
  obtain ⟨d7, mc, ms, q1, q2, q3, hc⟩ := h
  refine CtH.of (by decide +kernel) rfl (Nat.le_of_ble_eq_true rfl) ?_
  refine G.sub (lv2 := [(0, _), (1, _)]) [0, 1] rfl ?_
  refine G.mono (kc2 := 0 + mc) (ks2 := 0 + ms) (by omega) (by omega) ?_
  refine g_aload_n 1 rfl dL_undo_0 ?_
  refine gn_ic 0 (by decide) dL_undo_1 ?_
  refine g_aload_n 0 rfl dL_undo_2 ?_
  refine gw_VC hc l_L_133 rfl hr (by omega) (Nat.le_of_ble_eq_true rfl) rfl dL_undo_3 (fun y E1 n1 n9 z hn => ?_) (fun v E1 n1 z => ?_)
  · obtain ⟨j, hj, hp⟩ := z
    match j, hj, hp with
    | 0, hj, hp =>
      obtain rfl : "java/lang/IllegalStateException" = y := Option.some.inj hj
      refine ⟨11, cat_L_undo_0, fun q => ?_⟩
      refine g_astore_n (lv2 := [(2, _), (0, _), (1, _)]) (by decide) rfl dL_undo_11 ?_
      refine gn_ic 1 (by decide) dL_undo_12 ?_
      exact g_iret (LPost.no hp hn (by decide)) rfl rfl dL_undo_13
    | j + 1, hj, hp => exact absurd hj (by simp)
  · obtain ⟨x, rfl, hp⟩ := z
    obtain ⟨⟨g, hg⟩, -⟩ := id hp
    refine g_i2l dL_undo_6 ?_
    refine g_last (N := 1) (f := g) hg (vp_in_nI (by decide) (by decide)) dL_undo_7 ?_
    refine g_goto (tgt := 14) (by decide) dL_undo_8 ?_
    refine gn_ic 0 (by decide) dL_undo_14 ?_
    exact g_iret (LPost.ok hp (Nat.le_refl _) rfl) rfl rfl dL_undo_15
abbrev ML_save : Mr := (RL, yL_save, cL_save, 4, some .int)
theorem hh_L_save : gHH yL_save = [(0, 9, 12, 19)] := by decide +kernel
theorem k_L_save : CdW ML_save ∈ wl := by
  unfold CdW
  rw [show gHH (ML_save : Mr).2.1 = _ from hh_L_save]
  exact (wl_6 186 rfl rfl)
theorem n_L_save : nMH ML_save 3 := ⟨⟨by decide +kernel, by decide +kernel⟩, by decide +kernel, by decide⟩
theorem l_L_344 : LkSH RL 344 ML_save 3 := ⟨(wl_6 184 rfl rfl), (wl_6 185 rfl rfl), (wl_1 0 rfl rfl), k_L_save, n_L_save⟩
theorem cat_L_save_0 : Cat ML_save 4 "java/lang/IndexOutOfBoundsException" 12 := ⟨[], 0, 9, 19, [], hh_L_save, by decide, by decide, by decide, (wl_5 31 rfl rfl), List.mem_of_getElem? (i := 0) rfl, fun _ h => absurd h List.not_mem_nil⟩
set_option maxHeartbeats 1000000 in
theorem w_save {w1 : Int32} (h0 : IVo Γ ab mo k0 t E n) (h : OPk Γ ab mo t MX7_save ["java/lang/IndexOutOfBoundsException"] MX8_save [.int w1] E n) : LW Γ ab mo t cvI ML_save MX8_save [.int w1] E n := by
  have hr := h0.rc
  obtain ⟨d7, mc, ms, q1, q2, q3, hc⟩ := h
  refine CtH.of (by decide +kernel) rfl (Nat.le_of_ble_eq_true rfl) ?_
  refine G.sub (lv2 := [(0, _), (1, _), (2, _)]) [0, 1, 2] rfl ?_
  refine G.mono (kc2 := 0 + mc) (ks2 := 0 + ms) (by omega) (by omega) ?_
  refine g_aload_n 2 rfl dL_save_0 ?_
  refine gn_ic 0 (by decide) dL_save_1 ?_
  refine g_aload_n 0 rfl dL_save_2 ?_
  refine g_iload_n 1 rfl dL_save_3 ?_
  refine gw_VC hc l_L_137 rfl hr (by omega) (Nat.le_of_ble_eq_true rfl) rfl dL_save_4 (fun y E1 n1 n9 z hn => ?_) (fun v E1 n1 z => ?_)
  · obtain ⟨j, hj, hp⟩ := z
    match j, hj, hp with
    | 0, hj, hp =>
      obtain rfl : "java/lang/IndexOutOfBoundsException" = y := Option.some.inj hj
      refine ⟨12, cat_L_save_0, fun q => ?_⟩
      refine g_astore_n (lv2 := [(3, _), (0, _), (1, _), (2, _)]) (by decide) rfl dL_save_12 ?_
      refine gn_ic 1 (by decide) dL_save_13 ?_
      exact g_iret (LPost.no hp hn (by decide)) rfl rfl dL_save_14
    | j + 1, hj, hp => exact absurd hj (by simp)
  · obtain ⟨x, rfl, hp⟩ := z
    obtain ⟨⟨g, hg⟩, -⟩ := id hp
    refine g_i2l dL_save_7 ?_
    refine g_last (N := 1) (f := g) hg (vp_in_nI (by decide) (by decide)) dL_save_8 ?_
    refine g_goto (tgt := 15) (by decide) dL_save_9 ?_
    refine gn_ic 0 (by decide) dL_save_15 ?_
    exact g_iret (LPost.ok hp (Nat.le_refl _) rfl) rfl rfl dL_save_16
abbrev ML_writeLodger : Mr := (RL, yL_writeLodger, cL_writeLodger, 4, some .int)
theorem hh_L_writeLodger : gHH yL_writeLodger = [(0, 9, 12, 19)] := by decide +kernel
theorem k_L_writeLodger : CdW ML_writeLodger ∈ wl := by
  unfold CdW
  rw [show gHH (ML_writeLodger : Mr).2.1 = _ from hh_L_writeLodger]
  exact (wl_6 193 rfl rfl)
theorem n_L_writeLodger : nMH ML_writeLodger 3 := ⟨⟨by decide +kernel, by decide +kernel⟩, by decide +kernel, by decide⟩
theorem l_L_347 : LkSH RL 347 ML_writeLodger 3 := ⟨(wl_6 191 rfl rfl), (wl_6 192 rfl rfl), (wl_1 0 rfl rfl), k_L_writeLodger, n_L_writeLodger⟩
theorem cat_L_writeLodger_0 : Cat ML_writeLodger 4 "java/lang/IndexOutOfBoundsException" 12 := ⟨[], 0, 9, 19, [], hh_L_writeLodger, by decide, by decide, by decide, (wl_5 31 rfl rfl), List.mem_of_getElem? (i := 0) rfl, fun _ h => absurd h List.not_mem_nil⟩
set_option maxHeartbeats 1000000 in
theorem w_writeLodger {w1 : Int32} (h0 : IVo Γ ab mo k0 t E n) (h : OPk Γ ab mo t MX7_writeLodger ["java/lang/IndexOutOfBoundsException"] MX8_writeLodger [.int w1] E n) : LW Γ ab mo t cvI ML_writeLodger MX8_writeLodger [.int w1] E n := by
  have hr := h0.rc
  obtain ⟨d7, mc, ms, q1, q2, q3, hc⟩ := h
  refine CtH.of (by decide +kernel) rfl (Nat.le_of_ble_eq_true rfl) ?_
  refine G.sub (lv2 := [(0, _), (1, _), (2, _)]) [0, 1, 2] rfl ?_
  refine G.mono (kc2 := 0 + mc) (ks2 := 0 + ms) (by omega) (by omega) ?_
  refine g_aload_n 2 rfl dL_writeLodger_0 ?_
  refine gn_ic 0 (by decide) dL_writeLodger_1 ?_
  refine g_aload_n 0 rfl dL_writeLodger_2 ?_
  refine g_iload_n 1 rfl dL_writeLodger_3 ?_
  refine gw_VC hc l_L_140 rfl hr (by omega) (Nat.le_of_ble_eq_true rfl) rfl dL_writeLodger_4 (fun y E1 n1 n9 z hn => ?_) (fun v E1 n1 z => ?_)
  · obtain ⟨j, hj, hp⟩ := z
    match j, hj, hp with
    | 0, hj, hp =>
      obtain rfl : "java/lang/IndexOutOfBoundsException" = y := Option.some.inj hj
      refine ⟨12, cat_L_writeLodger_0, fun q => ?_⟩
      refine g_astore_n (lv2 := [(3, _), (0, _), (1, _), (2, _)]) (by decide) rfl dL_writeLodger_12 ?_
      refine gn_ic 1 (by decide) dL_writeLodger_13 ?_
      exact g_iret (LPost.no hp hn (by decide)) rfl rfl dL_writeLodger_14
    | j + 1, hj, hp => exact absurd hj (by simp)
  · obtain ⟨x, rfl, hp⟩ := z
    obtain ⟨⟨g, hg⟩, -⟩ := id hp
    refine g_i2l dL_writeLodger_7 ?_
    refine g_last (N := 1) (f := g) hg (vp_in_nI (by decide) (by decide)) dL_writeLodger_8 ?_
    refine g_goto (tgt := 15) (by decide) dL_writeLodger_9 ?_
    refine gn_ic 0 (by decide) dL_writeLodger_15 ?_
    exact g_iret (LPost.ok hp (Nat.le_refl _) rfl) rfl rfl dL_writeLodger_16
abbrev ML_writeFloor : Mr := (RL, yL_writeFloor, cL_writeFloor, 4, some .int)
theorem hh_L_writeFloor : gHH yL_writeFloor = [(0, 9, 12, 19)] := by decide +kernel
theorem k_L_writeFloor : CdW ML_writeFloor ∈ wl := by
  unfold CdW
  rw [show gHH (ML_writeFloor : Mr).2.1 = _ from hh_L_writeFloor]
  exact (wl_6 205 rfl rfl)
theorem n_L_writeFloor : nMH ML_writeFloor 3 := ⟨⟨by decide +kernel, by decide +kernel⟩, by decide +kernel, by decide⟩
theorem l_L_350 : LkSH RL 350 ML_writeFloor 3 := ⟨(wl_6 203 rfl rfl), (wl_6 204 rfl rfl), (wl_1 0 rfl rfl), k_L_writeFloor, n_L_writeFloor⟩
theorem cat_L_writeFloor_0 : Cat ML_writeFloor 4 "java/lang/IndexOutOfBoundsException" 12 := ⟨[], 0, 9, 19, [], hh_L_writeFloor, by decide, by decide, by decide, (wl_5 31 rfl rfl), List.mem_of_getElem? (i := 0) rfl, fun _ h => absurd h List.not_mem_nil⟩
set_option maxHeartbeats 1000000 in
theorem w_writeFloor {w1 : Int32} (h0 : IVo Γ ab mo k0 t E n) (h : OPk Γ ab mo t MX7_writeFloor ["java/lang/IndexOutOfBoundsException"] MX8_writeFloor [.int w1] E n) : LW Γ ab mo t cvI ML_writeFloor MX8_writeFloor [.int w1] E n := by
  have hr := h0.rc
  obtain ⟨d7, mc, ms, q1, q2, q3, hc⟩ := h
  refine CtH.of (by decide +kernel) rfl (Nat.le_of_ble_eq_true rfl) ?_
  refine G.sub (lv2 := [(0, _), (1, _), (2, _)]) [0, 1, 2] rfl ?_
  refine G.mono (kc2 := 0 + mc) (ks2 := 0 + ms) (by omega) (by omega) ?_
  refine g_aload_n 2 rfl dL_writeFloor_0 ?_
  refine gn_ic 0 (by decide) dL_writeFloor_1 ?_
  refine g_aload_n 0 rfl dL_writeFloor_2 ?_
  refine g_iload_n 1 rfl dL_writeFloor_3 ?_
  refine gw_VC hc l_L_143 rfl hr (by omega) (Nat.le_of_ble_eq_true rfl) rfl dL_writeFloor_4 (fun y E1 n1 n9 z hn => ?_) (fun v E1 n1 z => ?_)
  · obtain ⟨j, hj, hp⟩ := z
    match j, hj, hp with
    | 0, hj, hp =>
      obtain rfl : "java/lang/IndexOutOfBoundsException" = y := Option.some.inj hj
      refine ⟨12, cat_L_writeFloor_0, fun q => ?_⟩
      refine g_astore_n (lv2 := [(3, _), (0, _), (1, _), (2, _)]) (by decide) rfl dL_writeFloor_12 ?_
      refine gn_ic 1 (by decide) dL_writeFloor_13 ?_
      exact g_iret (LPost.no hp hn (by decide)) rfl rfl dL_writeFloor_14
    | j + 1, hj, hp => exact absurd hj (by simp)
  · obtain ⟨x, rfl, hp⟩ := z
    obtain ⟨⟨g, hg⟩, -⟩ := id hp
    refine g_i2l dL_writeFloor_7 ?_
    refine g_last (N := 1) (f := g) hg (vp_in_nI (by decide) (by decide)) dL_writeFloor_8 ?_
    refine g_goto (tgt := 15) (by decide) dL_writeFloor_9 ?_
    refine gn_ic 0 (by decide) dL_writeFloor_15 ?_
    exact g_iret (LPost.ok hp (Nat.le_refl _) rfl) rfl rfl dL_writeFloor_16
abbrev ML_outputCharacter : Mr := (RL, yL_outputCharacter, cL_outputCharacter, 4, some .int)
theorem hh_L_outputCharacter : gHH yL_outputCharacter = [(0, 9, 12, 19)] := by decide +kernel
theorem k_L_outputCharacter : CdW ML_outputCharacter ∈ wl := by
  unfold CdW
  rw [show gHH (ML_outputCharacter : Mr).2.1 = _ from hh_L_outputCharacter]
  exact (wl_6 212 rfl rfl)
theorem n_L_outputCharacter : nMH ML_outputCharacter 3 := ⟨⟨by decide +kernel, by decide +kernel⟩, by decide +kernel, by decide⟩
theorem l_L_353 : LkSH RL 353 ML_outputCharacter 3 := ⟨(wl_6 210 rfl rfl), (wl_6 211 rfl rfl), (wl_1 0 rfl rfl), k_L_outputCharacter, n_L_outputCharacter⟩
theorem cat_L_outputCharacter_0 : Cat ML_outputCharacter 4 "java/lang/IndexOutOfBoundsException" 12 := ⟨[], 0, 9, 19, [], hh_L_outputCharacter, by decide, by decide, by decide, (wl_5 31 rfl rfl), List.mem_of_getElem? (i := 0) rfl, fun _ h => absurd h List.not_mem_nil⟩
set_option maxHeartbeats 1000000 in
theorem w_outputCharacter {w1 : Int32} (h0 : IVo Γ ab mo k0 t E n) (h : OPk Γ ab mo t MX7_outputCharacter ["java/lang/IndexOutOfBoundsException"] MX8_outputCharacter [.int w1] E n) : LW Γ ab mo t cvI ML_outputCharacter MX8_outputCharacter [.int w1] E n := by
  have hr := h0.rc
  obtain ⟨d7, mc, ms, q1, q2, q3, hc⟩ := h
  refine CtH.of (by decide +kernel) rfl (Nat.le_of_ble_eq_true rfl) ?_
  refine G.sub (lv2 := [(0, _), (1, _), (2, _)]) [0, 1, 2] rfl ?_
  refine G.mono (kc2 := 0 + mc) (ks2 := 0 + ms) (by omega) (by omega) ?_
  refine g_aload_n 2 rfl dL_outputCharacter_0 ?_
  refine gn_ic 0 (by decide) dL_outputCharacter_1 ?_
  refine g_aload_n 0 rfl dL_outputCharacter_2 ?_
  refine g_iload_n 1 rfl dL_outputCharacter_3 ?_
  refine gw_VC hc l_L_146 rfl hr (by omega) (Nat.le_of_ble_eq_true rfl) rfl dL_outputCharacter_4 (fun y E1 n1 n9 z hn => ?_) (fun v E1 n1 z => ?_)
  · obtain ⟨j, hj, hp⟩ := z
    match j, hj, hp with
    | 0, hj, hp =>
      obtain rfl : "java/lang/IndexOutOfBoundsException" = y := Option.some.inj hj
      refine ⟨12, cat_L_outputCharacter_0, fun q => ?_⟩
      refine g_astore_n (lv2 := [(3, _), (0, _), (1, _), (2, _)]) (by decide) rfl dL_outputCharacter_12 ?_
      refine gn_ic 1 (by decide) dL_outputCharacter_13 ?_
      exact g_iret (LPost.no hp hn (by decide)) rfl rfl dL_outputCharacter_14
    | j + 1, hj, hp => exact absurd hj (by simp)
  · obtain ⟨x, rfl, hp⟩ := z
    obtain ⟨⟨g, hg⟩, -⟩ := id hp
    refine g_i2l dL_outputCharacter_7 ?_
    refine g_last (N := 1) (f := g) hg (vp_in_nI (by decide) (by decide)) dL_outputCharacter_8 ?_
    refine g_goto (tgt := 15) (by decide) dL_outputCharacter_9 ?_
    refine gn_ic 0 (by decide) dL_outputCharacter_15 ?_
    exact g_iret (LPost.ok hp (Nat.le_refl _) rfl) rfl rfl dL_outputCharacter_16
end GWRAP
