/-! the law's wrappers: one call of the class, what it throws is caught -/
section GWR2
variable {Γ : Gm} {ab n mc ms d7 : Nat} {E : Hp} {P7 R : Po} {X7 : Px}
theorem CtW.rf {d : Nat} {M : Mr} {av : List Value} {P : Po} {X : Px} (h : Ct Γ d M mc ms av E n P X) : CtW Γ d M mc ms av E n P X := ⟨P, X, h, fun _ _ _ z => z, fun _ _ _ z => z⟩
abbrev ML_load : Mr := (RL, yL_load, cL_load, 4, some .int)
theorem hh_L_load : gHH yL_load = [(6, 11, 12, 34), (6, 11, 16, 36)] := by decide +kernel
theorem k_L_load : CdW ML_load ∈ wl := by
  unfold CdW
  rw [show gHH (ML_load : Mr).2.1 = _ from hh_L_load]
  exact (wl_4 236 rfl rfl)
theorem n_L_load : nMH ML_load 2 := ⟨⟨by decide +kernel, by decide +kernel⟩, by decide +kernel, by decide⟩
theorem l_L_273 : LkSH RL 273 ML_load 2 := ⟨(wl_4 234 rfl rfl), (wl_4 235 rfl rfl), (wl_1 0 rfl rfl), k_L_load, n_L_load⟩
theorem cat_L_load_0 : Cat ML_load 8 "java/lang/IndexOutOfBoundsException" 12 := ⟨[], 6, 11, 34, [(6, 11, 16, 36)], hh_L_load, by decide, by decide, by decide, (wl_4 237 rfl rfl), List.mem_of_getElem? (i := 0) rfl, fun _ h => absurd h List.not_mem_nil⟩
theorem cat_L_load_1 : Cat ML_load 8 "java/lang/IllegalArgumentException" 16 := ⟨[(6, 11, 12, 34)], 6, 11, 36, [], hh_L_load, by decide, by decide, by decide, (wl_4 238 rfl rfl), List.mem_of_getElem? (i := 1) rfl, List.forall_mem_cons.mpr ⟨⟨by decide, _, (wl_4 237 rfl rfl), List.mem_of_getElem? (i := 0) rfl⟩, fun _ h => absurd h List.not_mem_nil⟩⟩
abbrev ML_undone : Mr := (RL, yL_undone, cL_undone, 2, some .int)
theorem hh_L_undone : gHH yL_undone = [(0, 4, 5, 41)] := by decide +kernel
theorem k_L_undone : CdW ML_undone ∈ wl := by
  unfold CdW
  rw [show gHH (ML_undone : Mr).2.1 = _ from hh_L_undone]
  exact (wl_5 27 rfl rfl)
theorem n_L_undone : nMH ML_undone 1 := ⟨⟨by decide +kernel, by decide +kernel⟩, by decide +kernel, by decide⟩
theorem l_L_240 : LkSH RL 240 ML_undone 1 := ⟨(wl_5 25 rfl rfl), (wl_5 26 rfl rfl), (wl_1 0 rfl rfl), k_L_undone, n_L_undone⟩
theorem cat_L_undone_0 : Cat ML_undone 1 "java/lang/IllegalStateException" 5 := ⟨[], 0, 4, 41, [], hh_L_undone, by decide, by decide, by decide, (wl_5 28 rfl rfl), List.mem_of_getElem? (i := 2) rfl, fun _ h => absurd h List.not_mem_nil⟩
set_option maxHeartbeats 1000000 in
theorem w_undone (hr : Rcv Γ E ab RX7) (hd : d7 ≤ 12) (h : CtW Γ d7 MX7_undo mc ms [.ref ab] E n P7 X7) (hQ : ∀ r E2 n2, P7 r E2 n2 → ∃ x : Int32, r = some (.int x) ∧ R r E2 n2) (hY : ∀ y E2 n2 n9, X7 y E2 n2 → n2 ≤ n9 → ∃ j : Nat, (["java/lang/IllegalStateException"] : List String)[j]? = some y ∧ R (some (.int ([(-1 : Int32)].getD j 0))) E2 n9) : CtH Γ 13 ML_undone mc ms [.ref ab] E n R X0 := by
  refine CtH.of (by decide +kernel) rfl (Nat.le_of_ble_eq_true rfl) ?_
  refine G.sub (lv2 := [(0, _)]) [0] rfl ?_
  refine G.mono (kc2 := 0 + mc) (ks2 := 0 + ms) (by omega) (by omega) ?_
  refine g_aload_n 0 rfl dL_undone_0 ?_
  refine gw_VC h l_L_38 rfl hr (by omega) (Nat.le_of_ble_eq_true rfl) rfl dL_undone_1 (fun y E1 n1 n9 z hn => ?_) (fun v E1 n1 z => ?_)
  · obtain ⟨j, hj, hp⟩ := hY y E1 n1 n9 z hn
    match j, hj, hp with
    | 0, hj, hp =>
      obtain rfl : "java/lang/IllegalStateException" = y := Option.some.inj hj
      refine ⟨5, cat_L_undone_0, fun q => ?_⟩
      refine g_astore_n (lv2 := [(1, _), (0, _)]) (by decide) rfl dL_undone_5 ?_
      refine g_iconst (v := -1) dL_undone_6 (by decide) ?_
      exact g_iret hp rfl rfl dL_undone_7
    | j + 1, hj, hp => exact absurd hj (by simp)
  · obtain ⟨x, rfl, hp⟩ := hQ v E1 n1 z
    exact g_iret hp rfl rfl dL_undone_4
abbrev ML_advanced : Mr := (RL, yL_advanced, cL_advanced, 3, some .int)
theorem hh_L_advanced : gHH yL_advanced = [(0, 5, 6, 36), (0, 5, 10, 41)] := by decide +kernel
theorem k_L_advanced : CdW ML_advanced ∈ wl := by
  unfold CdW
  rw [show gHH (ML_advanced : Mr).2.1 = _ from hh_L_advanced]
  exact (wl_5 40 rfl rfl)
theorem n_L_advanced : nMH ML_advanced 2 := ⟨⟨by decide +kernel, by decide +kernel⟩, by decide +kernel, by decide⟩
theorem l_L_244 : LkSH RL 244 ML_advanced 2 := ⟨(wl_5 38 rfl rfl), (wl_5 39 rfl rfl), (wl_1 0 rfl rfl), k_L_advanced, n_L_advanced⟩
theorem cat_L_advanced_0 : Cat ML_advanced 2 "java/lang/IllegalArgumentException" 6 := ⟨[], 0, 5, 36, [(0, 5, 10, 41)], hh_L_advanced, by decide, by decide, by decide, (wl_4 238 rfl rfl), List.mem_of_getElem? (i := 1) rfl, fun _ h => absurd h List.not_mem_nil⟩
theorem cat_L_advanced_1 : Cat ML_advanced 2 "java/lang/IllegalStateException" 10 := ⟨[(0, 5, 6, 36)], 0, 5, 41, [], hh_L_advanced, by decide, by decide, by decide, (wl_5 28 rfl rfl), List.mem_of_getElem? (i := 2) rfl, List.forall_mem_cons.mpr ⟨⟨by decide, _, (wl_4 238 rfl rfl), List.mem_of_getElem? (i := 2) rfl⟩, fun _ h => absurd h List.not_mem_nil⟩⟩
set_option maxHeartbeats 1000000 in
theorem w_advanced {w1 : Int32} (hr : Rcv Γ E ab RX7) (hd : d7 ≤ 12) (h : CtW Γ d7 MX7_advance mc ms [.ref ab, .int w1] E n P7 X7) (hQ : ∀ r E2 n2, P7 r E2 n2 → ∃ x : Int32, r = some (.int x) ∧ R r E2 n2) (hY : ∀ y E2 n2 n9, X7 y E2 n2 → n2 ≤ n9 → ∃ j : Nat, (["java/lang/IllegalArgumentException", "java/lang/IllegalStateException"] : List String)[j]? = some y ∧ R (some (.int ([(-2 : Int32), (-3 : Int32)].getD j 0))) E2 n9) : CtH Γ 13 ML_advanced mc ms [.ref ab, .int w1] E n R X0 := by
  refine CtH.of (by decide +kernel) rfl (Nat.le_of_ble_eq_true rfl) ?_
  refine G.sub (lv2 := [(0, _), (1, _)]) [0, 1] rfl ?_
  refine G.mono (kc2 := 0 + mc) (ks2 := 0 + ms) (by omega) (by omega) ?_
  refine g_aload_n 0 rfl dL_advanced_0 ?_
  refine g_iload_n 1 rfl dL_advanced_1 ?_
  refine gw_VC h l_L_43 rfl hr (by omega) (Nat.le_of_ble_eq_true rfl) rfl dL_advanced_2 (fun y E1 n1 n9 z hn => ?_) (fun v E1 n1 z => ?_)
  · obtain ⟨j, hj, hp⟩ := hY y E1 n1 n9 z hn
    match j, hj, hp with
    | 0, hj, hp =>
      obtain rfl : "java/lang/IllegalArgumentException" = y := Option.some.inj hj
      refine ⟨6, cat_L_advanced_0, fun q => ?_⟩
      refine g_astore_n (lv2 := [(2, _), (0, _), (1, _)]) (by decide) rfl dL_advanced_6 ?_
      refine g_bipush (v := -2) dL_advanced_7 (by decide) ?_
      exact g_iret hp rfl rfl dL_advanced_9
    | 1, hj, hp =>
      obtain rfl : "java/lang/IllegalStateException" = y := Option.some.inj hj
      refine ⟨10, cat_L_advanced_1, fun q => ?_⟩
      refine g_astore_n (lv2 := [(2, _), (0, _), (1, _)]) (by decide) rfl dL_advanced_10 ?_
      refine g_bipush (v := -3) dL_advanced_11 (by decide) ?_
      exact g_iret hp rfl rfl dL_advanced_13
    | j + 2, hj, hp => exact absurd hj (by simp)
  · obtain ⟨x, rfl, hp⟩ := hQ v E1 n1 z
    exact g_iret hp rfl rfl dL_advanced_5
abbrev ML_movedIn : Mr := (RL, yL_movedIn, cL_movedIn, 5, some .int)
theorem hh_L_movedIn : gHH yL_movedIn = [(0, 7, 8, 36), (0, 7, 13, 41)] := by decide +kernel
theorem k_L_movedIn : CdW ML_movedIn ∈ wl := by
  unfold CdW
  rw [show gHH (ML_movedIn : Mr).2.1 = _ from hh_L_movedIn]
  exact (wl_5 54 rfl rfl)
theorem n_L_movedIn : nMH ML_movedIn 4 := ⟨⟨by decide +kernel, by decide +kernel⟩, by decide +kernel, by decide⟩
theorem l_L_249 : LkSH RL 249 ML_movedIn 4 := ⟨(wl_5 52 rfl rfl), (wl_5 53 rfl rfl), (wl_1 0 rfl rfl), k_L_movedIn, n_L_movedIn⟩
theorem cat_L_movedIn_0 : Cat ML_movedIn 4 "java/lang/IllegalArgumentException" 8 := ⟨[], 0, 7, 36, [(0, 7, 13, 41)], hh_L_movedIn, by decide, by decide, by decide, (wl_4 238 rfl rfl), List.mem_of_getElem? (i := 1) rfl, fun _ h => absurd h List.not_mem_nil⟩
theorem cat_L_movedIn_1 : Cat ML_movedIn 4 "java/lang/IllegalStateException" 13 := ⟨[(0, 7, 8, 36)], 0, 7, 41, [], hh_L_movedIn, by decide, by decide, by decide, (wl_5 28 rfl rfl), List.mem_of_getElem? (i := 2) rfl, List.forall_mem_cons.mpr ⟨⟨by decide, _, (wl_4 238 rfl rfl), List.mem_of_getElem? (i := 2) rfl⟩, fun _ h => absurd h List.not_mem_nil⟩⟩
set_option maxHeartbeats 1000000 in
theorem w_movedIn {w1 w2 w3 : Int32} (hr : Rcv Γ E ab RX7) (hd : d7 ≤ 12) (h : CtW Γ d7 MX7_moveIn mc ms [.ref ab, .int w1, .int w2, .int w3] E n P7 X7) (hQ : ∀ r E2 n2, P7 r E2 n2 → ∃ x : Int32, r = some (.int x) ∧ R r E2 n2) (hY : ∀ y E2 n2 n9, X7 y E2 n2 → n2 ≤ n9 → ∃ j : Nat, (["java/lang/IllegalArgumentException", "java/lang/IllegalStateException"] : List String)[j]? = some y ∧ R (some (.int ([(-2 : Int32), (-3 : Int32)].getD j 0))) E2 n9) : CtH Γ 13 ML_movedIn mc ms [.ref ab, .int w1, .int w2, .int w3] E n R X0 := by
  refine CtH.of (by decide +kernel) rfl (Nat.le_of_ble_eq_true rfl) ?_
  refine G.sub (lv2 := [(0, _), (1, _), (2, _), (3, _)]) [0, 1, 2, 3] rfl ?_
  refine G.mono (kc2 := 0 + mc) (ks2 := 0 + ms) (by omega) (by omega) ?_
  refine g_aload_n 0 rfl dL_movedIn_0 ?_
  refine g_iload_n 1 rfl dL_movedIn_1 ?_
  refine g_iload_n 2 rfl dL_movedIn_2 ?_
  refine g_iload_n 3 rfl dL_movedIn_3 ?_
  refine gw_VC h l_L_46 rfl hr (by omega) (Nat.le_of_ble_eq_true rfl) rfl dL_movedIn_4 (fun y E1 n1 n9 z hn => ?_) (fun v E1 n1 z => ?_)
  · obtain ⟨j, hj, hp⟩ := hY y E1 n1 n9 z hn
    match j, hj, hp with
    | 0, hj, hp =>
      obtain rfl : "java/lang/IllegalArgumentException" = y := Option.some.inj hj
      refine ⟨8, cat_L_movedIn_0, fun q => ?_⟩
      refine g_astore (lv2 := [(4, _), (0, _), (1, _), (2, _), (3, _)]) (by decide) rfl dL_movedIn_8 ?_
      refine g_bipush (v := -2) dL_movedIn_10 (by decide) ?_
      exact g_iret hp rfl rfl dL_movedIn_12
    | 1, hj, hp =>
      obtain rfl : "java/lang/IllegalStateException" = y := Option.some.inj hj
      refine ⟨13, cat_L_movedIn_1, fun q => ?_⟩
      refine g_astore (lv2 := [(4, _), (0, _), (1, _), (2, _), (3, _)]) (by decide) rfl dL_movedIn_13 ?_
      refine g_bipush (v := -3) dL_movedIn_15 (by decide) ?_
      exact g_iret hp rfl rfl dL_movedIn_17
    | j + 2, hj, hp => exact absurd hj (by simp)
  · obtain ⟨x, rfl, hp⟩ := hQ v E1 n1 z
    exact g_iret hp rfl rfl dL_movedIn_7
abbrev ML_movedOut : Mr := (RL, yL_movedOut, cL_movedOut, 3, some .int)
theorem hh_L_movedOut : gHH yL_movedOut = [(0, 5, 6, 34)] := by decide +kernel
theorem k_L_movedOut : CdW ML_movedOut ∈ wl := by
  unfold CdW
  rw [show gHH (ML_movedOut : Mr).2.1 = _ from hh_L_movedOut]
  exact (wl_5 106 rfl rfl)
theorem n_L_movedOut : nMH ML_movedOut 2 := ⟨⟨by decide +kernel, by decide +kernel⟩, by decide +kernel, by decide⟩
theorem l_L_256 : LkSH RL 256 ML_movedOut 2 := ⟨(wl_5 104 rfl rfl), (wl_5 105 rfl rfl), (wl_1 0 rfl rfl), k_L_movedOut, n_L_movedOut⟩
theorem cat_L_movedOut_0 : Cat ML_movedOut 2 "java/lang/IndexOutOfBoundsException" 6 := ⟨[], 0, 5, 34, [], hh_L_movedOut, by decide, by decide, by decide, (wl_4 237 rfl rfl), List.mem_of_getElem? (i := 0) rfl, fun _ h => absurd h List.not_mem_nil⟩
set_option maxHeartbeats 1000000 in
theorem w_movedOut {w1 : Int32} (hr : Rcv Γ E ab RX7) (hd : d7 ≤ 12) (h : CtW Γ d7 MX7_moveOut mc ms [.ref ab, .int w1] E n P7 X7) (hQ : ∀ r E2 n2, P7 r E2 n2 → ∃ x : Int32, r = some (.int x) ∧ R r E2 n2) (hY : ∀ y E2 n2 n9, X7 y E2 n2 → n2 ≤ n9 → ∃ j : Nat, (["java/lang/IndexOutOfBoundsException"] : List String)[j]? = some y ∧ R (some (.int ([(9999 : Int32)].getD j 0))) E2 n9) : CtH Γ 13 ML_movedOut mc ms [.ref ab, .int w1] E n R X0 := by
  refine CtH.of (by decide +kernel) rfl (Nat.le_of_ble_eq_true rfl) ?_
  refine G.sub (lv2 := [(0, _), (1, _)]) [0, 1] rfl ?_
  refine G.mono (kc2 := 0 + mc) (ks2 := 0 + ms) (by omega) (by omega) ?_
  refine g_aload_n 0 rfl dL_movedOut_0 ?_
  refine g_iload_n 1 rfl dL_movedOut_1 ?_
  refine gw_VC h l_L_50 rfl hr (by omega) (Nat.le_of_ble_eq_true rfl) rfl dL_movedOut_2 (fun y E1 n1 n9 z hn => ?_) (fun v E1 n1 z => ?_)
  · obtain ⟨j, hj, hp⟩ := hY y E1 n1 n9 z hn
    match j, hj, hp with
    | 0, hj, hp =>
      obtain rfl : "java/lang/IndexOutOfBoundsException" = y := Option.some.inj hj
      refine ⟨6, cat_L_movedOut_0, fun q => ?_⟩
      refine g_astore_n (lv2 := [(2, _), (0, _), (1, _)]) (by decide) rfl dL_movedOut_6 ?_
      refine g_sipush (v := 9999) dL_movedOut_7 (by decide) ?_
      exact g_iret hp rfl rfl dL_movedOut_10
    | j + 1, hj, hp => exact absurd hj (by simp)
  · obtain ⟨x, rfl, hp⟩ := hQ v E1 n1 z
    exact g_iret hp rfl rfl dL_movedOut_5
abbrev ML_movedTo : Mr := (RL, yL_movedTo, cL_movedTo, 4, some .int)
theorem hh_L_movedTo : gHH yL_movedTo = [(0, 6, 7, 34), (0, 6, 11, 36), (0, 6, 15, 41)] := by decide +kernel
theorem k_L_movedTo : CdW ML_movedTo ∈ wl := by
  unfold CdW
  rw [show gHH (ML_movedTo : Mr).2.1 = _ from hh_L_movedTo]
  exact (wl_5 119 rfl rfl)
theorem n_L_movedTo : nMH ML_movedTo 3 := ⟨⟨by decide +kernel, by decide +kernel⟩, by decide +kernel, by decide⟩
theorem l_L_259 : LkSH RL 259 ML_movedTo 3 := ⟨(wl_5 117 rfl rfl), (wl_5 118 rfl rfl), (wl_1 0 rfl rfl), k_L_movedTo, n_L_movedTo⟩
theorem cat_L_movedTo_0 : Cat ML_movedTo 3 "java/lang/IndexOutOfBoundsException" 7 := ⟨[], 0, 6, 34, [(0, 6, 11, 36), (0, 6, 15, 41)], hh_L_movedTo, by decide, by decide, by decide, (wl_4 237 rfl rfl), List.mem_of_getElem? (i := 0) rfl, fun _ h => absurd h List.not_mem_nil⟩
theorem cat_L_movedTo_1 : Cat ML_movedTo 3 "java/lang/IllegalArgumentException" 11 := ⟨[(0, 6, 7, 34)], 0, 6, 36, [(0, 6, 15, 41)], hh_L_movedTo, by decide, by decide, by decide, (wl_4 238 rfl rfl), List.mem_of_getElem? (i := 1) rfl, List.forall_mem_cons.mpr ⟨⟨by decide, _, (wl_4 237 rfl rfl), List.mem_of_getElem? (i := 0) rfl⟩, fun _ h => absurd h List.not_mem_nil⟩⟩
theorem cat_L_movedTo_2 : Cat ML_movedTo 3 "java/lang/IllegalStateException" 15 := ⟨[(0, 6, 7, 34), (0, 6, 11, 36)], 0, 6, 41, [], hh_L_movedTo, by decide, by decide, by decide, (wl_5 28 rfl rfl), List.mem_of_getElem? (i := 2) rfl, List.forall_mem_cons.mpr ⟨⟨by decide, _, (wl_4 237 rfl rfl), List.mem_of_getElem? (i := 1) rfl⟩, List.forall_mem_cons.mpr ⟨⟨by decide, _, (wl_4 238 rfl rfl), List.mem_of_getElem? (i := 2) rfl⟩, fun _ h => absurd h List.not_mem_nil⟩⟩⟩
set_option maxHeartbeats 1000000 in
theorem w_movedTo {w1 w2 : Int32} (hr : Rcv Γ E ab RX7) (hd : d7 ≤ 12) (h : CtW Γ d7 MX7_moveTo mc ms [.ref ab, .int w1, .int w2] E n P7 X7) (hQ : ∀ r E2 n2, P7 r E2 n2 → ∃ x : Int32, r = some (.int x) ∧ R r E2 n2) (hY : ∀ y E2 n2 n9, X7 y E2 n2 → n2 ≤ n9 → ∃ j : Nat, (["java/lang/IndexOutOfBoundsException", "java/lang/IllegalArgumentException", "java/lang/IllegalStateException"] : List String)[j]? = some y ∧ R (some (.int ([(-5 : Int32), (-2 : Int32), (-3 : Int32)].getD j 0))) E2 n9) : CtH Γ 13 ML_movedTo mc ms [.ref ab, .int w1, .int w2] E n R X0 := by
  refine CtH.of (by decide +kernel) rfl (Nat.le_of_ble_eq_true rfl) ?_
  refine G.sub (lv2 := [(0, _), (1, _), (2, _)]) [0, 1, 2] rfl ?_
  refine G.mono (kc2 := 0 + mc) (ks2 := 0 + ms) (by omega) (by omega) ?_
  refine g_aload_n 0 rfl dL_movedTo_0 ?_
  refine g_iload_n 1 rfl dL_movedTo_1 ?_
  refine g_iload_n 2 rfl dL_movedTo_2 ?_
  refine gw_VC h l_L_53 rfl hr (by omega) (Nat.le_of_ble_eq_true rfl) rfl dL_movedTo_3 (fun y E1 n1 n9 z hn => ?_) (fun v E1 n1 z => ?_)
  · obtain ⟨j, hj, hp⟩ := hY y E1 n1 n9 z hn
    match j, hj, hp with
    | 0, hj, hp =>
      obtain rfl : "java/lang/IndexOutOfBoundsException" = y := Option.some.inj hj
      refine ⟨7, cat_L_movedTo_0, fun q => ?_⟩
      refine g_astore_n (lv2 := [(3, _), (0, _), (1, _), (2, _)]) (by decide) rfl dL_movedTo_7 ?_
      refine g_bipush (v := -5) dL_movedTo_8 (by decide) ?_
      exact g_iret hp rfl rfl dL_movedTo_10
    | 1, hj, hp =>
      obtain rfl : "java/lang/IllegalArgumentException" = y := Option.some.inj hj
      refine ⟨11, cat_L_movedTo_1, fun q => ?_⟩
      refine g_astore_n (lv2 := [(3, _), (0, _), (1, _), (2, _)]) (by decide) rfl dL_movedTo_11 ?_
      refine g_bipush (v := -2) dL_movedTo_12 (by decide) ?_
      exact g_iret hp rfl rfl dL_movedTo_14
    | 2, hj, hp =>
      obtain rfl : "java/lang/IllegalStateException" = y := Option.some.inj hj
      refine ⟨15, cat_L_movedTo_2, fun q => ?_⟩
      refine g_astore_n (lv2 := [(3, _), (0, _), (1, _), (2, _)]) (by decide) rfl dL_movedTo_15 ?_
      refine g_bipush (v := -3) dL_movedTo_16 (by decide) ?_
      exact g_iret hp rfl rfl dL_movedTo_18
    | j + 3, hj, hp => exact absurd hj (by simp)
  · obtain ⟨x, rfl, hp⟩ := hQ v E1 n1 z
    exact g_iret hp rfl rfl dL_movedTo_6
abbrev ML_paid : Mr := (RL, yL_paid, cL_paid, 4, some .int)
theorem hh_L_paid : gHH yL_paid = [(0, 6, 7, 34), (0, 6, 11, 36)] := by decide +kernel
theorem k_L_paid : CdW ML_paid ∈ wl := by
  unfold CdW
  rw [show gHH (ML_paid : Mr).2.1 = _ from hh_L_paid]
  exact (wl_5 126 rfl rfl)
theorem n_L_paid : nMH ML_paid 3 := ⟨⟨by decide +kernel, by decide +kernel⟩, by decide +kernel, by decide⟩
theorem l_L_237 : LkSH RL 237 ML_paid 3 := ⟨(wl_5 124 rfl rfl), (wl_5 125 rfl rfl), (wl_1 0 rfl rfl), k_L_paid, n_L_paid⟩
theorem cat_L_paid_0 : Cat ML_paid 3 "java/lang/IndexOutOfBoundsException" 7 := ⟨[], 0, 6, 34, [(0, 6, 11, 36)], hh_L_paid, by decide, by decide, by decide, (wl_4 237 rfl rfl), List.mem_of_getElem? (i := 0) rfl, fun _ h => absurd h List.not_mem_nil⟩
theorem cat_L_paid_1 : Cat ML_paid 3 "java/lang/IllegalArgumentException" 11 := ⟨[(0, 6, 7, 34)], 0, 6, 36, [], hh_L_paid, by decide, by decide, by decide, (wl_4 238 rfl rfl), List.mem_of_getElem? (i := 1) rfl, List.forall_mem_cons.mpr ⟨⟨by decide, _, (wl_4 237 rfl rfl), List.mem_of_getElem? (i := 0) rfl⟩, fun _ h => absurd h List.not_mem_nil⟩⟩
set_option maxHeartbeats 1000000 in
theorem w_paid {w1 w2 : Int32} (hr : Rcv Γ E ab RX7) (hd : d7 ≤ 12) (h : CtW Γ d7 MX7_pay mc ms [.ref ab, .int w1, .int w2] E n P7 X7) (hQ : ∀ r E2 n2, P7 r E2 n2 → ∃ x : Int32, r = some (.int x) ∧ R r E2 n2) (hY : ∀ y E2 n2 n9, X7 y E2 n2 → n2 ≤ n9 → ∃ j : Nat, (["java/lang/IndexOutOfBoundsException", "java/lang/IllegalArgumentException"] : List String)[j]? = some y ∧ R (some (.int ([(-99995 : Int32), (-99992 : Int32)].getD j 0))) E2 n9) : CtH Γ 13 ML_paid mc ms [.ref ab, .int w1, .int w2] E n R X0 := by
  refine CtH.of (by decide +kernel) rfl (Nat.le_of_ble_eq_true rfl) ?_
  refine G.sub (lv2 := [(0, _), (1, _), (2, _)]) [0, 1, 2] rfl ?_
  refine G.mono (kc2 := 0 + mc) (ks2 := 0 + ms) (by omega) (by omega) ?_
  refine g_aload_n 0 rfl dL_paid_0 ?_
  refine g_iload_n 1 rfl dL_paid_1 ?_
  refine g_iload_n 2 rfl dL_paid_2 ?_
  refine gw_VC h l_L_57 rfl hr (by omega) (Nat.le_of_ble_eq_true rfl) rfl dL_paid_3 (fun y E1 n1 n9 z hn => ?_) (fun v E1 n1 z => ?_)
  · obtain ⟨j, hj, hp⟩ := hY y E1 n1 n9 z hn
    match j, hj, hp with
    | 0, hj, hp =>
      obtain rfl : "java/lang/IndexOutOfBoundsException" = y := Option.some.inj hj
      refine ⟨7, cat_L_paid_0, fun q => ?_⟩
      refine g_astore_n (lv2 := [(3, _), (0, _), (1, _), (2, _)]) (by decide) rfl dL_paid_7 ?_
      refine g_ldcI (v := -99995) (wl_5 132 rfl rfl) dL_paid_8 ?_
      exact g_iret hp rfl rfl dL_paid_10
    | 1, hj, hp =>
      obtain rfl : "java/lang/IllegalArgumentException" = y := Option.some.inj hj
      refine ⟨11, cat_L_paid_1, fun q => ?_⟩
      refine g_astore_n (lv2 := [(3, _), (0, _), (1, _), (2, _)]) (by decide) rfl dL_paid_11 ?_
      refine g_ldcI (v := -99992) (wl_5 133 rfl rfl) dL_paid_12 ?_
      exact g_iret hp rfl rfl dL_paid_14
    | j + 2, hj, hp => exact absurd hj (by simp)
  · obtain ⟨x, rfl, hp⟩ := hQ v E1 n1 z
    exact g_iret hp rfl rfl dL_paid_6
abbrev ML_spoke : Mr := (RL, yL_spoke, cL_spoke, 4, some .int)
theorem hh_L_spoke : gHH yL_spoke = [(0, 6, 7, 34), (0, 6, 11, 36)] := by decide +kernel
theorem k_L_spoke : CdW ML_spoke ∈ wl := by
  unfold CdW
  rw [show gHH (ML_spoke : Mr).2.1 = _ from hh_L_spoke]
  exact (wl_5 136 rfl rfl)
theorem n_L_spoke : nMH ML_spoke 3 := ⟨⟨by decide +kernel, by decide +kernel⟩, by decide +kernel, by decide⟩
theorem l_L_262 : LkSH RL 262 ML_spoke 3 := ⟨(wl_5 134 rfl rfl), (wl_5 135 rfl rfl), (wl_1 0 rfl rfl), k_L_spoke, n_L_spoke⟩
theorem cat_L_spoke_0 : Cat ML_spoke 3 "java/lang/IndexOutOfBoundsException" 7 := ⟨[], 0, 6, 34, [(0, 6, 11, 36)], hh_L_spoke, by decide, by decide, by decide, (wl_4 237 rfl rfl), List.mem_of_getElem? (i := 0) rfl, fun _ h => absurd h List.not_mem_nil⟩
theorem cat_L_spoke_1 : Cat ML_spoke 3 "java/lang/IllegalArgumentException" 11 := ⟨[(0, 6, 7, 34)], 0, 6, 36, [], hh_L_spoke, by decide, by decide, by decide, (wl_4 238 rfl rfl), List.mem_of_getElem? (i := 1) rfl, List.forall_mem_cons.mpr ⟨⟨by decide, _, (wl_4 237 rfl rfl), List.mem_of_getElem? (i := 0) rfl⟩, fun _ h => absurd h List.not_mem_nil⟩⟩
set_option maxHeartbeats 1000000 in
theorem w_spoke {w1 w2 : Int32} (hr : Rcv Γ E ab RX7) (hd : d7 ≤ 12) (h : CtW Γ d7 MX7_setLandladyVowel mc ms [.ref ab, .int w1, .int w2] E n P7 X7) (hQ : ∀ r E2 n2, P7 r E2 n2 → ∃ x : Int32, r = some (.int x) ∧ R r E2 n2) (hY : ∀ y E2 n2 n9, X7 y E2 n2 → n2 ≤ n9 → ∃ j : Nat, (["java/lang/IndexOutOfBoundsException", "java/lang/IllegalArgumentException"] : List String)[j]? = some y ∧ R (some (.int ([(-5 : Int32), (-2 : Int32)].getD j 0))) E2 n9) : CtH Γ 13 ML_spoke mc ms [.ref ab, .int w1, .int w2] E n R X0 := by
  refine CtH.of (by decide +kernel) rfl (Nat.le_of_ble_eq_true rfl) ?_
  refine G.sub (lv2 := [(0, _), (1, _), (2, _)]) [0, 1, 2] rfl ?_
  refine G.mono (kc2 := 0 + mc) (ks2 := 0 + ms) (by omega) (by omega) ?_
  refine g_aload_n 0 rfl dL_spoke_0 ?_
  refine g_iload_n 1 rfl dL_spoke_1 ?_
  refine g_iload_n 2 rfl dL_spoke_2 ?_
  refine gw_VC h l_L_62 rfl hr (by omega) (Nat.le_of_ble_eq_true rfl) rfl dL_spoke_3 (fun y E1 n1 n9 z hn => ?_) (fun v E1 n1 z => ?_)
  · obtain ⟨j, hj, hp⟩ := hY y E1 n1 n9 z hn
    match j, hj, hp with
    | 0, hj, hp =>
      obtain rfl : "java/lang/IndexOutOfBoundsException" = y := Option.some.inj hj
      refine ⟨7, cat_L_spoke_0, fun q => ?_⟩
      refine g_astore_n (lv2 := [(3, _), (0, _), (1, _), (2, _)]) (by decide) rfl dL_spoke_7 ?_
      refine g_bipush (v := -5) dL_spoke_8 (by decide) ?_
      exact g_iret hp rfl rfl dL_spoke_10
    | 1, hj, hp =>
      obtain rfl : "java/lang/IllegalArgumentException" = y := Option.some.inj hj
      refine ⟨11, cat_L_spoke_1, fun q => ?_⟩
      refine g_astore_n (lv2 := [(3, _), (0, _), (1, _), (2, _)]) (by decide) rfl dL_spoke_11 ?_
      refine g_bipush (v := -2) dL_spoke_12 (by decide) ?_
      exact g_iret hp rfl rfl dL_spoke_14
    | j + 2, hj, hp => exact absurd hj (by simp)
  · obtain ⟨x, rfl, hp⟩ := hQ v E1 n1 z
    exact g_iret hp rfl rfl dL_spoke_6
abbrev ML_tolerates : Mr := (RL, yL_tolerates, cL_tolerates, 3, some .int)
theorem hh_L_tolerates : gHH yL_tolerates = [(0, 5, 6, 36)] := by decide +kernel
theorem k_L_tolerates : CdW ML_tolerates ∈ wl := by
  unfold CdW
  rw [show gHH (ML_tolerates : Mr).2.1 = _ from hh_L_tolerates]
  exact (wl_5 148 rfl rfl)
theorem n_L_tolerates : nMH ML_tolerates 2 := ⟨⟨by decide +kernel, by decide +kernel⟩, by decide +kernel, by decide⟩
theorem l_L_265 : LkSH RL 265 ML_tolerates 2 := ⟨(wl_5 146 rfl rfl), (wl_5 147 rfl rfl), (wl_1 0 rfl rfl), k_L_tolerates, n_L_tolerates⟩
theorem cat_L_tolerates_0 : Cat ML_tolerates 2 "java/lang/IllegalArgumentException" 6 := ⟨[], 0, 5, 36, [], hh_L_tolerates, by decide, by decide, by decide, (wl_4 238 rfl rfl), List.mem_of_getElem? (i := 1) rfl, fun _ h => absurd h List.not_mem_nil⟩
set_option maxHeartbeats 1000000 in
theorem w_tolerates {w1 : Int32} (hr : Rcv Γ E ab RX7) (hd : d7 ≤ 12) (h : CtW Γ d7 MX7_setTolerance mc ms [.ref ab, .int w1] E n P7 X7) (hQ : ∀ r E2 n2, P7 r E2 n2 → ∃ x : Int32, r = some (.int x) ∧ R r E2 n2) (hY : ∀ y E2 n2 n9, X7 y E2 n2 → n2 ≤ n9 → ∃ j : Nat, (["java/lang/IllegalArgumentException"] : List String)[j]? = some y ∧ R (some (.int ([(-2 : Int32)].getD j 0))) E2 n9) : CtH Γ 13 ML_tolerates mc ms [.ref ab, .int w1] E n R X0 := by
  refine CtH.of (by decide +kernel) rfl (Nat.le_of_ble_eq_true rfl) ?_
  refine G.sub (lv2 := [(0, _), (1, _)]) [0, 1] rfl ?_
  refine G.mono (kc2 := 0 + mc) (ks2 := 0 + ms) (by omega) (by omega) ?_
  refine g_aload_n 0 rfl dL_tolerates_0 ?_
  refine g_iload_n 1 rfl dL_tolerates_1 ?_
  refine gw_VC h l_L_65 rfl hr (by omega) (Nat.le_of_ble_eq_true rfl) rfl dL_tolerates_2 (fun y E1 n1 n9 z hn => ?_) (fun v E1 n1 z => ?_)
  · obtain ⟨j, hj, hp⟩ := hY y E1 n1 n9 z hn
    match j, hj, hp with
    | 0, hj, hp =>
      obtain rfl : "java/lang/IllegalArgumentException" = y := Option.some.inj hj
      refine ⟨6, cat_L_tolerates_0, fun q => ?_⟩
      refine g_astore_n (lv2 := [(2, _), (0, _), (1, _)]) (by decide) rfl dL_tolerates_6 ?_
      refine g_bipush (v := -2) dL_tolerates_7 (by decide) ?_
      exact g_iret hp rfl rfl dL_tolerates_9
    | j + 1, hj, hp => exact absurd hj (by simp)
  · obtain ⟨x, rfl, hp⟩ := hQ v E1 n1 z
    exact g_iret hp rfl rfl dL_tolerates_5
abbrev ML_rents : Mr := (RL, yL_rents, cL_rents, 3, some .int)
theorem hh_L_rents : gHH yL_rents = [(0, 5, 6, 36)] := by decide +kernel
theorem k_L_rents : CdW ML_rents ∈ wl := by
  unfold CdW
  rw [show gHH (ML_rents : Mr).2.1 = _ from hh_L_rents]
  exact (wl_5 155 rfl rfl)
theorem n_L_rents : nMH ML_rents 2 := ⟨⟨by decide +kernel, by decide +kernel⟩, by decide +kernel, by decide⟩
theorem l_L_253 : LkSH RL 253 ML_rents 2 := ⟨(wl_5 153 rfl rfl), (wl_5 154 rfl rfl), (wl_1 0 rfl rfl), k_L_rents, n_L_rents⟩
theorem cat_L_rents_0 : Cat ML_rents 2 "java/lang/IllegalArgumentException" 6 := ⟨[], 0, 5, 36, [], hh_L_rents, by decide, by decide, by decide, (wl_4 238 rfl rfl), List.mem_of_getElem? (i := 1) rfl, fun _ h => absurd h List.not_mem_nil⟩
set_option maxHeartbeats 1000000 in
theorem w_rents {w1 : Int32} (hr : Rcv Γ E ab RX7) (hd : d7 ≤ 12) (h : CtW Γ d7 MX7_setBaseRent mc ms [.ref ab, .int w1] E n P7 X7) (hQ : ∀ r E2 n2, P7 r E2 n2 → ∃ x : Int32, r = some (.int x) ∧ R r E2 n2) (hY : ∀ y E2 n2 n9, X7 y E2 n2 → n2 ≤ n9 → ∃ j : Nat, (["java/lang/IllegalArgumentException"] : List String)[j]? = some y ∧ R (some (.int ([(-2 : Int32)].getD j 0))) E2 n9) : CtH Γ 13 ML_rents mc ms [.ref ab, .int w1] E n R X0 := by
  refine CtH.of (by decide +kernel) rfl (Nat.le_of_ble_eq_true rfl) ?_
  refine G.sub (lv2 := [(0, _), (1, _)]) [0, 1] rfl ?_
  refine G.mono (kc2 := 0 + mc) (ks2 := 0 + ms) (by omega) (by omega) ?_
  refine g_aload_n 0 rfl dL_rents_0 ?_
  refine g_iload_n 1 rfl dL_rents_1 ?_
  refine gw_VC h l_L_68 rfl hr (by omega) (Nat.le_of_ble_eq_true rfl) rfl dL_rents_2 (fun y E1 n1 n9 z hn => ?_) (fun v E1 n1 z => ?_)
  · obtain ⟨j, hj, hp⟩ := hY y E1 n1 n9 z hn
    match j, hj, hp with
    | 0, hj, hp =>
      obtain rfl : "java/lang/IllegalArgumentException" = y := Option.some.inj hj
      refine ⟨6, cat_L_rents_0, fun q => ?_⟩
      refine g_astore_n (lv2 := [(2, _), (0, _), (1, _)]) (by decide) rfl dL_rents_6 ?_
      refine g_bipush (v := -2) dL_rents_7 (by decide) ?_
      exact g_iret hp rfl rfl dL_rents_9
    | j + 1, hj, hp => exact absurd hj (by simp)
  · obtain ⟨x, rfl, hp⟩ := hQ v E1 n1 z
    exact g_iret hp rfl rfl dL_rents_5
abbrev ML_lodgerAt : Mr := (RL, yL_lodgerAt, cL_lodgerAt, 4, some .int)
theorem hh_L_lodgerAt : gHH yL_lodgerAt = [(0, 6, 7, 34)] := by decide +kernel
theorem k_L_lodgerAt : CdW ML_lodgerAt ∈ wl := by
  unfold CdW
  rw [show gHH (ML_lodgerAt : Mr).2.1 = _ from hh_L_lodgerAt]
  exact (wl_6 31 rfl rfl)
theorem n_L_lodgerAt : nMH ML_lodgerAt 3 := ⟨⟨by decide +kernel, by decide +kernel⟩, by decide +kernel, by decide⟩
theorem l_L_170 : LkSH RL 170 ML_lodgerAt 3 := ⟨(wl_6 29 rfl rfl), (wl_6 30 rfl rfl), (wl_1 0 rfl rfl), k_L_lodgerAt, n_L_lodgerAt⟩
theorem cat_L_lodgerAt_0 : Cat ML_lodgerAt 3 "java/lang/IndexOutOfBoundsException" 7 := ⟨[], 0, 6, 34, [], hh_L_lodgerAt, by decide, by decide, by decide, (wl_4 237 rfl rfl), List.mem_of_getElem? (i := 0) rfl, fun _ h => absurd h List.not_mem_nil⟩
set_option maxHeartbeats 1000000 in
theorem w_lodgerAt {w1 w2 : Int32} (hr : Rcv Γ E ab RX7) (hd : d7 ≤ 12) (h : CtW Γ d7 MX7_lodgerOn mc ms [.ref ab, .int w1, .int w2] E n P7 X7) (hQ : ∀ r E2 n2, P7 r E2 n2 → ∃ x : Int32, r = some (.int x) ∧ R r E2 n2) (hY : ∀ y E2 n2 n9, X7 y E2 n2 → n2 ≤ n9 → ∃ j : Nat, (["java/lang/IndexOutOfBoundsException"] : List String)[j]? = some y ∧ R (some (.int ([(-5 : Int32)].getD j 0))) E2 n9) : CtH Γ 13 ML_lodgerAt mc ms [.ref ab, .int w1, .int w2] E n R X0 := by
  refine CtH.of (by decide +kernel) rfl (Nat.le_of_ble_eq_true rfl) ?_
  refine G.sub (lv2 := [(0, _), (1, _), (2, _)]) [0, 1, 2] rfl ?_
  refine G.mono (kc2 := 0 + mc) (ks2 := 0 + ms) (by omega) (by omega) ?_
  refine g_aload_n 0 rfl dL_lodgerAt_0 ?_
  refine g_iload_n 1 rfl dL_lodgerAt_1 ?_
  refine g_iload_n 2 rfl dL_lodgerAt_2 ?_
  refine gw_VC h l_L_71 rfl hr (by omega) (Nat.le_of_ble_eq_true rfl) rfl dL_lodgerAt_3 (fun y E1 n1 n9 z hn => ?_) (fun v E1 n1 z => ?_)
  · obtain ⟨j, hj, hp⟩ := hY y E1 n1 n9 z hn
    match j, hj, hp with
    | 0, hj, hp =>
      obtain rfl : "java/lang/IndexOutOfBoundsException" = y := Option.some.inj hj
      refine ⟨7, cat_L_lodgerAt_0, fun q => ?_⟩
      refine g_astore_n (lv2 := [(3, _), (0, _), (1, _), (2, _)]) (by decide) rfl dL_lodgerAt_7 ?_
      refine g_bipush (v := -5) dL_lodgerAt_8 (by decide) ?_
      exact g_iret hp rfl rfl dL_lodgerAt_10
    | j + 1, hj, hp => exact absurd hj (by simp)
  · obtain ⟨x, rfl, hp⟩ := hQ v E1 n1 z
    exact g_iret hp rfl rfl dL_lodgerAt_6
abbrev ML_average : Mr := (RL, yL_average, cL_average, 4, some .int)
theorem hh_L_average : gHH yL_average = [(0, 6, 7, 34), (0, 6, 11, 41)] := by decide +kernel
theorem k_L_average : CdW ML_average ∈ wl := by
  unfold CdW
  rw [show gHH (ML_average : Mr).2.1 = _ from hh_L_average]
  exact (wl_6 48 rfl rfl)
theorem n_L_average : nMH ML_average 3 := ⟨⟨by decide +kernel, by decide +kernel⟩, by decide +kernel, by decide⟩
theorem l_L_177 : LkSH RL 177 ML_average 3 := ⟨(wl_6 46 rfl rfl), (wl_6 47 rfl rfl), (wl_1 0 rfl rfl), k_L_average, n_L_average⟩
theorem cat_L_average_0 : Cat ML_average 3 "java/lang/IndexOutOfBoundsException" 7 := ⟨[], 0, 6, 34, [(0, 6, 11, 41)], hh_L_average, by decide, by decide, by decide, (wl_4 237 rfl rfl), List.mem_of_getElem? (i := 0) rfl, fun _ h => absurd h List.not_mem_nil⟩
theorem cat_L_average_1 : Cat ML_average 3 "java/lang/IllegalStateException" 11 := ⟨[(0, 6, 7, 34)], 0, 6, 41, [], hh_L_average, by decide, by decide, by decide, (wl_5 28 rfl rfl), List.mem_of_getElem? (i := 2) rfl, List.forall_mem_cons.mpr ⟨⟨by decide, _, (wl_4 237 rfl rfl), List.mem_of_getElem? (i := 1) rfl⟩, fun _ h => absurd h List.not_mem_nil⟩⟩
set_option maxHeartbeats 1000000 in
theorem w_average {w1 w2 : Int32} (hr : Rcv Γ E ab RX7) (hd : d7 ≤ 12) (h : CtW Γ d7 MX7_averageVowel mc ms [.ref ab, .int w1, .int w2] E n P7 X7) (hQ : ∀ r E2 n2, P7 r E2 n2 → ∃ x : Int32, r = some (.int x) ∧ R r E2 n2) (hY : ∀ y E2 n2 n9, X7 y E2 n2 → n2 ≤ n9 → ∃ j : Nat, (["java/lang/IndexOutOfBoundsException", "java/lang/IllegalStateException"] : List String)[j]? = some y ∧ R (some (.int ([(-5 : Int32), (-3 : Int32)].getD j 0))) E2 n9) : CtH Γ 13 ML_average mc ms [.ref ab, .int w1, .int w2] E n R X0 := by
  refine CtH.of (by decide +kernel) rfl (Nat.le_of_ble_eq_true rfl) ?_
  refine G.sub (lv2 := [(0, _), (1, _), (2, _)]) [0, 1, 2] rfl ?_
  refine G.mono (kc2 := 0 + mc) (ks2 := 0 + ms) (by omega) (by omega) ?_
  refine g_aload_n 0 rfl dL_average_0 ?_
  refine g_iload_n 1 rfl dL_average_1 ?_
  refine g_iload_n 2 rfl dL_average_2 ?_
  refine gw_VC h l_L_74 rfl hr (by omega) (Nat.le_of_ble_eq_true rfl) rfl dL_average_3 (fun y E1 n1 n9 z hn => ?_) (fun v E1 n1 z => ?_)
  · obtain ⟨j, hj, hp⟩ := hY y E1 n1 n9 z hn
    match j, hj, hp with
    | 0, hj, hp =>
      obtain rfl : "java/lang/IndexOutOfBoundsException" = y := Option.some.inj hj
      refine ⟨7, cat_L_average_0, fun q => ?_⟩
      refine g_astore_n (lv2 := [(3, _), (0, _), (1, _), (2, _)]) (by decide) rfl dL_average_7 ?_
      refine g_bipush (v := -5) dL_average_8 (by decide) ?_
      exact g_iret hp rfl rfl dL_average_10
    | 1, hj, hp =>
      obtain rfl : "java/lang/IllegalStateException" = y := Option.some.inj hj
      refine ⟨11, cat_L_average_1, fun q => ?_⟩
      refine g_astore_n (lv2 := [(3, _), (0, _), (1, _), (2, _)]) (by decide) rfl dL_average_11 ?_
      refine g_bipush (v := -3) dL_average_12 (by decide) ?_
      exact g_iret hp rfl rfl dL_average_14
    | j + 2, hj, hp => exact absurd hj (by simp)
  · obtain ⟨x, rfl, hp⟩ := hQ v E1 n1 z
    exact g_iret hp rfl rfl dL_average_6
/-- the wrapper's answer where the class throws -/
def Rno (n : Nat) (E : Hp) (x : Int32) : Po := fun r E2 n2 => r = some (.int x) ∧ E2 = E ∧ n ≤ n2
theorem v_advanced_no {ra B D s0 c kp : Nat} {g0 f : Nat → Int32} {top : Option (Nat → Int32)} {x : Int32} (h : IW Γ ab ra B D s0 g0 f c kp top E n) (hx : ¬ (nI 1 ≤ x ∧ x ≤ nI 100)) : CtH Γ 13 ML_advanced 1 6 [.ref ab, .int x] E n (Rno n E (-2)) X0 :=
  w_advanced h.rc (by decide) (CtW.rf (k_advance_no h hx)) (fun _ _ _ z => z.elim) (fun y E2 n2 n9 z hn => by obtain ⟨rfl, rfl, rfl⟩ := z; exact ⟨0, rfl, rfl, rfl, hn⟩)
theorem v_movedIn_noF {ra B D s0 c kp : Nat} {g0 f : Nat → Int32} {top : Option (Nat → Int32)} {x y z : Int32} (h : IW Γ ab ra B D s0 g0 f c kp top E n) (hx : ¬ (nI 0 ≤ x ∧ x ≤ nI 4)) : CtH Γ 13 ML_movedIn 1 6 [.ref ab, .int x, .int y, .int z] E n (Rno n E (-2)) X0 :=
  w_movedIn h.rc (by decide) (CtW.rf (k_moveIn_noF h hx)) (fun _ _ _ z => z.elim) (fun y E2 n2 n9 z hn => by obtain ⟨rfl, rfl, rfl⟩ := z; exact ⟨0, rfl, rfl, rfl, hn⟩)
theorem v_movedIn_noC {ra B D s0 c kp : Nat} {g0 f : Nat → Int32} {top : Option (Nat → Int32)} {φ p a : Nat} (h : IW Γ ab ra B D s0 g0 f c kp top E n) (hφ : φ < 5) (hp9 : p ≤ 999) (ha9 : a ≤ 99999) (hcl : ¬ c < 12) : CtH Γ 13 ML_movedIn 1 6 [.ref ab, .int (nI φ), .int (nI p), .int (nI a)] E n (Rno n E (-3)) X0 :=
  w_movedIn h.rc (by decide) (CtW.rf (k_moveIn_noC h hφ hp9 ha9 hcl)) (fun _ _ _ z => z.elim) (fun y E2 n2 n9 z hn => by obtain ⟨rfl, rfl, rfl⟩ := z; exact ⟨1, rfl, rfl, rfl, hn⟩)
theorem v_movedIn_noS {ra B D s0 c kp : Nat} {g0 f : Nat → Int32} {top : Option (Nat → Int32)} {φ p a : Nat} (h : IW Γ ab ra B D s0 g0 f c kp top E n) (hφ : φ < 5) (hp9 : p ≤ 999) (ha9 : a ≤ 99999) (hcl : c < 12) (hf4 : 4 ≤ cntOn f (nI φ) (-1) c) : CtH Γ 13 ML_movedIn 1 6 [.ref ab, .int (nI φ), .int (nI p), .int (nI a)] E n (Rno n E (-3)) X0 :=
  w_movedIn h.rc (by decide) (CtW.rf (k_moveIn_noS h hφ hp9 ha9 hcl hf4)) (fun _ _ _ z => z.elim) (fun y E2 n2 n9 z hn => by obtain ⟨rfl, rfl, rfl⟩ := z; exact ⟨1, rfl, rfl, rfl, hn⟩)
theorem v_movedOut_no {ra B D s0 c kp : Nat} {g0 f : Nat → Int32} {top : Option (Nat → Int32)} {x : Int32} (h : IW Γ ab ra B D s0 g0 f c kp top E n) (hx : ¬ (nI 0 ≤ x ∧ x ≤ nI c - nI 1)) : CtH Γ 13 ML_movedOut 1 6 [.ref ab, .int x] E n (Rno n E (9999)) X0 :=
  w_movedOut h.rc (by decide) (CtW.rf (k_moveOut_no h hx)) (fun _ _ _ z => z.elim) (fun y E2 n2 n9 z hn => by obtain ⟨rfl, rfl, rfl⟩ := z; exact ⟨0, rfl, rfl, rfl, hn⟩)
theorem v_movedTo_noL {ra B D s0 c kp : Nat} {g0 f : Nat → Int32} {top : Option (Nat → Int32)} {x y : Int32} (h : IW Γ ab ra B D s0 g0 f c kp top E n) (hx : ¬ (nI 0 ≤ x ∧ x ≤ nI c - nI 1)) : CtH Γ 13 ML_movedTo 1 6 [.ref ab, .int x, .int y] E n (Rno n E (-5)) X0 :=
  w_movedTo h.rc (by decide) (CtW.rf (k_moveTo_noL h hx)) (fun _ _ _ z => z.elim) (fun y E2 n2 n9 z hn => by obtain ⟨rfl, rfl, rfl⟩ := z; exact ⟨0, rfl, rfl, rfl, hn⟩)
theorem v_movedTo_noP {ra B D s0 c kp : Nat} {g0 f : Nat → Int32} {top : Option (Nat → Int32)} {k φ : Nat} (h : IW Γ ab ra B D s0 g0 f c kp top E n) (hk : k < c) (hφ : φ < 5) (hf4 : 4 ≤ cntOn f (nI φ) (nI k) c) : CtH Γ 13 ML_movedTo 1 6 [.ref ab, .int (nI k), .int (nI φ)] E n (Rno n E (-3)) X0 :=
  w_movedTo h.rc (by decide) (CtW.rf (k_moveTo_noP h hk hφ hf4)) (fun _ _ _ z => z.elim) (fun y E2 n2 n9 z hn => by obtain ⟨rfl, rfl, rfl⟩ := z; exact ⟨2, rfl, rfl, rfl, hn⟩)
theorem v_paid_noL {ra B D s0 c kp : Nat} {g0 f : Nat → Int32} {top : Option (Nat → Int32)} {x y : Int32} (h : IW Γ ab ra B D s0 g0 f c kp top E n) (hx : ¬ (nI 0 ≤ x ∧ x ≤ nI c - nI 1)) : CtH Γ 13 ML_paid 1 6 [.ref ab, .int x, .int y] E n (Rno n E (-99995)) X0 :=
  w_paid h.rc (by decide) (CtW.rf (k_pay_noL h hx)) (fun _ _ _ z => z.elim) (fun y E2 n2 n9 z hn => by obtain ⟨rfl, rfl, rfl⟩ := z; exact ⟨0, rfl, rfl, rfl, hn⟩)
theorem v_spoke_no {ra B D s0 c kp : Nat} {g0 f : Nat → Int32} {top : Option (Nat → Int32)} {x y : Int32} (h : IW Γ ab ra B D s0 g0 f c kp top E n) (hx : ¬ (nI 0 ≤ x ∧ x ≤ nI 4)) : CtH Γ 13 ML_spoke 1 6 [.ref ab, .int x, .int y] E n (Rno n E (-5)) X0 :=
  w_spoke h.rc (by decide) (CtW.rf (k_setLandladyVowel_no h hx)) (fun _ _ _ z => z.elim) (fun y E2 n2 n9 z hn => by obtain ⟨rfl, rfl, rfl⟩ := z; exact ⟨0, rfl, rfl, rfl, hn⟩)
theorem v_tolerates_no {ra B D s0 c kp : Nat} {g0 f : Nat → Int32} {top : Option (Nat → Int32)} {x : Int32} (h : IW Γ ab ra B D s0 g0 f c kp top E n) (hx : ¬ (nI 0 ≤ x ∧ x ≤ nI 45)) : CtH Γ 13 ML_tolerates 1 6 [.ref ab, .int x] E n (Rno n E (-2)) X0 :=
  w_tolerates h.rc (by decide) (CtW.rf (k_setTolerance_no h hx)) (fun _ _ _ z => z.elim) (fun y E2 n2 n9 z hn => by obtain ⟨rfl, rfl, rfl⟩ := z; exact ⟨0, rfl, rfl, rfl, hn⟩)
theorem v_rents_no {ra B D s0 c kp : Nat} {g0 f : Nat → Int32} {top : Option (Nat → Int32)} {x : Int32} (h : IW Γ ab ra B D s0 g0 f c kp top E n) (hx : ¬ (nI 0 ≤ x ∧ x ≤ nI 50)) : CtH Γ 13 ML_rents 1 6 [.ref ab, .int x] E n (Rno n E (-2)) X0 :=
  w_rents h.rc (by decide) (CtW.rf (k_setBaseRent_no h hx)) (fun _ _ _ z => z.elim) (fun y E2 n2 n9 z hn => by obtain ⟨rfl, rfl, rfl⟩ := z; exact ⟨0, rfl, rfl, rfl, hn⟩)
theorem v_undone_no {ra B D s0 c kp : Nat} {g0 f : Nat → Int32} {top : Option (Nat → Int32)}  (h : IW Γ ab ra B D s0 g0 f c kp top E n) (h0 : kp = 0) : CtH Γ 13 ML_undone 1 6 [.ref ab] E n (Rno n E (-1)) X0 :=
  w_undone h.rc (by decide) (CtW.rf (k_undo_no h h0)) (fun _ _ _ z => z.elim) (fun y E2 n2 n9 z hn => by obtain ⟨rfl, rfl, rfl⟩ := z; exact ⟨0, rfl, rfl, rfl, hn⟩)
theorem v_lodgerAt_no {ra B D s0 c kp : Nat} {g0 f : Nat → Int32} {top : Option (Nat → Int32)} {φ p : Nat} (h : IW Γ ab ra B D s0 g0 f c kp top E n) (hφ : φ < 5) (hp31 : p < 2 ^ 31) (hp : plF f (nI φ) c 0 p = none) : CtH Γ 13 ML_lodgerAt 1 6 [.ref ab, .int (nI φ), .int (nI p)] E n (Rno n E (-5)) X0 :=
  w_lodgerAt h.rc (by decide) (CtW.rf (k_lodgerOn_no h hφ hp31 hp)) (fun _ _ _ z => z.elim) (fun y E2 n2 n9 z hn => by obtain ⟨rfl, rfl, rfl⟩ := z; exact ⟨0, rfl, rfl, rfl, hn⟩)
theorem v_average_no {ra B D s0 c kp : Nat} {g0 f : Nat → Int32} {top : Option (Nat → Int32)} {φ v : Nat} (h : IW Γ ab ra B D s0 g0 f c kp top E n) (hφ : φ < 5) (hv5 : v < 5) (h0 : cntA f (nI φ) c = 0) : CtH Γ 13 ML_average 1 6 [.ref ab, .int (nI φ), .int (nI v)] E n (Rno n E (-3)) X0 :=
  w_average h.rc (by decide) (CtW.rf (k_averageVowel_no h hφ hv5 h0)) (fun _ _ _ z => z.elim) (fun y E2 n2 n9 z hn => by obtain ⟨rfl, rfl, rfl⟩ := z; exact ⟨1, rfl, rfl, rfl, hn⟩)
theorem v_paid {ra B D s0 c kp : Nat} {g0 f : Nat → Int32} {top : Option (Nat → Int32)} {k p : Nat} (h : IW Γ ab ra B D s0 g0 f c kp top E n) (hk : k < c) (hp1 : 1 ≤ p) (hp9 : p ≤ 999) (hB : B + 999 < 2 ^ 31) : CtH Γ 13 ML_paid 0 0 [.ref ab, .int (nI k), .int (nI p)] E n (fun r E2 n2 => r = some (.int (payF f k (nI p) (13 + 16 * k + 1))) ∧ n2 = n ∧ IW Γ ab ra (B + 999) D s0 g0 (payF f k (nI p)) c (remM kp) (some f) E2 n2) X0 :=
  w_paid h.rc (by decide) (k_pay h hk hp1 hp9 hB) (fun r E2 n2 z => ⟨_, z.1, z⟩) (fun _ _ _ _ z => z.elim)
theorem v_movedTo {ra B D s0 c kp : Nat} {g0 f : Nat → Int32} {top : Option (Nat → Int32)} {k φ : Nat} (h : IW Γ ab ra B D s0 g0 f c kp top E n) (hk : k < c) (hφ : φ < 5) (hf4 : ¬ cntOn f (nI φ) (nI k) c = 4) : CtH Γ 13 ML_movedTo 0 0 [.ref ab, .int (nI k), .int (nI φ)] E n (fun r E2 n2 => r = some (.int (f (13 + 16 * k))) ∧ n2 = n ∧ IW Γ ab ra B D s0 g0 (upd f (13 + 16 * k) (nI φ)) c (remM kp) (some f) E2 n2) X0 :=
  w_movedTo h.rc (by decide) (k_moveTo h hk hφ hf4) (fun r E2 n2 z => ⟨_, z.1, z⟩) (fun _ _ _ _ z => z.elim)
theorem v_movedOut {ra B D s0 c kp : Nat} {g0 f : Nat → Int32} {top : Option (Nat → Int32)} {k : Nat} (h : IW Γ ab ra B D s0 g0 f c kp top E n) (hk : k < c) : CtH Γ 13 ML_movedOut 0 0 [.ref ab, .int (nI k)] E n (fun r E2 n2 => r = some (.int (f (13 + 16 * k + 1))) ∧ n2 = n ∧ IW Γ ab ra B D s0 g0 (gonF f k c) (c - 1) (remM kp) (some f) E2 n2) X0 :=
  w_movedOut h.rc (by decide) (k_moveOut h hk) (fun r E2 n2 z => ⟨_, z.1, z⟩) (fun _ _ _ _ z => z.elim)
theorem v_spoke {ra B D s0 c kp : Nat} {g0 f : Nat → Int32} {top : Option (Nat → Int32)} {v p : Nat} (h : IW Γ ab ra B D s0 g0 f c kp top E n) (hv5 : v < 5) (hp9 : p ≤ 9) : CtH Γ 13 ML_spoke 0 0 [.ref ab, .int (nI v), .int (nI p)] E n (fun r E2 n2 => r = some (.int (f (2 + v))) ∧ n2 = n ∧ IW Γ ab ra B D s0 g0 (upd f (2 + v) (nI p)) c (remM kp) (some f) E2 n2) X0 :=
  w_spoke h.rc (by decide) (k_setLandladyVowel h hv5 hp9) (fun r E2 n2 z => ⟨_, z.1, z⟩) (fun _ _ _ _ z => z.elim)
theorem v_tolerates {ra B D s0 c kp : Nat} {g0 f : Nat → Int32} {top : Option (Nat → Int32)} {p : Nat} (h : IW Γ ab ra B D s0 g0 f c kp top E n) (hp : p ≤ 45) : CtH Γ 13 ML_tolerates 0 0 [.ref ab, .int (nI p)] E n (fun r E2 n2 => r = some (.int (f 1)) ∧ n2 = n ∧ IW Γ ab ra B D s0 g0 (upd f 1 (nI p)) c (remM kp) (some f) E2 n2) X0 :=
  w_tolerates h.rc (by decide) (k_setTolerance h hp) (fun r E2 n2 z => ⟨_, z.1, z⟩) (fun _ _ _ _ z => z.elim)
theorem v_rents {ra B D s0 c kp : Nat} {g0 f : Nat → Int32} {top : Option (Nat → Int32)} {p : Nat} (h : IW Γ ab ra B D s0 g0 f c kp top E n) (hp : p ≤ 50) : CtH Γ 13 ML_rents 0 0 [.ref ab, .int (nI p)] E n (fun r E2 n2 => r = some (.int (f 0)) ∧ n2 = n ∧ IW Γ ab ra B D s0 g0 (upd f 0 (nI p)) c (remM kp) (some f) E2 n2) X0 :=
  w_rents h.rc (by decide) (k_setBaseRent h hp) (fun r E2 n2 z => ⟨_, z.1, z⟩) (fun _ _ _ _ z => z.elim)
theorem v_movedIn {ra B D s0 c kp : Nat} {g0 f : Nat → Int32} {top : Option (Nat → Int32)} {φ p a : Nat} (h : IW Γ ab ra B D s0 g0 f c kp top E n) (hφ : φ < 5) (hp9 : p ≤ 999) (ha9 : a ≤ 99999) (hcl : c < 12) (hf4 : ¬ cntOn f (nI φ) (-1) c = 4) (hpB : p ≤ B) (hB : B < 2 ^ 31) : CtH Γ 13 ML_movedIn 2 44 [.ref ab, .int (nI φ), .int (nI p), .int (nI a)] E n (fun r E2 n2 => r = some (.int (nI c)) ∧ n2 = n + 2 ∧ IW Γ ab ra B D s0 g0 (upd (comF f (nI φ) (nI p) a c) (13 + 16 * c + 10) (nI (frL f c 26 97))) (c + 1) (remM kp) (some f) E2 n2) X0 :=
  w_movedIn h.rc (by decide) (k_moveIn h hφ hp9 ha9 hcl hf4 hpB hB) (fun r E2 n2 z => ⟨_, z.1, z⟩) (fun _ _ _ _ z => z.elim)
theorem v_advanced {ra B D s0 c kp : Nat} {g0 f : Nat → Int32} {top : Option (Nat → Int32)} {t dy : Nat} {J : Nat → Int32} (h : IW Γ ab ra B D s0 g0 f c kp top E n) (ht1 : 1 ≤ t) (ht2 : t ≤ 100) (h8 : f 8 = nI dy) (hd : dy ≤ D) (hD : D + t ≤ 9999) (hB : B + 7000 < 2 ^ 31) : CtH Γ 13 ML_advanced 0 0 [.ref ab, .int (nI t)] E n (fun r E2 n2 => ∃ c2, c2 ≤ c ∧ r = some (.int (nI (c - c2))) ∧ n2 = n ∧ (dysM f J t).1 7 = nI c2 ∧ (dysM f J t).1 9 = f 9 + nI (c - c2) ∧ (c2 = c → (dysM f J t).2 = J ∧ (dysM f J t).1 12 = f 12) ∧ IW Γ ab ra (B + 7000) (D + t) s0 g0 (dysM f J t).1 c2 (remM kp) (some f) E2 n2) X0 :=
  w_advanced h.rc (by decide) (k_advance (J := J) h ht1 ht2 h8 hd hD hB) (fun r E2 n2 z => by obtain ⟨c2, a1, a2, a3⟩ := z; exact ⟨_, a2, c2, a1, a2, a3⟩) (fun _ _ _ _ z => z.elim)
theorem v_undone {ra B D s0 c kp : Nat} {g0 f : Nat → Int32} {top : Option (Nat → Int32)}  (h : IW Γ ab ra B D s0 g0 f c kp top E n) (hk : 0 < kp) : CtH Γ 13 ML_undone 0 0 [.ref ab] E n (fun r E2 n2 => r = some (.int (nI (kp - 1))) ∧ n2 = n ∧ ((∀ t ct, top = some t → Gd D t ct → IW Γ ab ra B D s0 g0 t ct (kp - 1) none E2 n2) ∧ ∃ g c2, IW Γ ab ra B D s0 g0 g c2 (kp - 1) none E2 n2)) X0 :=
  w_undone h.rc (by decide) (k_undo h hk) (fun r E2 n2 z => ⟨_, z.1, z⟩) (fun _ _ _ _ z => z.elim)
theorem v_lodgerAt {ra B D s0 c kp : Nat} {g0 f : Nat → Int32} {top : Option (Nat → Int32)} {φ p r : Nat} (h : IW Γ ab ra B D s0 g0 f c kp top E n) (hφ : φ < 5) (hp31 : p < 2 ^ 31) (hp : plF f (nI φ) c 0 p = some r) : CtH Γ 13 ML_lodgerAt 0 0 [.ref ab, .int (nI φ), .int (nI p)] E n (Rt (some (.int (nI r))) E n) X0 :=
  w_lodgerAt h.rc (by decide) (CtW.rf (k_lodgerOn h hφ hp31 hp)) (fun r E2 n2 z => ⟨_, z.1, z⟩) (fun _ _ _ _ z => z.elim)
theorem v_average {ra B D s0 c kp : Nat} {g0 f : Nat → Int32} {top : Option (Nat → Int32)} {φ v : Nat} (h : IW Γ ab ra B D s0 g0 f c kp top E n) (hφ : φ < 5) (hv5 : v < 5) (h0 : ¬ cntA f (nI φ) c = 0) : CtH Γ 13 ML_average 0 0 [.ref ab, .int (nI φ), .int (nI v)] E n (Rt (some (.int (avgF f (nI φ) v c))) E n) X0 :=
  w_average h.rc (by decide) (CtW.rf (k_averageVowel h hφ hv5 h0)) (fun r E2 n2 z => ⟨_, z.1, z⟩) (fun _ _ _ _ z => z.elim)
/-! calls whose answer is a number, by the law -/
section
variable {d d1 k ix pc kc ks b : Nat} {M M1 : Mr} {P P1 : Po} {X : Px} {lv : List (Nat × Value)} {st rest As : List Value}
theorem g_SHi (hC : CtH Γ d1 M1 mc ms As E n P1 X0) (lk : LkSH M.1 ix M1 k) (hk : As.length = k) (hd : d1 + 1 ≤ d) (hrest : (rest.map fun v => v.category).sum ≤ 8) (hst : st = As.reverse ++ rest) (dg : decode M.2.2.1 pc = .ok (.invokestatic ix, 3)) (hv : ∀ v E1 n1, P1 v E1 n1 → ∃ x : Int32, v = some (.int x))
    (kk : ∀ (x : Int32) E1 n1, P1 (some (.int x)) E1 n1 → G Γ d M P X (pc + 3) lv (.int x :: rest) E1 n1 kc ks) : G Γ d M P X pc lv st E n (kc + mc) (ks + ms) := g_invSH hC lk hk hd hrest hst dg (fun _ _ _ h => h.elim) (fun v E1 n1 h => by
  obtain ⟨x, rfl⟩ := hv _ _ _ h
  exact kk x E1 n1 h)
theorem gw_Vi (hC : CtW Γ d1 M1 mc ms (.ref b :: As) E n P1 X0) (lk : LkV M.1 ix M1 k) (hk : As.length = k) (hr : Rcv Γ E b M1.1) (hd : d1 + 1 ≤ d) (hrest : (rest.map fun v => v.category).sum ≤ 8) (hst : st = As.reverse ++ .ref b :: rest) (dg : decode M.2.2.1 pc = .ok (.invokevirtual ix, 3)) (hv : ∀ v E1 n1, P1 v E1 n1 → ∃ x : Int32, v = some (.int x))
    (kk : ∀ (x : Int32) E1 n1, P1 (some (.int x)) E1 n1 → G Γ d M P X (pc + 3) lv (.int x :: rest) E1 n1 kc ks) : G Γ d M P X pc lv st E n (kc + mc) (ks + ms) := gw_V hC lk hk hr hd hrest hst dg (fun _ _ _ h => h.elim) (fun v E1 n1 h => by
  obtain ⟨x, rfl⟩ := hv _ _ _ h
  exact kk x E1 n1 h)
/-- a static method's answer, not one value -/
theorem g_Sz (hC : Ct Γ d1 M1 mc ms As E n P1 X0) (lk : LkS M.1 ix M1 k) (hk : As.length = k) (hd : d1 + 1 ≤ d) (hrest : (rest.map fun v => v.category).sum ≤ 8) (hst : st = As.reverse ++ rest) (dg : decode M.2.2.1 pc = .ok (.invokestatic ix, 3)) {v : Value} (hv : ∀ r E1 n1, P1 r E1 n1 → r = some v)
    (kk : ∀ E1 n1, P1 (some v) E1 n1 → G Γ d M P X (pc + 3) lv (v :: rest) E1 n1 kc ks) : G Γ d M P X pc lv st E n (kc + mc) (ks + ms) := g_invS hC lk hk hd hrest hst dg (fun _ _ _ h => h.elim) (fun r E1 n1 h => by
  obtain rfl := hv _ _ _ h
  exact kk E1 n1 h)
end
end GWR2
