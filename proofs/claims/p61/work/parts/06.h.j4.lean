section GJ4
set_option maxRecDepth 100000 in
set_option maxHeartbeats 4000000 in
theorem c_J5_init_d00df {Γ : Gm} {n : Nat} {E : Hp} {a : Nat} (ha : E a = some (.inr (1, [.null, .int (nI 0), .int (nI 0), .int (nI 0)]))) : Ct Γ 2 MJ5_init_d00df 1 (0 + 16) [.ref a, .int (nI 16)] (E) n (Rt none (hset (hset E n (.inl (gA Γ 1, 16, .inl (fun _ => nI 0)))) a (.inr (1, [.ref n, .int (nI 0), .int (nI 0), .int (nI 0)]))) (n + 1)) X0 := by
  refine Ct.of (by decide +kernel) rfl (Nat.le_of_ble_eq_true rfl) ?_
  refine G.sub (lv2 := [(0, _), (1, _)]) [0, 1] rfl ?_
  refine g_aload_n 0 rfl dJ5_init_d00df_0 ?_
  refine g_objInit (wl_1 45 rfl rfl) (wl_1 35 rfl rfl) (wl_1 36 rfl rfl) (Nat.le_of_ble_eq_true rfl) (Nat.le_of_ble_eq_true rfl) dJ5_init_d00df_1 ?_
  refine g_gets 5 rfl z_J5_18 dJ5_init_d00df_4 ?_
  refine g_if_eq (tgt := 25) (by decide) dJ5_init_d00df_7 (fun cc1 => ?_) (fun cc1 => ?_)
  · -- t 25
    exact absurd cc1 (by decide)
  · -- f 10
    refine g_aload_n 0 rfl dJ5_init_d00df_10 ?_
    refine g_iload_n 1 rfl dJ5_init_d00df_11 ?_
    refine gn_nb (wl_1 69 rfl rfl) (by omega) dJ5_init_d00df_12 (fun hB12 hf12 => ?_)
    have ha1 := (hset_n (e := (.inl (gA Γ 1, 16, .inl (fun _ => nI 0)))) (Nat.ne_of_lt (hf12 _ _ ha))).trans ha
    refine g_put2 f_J5_15 w_J4_0 ha1 (Nat.le_of_ble_eq_true rfl) rfl rfl rfl dJ5_init_d00df_14 ?_
    refine g_aload_n 0 rfl dJ5_init_d00df_17 ?_
    refine gn_ic 0 (by decide) dJ5_init_d00df_18 ?_
    refine g_put2 f_J5_22 w_J4_1 hset_s (Nat.le_of_ble_eq_true rfl) rfl rfl rfl dJ5_init_d00df_19 ?_
    refine g_goto (tgt := 38) (by decide) dJ5_init_d00df_22 ?_
    exact g_vret ⟨rfl, hset_hs, rfl⟩ rfl dJ5_init_d00df_38
set_option maxRecDepth 100000 in
set_option maxHeartbeats 4000000 in
theorem c_J4_init_da8c8 {Γ : Gm} {n : Nat} {E : Hp} {a : Nat} (ha : E a = some (.inr (1, [.null, .int (nI 0), .int (nI 0), .int (nI 0)]))) : Ct Γ 3 MJ4_init_da8c8 1 (0 + 16) [.ref a] (E) n (Rt none (hset (hset E n (.inl (gA Γ 1, 16, .inl (fun _ => nI 0)))) a (.inr (1, [.ref n, .int (nI 0), .int (nI 0), .int (nI 0)]))) (n + 1)) X0 := by
  refine Ct.of (by decide +kernel) rfl (Nat.le_of_ble_eq_true rfl) ?_
  refine G.sub (lv2 := [(0, _)]) [0] rfl ?_
  refine g_aload_n 0 rfl dJ4_init_da8c8_0 ?_
  refine gn_bp 16 (by decide) dJ4_init_da8c8_1 ?_
  refine gu_I (c_J5_init_d00df ha) l_J4_1 rfl (Nat.le_of_ble_eq_true rfl) (Nat.le_of_ble_eq_true rfl) rfl dJ4_init_da8c8_3 ?_
  exact g_vret ⟨rfl, rfl, rfl⟩ rfl dJ4_init_da8c8_6
set_option maxRecDepth 100000 in
set_option maxHeartbeats 4000000 in
theorem c_J0_init_031fb {Γ : Gm} {n : Nat} {E : Hp} {o v : Nat} (ho : E o = some (.inr (0, [.null, .int (nI 0), .int (nI 0), .int (nI 0)]))) : Ct Γ 2 MJ0_init_031fb 0 0 [.ref o, .ref v, .int (nI 0)] (E) n (Rt none (hset E o (.inr (0, [.ref v, .int (nI 0), .int (nI 0), .int (nI 0)]))) n) X0 := by
  refine Ct.of (by decide +kernel) rfl (Nat.le_of_ble_eq_true rfl) ?_
  refine G.sub (lv2 := [(0, _), (1, _), (2, _)]) [0, 1, 2] rfl ?_
  refine g_aload_n 0 rfl dJ0_init_031fb_0 ?_
  refine g_objInit (wl_3 83 rfl rfl) (wl_1 35 rfl rfl) (wl_1 36 rfl rfl) (Nat.le_of_ble_eq_true rfl) (Nat.le_of_ble_eq_true rfl) dJ0_init_031fb_1 ?_
  refine g_aload_n 0 rfl dJ0_init_031fb_4 ?_
  refine g_aload_n 1 rfl dJ0_init_031fb_5 ?_
  refine g_putF f_J0_9 w_J0_0 ⟨_, _, rfl⟩ rfl ho (Nat.le_of_ble_eq_true rfl) rfl rfl rfl dJ0_init_031fb_6 ?_
  refine g_aload_n 0 rfl dJ0_init_031fb_9 ?_
  refine g_iload_n 2 rfl dJ0_init_031fb_10 ?_
  refine g_putF f_J0_15 w_J0_1 ⟨_, _, rfl⟩ rfl hset_s (Nat.le_of_ble_eq_true rfl) rfl rfl rfl dJ0_init_031fb_11 ?_
  exact g_vret ⟨rfl, hset_hs, rfl⟩ rfl dJ0_init_031fb_14
set_option maxRecDepth 100000 in
set_option maxHeartbeats 4000000 in
theorem c_J7_checkLength_df160 {Γ : Gm} {n : Nat} {E : Hp} {x y : Nat} (hxy : x ≤ y) (hy : y < 1000) : Ct Γ 4 MJ7_checkLength_df160 0 0 [.int (nI x), .int (nI y)] (E) n (Rt none (E) n) X0 := by
  refine Ct.of (by decide +kernel) rfl (Nat.le_of_ble_eq_true rfl) ?_
  refine G.sub (lv2 := [(0, _), (1, _)]) [0, 1] rfl ?_
  refine g_iload_n 1 rfl dJ7_checkLength_df160_0 ?_
  refine g_iload_n 0 rfl dJ7_checkLength_df160_1 ?_
  refine gn_icmp_ge (by omega) (by omega) (tgt := 37) (by decide) dJ7_checkLength_df160_2 (fun h2 => ?_) (fun h2 => ?_)
  · -- t 37
    exact g_vret ⟨rfl, rfl, rfl⟩ rfl dJ7_checkLength_df160_37
  · -- f 5
    exfalso; omega
set_option maxRecDepth 100000 in
set_option maxHeartbeats 4000000 in
theorem c_J7_copyOfRangeByte_39247 {Γ : Gm} {n : Nat} {E : Hp} {v N x y : Nat} {b : Nat → Int32} (htb : BA Γ E v N b) (ht7 : A7 b N) (hxy : x ≤ y) (hyN : y ≤ N) (hN : N < 1000) (h40 : y - x ≤ 40) : Ct Γ 5 MJ7_copyOfRangeByte_39247 1 40 [.ref v, .int (nI x), .int (nI y)] (E) n (Rt (some (.ref n)) (hset E n (.inl (gA Γ 1, y - x, .inl (va_cpy b (fun _ => nI 0) x 0 (y - x))))) (n + 1)) X0 := by
  refine Ct.of (by decide +kernel) rfl (Nat.le_of_ble_eq_true rfl) ?_
  refine G.mono (kc2 := 1) (ks2 := 0 + (y - x)) (Nat.le_refl _) (by omega) ?_
  refine G.sub (lv2 := [(0, _), (1, _), (2, _)]) [0, 1, 2] rfl ?_
  refine g_iload_n 1 rfl dJ7_copyOfRangeByte_39247_0 ?_
  refine g_iload_n 2 rfl dJ7_copyOfRangeByte_39247_1 ?_
  refine gu_S (c_J7_checkLength_df160 hxy (by omega)) l_J7_343 rfl (Nat.le_of_ble_eq_true rfl) (Nat.le_of_ble_eq_true rfl) rfl dJ7_copyOfRangeByte_39247_2 ?_
  refine g_iload_n 2 rfl dJ7_copyOfRangeByte_39247_5 ?_
  refine g_iload_n 1 rfl dJ7_copyOfRangeByte_39247_6 ?_
  refine gn_isub (by omega) dJ7_copyOfRangeByte_39247_7 ?_
  refine g_istore_n (lv2 := [(3, _), (0, _), (1, _), (2, _)]) (by decide) rfl dJ7_copyOfRangeByte_39247_8 ?_
  refine g_iload_n 0 rfl dJ7_copyOfRangeByte_39247_9 ?_
  refine gn_nb (wl_1 69 rfl rfl) (by omega) dJ7_copyOfRangeByte_39247_10 (fun hB10 hf10 => ?_)
  have htb1 := htb.mono (E2 := hset E n (.inl (gA Γ 1, y - x, .inl (fun _ => nI 0)))) (fun e he => (hset_n (Nat.ne_of_lt (hf10 _ _ he))).trans he)
  refine g_astore (lv2 := [(4, _), (3, _), (0, _), (1, _), (2, _)]) (by decide) rfl dJ7_copyOfRangeByte_39247_12 ?_
  refine g_aload_n 2 rfl dJ7_copyOfRangeByte_39247_14 ?_
  refine g_iload_n 3 rfl dJ7_copyOfRangeByte_39247_15 ?_
  refine g_aload 0 rfl dJ7_copyOfRangeByte_39247_16 ?_
  refine gn_ic 0 (by decide) dJ7_copyOfRangeByte_39247_18 ?_
  refine g_aload_n 2 rfl dJ7_copyOfRangeByte_39247_19 ?_
  refine g_blen htb1 dJ7_copyOfRangeByte_39247_20 ?_
  refine g_iload_n 3 rfl dJ7_copyOfRangeByte_39247_21 ?_
  refine gn_isub (by omega) dJ7_copyOfRangeByte_39247_22 ?_
  refine g_iload_n 1 rfl dJ7_copyOfRangeByte_39247_23 ?_
  refine g_mmin l_J7_304 (by omega) (by omega) (Nat.le_of_ble_eq_true rfl) (Nat.le_of_ble_eq_true rfl) dJ7_copyOfRangeByte_39247_24 ?_
  refine g_top (y := nI (y - x)) (by rw [Nat.min_eq_right (by omega)]) ?_
  refine g_copy (t := 1) (ty := .byte) ac_J7_150 ac_n ac_s ac_i (Srd.ba htb1) hset_s rfl rfl (by omega) (by omega) ⟨by omega, by omega, by omega⟩ (fun i hi => ht7.fit (by omega)) (Nat.le_of_ble_eq_true rfl) (Nat.le_of_ble_eq_true rfl) hset_hs dJ7_copyOfRangeByte_39247_27 ?_
  refine g_aload 0 rfl dJ7_copyOfRangeByte_39247_30 ?_
  exact g_aretA ⟨rfl, rfl, rfl⟩ rfl dJ7_copyOfRangeByte_39247_32
set_option maxRecDepth 100000 in
set_option maxHeartbeats 4000000 in
theorem c_J7_copyOfRange_39247 {Γ : Gm} {n : Nat} {E : Hp} {v N x y : Nat} {b : Nat → Int32} (htb : BA Γ E v N b) (ht7 : A7 b N) (hxy : x ≤ y) (hyN : y ≤ N) (hN : N < 1000) (h40 : y - x ≤ 40) (hne : x ≠ 0 ∨ y ≠ N) : Ct Γ 6 MJ7_copyOfRange_39247 1 40 [.ref v, .int (nI x), .int (nI y)] (E) n (Rt (some (.ref n)) (hset E n (.inl (gA Γ 1, y - x, .inl (va_cpy b (fun _ => nI 0) x 0 (y - x))))) (n + 1)) X0 := by
  refine Ct.of (by decide +kernel) rfl (Nat.le_of_ble_eq_true rfl) ?_
  refine G.sub (lv2 := [(0, _), (1, _), (2, _)]) [0, 1, 2] rfl ?_
  refine g_iload_n 1 rfl dJ7_copyOfRange_39247_0 ?_
  refine gn_if_ne (by omega) (tgt := 10) (by decide) dJ7_copyOfRange_39247_1 (fun cc1 => ?_) (fun cc1 => ?_)
  · -- t 10
    refine g_aload_n 0 rfl dJ7_copyOfRange_39247_10 ?_
    refine g_iload_n 1 rfl dJ7_copyOfRange_39247_11 ?_
    refine g_iload_n 2 rfl dJ7_copyOfRange_39247_12 ?_
    refine gv_S (c_J7_copyOfRangeByte_39247 htb ht7 hxy hyN hN h40) l_J7_339 rfl (Nat.le_of_ble_eq_true rfl) (Nat.le_of_ble_eq_true rfl) rfl dJ7_copyOfRange_39247_13 ?_
    exact g_aretA ⟨rfl, rfl, rfl⟩ rfl dJ7_copyOfRange_39247_16
  · -- f 4
    refine g_iload_n 2 rfl dJ7_copyOfRange_39247_4 ?_
    refine g_aload_n 0 rfl dJ7_copyOfRange_39247_5 ?_
    refine g_blen htb dJ7_copyOfRange_39247_6 ?_
    refine gn_icmp_eq (by omega) (by omega) (tgt := 17) (by decide) dJ7_copyOfRange_39247_7 (fun cc2 => ?_) (fun cc2 => ?_)
    · -- t 17
      exfalso; omega
    · -- f 10
      refine g_aload_n 0 rfl dJ7_copyOfRange_39247_10 ?_
      refine g_iload_n 1 rfl dJ7_copyOfRange_39247_11 ?_
      refine g_iload_n 2 rfl dJ7_copyOfRange_39247_12 ?_
      refine gv_S (c_J7_copyOfRangeByte_39247 htb ht7 hxy hyN hN h40) l_J7_339 rfl (Nat.le_of_ble_eq_true rfl) (Nat.le_of_ble_eq_true rfl) rfl dJ7_copyOfRange_39247_13 ?_
      exact g_aretA ⟨rfl, rfl, rfl⟩ rfl dJ7_copyOfRange_39247_16
set_option maxRecDepth 100000 in
set_option maxHeartbeats 4000000 in
theorem c_J0_init_db425 {Γ : Gm} {n : Nat} {E : Hp} {o a v cap cnt : Nat} {b : Nat → Int32} (ho : E o = some (.inr (0, [.null, .int (nI 0), .int (nI 0), .int (nI 0)]))) (hSB : SB Γ E a v cap b cnt) (hcc : cnt ≠ cap) : Ct Γ 7 MJ0_init_db425 1 40 [.ref o, .ref a, .null] (E) n (Rt none (hset (hset E n (.inl (gA Γ 1, cnt - 0, .inl (va_cpy b (fun _ => nI 0) 0 0 (cnt - 0))))) o (.inr (0, [.ref n, .int (nI 0), .int (nI 0), .int (nI 0)]))) (n + 1)) X0 := by
  refine Ct.of (by decide +kernel) rfl (Nat.le_of_ble_eq_true rfl) ?_
  refine G.lt (fun hlt hgB => ?_)
  obtain ⟨⟨ml, hs⟩, hv, hb7, hcap, hc⟩ := id hSB
  have hao : a ≠ o := fun e => by rw [e] at hs; rw [ho] at hs; cases hs
  refine G.sub (lv2 := [(0, _), (1, _), (2, _)]) [0, 1, 2] rfl ?_
  refine g_aload_n 0 rfl dJ0_init_db425_0 ?_
  refine g_objInit (wl_3 83 rfl rfl) (wl_1 35 rfl rfl) (wl_1 36 rfl rfl) (Nat.le_of_ble_eq_true rfl) (Nat.le_of_ble_eq_true rfl) dJ0_init_db425_1 ?_
  refine g_aload_n 1 rfl dJ0_init_db425_4 ?_
  refine gv_Y (c_J5_getValue_6d5f1 hs) l_J0_552 rfl hSB.rcv (Nat.le_of_ble_eq_true rfl) (Nat.le_of_ble_eq_true rfl) rfl dJ0_init_db425_5 ?_
  refine g_astore_n (lv2 := [(3, _), (0, _), (1, _), (2, _)]) (by decide) rfl dJ0_init_db425_8 ?_
  refine g_aload_n 2 rfl dJ0_init_db425_9 ?_
  refine gv_Y (c_J4_length_8abf5 hSB) l_J0_549 rfl hSB.rcv (Nat.le_of_ble_eq_true rfl) (Nat.le_of_ble_eq_true rfl) rfl dJ0_init_db425_10 ?_
  refine g_istore (lv2 := [(4, _), (3, _), (0, _), (1, _), (2, _)]) (by decide) rfl dJ0_init_db425_13 ?_
  refine g_aload_n 3 rfl dJ0_init_db425_15 ?_
  refine gv_Y (c_J5_isLatin1_aae02 hs) l_J0_1047 rfl hSB.rcv (Nat.le_of_ble_eq_true rfl) (Nat.le_of_ble_eq_true rfl) rfl dJ0_init_db425_16 ?_
  refine gn_if_eq (by omega) (tgt := 41) (by decide) dJ0_init_db425_19 (fun cc1 => ?_) (fun cc1 => ?_)
  · -- t 41
    exact absurd cc1 (by decide)
  · -- f 22
    refine g_aload_n 2 rfl dJ0_init_db425_22 ?_
    refine gn_ic 0 (by decide) dJ0_init_db425_23 ?_
    refine g_putF f_J0_15 w_J0_1 ⟨_, _, rfl⟩ rfl ho (Nat.le_of_ble_eq_true rfl) rfl rfl rfl dJ0_init_db425_24 ?_
    refine g_world (E2 := E) (hset_id ho) ?_
    refine g_aload_n 2 rfl dJ0_init_db425_27 ?_
    refine g_aload_n 1 rfl dJ0_init_db425_28 ?_
    refine gn_ic 0 (by decide) dJ0_init_db425_29 ?_
    refine g_iload 0 rfl dJ0_init_db425_30 ?_
    refine gv_S (c_J7_copyOfRange_39247 (Or.inl hv) hb7 (Nat.zero_le _) hc (by omega) (by omega) (Or.inr hcc)) l_J0_54 rfl (Nat.le_of_ble_eq_true rfl) (Nat.le_of_ble_eq_true rfl) rfl dJ0_init_db425_32 ?_
    have ho1 : hset E n (.inl (gA Γ 1, cnt - 0, .inl (va_cpy b (fun _ => nI 0) 0 0 (cnt - 0)))) o = _ := (hset_n (e := (.inl (gA Γ 1, cnt - 0, .inl (va_cpy b (fun _ => nI 0) 0 0 (cnt - 0))))) (Nat.ne_of_lt (hlt _ _ ho))).trans ho
    refine g_putF f_J0_9 w_J0_0 ⟨_, _, rfl⟩ rfl ho1 (Nat.le_of_ble_eq_true rfl) rfl rfl rfl dJ0_init_db425_35 ?_
    refine g_goto (tgt := 97) (by decide) dJ0_init_db425_38 ?_
    exact g_vret ⟨rfl, rfl, rfl⟩ rfl dJ0_init_db425_97
set_option maxRecDepth 100000 in
set_option maxHeartbeats 4000000 in
theorem c_J0_init_81219 {Γ : Gm} {n : Nat} {E : Hp} {o a v cap cnt : Nat} {b : Nat → Int32} (ho : E o = some (.inr (0, [.null, .int (nI 0), .int (nI 0), .int (nI 0)]))) (hSB : SB Γ E a v cap b cnt) (hcc : cnt ≠ cap) : Ct Γ 8 MJ0_init_81219 1 40 [.ref o, .ref a] (E) n (Rt none (hset (hset E n (.inl (gA Γ 1, cnt - 0, .inl (va_cpy b (fun _ => nI 0) 0 0 (cnt - 0))))) o (.inr (0, [.ref n, .int (nI 0), .int (nI 0), .int (nI 0)]))) (n + 1)) X0 := by
  refine Ct.of (by decide +kernel) rfl (Nat.le_of_ble_eq_true rfl) ?_
  refine G.sub (lv2 := [(0, _), (1, _)]) [0, 1] rfl ?_
  refine g_aload_n 0 rfl dJ0_init_81219_0 ?_
  refine g_aload_n 1 rfl dJ0_init_81219_1 ?_
  refine g_null dJ0_init_81219_2 ?_
  refine gu_I (c_J0_init_db425 ho hSB hcc) l_J0_489 rfl (Nat.le_of_ble_eq_true rfl) (Nat.le_of_ble_eq_true rfl) rfl dJ0_init_81219_3 ?_
  exact g_vret ⟨rfl, rfl, rfl⟩ rfl dJ0_init_81219_6
set_option maxRecDepth 100000 in
set_option maxHeartbeats 4000000 in
theorem c_J4_toString_0e30d {Γ : Gm} {n : Nat} {E : Hp} {a v cap cnt : Nat} {b : Nat → Int32} (hSB : SB Γ E a v cap b cnt) (hcc : cnt ≠ cap) : Ct Γ 9 MJ4_toString_0e30d 2 44 [.ref a] (E) n (Rt (some (.ref n)) (hset (hset E n (.inr (0, [.ref (n + 1), .int (nI 0), .int (nI 0), .int (nI 0)]))) (n + 1) (.inl (gA Γ 1, cnt - 0, .inl (va_cpy b (fun _ => nI 0) 0 0 (cnt - 0))))) (n + 1 + 1)) X0 := by
  refine Ct.of (by decide +kernel) rfl (Nat.le_of_ble_eq_true rfl) ?_
  obtain ⟨⟨ml, hs⟩, hv, hb7, hcap, hc⟩ := id hSB
  refine G.sub (lv2 := [(0, _)]) [0] rfl ?_
  refine gn_str (wl_3 75 rfl rfl) (wl_3 76 rfl rfl) (wl_1 4 rfl rfl) dJ4_toString_0e30d_0 (fun hB0 hf0 => ?_)
  have hSB1 : SB Γ (hset E n (.inr (0, [.null, .int (nI 0), .int (nI 0), .int (nI 0)]))) a v cap b cnt := ⟨⟨ml, (hset_n (Nat.ne_of_lt (hf0 _ _ hs))).trans hs⟩, (hset_n (Nat.ne_of_lt (hf0 _ _ hv))).trans hv, hb7, hcap, hc⟩
  refine g_dup rfl dJ4_toString_0e30d_3 ?_
  refine g_aload_n 0 rfl dJ4_toString_0e30d_4 ?_
  refine gu_I (c_J0_init_81219 hset_s hSB1 hcc) l_J4_137 rfl (Nat.le_of_ble_eq_true rfl) (Nat.le_of_ble_eq_true rfl) rfl dJ4_toString_0e30d_5 ?_
  exact g_aret ⟨rfl, hset_c (by omega), rfl⟩ rfl dJ4_toString_0e30d_8
set_option maxRecDepth 100000 in
set_option maxHeartbeats 4000000 in
theorem c_J3_ft_n {Γ : Gm} {n : Nat} {E : Hp} {x y N : Nat} (hxy : x ≤ y) (hyN : y ≤ N) (hN : N < 1000) : Ct Γ 1 MJ3_checkFromToIndex_8c36e 0 0 [.int (nI x), .int (nI y), .int (nI N), .null] (E) n (Rt (some (.int (nI x))) (E) n) X0 := by
  refine Ct.of (by decide +kernel) rfl (Nat.le_of_ble_eq_true rfl) ?_
  refine G.sub (lv2 := [(0, _), (1, _), (2, _), (3, _)]) [0, 1, 2, 3] rfl ?_
  refine g_iload_n 0 rfl dJ3_checkFromToIndex_8c36e_0 ?_
  refine g_if_lt (tgt := 14) (by decide) dJ3_checkFromToIndex_8c36e_1 (fun h1 => ?_) (fun h1 => ?_)
  · -- t 14
    exact absurd h1 (nI_pos (by omega))
  · -- f 4
    refine g_iload_n 0 rfl dJ3_checkFromToIndex_8c36e_4 ?_
    refine g_iload_n 1 rfl dJ3_checkFromToIndex_8c36e_5 ?_
    refine gn_icmp_gt (by omega) (by omega) (tgt := 14) (by decide) dJ3_checkFromToIndex_8c36e_6 (fun cc1 => ?_) (fun cc1 => ?_)
    · -- t 14
      exfalso; omega
    · -- f 9
      refine g_iload_n 1 rfl dJ3_checkFromToIndex_8c36e_9 ?_
      refine g_iload_n 2 rfl dJ3_checkFromToIndex_8c36e_10 ?_
      refine gn_icmp_le (by omega) (by omega) (tgt := 22) (by decide) dJ3_checkFromToIndex_8c36e_11 (fun cc2 => ?_) (fun cc2 => ?_)
      · -- t 22
        refine g_iload_n 0 rfl dJ3_checkFromToIndex_8c36e_22 ?_
        exact g_iret ⟨rfl, rfl, rfl⟩ rfl rfl dJ3_checkFromToIndex_8c36e_23
      · -- f 14
        exfalso; omega
set_option maxRecDepth 100000 in
set_option maxHeartbeats 4000000 in
theorem c_J3_ft_r {Γ : Gm} {n : Nat} {E : Hp} {x y N g : Nat} (hxy : x ≤ y) (hyN : y ≤ N) (hN : N < 1000) : Ct Γ 1 MJ3_checkFromToIndex_8c36e 0 0 [.int (nI x), .int (nI y), .int (nI N), .ref g] (E) n (Rt (some (.int (nI x))) (E) n) X0 := by
  refine Ct.of (by decide +kernel) rfl (Nat.le_of_ble_eq_true rfl) ?_
  refine G.sub (lv2 := [(0, _), (1, _), (2, _), (3, _)]) [0, 1, 2, 3] rfl ?_
  refine g_iload_n 0 rfl dJ3_checkFromToIndex_8c36e_0 ?_
  refine g_if_lt (tgt := 14) (by decide) dJ3_checkFromToIndex_8c36e_1 (fun h1 => ?_) (fun h1 => ?_)
  · -- t 14
    exact absurd h1 (nI_pos (by omega))
  · -- f 4
    refine g_iload_n 0 rfl dJ3_checkFromToIndex_8c36e_4 ?_
    refine g_iload_n 1 rfl dJ3_checkFromToIndex_8c36e_5 ?_
    refine gn_icmp_gt (by omega) (by omega) (tgt := 14) (by decide) dJ3_checkFromToIndex_8c36e_6 (fun cc1 => ?_) (fun cc1 => ?_)
    · -- t 14
      exfalso; omega
    · -- f 9
      refine g_iload_n 1 rfl dJ3_checkFromToIndex_8c36e_9 ?_
      refine g_iload_n 2 rfl dJ3_checkFromToIndex_8c36e_10 ?_
      refine gn_icmp_le (by omega) (by omega) (tgt := 22) (by decide) dJ3_checkFromToIndex_8c36e_11 (fun cc2 => ?_) (fun cc2 => ?_)
      · -- t 22
        refine g_iload_n 0 rfl dJ3_checkFromToIndex_8c36e_22 ?_
        exact g_iret ⟨rfl, rfl, rfl⟩ rfl rfl dJ3_checkFromToIndex_8c36e_23
      · -- f 14
        exfalso; omega
theorem c_J3_checkFromToIndex {Γ : Gm} {n : Nat} {E : Hp} {x y N : Nat} (hxy : x ≤ y) (hyN : y ≤ N) (hN : N < 1000) : Ct Γ 1 MJ3_checkFromToIndex_8c36e 0 0 [.int (nI x), .int (nI y), .int (nI N), gSI Γ] E n (Rt (some (.int (nI x))) E n) X0 := by
  unfold gSI; split
  · exact c_J3_ft_n hxy hyN hN
  · exact c_J3_ft_r hxy hyN hN
set_option maxRecDepth 100000 in
set_option maxHeartbeats 4000000 in
theorem c_J0_checkBoundsBeginEnd_23922 {Γ : Gm} {n : Nat} {E : Hp} {x y N : Nat} (hxy : x ≤ y) (hyN : y ≤ N) (hN : N < 1000) : Ct Γ 2 MJ0_checkBoundsBeginEnd_23922 0 0 [.int (nI x), .int (nI y), .int (nI N)] (E) n (Rt none (E) n) X0 := by
  refine Ct.of (by decide +kernel) rfl (Nat.le_of_ble_eq_true rfl) ?_
  refine G.sub (lv2 := [(0, _), (1, _), (2, _)]) [0, 1, 2] rfl ?_
  refine g_iload_n 0 rfl dJ0_checkBoundsBeginEnd_23922_0 ?_
  refine g_iload_n 1 rfl dJ0_checkBoundsBeginEnd_23922_1 ?_
  refine g_iload_n 2 rfl dJ0_checkBoundsBeginEnd_23922_2 ?_
  refine g_gets 8 rfl z_J0_1053 dJ0_checkBoundsBeginEnd_23922_3 ?_
  refine gv_S (c_J3_checkFromToIndex hxy hyN hN) l_J0_1062 rfl (Nat.le_of_ble_eq_true rfl) (Nat.le_of_ble_eq_true rfl) rfl dJ0_checkBoundsBeginEnd_23922_6 ?_
  refine g_pop rfl dJ0_checkBoundsBeginEnd_23922_9 ?_
  exact g_vret ⟨rfl, rfl, rfl⟩ rfl dJ0_checkBoundsBeginEnd_23922_10
set_option maxRecDepth 100000 in
set_option maxHeartbeats 4000000 in
theorem c_J1_newString_b4f7a {Γ : Gm} {n : Nat} {E : Hp} {v N i L : Nat} {b : Nat → Int32} (htb : BA Γ E v N b) (ht7 : A7 b N) (hL : L ≠ 0) (h40 : L ≤ 40) (hiL : i + L ≤ N) (hN : N < 1000) (hne : i ≠ 0 ∨ i + L ≠ N) : Ct Γ 7 MJ1_newString_b4f7a 2 44 [.ref v, .int (nI i), .int (nI L)] (E) n (Rt (some (.ref n)) (hset (hset E n (.inr (0, [.ref (n + 1), .int (nI 0), .int (nI 0), .int (nI 0)]))) (n + 1) (.inl (gA Γ 1, i + L - i, .inl (va_cpy b (fun _ => nI 0) i 0 (i + L - i))))) (n + 1 + 1)) X0 := by
  refine Ct.of (by decide +kernel) rfl (Nat.le_of_ble_eq_true rfl) ?_
  refine G.sub (lv2 := [(0, _), (1, _), (2, _)]) [0, 1, 2] rfl ?_
  refine g_iload_n 2 rfl dJ1_newString_b4f7a_0 ?_
  refine gn_if_ne (by omega) (tgt := 7) (by decide) dJ1_newString_b4f7a_1 (fun h1 => ?_) (fun h1 => ?_)
  · -- t 7
    refine gn_str (wl_5 88 rfl rfl) (wl_3 76 rfl rfl) (wl_1 4 rfl rfl) dJ1_newString_b4f7a_7 (fun hB7 hf7 => ?_)
    have htb1 := htb.mono (E2 := hset E n (.inr (0, [.null, .int (nI 0), .int (nI 0), .int (nI 0)]))) (fun e he => (hset_n (Nat.ne_of_lt (hf7 _ _ he))).trans he)
    refine g_dup rfl dJ1_newString_b4f7a_10 ?_
    refine g_aload_n 0 rfl dJ1_newString_b4f7a_11 ?_
    refine g_iload_n 1 rfl dJ1_newString_b4f7a_12 ?_
    refine g_iload_n 1 rfl dJ1_newString_b4f7a_13 ?_
    refine g_iload_n 2 rfl dJ1_newString_b4f7a_14 ?_
    refine gn_iadd dJ1_newString_b4f7a_15 ?_
    refine gv_S (c_J7_copyOfRange_39247 htb1 ht7 (Nat.le_add_right _ _) hiL hN (by omega) hne) l_J1_232 rfl (Nat.le_of_ble_eq_true rfl) (Nat.le_of_ble_eq_true rfl) rfl dJ1_newString_b4f7a_16 ?_
    refine gn_ic 0 (by decide) dJ1_newString_b4f7a_19 ?_
    refine gu_I (c_J0_init_031fb ((hset_n (e := (.inl (gA Γ 1, i + L - i, .inl (va_cpy b (fun _ => nI 0) i 0 (i + L - i))))) (show n ≠ n + 1 by omega)).trans hset_s)) l_J1_112 rfl (Nat.le_of_ble_eq_true rfl) (Nat.le_of_ble_eq_true rfl) rfl dJ1_newString_b4f7a_20 ?_
    exact g_aret ⟨rfl, hset_c (by omega), rfl⟩ rfl dJ1_newString_b4f7a_23
  · -- f 4
    exact absurd h1 hL
set_option maxRecDepth 100000 in
set_option maxHeartbeats 4000000 in
theorem c_J0_substring_37a41 {Γ : Gm} {n : Nat} {E : Hp} {s w N i : Nat} {b : Nat → Int32} (hts : SF Γ E s w) (htb : BA Γ E w N b) (ht7 : A7 b N) (hi : i + 1 ≤ N) (h1N : 1 < N) (hN : N < 1000) : Ct Γ 8 MJ0_substring_37a41 2 44 [.ref s, .int (nI i), .int (nI (i + 1))] (E) n (Rt (some (.ref n)) (hset (hset E n (.inr (0, [.ref (n + 1), .int (nI 0), .int (nI 0), .int (nI 0)]))) (n + 1) (.inl (gA Γ 1, i + (i + 1 - i) - i, .inl (va_cpy b (fun _ => nI 0) i 0 (i + (i + 1 - i) - i))))) (n + 1 + 1)) X0 := by
  refine Ct.of (by decide +kernel) rfl (Nat.le_of_ble_eq_true rfl) ?_
  refine G.sub (lv2 := [(0, _), (1, _), (2, _)]) [0, 1, 2] rfl ?_
  refine g_aload_n 0 rfl dJ0_substring_37a41_0 ?_
  refine gv_V (c_J0_length_8abf5 hts htb) l_J0_505 rfl hts.rcv (Nat.le_of_ble_eq_true rfl) (Nat.le_of_ble_eq_true rfl) rfl dJ0_substring_37a41_1 ?_
  refine g_istore_n (lv2 := [(3, _), (0, _), (1, _), (2, _)]) (by decide) rfl dJ0_substring_37a41_4 ?_
  refine g_iload_n 2 rfl dJ0_substring_37a41_5 ?_
  refine g_iload_n 3 rfl dJ0_substring_37a41_6 ?_
  refine g_iload_n 0 rfl dJ0_substring_37a41_7 ?_
  refine gu_S (c_J0_checkBoundsBeginEnd_23922 (by omega) (by omega) (by omega)) l_J0_521 rfl (Nat.le_of_ble_eq_true rfl) (Nat.le_of_ble_eq_true rfl) rfl dJ0_substring_37a41_8 ?_
  refine g_iload_n 2 rfl dJ0_substring_37a41_11 ?_
  refine gn_if_ne (by omega) (tgt := 22) (by decide) dJ0_substring_37a41_12 (fun cc1 => ?_) (fun cc1 => ?_)
  · -- t 22
    refine g_iload_n 3 rfl dJ0_substring_37a41_22 ?_
    refine g_iload_n 2 rfl dJ0_substring_37a41_23 ?_
    refine gn_isub (by omega) dJ0_substring_37a41_24 ?_
    refine g_istore (lv2 := [(4, _), (3, _), (0, _), (1, _), (2, _)]) (by decide) rfl dJ0_substring_37a41_25 ?_
    refine g_aload_n 2 rfl dJ0_substring_37a41_27 ?_
    refine gv_V (c_J0_isLatin1_aae02 hts) l_J0_492 rfl hts.rcv (Nat.le_of_ble_eq_true rfl) (Nat.le_of_ble_eq_true rfl) rfl dJ0_substring_37a41_28 ?_
    refine gn_if_eq (by omega) (tgt := 47) (by decide) dJ0_substring_37a41_31 (fun cc2 => ?_) (fun cc2 => ?_)
    · -- t 47
      exact absurd cc2 (by decide)
    · -- f 34
      refine g_aload_n 2 rfl dJ0_substring_37a41_34 ?_
      refine g_sval hts f_J0_9 z_J0_9 dJ0_substring_37a41_35 ?_
      refine g_iload_n 3 rfl dJ0_substring_37a41_38 ?_
      refine g_iload 0 rfl dJ0_substring_37a41_39 ?_
      refine gv_S (c_J1_newString_b4f7a htb ht7 (by omega) (by omega) (by omega) hN (by omega)) l_J0_685 rfl (Nat.le_of_ble_eq_true rfl) (Nat.le_of_ble_eq_true rfl) rfl dJ0_substring_37a41_41 ?_
      refine g_goto (tgt := 57) (by decide) dJ0_substring_37a41_44 ?_
      exact g_aret ⟨rfl, rfl, rfl⟩ rfl dJ0_substring_37a41_57
  · -- f 15
    refine g_iload_n 3 rfl dJ0_substring_37a41_15 ?_
    refine g_iload_n 0 rfl dJ0_substring_37a41_16 ?_
    refine gn_icmp_ne (by omega) (by omega) (tgt := 22) (by decide) dJ0_substring_37a41_17 (fun cc3 => ?_) (fun cc3 => ?_)
    · -- t 22
      refine g_iload_n 3 rfl dJ0_substring_37a41_22 ?_
      refine g_iload_n 2 rfl dJ0_substring_37a41_23 ?_
      refine gn_isub (by omega) dJ0_substring_37a41_24 ?_
      refine g_istore (lv2 := [(4, _), (3, _), (0, _), (1, _), (2, _)]) (by decide) rfl dJ0_substring_37a41_25 ?_
      refine g_aload_n 2 rfl dJ0_substring_37a41_27 ?_
      refine gv_V (c_J0_isLatin1_aae02 hts) l_J0_492 rfl hts.rcv (Nat.le_of_ble_eq_true rfl) (Nat.le_of_ble_eq_true rfl) rfl dJ0_substring_37a41_28 ?_
      refine gn_if_eq (by omega) (tgt := 47) (by decide) dJ0_substring_37a41_31 (fun cc4 => ?_) (fun cc4 => ?_)
      · -- t 47
        exact absurd cc4 (by decide)
      · -- f 34
        refine g_aload_n 2 rfl dJ0_substring_37a41_34 ?_
        refine g_sval hts f_J0_9 z_J0_9 dJ0_substring_37a41_35 ?_
        refine g_iload_n 3 rfl dJ0_substring_37a41_38 ?_
        refine g_iload 0 rfl dJ0_substring_37a41_39 ?_
        refine gv_S (c_J1_newString_b4f7a htb ht7 (by omega) (by omega) (by omega) hN (by omega)) l_J0_685 rfl (Nat.le_of_ble_eq_true rfl) (Nat.le_of_ble_eq_true rfl) rfl dJ0_substring_37a41_41 ?_
        refine g_goto (tgt := 57) (by decide) dJ0_substring_37a41_44 ?_
        exact g_aret ⟨rfl, rfl, rfl⟩ rfl dJ0_substring_37a41_57
    · -- f 20
      exfalso; omega
end GJ4
