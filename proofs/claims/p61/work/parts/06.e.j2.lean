section GJ2
set_option maxRecDepth 100000 in
set_option maxHeartbeats 4000000 in
theorem c_J5_isLatin1_aae02 {Γ : Gm} {n : Nat} {E : Hp} {a v cnt : Nat} {ml : Int32} (hs : E a = some (.inr (1, [.ref v, .int (nI 0), .int ml, .int (nI cnt)]))) : Ct Γ 1 MJ5_isLatin1_aae02 0 0 [.ref a] (E) n (Rt (some (.int (nI 1))) (E) n) X0 := by
  refine Ct.of (by decide +kernel) rfl (Nat.le_of_ble_eq_true rfl) ?_
  refine G.sub (lv2 := [(0, _)]) [0] rfl ?_
  refine g_gets 5 rfl z_J5_18 dJ5_isLatin1_aae02_0 ?_
  refine g_if_eq (tgt := 17) (by decide) dJ5_isLatin1_aae02_3 (fun cc1 => ?_) (fun cc1 => ?_)
  · -- t 17
    exact absurd cc1 (by decide)
  · -- f 6
    refine g_aload_n 0 rfl dJ5_isLatin1_aae02_6 ?_
    refine g_get f_J5_22 hs rfl dJ5_isLatin1_aae02_7 ?_
    refine gn_if_ne (by omega) (tgt := 17) (by decide) dJ5_isLatin1_aae02_10 (fun cc2 => ?_) (fun cc2 => ?_)
    · -- t 17
      exact absurd cc2 (by decide)
    · -- f 13
      refine gn_ic 1 (by decide) dJ5_isLatin1_aae02_13 ?_
      refine g_goto (tgt := 18) (by decide) dJ5_isLatin1_aae02_14 ?_
      exact g_iret ⟨rfl, rfl, rfl⟩ (by decide +kernel) rfl dJ5_isLatin1_aae02_18
set_option maxRecDepth 100000 in
set_option maxHeartbeats 4000000 in
theorem c_J5_length_8abf5 {Γ : Gm} {n : Nat} {E : Hp} {a v cnt : Nat} {ml : Int32} (hs : E a = some (.inr (1, [.ref v, .int (nI 0), .int ml, .int (nI cnt)]))) : Ct Γ 1 MJ5_length_8abf5 0 0 [.ref a] (E) n (Rt (some (.int (nI cnt))) (E) n) X0 := by
  refine Ct.of (by decide +kernel) rfl (Nat.le_of_ble_eq_true rfl) ?_
  refine G.sub (lv2 := [(0, _)]) [0] rfl ?_
  refine g_aload_n 0 rfl dJ5_length_8abf5_0 ?_
  refine g_get f_J5_79 hs rfl dJ5_length_8abf5_1 ?_
  exact g_iret ⟨rfl, rfl, rfl⟩ rfl rfl dJ5_length_8abf5_4
set_option maxRecDepth 100000 in
set_option maxHeartbeats 4000000 in
theorem c_J5_getValue_6d5f1 {Γ : Gm} {n : Nat} {E : Hp} {a v cnt : Nat} {ml : Int32} (hs : E a = some (.inr (1, [.ref v, .int (nI 0), .int ml, .int (nI cnt)]))) : Ct Γ 1 MJ5_getValue_6d5f1 0 0 [.ref a] (E) n (Rt (some (.ref v)) (E) n) X0 := by
  refine Ct.of (by decide +kernel) rfl (Nat.le_of_ble_eq_true rfl) ?_
  refine G.sub (lv2 := [(0, _)]) [0] rfl ?_
  refine g_aload_n 0 rfl dJ5_getValue_6d5f1_0 ?_
  refine g_get f_J5_15 hs rfl dJ5_getValue_6d5f1_1 ?_
  exact g_aretA ⟨rfl, rfl, rfl⟩ rfl dJ5_getValue_6d5f1_4
set_option maxRecDepth 100000 in
set_option maxHeartbeats 4000000 in
theorem c_J8_newLength_cabcc {Γ : Gm} {n : Nat} {E : Hp} {x y z : Nat} (hx : x + max y z < 1000) (h0 : 0 < x) : Ct Γ 2 MJ8_newLength_cabcc 0 0 [.int (nI x), .int (nI y), .int (nI z)] (E) n (Rt (some (.int (nI (x + max y z)))) (E) n) X0 := by
  refine Ct.of (by decide +kernel) rfl (Nat.le_of_ble_eq_true rfl) ?_
  refine G.sub (lv2 := [(0, _), (1, _), (2, _)]) [0, 1, 2] rfl ?_
  refine g_iload_n 0 rfl dJ8_newLength_cabcc_0 ?_
  refine g_iload_n 1 rfl dJ8_newLength_cabcc_1 ?_
  refine g_iload_n 2 rfl dJ8_newLength_cabcc_2 ?_
  refine g_mmax l_J8_194 (by omega) (by omega) (Nat.le_of_ble_eq_true rfl) (Nat.le_of_ble_eq_true rfl) dJ8_newLength_cabcc_3 ?_
  refine gn_iadd dJ8_newLength_cabcc_6 ?_
  refine g_istore_n (lv2 := [(3, _), (0, _), (1, _), (2, _)]) (by decide) rfl dJ8_newLength_cabcc_7 ?_
  refine gn_ic 0 (by decide) dJ8_newLength_cabcc_8 ?_
  refine g_iload_n 0 rfl dJ8_newLength_cabcc_9 ?_
  refine gn_icmp_ge (by omega) (by omega) (tgt := 21) (by decide) dJ8_newLength_cabcc_10 (fun h10 => ?_) (fun h10 => ?_)
  · -- t 21
    exfalso; omega
  · -- f 13
    refine g_iload_n 0 rfl dJ8_newLength_cabcc_13 ?_
    refine gn_ldc (a := 2147483639) (wl_2 212 rfl rfl) dJ8_newLength_cabcc_14 ?_
    refine gn_icmp_gt (by omega) (by omega) (tgt := 21) (by decide) dJ8_newLength_cabcc_16 (fun h16 => ?_) (fun h16 => ?_)
    · -- t 21
      exfalso; omega
    · -- f 19
      refine g_iload_n 0 rfl dJ8_newLength_cabcc_19 ?_
      exact g_iret ⟨rfl, rfl, rfl⟩ rfl rfl dJ8_newLength_cabcc_20
set_option maxRecDepth 100000 in
set_option maxHeartbeats 4000000 in
theorem c_J5_newCapacity_0f7a4 {Γ : Gm} {n : Nat} {E : Hp} {a v cnt m : Nat} {b : Nat → Int32} {ml : Int32} (hs : E a = some (.inr (1, [.ref v, .int (nI 0), .int ml, .int (nI cnt)]))) (hv : E v = some (.inl (gA Γ 1, 16, .inl b))) (hm : 16 < m) (hm2 : m ≤ 34) : Ct Γ 3 MJ5_newCapacity_0f7a4 0 0 [.ref a, .int (nI m)] (E) n (Rt (some (.int (nI 34))) (E) n) X0 := by
  refine Ct.of (by decide +kernel) rfl (Nat.le_of_ble_eq_true rfl) ?_
  refine G.sub (lv2 := [(0, _), (1, _)]) [0, 1] rfl ?_
  refine g_aload_n 0 rfl dJ5_newCapacity_0f7a4_0 ?_
  refine g_get f_J5_15 hs rfl dJ5_newCapacity_0f7a4_1 ?_
  refine g_len hv (show (gtys Γ)[1]? = some (gA Γ 1, _) from rfl) rfl dJ5_newCapacity_0f7a4_4 ?_
  refine g_istore_n (lv2 := [(2, _), (0, _), (1, _)]) (by decide) rfl dJ5_newCapacity_0f7a4_5 ?_
  refine g_iload_n 2 rfl dJ5_newCapacity_0f7a4_6 ?_
  refine g_aload_n 1 rfl dJ5_newCapacity_0f7a4_7 ?_
  refine g_get f_J5_22 hs rfl dJ5_newCapacity_0f7a4_8 ?_
  refine g_ishl dJ5_newCapacity_0f7a4_11 ?_
  refine g_top (y := nI m) (sb_shl0 _) ?_
  refine g_istore_n (lv2 := [(3, _), (2, _), (0, _), (1, _)]) (by decide) rfl dJ5_newCapacity_0f7a4_12 ?_
  refine g_iload_n 0 rfl dJ5_newCapacity_0f7a4_13 ?_
  refine g_iload_n 1 rfl dJ5_newCapacity_0f7a4_14 ?_
  refine gn_isub (by omega) dJ5_newCapacity_0f7a4_15 ?_
  refine g_istore (lv2 := [(4, _), (3, _), (2, _), (0, _), (1, _)]) (by decide) rfl dJ5_newCapacity_0f7a4_16 ?_
  refine g_iload_n 2 rfl dJ5_newCapacity_0f7a4_18 ?_
  refine g_iload 0 rfl dJ5_newCapacity_0f7a4_19 ?_
  refine g_iload_n 2 rfl dJ5_newCapacity_0f7a4_21 ?_
  refine gn_ic 2 (by decide) dJ5_newCapacity_0f7a4_22 ?_
  refine g_aload_n 3 rfl dJ5_newCapacity_0f7a4_23 ?_
  refine g_get f_J5_22 hs rfl dJ5_newCapacity_0f7a4_24 ?_
  refine g_ishl dJ5_newCapacity_0f7a4_27 ?_
  refine g_top (y := nI 2) (sb_shl0 _) ?_
  refine gn_iadd dJ5_newCapacity_0f7a4_28 ?_
  refine gv_S (c_J8_newLength_cabcc (by omega) (by omega)) l_J5_114 rfl (Nat.le_of_ble_eq_true rfl) (Nat.le_of_ble_eq_true rfl) rfl dJ5_newCapacity_0f7a4_29 ?_
  refine g_istore (lv2 := [(5, _), (4, _), (3, _), (2, _), (0, _), (1, _)]) (by decide) rfl dJ5_newCapacity_0f7a4_32 ?_
  refine g_iload 0 rfl dJ5_newCapacity_0f7a4_34 ?_
  refine gn_ldc (a := 2147483647) (wl_2 216 rfl rfl) dJ5_newCapacity_0f7a4_36 ?_
  refine gn_icmp_ne (by omega) (by omega) (tgt := 51) (by decide) dJ5_newCapacity_0f7a4_38 (fun h38 => ?_) (fun h38 => ?_)
  · -- t 51
    refine g_iload 0 rfl dJ5_newCapacity_0f7a4_51 ?_
    refine g_aload_n 4 rfl dJ5_newCapacity_0f7a4_53 ?_
    refine g_get f_J5_22 hs rfl dJ5_newCapacity_0f7a4_54 ?_
    refine g_ishr dJ5_newCapacity_0f7a4_57 ?_
    refine g_top (y := nI 34) ((sb_shr0 _).trans (by rw [show 16 + max (m - 16) (16 + 2) = 34 by omega])) ?_
    exact g_iret ⟨rfl, rfl, rfl⟩ rfl rfl dJ5_newCapacity_0f7a4_58
  · -- f 41
    exfalso; omega
set_option maxRecDepth 100000 in
set_option maxHeartbeats 4000000 in
theorem c_J7_copyOf_9075b {Γ : Gm} {n : Nat} {E : Hp} {v cap L : Nat} {b : Nat → Int32} (hv : E v = some (.inl (gA Γ 1, cap, .inl b))) (hb7 : A7 b cap) (hL : cap < L) (hL2 : L < 1000) : Ct Γ 2 MJ7_copyOf_9075b 1 (0 + L) [.ref v, .int (nI L)] (E) n (Rt (some (.ref n)) (hset E n (.inl (gA Γ 1, L, .inl (va_cpy b (fun _ => nI 0) 0 0 cap)))) (n + 1)) X0 := by
  refine Ct.of (by decide +kernel) rfl (Nat.le_of_ble_eq_true rfl) ?_
  refine G.sub (lv2 := [(0, _), (1, _)]) [0, 1] rfl ?_
  refine g_iload_n 1 rfl dJ7_copyOf_9075b_0 ?_
  refine g_aload_n 0 rfl dJ7_copyOf_9075b_1 ?_
  refine g_len hv (show (gtys Γ)[1]? = some (gA Γ 1, _) from rfl) rfl dJ7_copyOf_9075b_2 ?_
  refine gn_icmp_ne (by omega) (by omega) (tgt := 14) (by decide) dJ7_copyOf_9075b_3 (fun h3 => ?_) (fun h3 => ?_)
  · -- t 14
    refine g_iload_n 1 rfl dJ7_copyOf_9075b_14 ?_
    refine gn_nb (wl_1 69 rfl rfl) (by omega) dJ7_copyOf_9075b_15 (fun hB15 hf15 => ?_)
    have hv1 := (hset_n (e := .inl (gA Γ 1, L, .inl (fun _ => nI 0))) (Nat.ne_of_lt (hf15 _ _ hv))).trans hv
    refine g_astore_n (lv2 := [(2, _), (0, _), (1, _)]) (by decide) rfl dJ7_copyOf_9075b_17 ?_
    refine g_aload_n 1 rfl dJ7_copyOf_9075b_18 ?_
    refine gn_ic 0 (by decide) dJ7_copyOf_9075b_19 ?_
    refine g_aload_n 0 rfl dJ7_copyOf_9075b_20 ?_
    refine gn_ic 0 (by decide) dJ7_copyOf_9075b_21 ?_
    refine g_aload_n 1 rfl dJ7_copyOf_9075b_22 ?_
    refine g_len hv1 (show (gtys Γ)[1]? = some (gA Γ 1, _) from rfl) rfl dJ7_copyOf_9075b_23 ?_
    refine g_iload_n 2 rfl dJ7_copyOf_9075b_24 ?_
    refine g_mmin l_J7_304 (by omega) (by omega) (Nat.le_of_ble_eq_true rfl) (Nat.le_of_ble_eq_true rfl) dJ7_copyOf_9075b_25 ?_
    refine g_top (y := nI cap) (by rw [Nat.min_eq_left (by omega)]) ?_
    refine g_copy (t := 1) (ty := .byte) ac_J7_150 ac_n ac_s ac_i (Srd.of hv1 rfl) hset_s rfl rfl (by omega) (by omega) ⟨by decide, by decide, by omega⟩ (fun i hi => hb7.fit (by omega)) (Nat.le_of_ble_eq_true rfl) (Nat.le_of_ble_eq_true rfl) hset_hs dJ7_copyOf_9075b_28 ?_
    refine g_aload_n 0 rfl dJ7_copyOf_9075b_31 ?_
    exact g_aretA ⟨rfl, rfl, rfl⟩ rfl dJ7_copyOf_9075b_32
  · -- f 6
    exfalso; omega
set_option maxRecDepth 100000 in
set_option maxHeartbeats 4000000 in
theorem c_J5_ens_no {Γ : Gm} {n : Nat} {E : Hp} {a v cap cnt m : Nat} {b : Nat → Int32} {ml : Int32} (hs : E a = some (.inr (1, [.ref v, .int (nI 0), .int ml, .int (nI cnt)]))) (hv : E v = some (.inl (gA Γ 1, cap, .inl b))) (hm : m ≤ cap) (hc : cap < 1000) : Ct Γ 5 MJ5_ensureCapacityInternal_d00df 0 0 [.ref a, .int (nI m)] (E) n (Rt none (E) n) X0 := by
  refine Ct.of (by decide +kernel) rfl (Nat.le_of_ble_eq_true rfl) ?_
  refine G.sub (lv2 := [(0, _), (1, _)]) [0, 1] rfl ?_
  refine g_aload_n 0 rfl dJ5_ensureCapacityInternal_d00df_0 ?_
  refine g_get f_J5_15 hs rfl dJ5_ensureCapacityInternal_d00df_1 ?_
  refine g_len hv (show (gtys Γ)[1]? = some (gA Γ 1, _) from rfl) rfl dJ5_ensureCapacityInternal_d00df_4 ?_
  refine g_aload_n 0 rfl dJ5_ensureCapacityInternal_d00df_5 ?_
  refine g_get f_J5_22 hs rfl dJ5_ensureCapacityInternal_d00df_6 ?_
  refine g_ishr dJ5_ensureCapacityInternal_d00df_9 ?_
  refine g_top (y := nI cap) (sb_shr0 _) ?_
  refine g_istore_n (lv2 := [(2, _), (0, _), (1, _)]) (by decide) rfl dJ5_ensureCapacityInternal_d00df_10 ?_
  refine g_iload_n 2 rfl dJ5_ensureCapacityInternal_d00df_11 ?_
  refine g_iload_n 0 rfl dJ5_ensureCapacityInternal_d00df_12 ?_
  refine g_isub dJ5_ensureCapacityInternal_d00df_13 ?_
  refine g_if_le (tgt := 38) (by decide) dJ5_ensureCapacityInternal_d00df_14 (fun h14 => ?_) (fun h14 => ?_)
  · -- t 38
    exact g_vret ⟨rfl, rfl, rfl⟩ rfl dJ5_ensureCapacityInternal_d00df_38
  · -- f 17
    exact absurd ((isub_le0 (by omega) (by omega)).mpr hm) h14
set_option maxRecDepth 100000 in
set_option maxHeartbeats 4000000 in
theorem c_J5_ens_gr {Γ : Gm} {n : Nat} {E : Hp} {a v cnt m : Nat} {b : Nat → Int32} {ml : Int32} (hs : E a = some (.inr (1, [.ref v, .int (nI 0), .int ml, .int (nI cnt)]))) (hv : E v = some (.inl (gA Γ 1, 16, .inl b))) (hb7 : A7 b 16) (hc : cnt ≤ 16) (hm : 16 < m) (hm2 : m ≤ 34) : Ct Γ 5 MJ5_ensureCapacityInternal_d00df 1 34 [.ref a, .int (nI m)] (E) n (fun r E2 n2 => r = none ∧ SBp Γ E n a v m cnt b E2 n2) X0 := by
  refine Ct.of (by decide +kernel) rfl (Nat.le_of_ble_eq_true rfl) ?_
  refine G.lt (fun hlt hgB => ?_)
  refine G.sub (lv2 := [(0, _), (1, _)]) [0, 1] rfl ?_
  refine g_aload_n 0 rfl dJ5_ensureCapacityInternal_d00df_0 ?_
  refine g_get f_J5_15 hs rfl dJ5_ensureCapacityInternal_d00df_1 ?_
  refine g_len hv (show (gtys Γ)[1]? = some (gA Γ 1, _) from rfl) rfl dJ5_ensureCapacityInternal_d00df_4 ?_
  refine g_aload_n 0 rfl dJ5_ensureCapacityInternal_d00df_5 ?_
  refine g_get f_J5_22 hs rfl dJ5_ensureCapacityInternal_d00df_6 ?_
  refine g_ishr dJ5_ensureCapacityInternal_d00df_9 ?_
  refine g_top (y := nI 16) (sb_shr0 _) ?_
  refine g_istore_n (lv2 := [(2, _), (0, _), (1, _)]) (by decide) rfl dJ5_ensureCapacityInternal_d00df_10 ?_
  refine g_iload_n 2 rfl dJ5_ensureCapacityInternal_d00df_11 ?_
  refine g_iload_n 0 rfl dJ5_ensureCapacityInternal_d00df_12 ?_
  refine g_isub dJ5_ensureCapacityInternal_d00df_13 ?_
  refine g_if_le (tgt := 38) (by decide) dJ5_ensureCapacityInternal_d00df_14 (fun h14 => ?_) (fun h14 => ?_)
  · -- t 38
    exact absurd ((isub_le0 (by omega) (by omega)).mp h14) (by omega)
  · -- f 17
    refine g_aload_n 1 rfl dJ5_ensureCapacityInternal_d00df_17 ?_
    refine g_aload_n 1 rfl dJ5_ensureCapacityInternal_d00df_18 ?_
    refine g_get f_J5_15 hs rfl dJ5_ensureCapacityInternal_d00df_19 ?_
    refine g_aload_n 1 rfl dJ5_ensureCapacityInternal_d00df_22 ?_
    refine g_iload_n 2 rfl dJ5_ensureCapacityInternal_d00df_23 ?_
    refine gv_Y (c_J5_newCapacity_0f7a4 hs hv (by omega) (by omega)) l_J5_104 rfl (Rcv.of hs rfl) (Nat.le_of_ble_eq_true rfl) (Nat.le_of_ble_eq_true rfl) rfl dJ5_ensureCapacityInternal_d00df_24 ?_
    refine g_aload_n 1 rfl dJ5_ensureCapacityInternal_d00df_27 ?_
    refine g_get f_J5_22 hs rfl dJ5_ensureCapacityInternal_d00df_28 ?_
    refine g_ishl dJ5_ensureCapacityInternal_d00df_31 ?_
    refine g_top (y := nI 34) (sb_shl0 _) ?_
    refine gv_S (c_J7_copyOf_9075b hv hb7 (by decide) (by decide)) l_J5_108 rfl (Nat.le_of_ble_eq_true rfl) (Nat.le_of_ble_eq_true rfl) rfl dJ5_ensureCapacityInternal_d00df_32 ?_
    have hs1 := (hset_n (e := .inl (gA Γ 1, 34, .inl (va_cpy b (fun _ => nI 0) 0 0 16))) (Nat.ne_of_lt (hlt _ _ hs))).trans hs
    refine g_put2 f_J5_15 w_J4_0 hs1 (Nat.le_of_ble_eq_true rfl) rfl rfl rfl dJ5_ensureCapacityInternal_d00df_35 ?_
    exact g_vret ⟨rfl, n, 34, va_cpy b (fun _ => nI 0) 0 0 16, ⟨⟨ml, hset_s⟩, (hset_n (Nat.ne_of_gt (hlt _ _ hs))).trans hset_s, hb7.cpy A7.zero (by decide), Or.inr rfl, by omega⟩, by omega, fun j hj => sb_cpy0 (by omega), fun q h1 h2 h3 => (hset_n h1).trans (hset_n (by omega)), Or.inr (Nat.le_refl _), by omega⟩ rfl dJ5_ensureCapacityInternal_d00df_38
set_option maxRecDepth 100000 in
set_option maxHeartbeats 4000000 in
theorem c_J5_ens_ng {Γ : Gm} {n : Nat} {E : Hp} {a v cap cnt m : Nat} {b : Nat → Int32} {ml : Int32} (hs : E a = some (.inr (1, [.ref v, .int (nI 0), .int ml, .int (nI cnt)]))) (hv : E v = some (.inl (gA Γ 1, cap, .inl b))) (hb7 : A7 b cap) (hc : cnt ≤ cap) (hcap : cap = 16 ∨ cap = 34) (hm : m ≤ cap) : Ct Γ 5 MJ5_ensureCapacityInternal_d00df 1 34 [.ref a, .int (nI m)] (E) n (fun r E2 n2 => r = none ∧ SBp Γ E n a v m cnt b E2 n2) X0 := by
  refine Ct.of (by decide +kernel) rfl (Nat.le_of_ble_eq_true rfl) ?_
  refine G.sub (lv2 := [(0, _), (1, _)]) [0, 1] rfl ?_
  refine g_aload_n 0 rfl dJ5_ensureCapacityInternal_d00df_0 ?_
  refine g_get f_J5_15 hs rfl dJ5_ensureCapacityInternal_d00df_1 ?_
  refine g_len hv (show (gtys Γ)[1]? = some (gA Γ 1, _) from rfl) rfl dJ5_ensureCapacityInternal_d00df_4 ?_
  refine g_aload_n 0 rfl dJ5_ensureCapacityInternal_d00df_5 ?_
  refine g_get f_J5_22 hs rfl dJ5_ensureCapacityInternal_d00df_6 ?_
  refine g_ishr dJ5_ensureCapacityInternal_d00df_9 ?_
  refine g_top (y := nI cap) (sb_shr0 _) ?_
  refine g_istore_n (lv2 := [(2, _), (0, _), (1, _)]) (by decide) rfl dJ5_ensureCapacityInternal_d00df_10 ?_
  refine g_iload_n 2 rfl dJ5_ensureCapacityInternal_d00df_11 ?_
  refine g_iload_n 0 rfl dJ5_ensureCapacityInternal_d00df_12 ?_
  refine g_isub dJ5_ensureCapacityInternal_d00df_13 ?_
  refine g_if_le (tgt := 38) (by decide) dJ5_ensureCapacityInternal_d00df_14 (fun h14 => ?_) (fun h14 => ?_)
  · -- t 38
    exact g_vret ⟨rfl, v, cap, b, ⟨⟨ml, hs⟩, hv, hb7, hcap, hc⟩, hm, fun _ _ => rfl, fun _ _ _ _ => rfl, Or.inl rfl, Nat.le_refl _⟩ rfl dJ5_ensureCapacityInternal_d00df_38
  · -- f 17
    exact absurd ((isub_le0 (by omega) (by omega)).mpr hm) h14
theorem c_J5_ens {Γ : Gm} {n : Nat} {E : Hp} {a v cap cnt m : Nat} {b : Nat → Int32} (h : SB Γ E a v cap b cnt) (hm : m ≤ 34) : Ct Γ 5 MJ5_ensureCapacityInternal_d00df 1 34 [.ref a, .int (nI m)] E n (fun r E2 n2 => r = none ∧ SBp Γ E n a v m cnt b E2 n2) X0 := by
  obtain ⟨⟨ml, hs⟩, hv, hb7, hcap, hc⟩ := h
  by_cases e : m ≤ cap
  · exact c_J5_ens_ng hs hv hb7 hc hcap e
  · have hc16 : cap = 16 := by omega
    subst hc16
    exact c_J5_ens_gr hs hv hb7 hc (by omega) hm
set_option maxRecDepth 100000 in
set_option maxHeartbeats 4000000 in
theorem c_J1_canEncode_fc78d {Γ : Gm} {n : Nat} {E : Hp} {l : Nat} (hl : l < 128) : Ct Γ 1 MJ1_canEncode_fc78d 0 0 [.int (nI l)] (E) n (Rt (some (.int (nI 1))) (E) n) X0 := by
  refine Ct.of (by decide +kernel) rfl (Nat.le_of_ble_eq_true rfl) ?_
  refine G.sub (lv2 := [(0, _)]) [0] rfl ?_
  refine g_iload_n 0 rfl dJ1_canEncode_fc78d_0 ?_
  refine gn_sp 255 (by decide) dJ1_canEncode_fc78d_1 ?_
  refine gn_icmp_gt (by omega) (by omega) (tgt := 11) (by decide) dJ1_canEncode_fc78d_4 (fun cc1 => ?_) (fun cc1 => ?_)
  · -- t 11
    exfalso; omega
  · -- f 7
    refine gn_ic 1 (by decide) dJ1_canEncode_fc78d_7 ?_
    refine g_goto (tgt := 12) (by decide) dJ1_canEncode_fc78d_8 ?_
    exact g_iret ⟨rfl, rfl, rfl⟩ (by decide +kernel) rfl dJ1_canEncode_fc78d_12
set_option maxRecDepth 100000 in
set_option maxHeartbeats 4000000 in
theorem c_J5_append_3fe6f {Γ : Gm} {n : Nat} {E : Hp} {a v cap cnt l : Nat} {b : Nat → Int32} (hSB : SB Γ E a v cap b cnt) (hl : l < 128) (hr : cnt + 1 ≤ 34) : Ct Γ 7 MJ5_append_3fe6f 1 34 [.ref a, .int (nI l)] (E) n (fun r E2 n2 => r = some (.ref a) ∧ SBp Γ E n a v (cnt + 1) (cnt + 1) (upd b cnt (nI l)) E2 n2) X0 := by
  refine Ct.of (by decide +kernel) rfl (Nat.le_of_ble_eq_true rfl) ?_
  obtain ⟨⟨ml, hs⟩, hv, hb7, hcap, hc⟩ := id hSB
  refine G.sub (lv2 := [(0, _), (1, _)]) [0, 1] rfl ?_
  refine g_aload_n 0 rfl dJ5_append_3fe6f_0 ?_
  refine g_aload_n 0 rfl dJ5_append_3fe6f_1 ?_
  refine g_get f_J5_79 hs rfl dJ5_append_3fe6f_2 ?_
  refine gn_ic 1 (by decide) dJ5_append_3fe6f_5 ?_
  refine gn_iadd dJ5_append_3fe6f_6 ?_
  refine gx_Y0 (c_J5_ens hSB hr ) l_J5_100 rfl hSB.rcv (Nat.le_of_ble_eq_true rfl) (Nat.le_of_ble_eq_true rfl) rfl dJ5_append_3fe6f_7 (fun _ _ _ h => h.1) (fun E2 n2 hp => ?_)
  obtain ⟨-, v2, cap2, b2, ⟨⟨ml2, hs1⟩, hv1, hb72, hcap2, hc2⟩, hK2, hB2, hF2, hV2, hn2⟩ := hp
  refine g_aload_n 0 rfl dJ5_append_3fe6f_10 ?_
  refine gv_Y (c_J5_isLatin1_aae02 hs1) l_J5_83 rfl (Rcv.of hs1 rfl) (Nat.le_of_ble_eq_true rfl) (Nat.le_of_ble_eq_true rfl) rfl dJ5_append_3fe6f_11 ?_
  refine gn_if_eq (by omega) (tgt := 45) (by decide) dJ5_append_3fe6f_14 (fun cc1 => ?_) (fun cc1 => ?_)
  · -- t 45
    exact absurd cc1 (by decide)
  · -- f 17
    refine g_iload_n 1 rfl dJ5_append_3fe6f_17 ?_
    refine gv_S (c_J1_canEncode_fc78d hl) l_J5_191 rfl (Nat.le_of_ble_eq_true rfl) (Nat.le_of_ble_eq_true rfl) rfl dJ5_append_3fe6f_18 ?_
    refine gn_if_eq (by omega) (tgt := 45) (by decide) dJ5_append_3fe6f_21 (fun cc2 => ?_) (fun cc2 => ?_)
    · -- t 45
      exact absurd cc2 (by decide)
    · -- f 24
      refine g_aload_n 0 rfl dJ5_append_3fe6f_24 ?_
      refine g_get f_J5_15 hs1 rfl dJ5_append_3fe6f_25 ?_
      refine g_aload_n 0 rfl dJ5_append_3fe6f_28 ?_
      refine g_dup rfl dJ5_append_3fe6f_29 ?_
      refine g_get f_J5_79 hs1 rfl dJ5_append_3fe6f_30 ?_
      refine g_dup_x1 rfl rfl dJ5_append_3fe6f_33 ?_
      refine gn_ic 1 (by decide) dJ5_append_3fe6f_34 ?_
      refine gn_iadd dJ5_append_3fe6f_35 ?_
      refine g_put2 f_J5_79 w_J4_3 hs1 (Nat.le_of_ble_eq_true rfl) rfl rfl rfl dJ5_append_3fe6f_36 ?_
      have hv2 := (hset_n (e := .inr (1, [.ref v2, .int (nI 0), .int ml2, .int (nI (cnt + 1))])) (show v2 ≠ a from fun e => by rw [e] at hv1; rw [hv1] at hs1; cases hs1)).trans hv1
      refine g_iload_n 1 rfl dJ5_append_3fe6f_39 ?_
      refine g_i2b dJ5_append_3fe6f_40 ?_
      refine g_top (y := nI l) (a7_all l hl).2.1 ?_
      refine gn_bast hv2 (by omega) (by omega) rfl dJ5_append_3fe6f_41 ?_
      refine g_goto (tgt := 75) (by decide) dJ5_append_3fe6f_42 ?_
      refine g_aload_n 0 rfl dJ5_append_3fe6f_75 ?_
      exact g_aret ⟨rfl, v2, cap2, _, ⟨⟨ml2, (hset_n (show a ≠ v2 from fun e => by rw [← e] at hv1; rw [hv1] at hs1; cases hs1)).trans hset_s⟩, hset_s, by rw [(a7_all l hl).2.1]; exact hb72.put hl, hcap2, hK2⟩, hK2, fun j hj => by rw [(a7_all l hl).2.1]; unfold upd; split <;> first | rfl | exact hB2 j (by omega), fun q g1 g2 g3 => (hset_n (by omega)).trans ((hset_n g1).trans (hF2 q g1 g2 g3)), hV2, hn2⟩ rfl dJ5_append_3fe6f_76
set_option maxRecDepth 100000 in
set_option maxHeartbeats 4000000 in
theorem c_J4_append_cf468 {Γ : Gm} {n : Nat} {E : Hp} {a v cap cnt l : Nat} {b : Nat → Int32} (hSB : SB Γ E a v cap b cnt) (hl : l < 128) (hr : cnt + 1 ≤ 34) : Ct Γ 8 MJ4_append_cf468 1 34 [.ref a, .int (nI l)] (E) n (fun r E2 n2 => r = some (.ref a) ∧ SBp Γ E n a v (cnt + 1) (cnt + 1) (upd b cnt (nI l)) E2 n2) X0 := by
  refine Ct.of (by decide +kernel) rfl (Nat.le_of_ble_eq_true rfl) ?_
  obtain ⟨⟨ml, hs⟩, hv, hb7, hcap, hc⟩ := id hSB
  refine G.sub (lv2 := [(0, _), (1, _)]) [0, 1] rfl ?_
  refine g_aload_n 0 rfl dJ4_append_cf468_0 ?_
  refine g_iload_n 1 rfl dJ4_append_cf468_1 ?_
  refine gx_U (c_J5_append_3fe6f hSB hl hr) l_J4_50 rfl hs rfl (Nat.le_of_ble_eq_true rfl) (Nat.le_of_ble_eq_true rfl) rfl dJ4_append_cf468_2 (fun r E2 n2 hp => ?_)
  obtain ⟨rfl, hp⟩ := hp
  refine g_pop rfl dJ4_append_cf468_5 ?_
  refine g_aload_n 0 rfl dJ4_append_cf468_6 ?_
  exact g_aret ⟨rfl, hp⟩ rfl dJ4_append_cf468_7
set_option maxRecDepth 100000 in
set_option maxHeartbeats 4000000 in
theorem c_J0_getBytes_840e7 {Γ : Gm} {n : Nat} {E : Hp} {s w N v cap k : Nat} {b t : Nat → Int32} (ht : SF Γ E s w) (htb : BA Γ E w N t) (ht7 : A7 t N) (hv : E v = some (.inl (gA Γ 1, cap, .inl b))) (hk : k + N ≤ cap) (hcap : cap < 1000) : Ct Γ 2 MJ0_getBytes_840e7 0 0 [.ref s, .ref v, .int (nI k), .int (nI 0)] (E) n (Rt none (hset E v (.inl (gA Γ 1, cap, .inl (va_cpy t b 0 k N)))) n) X0 := by
  refine Ct.of (by decide +kernel) rfl (Nat.le_of_ble_eq_true rfl) ?_
  refine G.sub (lv2 := [(0, _), (1, _), (2, _), (3, _)]) [0, 1, 2, 3] rfl ?_
  refine g_aload_n 0 rfl dJ0_getBytes_840e7_0 ?_
  refine gv_V (c_J0_coder_7d493 ht) l_J0_335 rfl ht.rcv (Nat.le_of_ble_eq_true rfl) (Nat.le_of_ble_eq_true rfl) rfl dJ0_getBytes_840e7_1 ?_
  refine g_iload_n 3 rfl dJ0_getBytes_840e7_4 ?_
  refine gn_icmp_ne (by omega) (by omega) (tgt := 28) (by decide) dJ0_getBytes_840e7_5 (fun cc1 => ?_) (fun cc1 => ?_)
  · -- t 28
    exact absurd cc1 (by decide)
  · -- f 8
    refine g_aload_n 0 rfl dJ0_getBytes_840e7_8 ?_
    refine g_sval ht f_J0_9 z_J0_9 dJ0_getBytes_840e7_9 ?_
    refine gn_ic 0 (by decide) dJ0_getBytes_840e7_12 ?_
    refine g_aload_n 1 rfl dJ0_getBytes_840e7_13 ?_
    refine g_iload_n 2 rfl dJ0_getBytes_840e7_14 ?_
    refine g_iload_n 3 rfl dJ0_getBytes_840e7_15 ?_
    refine g_ishl dJ0_getBytes_840e7_16 ?_
    refine g_top (y := nI k) (sb_shl0 _) ?_
    refine g_aload_n 0 rfl dJ0_getBytes_840e7_17 ?_
    refine g_sval ht f_J0_9 z_J0_9 dJ0_getBytes_840e7_18 ?_
    refine g_blen htb dJ0_getBytes_840e7_21 ?_
    refine g_copy (t := 1) (ty := .byte) ac_J0_212 ac_n ac_s ac_i (Srd.ba htb) hv rfl rfl (by omega) (by omega) ⟨by decide, by omega, by omega⟩ (fun i hi => ht7.fit (by omega)) (Nat.le_of_ble_eq_true rfl) (Nat.le_of_ble_eq_true rfl) rfl dJ0_getBytes_840e7_22 ?_
    refine g_goto (tgt := 43) (by decide) dJ0_getBytes_840e7_25 ?_
    exact g_vret ⟨rfl, rfl, rfl⟩ rfl dJ0_getBytes_840e7_43
set_option maxRecDepth 100000 in
set_option maxHeartbeats 4000000 in
theorem c_J5_inflateIfNeededFor_a7421 {Γ : Gm} {n : Nat} {E : Hp} {a v cnt : Nat} {ml : Int32} {s w : Nat} (hs : E a = some (.inr (1, [.ref v, .int (nI 0), .int ml, .int (nI cnt)]))) (ht : SF Γ E s w) : Ct Γ 2 MJ5_inflateIfNeededFor_a7421 0 0 [.ref a, .ref s] (E) n (Rt none (E) n) X0 := by
  refine Ct.of (by decide +kernel) rfl (Nat.le_of_ble_eq_true rfl) ?_
  refine G.sub (lv2 := [(0, _), (1, _)]) [0, 1] rfl ?_
  refine g_gets 5 rfl z_J5_18 dJ5_inflateIfNeededFor_a7421_0 ?_
  refine g_if_eq (tgt := 21) (by decide) dJ5_inflateIfNeededFor_a7421_3 (fun cc1 => ?_) (fun cc1 => ?_)
  · -- t 21
    exact absurd cc1 (by decide)
  · -- f 6
    refine g_aload_n 0 rfl dJ5_inflateIfNeededFor_a7421_6 ?_
    refine g_get f_J5_22 hs rfl dJ5_inflateIfNeededFor_a7421_7 ?_
    refine g_aload_n 1 rfl dJ5_inflateIfNeededFor_a7421_10 ?_
    refine gv_V (c_J0_coder_7d493 ht) l_J5_40 rfl ht.rcv (Nat.le_of_ble_eq_true rfl) (Nat.le_of_ble_eq_true rfl) rfl dJ5_inflateIfNeededFor_a7421_11 ?_
    refine gn_icmp_eq (by omega) (by omega) (tgt := 21) (by decide) dJ5_inflateIfNeededFor_a7421_14 (fun cc2 => ?_) (fun cc2 => ?_)
    · -- t 21
      exact g_vret ⟨rfl, rfl, rfl⟩ rfl dJ5_inflateIfNeededFor_a7421_21
    · -- f 17
      exact absurd cc2 (by decide)
set_option maxRecDepth 100000 in
set_option maxHeartbeats 4000000 in
theorem c_J5_putStringAt_47b60 {Γ : Gm} {n : Nat} {E : Hp} {a v cap cnt : Nat} {b : Nat → Int32} {ml : Int32} {s w N k : Nat} {t : Nat → Int32} (hs : E a = some (.inr (1, [.ref v, .int (nI 0), .int ml, .int (nI cnt)]))) (hv : E v = some (.inl (gA Γ 1, cap, .inl b))) (ht : SF Γ E s w) (htb : BA Γ E w N t) (ht7 : A7 t N) (hk : k + N ≤ cap) (hcap : cap < 1000) : Ct Γ 3 MJ5_putStringAt_47b60 0 0 [.ref a, .int (nI k), .ref s] (E) n (Rt none (hset E v (.inl (gA Γ 1, cap, .inl (va_cpy t b 0 k N)))) n) X0 := by
  refine Ct.of (by decide +kernel) rfl (Nat.le_of_ble_eq_true rfl) ?_
  refine G.sub (lv2 := [(0, _), (1, _), (2, _)]) [0, 1, 2] rfl ?_
  refine g_aload_n 0 rfl dJ5_putStringAt_47b60_0 ?_
  refine g_aload_n 2 rfl dJ5_putStringAt_47b60_1 ?_
  refine gu_Y (c_J5_inflateIfNeededFor_a7421 hs ht) l_J5_397 rfl (Rcv.of hs rfl) (Nat.le_of_ble_eq_true rfl) (Nat.le_of_ble_eq_true rfl) rfl dJ5_putStringAt_47b60_2 ?_
  refine g_aload_n 2 rfl dJ5_putStringAt_47b60_5 ?_
  refine g_aload_n 0 rfl dJ5_putStringAt_47b60_6 ?_
  refine g_get f_J5_15 hs rfl dJ5_putStringAt_47b60_7 ?_
  refine g_iload_n 1 rfl dJ5_putStringAt_47b60_10 ?_
  refine g_aload_n 0 rfl dJ5_putStringAt_47b60_11 ?_
  refine g_get f_J5_22 hs rfl dJ5_putStringAt_47b60_12 ?_
  refine gu_V (c_J0_getBytes_840e7 ht htb ht7 hv hk hcap) l_J5_399 rfl ht.rcv (Nat.le_of_ble_eq_true rfl) (Nat.le_of_ble_eq_true rfl) rfl dJ5_putStringAt_47b60_15 ?_
  exact g_vret ⟨rfl, rfl, rfl⟩ rfl dJ5_putStringAt_47b60_18
theorem SF.fx {Γ : Gm} {E E2 : Hp} {n a v s w cap cnt : Nat} {b : Nat → Int32} (h : SF Γ E s w) (hSB : SB Γ E a v cap b cnt) (hlt : ∀ a e, E a = some e → a < n) (hF : Fx E E2 n a v) : SF Γ E2 s w := by
  obtain ⟨⟨ml, hs⟩, hv, -⟩ := hSB
  rcases h with ⟨x, z, h⟩ | h
  · refine Or.inl ⟨x, z, ?_⟩
    rw [hF s (fun e => by rw [e, hs] at h; cases h) (fun e => by rw [e, hv] at h; cases h) (hlt _ _ h)]; exact h
  · exact Or.inr h
theorem BA.fx {Γ : Gm} {E E2 : Hp} {n a v w cap cnt N : Nat} {b t : Nat → Int32} (h : BA Γ E w N t) (hSB : SB Γ E a v cap b cnt) (hlt : ∀ a e, E a = some e → a < n) (hwv : w ≠ v) (hF : Fx E E2 n a v) : BA Γ E2 w N t := by
  obtain ⟨⟨ml, hs⟩, hv, -⟩ := hSB
  rcases h with h | h
  · refine Or.inl ?_
    rw [hF w (fun e => by rw [e, hs] at h; cases h) hwv (hlt _ _ h)]; exact h
  · exact Or.inr h
set_option maxRecDepth 100000 in
set_option maxHeartbeats 4000000 in
theorem c_J5_append_cf1ce {Γ : Gm} {n : Nat} {E : Hp} {a v cap cnt s w N : Nat} {b t : Nat → Int32} (hSB : SB Γ E a v cap b cnt) (ht : SF Γ E s w) (htb : BA Γ E w N t) (ht7 : A7 t N) (hwv : w ≠ v) (hr : cnt + N ≤ 34) : Ct Γ 7 MJ5_append_cf1ce 1 34 [.ref a, .ref s] (E) n (fun r E2 n2 => r = some (.ref a) ∧ SBp Γ E n a v (cnt + N) (cnt + N) (catF b cnt t) E2 n2) X0 := by
  refine Ct.of (by decide +kernel) rfl (Nat.le_of_ble_eq_true rfl) ?_
  refine G.lt (fun hlt hgB => ?_)
  obtain ⟨⟨ml, hs⟩, hv, hb7, hcap, hc⟩ := id hSB
  refine G.sub (lv2 := [(0, _), (1, _)]) [0, 1] rfl ?_
  refine g_aload_n 1 rfl dJ5_append_cf1ce_0 ?_
  refine g_ifnonnull (tgt := 9) (by decide) dJ5_append_cf1ce_1 ?_
  refine g_aload_n 1 rfl dJ5_append_cf1ce_9 ?_
  refine gv_V (c_J0_length_8abf5 ht htb) l_J5_32 rfl ht.rcv (Nat.le_of_ble_eq_true rfl) (Nat.le_of_ble_eq_true rfl) rfl dJ5_append_cf1ce_10 ?_
  refine g_istore_n (lv2 := [(2, _), (0, _), (1, _)]) (by decide) rfl dJ5_append_cf1ce_13 ?_
  refine g_aload_n 1 rfl dJ5_append_cf1ce_14 ?_
  refine g_aload_n 1 rfl dJ5_append_cf1ce_15 ?_
  refine g_get f_J5_79 hs rfl dJ5_append_cf1ce_16 ?_
  refine g_iload_n 0 rfl dJ5_append_cf1ce_19 ?_
  refine gn_iadd dJ5_append_cf1ce_20 ?_
  refine gx_Y0 (c_J5_ens hSB (by omega) ) l_J5_100 rfl hSB.rcv (Nat.le_of_ble_eq_true rfl) (Nat.le_of_ble_eq_true rfl) rfl dJ5_append_cf1ce_21 (fun _ _ _ h => h.1) (fun E2 n2 hp => ?_)
  obtain ⟨-, v2, cap2, b2, ⟨⟨ml2, hs1⟩, hv1, hb72, hcap2, hc2⟩, hK2, hB2, hF2, hV2, hn2⟩ := hp
  have ht2 := ht.fx hSB hlt hF2
  have htb2 := htb.fx hSB hlt hwv hF2
  refine g_aload_n 1 rfl dJ5_append_cf1ce_24 ?_
  refine g_aload_n 1 rfl dJ5_append_cf1ce_25 ?_
  refine g_get f_J5_79 hs1 rfl dJ5_append_cf1ce_26 ?_
  refine g_aload_n 2 rfl dJ5_append_cf1ce_29 ?_
  refine gu_Y (c_J5_putStringAt_47b60 hs1 hv1 ht2 htb2 ht7 hK2 (by omega)) l_J5_208 rfl (Rcv.of hs1 rfl) (Nat.le_of_ble_eq_true rfl) (Nat.le_of_ble_eq_true rfl) rfl dJ5_append_cf1ce_30 ?_
  have hs2 := (hset_n (e := .inl (gA Γ 1, cap2, .inl (va_cpy t b2 0 cnt N))) (show a ≠ v2 from fun e => by rw [← e] at hv1; rw [hv1] at hs1; cases hs1)).trans hs1
  refine g_aload_n 1 rfl dJ5_append_cf1ce_33 ?_
  refine g_dup rfl dJ5_append_cf1ce_34 ?_
  refine g_get f_J5_79 hs2 rfl dJ5_append_cf1ce_35 ?_
  refine g_iload_n 0 rfl dJ5_append_cf1ce_38 ?_
  refine gn_iadd dJ5_append_cf1ce_39 ?_
  refine g_put2 f_J5_79 w_J4_3 hs2 (Nat.le_of_ble_eq_true rfl) rfl rfl rfl dJ5_append_cf1ce_40 ?_
  refine g_aload_n 1 rfl dJ5_append_cf1ce_43 ?_
  exact g_aret ⟨rfl, v2, cap2, _, ⟨⟨ml2, hset_s⟩, (hset_n (show v2 ≠ a from fun e => by rw [e] at hv1; rw [hv1] at hs1; cases hs1)).trans hset_s, ht7.cpy hb72 (by omega), hcap2, hK2⟩, hK2, fun j hj => by unfold va_cpy catF; by_cases e : j < cnt; rw [if_neg (by omega), if_pos e]; exact hB2 j e; rw [if_pos (by omega), if_neg e, Nat.zero_add], fun q g1 g2 g3 => (hset_n g1).trans ((hset_n (by omega)).trans (hF2 q g1 g2 g3)), hV2, hn2⟩ rfl dJ5_append_cf1ce_44
set_option maxRecDepth 100000 in
set_option maxHeartbeats 4000000 in
theorem c_J4_append_15ec4 {Γ : Gm} {n : Nat} {E : Hp} {a v cap cnt s w N : Nat} {b t : Nat → Int32} (hSB : SB Γ E a v cap b cnt) (ht : SF Γ E s w) (htb : BA Γ E w N t) (ht7 : A7 t N) (hwv : w ≠ v) (hr : cnt + N ≤ 34) : Ct Γ 8 MJ4_append_15ec4 1 34 [.ref a, .ref s] (E) n (fun r E2 n2 => r = some (.ref a) ∧ SBp Γ E n a v (cnt + N) (cnt + N) (catF b cnt t) E2 n2) X0 := by
  refine Ct.of (by decide +kernel) rfl (Nat.le_of_ble_eq_true rfl) ?_
  obtain ⟨⟨ml, hs⟩, hv, hb7, hcap, hc⟩ := id hSB
  refine G.sub (lv2 := [(0, _), (1, _)]) [0, 1] rfl ?_
  refine g_aload_n 0 rfl dJ4_append_15ec4_0 ?_
  refine g_aload_n 1 rfl dJ4_append_15ec4_1 ?_
  refine gx_U (c_J5_append_cf1ce hSB ht htb ht7 hwv hr) l_J4_29 rfl hs rfl (Nat.le_of_ble_eq_true rfl) (Nat.le_of_ble_eq_true rfl) rfl dJ4_append_15ec4_2 (fun r E2 n2 hp => ?_)
  obtain ⟨rfl, hp⟩ := hp
  refine g_pop rfl dJ4_append_15ec4_5 ?_
  refine g_aload_n 0 rfl dJ4_append_15ec4_6 ?_
  exact g_aret ⟨rfl, hp⟩ rfl dJ4_append_15ec4_7
set_option maxRecDepth 100000 in
set_option maxHeartbeats 4000000 in
theorem c_J4_length_8abf5 {Γ : Gm} {n : Nat} {E : Hp} {a v cap cnt : Nat} {b : Nat → Int32} (hSB : SB Γ E a v cap b cnt) : Ct Γ 2 MJ4_length_8abf5 0 0 [.ref a] (E) n (Rt (some (.int (nI cnt))) (E) n) X0 := by
  refine Ct.of (by decide +kernel) rfl (Nat.le_of_ble_eq_true rfl) ?_
  obtain ⟨⟨ml, hs⟩, hv, hb7, hcap, hc⟩ := id hSB
  refine G.sub (lv2 := [(0, _)]) [0] rfl ?_
  refine g_aload_n 0 rfl dJ4_length_8abf5_0 ?_
  refine gx_U (c_J5_length_8abf5 hs) l_J4_343 rfl hs rfl (Nat.le_of_ble_eq_true rfl) (Nat.le_of_ble_eq_true rfl) rfl dJ4_length_8abf5_1 (fun r E2 n2 hp => ?_)
  obtain ⟨rfl, rfl, rfl⟩ := hp
  exact g_iret ⟨rfl, rfl, rfl⟩ rfl rfl dJ4_length_8abf5_4
set_option maxRecDepth 100000 in
set_option maxHeartbeats 4000000 in
theorem c_J5_setLength_d00df {Γ : Gm} {n : Nat} {E : Hp} {a v cap cnt : Nat} {b : Nat → Int32} (hSB : SB Γ E a v cap b cnt) : Ct Γ 6 MJ5_setLength_d00df 0 0 [.ref a, .int (nI 0)] (E) n (fun r E2 n2 => r = none ∧ SBp Γ E n a v 0 0 (fun _ => nI 0) E2 n2) X0 := by
  refine Ct.of (by decide +kernel) rfl (Nat.le_of_ble_eq_true rfl) ?_
  obtain ⟨⟨ml, hs⟩, hv, hb7, hcap, hc⟩ := id hSB
  refine G.sub (lv2 := [(0, _), (1, _)]) [0, 1] rfl ?_
  refine g_iload_n 1 rfl dJ5_setLength_d00df_0 ?_
  refine g_if_ge (tgt := 13) (by decide) dJ5_setLength_d00df_1 (fun cc1 => ?_) (fun cc1 => ?_)
  · -- t 13
    refine g_aload_n 0 rfl dJ5_setLength_d00df_13 ?_
    refine g_iload_n 1 rfl dJ5_setLength_d00df_14 ?_
    refine gu_Y (c_J5_ens_no (m := 0) hs hv (Nat.zero_le _) (by omega)) l_J5_100 rfl hSB.rcv (Nat.le_of_ble_eq_true rfl) (Nat.le_of_ble_eq_true rfl) rfl dJ5_setLength_d00df_15 ?_
    refine g_aload_n 0 rfl dJ5_setLength_d00df_18 ?_
    refine g_get f_J5_79 hs rfl dJ5_setLength_d00df_19 ?_
    refine g_iload_n 1 rfl dJ5_setLength_d00df_22 ?_
    refine gn_icmp_ge (by omega) (by omega) (tgt := 63) (by decide) dJ5_setLength_d00df_23 (fun h23 => ?_) (fun h23 => ?_)
    · -- t 63
      refine g_aload_n 0 rfl dJ5_setLength_d00df_63 ?_
      refine g_get f_J5_79 hs rfl dJ5_setLength_d00df_64 ?_
      refine g_iload_n 1 rfl dJ5_setLength_d00df_67 ?_
      refine gn_icmp_le (by omega) (by omega) (tgt := 76) (by decide) dJ5_setLength_d00df_68 (fun cc2 => ?_) (fun cc2 => ?_)
      · -- t 76
        refine g_aload_n 0 rfl dJ5_setLength_d00df_76 ?_
        refine g_iload_n 1 rfl dJ5_setLength_d00df_77 ?_
        refine g_put2 f_J5_79 w_J4_3 hs (Nat.le_of_ble_eq_true rfl) rfl rfl rfl dJ5_setLength_d00df_78 ?_
        exact g_vret ⟨rfl, v, cap, b, ⟨⟨ml, hset_s⟩, (hset_n (show v ≠ a from fun e => by rw [e] at hv; rw [hv] at hs; cases hs)).trans hv, hb7, hcap, Nat.zero_le _⟩, Nat.zero_le _, fun j hj => absurd hj (Nat.not_lt_zero j), fun q g1 g2 g3 => hset_n g1, Or.inl rfl, Nat.le_refl _⟩ rfl dJ5_setLength_d00df_81
      · -- f 71
        refine g_aload_n 0 rfl dJ5_setLength_d00df_71 ?_
        refine gn_ic 1 (by decide) dJ5_setLength_d00df_72 ?_
        refine g_put2 f_J5_73 w_J4_2 hs (Nat.le_of_ble_eq_true rfl) rfl rfl rfl dJ5_setLength_d00df_73 ?_
        have hs1 : hset E a _ a = _ := hset_s (e := .inr (1, [.ref v, .int (nI 0), .int (nI 1), .int (nI cnt)]))
        have hv1 := (hset_n (e := .inr (1, [.ref v, .int (nI 0), .int (nI 1), .int (nI cnt)])) (show v ≠ a from fun e => by rw [e] at hv; rw [hv] at hs; cases hs)).trans hv
        refine g_aload_n 0 rfl dJ5_setLength_d00df_76 ?_
        refine g_iload_n 1 rfl dJ5_setLength_d00df_77 ?_
        refine g_put2 f_J5_79 w_J4_3 hs1 (Nat.le_of_ble_eq_true rfl) rfl rfl rfl dJ5_setLength_d00df_78 ?_
        exact g_vret ⟨rfl, v, cap, b, ⟨⟨(nI 1), hset_s⟩, (hset_n (show v ≠ a from fun e => by rw [e] at hv; rw [hv] at hs; cases hs)).trans hv1, hb7, hcap, Nat.zero_le _⟩, Nat.zero_le _, fun j hj => absurd hj (Nat.not_lt_zero j), fun q g1 g2 g3 => (hset_n g1).trans (hset_n g1), Or.inl rfl, Nat.le_refl _⟩ rfl dJ5_setLength_d00df_81
    · -- f 26
      exfalso; omega
  · -- f 4
    exact absurd cc1 (by decide)
set_option maxRecDepth 100000 in
set_option maxHeartbeats 4000000 in
theorem c_J4_setLength_d00df {Γ : Gm} {n : Nat} {E : Hp} {a v cap cnt : Nat} {b : Nat → Int32} (hSB : SB Γ E a v cap b cnt) : Ct Γ 7 MJ4_setLength_d00df 0 0 [.ref a, .int (nI 0)] (E) n (fun r E2 n2 => r = none ∧ SBp Γ E n a v 0 0 (fun _ => nI 0) E2 n2) X0 := by
  refine Ct.of (by decide +kernel) rfl (Nat.le_of_ble_eq_true rfl) ?_
  obtain ⟨⟨ml, hs⟩, hv, hb7, hcap, hc⟩ := id hSB
  refine G.sub (lv2 := [(0, _), (1, _)]) [0, 1] rfl ?_
  refine g_aload_n 0 rfl dJ4_setLength_d00df_0 ?_
  refine g_iload_n 1 rfl dJ4_setLength_d00df_1 ?_
  refine gx_U (c_J5_setLength_d00df hSB) l_J4_333 rfl hs rfl (Nat.le_of_ble_eq_true rfl) (Nat.le_of_ble_eq_true rfl) rfl dJ4_setLength_d00df_2 (fun r E2 n2 hp => ?_)
  obtain ⟨rfl, hp⟩ := hp
  exact g_vret ⟨rfl, hp⟩ rfl dJ4_setLength_d00df_5
end GJ2
