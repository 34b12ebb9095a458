section GQ1
def CapG (cap : Nat) : Prop := cap = 22 ∨ cap = 46 ∨ cap = 94 ∨ cap = 190 ∨ cap = 382
theorem CapG.bd {cap : Nat} (h : CapG cap) : 22 ≤ cap ∧ cap ≤ 382 := by unfold CapG at h; omega
theorem CapG.dbl {cap : Nat} (h : CapG cap) (h2 : cap < 382) : CapG (2 * cap + 2) := by unfold CapG at h ⊢; omega
/-- the builder's object at a, its bytes at v -/
def SBg (Γ : Gm) (E : Hp) (a v cap : Nat) (b : Nat → Int32) (cnt : Nat) : Prop := (∃ ml : Int32, E a = some (.inr (1, [.ref v, .int (nI 0), .int ml, .int (nI cnt)]))) ∧ E v = some (.inl (gA Γ 1, cap, .inl b)) ∧ A7 b cap ∧ CapG cap ∧ cnt ≤ cap
def SBq (Γ : Gm) (E : Hp) (n a v K cnt2 : Nat) (B : Nat → Int32) (E2 : Hp) (n2 : Nat) : Prop := ∃ v2 cap2 b2, SBg Γ E2 a v2 cap2 b2 cnt2 ∧ K ≤ cap2 ∧ (∀ j, j < cnt2 → b2 j = B j) ∧ Fx E E2 n a v ∧ (v2 = v ∨ n ≤ v2) ∧ n ≤ n2
theorem SBg.rcv {Γ : Gm} {E : Hp} {a v cap cnt : Nat} {b : Nat → Int32} (h : SBg Γ E a v cap b cnt) : Rcv Γ E a "java/lang/StringBuilder" := by
  obtain ⟨⟨ml, h⟩, -⟩ := h
  exact Rcv.of h (show vwCl[1]? = some ("java/lang/StringBuilder", TJ4, 4) from rfl)
theorem SF.fxg {Γ : Gm} {E E2 : Hp} {n a v s w cap cnt : Nat} {b : Nat → Int32} (h : SF Γ E s w) (hSB : SBg Γ E a v cap b cnt) (hlt : ∀ a e, E a = some e → a < n) (hF : Fx E E2 n a v) : SF Γ E2 s w := by
  obtain ⟨⟨ml, hs⟩, hv, -⟩ := hSB
  rcases h with ⟨x, z, h⟩ | h
  · refine Or.inl ⟨x, z, ?_⟩
    rw [hF s (fun e => by rw [e, hs] at h; cases h) (fun e => by rw [e, hv] at h; cases h) (hlt _ _ h)]; exact h
  · exact Or.inr h
theorem BA.fxg {Γ : Gm} {E E2 : Hp} {n a v w cap cnt N : Nat} {b t : Nat → Int32} (h : BA Γ E w N t) (hSB : SBg Γ E a v cap b cnt) (hlt : ∀ a e, E a = some e → a < n) (hwv : w ≠ v) (hF : Fx E E2 n a v) : BA Γ E2 w N t := by
  obtain ⟨⟨ml, hs⟩, hv, -⟩ := hSB
  rcases h with h | h
  · refine Or.inl ?_
    rw [hF w (fun e => by rw [e, hs] at h; cases h) hwv (hlt _ _ h)]; exact h
  · exact Or.inr h
set_option maxRecDepth 100000 in
set_option maxHeartbeats 4000000 in
theorem cg_newCapacity {Γ : Gm} {n : Nat} {E : Hp} {a v cap cnt m : Nat} {b : Nat → Int32} {ml : Int32} (hs : E a = some (.inr (1, [.ref v, .int (nI 0), .int ml, .int (nI cnt)]))) (hv : E v = some (.inl (gA Γ 1, cap, .inl b))) (hcg : CapG cap) (hm : cap < m) (hm2 : m ≤ 2 * cap + 2) (hm3 : m ≤ 382) : Ct Γ 3 MJ5_newCapacity_0f7a4 0 0 [.ref a, .int (nI m)] (E) n (Rt (some (.int (nI (2 * cap + 2)))) (E) n) X0 := by
  refine Ct.of (by decide +kernel) rfl (Nat.le_of_ble_eq_true rfl) ?_
  have hc8 := hcg.bd
  refine G.sub (lv2 := [(0, _), (1, _)]) [0, 1] rfl ?_
  refine g_aload_n 0 rfl dJ5_newCapacity_0f7a4_0 ?_
  refine g_get f_J5_15 hs rfl dJ5_newCapacity_0f7a4_1 ?_
  refine g_len hv (show (gtys Γ)[1]? = some (gA Γ 1, _) from rfl) rfl dJ5_newCapacity_0f7a4_4 ?_
  refine g_istore_n (lv2 := [(2, _), (0, _), (1, _)]) (by decide) rfl dJ5_newCapacity_0f7a4_5 ?_
  refine g_iload_n 2 rfl dJ5_newCapacity_0f7a4_6 ?_
  refine g_aload_n 1 rfl dJ5_newCapacity_0f7a4_7 ?_
  refine g_get f_J5_22 hs rfl dJ5_newCapacity_0f7a4_8 ?_
  refine g_ishl dJ5_newCapacity_0f7a4_11 ?_
  refine g_top (y := nI m) (sb_shl0 _) ?_
  refine g_istore_n (lv2 := [(3, _), (2, _), (0, _), (1, _)]) (by decide) rfl dJ5_newCapacity_0f7a4_12 ?_
  refine g_iload_n 0 rfl dJ5_newCapacity_0f7a4_13 ?_
  refine g_iload_n 1 rfl dJ5_newCapacity_0f7a4_14 ?_
  refine gn_isub (by omega) dJ5_newCapacity_0f7a4_15 ?_
  refine g_istore (lv2 := [(4, _), (3, _), (2, _), (0, _), (1, _)]) (by decide) rfl dJ5_newCapacity_0f7a4_16 ?_
  refine g_iload_n 2 rfl dJ5_newCapacity_0f7a4_18 ?_
  refine g_iload 0 rfl dJ5_newCapacity_0f7a4_19 ?_
  refine g_iload_n 2 rfl dJ5_newCapacity_0f7a4_21 ?_
  refine gn_ic 2 (by decide) dJ5_newCapacity_0f7a4_22 ?_
  refine g_aload_n 3 rfl dJ5_newCapacity_0f7a4_23 ?_
  refine g_get f_J5_22 hs rfl dJ5_newCapacity_0f7a4_24 ?_
  refine g_ishl dJ5_newCapacity_0f7a4_27 ?_
  refine g_top (y := nI 2) (sb_shl0 _) ?_
  refine gn_iadd dJ5_newCapacity_0f7a4_28 ?_
  refine gv_S (c_J8_newLength_cabcc (by omega) (by omega)) l_J5_114 rfl (Nat.le_of_ble_eq_true rfl) (Nat.le_of_ble_eq_true rfl) rfl dJ5_newCapacity_0f7a4_29 ?_
  refine g_istore (lv2 := [(5, _), (4, _), (3, _), (2, _), (0, _), (1, _)]) (by decide) rfl dJ5_newCapacity_0f7a4_32 ?_
  refine g_iload 0 rfl dJ5_newCapacity_0f7a4_34 ?_
  refine gn_ldc (a := 2147483647) (wl_2 216 rfl rfl) dJ5_newCapacity_0f7a4_36 ?_
  refine gn_icmp_ne (by omega) (by omega) (tgt := 51) (by decide) dJ5_newCapacity_0f7a4_38 (fun h38 => ?_) (fun h38 => ?_)
  · -- t 51
    refine g_iload 0 rfl dJ5_newCapacity_0f7a4_51 ?_
    refine g_aload_n 4 rfl dJ5_newCapacity_0f7a4_53 ?_
    refine g_get f_J5_22 hs rfl dJ5_newCapacity_0f7a4_54 ?_
    refine g_ishr dJ5_newCapacity_0f7a4_57 ?_
    refine g_top (y := nI (2 * cap + 2)) ((sb_shr0 _).trans (by rw [show cap + max (m - cap) (cap + 2) = 2 * cap + 2 by omega])) ?_
    exact g_iret ⟨rfl, rfl, rfl⟩ rfl rfl dJ5_newCapacity_0f7a4_58
  · -- f 41
    exfalso; omega
set_option maxRecDepth 100000 in
set_option maxHeartbeats 4000000 in
theorem cg_ens_gr {Γ : Gm} {n : Nat} {E : Hp} {a v cap cnt m : Nat} {b : Nat → Int32} {ml : Int32} (hs : E a = some (.inr (1, [.ref v, .int (nI 0), .int ml, .int (nI cnt)]))) (hv : E v = some (.inl (gA Γ 1, cap, .inl b))) (hb7 : A7 b cap) (hc : cnt ≤ cap) (hcg : CapG cap) (hm : cap < m) (hm2 : m ≤ 2 * cap + 2) (hm3 : m ≤ 382) : Ct Γ 5 MJ5_ensureCapacityInternal_d00df 1 382 [.ref a, .int (nI m)] (E) n (fun r E2 n2 => r = none ∧ SBq Γ E n a v m cnt b E2 n2) X0 := by
  refine Ct.of (by decide +kernel) rfl (Nat.le_of_ble_eq_true rfl) ?_
  have hc8 := hcg.bd
  have hc7 : cap < 382 := by omega
  refine G.lt (fun hlt hgB => ?_)
  refine G.mono (kc2 := 0 + 1 + 0) (ks2 := 0 + (0 + (2 * cap + 2)) + 0) (by omega) (by unfold CapG at hcg; omega) ?_
  refine G.sub (lv2 := [(0, _), (1, _)]) [0, 1] rfl ?_
  refine g_aload_n 0 rfl dJ5_ensureCapacityInternal_d00df_0 ?_
  refine g_get f_J5_15 hs rfl dJ5_ensureCapacityInternal_d00df_1 ?_
  refine g_len hv (show (gtys Γ)[1]? = some (gA Γ 1, _) from rfl) rfl dJ5_ensureCapacityInternal_d00df_4 ?_
  refine g_aload_n 0 rfl dJ5_ensureCapacityInternal_d00df_5 ?_
  refine g_get f_J5_22 hs rfl dJ5_ensureCapacityInternal_d00df_6 ?_
  refine g_ishr dJ5_ensureCapacityInternal_d00df_9 ?_
  refine g_top (y := nI cap) (sb_shr0 _) ?_
  refine g_istore_n (lv2 := [(2, _), (0, _), (1, _)]) (by decide) rfl dJ5_ensureCapacityInternal_d00df_10 ?_
  refine g_iload_n 2 rfl dJ5_ensureCapacityInternal_d00df_11 ?_
  refine g_iload_n 0 rfl dJ5_ensureCapacityInternal_d00df_12 ?_
  refine g_isub dJ5_ensureCapacityInternal_d00df_13 ?_
  refine g_if_le (tgt := 38) (by decide) dJ5_ensureCapacityInternal_d00df_14 (fun h14 => ?_) (fun h14 => ?_)
  · -- t 38
    exact absurd ((isub_le0 (by omega) (by omega)).mp h14) (by omega)
  · -- f 17
    refine g_aload_n 1 rfl dJ5_ensureCapacityInternal_d00df_17 ?_
    refine g_aload_n 1 rfl dJ5_ensureCapacityInternal_d00df_18 ?_
    refine g_get f_J5_15 hs rfl dJ5_ensureCapacityInternal_d00df_19 ?_
    refine g_aload_n 1 rfl dJ5_ensureCapacityInternal_d00df_22 ?_
    refine g_iload_n 2 rfl dJ5_ensureCapacityInternal_d00df_23 ?_
    refine gv_Y (cg_newCapacity hs hv hcg hm hm2 hm3) l_J5_104 rfl (Rcv.of hs rfl) (Nat.le_of_ble_eq_true rfl) (Nat.le_of_ble_eq_true rfl) rfl dJ5_ensureCapacityInternal_d00df_24 ?_
    refine g_aload_n 1 rfl dJ5_ensureCapacityInternal_d00df_27 ?_
    refine g_get f_J5_22 hs rfl dJ5_ensureCapacityInternal_d00df_28 ?_
    refine g_ishl dJ5_ensureCapacityInternal_d00df_31 ?_
    refine g_top (y := nI (2 * cap + 2)) (sb_shl0 _) ?_
    refine gv_S (c_J7_copyOf_9075b hv hb7 (by omega) (by unfold CapG at hcg; omega)) l_J5_108 rfl (Nat.le_of_ble_eq_true rfl) (Nat.le_of_ble_eq_true rfl) rfl dJ5_ensureCapacityInternal_d00df_32 ?_
    have hs1 := (hset_n (e := .inl (gA Γ 1, 2 * cap + 2, .inl (va_cpy b (fun _ => nI 0) 0 0 cap))) (Nat.ne_of_lt (hlt _ _ hs))).trans hs
    refine g_put2 f_J5_15 w_J4_0 hs1 (Nat.le_of_ble_eq_true rfl) rfl rfl rfl dJ5_ensureCapacityInternal_d00df_35 ?_
    exact g_vret ⟨rfl, n, 2 * cap + 2, va_cpy b (fun _ => nI 0) 0 0 cap, ⟨⟨ml, hset_s⟩, (hset_n (Nat.ne_of_gt (hlt _ _ hs))).trans hset_s, hb7.cpy A7.zero (by omega), hcg.dbl hc7, by omega⟩, by omega, fun j hj => sb_cpy0 (by omega), fun q h1 h2 h3 => (hset_n h1).trans (hset_n (by omega)), Or.inr (Nat.le_refl _), by omega⟩ rfl dJ5_ensureCapacityInternal_d00df_38
set_option maxRecDepth 100000 in
set_option maxHeartbeats 4000000 in
theorem cg_ens_ng {Γ : Gm} {n : Nat} {E : Hp} {a v cap cnt m : Nat} {b : Nat → Int32} {ml : Int32} (hs : E a = some (.inr (1, [.ref v, .int (nI 0), .int ml, .int (nI cnt)]))) (hv : E v = some (.inl (gA Γ 1, cap, .inl b))) (hb7 : A7 b cap) (hc : cnt ≤ cap) (hcap : CapG cap) (hm : m ≤ cap) : Ct Γ 5 MJ5_ensureCapacityInternal_d00df 1 382 [.ref a, .int (nI m)] (E) n (fun r E2 n2 => r = none ∧ SBq Γ E n a v m cnt b E2 n2) X0 := by
  refine Ct.of (by decide +kernel) rfl (Nat.le_of_ble_eq_true rfl) ?_
  have hc8 := hcap.bd
  refine G.sub (lv2 := [(0, _), (1, _)]) [0, 1] rfl ?_
  refine g_aload_n 0 rfl dJ5_ensureCapacityInternal_d00df_0 ?_
  refine g_get f_J5_15 hs rfl dJ5_ensureCapacityInternal_d00df_1 ?_
  refine g_len hv (show (gtys Γ)[1]? = some (gA Γ 1, _) from rfl) rfl dJ5_ensureCapacityInternal_d00df_4 ?_
  refine g_aload_n 0 rfl dJ5_ensureCapacityInternal_d00df_5 ?_
  refine g_get f_J5_22 hs rfl dJ5_ensureCapacityInternal_d00df_6 ?_
  refine g_ishr dJ5_ensureCapacityInternal_d00df_9 ?_
  refine g_top (y := nI cap) (sb_shr0 _) ?_
  refine g_istore_n (lv2 := [(2, _), (0, _), (1, _)]) (by decide) rfl dJ5_ensureCapacityInternal_d00df_10 ?_
  refine g_iload_n 2 rfl dJ5_ensureCapacityInternal_d00df_11 ?_
  refine g_iload_n 0 rfl dJ5_ensureCapacityInternal_d00df_12 ?_
  refine g_isub dJ5_ensureCapacityInternal_d00df_13 ?_
  refine g_if_le (tgt := 38) (by decide) dJ5_ensureCapacityInternal_d00df_14 (fun h14 => ?_) (fun h14 => ?_)
  · -- t 38
    exact g_vret ⟨rfl, v, cap, b, ⟨⟨ml, hs⟩, hv, hb7, hcap, hc⟩, hm, fun _ _ => rfl, fun _ _ _ _ => rfl, Or.inl rfl, Nat.le_refl _⟩ rfl dJ5_ensureCapacityInternal_d00df_38
  · -- f 17
    exact absurd ((isub_le0 (by omega) (by omega)).mpr hm) h14
theorem cg_ens {Γ : Gm} {n : Nat} {E : Hp} {a v cap cnt m : Nat} {b : Nat → Int32} (h : SBg Γ E a v cap b cnt) (hm2 : m ≤ cnt + 22) (hm3 : m ≤ 382) : Ct Γ 5 MJ5_ensureCapacityInternal_d00df 1 382 [.ref a, .int (nI m)] E n (fun r E2 n2 => r = none ∧ SBq Γ E n a v m cnt b E2 n2) X0 := by
  obtain ⟨⟨ml, hs⟩, hv, hb7, hcap, hc⟩ := h
  have hc8 := hcap.bd
  by_cases e : m ≤ cap
  · exact cg_ens_ng hs hv hb7 hc hcap e
  · exact cg_ens_gr hs hv hb7 hc hcap (by omega) (by omega) hm3
set_option maxRecDepth 100000 in
set_option maxHeartbeats 4000000 in
theorem cg_J5_append_3fe6f {Γ : Gm} {n : Nat} {E : Hp} {a v cap cnt l : Nat} {b : Nat → Int32} (hSB : SBg Γ E a v cap b cnt) (hl : l < 128) (hr : cnt + 1 ≤ 382) : Ct Γ 7 MJ5_append_3fe6f 1 382 [.ref a, .int (nI l)] (E) n (fun r E2 n2 => r = some (.ref a) ∧ SBq Γ E n a v (cnt + 1) (cnt + 1) (upd b cnt (nI l)) E2 n2) X0 := by
  refine Ct.of (by decide +kernel) rfl (Nat.le_of_ble_eq_true rfl) ?_
  obtain ⟨⟨ml, hs⟩, hv, hb7, hcap, hc⟩ := id hSB
  have hc8 := hcap.bd
  refine G.sub (lv2 := [(0, _), (1, _)]) [0, 1] rfl ?_
  refine g_aload_n 0 rfl dJ5_append_3fe6f_0 ?_
  refine g_aload_n 0 rfl dJ5_append_3fe6f_1 ?_
  refine g_get f_J5_79 hs rfl dJ5_append_3fe6f_2 ?_
  refine gn_ic 1 (by decide) dJ5_append_3fe6f_5 ?_
  refine gn_iadd dJ5_append_3fe6f_6 ?_
  refine gx_Y0 (cg_ens hSB (by omega) hr ) l_J5_100 rfl hSB.rcv (Nat.le_of_ble_eq_true rfl) (Nat.le_of_ble_eq_true rfl) rfl dJ5_append_3fe6f_7 (fun _ _ _ h => h.1) (fun E2 n2 hp => ?_)
  obtain ⟨-, v2, cap2, b2, ⟨⟨ml2, hs1⟩, hv1, hb72, hcap2, hc2⟩, hK2, hB2, hF2, hV2, hn2⟩ := hp
  have hc9 := hcap2.bd
  refine g_aload_n 0 rfl dJ5_append_3fe6f_10 ?_
  refine gv_Y (c_J5_isLatin1_aae02 hs1) l_J5_83 rfl (Rcv.of hs1 rfl) (Nat.le_of_ble_eq_true rfl) (Nat.le_of_ble_eq_true rfl) rfl dJ5_append_3fe6f_11 ?_
  refine gn_if_eq (by omega) (tgt := 45) (by decide) dJ5_append_3fe6f_14 (fun cc1 => ?_) (fun cc1 => ?_)
  · -- t 45
    exact absurd cc1 (by decide)
  · -- f 17
    refine g_iload_n 1 rfl dJ5_append_3fe6f_17 ?_
    refine gv_S (c_J1_canEncode_fc78d hl) l_J5_191 rfl (Nat.le_of_ble_eq_true rfl) (Nat.le_of_ble_eq_true rfl) rfl dJ5_append_3fe6f_18 ?_
    refine gn_if_eq (by omega) (tgt := 45) (by decide) dJ5_append_3fe6f_21 (fun cc2 => ?_) (fun cc2 => ?_)
    · -- t 45
      exact absurd cc2 (by decide)
    · -- f 24
      refine g_aload_n 0 rfl dJ5_append_3fe6f_24 ?_
      refine g_get f_J5_15 hs1 rfl dJ5_append_3fe6f_25 ?_
      refine g_aload_n 0 rfl dJ5_append_3fe6f_28 ?_
      refine g_dup rfl dJ5_append_3fe6f_29 ?_
      refine g_get f_J5_79 hs1 rfl dJ5_append_3fe6f_30 ?_
      refine g_dup_x1 rfl rfl dJ5_append_3fe6f_33 ?_
      refine gn_ic 1 (by decide) dJ5_append_3fe6f_34 ?_
      refine gn_iadd dJ5_append_3fe6f_35 ?_
      refine g_put2 f_J5_79 w_J4_3 hs1 (Nat.le_of_ble_eq_true rfl) rfl rfl rfl dJ5_append_3fe6f_36 ?_
      have hv2 := (hset_n (e := .inr (1, [.ref v2, .int (nI 0), .int ml2, .int (nI (cnt + 1))])) (show v2 ≠ a from fun e => by rw [e] at hv1; rw [hv1] at hs1; cases hs1)).trans hv1
      refine g_iload_n 1 rfl dJ5_append_3fe6f_39 ?_
      refine g_i2b dJ5_append_3fe6f_40 ?_
      refine g_top (y := nI l) (a7_all l hl).2.1 ?_
      refine gn_bast hv2 (by omega) (by omega) rfl dJ5_append_3fe6f_41 ?_
      refine g_goto (tgt := 75) (by decide) dJ5_append_3fe6f_42 ?_
      refine g_aload_n 0 rfl dJ5_append_3fe6f_75 ?_
      exact g_aret ⟨rfl, v2, cap2, _, ⟨⟨ml2, (hset_n (show a ≠ v2 from fun e => by rw [← e] at hv1; rw [hv1] at hs1; cases hs1)).trans hset_s⟩, hset_s, by rw [(a7_all l hl).2.1]; exact hb72.put hl, hcap2, hK2⟩, hK2, fun j hj => by rw [(a7_all l hl).2.1]; unfold upd; split <;> first | rfl | exact hB2 j (by omega), fun q g1 g2 g3 => (hset_n (by omega)).trans ((hset_n g1).trans (hF2 q g1 g2 g3)), hV2, hn2⟩ rfl dJ5_append_3fe6f_76
set_option maxRecDepth 100000 in
set_option maxHeartbeats 4000000 in
theorem cg_append_c {Γ : Gm} {n : Nat} {E : Hp} {a v cap cnt l : Nat} {b : Nat → Int32} (hSB : SBg Γ E a v cap b cnt) (hl : l < 128) (hr : cnt + 1 ≤ 382) : Ct Γ 8 MJ4_append_cf468 1 382 [.ref a, .int (nI l)] (E) n (fun r E2 n2 => r = some (.ref a) ∧ SBq Γ E n a v (cnt + 1) (cnt + 1) (upd b cnt (nI l)) E2 n2) X0 := by
  refine Ct.of (by decide +kernel) rfl (Nat.le_of_ble_eq_true rfl) ?_
  obtain ⟨⟨ml, hs⟩, hv, hb7, hcap, hc⟩ := id hSB
  have hc8 := hcap.bd
  refine G.sub (lv2 := [(0, _), (1, _)]) [0, 1] rfl ?_
  refine g_aload_n 0 rfl dJ4_append_cf468_0 ?_
  refine g_iload_n 1 rfl dJ4_append_cf468_1 ?_
  refine gx_U (cg_J5_append_3fe6f hSB hl hr) l_J4_50 rfl hs rfl (Nat.le_of_ble_eq_true rfl) (Nat.le_of_ble_eq_true rfl) rfl dJ4_append_cf468_2 (fun r E2 n2 hp => ?_)
  obtain ⟨rfl, hp⟩ := hp
  refine g_pop rfl dJ4_append_cf468_5 ?_
  refine g_aload_n 0 rfl dJ4_append_cf468_6 ?_
  exact g_aret ⟨rfl, hp⟩ rfl dJ4_append_cf468_7
set_option maxRecDepth 100000 in
set_option maxHeartbeats 4000000 in
theorem cg_J5_append_cf1ce {Γ : Gm} {n : Nat} {E : Hp} {a v cap cnt s w N : Nat} {b t : Nat → Int32} (hSB : SBg Γ E a v cap b cnt) (ht : SF Γ E s w) (htb : BA Γ E w N t) (ht7 : A7 t N) (hwv : w ≠ v) (hr : cnt + N ≤ 382) (hN : N ≤ 20) : Ct Γ 7 MJ5_append_cf1ce 1 382 [.ref a, .ref s] (E) n (fun r E2 n2 => r = some (.ref a) ∧ SBq Γ E n a v (cnt + N) (cnt + N) (catF b cnt t) E2 n2) X0 := by
  refine Ct.of (by decide +kernel) rfl (Nat.le_of_ble_eq_true rfl) ?_
  refine G.lt (fun hlt hgB => ?_)
  obtain ⟨⟨ml, hs⟩, hv, hb7, hcap, hc⟩ := id hSB
  have hc8 := hcap.bd
  refine G.sub (lv2 := [(0, _), (1, _)]) [0, 1] rfl ?_
  refine g_aload_n 1 rfl dJ5_append_cf1ce_0 ?_
  refine g_ifnonnull (tgt := 9) (by decide) dJ5_append_cf1ce_1 ?_
  refine g_aload_n 1 rfl dJ5_append_cf1ce_9 ?_
  refine gv_V (c_J0_length_8abf5 ht htb) l_J5_32 rfl ht.rcv (Nat.le_of_ble_eq_true rfl) (Nat.le_of_ble_eq_true rfl) rfl dJ5_append_cf1ce_10 ?_
  refine g_istore_n (lv2 := [(2, _), (0, _), (1, _)]) (by decide) rfl dJ5_append_cf1ce_13 ?_
  refine g_aload_n 1 rfl dJ5_append_cf1ce_14 ?_
  refine g_aload_n 1 rfl dJ5_append_cf1ce_15 ?_
  refine g_get f_J5_79 hs rfl dJ5_append_cf1ce_16 ?_
  refine g_iload_n 0 rfl dJ5_append_cf1ce_19 ?_
  refine gn_iadd dJ5_append_cf1ce_20 ?_
  refine gx_Y0 (cg_ens hSB (by omega) hr ) l_J5_100 rfl hSB.rcv (Nat.le_of_ble_eq_true rfl) (Nat.le_of_ble_eq_true rfl) rfl dJ5_append_cf1ce_21 (fun _ _ _ h => h.1) (fun E2 n2 hp => ?_)
  obtain ⟨-, v2, cap2, b2, ⟨⟨ml2, hs1⟩, hv1, hb72, hcap2, hc2⟩, hK2, hB2, hF2, hV2, hn2⟩ := hp
  have hc9 := hcap2.bd
  have ht2 := ht.fxg hSB hlt hF2
  have htb2 := htb.fxg hSB hlt hwv hF2
  refine g_aload_n 1 rfl dJ5_append_cf1ce_24 ?_
  refine g_aload_n 1 rfl dJ5_append_cf1ce_25 ?_
  refine g_get f_J5_79 hs1 rfl dJ5_append_cf1ce_26 ?_
  refine g_aload_n 2 rfl dJ5_append_cf1ce_29 ?_
  refine gu_Y (c_J5_putStringAt_47b60 hs1 hv1 ht2 htb2 ht7 hK2 (by omega)) l_J5_208 rfl (Rcv.of hs1 rfl) (Nat.le_of_ble_eq_true rfl) (Nat.le_of_ble_eq_true rfl) rfl dJ5_append_cf1ce_30 ?_
  have hs2 := (hset_n (e := .inl (gA Γ 1, cap2, .inl (va_cpy t b2 0 cnt N))) (show a ≠ v2 from fun e => by rw [← e] at hv1; rw [hv1] at hs1; cases hs1)).trans hs1
  refine g_aload_n 1 rfl dJ5_append_cf1ce_33 ?_
  refine g_dup rfl dJ5_append_cf1ce_34 ?_
  refine g_get f_J5_79 hs2 rfl dJ5_append_cf1ce_35 ?_
  refine g_iload_n 0 rfl dJ5_append_cf1ce_38 ?_
  refine gn_iadd dJ5_append_cf1ce_39 ?_
  refine g_put2 f_J5_79 w_J4_3 hs2 (Nat.le_of_ble_eq_true rfl) rfl rfl rfl dJ5_append_cf1ce_40 ?_
  refine g_aload_n 1 rfl dJ5_append_cf1ce_43 ?_
  exact g_aret ⟨rfl, v2, cap2, _, ⟨⟨ml2, hset_s⟩, (hset_n (show v2 ≠ a from fun e => by rw [e] at hv1; rw [hv1] at hs1; cases hs1)).trans hset_s, ht7.cpy hb72 (by omega), hcap2, hK2⟩, hK2, fun j hj => by unfold va_cpy catF; by_cases e : j < cnt; rw [if_neg (by omega), if_pos e]; exact hB2 j e; rw [if_pos (by omega), if_neg e, Nat.zero_add], fun q g1 g2 g3 => (hset_n g1).trans ((hset_n (by omega)).trans (hF2 q g1 g2 g3)), hV2, hn2⟩ rfl dJ5_append_cf1ce_44
set_option maxRecDepth 100000 in
set_option maxHeartbeats 4000000 in
theorem cg_append_s {Γ : Gm} {n : Nat} {E : Hp} {a v cap cnt s w N : Nat} {b t : Nat → Int32} (hSB : SBg Γ E a v cap b cnt) (ht : SF Γ E s w) (htb : BA Γ E w N t) (ht7 : A7 t N) (hwv : w ≠ v) (hr : cnt + N ≤ 382) (hN : N ≤ 20) : Ct Γ 8 MJ4_append_15ec4 1 382 [.ref a, .ref s] (E) n (fun r E2 n2 => r = some (.ref a) ∧ SBq Γ E n a v (cnt + N) (cnt + N) (catF b cnt t) E2 n2) X0 := by
  refine Ct.of (by decide +kernel) rfl (Nat.le_of_ble_eq_true rfl) ?_
  obtain ⟨⟨ml, hs⟩, hv, hb7, hcap, hc⟩ := id hSB
  have hc8 := hcap.bd
  refine G.sub (lv2 := [(0, _), (1, _)]) [0, 1] rfl ?_
  refine g_aload_n 0 rfl dJ4_append_15ec4_0 ?_
  refine g_aload_n 1 rfl dJ4_append_15ec4_1 ?_
  refine gx_U (cg_J5_append_cf1ce hSB ht htb ht7 hwv hr hN) l_J4_29 rfl hs rfl (Nat.le_of_ble_eq_true rfl) (Nat.le_of_ble_eq_true rfl) rfl dJ4_append_15ec4_2 (fun r E2 n2 hp => ?_)
  obtain ⟨rfl, hp⟩ := hp
  refine g_pop rfl dJ4_append_15ec4_5 ?_
  refine g_aload_n 0 rfl dJ4_append_15ec4_6 ?_
  exact g_aret ⟨rfl, hp⟩ rfl dJ4_append_15ec4_7
set_option maxRecDepth 100000 in
set_option maxHeartbeats 4000000 in
theorem cg_append_b {Γ : Gm} {n : Nat} {E : Hp} {a v cap cnt s w N : Nat} {b t : Nat → Int32} (hSB : SBg Γ E a v cap b cnt) (ht : SF Γ E s w) (htb : BA Γ E w N t) (ht7 : A7 t N) (hwv : w ≠ v) (hr : cnt + N ≤ 382) (hN : N ≤ 20) : Ct Γ 9 MJ4_append_cf1ce 1 382 [.ref a, .ref s] (E) n (fun r E2 n2 => r = some (.ref a) ∧ SBq Γ E n a v (cnt + N) (cnt + N) (catF b cnt t) E2 n2) X0 := by
  refine Ct.of (by decide +kernel) rfl (Nat.le_of_ble_eq_true rfl) ?_
  obtain ⟨⟨ml, hs⟩, hv, hb7, hcap, hc⟩ := id hSB
  have hc8 := hcap.bd
  refine G.sub (lv2 := [(0, _), (1, _)]) [0, 1] rfl ?_
  refine g_aload_n 0 rfl dJ4_append_cf1ce_0 ?_
  refine g_aload_n 1 rfl dJ4_append_cf1ce_1 ?_
  refine gx_Vr (cg_append_s hSB ht htb ht7 hwv hr hN) l_J4_23 rfl hSB.rcv (Nat.le_of_ble_eq_true rfl) (Nat.le_of_ble_eq_true rfl) rfl dJ4_append_cf1ce_2 (fun _ _ _ h => ⟨_, h.1⟩) (fun r3 E3 n3 hp => ?_)
  obtain ⟨h1, hp⟩ := hp
  cases h1
  exact g_aret ⟨rfl, hp⟩ rfl dJ4_append_cf1ce_5
set_option maxRecDepth 100000 in
set_option maxHeartbeats 4000000 in
theorem cg_J5_append_c97b9 {Γ : Gm} {n : Nat} {E : Hp} {a v cap cnt w e : Nat} {b : Nat → Int32} {x : Int32} (hSB : SBg Γ E a v cap b cnt) (hw : iabs x = nI w) (hw31 : w < 2 ^ 31) (he : e = if x < 0 then 1 else 0) (hr : (cnt + (e + (sb_dg w))) ≤ 382) : Ct Γ 7 MJ5_append_c97b9 1 382 [.ref a, .int x] (E) n (fun r E2 n2 => r = some (.ref a) ∧ SBq Γ E n a v (cnt + (e + (sb_dg w))) (cnt + (e + (sb_dg w))) (gcS b cnt e w (sb_dg w)) E2 n2) X0 := by
  refine Ct.of (by decide +kernel) rfl (Nat.le_of_ble_eq_true rfl) ?_
  obtain ⟨⟨ml, hs⟩, hv, hb7, hcap, hc⟩ := id hSB
  have hc8 := hcap.bd
  have hD := sb_dg_in w
  have he1 : e ≤ 1 := by rw [he]; split <;> omega
  refine G.sub (lv2 := [(0, _), (1, _)]) [0, 1] rfl ?_
  refine g_aload_n 0 rfl dJ5_append_c97b9_0 ?_
  refine g_get f_J5_79 hs rfl dJ5_append_c97b9_1 ?_
  refine g_istore_n (lv2 := [(2, _), (0, _), (1, _)]) (by decide) rfl dJ5_append_c97b9_4 ?_
  refine g_iload_n 0 rfl dJ5_append_c97b9_5 ?_
  refine g_iload_n 2 rfl dJ5_append_c97b9_6 ?_
  refine gv_S (c_J6_stringSize_0f7a4 hw hw31 he) l_J5_245 rfl (Nat.le_of_ble_eq_true rfl) (Nat.le_of_ble_eq_true rfl) rfl dJ5_append_c97b9_7 ?_
  refine gn_iadd dJ5_append_c97b9_10 ?_
  refine g_istore_n (lv2 := [(3, _), (2, _), (0, _), (1, _)]) (by decide) rfl dJ5_append_c97b9_11 ?_
  refine g_aload_n 2 rfl dJ5_append_c97b9_12 ?_
  refine g_iload_n 0 rfl dJ5_append_c97b9_13 ?_
  refine gx_Y0 (cg_ens hSB (by omega) hr ) l_J5_100 rfl hSB.rcv (Nat.le_of_ble_eq_true rfl) (Nat.le_of_ble_eq_true rfl) rfl dJ5_append_c97b9_14 (fun _ _ _ h => h.1) (fun E2 n2 hp => ?_)
  obtain ⟨-, v2, cap2, b2, ⟨⟨ml2, hs1⟩, hv1, hb72, hcap2, hc2⟩, hK2, hB2, hF2, hV2, hn2⟩ := hp
  have hc9 := hcap2.bd
  refine g_aload_n 2 rfl dJ5_append_c97b9_17 ?_
  refine gv_Y (c_J5_isLatin1_aae02 hs1) l_J5_83 rfl (Rcv.of hs1 rfl) (Nat.le_of_ble_eq_true rfl) (Nat.le_of_ble_eq_true rfl) rfl dJ5_append_c97b9_18 ?_
  refine gn_if_eq (by omega) (tgt := 37) (by decide) dJ5_append_c97b9_21 (fun cc1 => ?_) (fun cc1 => ?_)
  · -- t 37
    exact absurd cc1 (by decide)
  · -- f 24
    refine g_iload_n 3 rfl dJ5_append_c97b9_24 ?_
    refine g_iload_n 0 rfl dJ5_append_c97b9_25 ?_
    refine g_aload_n 2 rfl dJ5_append_c97b9_26 ?_
    refine g_get f_J5_15 hs1 rfl dJ5_append_c97b9_27 ?_
    refine gv_S (c_J6_getChars_ba4f3 hw hw31 he hv1 hK2 (by omega)) l_J5_248 rfl (Nat.le_of_ble_eq_true rfl) (Nat.le_of_ble_eq_true rfl) rfl dJ5_append_c97b9_30 ?_
    have hs2 := (hset_n (e := .inl (gA Γ 1, cap2, .inl (gcS b2 cnt e w (sb_dg w)))) (show a ≠ v2 from fun e => by rw [← e] at hv1; rw [hv1] at hs1; cases hs1)).trans hs1
    refine g_pop rfl dJ5_append_c97b9_33 ?_
    refine g_goto (tgt := 48) (by decide) dJ5_append_c97b9_34 ?_
    refine g_aload_n 2 rfl dJ5_append_c97b9_48 ?_
    refine g_iload_n 0 rfl dJ5_append_c97b9_49 ?_
    refine g_put2 f_J5_79 w_J4_3 hs2 (Nat.le_of_ble_eq_true rfl) rfl rfl rfl dJ5_append_c97b9_50 ?_
    refine g_aload_n 2 rfl dJ5_append_c97b9_53 ?_
    exact g_aret ⟨rfl, v2, cap2, _, ⟨⟨ml2, hset_s⟩, (hset_n (show v2 ≠ a from fun e => by rw [e] at hv1; rw [hv1] at hs1; cases hs1)).trans hset_s, hb72.gcs, hcap2, hK2⟩, hK2, gcS_eq hB2 he1, fun q g1 g2 g3 => (hset_n g1).trans ((hset_n (by omega)).trans (hF2 q g1 g2 g3)), hV2, hn2⟩ rfl dJ5_append_c97b9_54
set_option maxRecDepth 100000 in
set_option maxHeartbeats 4000000 in
theorem cg_append_i {Γ : Gm} {n : Nat} {E : Hp} {a v cap cnt w e : Nat} {b : Nat → Int32} {x : Int32} (hSB : SBg Γ E a v cap b cnt) (hw : iabs x = nI w) (hw31 : w < 2 ^ 31) (he : e = if x < 0 then 1 else 0) (hr : (cnt + (e + (sb_dg w))) ≤ 382) : Ct Γ 8 MJ4_append_bf812 1 382 [.ref a, .int x] (E) n (fun r E2 n2 => r = some (.ref a) ∧ SBq Γ E n a v (cnt + (e + (sb_dg w))) (cnt + (e + (sb_dg w))) (gcS b cnt e w (sb_dg w)) E2 n2) X0 := by
  refine Ct.of (by decide +kernel) rfl (Nat.le_of_ble_eq_true rfl) ?_
  obtain ⟨⟨ml, hs⟩, hv, hb7, hcap, hc⟩ := id hSB
  have hc8 := hcap.bd
  refine G.sub (lv2 := [(0, _), (1, _)]) [0, 1] rfl ?_
  refine g_aload_n 0 rfl dJ4_append_bf812_0 ?_
  refine g_iload_n 1 rfl dJ4_append_bf812_1 ?_
  refine gx_U (cg_J5_append_c97b9 hSB hw hw31 he hr) l_J4_53 rfl hs rfl (Nat.le_of_ble_eq_true rfl) (Nat.le_of_ble_eq_true rfl) rfl dJ4_append_bf812_2 (fun r E2 n2 hp => ?_)
  obtain ⟨rfl, hp⟩ := hp
  refine g_pop rfl dJ4_append_bf812_5 ?_
  refine g_aload_n 0 rfl dJ4_append_bf812_6 ?_
  exact g_aret ⟨rfl, hp⟩ rfl dJ4_append_bf812_7
theorem l_J5_43 : LkY RJ5 43 RJ4 "java/lang/AbstractStringBuilder" ⟨"java/lang/AbstractStringBuilder", "append", "(Ljava/lang/String;)Ljava/lang/AbstractStringBuilder;"⟩ MJ4_append_cf1ce 1 := ⟨(wl_5 172 rfl rfl), (wl_6 152 rfl rfl), (fun args s hts => hts _ (wl_6 162 rfl rfl)), (wl_5 173 rfl rfl), (wl_1 3 rfl rfl), k_J4_append_cf1ce, (fun args s hts => va_Decl.of (hts _ (wl_2 192 rfl rfl)) (hts _ k_J5_append_cf1ce)), ⟨by decide +kernel, by decide +kernel⟩, by decide +kernel, by decide⟩
/-- a builder at a, made since n -/
def SBz (Γ : Gm) (E : Hp) (n a cnt : Nat) (B : Nat → Int32) (E2 : Hp) (n2 : Nat) : Prop := ∃ v cap b, SBg Γ E2 a v cap b cnt ∧ (∀ j, j < cnt → b j = B j) ∧ (∀ q, q ≠ a → q < n → E2 q = E q) ∧ n ≤ v ∧ n ≤ n2
theorem gx_Yr {Γ : Gm} {d d1 mc ms ix k b pc n kc ks : Nat} {M M1 : Mr} {P P1 : Po} {X : Px} {lv : List (Nat × Value)} {st rest As : List Value} {E : Hp} {C owner : String} {x : MethodName} (hC : Ct Γ d1 M1 mc ms (.ref b :: As) E n P1 X0) (lk : LkY M.1 ix C owner x M1 k) (hk : As.length = k) (hr : Rcv Γ E b C) (hd : d1 + 1 ≤ d) (hrest : (rest.map fun v => v.category).sum ≤ 8) (hst : st = As.reverse ++ .ref b :: rest) (dg : decode M.2.2.1 pc = .ok (.invokevirtual ix, 3)) (hv : ∀ v E1 n1, P1 v E1 n1 → ∃ a, v = some (.ref a))
    (kk : ∀ a E1 n1, P1 (some (.ref a)) E1 n1 → G Γ d M P X (pc + 3) lv (.ref a :: rest) E1 n1 kc ks) : G Γ d M P X pc lv st E n (kc + mc) (ks + ms) := g_invY hC lk hk hr hd hrest hst dg (fun _ _ _ h => h.elim) (fun v E1 n1 h => by
  obtain ⟨a, rfl⟩ := hv _ _ _ h
  exact kk a E1 n1 h)
theorem hwn {Γ : Gm} {E : Hp} {n w N : Nat} {t : Nat → Int32} (hgv : ∀ i q, gstrs[i]? = some q → gV Γ i < gB Γ) (hB : gB Γ ≤ n) (hlt : ∀ a e, E a = some e → a < n) (h : BA Γ E w N t) : w < n := by
  rcases h with h | ⟨i, q, h1, rfl, -⟩
  · exact hlt _ _ h
  · exact Nat.lt_of_lt_of_le (hgv i q h1) hB
/-- constants' letters are old -/
theorem G.gv {Γ : Gm} {d : Nat} {M : Mr} {P : Po} {X : Px} {pc : Nat} {lv : List (Nat × Value)} {st : List Value} {E : Hp} {n kc ks : Nat} (k : (∀ (i : Nat) (q : String × Nat × String × List Int32), gstrs[i]? = some q → gV Γ i < gB Γ) → G Γ d M P X pc lv st E n kc ks) : G Γ d M P X pc lv st E n kc ks := by
  intro p e R s m args below meth c Q hF hE H locs cells slots ls h1 h2 h3 h4 h5 h6
  refine k (fun i q hi => ?_) p e R s m args below meth c Q hF hE H locs cells slots ls h1 h2 h3 h4 h5 h6
  have hev := hF.2.2.2.2.2.1
  obtain ⟨cell, _, _, _, _, _, _, hn⟩ := (hev.2.2.2.2.1 i q hi).2.2.2.2
  exact Nat.not_le.mp hn
set_option maxRecDepth 100000 in
set_option maxHeartbeats 4000000 in
theorem cg_J5_init {Γ : Gm} {n : Nat} {E : Hp} {a s w : Nat} {t : Nat → Int32} (ha : E a = some (.inr (1, [.null, .int (nI 0), .int (nI 0), .int (nI 0)]))) (ht : SF Γ E s w) (htb : BA Γ E w 6 t) (ht7 : A7 t 6) : Ct Γ 10 MJ5_init_a7421 2 404 [.ref a, .ref s] (E) n (fun r E2 n2 => r = none ∧ SBz Γ E n a 6 t E2 n2) X0 := by
  refine Ct.of (by decide +kernel) rfl (Nat.le_of_ble_eq_true rfl) ?_
  refine G.lt (fun hlt hgB => ?_)
  refine G.gv (fun hgv => ?_)
  have han : a < n := hlt _ _ ha
  refine G.sub (lv2 := [(0, _), (1, _)]) [0, 1] rfl ?_
  refine g_aload_n 0 rfl dJ5_init_a7421_0 ?_
  refine g_objInit (wl_1 45 rfl rfl) (wl_1 35 rfl rfl) (wl_1 36 rfl rfl) (Nat.le_of_ble_eq_true rfl) (Nat.le_of_ble_eq_true rfl) dJ5_init_a7421_1 ?_
  refine g_aload_n 1 rfl dJ5_init_a7421_4 ?_
  refine gv_V (c_J0_length_8abf5 ht htb) l_J5_32 rfl ht.rcv (Nat.le_of_ble_eq_true rfl) (Nat.le_of_ble_eq_true rfl) rfl dJ5_init_a7421_5 ?_
  refine g_istore_n (lv2 := [(2, _), (0, _), (1, _)]) (by decide) rfl dJ5_init_a7421_8 ?_
  refine g_iload_n 0 rfl dJ5_init_a7421_9 ?_
  refine gn_ldc (a := 2147483631) (wl_5 171 rfl rfl) dJ5_init_a7421_10 ?_
  refine gn_icmp_ge (by omega) (by omega) (tgt := 22) (by decide) dJ5_init_a7421_12 (fun h12 => ?_) (fun h12 => ?_)
  · -- t 22
    exfalso; omega
  · -- f 15
    refine g_iload_n 0 rfl dJ5_init_a7421_15 ?_
    refine gn_bp 16 (by decide) dJ5_init_a7421_16 ?_
    refine gn_iadd dJ5_init_a7421_18 ?_
    refine g_goto (tgt := 24) (by decide) dJ5_init_a7421_19 ?_
    refine g_istore_n (lv2 := [(3, _), (2, _), (0, _), (1, _)]) (by decide) rfl dJ5_init_a7421_24 ?_
    refine g_aload_n 3 rfl dJ5_init_a7421_25 ?_
    refine gv_V (c_J0_coder_7d493 ht) l_J5_40 rfl ht.rcv (Nat.le_of_ble_eq_true rfl) (Nat.le_of_ble_eq_true rfl) rfl dJ5_init_a7421_26 ?_
    refine g_istore (lv2 := [(4, _), (3, _), (2, _), (0, _), (1, _)]) (by decide) rfl dJ5_init_a7421_29 ?_
    refine g_aload_n 3 rfl dJ5_init_a7421_31 ?_
    refine g_iload 0 rfl dJ5_init_a7421_32 ?_
    refine g_put2 f_J5_22 w_J4_1 ha (Nat.le_of_ble_eq_true rfl) rfl rfl rfl dJ5_init_a7421_34 ?_
    refine g_world (E2 := E) (hset_id ha) ?_
    refine g_aload_n 3 rfl dJ5_init_a7421_37 ?_
    refine g_iload 0 rfl dJ5_init_a7421_38 ?_
    refine gn_if_ne (by omega) (tgt := 49) (by decide) dJ5_init_a7421_40 (fun cc1 => ?_) (fun cc1 => ?_)
    · -- t 49
      exact absurd cc1 (by decide)
    · -- f 43
      refine g_iload_n 1 rfl dJ5_init_a7421_43 ?_
      refine gn_nb (wl_1 69 rfl rfl) (by omega) dJ5_init_a7421_44 (fun hB44 hf44 => ?_)
      have ha2 := (hset_n (e := (.inl (gA Γ 1, 6 + 16, .inl (fun _ => nI 0)))) (Nat.ne_of_lt han)).trans ha
      refine g_goto (tgt := 53) (by decide) dJ5_init_a7421_46 ?_
      refine g_put2 f_J5_15 w_J4_0 ha2 (Nat.le_of_ble_eq_true rfl) rfl rfl rfl dJ5_init_a7421_53 ?_
      have hsg : SBg Γ (hset (hset E n (.inl (gA Γ 1, 6 + 16, .inl (fun _ => nI 0)))) a (.inr (1, [.ref n, .int (nI 0), .int (nI 0), .int (nI 0)]))) a n (6 + 16) (fun _ => nI 0) 0 := ⟨⟨_, hset_s⟩, (hset_n (Nat.ne_of_gt han)).trans hset_s, A7.zero, Or.inl rfl, Nat.zero_le _⟩
      have hx : ∀ q e, E q = some e → q ≠ a → hset (hset E n (.inl (gA Γ 1, 6 + 16, .inl (fun _ => nI 0)))) a (.inr (1, [.ref n, .int (nI 0), .int (nI 0), .int (nI 0)])) q = some e := fun q e h1 h2 => (hset_n h2).trans ((hset_n (Nat.ne_of_lt (hlt _ _ h1))).trans h1)
      have ht2 : SF Γ (hset (hset E n (.inl (gA Γ 1, 6 + 16, .inl (fun _ => nI 0)))) a (.inr (1, [.ref n, .int (nI 0), .int (nI 0), .int (nI 0)]))) s w := Or.elim ht (fun ⟨x, z, h⟩ => Or.inl ⟨x, z, hx _ _ h (fun e => by rw [e, ha] at h; cases h)⟩) (fun h => Or.inr h)
      have htb2 : BA Γ (hset (hset E n (.inl (gA Γ 1, 6 + 16, .inl (fun _ => nI 0)))) a (.inr (1, [.ref n, .int (nI 0), .int (nI 0), .int (nI 0)]))) w 6 t := Or.elim htb (fun h => Or.inl (hx _ _ h (fun e => by rw [e, ha] at h; cases h))) (fun h => Or.inr h)
      refine g_aload_n 3 rfl dJ5_init_a7421_56 ?_
      refine g_aload_n 4 rfl dJ5_init_a7421_57 ?_
      refine gx_Yr (cg_append_b hsg ht2 htb2 ht7 (Nat.ne_of_lt (hwn hgv hgB hlt htb)) (by decide) (by decide)) l_J5_43 rfl hsg.rcv (Nat.le_of_ble_eq_true rfl) (Nat.le_of_ble_eq_true rfl) rfl dJ5_init_a7421_58 (fun _ _ _ h => ⟨_, h.1⟩) (fun r3 E3 n3 hp => ?_)
      obtain ⟨h1, v3, cap3, b3, q1, q2, q3, q4, q5, q6⟩ := hp
      cases h1
      refine g_pop rfl dJ5_init_a7421_61 ?_
      exact g_vret ⟨rfl, v3, cap3, b3, q1, fun j hj => (q3 j (by omega)).trans (by unfold catF; rw [if_neg (by omega), Nat.sub_zero]), fun q g1 g2 => (q4 q g1 (by omega) (by omega)).trans ((hset_n g1).trans (hset_n (by omega))), by omega, by omega⟩ rfl dJ5_init_a7421_62
set_option maxRecDepth 100000 in
set_option maxHeartbeats 4000000 in
theorem cg_init {Γ : Gm} {n : Nat} {E : Hp} {a s w : Nat} {t : Nat → Int32} (ha : E a = some (.inr (1, [.null, .int (nI 0), .int (nI 0), .int (nI 0)]))) (ht : SF Γ E s w) (htb : BA Γ E w 6 t) (ht7 : A7 t 6) : Ct Γ 11 MJ4_init_a7421 2 404 [.ref a, .ref s] (E) n (fun r E2 n2 => r = none ∧ SBz Γ E n a 6 t E2 n2) X0 := by
  refine Ct.of (by decide +kernel) rfl (Nat.le_of_ble_eq_true rfl) ?_
  refine G.sub (lv2 := [(0, _), (1, _)]) [0, 1] rfl ?_
  refine g_aload_n 0 rfl dJ4_init_a7421_0 ?_
  refine g_aload_n 1 rfl dJ4_init_a7421_1 ?_
  refine gx_I0 (cg_J5_init ha ht htb ht7) l_J4_7 rfl (Nat.le_of_ble_eq_true rfl) (Nat.le_of_ble_eq_true rfl) rfl dJ4_init_a7421_2 (fun _ _ _ h => h.1) (fun E3 n3 hp => ?_)
  exact g_vret hp rfl dJ4_init_a7421_5
set_option maxRecDepth 100000 in
set_option maxHeartbeats 4000000 in
theorem cg_copyOfRangeByte {Γ : Gm} {n : Nat} {E : Hp} {v N x y : Nat} {b : Nat → Int32} (htb : BA Γ E v N b) (ht7 : A7 b N) (hxy : x ≤ y) (hyN : y ≤ N) (hN : N < 1000) (h40 : y - x ≤ 400) : Ct Γ 5 MJ7_copyOfRangeByte_39247 1 400 [.ref v, .int (nI x), .int (nI y)] (E) n (Rt (some (.ref n)) (hset E n (.inl (gA Γ 1, y - x, .inl (va_cpy b (fun _ => nI 0) x 0 (y - x))))) (n + 1)) X0 := by
  refine Ct.of (by decide +kernel) rfl (Nat.le_of_ble_eq_true rfl) ?_
  refine G.mono (kc2 := 1) (ks2 := 0 + (y - x)) (Nat.le_refl _) (by omega) ?_
  refine G.sub (lv2 := [(0, _), (1, _), (2, _)]) [0, 1, 2] rfl ?_
  refine g_iload_n 1 rfl dJ7_copyOfRangeByte_39247_0 ?_
  refine g_iload_n 2 rfl dJ7_copyOfRangeByte_39247_1 ?_
  refine gu_S (c_J7_checkLength_df160 hxy (by omega)) l_J7_343 rfl (Nat.le_of_ble_eq_true rfl) (Nat.le_of_ble_eq_true rfl) rfl dJ7_copyOfRangeByte_39247_2 ?_
  refine g_iload_n 2 rfl dJ7_copyOfRangeByte_39247_5 ?_
  refine g_iload_n 1 rfl dJ7_copyOfRangeByte_39247_6 ?_
  refine gn_isub (by omega) dJ7_copyOfRangeByte_39247_7 ?_
  refine g_istore_n (lv2 := [(3, _), (0, _), (1, _), (2, _)]) (by decide) rfl dJ7_copyOfRangeByte_39247_8 ?_
  refine g_iload_n 0 rfl dJ7_copyOfRangeByte_39247_9 ?_
  refine gn_nb (wl_1 69 rfl rfl) (by omega) dJ7_copyOfRangeByte_39247_10 (fun hB10 hf10 => ?_)
  have htb1 := htb.mono (E2 := hset E n (.inl (gA Γ 1, y - x, .inl (fun _ => nI 0)))) (fun e he => (hset_n (Nat.ne_of_lt (hf10 _ _ he))).trans he)
  refine g_astore (lv2 := [(4, _), (3, _), (0, _), (1, _), (2, _)]) (by decide) rfl dJ7_copyOfRangeByte_39247_12 ?_
  refine g_aload_n 2 rfl dJ7_copyOfRangeByte_39247_14 ?_
  refine g_iload_n 3 rfl dJ7_copyOfRangeByte_39247_15 ?_
  refine g_aload 0 rfl dJ7_copyOfRangeByte_39247_16 ?_
  refine gn_ic 0 (by decide) dJ7_copyOfRangeByte_39247_18 ?_
  refine g_aload_n 2 rfl dJ7_copyOfRangeByte_39247_19 ?_
  refine g_blen htb1 dJ7_copyOfRangeByte_39247_20 ?_
  refine g_iload_n 3 rfl dJ7_copyOfRangeByte_39247_21 ?_
  refine gn_isub (by omega) dJ7_copyOfRangeByte_39247_22 ?_
  refine g_iload_n 1 rfl dJ7_copyOfRangeByte_39247_23 ?_
  refine g_mmin l_J7_304 (by omega) (by omega) (Nat.le_of_ble_eq_true rfl) (Nat.le_of_ble_eq_true rfl) dJ7_copyOfRangeByte_39247_24 ?_
  refine g_top (y := nI (y - x)) (by rw [Nat.min_eq_right (by omega)]) ?_
  refine g_copy (t := 1) (ty := .byte) ac_J7_150 ac_n ac_s ac_i (Srd.ba htb1) hset_s rfl rfl (by omega) (by omega) ⟨by omega, by omega, by omega⟩ (fun i hi => ht7.fit (by omega)) (Nat.le_of_ble_eq_true rfl) (Nat.le_of_ble_eq_true rfl) hset_hs dJ7_copyOfRangeByte_39247_27 ?_
  refine g_aload 0 rfl dJ7_copyOfRangeByte_39247_30 ?_
  exact g_aretA ⟨rfl, rfl, rfl⟩ rfl dJ7_copyOfRangeByte_39247_32
set_option maxRecDepth 100000 in
set_option maxHeartbeats 4000000 in
theorem cg_copyOfRange {Γ : Gm} {n : Nat} {E : Hp} {v N x y : Nat} {b : Nat → Int32} (htb : BA Γ E v N b) (ht7 : A7 b N) (hxy : x ≤ y) (hyN : y ≤ N) (hN : N < 1000) (h40 : y - x ≤ 400) (hne : x ≠ 0 ∨ y ≠ N) : Ct Γ 6 MJ7_copyOfRange_39247 1 400 [.ref v, .int (nI x), .int (nI y)] (E) n (Rt (some (.ref n)) (hset E n (.inl (gA Γ 1, y - x, .inl (va_cpy b (fun _ => nI 0) x 0 (y - x))))) (n + 1)) X0 := by
  refine Ct.of (by decide +kernel) rfl (Nat.le_of_ble_eq_true rfl) ?_
  refine G.sub (lv2 := [(0, _), (1, _), (2, _)]) [0, 1, 2] rfl ?_
  refine g_iload_n 1 rfl dJ7_copyOfRange_39247_0 ?_
  refine gn_if_ne (by omega) (tgt := 10) (by decide) dJ7_copyOfRange_39247_1 (fun cc1 => ?_) (fun cc1 => ?_)
  · -- t 10
    refine g_aload_n 0 rfl dJ7_copyOfRange_39247_10 ?_
    refine g_iload_n 1 rfl dJ7_copyOfRange_39247_11 ?_
    refine g_iload_n 2 rfl dJ7_copyOfRange_39247_12 ?_
    refine gv_S (cg_copyOfRangeByte htb ht7 hxy hyN hN h40) l_J7_339 rfl (Nat.le_of_ble_eq_true rfl) (Nat.le_of_ble_eq_true rfl) rfl dJ7_copyOfRange_39247_13 ?_
    exact g_aretA ⟨rfl, rfl, rfl⟩ rfl dJ7_copyOfRange_39247_16
  · -- f 4
    refine g_iload_n 2 rfl dJ7_copyOfRange_39247_4 ?_
    refine g_aload_n 0 rfl dJ7_copyOfRange_39247_5 ?_
    refine g_blen htb dJ7_copyOfRange_39247_6 ?_
    refine gn_icmp_eq (by omega) (by omega) (tgt := 17) (by decide) dJ7_copyOfRange_39247_7 (fun cc2 => ?_) (fun cc2 => ?_)
    · -- t 17
      exfalso; omega
    · -- f 10
      refine g_aload_n 0 rfl dJ7_copyOfRange_39247_10 ?_
      refine g_iload_n 1 rfl dJ7_copyOfRange_39247_11 ?_
      refine g_iload_n 2 rfl dJ7_copyOfRange_39247_12 ?_
      refine gv_S (cg_copyOfRangeByte htb ht7 hxy hyN hN h40) l_J7_339 rfl (Nat.le_of_ble_eq_true rfl) (Nat.le_of_ble_eq_true rfl) rfl dJ7_copyOfRange_39247_13 ?_
      exact g_aretA ⟨rfl, rfl, rfl⟩ rfl dJ7_copyOfRange_39247_16
theorem cg_J4_length {Γ : Gm} {n : Nat} {E : Hp} {a v cap cnt : Nat} {b : Nat → Int32} (hSB : SBg Γ E a v cap b cnt) : Ct Γ 2 MJ4_length_8abf5 0 0 [.ref a] E n (Rt (some (.int (nI cnt))) E n) X0 := by
  obtain ⟨⟨ml, hs⟩, hv, hb7, hcap, hc⟩ := hSB
  refine Ct.of (by decide +kernel) rfl (Nat.le_of_ble_eq_true rfl) ?_
  refine G.sub (lv2 := [(0, _)]) [0] rfl ?_
  refine g_aload_n 0 rfl dJ4_length_8abf5_0 ?_
  refine gx_U (c_J5_length_8abf5 hs) l_J4_343 rfl hs rfl (Nat.le_of_ble_eq_true rfl) (Nat.le_of_ble_eq_true rfl) rfl dJ4_length_8abf5_1 (fun r E2 n2 hp => ?_)
  obtain ⟨rfl, rfl, rfl⟩ := hp
  exact g_iret ⟨rfl, rfl, rfl⟩ rfl rfl dJ4_length_8abf5_4
set_option maxRecDepth 100000 in
set_option maxHeartbeats 4000000 in
theorem cg_J0_init_db425 {Γ : Gm} {n : Nat} {E : Hp} {o a v cap cnt : Nat} {b : Nat → Int32} (ho : E o = some (.inr (0, [.null, .int (nI 0), .int (nI 0), .int (nI 0)]))) (hSB : SBg Γ E a v cap b cnt) (hcc : cnt ≠ cap) : Ct Γ 7 MJ0_init_db425 1 400 [.ref o, .ref a, .null] (E) n (Rt none (hset (hset E n (.inl (gA Γ 1, cnt - 0, .inl (va_cpy b (fun _ => nI 0) 0 0 (cnt - 0))))) o (.inr (0, [.ref n, .int (nI 0), .int (nI 0), .int (nI 0)]))) (n + 1)) X0 := by
  refine Ct.of (by decide +kernel) rfl (Nat.le_of_ble_eq_true rfl) ?_
  refine G.lt (fun hlt hgB => ?_)
  obtain ⟨⟨ml, hs⟩, hv, hb7, hcap, hc⟩ := id hSB
  have hc8 := hcap.bd
  have hao : a ≠ o := fun e => by rw [e] at hs; rw [ho] at hs; cases hs
  refine G.sub (lv2 := [(0, _), (1, _), (2, _)]) [0, 1, 2] rfl ?_
  refine g_aload_n 0 rfl dJ0_init_db425_0 ?_
  refine g_objInit (wl_3 83 rfl rfl) (wl_1 35 rfl rfl) (wl_1 36 rfl rfl) (Nat.le_of_ble_eq_true rfl) (Nat.le_of_ble_eq_true rfl) dJ0_init_db425_1 ?_
  refine g_aload_n 1 rfl dJ0_init_db425_4 ?_
  refine gv_Y (c_J5_getValue_6d5f1 hs) l_J0_552 rfl hSB.rcv (Nat.le_of_ble_eq_true rfl) (Nat.le_of_ble_eq_true rfl) rfl dJ0_init_db425_5 ?_
  refine g_astore_n (lv2 := [(3, _), (0, _), (1, _), (2, _)]) (by decide) rfl dJ0_init_db425_8 ?_
  refine g_aload_n 2 rfl dJ0_init_db425_9 ?_
  refine gv_Y (cg_J4_length hSB) l_J0_549 rfl hSB.rcv (Nat.le_of_ble_eq_true rfl) (Nat.le_of_ble_eq_true rfl) rfl dJ0_init_db425_10 ?_
  refine g_istore (lv2 := [(4, _), (3, _), (0, _), (1, _), (2, _)]) (by decide) rfl dJ0_init_db425_13 ?_
  refine g_aload_n 3 rfl dJ0_init_db425_15 ?_
  refine gv_Y (c_J5_isLatin1_aae02 hs) l_J0_1047 rfl hSB.rcv (Nat.le_of_ble_eq_true rfl) (Nat.le_of_ble_eq_true rfl) rfl dJ0_init_db425_16 ?_
  refine gn_if_eq (by omega) (tgt := 41) (by decide) dJ0_init_db425_19 (fun cc1 => ?_) (fun cc1 => ?_)
  · -- t 41
    exact absurd cc1 (by decide)
  · -- f 22
    refine g_aload_n 2 rfl dJ0_init_db425_22 ?_
    refine gn_ic 0 (by decide) dJ0_init_db425_23 ?_
    refine g_putF f_J0_15 w_J0_1 ⟨_, _, rfl⟩ rfl ho (Nat.le_of_ble_eq_true rfl) rfl rfl rfl dJ0_init_db425_24 ?_
    refine g_world (E2 := E) (hset_id ho) ?_
    refine g_aload_n 2 rfl dJ0_init_db425_27 ?_
    refine g_aload_n 1 rfl dJ0_init_db425_28 ?_
    refine gn_ic 0 (by decide) dJ0_init_db425_29 ?_
    refine g_iload 0 rfl dJ0_init_db425_30 ?_
    refine gv_S (cg_copyOfRange (Or.inl hv) hb7 (Nat.zero_le _) hc (by omega) (by omega) (Or.inr hcc)) l_J0_54 rfl (Nat.le_of_ble_eq_true rfl) (Nat.le_of_ble_eq_true rfl) rfl dJ0_init_db425_32 ?_
    have ho1 : hset E n (.inl (gA Γ 1, cnt - 0, .inl (va_cpy b (fun _ => nI 0) 0 0 (cnt - 0)))) o = _ := (hset_n (e := (.inl (gA Γ 1, cnt - 0, .inl (va_cpy b (fun _ => nI 0) 0 0 (cnt - 0))))) (Nat.ne_of_lt (hlt _ _ ho))).trans ho
    refine g_putF f_J0_9 w_J0_0 ⟨_, _, rfl⟩ rfl ho1 (Nat.le_of_ble_eq_true rfl) rfl rfl rfl dJ0_init_db425_35 ?_
    refine g_goto (tgt := 97) (by decide) dJ0_init_db425_38 ?_
    exact g_vret ⟨rfl, rfl, rfl⟩ rfl dJ0_init_db425_97
set_option maxRecDepth 100000 in
set_option maxHeartbeats 4000000 in
theorem cg_J0_init_81219 {Γ : Gm} {n : Nat} {E : Hp} {o a v cap cnt : Nat} {b : Nat → Int32} (ho : E o = some (.inr (0, [.null, .int (nI 0), .int (nI 0), .int (nI 0)]))) (hSB : SBg Γ E a v cap b cnt) (hcc : cnt ≠ cap) : Ct Γ 8 MJ0_init_81219 1 400 [.ref o, .ref a] (E) n (Rt none (hset (hset E n (.inl (gA Γ 1, cnt - 0, .inl (va_cpy b (fun _ => nI 0) 0 0 (cnt - 0))))) o (.inr (0, [.ref n, .int (nI 0), .int (nI 0), .int (nI 0)]))) (n + 1)) X0 := by
  refine Ct.of (by decide +kernel) rfl (Nat.le_of_ble_eq_true rfl) ?_
  refine G.sub (lv2 := [(0, _), (1, _)]) [0, 1] rfl ?_
  refine g_aload_n 0 rfl dJ0_init_81219_0 ?_
  refine g_aload_n 1 rfl dJ0_init_81219_1 ?_
  refine g_null dJ0_init_81219_2 ?_
  refine gu_I (cg_J0_init_db425 ho hSB hcc) l_J0_489 rfl (Nat.le_of_ble_eq_true rfl) (Nat.le_of_ble_eq_true rfl) rfl dJ0_init_81219_3 ?_
  exact g_vret ⟨rfl, rfl, rfl⟩ rfl dJ0_init_81219_6
set_option maxRecDepth 100000 in
set_option maxHeartbeats 4000000 in
theorem cg_toString {Γ : Gm} {n : Nat} {E : Hp} {a v cap cnt : Nat} {b : Nat → Int32} (hSB : SBg Γ E a v cap b cnt) (hcc : cnt ≠ cap) : Ct Γ 9 MJ4_toString_0e30d 2 404 [.ref a] (E) n (Rt (some (.ref n)) (hset (hset E n (.inr (0, [.ref (n + 1), .int (nI 0), .int (nI 0), .int (nI 0)]))) (n + 1) (.inl (gA Γ 1, cnt - 0, .inl (va_cpy b (fun _ => nI 0) 0 0 (cnt - 0))))) (n + 1 + 1)) X0 := by
  refine Ct.of (by decide +kernel) rfl (Nat.le_of_ble_eq_true rfl) ?_
  obtain ⟨⟨ml, hs⟩, hv, hb7, hcap, hc⟩ := id hSB
  have hc8 := hcap.bd
  refine G.sub (lv2 := [(0, _)]) [0] rfl ?_
  refine gn_str (wl_3 75 rfl rfl) (wl_3 76 rfl rfl) (wl_1 4 rfl rfl) dJ4_toString_0e30d_0 (fun hB0 hf0 => ?_)
  have hSB1 : SBg Γ (hset E n (.inr (0, [.null, .int (nI 0), .int (nI 0), .int (nI 0)]))) a v cap b cnt := ⟨⟨ml, (hset_n (Nat.ne_of_lt (hf0 _ _ hs))).trans hs⟩, (hset_n (Nat.ne_of_lt (hf0 _ _ hv))).trans hv, hb7, hcap, hc⟩
  refine g_dup rfl dJ4_toString_0e30d_3 ?_
  refine g_aload_n 0 rfl dJ4_toString_0e30d_4 ?_
  refine gu_I (cg_J0_init_81219 hset_s hSB1 hcc) l_J4_137 rfl (Nat.le_of_ble_eq_true rfl) (Nat.le_of_ble_eq_true rfl) rfl dJ4_toString_0e30d_5 ?_
  exact g_aret ⟨rfl, hset_c (by omega), rfl⟩ rfl dJ4_toString_0e30d_8
end GQ1
