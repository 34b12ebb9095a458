section GJ1
set_option maxRecDepth 100000 in
set_option maxHeartbeats 4000000 in
theorem c_J0_coder_7d493 {Γ : Gm} {n : Nat} {E : Hp} {a v : Nat} (hs : SF Γ E a v) : Ct Γ 1 MJ0_coder_7d493 0 0 [.ref a] (E) n (Rt (some (.int (nI 0))) (E) n) X0 := by
  refine Ct.of (by decide +kernel) rfl (Nat.le_of_ble_eq_true rfl) ?_
  refine G.sub (lv2 := [(0, _)]) [0] rfl ?_
  refine g_gets 5 rfl z_J0_38 dJ0_coder_7d493_0 ?_
  refine g_if_eq (tgt := 13) (by decide) dJ0_coder_7d493_3 (fun cc1 => ?_) (fun cc1 => ?_)
  · -- t 13
    exact absurd cc1 (by decide)
  · -- f 6
    refine g_aload_n 0 rfl dJ0_coder_7d493_6 ?_
    refine g_scod hs f_J0_15 z_J0_15 dJ0_coder_7d493_7 ?_
    refine g_goto (tgt := 14) (by decide) dJ0_coder_7d493_10 ?_
    exact g_iret ⟨rfl, rfl, rfl⟩ (by decide +kernel) rfl dJ0_coder_7d493_14
set_option maxRecDepth 100000 in
set_option maxHeartbeats 4000000 in
theorem c_J0_length_8abf5 {Γ : Gm} {n : Nat} {E : Hp} {a v N : Nat} {b : Nat → Int32} (hs : SF Γ E a v) (hb : BA Γ E v N b) : Ct Γ 2 MJ0_length_8abf5 0 0 [.ref a] (E) n (Rt (some (.int (nI N))) (E) n) X0 := by
  refine Ct.of (by decide +kernel) rfl (Nat.le_of_ble_eq_true rfl) ?_
  refine G.sub (lv2 := [(0, _)]) [0] rfl ?_
  refine g_aload_n 0 rfl dJ0_length_8abf5_0 ?_
  refine g_sval hs f_J0_9 z_J0_9 dJ0_length_8abf5_1 ?_
  refine g_blen hb dJ0_length_8abf5_4 ?_
  refine g_aload_n 0 rfl dJ0_length_8abf5_5 ?_
  refine gv_V (c_J0_coder_7d493 hs) l_J0_335 rfl hs.rcv (Nat.le_of_ble_eq_true rfl) (Nat.le_of_ble_eq_true rfl) rfl dJ0_length_8abf5_6 ?_
  refine g_ishr dJ0_length_8abf5_9 ?_
  refine g_top (y := nI N) (sb_shr0 _) ?_
  exact g_iret ⟨rfl, rfl, rfl⟩ rfl rfl dJ0_length_8abf5_10
set_option maxRecDepth 100000 in
set_option maxHeartbeats 4000000 in
theorem c_J0_isLatin1_aae02 {Γ : Gm} {n : Nat} {E : Hp} {a v : Nat} (hs : SF Γ E a v) : Ct Γ 1 MJ0_isLatin1_aae02 0 0 [.ref a] (E) n (Rt (some (.int (nI 1))) (E) n) X0 := by
  refine Ct.of (by decide +kernel) rfl (Nat.le_of_ble_eq_true rfl) ?_
  refine G.sub (lv2 := [(0, _)]) [0] rfl ?_
  refine g_gets 5 rfl z_J0_38 dJ0_isLatin1_aae02_0 ?_
  refine g_if_eq (tgt := 17) (by decide) dJ0_isLatin1_aae02_3 (fun cc1 => ?_) (fun cc1 => ?_)
  · -- t 17
    exact absurd cc1 (by decide)
  · -- f 6
    refine g_aload_n 0 rfl dJ0_isLatin1_aae02_6 ?_
    refine g_scod hs f_J0_15 z_J0_15 dJ0_isLatin1_aae02_7 ?_
    refine gn_if_ne (by omega) (tgt := 17) (by decide) dJ0_isLatin1_aae02_10 (fun cc2 => ?_) (fun cc2 => ?_)
    · -- t 17
      exact absurd cc2 (by decide)
    · -- f 13
      refine gn_ic 1 (by decide) dJ0_isLatin1_aae02_13 ?_
      refine g_goto (tgt := 18) (by decide) dJ0_isLatin1_aae02_14 ?_
      exact g_iret ⟨rfl, rfl, rfl⟩ (by decide +kernel) rfl dJ0_isLatin1_aae02_18
set_option maxRecDepth 100000 in
set_option maxHeartbeats 4000000 in
theorem c_J3_checkIndex_n {Γ : Gm} {n : Nat} {E : Hp} {j N : Nat}  (hj : j < N) (hN : N < 2 ^ 31) : Ct Γ 1 MJ3_checkIndex_8e157 0 0 [.int (nI j), .int (nI N), .null] (E) n (Rt (some (.int (nI j))) (E) n) X0 := by
  refine Ct.of (by decide +kernel) rfl (Nat.le_of_ble_eq_true rfl) ?_
  refine G.sub (lv2 := [(0, _), (1, _), (2, _)]) [0, 1, 2] rfl ?_
  refine g_iload_n 0 rfl dJ3_checkIndex_8e157_0 ?_
  refine g_if_lt (tgt := 9) (by decide) dJ3_checkIndex_8e157_1 (fun h1 => ?_) (fun h1 => ?_)
  · -- t 9
    exact absurd h1 (nI_pos (by omega))
  · -- f 4
    refine g_iload_n 0 rfl dJ3_checkIndex_8e157_4 ?_
    refine g_iload_n 1 rfl dJ3_checkIndex_8e157_5 ?_
    refine gn_icmp_lt (by omega) (by omega) (tgt := 16) (by decide) dJ3_checkIndex_8e157_6 (fun h6 => ?_) (fun h6 => ?_)
    · -- t 16
      refine g_iload_n 0 rfl dJ3_checkIndex_8e157_16 ?_
      exact g_iret ⟨rfl, rfl, rfl⟩ rfl rfl dJ3_checkIndex_8e157_17
    · -- f 9
      omega
set_option maxRecDepth 100000 in
set_option maxHeartbeats 4000000 in
theorem c_J3_checkIndex_r {Γ : Gm} {n : Nat} {E : Hp} {j N : Nat} {x : Nat} (hj : j < N) (hN : N < 2 ^ 31) : Ct Γ 1 MJ3_checkIndex_8e157 0 0 [.int (nI j), .int (nI N), .ref x] (E) n (Rt (some (.int (nI j))) (E) n) X0 := by
  refine Ct.of (by decide +kernel) rfl (Nat.le_of_ble_eq_true rfl) ?_
  refine G.sub (lv2 := [(0, _), (1, _), (2, _)]) [0, 1, 2] rfl ?_
  refine g_iload_n 0 rfl dJ3_checkIndex_8e157_0 ?_
  refine g_if_lt (tgt := 9) (by decide) dJ3_checkIndex_8e157_1 (fun h1 => ?_) (fun h1 => ?_)
  · -- t 9
    exact absurd h1 (nI_pos (by omega))
  · -- f 4
    refine g_iload_n 0 rfl dJ3_checkIndex_8e157_4 ?_
    refine g_iload_n 1 rfl dJ3_checkIndex_8e157_5 ?_
    refine gn_icmp_lt (by omega) (by omega) (tgt := 16) (by decide) dJ3_checkIndex_8e157_6 (fun h6 => ?_) (fun h6 => ?_)
    · -- t 16
      refine g_iload_n 0 rfl dJ3_checkIndex_8e157_16 ?_
      exact g_iret ⟨rfl, rfl, rfl⟩ rfl rfl dJ3_checkIndex_8e157_17
    · -- f 9
      omega
theorem c_J3_checkIndex {Γ : Gm} {n : Nat} {E : Hp} {j N : Nat} (hj : j < N) (hN : N < 2 ^ 31) : Ct Γ 1 MJ3_checkIndex_8e157 0 0 [.int (nI j), .int (nI N), gSI Γ] E n (Rt (some (.int (nI j))) E n) X0 := by
  unfold gSI; split
  · exact c_J3_checkIndex_n hj hN
  · exact c_J3_checkIndex_r hj hN
set_option maxRecDepth 100000 in
set_option maxHeartbeats 4000000 in
theorem c_J0_checkIndex_df160 {Γ : Gm} {n : Nat} {E : Hp} {j N : Nat} (hj : j < N) (hN : N < 2 ^ 31) : Ct Γ 2 MJ0_checkIndex_df160 0 0 [.int (nI j), .int (nI N)] (E) n (Rt none (E) n) X0 := by
  refine Ct.of (by decide +kernel) rfl (Nat.le_of_ble_eq_true rfl) ?_
  refine G.sub (lv2 := [(0, _), (1, _)]) [0, 1] rfl ?_
  refine g_iload_n 0 rfl dJ0_checkIndex_df160_0 ?_
  refine g_iload_n 1 rfl dJ0_checkIndex_df160_1 ?_
  refine g_gets 8 rfl z_J0_1053 dJ0_checkIndex_df160_2 ?_
  refine gv_S (c_J3_checkIndex hj hN) l_J0_1059 rfl (Nat.le_of_ble_eq_true rfl) (Nat.le_of_ble_eq_true rfl) rfl dJ0_checkIndex_df160_5 ?_
  refine g_pop rfl dJ0_checkIndex_df160_8 ?_
  exact g_vret ⟨rfl, rfl, rfl⟩ rfl dJ0_checkIndex_df160_9
set_option maxRecDepth 100000 in
set_option maxHeartbeats 4000000 in
theorem c_J1_charAt_3b067 {Γ : Gm} {n : Nat} {E : Hp} {v N j : Nat} {b : Nat → Int32} (hb : BA Γ E v N b) (hj : j < N) (hN : N < 2 ^ 31) : Ct Γ 3 MJ1_charAt_3b067 0 0 [.ref v, .int (nI j)] (E) n (Rt (some (.int (chr (b j &&& nI 255)))) (E) n) X0 := by
  refine Ct.of (by decide +kernel) rfl (Nat.le_of_ble_eq_true rfl) ?_
  refine G.sub (lv2 := [(0, _), (1, _)]) [0, 1] rfl ?_
  refine g_iload_n 1 rfl dJ1_charAt_3b067_0 ?_
  refine g_aload_n 0 rfl dJ1_charAt_3b067_1 ?_
  refine g_blen hb dJ1_charAt_3b067_2 ?_
  refine gu_S (c_J0_checkIndex_df160 hj hN) l_J1_9 rfl (Nat.le_of_ble_eq_true rfl) (Nat.le_of_ble_eq_true rfl) rfl dJ1_charAt_3b067_3 ?_
  refine g_aload_n 0 rfl dJ1_charAt_3b067_6 ?_
  refine g_iload_n 1 rfl dJ1_charAt_3b067_7 ?_
  refine g_bbald hb (by omega) (by omega) dJ1_charAt_3b067_8 ?_
  refine gn_sp 255 (by decide) dJ1_charAt_3b067_9 ?_
  refine g_iand dJ1_charAt_3b067_12 ?_
  refine g_i2c dJ1_charAt_3b067_13 ?_
  exact g_iret ⟨rfl, rfl, rfl⟩ (pk_nc _) rfl dJ1_charAt_3b067_14
set_option maxRecDepth 100000 in
set_option maxHeartbeats 4000000 in
theorem c_J0_charAt_5068e {Γ : Gm} {n : Nat} {E : Hp} {a v N j : Nat} {b : Nat → Int32} (hs : SF Γ E a v) (hb : BA Γ E v N b) (hj : j < N) (hN : N < 2 ^ 31) : Ct Γ 4 MJ0_charAt_5068e 0 0 [.ref a, .int (nI j)] (E) n (Rt (some (.int (chr (b j &&& nI 255)))) (E) n) X0 := by
  refine Ct.of (by decide +kernel) rfl (Nat.le_of_ble_eq_true rfl) ?_
  refine G.sub (lv2 := [(0, _), (1, _)]) [0, 1] rfl ?_
  refine g_aload_n 0 rfl dJ0_charAt_5068e_0 ?_
  refine gv_V (c_J0_isLatin1_aae02 hs) l_J0_492 rfl hs.rcv (Nat.le_of_ble_eq_true rfl) (Nat.le_of_ble_eq_true rfl) rfl dJ0_charAt_5068e_1 ?_
  refine gn_if_eq (by omega) (tgt := 16) (by decide) dJ0_charAt_5068e_4 (fun cc1 => ?_) (fun cc1 => ?_)
  · -- t 16
    exact absurd cc1 (by decide)
  · -- f 7
    refine g_aload_n 0 rfl dJ0_charAt_5068e_7 ?_
    refine g_sval hs f_J0_9 z_J0_9 dJ0_charAt_5068e_8 ?_
    refine g_iload_n 1 rfl dJ0_charAt_5068e_11 ?_
    refine gv_S (c_J1_charAt_3b067 hb hj hN) l_J0_495 rfl (Nat.le_of_ble_eq_true rfl) (Nat.le_of_ble_eq_true rfl) rfl dJ0_charAt_5068e_12 ?_
    exact g_iret ⟨rfl, rfl, rfl⟩ (pk_nc _) rfl dJ0_charAt_5068e_15
end GJ1
