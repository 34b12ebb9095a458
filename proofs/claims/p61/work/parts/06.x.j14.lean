section GJ14
theorem lt_q {inp : Nat → Int32} {j : Nat} (h : ltB inp j = true) : ∃ q, 97 ≤ q ∧ q ≤ 122 ∧ inp j = nI q := by
  obtain ⟨h1, h2⟩ := ltB_t.mp h
  obtain ⟨q, hq, e⟩ := nI_of (x := inp j) (fun z => by
    have := Int32.lt_of_lt_of_le z (Int32.le_trans (nI_le (a := 0) (b := 97) (by decide) (by decide)) h1)
    exact Int32.lt_irrefl this)
  rw [e] at h1 h2
  exact ⟨q, (nI_leI (by decide) hq).mp h1, (nI_leI hq (by decide)).mp h2, e⟩
set_option maxRecDepth 100000 in
set_option maxHeartbeats 4000000 in
theorem c_X6_restart {Γ : Gm} {n : Nat} {E : Hp} {tb ti lb e κ sg en l : Nat} {inp : Nat → Int32} (ht : E tb = some (.inr (9, tkF Γ ti lb e κ sg en))) (hi : E ti = some (.inl (gA Γ 1, 600, .inl inp))) (hl : l ≤ 600) : Ct Γ 3 MX6_restart 0 0 [.ref tb, .int (nI l)] (E) n (Rt none (hset E tb (.inr (9, tkF Γ ti lb l (nxT inp l 3 0).1 (nxT inp l 3 0).2.1 (nxT inp l 3 0).2.2))) n) X0 := by
  refine Ct.of (by decide +kernel) rfl (Nat.le_of_ble_eq_true rfl) ?_
  have hne : ti ≠ tb := fun z => by rw [z, ht] at hi; cases hi
  refine G.sub (lv2 := [(0, _), (1, _)]) [0, 1] rfl ?_
  refine g_aload_n 0 rfl dX6_restart_0 ?_
  refine g_iload_n 1 rfl dX6_restart_1 ?_
  refine g_aload_n 0 rfl dX6_restart_2 ?_
  refine g_get f_X6_25 ht rfl dX6_restart_3 ?_
  refine g_len hi (show (gtys Γ)[1]? = some (gA Γ 1, _) from rfl) rfl dX6_restart_6 ?_
  refine g_mmin l_X6_29 (by omega) (by omega) (Nat.le_of_ble_eq_true rfl) (Nat.le_of_ble_eq_true rfl) dX6_restart_7 ?_
  refine g_top (y := nI l) (by rw [Nat.min_eq_left hl]) ?_
  refine g_put f_X6_35 w_X6_2 ht (Nat.le_of_ble_eq_true rfl) rfl rfl rfl dX6_restart_10 ?_
  refine g_aload_n 0 rfl dX6_restart_13 ?_
  refine g_gets 3 rfl z_X6_39 dX6_restart_14 ?_
  refine g_put f_X6_22 w_X6_3 hset_s (Nat.le_of_ble_eq_true rfl) rfl rfl rfl dX6_restart_17 ?_
  refine g_world hset_hs ?_
  refine g_aload_n 0 rfl dX6_restart_20 ?_
  refine gn_ic 0 (by decide) dX6_restart_21 ?_
  refine g_put f_X6_42 w_X6_5 hset_s (Nat.le_of_ble_eq_true rfl) rfl rfl rfl dX6_restart_22 ?_
  refine g_world hset_hs ?_
  refine g_aload_n 0 rfl dX6_restart_25 ?_
  refine gu_V (c_X6_step (show hset E tb _ tb = some (.inr (9, tkF Γ ti lb l 3 sg 0)) from hset_s) ((hset_n hne).trans hi) (by decide) hl (Nat.zero_le l)) l_X6_45 rfl (Rcv.of hset_s rfl) (Nat.le_of_ble_eq_true rfl) (Nat.le_of_ble_eq_true rfl) rfl dX6_restart_26 ?_
  refine g_world hset_hs ?_
  exact g_vret ⟨rfl, rfl, rfl⟩ rfl dX6_restart_29
set_option maxRecDepth 100000 in
set_option maxHeartbeats 4000000 in
theorem c_X6_size {Γ : Gm} {n : Nat} {E : Hp} {tb ti lb e κ sg en : Nat} (ht : E tb = some (.inr (9, tkF Γ ti lb e κ sg en))) (hse : sg ≤ en) : Ct Γ 1 MX6_size 0 0 [.ref tb] (E) n (Rt (some (.int (nI (en - sg)))) (E) n) X0 := by
  refine Ct.of (by decide +kernel) rfl (Nat.le_of_ble_eq_true rfl) ?_
  refine G.sub (lv2 := [(0, _)]) [0] rfl ?_
  refine g_aload_n 0 rfl dX6_size_0 ?_
  refine g_get f_X6_42 ht rfl dX6_size_1 ?_
  refine g_aload_n 0 rfl dX6_size_4 ?_
  refine g_get f_X6_54 ht rfl dX6_size_5 ?_
  refine gn_isub hse dX6_size_8 ?_
  exact g_iret ⟨rfl, rfl, rfl⟩ rfl rfl dX6_size_9
set_option maxRecDepth 100000 in
set_option maxHeartbeats 4000000 in
theorem c_X6_isWord {Γ : Gm} {n : Nat} {E : Hp} {tb ti lb e κ sg en : Nat} {inp : Nat → Int32} {s w N : Nat} {b : Nat → Int32} (ht : E tb = some (.inr (9, tkF Γ ti lb e κ sg en))) (hi : E ti = some (.inl (gA Γ 1, 600, .inl inp))) (hκ : κ < 5) (he : e ≤ 600) (hen : en ≤ e) (hse : sg ≤ en) (hs : SF Γ E s w) (hb : BA Γ E w N b) (hb7 : A7 b N) (hN : N < 1000) : Ct Γ 5 MX6_isWord 0 0 [.ref tb, .ref s] (E) n (Rt (some (.int (bi (κ = 1 ∧ en - sg = N ∧ ∀ i, i < N → inp (sg + i) = b i)))) (E) n) X0 := by
  refine Ct.of (by decide +kernel) rfl (Nat.le_of_ble_eq_true rfl) ?_
  refine G.tok (fun hinj => ?_)
  refine G.sub (lv2 := [(0, _), (1, _)]) [0, 1] rfl ?_
  refine g_aload_n 0 rfl dX6_isWord_0 ?_
  refine g_get f_X6_22 ht rfl dX6_isWord_1 ?_
  refine g_gets 1 rfl z_X6_48 dX6_isWord_4 ?_
  refine g_acmp_ne (rx := some (gF Γ κ)) (ry := some (gF Γ 1)) (tgt := 21) (by decide) dX6_isWord_7 (fun h7 => ?_) (fun h7 => ?_)
  · -- t 21
    have hk1 : ¬ κ = 1 := fun z => h7 (by rw [z])
    refine gn_ic 0 (by decide) dX6_isWord_21 ?_
    exact g_iret ⟨by rw [bi_f (fun z => hk1 z.1)], rfl, rfl⟩ (by decide +kernel) rfl dX6_isWord_22
  · -- f 10
    have hk1 : κ = 1 := hinj κ 1 hκ (by decide) (Option.some.inj h7)
    refine g_aload_n 0 rfl dX6_isWord_10 ?_
    refine gv_V (c_X6_size ht hse) l_X6_67 rfl (Rcv.of ht rfl) (Nat.le_of_ble_eq_true rfl) (Nat.le_of_ble_eq_true rfl) rfl dX6_isWord_11 ?_
    refine g_aload_n 1 rfl dX6_isWord_14 ?_
    refine gv_V (c_J0_length_8abf5 hs hb) l_X6_71 rfl hs.rcv (Nat.le_of_ble_eq_true rfl) (Nat.le_of_ble_eq_true rfl) rfl dX6_isWord_15 ?_
    refine gn_icmp_eq (by omega) (by omega) (tgt := 23) (by decide) dX6_isWord_18 (fun h18 => ?_) (fun h18 => ?_)
    · -- t 23
      refine gn_ic 0 (by decide) dX6_isWord_23 ?_
      refine g_istore_n (lv2 := [(2, _), (0, _), (1, _)]) (by decide) rfl dX6_isWord_24 ?_
      have L25 : ∀ (m25 : Nat) (i : Nat), (i + m25 = N) → (∀ j, j < i → inp (sg + j) = b j) → G Γ 5 MX6_isWord (Rt (some (.int (bi (κ = 1 ∧ en - sg = N ∧ ∀ i, i < N → inp (sg + i) = b i)))) (E) n) X0 25 [(0, .ref tb), (1, .ref s), (2, .int (nI i))] [] (E) n 0 0 := by
        intro m25
        induction m25 with
        | zero =>
          intro i hi9 hq
          refine g_iload_n 2 rfl dX6_isWord_25 ?_
          refine g_aload_n 1 rfl dX6_isWord_26 ?_
          refine gv_V (c_J0_length_8abf5 hs hb) l_X6_71 rfl hs.rcv (Nat.le_of_ble_eq_true rfl) (Nat.le_of_ble_eq_true rfl) rfl dX6_isWord_27 ?_
          refine gn_icmp_ge (by omega) (by omega) (tgt := 60) (by decide) dX6_isWord_30 (fun h30 => ?_) (fun h30 => ?_)
          · -- t 60
            obtain rfl : N = i := by omega
            refine gn_ic 1 (by decide) dX6_isWord_60 ?_
            exact g_iret ⟨by rw [bi_t ⟨hk1, h18, hq⟩], rfl, rfl⟩ (by decide +kernel) rfl dX6_isWord_61
          · -- f 33
            exfalso; omega
        | succ m25 ih25 =>
          intro i hi9 hq
          refine g_iload_n 2 rfl dX6_isWord_25 ?_
          refine g_aload_n 1 rfl dX6_isWord_26 ?_
          refine gv_V (c_J0_length_8abf5 hs hb) l_X6_71 rfl hs.rcv (Nat.le_of_ble_eq_true rfl) (Nat.le_of_ble_eq_true rfl) rfl dX6_isWord_27 ?_
          refine gn_icmp_ge (by omega) (by omega) (tgt := 60) (by decide) dX6_isWord_30 (fun h30 => ?_) (fun h30 => ?_)
          · -- t 60
            exfalso; omega
          · -- f 33
            refine g_aload_n 0 rfl dX6_isWord_33 ?_
            refine g_get f_X6_25 ht rfl dX6_isWord_34 ?_
            refine g_aload_n 0 rfl dX6_isWord_37 ?_
            refine g_get f_X6_54 ht rfl dX6_isWord_38 ?_
            refine g_iload_n 2 rfl dX6_isWord_41 ?_
            refine gn_iadd dX6_isWord_42 ?_
            refine gn_bald hi (by omega) (by decide) dX6_isWord_43 ?_
            refine g_aload_n 1 rfl dX6_isWord_44 ?_
            refine g_iload_n 2 rfl dX6_isWord_45 ?_
            refine gv_V (c_J0_charAt_5068e hs hb (by omega) (by omega)) l_X6_75 rfl hs.rcv (Nat.le_of_ble_eq_true rfl) (Nat.le_of_ble_eq_true rfl) rfl dX6_isWord_46 ?_
            refine g_top (y := b i) (hb7.ch (by omega)) ?_
            refine g_icmp_eq (tgt := 54) (by decide) dX6_isWord_49 (fun h49 => ?_) (fun h49 => ?_)
            · -- t 54
              refine gn_inc (lv2 := [(2, _), (0, _), (1, _)]) 2 rfl (by decide) rfl dX6_isWord_54 ?_
              refine g_goto (tgt := 25) (by decide) dX6_isWord_57 ?_
              refine G.sub [1, 2, 0] rfl ?_
              exact ih25 (i + 1) (by omega) (fun j hj => by by_cases e : j = i; rw [e]; exact h49; exact hq j (by omega))
            · -- f 52
              refine gn_ic 0 (by decide) dX6_isWord_52 ?_
              exact g_iret ⟨by rw [bi_f (fun z => h49 (z.2.2 i (by omega)))], rfl, rfl⟩ (by decide +kernel) rfl dX6_isWord_53
      refine G.sub [1, 2, 0] rfl ?_
      exact L25 N 0 (Nat.zero_add _) (fun j hj => absurd hj (Nat.not_lt_zero j))
    · -- f 21
      refine gn_ic 0 (by decide) dX6_isWord_21 ?_
      exact g_iret ⟨by rw [bi_f (fun z => h18 z.2.1)], rfl, rfl⟩ (by decide +kernel) rfl dX6_isWord_22
set_option maxRecDepth 100000 in
set_option maxHeartbeats 4000000 in
theorem c_X6_value {Γ : Gm} {n : Nat} {E : Hp} {tb ti lb e κ sg en : Nat} {inp : Nat → Int32} (ht : E tb = some (.inr (9, tkF Γ ti lb e κ sg en))) (hi : E ti = some (.inl (gA Γ 1, 600, .inl inp))) (he : e ≤ 600) (hen : en ≤ e) (hse : sg ≤ en) (h3 : en - sg ≤ 3) (hd : ∀ j, sg ≤ j → j < en → dgB inp j = true) : Ct Γ 1 MX6_value 0 0 [.ref tb] (E) n (Rt (some (.int (nI (vlN inp sg (en - sg))))) (E) n) X0 := by
  refine Ct.of (by decide +kernel) rfl (Nat.le_of_ble_eq_true rfl) ?_
  refine G.sub (lv2 := [(0, _)]) [0] rfl ?_
  refine gn_ic 0 (by decide) dX6_value_0 ?_
  refine g_istore_n (lv2 := [(1, _), (0, _)]) (by decide) rfl dX6_value_1 ?_
  refine g_aload_n 1 rfl dX6_value_2 ?_
  refine g_get f_X6_54 ht rfl dX6_value_3 ?_
  refine g_istore_n (lv2 := [(2, _), (1, _), (0, _)]) (by decide) rfl dX6_value_6 ?_
  have L7 : ∀ (m7 : Nat) (k : Nat), (sg + k + m7 = en) → G Γ 1 MX6_value (Rt (some (.int (nI (vlN inp sg (en - sg))))) (E) n) X0 7 [(0, .ref tb), (1, .int (nI (vlN inp sg k))), (2, .int (nI (sg + k)))] [] (E) n 0 0 := by
    intro m7
    induction m7 with
    | zero =>
      intro k hk
      refine g_iload_n 2 rfl dX6_value_7 ?_
      refine g_aload_n 0 rfl dX6_value_8 ?_
      refine g_get f_X6_42 ht rfl dX6_value_9 ?_
      refine gn_icmp_ge (by omega) (by omega) (tgt := 36) (by decide) dX6_value_12 (fun h12 => ?_) (fun h12 => ?_)
      · -- t 36
        refine g_iload_n 1 rfl dX6_value_36 ?_
        exact g_iret ⟨by rw [show en - sg = k by omega], rfl, rfl⟩ rfl rfl dX6_value_37
      · -- f 15
        exfalso; omega
    | succ m7 ih7 =>
      intro k hk
      refine g_iload_n 2 rfl dX6_value_7 ?_
      refine g_aload_n 0 rfl dX6_value_8 ?_
      refine g_get f_X6_42 ht rfl dX6_value_9 ?_
      refine gn_icmp_ge (by omega) (by omega) (tgt := 36) (by decide) dX6_value_12 (fun h12 => ?_) (fun h12 => ?_)
      · -- t 36
        exfalso; omega
      · -- f 15
        obtain ⟨hd1, hd2⟩ := dgB_t.mp (hd (sg + k) (by omega) (by omega))
        obtain ⟨hd3, hd4⟩ := dg_ge hd1 hd2
        refine g_iload_n 1 rfl dX6_value_15 ?_
        refine gn_bp 10 (by decide) dX6_value_16 ?_
        refine gn_imul dX6_value_18 ?_
        refine g_aload_n 0 rfl dX6_value_19 ?_
        refine g_get f_X6_25 ht rfl dX6_value_20 ?_
        refine g_iload_n 2 rfl dX6_value_23 ?_
        refine gn_bald hi (by omega) (by decide) dX6_value_24 ?_
        refine gn_bp 48 (by decide) dX6_value_25 ?_
        refine g_isub dX6_value_27 ?_
        refine g_top (y := nI ((inp (sg + k)).toNatClampNeg - 48)) ((congrArg (fun z => z - nI 48) hd4).trans (pk_sub hd3)) ?_
        refine gn_iadd dX6_value_28 ?_
        refine g_istore_n (lv2 := [(1, _), (0, _), (2, _)]) (by decide) rfl dX6_value_29 ?_
        refine gn_inc (lv2 := [(2, _), (1, _), (0, _)]) 2 rfl (by decide) rfl dX6_value_30 ?_
        refine g_goto (tgt := 7) (by decide) dX6_value_33 ?_
        refine G.sub [2, 1, 0] rfl ?_
        exact (by have h := ih7 (k + 1) (by omega); rw [vlN, Nat.mul_comm 10] at h; exact h)
  refine G.sub [2, 1, 0] rfl ?_
  exact L7 (en - sg) 0 (by omega)
set_option maxRecDepth 100000 in
set_option maxHeartbeats 4000000 in
theorem c_X6_word {Γ : Gm} {n : Nat} {E : Hp} {tb ti lb e κ sg en lv cap cnt : Nat} {inp b : Nat → Int32} (ht : E tb = some (.inr (9, tkF Γ ti lb e κ sg en))) (hi : E ti = some (.inl (gA Γ 1, 600, .inl inp))) (hSB : SB Γ E lb lv cap b cnt) (hiv : ti ≠ lv) (he : e ≤ 600) (hen : en ≤ e) (hse : sg < en) (h6 : en - sg ≤ 6) (hl : ∀ j, sg ≤ j → j < en → ltB inp j = true) : Ct Γ 10 MX6_word 8 248 [.ref tb] (E) n (fun r E2 n2 => ∃ s w v2 cap2 b2 cnt2 y, r = some (.ref s) ∧ SB Γ E2 lb v2 cap2 b2 cnt2 ∧ (v2 = lv ∨ n ≤ v2) ∧ n ≤ s ∧ n ≤ w ∧ s < n2 ∧ w < n2 ∧ v2 ≠ s ∧ v2 ≠ w ∧ E2 s = some (.inr (0, [.ref w, .int (nI 0), .int (nI 0), .int (nI 0)])) ∧ E2 w = some (.inl (gA Γ 1, en - sg, .inl y)) ∧ (∀ i, i < en - sg → y i = inp (sg + i)) ∧ Fx E E2 n lb lv ∧ n ≤ n2) X0 := by
  refine Ct.of (by decide +kernel) rfl (Nat.le_of_ble_eq_true rfl) ?_
  refine G.lt (fun hlt hgB => ?_)
  have hvt : tb ≠ lv := fun z => by rw [z, hSB.2.1] at ht; cases ht
  have hbt : tb ≠ lb := fun z => by obtain ⟨ml, q⟩ := hSB.1; rw [z, q] at ht; cases ht
  have hbi : ti ≠ lb := fun z => by obtain ⟨ml, q⟩ := hSB.1; rw [z, q] at hi; cases hi
  have htn := hlt _ _ ht
  have hin := hlt _ _ hi
  refine G.sub (lv2 := [(0, _)]) [0] rfl ?_
  refine g_aload_n 0 rfl dX6_word_0 ?_
  refine g_get f_X6_10 ht rfl dX6_word_1 ?_
  refine gn_ic 0 (by decide) dX6_word_4 ?_
  refine gx_V0 (c_J4_setLength_d00df hSB) l_X6_79 rfl hSB.rcv (Nat.le_of_ble_eq_true rfl) (Nat.le_of_ble_eq_true rfl) rfl dX6_word_5 (fun _ _ _ h => h.1) (fun E2 n2 hp => ?_)
  obtain ⟨-, v2, cap2, b2, hS2, -, -, hF2, hV2, hn2⟩ := hp
  have ht2 : E2 tb = _ := (hF2 tb hbt hvt htn).trans ht
  refine g_aload_n 0 rfl dX6_word_8 ?_
  refine g_get f_X6_54 ht2 rfl dX6_word_9 ?_
  refine g_istore_n (lv2 := [(1, _), (0, _)]) (by decide) rfl dX6_word_12 ?_
  have L13 : ∀ (m13 : Nat) (k : Nat) (E1 : Hp) (n1 v1 c1 : Nat) (b1 : Nat → Int32), (sg + k + m13 = en) → (SB Γ E1 lb v1 c1 b1 k) → (∀ j, j < k → b1 j = inp (sg + j)) → (Fx E E1 n lb lv) → (v1 = lv ∨ n ≤ v1) → (n ≤ n1) → G Γ 10 MX6_word (fun r E2 n2 => ∃ s w v2 cap2 b2 cnt2 y, r = some (.ref s) ∧ SB Γ E2 lb v2 cap2 b2 cnt2 ∧ (v2 = lv ∨ n ≤ v2) ∧ n ≤ s ∧ n ≤ w ∧ s < n2 ∧ w < n2 ∧ v2 ≠ s ∧ v2 ≠ w ∧ E2 s = some (.inr (0, [.ref w, .int (nI 0), .int (nI 0), .int (nI 0)])) ∧ E2 w = some (.inl (gA Γ 1, en - sg, .inl y)) ∧ (∀ i, i < en - sg → y i = inp (sg + i)) ∧ Fx E E2 n lb lv ∧ n ≤ n2) X0 13 [(0, .ref tb), (1, .int (nI (sg + k)))] [] (E1) n1 (m13 + 2) (34 * m13 + 44) := by
    intro m13
    induction m13 with
    | zero =>
      intro k E1 n1 v1 c1 b1 hk hS1 htx hF hV hn
      have ht1 : E1 tb = _ := (hF tb hbt hvt htn).trans ht
      have hi1 : E1 ti = _ := (hF ti hbi hiv hin).trans hi
      refine g_iload_n 1 rfl dX6_word_13 ?_
      refine g_aload_n 0 rfl dX6_word_14 ?_
      refine g_get f_X6_42 ht1 rfl dX6_word_15 ?_
      refine gn_icmp_ge (by omega) (by omega) (tgt := 46) (by decide) dX6_word_18 (fun h18 => ?_) (fun h18 => ?_)
      · -- t 46
        obtain rfl : k = en - sg := by omega
        refine g_aload_n 0 rfl dX6_word_46 ?_
        refine g_get f_X6_10 ht1 rfl dX6_word_47 ?_
        refine G.mono (kc2 := 0 + 2) (ks2 := 0 + 44) (by omega) (by omega) ?_
        refine G.lt (fun hlt1 _ => ?_)
        refine gv_V (c_J4_toString_0e30d hS1 (by have := hS1.2.2.2.1; omega)) l_X6_87 rfl hS1.rcv (Nat.le_of_ble_eq_true rfl) (Nat.le_of_ble_eq_true rfl) rfl dX6_word_50 ?_
        have hs1n : v1 < n1 := hlt1 _ _ hS1.2.1
        obtain ⟨ml1, hlb1⟩ := hS1.1
        have hlbn := hlt1 _ _ hlb1
        have w1 : n ≤ n1 + 1 := by omega
        have w2 : n1 < n1 + 1 + 1 := by omega
        have w3 : n1 + 1 < n1 + 1 + 1 := by omega
        have w4 : v1 ≠ n1 := by omega
        have w5 : v1 ≠ n1 + 1 := by omega
        exact g_aret ⟨n1, n1 + 1, v1, c1, b1, en - sg, _, rfl, ⟨⟨ml1, (hset_n (by omega)).trans ((hset_n (by omega)).trans hlb1)⟩, (hset_n (by omega)).trans ((hset_n (by omega)).trans hS1.2.1), hS1.2.2⟩, hV, hn, w1, w2, w3, w4, w5, (hset_n (by omega)).trans hset_s, by rw [hset_s, Nat.sub_zero], fun i hi => by unfold va_cpy; rw [if_pos (by omega)]; exact (by have := htx i hi; rw [Nat.zero_add, Nat.sub_zero]; exact this), fun q g1 g2 g3 => (hset_n (by omega)).trans ((hset_n (by omega)).trans (hF q g1 g2 g3)), by omega⟩ rfl dX6_word_53
      · -- f 21
        exfalso; omega
    | succ m13 ih13 =>
      intro k E1 n1 v1 c1 b1 hk hS1 htx hF hV hn
      have ht1 : E1 tb = _ := (hF tb hbt hvt htn).trans ht
      have hi1 : E1 ti = _ := (hF ti hbi hiv hin).trans hi
      refine g_iload_n 1 rfl dX6_word_13 ?_
      refine g_aload_n 0 rfl dX6_word_14 ?_
      refine g_get f_X6_42 ht1 rfl dX6_word_15 ?_
      refine gn_icmp_ge (by omega) (by omega) (tgt := 46) (by decide) dX6_word_18 (fun h18 => ?_) (fun h18 => ?_)
      · -- t 46
        exfalso; omega
      · -- f 21
        obtain ⟨q, hq1, hq2, hq⟩ := lt_q (hl (sg + k) (by omega) (by omega))
        refine g_aload_n 0 rfl dX6_word_21 ?_
        refine g_get f_X6_10 ht1 rfl dX6_word_22 ?_
        refine g_aload_n 0 rfl dX6_word_25 ?_
        refine g_get f_X6_25 ht1 rfl dX6_word_26 ?_
        refine g_iload_n 1 rfl dX6_word_29 ?_
        refine gn_bald hi1 (by omega) (by decide) dX6_word_30 ?_
        refine gn_sp 255 (by decide) dX6_word_31 ?_
        refine g_iand dX6_word_34 ?_
        refine g_i2c dX6_word_35 ?_
        refine g_top (y := nI q) (by rw [hq]; exact (a7_all q (by omega)).2.2.1) ?_
        refine G.mono (kc2 := m13 + 2 + 1) (ks2 := 34 * m13 + 44 + 34) (by omega) (by omega) ?_
        refine gx_Vr (c_J4_append_cf468 hS1 (l := q) (by omega) (by omega)) l_X6_83 rfl hS1.rcv (Nat.le_of_ble_eq_true rfl) (Nat.le_of_ble_eq_true rfl) rfl dX6_word_36 (fun v E1 n1 h => ⟨_, h.1⟩) (fun a3 E3 n3 hp => ?_)
        obtain ⟨-, v3, c3, b3, hS3, -, hB3, hF3, hV3, hn3⟩ := hp
        refine g_pop rfl dX6_word_39 ?_
        refine gn_inc (lv2 := [(1, _), (0, _)]) 1 rfl (by decide) rfl dX6_word_40 ?_
        refine g_goto (tgt := 13) (by decide) dX6_word_43 ?_
        refine G.sub [1, 0] rfl ?_
        exact ih13 (k + 1) E3 n3 v3 c3 b3 (by omega) hS3 (fun j hj => (hB3 j hj).trans (by unfold upd; split; (rename_i z; rw [z]; exact hq.symm); exact htx j (by omega))) (fun q g1 g2 g3 => (hF3 q g1 (by omega) (by omega)).trans (hF q g1 g2 g3)) (by omega) (by omega)
  refine G.sub [1, 0] rfl ?_
  refine G.mono (kc2 := en - sg + 2) (ks2 := 34 * (en - sg) + 44) (by omega) (by omega) ?_
  exact L13 (en - sg) 0 E2 n2 v2 cap2 b2 (by omega) hS2 (fun j hj => absurd hj (Nat.not_lt_zero j)) hF2 hV2 hn2
end GJ14
