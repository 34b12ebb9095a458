section GJ12
set_option maxRecDepth 100000 in
set_option maxHeartbeats 4000000 in
theorem c_X3_isNamed {Γ : Gm} {n : Nat} {E : Hp} {l s w N tx T a z : Nat} {r0 r1 r2 r3 r4 r5 : Value} {b t : Nat → Int32} (hl : E l = some (.inr (7, [.ref s, r0, r1, r2, r3, r4, r5]))) (hs : SF Γ E s w) (hb : BA Γ E w N b) (hb7 : A7 b N) (hN : N < 1000) (ht : BA Γ E tx T t) (hT : T < 1000) (haz : a ≤ z) (hzT : z ≤ T) : Ct Γ 5 MX3_isNamed 0 0 [.ref l, .ref tx, .int (nI a), .int (nI z)] (E) n (Rt (some (.int (bi (z - a = N ∧ ∀ i, i < N → t (a + i) = b i)))) (E) n) X0 := by
  refine Ct.of (by decide +kernel) rfl (Nat.le_of_ble_eq_true rfl) ?_
  refine G.sub (lv2 := [(0, _), (1, _), (2, _), (3, _)]) [0, 1, 2, 3] rfl ?_
  refine g_iload_n 2 rfl dX3_isNamed_0 ?_
  refine g_if_lt (tgt := 23) (by decide) dX3_isNamed_1 (fun h1 => ?_) (fun h1 => ?_)
  · -- t 23
    exact absurd h1 (nI_pos (by omega))
  · -- f 4
    refine g_iload_n 3 rfl dX3_isNamed_4 ?_
    refine g_aload_n 1 rfl dX3_isNamed_5 ?_
    refine g_blen ht dX3_isNamed_6 ?_
    refine gn_icmp_gt (by omega) (by omega) (tgt := 23) (by decide) dX3_isNamed_7 (fun cc1 => ?_) (fun cc1 => ?_)
    · -- t 23
      exfalso; omega
    · -- f 10
      refine g_iload_n 3 rfl dX3_isNamed_10 ?_
      refine g_iload_n 2 rfl dX3_isNamed_11 ?_
      refine gn_isub (by omega) dX3_isNamed_12 ?_
      refine g_aload_n 0 rfl dX3_isNamed_13 ?_
      refine g_get f_X3_9 hl rfl dX3_isNamed_14 ?_
      refine gv_V (c_J0_length_8abf5 hs hb) l_X3_42 rfl hs.rcv (Nat.le_of_ble_eq_true rfl) (Nat.le_of_ble_eq_true rfl) rfl dX3_isNamed_17 ?_
      refine gn_icmp_eq (by omega) (by omega) (tgt := 25) (by decide) dX3_isNamed_20 (fun h20 => ?_) (fun h20 => ?_)
      · -- t 25
        refine gn_ic 0 (by decide) dX3_isNamed_25 ?_
        refine g_istore (lv2 := [(4, _), (0, _), (1, _), (2, _), (3, _)]) (by decide) rfl dX3_isNamed_26 ?_
        have L28 : ∀ (m28 : Nat) (i : Nat), (i + m28 = N) → (∀ j, j < i → t (a + j) = b j) → G Γ 5 MX3_isNamed (Rt (some (.int (bi (z - a = N ∧ ∀ i, i < N → t (a + i) = b i)))) (E) n) X0 28 [(0, .ref l), (1, .ref tx), (2, .int (nI a)), (3, .int (nI z)), (4, .int (nI i))] [] (E) n 0 0 := by
          intro m28
          induction m28 with
          | zero =>
            intro i hi hq
            refine g_iload 4 rfl dX3_isNamed_28 ?_
            refine g_aload_n 0 rfl dX3_isNamed_30 ?_
            refine g_get f_X3_9 hl rfl dX3_isNamed_31 ?_
            refine gv_V (c_J0_length_8abf5 hs hb) l_X3_42 rfl hs.rcv (Nat.le_of_ble_eq_true rfl) (Nat.le_of_ble_eq_true rfl) rfl dX3_isNamed_34 ?_
            refine gn_icmp_ge (by omega) (by omega) (tgt := 66) (by decide) dX3_isNamed_37 (fun h37 => ?_) (fun h37 => ?_)
            · -- t 66
              obtain rfl : N = i := by omega
              refine gn_ic 1 (by decide) dX3_isNamed_66 ?_
              exact g_iret ⟨by rw [bi_t ⟨h20, hq⟩], rfl, rfl⟩ (by decide +kernel) rfl dX3_isNamed_67
            · -- f 40
              exfalso; omega
          | succ m28 ih28 =>
            intro i hi hq
            refine g_iload 4 rfl dX3_isNamed_28 ?_
            refine g_aload_n 0 rfl dX3_isNamed_30 ?_
            refine g_get f_X3_9 hl rfl dX3_isNamed_31 ?_
            refine gv_V (c_J0_length_8abf5 hs hb) l_X3_42 rfl hs.rcv (Nat.le_of_ble_eq_true rfl) (Nat.le_of_ble_eq_true rfl) rfl dX3_isNamed_34 ?_
            refine gn_icmp_ge (by omega) (by omega) (tgt := 66) (by decide) dX3_isNamed_37 (fun h37 => ?_) (fun h37 => ?_)
            · -- t 66
              exfalso; omega
            · -- f 40
              refine g_aload_n 1 rfl dX3_isNamed_40 ?_
              refine g_iload_n 2 rfl dX3_isNamed_41 ?_
              refine g_iload 4 rfl dX3_isNamed_42 ?_
              refine gn_iadd dX3_isNamed_44 ?_
              refine g_bbald ht (by omega) (by omega) dX3_isNamed_45 ?_
              refine g_aload_n 0 rfl dX3_isNamed_46 ?_
              refine g_get f_X3_9 hl rfl dX3_isNamed_47 ?_
              refine g_iload 4 rfl dX3_isNamed_50 ?_
              refine gv_V (c_J0_charAt_5068e hs hb (by omega) (by omega)) l_X3_48 rfl hs.rcv (Nat.le_of_ble_eq_true rfl) (Nat.le_of_ble_eq_true rfl) rfl dX3_isNamed_52 ?_
              refine g_top (y := b i) (hb7.ch (by omega)) ?_
              refine g_icmp_eq (tgt := 60) (by decide) dX3_isNamed_55 (fun h55 => ?_) (fun h55 => ?_)
              · -- t 60
                refine gn_inc (lv2 := [(4, _), (0, _), (1, _), (2, _), (3, _)]) 4 rfl (by decide) rfl dX3_isNamed_60 ?_
                refine g_goto (tgt := 28) (by decide) dX3_isNamed_63 ?_
                refine G.sub [1, 2, 3, 4, 0] rfl ?_
                exact ih28 (i + 1) (by omega) (fun j hj => by by_cases e : j = i; rw [e]; exact h55; exact hq j (by omega))
              · -- f 58
                refine gn_ic 0 (by decide) dX3_isNamed_58 ?_
                exact g_iret ⟨by rw [bi_f (fun q => h55 (q.2 i (by omega)))], rfl, rfl⟩ (by decide +kernel) rfl dX3_isNamed_59
        refine G.sub [1, 2, 3, 4, 0] rfl ?_
        exact L28 N 0 (Nat.zero_add _) (fun j hj => absurd hj (Nat.not_lt_zero j))
      · -- f 23
        refine gn_ic 0 (by decide) dX3_isNamed_23 ?_
        exact g_iret ⟨by rw [bi_f (fun q => h20 q.1)], rfl, rfl⟩ (by decide +kernel) rfl dX3_isNamed_24
set_option maxRecDepth 100000 in
set_option maxHeartbeats 4000000 in
theorem c_X2_numberOf {Γ : Gm} {n : Nat} {hb : Nat} {F S : Hp} {R : Hr} {f : Nat → Int32} {c : Nat} {tx T a z : Nat} {t : Nat → Int32} (hr : Rp Γ S f c R) (hS : ∀ a, Le S (HW Γ hb F R) a) (ht : BA Γ (HW Γ hb F R) tx T t) (hT : T < 1000) (haz : a ≤ z) (hzT : z ≤ T) : Ct Γ 6 MX2_numberOf 0 0 [.ref hb, .ref tx, .int (nI a), .int (nI z)] (HW Γ hb F R) n (Rt (some (.int (fndF t f a (z - a) c))) (HW Γ hb F R) n) X0 := by
  refine Ct.of (by decide +kernel) rfl (Nat.le_of_ble_eq_true rfl) ?_
  have hc12 := hr.2.1
  refine G.sub (lv2 := [(0, _), (1, _), (2, _), (3, _)]) [0, 1, 2, 3] rfl ?_
  refine gn_ic 0 (by decide) dX2_numberOf_0 ?_
  refine g_istore (lv2 := [(4, _), (0, _), (1, _), (2, _), (3, _)]) (by decide) rfl dX2_numberOf_1 ?_
  have L3 : ∀ (m3 : Nat) (i : Nat), (i + m3 = c) → (fndF t f a (z - a) c = fstK (fun k => nmE t f k a (z - a) 6) m3 i) → G Γ 6 MX2_numberOf (Rt (some (.int (fndF t f a (z - a) c))) (HW Γ hb F R) n) X0 3 [(0, .ref hb), (1, .ref tx), (2, .int (nI a)), (3, .int (nI z)), (4, .int (nI i))] [] (HW Γ hb F R) n 0 0 := by
    intro m3
    induction m3 with
    | zero =>
      intro i hi hq
      refine g_iload 4 rfl dX2_numberOf_3 ?_
      refine g_aload_n 0 rfl dX2_numberOf_5 ?_
      refine g_get f_X2_50 HW_h rfl dX2_numberOf_6 ?_
      refine g_top hr.cnt ?_
      refine gn_icmp_ge (by omega) (by omega) (tgt := 37) (by decide) dX2_numberOf_9 (fun h9 => ?_) (fun h9 => ?_)
      · -- t 37
        obtain rfl : c = i := by omega
        refine g_iconst (v := -1) dX2_numberOf_37 (by decide) ?_
        exact g_iret ⟨by rw [hq]; rfl, rfl, rfl⟩ rfl rfl dX2_numberOf_38
      · -- f 12
        exfalso; omega
    | succ m3 ih3 =>
      intro i hi hq
      refine g_iload 4 rfl dX2_numberOf_3 ?_
      refine g_aload_n 0 rfl dX2_numberOf_5 ?_
      refine g_get f_X2_50 HW_h rfl dX2_numberOf_6 ?_
      refine g_top hr.cnt ?_
      refine gn_icmp_ge (by omega) (by omega) (tgt := 37) (by decide) dX2_numberOf_9 (fun h9 => ?_) (fun h9 => ?_)
      · -- t 37
        exfalso; omega
      · -- f 12
        have hic : i < c := by omega
        refine g_aload_n 0 rfl dX2_numberOf_12 ?_
        refine g_get f_X2_20 HW_h rfl dX2_numberOf_13 ?_
        refine g_iload 4 rfl dX2_numberOf_16 ?_
        refine h_aald (by omega) dX2_numberOf_18 ?_
        refine g_aload_n 1 rfl dX2_numberOf_19 ?_
        refine g_iload_n 2 rfl dX2_numberOf_20 ?_
        refine g_iload_n 3 rfl dX2_numberOf_21 ?_
        obtain ⟨w, N, b, q1, q2, q3, q4, q5, q6⟩ := hr.nam hic
        refine gv_V (c_X3_isNamed (HW_l (hr.o12 hic)) (q1.mono (hS _)) (q2.mono (hS _)) (nam_a7 q5) (by omega) ht hT haz hzT) l_X2_63 rfl (Rcv.of (HW_l (hr.o12 hic)) rfl) (Nat.le_of_ble_eq_true rfl) (Nat.le_of_ble_eq_true rfl) rfl dX2_numberOf_22 ?_
        refine g_if_eq (tgt := 31) (by decide) dX2_numberOf_25 (fun h25 => ?_) (fun h25 => ?_)
        · -- t 31
          refine gn_inc (lv2 := [(4, _), (0, _), (1, _), (2, _), (3, _)]) 4 rfl (by decide) rfl dX2_numberOf_31 ?_
          refine g_goto (tgt := 3) (by decide) dX2_numberOf_34 ?_
          refine G.sub [1, 2, 3, 4, 0] rfl ?_
          exact ih3 (i + 1) (by omega) (by rw [hq, fstK_f (p := (fun k => nmE t f k a (z - a) 6)) (fun z9 => bi_0 h25 ((nam_is q3 q4 q5 q6).mpr z9))])
        · -- f 28
          refine g_iload 4 rfl dX2_numberOf_28 ?_
          exact g_iret ⟨by rw [hq, fstK_t (p := (fun k => nmE t f k a (z - a) 6)) ((nam_is q3 q4 q5 q6).mp (bi_n0 h25))], rfl, rfl⟩ rfl rfl dX2_numberOf_30
  refine G.sub [1, 2, 3, 4, 0] rfl ?_
  exact L3 c 0 (Nat.zero_add _) rfl
set_option maxRecDepth 100000 in
set_option maxHeartbeats 4000000 in
theorem c_X2_hasLetterName {Γ : Gm} {n : Nat} {hb : Nat} {F S : Hp} {R : Hr} {f : Nat → Int32} {c : Nat} {x : Nat} (hr : Rp Γ S f c R) (hS : ∀ a, Le S (HW Γ hb F R) a) (hx : x < 128) : Ct Γ 5 MX2_hasLetterName 0 0 [.ref hb, .int (nI x)] (HW Γ hb F R) n (Rt (some (.int (bi (tkB f (nI x) c = true)))) (HW Γ hb F R) n) X0 := by
  refine Ct.of (by decide +kernel) rfl (Nat.le_of_ble_eq_true rfl) ?_
  have hc12 := hr.2.1
  refine G.sub (lv2 := [(0, _), (1, _)]) [0, 1] rfl ?_
  refine gn_ic 0 (by decide) dX2_hasLetterName_0 ?_
  refine g_istore_n (lv2 := [(2, _), (0, _), (1, _)]) (by decide) rfl dX2_hasLetterName_1 ?_
  have L2 : ∀ (m2 : Nat) (i : Nat), (i + m2 = c) → (¬ tkB f (nI x) i = true) → G Γ 5 MX2_hasLetterName (Rt (some (.int (bi (tkB f (nI x) c = true)))) (HW Γ hb F R) n) X0 2 [(0, .ref hb), (1, .int (nI x)), (2, .int (nI i))] [] (HW Γ hb F R) n 0 0 := by
    intro m2
    induction m2 with
    | zero =>
      intro i hi hq
      refine g_iload_n 2 rfl dX2_hasLetterName_2 ?_
      refine g_aload_n 0 rfl dX2_hasLetterName_3 ?_
      refine g_get f_X2_50 HW_h rfl dX2_hasLetterName_4 ?_
      refine g_top hr.cnt ?_
      refine gn_icmp_ge (by omega) (by omega) (tgt := 45) (by decide) dX2_hasLetterName_7 (fun h7 => ?_) (fun h7 => ?_)
      · -- t 45
        obtain rfl : c = i := by omega
        refine gn_ic 0 (by decide) dX2_hasLetterName_45 ?_
        exact g_iret ⟨by rw [bi_f hq], rfl, rfl⟩ (by decide +kernel) rfl dX2_hasLetterName_46
      · -- f 10
        exfalso; omega
    | succ m2 ih2 =>
      intro i hi hq
      refine g_iload_n 2 rfl dX2_hasLetterName_2 ?_
      refine g_aload_n 0 rfl dX2_hasLetterName_3 ?_
      refine g_get f_X2_50 HW_h rfl dX2_hasLetterName_4 ?_
      refine g_top hr.cnt ?_
      refine gn_icmp_ge (by omega) (by omega) (tgt := 45) (by decide) dX2_hasLetterName_7 (fun h7 => ?_) (fun h7 => ?_)
      · -- t 45
        exfalso; omega
      · -- f 10
        have hic : i < c := by omega
        refine g_aload_n 0 rfl dX2_hasLetterName_10 ?_
        refine g_get f_X2_20 HW_h rfl dX2_hasLetterName_11 ?_
        refine g_iload_n 2 rfl dX2_hasLetterName_14 ?_
        refine h_aald (by omega) dX2_hasLetterName_15 ?_
        refine g_get f_X2_89 (HW_l (hr.o12 (by omega))) rfl dX2_hasLetterName_16 ?_
        refine g_astore_n (lv2 := [(3, _), (0, _), (1, _), (2, _)]) (by decide) rfl dX2_hasLetterName_19 ?_
        refine g_aload_n 0 rfl dX2_hasLetterName_20 ?_
        obtain ⟨w, N, b, q1, q2, q3, q4, q5, q6⟩ := hr.nam hic
        have hle := nam_len q4 q5 q6
        refine gv_V (c_J0_length_8abf5 (q1.mono (hS _)) (q2.mono (hS _))) l_X2_69 rfl (q1.mono (hS _)).rcv (Nat.le_of_ble_eq_true rfl) (Nat.le_of_ble_eq_true rfl) rfl dX2_hasLetterName_21 ?_
        refine gn_ic 1 (by decide) dX2_hasLetterName_24 ?_
        refine gn_icmp_ne (by omega) (by omega) (tgt := 39) (by decide) dX2_hasLetterName_25 (fun h25 => ?_) (fun h25 => ?_)
        · -- t 39
          refine gn_inc (lv2 := [(2, _), (3, _), (0, _), (1, _)]) 3 rfl (by decide) rfl dX2_hasLetterName_39 ?_
          refine g_goto (tgt := 2) (by decide) dX2_hasLetterName_42 ?_
          refine G.sub [2, 3, 0] rfl ?_
          exact ih2 (i + 1) (by omega) (tkB_s hq (fun z => h25 (hle.symm.trans z.2)))
        · -- f 28
          refine g_aload_n 0 rfl dX2_hasLetterName_28 ?_
          refine gn_ic 0 (by decide) dX2_hasLetterName_29 ?_
          refine gv_V (c_J0_charAt_5068e (q1.mono (hS _)) (q2.mono (hS _)) (by omega) (by omega)) l_X2_75 rfl (q1.mono (hS _)).rcv (Nat.le_of_ble_eq_true rfl) (Nat.le_of_ble_eq_true rfl) rfl dX2_hasLetterName_30 ?_
          refine g_top (y := b 0) ((nam_a7 q5).ch (by omega)) ?_
          refine g_iload_n 2 rfl dX2_hasLetterName_33 ?_
          refine g_icmp_ne (tgt := 39) (by decide) dX2_hasLetterName_34 (fun h34 => ?_) (fun h34 => ?_)
          · -- t 39
            refine gn_inc (lv2 := [(2, _), (3, _), (0, _), (1, _)]) 3 rfl (by decide) rfl dX2_hasLetterName_39 ?_
            refine g_goto (tgt := 2) (by decide) dX2_hasLetterName_42 ?_
            refine G.sub [2, 3, 0] rfl ?_
            exact ih2 (i + 1) (by omega) (tkB_s hq (fun z => h34 ((q5 0 (by omega)).1.trans z.1)))
          · -- f 37
            refine gn_ic 1 (by decide) dX2_hasLetterName_37 ?_
            exact g_iret ⟨by rw [bi_t (tkB_i hic ((q5 0 (by omega)).1.symm.trans h34) (hle.trans h25))], rfl, rfl⟩ (by decide +kernel) rfl dX2_hasLetterName_38
  refine G.sub [1, 2, 0] rfl ?_
  exact L2 c 0 (Nat.zero_add _) (by rw [tkB]; decide)
set_option maxRecDepth 100000 in
set_option maxHeartbeats 4000000 in
theorem c_X2_unusedLetter {Γ : Gm} {n : Nat} {hb : Nat} {F S : Hp} {R : Hr} {f : Nat → Int32} {c : Nat}  (hr : Rp Γ S f c R) (hS : ∀ a, Le S (HW Γ hb F R) a) (hfr : frL f c 26 97 < 123) : Ct Γ 9 MX2_unusedLetter 2 44 [.ref hb] (HW Γ hb F R) n (fun v E2 n2 => v = some (.ref n) ∧ n2 = n + 1 + 1 ∧ ∃ y, E2 = hset (hset (HW Γ hb F R) n (.inr (0, [.ref (n + 1), .int (nI 0), .int (nI 0), .int (nI 0)]))) (n + 1) (.inl (gA Γ 1, 1, .inl y)) ∧ y 0 = nI (frL f c 26 97)) X0 := by
  refine Ct.of (by decide +kernel) rfl (Nat.le_of_ble_eq_true rfl) ?_
  have hc12 := hr.2.1
  have al7 : A7 (fun j => alB.getD j 0) 26 := fun j hj => ⟨97 + j, by omega, al_at j hj⟩
  refine G.sub (lv2 := [(0, _)]) [0] rfl ?_
  refine gn_ic 0 (by decide) dX2_unusedLetter_0 ?_
  refine g_istore_n (lv2 := [(1, _), (0, _)]) (by decide) rfl dX2_unusedLetter_1 ?_
  have L2 : ∀ (m2 : Nat) (i : Nat), (i + m2 = 26) → (frL f c 26 97 = frL f c m2 (97 + i)) → G Γ 9 MX2_unusedLetter (fun v E2 n2 => v = some (.ref n) ∧ n2 = n + 1 + 1 ∧ ∃ y, E2 = hset (hset (HW Γ hb F R) n (.inr (0, [.ref (n + 1), .int (nI 0), .int (nI 0), .int (nI 0)]))) (n + 1) (.inl (gA Γ 1, 1, .inl y)) ∧ y 0 = nI (frL f c 26 97)) X0 2 [(0, .ref hb), (1, .int (nI i))] [] (HW Γ hb F R) n 2 44 := by
    intro m2
    induction m2 with
    | zero =>
      intro i hi hq
      refine g_iload_n 1 rfl dX2_unusedLetter_2 ?_
      refine g_ldcS (i := 27) rfl dX2_unusedLetter_3 ?_
      refine gv_V (c_J0_length_8abf5 (show SF Γ (HW Γ hb F R) (gK Γ 27) (gV Γ 27) from Or.inr ⟨27, _, rfl, rfl, rfl⟩) (show BA Γ (HW Γ hb F R) (gV Γ 27) 26 (fun j => alB.getD j 0) from Or.inr ⟨27, _, rfl, rfl, rfl, fun _ _ => rfl⟩)) l_X2_69 rfl (Or.inr ⟨rfl, 27, _, rfl, rfl⟩) (Nat.le_of_ble_eq_true rfl) (Nat.le_of_ble_eq_true rfl) rfl dX2_unusedLetter_5 ?_
      refine gn_icmp_ge (by omega) (by omega) (tgt := 40) (by decide) dX2_unusedLetter_8 (fun h8 => ?_) (fun h8 => ?_)
      · -- t 40
        exfalso; rw [hq, show i = 26 by omega] at hfr; exact absurd hfr (by rw [frL]; decide)
      · -- f 11
        exfalso; omega
    | succ m2 ih2 =>
      intro i hi hq
      refine g_iload_n 1 rfl dX2_unusedLetter_2 ?_
      refine g_ldcS (i := 27) rfl dX2_unusedLetter_3 ?_
      refine gv_V (c_J0_length_8abf5 (show SF Γ (HW Γ hb F R) (gK Γ 27) (gV Γ 27) from Or.inr ⟨27, _, rfl, rfl, rfl⟩) (show BA Γ (HW Γ hb F R) (gV Γ 27) 26 (fun j => alB.getD j 0) from Or.inr ⟨27, _, rfl, rfl, rfl, fun _ _ => rfl⟩)) l_X2_69 rfl (Or.inr ⟨rfl, 27, _, rfl, rfl⟩) (Nat.le_of_ble_eq_true rfl) (Nat.le_of_ble_eq_true rfl) rfl dX2_unusedLetter_5 ?_
      refine gn_icmp_ge (by omega) (by omega) (tgt := 40) (by decide) dX2_unusedLetter_8 (fun h8 => ?_) (fun h8 => ?_)
      · -- t 40
        exfalso; omega
      · -- f 11
        have hi26 : i < 26 := by omega
        refine g_aload_n 0 rfl dX2_unusedLetter_11 ?_
        refine g_ldcS (i := 27) rfl dX2_unusedLetter_12 ?_
        refine g_iload_n 1 rfl dX2_unusedLetter_14 ?_
        refine gv_V (c_J0_charAt_5068e (show SF Γ (HW Γ hb F R) (gK Γ 27) (gV Γ 27) from Or.inr ⟨27, _, rfl, rfl, rfl⟩) (show BA Γ (HW Γ hb F R) (gV Γ 27) 26 (fun j => alB.getD j 0) from Or.inr ⟨27, _, rfl, rfl, rfl, fun _ _ => rfl⟩) hi26 (by decide)) l_X2_75 rfl (Or.inr ⟨rfl, 27, _, rfl, rfl⟩) (Nat.le_of_ble_eq_true rfl) (Nat.le_of_ble_eq_true rfl) rfl dX2_unusedLetter_15 ?_
        refine g_top (y := nI (97 + i)) ((al7.ch hi26).trans (al_at i hi26)) ?_
        refine gv_V (c_X2_hasLetterName hr hS (by omega)) l_X2_79 rfl (Rcv.of HW_h rfl) (Nat.le_of_ble_eq_true rfl) (Nat.le_of_ble_eq_true rfl) rfl dX2_unusedLetter_18 ?_
        refine g_if_ne (tgt := 34) (by decide) dX2_unusedLetter_21 (fun h21 => ?_) (fun h21 => ?_)
        · -- t 34
          refine gn_inc (lv2 := [(1, _), (0, _)]) 1 rfl (by decide) rfl dX2_unusedLetter_34 ?_
          refine g_goto (tgt := 2) (by decide) dX2_unusedLetter_37 ?_
          refine G.sub [1, 0] rfl ?_
          exact ih2 (i + 1) (by omega) (by rw [hq, frL_t (bi_n0 h21)]; rfl)
        · -- f 24
          refine g_ldcS (i := 27) rfl dX2_unusedLetter_24 ?_
          refine g_iload_n 1 rfl dX2_unusedLetter_26 ?_
          refine g_iload_n 1 rfl dX2_unusedLetter_27 ?_
          refine gn_ic 1 (by decide) dX2_unusedLetter_28 ?_
          refine gn_iadd dX2_unusedLetter_29 ?_
          refine gv_V (c_J0_substring_37a41 (show SF Γ (HW Γ hb F R) (gK Γ 27) (gV Γ 27) from Or.inr ⟨27, _, rfl, rfl, rfl⟩) (show BA Γ (HW Γ hb F R) (gV Γ 27) 26 (fun j => alB.getD j 0) from Or.inr ⟨27, _, rfl, rfl, rfl, fun _ _ => rfl⟩) al7 (by omega) (by decide) (by decide)) l_X2_83 rfl (Or.inr ⟨rfl, 27, _, rfl, rfl⟩) (Nat.le_of_ble_eq_true rfl) (Nat.le_of_ble_eq_true rfl) rfl dX2_unusedLetter_30 ?_
          exact g_aret ⟨rfl, rfl, va_cpy (fun j => alB.getD j 0) (fun _ => nI 0) i 0 (i + (i + 1 - i) - i), by rw [show i + (i + 1 - i) - i = 1 by omega], by rw [hq, frL_f (bi_0 h21)]; unfold va_cpy; rw [if_pos (by omega)]; exact al_at i hi26⟩ rfl dX2_unusedLetter_33
  refine G.sub [1, 0] rfl ?_
  exact L2 26 0 rfl rfl
end GJ12
