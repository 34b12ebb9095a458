section GJ5
set_option maxRecDepth 100000 in
set_option maxHeartbeats 4000000 in
theorem c_X0_distanceTo {Γ : Gm} {n : Nat} {E : Hp} {e p g q : Nat} {x y : Nat → Int32} (he : E e = some (.inr (4, [.ref p]))) (hp : E p = some (.inl (gA Γ 0, 5, .inl x))) (hf : E g = some (.inr (4, [.ref q]))) (hq : E q = some (.inl (gA Γ 0, 5, .inl y))) : Ct Γ 1 MX0_distanceTo 0 0 [.ref e, .ref g] (E) n (Rt (some (.int (dst x y 5))) (E) n) X0 := by
  refine Ct.of (by decide +kernel) rfl (Nat.le_of_ble_eq_true rfl) ?_
  refine G.sub (lv2 := [(0, _), (1, _)]) [0, 1] rfl ?_
  refine gn_ic 0 (by decide) dX0_distanceTo_0 ?_
  refine g_istore_n (lv2 := [(2, _), (0, _), (1, _)]) (by decide) rfl dX0_distanceTo_1 ?_
  refine gn_ic 0 (by decide) dX0_distanceTo_2 ?_
  refine g_istore_n (lv2 := [(3, _), (2, _), (0, _), (1, _)]) (by decide) rfl dX0_distanceTo_3 ?_
  have L4 : ∀ (m4 i4 : Nat), i4 + m4 = 5 → G Γ 1 MX0_distanceTo (Rt (some (.int (dst x y 5))) (E) n) X0 4 [(0, .ref e), (1, .ref g), (2, .int (dst x y i4)), (3, .int (nI i4))] [] (E) n 0 0 := by
    intro m4
    induction m4 with
    | zero =>
      intro i4 hi4
      refine g_iload_n 3 rfl dX0_distanceTo_4 ?_
      refine gn_ic 5 (by decide) dX0_distanceTo_5 ?_
      refine gn_icmp_ge (by omega) (by omega) (tgt := 46) (by decide) dX0_distanceTo_6 (fun cc1 => ?_) (fun cc1 => ?_)
      · -- t 46
        refine g_iload_n 2 rfl dX0_distanceTo_46 ?_
        exact g_iret ⟨by rw [show i4 = 5 by omega], rfl, rfl⟩ rfl rfl dX0_distanceTo_47
      · -- f 9
        exfalso; omega
    | succ m4 ih4 =>
      intro i4 hi4
      refine g_iload_n 3 rfl dX0_distanceTo_4 ?_
      refine gn_ic 5 (by decide) dX0_distanceTo_5 ?_
      refine gn_icmp_ge (by omega) (by omega) (tgt := 46) (by decide) dX0_distanceTo_6 (fun cc2 => ?_) (fun cc2 => ?_)
      · -- t 46
        exfalso; omega
      · -- f 9
        refine g_aload_n 0 rfl dX0_distanceTo_9 ?_
        refine g_get f_X0_9 he rfl dX0_distanceTo_10 ?_
        refine g_iload_n 3 rfl dX0_distanceTo_13 ?_
        refine gn_iald hp (by omega) (by decide) dX0_distanceTo_14 ?_
        refine g_aload_n 1 rfl dX0_distanceTo_15 ?_
        refine g_get f_X0_9 hf rfl dX0_distanceTo_16 ?_
        refine g_iload_n 3 rfl dX0_distanceTo_19 ?_
        refine gn_iald hq (by omega) (by decide) dX0_distanceTo_20 ?_
        refine g_isub dX0_distanceTo_21 ?_
        refine g_istore (lv2 := [(4, _), (0, _), (1, _), (2, _), (3, _)]) (by decide) rfl dX0_distanceTo_22 ?_
        refine g_iload_n 3 rfl dX0_distanceTo_24 ?_
        refine g_iload 0 rfl dX0_distanceTo_25 ?_
        refine g_if_ge (tgt := 36) (by decide) dX0_distanceTo_27 (fun h27 => ?_) (fun h27 => ?_)
        · -- t 36
          refine g_iload 0 rfl dX0_distanceTo_36 ?_
          refine g_top (y := iabs (x i4 - y i4)) (iabs_p h27) ?_
          refine g_iadd dX0_distanceTo_38 ?_
          refine g_istore_n (lv2 := [(2, _), (4, _), (0, _), (1, _), (3, _)]) (by decide) rfl dX0_distanceTo_39 ?_
          refine gn_inc (lv2 := [(3, _), (2, _), (4, _), (0, _), (1, _)]) 4 rfl (by decide) rfl dX0_distanceTo_40 ?_
          refine g_goto (tgt := 4) (by decide) dX0_distanceTo_43 ?_
          refine G.sub [3, 4, 1, 0] rfl ?_
          exact ih4 (i4 + 1) (by omega)
        · -- f 30
          refine g_iload 0 rfl dX0_distanceTo_30 ?_
          refine g_ineg dX0_distanceTo_32 ?_
          refine g_top (y := iabs (x i4 - y i4)) (iabs_n h27) ?_
          refine g_goto (tgt := 38) (by decide) dX0_distanceTo_33 ?_
          refine g_iadd dX0_distanceTo_38 ?_
          refine g_istore_n (lv2 := [(2, _), (4, _), (0, _), (1, _), (3, _)]) (by decide) rfl dX0_distanceTo_39 ?_
          refine gn_inc (lv2 := [(3, _), (2, _), (4, _), (0, _), (1, _)]) 4 rfl (by decide) rfl dX0_distanceTo_40 ?_
          refine g_goto (tgt := 4) (by decide) dX0_distanceTo_43 ?_
          refine G.sub [3, 4, 1, 0] rfl ?_
          exact ih4 (i4 + 1) (by omega)
  refine G.sub [2, 3, 1, 0] rfl ?_
  exact L4 _ 0 (Nat.zero_add _)
set_option maxRecDepth 100000 in
set_option maxHeartbeats 4000000 in
theorem c_X0_rhymesWith {Γ : Gm} {n : Nat} {E : Hp} {e p g q : Nat} {x y : Nat → Int32} (he : E e = some (.inr (4, [.ref p]))) (hp : E p = some (.inl (gA Γ 0, 5, .inl x))) (hf : E g = some (.inr (4, [.ref q]))) (hq : E q = some (.inl (gA Γ 0, 5, .inl y))) : Ct Γ 1 MX0_rhymesWith 0 0 [.ref e, .ref g] (E) n (Rt (some (.int (bi (dif x y 5 ≤ 1)))) (E) n) X0 := by
  refine Ct.of (by decide +kernel) rfl (Nat.le_of_ble_eq_true rfl) ?_
  refine G.sub (lv2 := [(0, _), (1, _)]) [0, 1] rfl ?_
  refine gn_ic 0 (by decide) dX0_rhymesWith_0 ?_
  refine g_istore_n (lv2 := [(2, _), (0, _), (1, _)]) (by decide) rfl dX0_rhymesWith_1 ?_
  refine gn_ic 0 (by decide) dX0_rhymesWith_2 ?_
  refine g_istore_n (lv2 := [(3, _), (2, _), (0, _), (1, _)]) (by decide) rfl dX0_rhymesWith_3 ?_
  have L4 : ∀ (m4 i4 : Nat), i4 + m4 = 5 → G Γ 1 MX0_rhymesWith (Rt (some (.int (bi (dif x y 5 ≤ 1)))) (E) n) X0 4 [(0, .ref e), (1, .ref g), (2, .int (nI (dif x y i4))), (3, .int (nI i4))] [] (E) n 0 0 := by
    intro m4
    induction m4 with
    | zero =>
      intro i4 hi4
      refine g_iload_n 3 rfl dX0_rhymesWith_4 ?_
      refine gn_ic 5 (by decide) dX0_rhymesWith_5 ?_
      refine gn_icmp_ge (by omega) (by omega) (tgt := 33) (by decide) dX0_rhymesWith_6 (fun cc1 => ?_) (fun cc1 => ?_)
      · -- t 33
        refine g_iload_n 2 rfl dX0_rhymesWith_33 ?_
        refine gn_ic 1 (by decide) dX0_rhymesWith_34 ?_
        obtain rfl : i4 = 5 := by omega
        have hle := dif_le x y 5
        refine gn_icmp_gt (by omega) (by omega) (tgt := 42) (by decide) dX0_rhymesWith_35 (fun cc2 => ?_) (fun cc2 => ?_)
        · -- t 42
          refine gn_ic 0 (by decide) dX0_rhymesWith_42 ?_
          exact g_iret ⟨by unfold bi; split <;> first | rfl | (exfalso; omega), rfl, rfl⟩ (by decide +kernel) rfl dX0_rhymesWith_43
        · -- f 38
          refine gn_ic 1 (by decide) dX0_rhymesWith_38 ?_
          refine g_goto (tgt := 43) (by decide) dX0_rhymesWith_39 ?_
          exact g_iret ⟨by unfold bi; split <;> first | rfl | (exfalso; omega), rfl, rfl⟩ (by decide +kernel) rfl dX0_rhymesWith_43
      · -- f 9
        exfalso; omega
    | succ m4 ih4 =>
      intro i4 hi4
      refine g_iload_n 3 rfl dX0_rhymesWith_4 ?_
      refine gn_ic 5 (by decide) dX0_rhymesWith_5 ?_
      refine gn_icmp_ge (by omega) (by omega) (tgt := 33) (by decide) dX0_rhymesWith_6 (fun cc3 => ?_) (fun cc3 => ?_)
      · -- t 33
        exfalso; omega
      · -- f 9
        refine g_aload_n 0 rfl dX0_rhymesWith_9 ?_
        refine g_get f_X0_9 he rfl dX0_rhymesWith_10 ?_
        refine g_iload_n 3 rfl dX0_rhymesWith_13 ?_
        refine gn_iald hp (by omega) (by decide) dX0_rhymesWith_14 ?_
        refine g_aload_n 1 rfl dX0_rhymesWith_15 ?_
        refine g_get f_X0_9 hf rfl dX0_rhymesWith_16 ?_
        refine g_iload_n 3 rfl dX0_rhymesWith_19 ?_
        refine gn_iald hq (by omega) (by decide) dX0_rhymesWith_20 ?_
        refine g_icmp_eq (tgt := 27) (by decide) dX0_rhymesWith_21 (fun cc4 => ?_) (fun cc4 => ?_)
        · -- t 27
          refine gn_inc (lv2 := [(3, _), (0, _), (1, _), (2, _)]) 3 rfl (by decide) rfl dX0_rhymesWith_27 ?_
          refine g_goto (tgt := 4) (by decide) dX0_rhymesWith_30 ?_
          refine G.sub [1, 2, 3, 0] rfl ?_
          (have h := ih4 (i4 + 1) (by omega); first | (rw [show dif x y (i4 + 1) = dif x y i4 + 1 from by simp [dif, *]] at h; exact h) | (rw [show dif x y (i4 + 1) = dif x y i4 from by simp [dif, *]] at h; exact h))
        · -- f 24
          refine gn_inc (lv2 := [(2, _), (0, _), (1, _), (3, _)]) 2 rfl (by decide) rfl dX0_rhymesWith_24 ?_
          refine gn_inc (lv2 := [(3, _), (2, _), (0, _), (1, _)]) 3 rfl (by decide) rfl dX0_rhymesWith_27 ?_
          refine g_goto (tgt := 4) (by decide) dX0_rhymesWith_30 ?_
          refine G.sub [2, 3, 1, 0] rfl ?_
          (have h := ih4 (i4 + 1) (by omega); first | (rw [show dif x y (i4 + 1) = dif x y i4 + 1 from by simp [dif, *]] at h; exact h) | (rw [show dif x y (i4 + 1) = dif x y i4 from by simp [dif, *]] at h; exact h))
  refine G.sub [2, 3, 1, 0] rfl ?_
  exact L4 _ 0 (Nat.zero_add _)
set_option maxRecDepth 100000 in
set_option maxHeartbeats 4000000 in
theorem c_X0_farthestVowel {Γ : Gm} {n : Nat} {E : Hp} {e p g q : Nat} {x y : Nat → Int32} (he : E e = some (.inr (4, [.ref p]))) (hp : E p = some (.inl (gA Γ 0, 5, .inl x))) (hf : E g = some (.inr (4, [.ref q]))) (hq : E q = some (.inl (gA Γ 0, 5, .inl y))) : Ct Γ 1 MX0_farthestVowel 0 0 [.ref e, .ref g] (E) n (Rt (some (.int (far x y 5).1)) (E) n) X0 := by
  refine Ct.of (by decide +kernel) rfl (Nat.le_of_ble_eq_true rfl) ?_
  refine G.sub (lv2 := [(0, _), (1, _)]) [0, 1] rfl ?_
  refine g_iconst (v := -1) dX0_farthestVowel_0 (by decide) ?_
  refine g_istore_n (lv2 := [(2, _), (0, _), (1, _)]) (by decide) rfl dX0_farthestVowel_1 ?_
  refine gn_ic 0 (by decide) dX0_farthestVowel_2 ?_
  refine g_istore_n (lv2 := [(3, _), (2, _), (0, _), (1, _)]) (by decide) rfl dX0_farthestVowel_3 ?_
  refine gn_ic 0 (by decide) dX0_farthestVowel_4 ?_
  refine g_istore (lv2 := [(4, _), (3, _), (2, _), (0, _), (1, _)]) (by decide) rfl dX0_farthestVowel_5 ?_
  have L7 : ∀ (m7 i7 : Nat), i7 + m7 = 5 → G Γ 1 MX0_farthestVowel (Rt (some (.int (far x y 5).1)) (E) n) X0 7 [(0, .ref e), (1, .ref g), (2, .int (far x y i7).1), (3, .int (far x y i7).2), (4, .int (nI i7))] [] (E) n 0 0 := by
    intro m7
    induction m7 with
    | zero =>
      intro i7 hi7
      refine g_iload 4 rfl dX0_farthestVowel_7 ?_
      refine gn_ic 5 (by decide) dX0_farthestVowel_9 ?_
      refine gn_icmp_ge (by omega) (by omega) (tgt := 63) (by decide) dX0_farthestVowel_10 (fun cc1 => ?_) (fun cc1 => ?_)
      · -- t 63
        refine g_iload_n 2 rfl dX0_farthestVowel_63 ?_
        exact g_iret ⟨by rw [show i7 = 5 by omega], rfl, rfl⟩ rfl rfl dX0_farthestVowel_64
      · -- f 13
        exfalso; omega
    | succ m7 ih7 =>
      intro i7 hi7
      refine g_iload 4 rfl dX0_farthestVowel_7 ?_
      refine gn_ic 5 (by decide) dX0_farthestVowel_9 ?_
      refine gn_icmp_ge (by omega) (by omega) (tgt := 63) (by decide) dX0_farthestVowel_10 (fun cc2 => ?_) (fun cc2 => ?_)
      · -- t 63
        exfalso; omega
      · -- f 13
        refine g_aload_n 0 rfl dX0_farthestVowel_13 ?_
        refine g_get f_X0_9 he rfl dX0_farthestVowel_14 ?_
        refine g_iload 4 rfl dX0_farthestVowel_17 ?_
        refine gn_iald hp (by omega) (by decide) dX0_farthestVowel_19 ?_
        refine g_aload_n 1 rfl dX0_farthestVowel_20 ?_
        refine g_get f_X0_9 hf rfl dX0_farthestVowel_21 ?_
        refine g_iload 4 rfl dX0_farthestVowel_24 ?_
        refine gn_iald hq (by omega) (by decide) dX0_farthestVowel_26 ?_
        refine g_isub dX0_farthestVowel_27 ?_
        refine g_istore (lv2 := [(5, _), (0, _), (1, _), (2, _), (3, _), (4, _)]) (by decide) rfl dX0_farthestVowel_28 ?_
        refine g_iload 0 rfl dX0_farthestVowel_30 ?_
        refine g_if_ge (tgt := 41) (by decide) dX0_farthestVowel_32 (fun h32 => ?_) (fun h32 => ?_)
        · -- t 41
          refine g_iload 0 rfl dX0_farthestVowel_41 ?_
          refine g_top (y := iabs (x i7 - y i7)) (iabs_p h32) ?_
          refine g_istore (lv2 := [(6, _), (5, _), (0, _), (1, _), (2, _), (3, _), (4, _)]) (by decide) rfl dX0_farthestVowel_43 ?_
          refine g_iload 0 rfl dX0_farthestVowel_45 ?_
          refine g_iload_n 5 rfl dX0_farthestVowel_47 ?_
          refine g_icmp_le (tgt := 57) (by decide) dX0_farthestVowel_48 (fun h1 => ?_) (fun h1 => ?_)
          · -- t 57
            refine gn_inc (lv2 := [(4, _), (6, _), (5, _), (0, _), (1, _), (2, _), (3, _)]) 6 rfl (by decide) rfl dX0_farthestVowel_57 ?_
            refine g_goto (tgt := 7) (by decide) dX0_farthestVowel_60 ?_
            refine G.sub [3, 4, 5, 6, 0] rfl ?_
            (have h := ih7 (i7 + 1) (by omega); rw [far_p (g := x) (h := y) (v := i7) h1] at h; exact h)
          · -- f 51
            refine g_iload 6 rfl dX0_farthestVowel_51 ?_
            refine g_istore_n (lv2 := [(2, _), (6, _), (5, _), (0, _), (1, _), (3, _), (4, _)]) (by decide) rfl dX0_farthestVowel_53 ?_
            refine g_iload 1 rfl dX0_farthestVowel_54 ?_
            refine g_istore_n (lv2 := [(3, _), (2, _), (6, _), (5, _), (0, _), (1, _), (4, _)]) (by decide) rfl dX0_farthestVowel_56 ?_
            refine gn_inc (lv2 := [(4, _), (3, _), (2, _), (6, _), (5, _), (0, _), (1, _)]) 6 rfl (by decide) rfl dX0_farthestVowel_57 ?_
            refine g_goto (tgt := 7) (by decide) dX0_farthestVowel_60 ?_
            refine G.sub [5, 6, 2, 1, 0] rfl ?_
            (have h := ih7 (i7 + 1) (by omega); rw [far_n (g := x) (h := y) (v := i7) h1] at h; exact h)
        · -- f 35
          refine g_iload 0 rfl dX0_farthestVowel_35 ?_
          refine g_ineg dX0_farthestVowel_37 ?_
          refine g_top (y := iabs (x i7 - y i7)) (iabs_n h32) ?_
          refine g_goto (tgt := 43) (by decide) dX0_farthestVowel_38 ?_
          refine g_istore (lv2 := [(6, _), (5, _), (0, _), (1, _), (2, _), (3, _), (4, _)]) (by decide) rfl dX0_farthestVowel_43 ?_
          refine g_iload 0 rfl dX0_farthestVowel_45 ?_
          refine g_iload_n 5 rfl dX0_farthestVowel_47 ?_
          refine g_icmp_le (tgt := 57) (by decide) dX0_farthestVowel_48 (fun h1 => ?_) (fun h1 => ?_)
          · -- t 57
            refine gn_inc (lv2 := [(4, _), (6, _), (5, _), (0, _), (1, _), (2, _), (3, _)]) 6 rfl (by decide) rfl dX0_farthestVowel_57 ?_
            refine g_goto (tgt := 7) (by decide) dX0_farthestVowel_60 ?_
            refine G.sub [3, 4, 5, 6, 0] rfl ?_
            (have h := ih7 (i7 + 1) (by omega); rw [far_p (g := x) (h := y) (v := i7) h1] at h; exact h)
          · -- f 51
            refine g_iload 6 rfl dX0_farthestVowel_51 ?_
            refine g_istore_n (lv2 := [(2, _), (6, _), (5, _), (0, _), (1, _), (3, _), (4, _)]) (by decide) rfl dX0_farthestVowel_53 ?_
            refine g_iload 1 rfl dX0_farthestVowel_54 ?_
            refine g_istore_n (lv2 := [(3, _), (2, _), (6, _), (5, _), (0, _), (1, _), (4, _)]) (by decide) rfl dX0_farthestVowel_56 ?_
            refine gn_inc (lv2 := [(4, _), (3, _), (2, _), (6, _), (5, _), (0, _), (1, _)]) 6 rfl (by decide) rfl dX0_farthestVowel_57 ?_
            refine g_goto (tgt := 7) (by decide) dX0_farthestVowel_60 ?_
            refine G.sub [5, 6, 2, 1, 0] rfl ?_
            (have h := ih7 (i7 + 1) (by omega); rw [far_n (g := x) (h := y) (v := i7) h1] at h; exact h)
  refine G.sub [3, 4, 2, 1, 0] rfl ?_
  exact L7 _ 0 (Nat.zero_add _)
set_option maxRecDepth 100000 in
set_option maxHeartbeats 4000000 in
theorem c_X0_approach_no {Γ : Gm} {n : Nat} {E : Hp} {e p g q : Nat} {x y : Nat → Int32} (he : E e = some (.inr (4, [.ref p]))) (hp : E p = some (.inl (gA Γ 0, 5, .inl x))) (hf : E g = some (.inr (4, [.ref q]))) (hq : E q = some (.inl (gA Γ 0, 5, .inl y))) (hfr : (far x y 5).1 = -1) : Ct Γ 3 MX0_approach 0 0 [.ref e, .ref g] (E) n (Rt (some (.int (nI 0))) (E) n) X0 := by
  refine Ct.of (by decide +kernel) rfl (Nat.le_of_ble_eq_true rfl) ?_
  refine G.sub (lv2 := [(0, _), (1, _)]) [0, 1] rfl ?_
  refine g_aload_n 0 rfl dX0_approach_0 ?_
  refine g_aload_n 1 rfl dX0_approach_1 ?_
  refine gv_V (c_X0_farthestVowel he hp hf hq) l_X0_21 rfl (Rcv.of he rfl) (Nat.le_of_ble_eq_true rfl) (Nat.le_of_ble_eq_true rfl) rfl dX0_approach_2 ?_
  refine g_istore_n (lv2 := [(2, _), (0, _), (1, _)]) (by decide) rfl dX0_approach_5 ?_
  refine g_iload_n 0 rfl dX0_approach_6 ?_
  refine g_iconst (v := -1) dX0_approach_7 (by decide) ?_
  refine g_icmp_ne (tgt := 13) (by decide) dX0_approach_8 (fun h8 => ?_) (fun h8 => ?_)
  · -- t 13
    exact absurd hfr h8
  · -- f 11
    refine gn_ic 0 (by decide) dX0_approach_11 ?_
    exact g_iret ⟨rfl, rfl, rfl⟩ (by decide +kernel) rfl dX0_approach_12
set_option maxRecDepth 100000 in
set_option maxHeartbeats 4000000 in
theorem c_X0_approach_ok {Γ : Gm} {n : Nat} {E : Hp} {e p g q v : Nat} {x y : Nat → Int32} (he : E e = some (.inr (4, [.ref p]))) (hp : E p = some (.inl (gA Γ 0, 5, .inl x))) (hf : E g = some (.inr (4, [.ref q]))) (hq : E q = some (.inl (gA Γ 0, 5, .inl y))) (hv : v < 5) (hfr : (far x y 5).1 = nI v) : Ct Γ 3 MX0_approach 0 0 [.ref e, .ref g] (E) n (Rt (some (.int (nI 1))) (hset E p (.inl (gA Γ 0, 5, .inl (upd x v (x v + (if x v < y v then nI 1 else -1)))))) n) X0 := by
  refine Ct.of (by decide +kernel) rfl (Nat.le_of_ble_eq_true rfl) ?_
  refine G.sub (lv2 := [(0, _), (1, _)]) [0, 1] rfl ?_
  refine g_aload_n 0 rfl dX0_approach_0 ?_
  refine g_aload_n 1 rfl dX0_approach_1 ?_
  refine gv_V (c_X0_farthestVowel he hp hf hq) l_X0_21 rfl (Rcv.of he rfl) (Nat.le_of_ble_eq_true rfl) (Nat.le_of_ble_eq_true rfl) rfl dX0_approach_2 ?_
  refine g_top (y := nI v) hfr ?_
  refine g_istore_n (lv2 := [(2, _), (0, _), (1, _)]) (by decide) rfl dX0_approach_5 ?_
  refine g_iload_n 0 rfl dX0_approach_6 ?_
  refine g_iconst (v := -1) dX0_approach_7 (by decide) ?_
  refine g_icmp_ne (tgt := 13) (by decide) dX0_approach_8 (fun h8 => ?_) (fun h8 => ?_)
  · -- t 13
    refine g_aload_n 1 rfl dX0_approach_13 ?_
    refine g_get f_X0_9 he rfl dX0_approach_14 ?_
    refine g_iload_n 0 rfl dX0_approach_17 ?_
    refine g_dup2 rfl rfl dX0_approach_18 ?_
    refine gn_iald hp (by omega) (by decide) dX0_approach_19 ?_
    refine g_aload_n 1 rfl dX0_approach_20 ?_
    refine g_get f_X0_9 he rfl dX0_approach_21 ?_
    refine g_iload_n 0 rfl dX0_approach_24 ?_
    refine gn_iald hp (by omega) (by decide) dX0_approach_25 ?_
    refine g_aload_n 2 rfl dX0_approach_26 ?_
    refine g_get f_X0_9 hf rfl dX0_approach_27 ?_
    refine g_iload_n 0 rfl dX0_approach_30 ?_
    refine gn_iald hq (by omega) (by decide) dX0_approach_31 ?_
    refine g_icmp_ge (tgt := 39) (by decide) dX0_approach_32 (fun h32 => ?_) (fun h32 => ?_)
    · -- t 39
      refine g_iconst (v := -1) dX0_approach_39 (by decide) ?_
      refine g_top (y := (if x v < y v then nI 1 else -1)) (if_neg (Int32.not_lt.mpr h32)).symm ?_
      refine g_iadd dX0_approach_40 ?_
      refine gn_iast hp (by omega) (by decide) rfl dX0_approach_41 ?_
      refine gn_ic 1 (by decide) dX0_approach_42 ?_
      exact g_iret ⟨rfl, rfl, rfl⟩ (by decide +kernel) rfl dX0_approach_43
    · -- f 35
      refine gn_ic 1 (by decide) dX0_approach_35 ?_
      refine g_top (y := (if x v < y v then nI 1 else -1)) (if_pos (Int32.not_le.mp h32)).symm ?_
      refine g_goto (tgt := 40) (by decide) dX0_approach_36 ?_
      refine g_iadd dX0_approach_40 ?_
      refine gn_iast hp (by omega) (by decide) rfl dX0_approach_41 ?_
      refine gn_ic 1 (by decide) dX0_approach_42 ?_
      exact g_iret ⟨rfl, rfl, rfl⟩ (by decide +kernel) rfl dX0_approach_43
  · -- f 11
    exact absurd h8 (nI_nm1 hv)
set_option maxRecDepth 100000 in
set_option maxHeartbeats 4000000 in
theorem c_X0_copyFrom {Γ : Gm} {n : Nat} {E : Hp} {e p g q : Nat} {x y : Nat → Int32} (he : E e = some (.inr (4, [.ref p]))) (hp : E p = some (.inl (gA Γ 0, 5, .inl x))) (hf : E g = some (.inr (4, [.ref q]))) (hq : E q = some (.inl (gA Γ 0, 5, .inl y))) : Ct Γ 2 MX0_copyFrom 0 0 [.ref e, .ref g] (E) n (Rt none (hset E p (.inl (gA Γ 0, 5, .inl (va_cpy y x 0 0 5)))) n) X0 := by
  refine Ct.of (by decide +kernel) rfl (Nat.le_of_ble_eq_true rfl) ?_
  refine G.sub (lv2 := [(0, _), (1, _)]) [0, 1] rfl ?_
  refine g_aload_n 1 rfl dX0_copyFrom_0 ?_
  refine g_get f_X0_9 hf rfl dX0_copyFrom_1 ?_
  refine gn_ic 0 (by decide) dX0_copyFrom_4 ?_
  refine g_aload_n 0 rfl dX0_copyFrom_5 ?_
  refine g_get f_X0_9 he rfl dX0_copyFrom_6 ?_
  refine gn_ic 0 (by decide) dX0_copyFrom_9 ?_
  refine gn_ic 5 (by decide) dX0_copyFrom_10 ?_
  refine g_copy (t := 0) (ty := .int) ac_X0_15 ac_n ac_s ac_i (Srd.of hq rfl) hp rfl rfl (by decide) (by decide) ⟨by decide, by decide, by decide⟩ (fun i hi => rfl) (Nat.le_of_ble_eq_true rfl) (Nat.le_of_ble_eq_true rfl) rfl dX0_copyFrom_11 ?_
  exact g_vret ⟨rfl, rfl, rfl⟩ rfl dX0_copyFrom_14
set_option maxRecDepth 100000 in
set_option maxHeartbeats 4000000 in
theorem c_X0_setDigits {Γ : Gm} {n : Nat} {E : Hp} {e p a : Nat} {x : Nat → Int32} (he : E e = some (.inr (4, [.ref p]))) (hp : E p = some (.inl (gA Γ 0, 5, .inl x))) (ha : a < 2 ^ 31) : Ct Γ 1 MX0_setDigits 0 0 [.ref e, .int (nI a)] (E) n (Rt none (hset E p (.inl (gA Γ 0, 5, .inl (upd (upd (upd (upd (upd x 4 (nI (a % 10))) 3 (nI (a / 10 % 10))) 2 (nI (a / 10 / 10 % 10))) 1 (nI (a / 10 / 10 / 10 % 10))) 0 (nI (a / 10 / 10 / 10 / 10 % 10)))))) n) X0 := by
  refine Ct.of (by decide +kernel) rfl (Nat.le_of_ble_eq_true rfl) ?_
  have hne : e ≠ p := fun z => by rw [z, hp] at he; cases he
  refine G.sub (lv2 := [(0, _), (1, _)]) [0, 1] rfl ?_
  refine g_iload_n 1 rfl dX0_setDigits_0 ?_
  refine g_istore_n (lv2 := [(2, _), (0, _), (1, _)]) (by decide) rfl dX0_setDigits_1 ?_
  refine gn_ic 4 (by decide) dX0_setDigits_2 ?_
  refine g_istore_n (lv2 := [(3, _), (2, _), (0, _), (1, _)]) (by decide) rfl dX0_setDigits_3 ?_
  refine g_iload_n 0 rfl dX0_setDigits_4 ?_
  refine g_if_lt (tgt := 29) (by decide) dX0_setDigits_5 (fun cc1 => ?_) (fun cc1 => ?_)
  · -- t 29
    exact absurd cc1 (by decide)
  · -- f 8
    refine g_aload_n 2 rfl dX0_setDigits_8 ?_
    refine g_get f_X0_9 he rfl dX0_setDigits_9 ?_
    refine g_iload_n 0 rfl dX0_setDigits_12 ?_
    refine g_iload_n 1 rfl dX0_setDigits_13 ?_
    refine gn_bp 10 (by decide) dX0_setDigits_14 ?_
    refine gn_irem (by omega) (by omega) (by omega) dX0_setDigits_16 ?_
    refine gn_iast hp (by omega) (by decide) rfl dX0_setDigits_17 ?_
    refine g_iload_n 1 rfl dX0_setDigits_18 ?_
    refine gn_bp 10 (by decide) dX0_setDigits_19 ?_
    refine gn_idiv (by omega) (by omega) (by omega) dX0_setDigits_21 ?_
    refine g_istore_n (lv2 := [(2, _), (3, _), (0, _), (1, _)]) (by decide) rfl dX0_setDigits_22 ?_
    refine g_iinc (v := nI 3) (lv2 := [(3, _), (2, _), (0, _), (1, _)]) 1 rfl (by decide) (by decide) rfl dX0_setDigits_23 ?_
    refine g_goto (tgt := 4) (by decide) dX0_setDigits_26 ?_
    refine g_iload_n 0 rfl dX0_setDigits_4 ?_
    refine g_if_lt (tgt := 29) (by decide) dX0_setDigits_5 (fun cc2 => ?_) (fun cc2 => ?_)
    · -- t 29
      exact absurd cc2 (by decide)
    · -- f 8
      refine g_aload_n 2 rfl dX0_setDigits_8 ?_
      refine g_get f_X0_9 ((hset_n hne).trans he) rfl dX0_setDigits_9 ?_
      refine g_iload_n 0 rfl dX0_setDigits_12 ?_
      refine g_iload_n 1 rfl dX0_setDigits_13 ?_
      refine gn_bp 10 (by decide) dX0_setDigits_14 ?_
      refine gn_irem (by omega) (by omega) (by omega) dX0_setDigits_16 ?_
      refine gn_iast hset_s (by omega) (by decide) hset_hs dX0_setDigits_17 ?_
      refine g_iload_n 1 rfl dX0_setDigits_18 ?_
      refine gn_bp 10 (by decide) dX0_setDigits_19 ?_
      refine gn_idiv (by omega) (by omega) (by omega) dX0_setDigits_21 ?_
      refine g_istore_n (lv2 := [(2, _), (3, _), (0, _), (1, _)]) (by decide) rfl dX0_setDigits_22 ?_
      refine g_iinc (v := nI 2) (lv2 := [(3, _), (2, _), (0, _), (1, _)]) 1 rfl (by decide) (by decide) rfl dX0_setDigits_23 ?_
      refine g_goto (tgt := 4) (by decide) dX0_setDigits_26 ?_
      refine g_iload_n 0 rfl dX0_setDigits_4 ?_
      refine g_if_lt (tgt := 29) (by decide) dX0_setDigits_5 (fun cc3 => ?_) (fun cc3 => ?_)
      · -- t 29
        exact absurd cc3 (by decide)
      · -- f 8
        refine g_aload_n 2 rfl dX0_setDigits_8 ?_
        refine g_get f_X0_9 ((hset_n hne).trans he) rfl dX0_setDigits_9 ?_
        refine g_iload_n 0 rfl dX0_setDigits_12 ?_
        refine g_iload_n 1 rfl dX0_setDigits_13 ?_
        refine gn_bp 10 (by decide) dX0_setDigits_14 ?_
        refine gn_irem (by omega) (by omega) (by omega) dX0_setDigits_16 ?_
        refine gn_iast hset_s (by omega) (by decide) hset_hs dX0_setDigits_17 ?_
        refine g_iload_n 1 rfl dX0_setDigits_18 ?_
        refine gn_bp 10 (by decide) dX0_setDigits_19 ?_
        refine gn_idiv (by omega) (by omega) (by omega) dX0_setDigits_21 ?_
        refine g_istore_n (lv2 := [(2, _), (3, _), (0, _), (1, _)]) (by decide) rfl dX0_setDigits_22 ?_
        refine g_iinc (v := nI 1) (lv2 := [(3, _), (2, _), (0, _), (1, _)]) 1 rfl (by decide) (by decide) rfl dX0_setDigits_23 ?_
        refine g_goto (tgt := 4) (by decide) dX0_setDigits_26 ?_
        refine g_iload_n 0 rfl dX0_setDigits_4 ?_
        refine g_if_lt (tgt := 29) (by decide) dX0_setDigits_5 (fun cc4 => ?_) (fun cc4 => ?_)
        · -- t 29
          exact absurd cc4 (by decide)
        · -- f 8
          refine g_aload_n 2 rfl dX0_setDigits_8 ?_
          refine g_get f_X0_9 ((hset_n hne).trans he) rfl dX0_setDigits_9 ?_
          refine g_iload_n 0 rfl dX0_setDigits_12 ?_
          refine g_iload_n 1 rfl dX0_setDigits_13 ?_
          refine gn_bp 10 (by decide) dX0_setDigits_14 ?_
          refine gn_irem (by omega) (by omega) (by omega) dX0_setDigits_16 ?_
          refine gn_iast hset_s (by omega) (by decide) hset_hs dX0_setDigits_17 ?_
          refine g_iload_n 1 rfl dX0_setDigits_18 ?_
          refine gn_bp 10 (by decide) dX0_setDigits_19 ?_
          refine gn_idiv (by omega) (by omega) (by omega) dX0_setDigits_21 ?_
          refine g_istore_n (lv2 := [(2, _), (3, _), (0, _), (1, _)]) (by decide) rfl dX0_setDigits_22 ?_
          refine g_iinc (v := nI 0) (lv2 := [(3, _), (2, _), (0, _), (1, _)]) 1 rfl (by decide) (by decide) rfl dX0_setDigits_23 ?_
          refine g_goto (tgt := 4) (by decide) dX0_setDigits_26 ?_
          refine g_iload_n 0 rfl dX0_setDigits_4 ?_
          refine g_if_lt (tgt := 29) (by decide) dX0_setDigits_5 (fun cc5 => ?_) (fun cc5 => ?_)
          · -- t 29
            exact absurd cc5 (by decide)
          · -- f 8
            refine g_aload_n 2 rfl dX0_setDigits_8 ?_
            refine g_get f_X0_9 ((hset_n hne).trans he) rfl dX0_setDigits_9 ?_
            refine g_iload_n 0 rfl dX0_setDigits_12 ?_
            refine g_iload_n 1 rfl dX0_setDigits_13 ?_
            refine gn_bp 10 (by decide) dX0_setDigits_14 ?_
            refine gn_irem (by omega) (by omega) (by omega) dX0_setDigits_16 ?_
            refine gn_iast hset_s (by omega) (by decide) hset_hs dX0_setDigits_17 ?_
            refine g_iload_n 1 rfl dX0_setDigits_18 ?_
            refine gn_bp 10 (by decide) dX0_setDigits_19 ?_
            refine gn_idiv (by omega) (by omega) (by omega) dX0_setDigits_21 ?_
            refine g_istore_n (lv2 := [(2, _), (3, _), (0, _), (1, _)]) (by decide) rfl dX0_setDigits_22 ?_
            refine g_iinc (v := -1) (lv2 := [(3, _), (2, _), (0, _), (1, _)]) 1 rfl (by decide) (by decide) rfl dX0_setDigits_23 ?_
            refine g_goto (tgt := 4) (by decide) dX0_setDigits_26 ?_
            refine g_iload_n 0 rfl dX0_setDigits_4 ?_
            refine g_if_lt (tgt := 29) (by decide) dX0_setDigits_5 (fun cc6 => ?_) (fun cc6 => ?_)
            · -- t 29
              exact g_vret ⟨rfl, rfl, rfl⟩ rfl dX0_setDigits_29
            · -- f 8
              exact absurd cc6 (by decide)
end GJ5
