section GJ6
set_option maxRecDepth 100000 in
set_option maxHeartbeats 4000000 in
theorem c_X2_dailyRent {Γ : Gm} {n : Nat} {hb : Nat} {F S : Hp} {R : Hr} {f : Nat → Int32} {c : Nat} {fl : Int32} (hr : Rp Γ S f c R)  : Ct Γ 1 MX2_dailyRent 0 0 [.ref hb, .int fl] (HW Γ hb F R) n (Rt (some (.int (f 0 + nI 5 * fl))) (HW Γ hb F R) n) X0 := by
  refine Ct.of (by decide +kernel) rfl (Nat.le_of_ble_eq_true rfl) ?_
  have hc12 := hr.2.1
  refine G.sub (lv2 := [(0, _), (1, _)]) [0, 1] rfl ?_
  refine g_aload_n 0 rfl dX2_dailyRent_0 ?_
  refine g_get f_X2_32 HW_h rfl dX2_dailyRent_1 ?_
  refine g_top (hr.d (j := 0) (by decide) (by decide)) ?_
  refine gn_ic 5 (by decide) dX2_dailyRent_4 ?_
  refine g_iload_n 1 rfl dX2_dailyRent_5 ?_
  refine g_imul dX2_dailyRent_6 ?_
  refine g_iadd dX2_dailyRent_7 ?_
  exact g_iret ⟨rfl, rfl, rfl⟩ rfl rfl dX2_dailyRent_8
set_option maxRecDepth 100000 in
set_option maxHeartbeats 4000000 in
theorem c_X2_crowdOn {Γ : Gm} {n : Nat} {hb : Nat} {F S : Hp} {R : Hr} {f : Nat → Int32} {c : Nat} {fl : Int32} (hr : Rp Γ S f c R)  : Ct Γ 1 MX2_crowdOn 0 0 [.ref hb, .int fl] (HW Γ hb F R) n (Rt (some (.int (nI (cntA f fl c)))) (HW Γ hb F R) n) X0 := by
  refine Ct.of (by decide +kernel) rfl (Nat.le_of_ble_eq_true rfl) ?_
  have hc12 := hr.2.1
  refine G.sub (lv2 := [(0, _), (1, _)]) [0, 1] rfl ?_
  refine gn_ic 0 (by decide) dX2_crowdOn_0 ?_
  refine g_istore_n (lv2 := [(2, _), (0, _), (1, _)]) (by decide) rfl dX2_crowdOn_1 ?_
  refine gn_ic 0 (by decide) dX2_crowdOn_2 ?_
  refine g_istore_n (lv2 := [(3, _), (2, _), (0, _), (1, _)]) (by decide) rfl dX2_crowdOn_3 ?_
  have L4 : ∀ (m4 i4 : Nat), i4 + m4 = c → G Γ 1 MX2_crowdOn (Rt (some (.int (nI (cntA f fl c)))) (HW Γ hb F R) n) X0 4 [(0, .ref hb), (1, .int fl), (2, .int (nI (cntA f fl i4))), (3, .int (nI i4))] [] (HW Γ hb F R) n 0 0 := by
    intro m4
    induction m4 with
    | zero =>
      intro i4 hi4
      refine g_iload_n 3 rfl dX2_crowdOn_4 ?_
      refine g_aload_n 0 rfl dX2_crowdOn_5 ?_
      refine g_get f_X2_50 HW_h rfl dX2_crowdOn_6 ?_
      refine g_top hr.cnt ?_
      refine gn_icmp_ge (by omega) (by omega) (tgt := 34) (by decide) dX2_crowdOn_9 (fun cc1 => ?_) (fun cc1 => ?_)
      · -- t 34
        refine g_iload_n 2 rfl dX2_crowdOn_34 ?_
        exact g_iret ⟨by rw [show i4 = c by omega], rfl, rfl⟩ rfl rfl dX2_crowdOn_35
      · -- f 12
        exfalso; omega
    | succ m4 ih4 =>
      intro i4 hi4
      refine g_iload_n 3 rfl dX2_crowdOn_4 ?_
      refine g_aload_n 0 rfl dX2_crowdOn_5 ?_
      refine g_get f_X2_50 HW_h rfl dX2_crowdOn_6 ?_
      refine g_top hr.cnt ?_
      refine gn_icmp_ge (by omega) (by omega) (tgt := 34) (by decide) dX2_crowdOn_9 (fun cc2 => ?_) (fun cc2 => ?_)
      · -- t 34
        exfalso; omega
      · -- f 12
        refine g_aload_n 0 rfl dX2_crowdOn_12 ?_
        refine g_get f_X2_20 HW_h rfl dX2_crowdOn_13 ?_
        refine g_iload_n 3 rfl dX2_crowdOn_16 ?_
        refine h_aald (by omega) dX2_crowdOn_17 ?_
        refine g_get f_X2_60 (HW_l (hr.o12 (by omega))) rfl dX2_crowdOn_18 ?_
        refine g_top (hr.flo (by omega)) ?_
        refine g_iload_n 1 rfl dX2_crowdOn_21 ?_
        refine g_icmp_ne (tgt := 28) (by decide) dX2_crowdOn_22 (fun cc3 => ?_) (fun cc3 => ?_)
        · -- t 28
          refine gn_inc (lv2 := [(3, _), (0, _), (1, _), (2, _)]) 3 rfl (by decide) rfl dX2_crowdOn_28 ?_
          refine g_goto (tgt := 4) (by decide) dX2_crowdOn_31 ?_
          refine G.sub [1, 2, 3, 0] rfl ?_
          (have h := ih4 (i4 + 1) (by omega); first | (rw [show cntA f fl (i4 + 1) = cntA f fl i4 + 1 from by simp [cntA, *]] at h; exact h) | (rw [show cntA f fl (i4 + 1) = cntA f fl i4 from by simp [cntA, *]] at h; exact h))
        · -- f 25
          refine gn_inc (lv2 := [(2, _), (0, _), (1, _), (3, _)]) 2 rfl (by decide) rfl dX2_crowdOn_25 ?_
          refine gn_inc (lv2 := [(3, _), (2, _), (0, _), (1, _)]) 3 rfl (by decide) rfl dX2_crowdOn_28 ?_
          refine g_goto (tgt := 4) (by decide) dX2_crowdOn_31 ?_
          refine G.sub [2, 3, 1, 0] rfl ?_
          (have h := ih4 (i4 + 1) (by omega); first | (rw [show cntA f fl (i4 + 1) = cntA f fl i4 + 1 from by simp [cntA, *]] at h; exact h) | (rw [show cntA f fl (i4 + 1) = cntA f fl i4 from by simp [cntA, *]] at h; exact h))
  refine G.sub [2, 3, 1, 0] rfl ?_
  exact L4 _ 0 (Nat.zero_add _)
set_option maxRecDepth 100000 in
set_option maxHeartbeats 4000000 in
theorem c_X2_averagePosition {Γ : Gm} {n : Nat} {hb : Nat} {F S : Hp} {R : Hr} {f : Nat → Int32} {c : Nat} {fl : Int32} {v : Nat} (hr : Rp Γ S f c R) (hv : v < 5) : Ct Γ 1 MX2_averagePosition 0 0 [.ref hb, .int fl, .int (nI v)] (HW Γ hb F R) n (Rt (some (.int (avgF f fl v c))) (HW Γ hb F R) n) X0 := by
  refine Ct.of (by decide +kernel) rfl (Nat.le_of_ble_eq_true rfl) ?_
  have hc12 := hr.2.1
  refine G.sub (lv2 := [(0, _), (1, _), (2, _)]) [0, 1, 2] rfl ?_
  refine gn_ic 0 (by decide) dX2_averagePosition_0 ?_
  refine g_istore_n (lv2 := [(3, _), (0, _), (1, _), (2, _)]) (by decide) rfl dX2_averagePosition_1 ?_
  refine gn_ic 0 (by decide) dX2_averagePosition_2 ?_
  refine g_istore (lv2 := [(4, _), (3, _), (0, _), (1, _), (2, _)]) (by decide) rfl dX2_averagePosition_3 ?_
  refine gn_ic 0 (by decide) dX2_averagePosition_5 ?_
  refine g_istore (lv2 := [(5, _), (4, _), (3, _), (0, _), (1, _), (2, _)]) (by decide) rfl dX2_averagePosition_6 ?_
  have L8 : ∀ (m8 i8 : Nat), i8 + m8 = c → G Γ 1 MX2_averagePosition (Rt (some (.int (avgF f fl v c))) (HW Γ hb F R) n) X0 8 [(0, .ref hb), (1, .int fl), (2, .int (nI v)), (3, .int (sumA f fl v i8)), (4, .int (nI (cntA f fl i8))), (5, .int (nI i8))] [] (HW Γ hb F R) n 0 0 := by
    intro m8
    induction m8 with
    | zero =>
      intro i8 hi8
      refine g_iload 5 rfl dX2_averagePosition_8 ?_
      refine g_aload_n 0 rfl dX2_averagePosition_10 ?_
      refine g_get f_X2_50 HW_h rfl dX2_averagePosition_11 ?_
      refine g_top hr.cnt ?_
      refine gn_icmp_ge (by omega) (by omega) (tgt := 58) (by decide) dX2_averagePosition_14 (fun cc1 => ?_) (fun cc1 => ?_)
      · -- t 58
        obtain rfl : i8 = c := by omega
        have hle := cntA_le f fl i8
        refine g_iload 4 rfl dX2_averagePosition_58 ?_
        refine gn_if_ne (by omega) (tgt := 67) (by decide) dX2_averagePosition_60 (fun cc2 => ?_) (fun cc2 => ?_)
        · -- t 67
          refine g_iload_n 3 rfl dX2_averagePosition_67 ?_
          refine g_iload 4 rfl dX2_averagePosition_68 ?_
          refine g_idiv (nI_ne0 (by omega) (by omega)) dX2_averagePosition_70 ?_
          exact g_iret ⟨by simp [avgF, *], rfl, rfl⟩ rfl rfl dX2_averagePosition_71
        · -- f 63
          refine gn_ic 0 (by decide) dX2_averagePosition_63 ?_
          refine g_goto (tgt := 71) (by decide) dX2_averagePosition_64 ?_
          exact g_iret ⟨by simp [avgF, *], rfl, rfl⟩ rfl rfl dX2_averagePosition_71
      · -- f 17
        exfalso; omega
    | succ m8 ih8 =>
      intro i8 hi8
      refine g_iload 5 rfl dX2_averagePosition_8 ?_
      refine g_aload_n 0 rfl dX2_averagePosition_10 ?_
      refine g_get f_X2_50 HW_h rfl dX2_averagePosition_11 ?_
      refine g_top hr.cnt ?_
      refine gn_icmp_ge (by omega) (by omega) (tgt := 58) (by decide) dX2_averagePosition_14 (fun cc3 => ?_) (fun cc3 => ?_)
      · -- t 58
        exfalso; omega
      · -- f 17
        refine g_aload_n 0 rfl dX2_averagePosition_17 ?_
        refine g_get f_X2_20 HW_h rfl dX2_averagePosition_18 ?_
        refine g_iload 5 rfl dX2_averagePosition_21 ?_
        refine h_aald (by omega) dX2_averagePosition_23 ?_
        refine g_get f_X2_60 (HW_l (hr.o12 (by omega))) rfl dX2_averagePosition_24 ?_
        refine g_top (hr.flo (by omega)) ?_
        refine g_iload_n 1 rfl dX2_averagePosition_27 ?_
        refine g_icmp_ne (tgt := 52) (by decide) dX2_averagePosition_28 (fun cc4 => ?_) (fun cc4 => ?_)
        · -- t 52
          refine gn_inc (lv2 := [(5, _), (0, _), (1, _), (2, _), (3, _), (4, _)]) 5 rfl (by decide) rfl dX2_averagePosition_52 ?_
          refine g_goto (tgt := 8) (by decide) dX2_averagePosition_55 ?_
          refine G.sub [1, 2, 3, 4, 5, 0] rfl ?_
          (have h := ih8 (i8 + 1) (by omega); first | (rw [show sumA f fl v (i8 + 1) = sumA f fl v i8 + f (13 + 16 * i8 + 5 + v) from by simp [sumA, *], show cntA f fl (i8 + 1) = cntA f fl i8 + 1 from by simp [cntA, *]] at h; exact h) | (rw [show sumA f fl v (i8 + 1) = sumA f fl v i8 from by simp [sumA, nI_0, *], show cntA f fl (i8 + 1) = cntA f fl i8 from by simp [cntA, *]] at h; exact h))
        · -- f 31
          refine g_iload_n 3 rfl dX2_averagePosition_31 ?_
          refine g_aload_n 0 rfl dX2_averagePosition_32 ?_
          refine g_get f_X2_20 HW_h rfl dX2_averagePosition_33 ?_
          refine g_iload 5 rfl dX2_averagePosition_36 ?_
          refine h_aald (by omega) dX2_averagePosition_38 ?_
          refine g_get f_X2_93 (HW_l (hr.o12 (by omega))) rfl dX2_averagePosition_39 ?_
          refine g_get f_X2_96 (HW_a (hr.o12 (by omega))) rfl dX2_averagePosition_42 ?_
          refine g_iload_n 2 rfl dX2_averagePosition_45 ?_
          refine gn_iald (HW_p (hr.o12 (by omega))) (by omega) (by decide) dX2_averagePosition_46 ?_
          refine g_top (hr.acc (by omega) (by omega)) ?_
          refine g_iadd dX2_averagePosition_47 ?_
          refine g_istore_n (lv2 := [(3, _), (0, _), (1, _), (2, _), (4, _), (5, _)]) (by decide) rfl dX2_averagePosition_48 ?_
          refine gn_inc (lv2 := [(4, _), (3, _), (0, _), (1, _), (2, _), (5, _)]) 4 rfl (by decide) rfl dX2_averagePosition_49 ?_
          refine gn_inc (lv2 := [(5, _), (4, _), (3, _), (0, _), (1, _), (2, _)]) 5 rfl (by decide) rfl dX2_averagePosition_52 ?_
          refine g_goto (tgt := 8) (by decide) dX2_averagePosition_55 ?_
          refine G.sub [3, 4, 5, 2, 1, 0] rfl ?_
          (have h := ih8 (i8 + 1) (by omega); first | (rw [show sumA f fl v (i8 + 1) = sumA f fl v i8 + f (13 + 16 * i8 + 5 + v) from by simp [sumA, *], show cntA f fl (i8 + 1) = cntA f fl i8 + 1 from by simp [cntA, *]] at h; exact h) | (rw [show sumA f fl v (i8 + 1) = sumA f fl v i8 from by simp [sumA, nI_0, *], show cntA f fl (i8 + 1) = cntA f fl i8 from by simp [cntA, *]] at h; exact h))
  refine G.sub [3, 4, 5, 2, 1, 0] rfl ?_
  exact L8 _ 0 (Nat.zero_add _)
set_option maxRecDepth 100000 in
set_option maxHeartbeats 4000000 in
theorem c_X2_isFull_0 {Γ : Gm} {n : Nat} {hb : Nat} {F S : Hp} {R : Hr} {f : Nat → Int32} {c : Nat} {fl : Int32} (hr : Rp Γ S f c R)  : Ct Γ 1 MX2_isFullFor 0 0 [.ref hb, .int fl, .null] (HW Γ hb F R) n (Rt (some (.int (bi (4 ≤ cntOn f fl (-1) c)))) (HW Γ hb F R) n) X0 := by
  refine Ct.of (by decide +kernel) rfl (Nat.le_of_ble_eq_true rfl) ?_
  have hc12 := hr.2.1
  refine G.sub (lv2 := [(0, _), (1, _), (2, _)]) [0, 1, 2] rfl ?_
  refine gn_ic 0 (by decide) dX2_isFullFor_0 ?_
  refine g_istore_n (lv2 := [(3, _), (0, _), (1, _), (2, _)]) (by decide) rfl dX2_isFullFor_1 ?_
  refine gn_ic 0 (by decide) dX2_isFullFor_2 ?_
  refine g_istore (lv2 := [(4, _), (3, _), (0, _), (1, _), (2, _)]) (by decide) rfl dX2_isFullFor_3 ?_
  have L5 : ∀ (m5 i5 : Nat), i5 + m5 = c → G Γ 1 MX2_isFullFor (Rt (some (.int (bi (4 ≤ cntOn f fl (-1) c)))) (HW Γ hb F R) n) X0 5 [(0, .ref hb), (1, .int fl), (2, .null), (3, .int (nI (cntOn f fl (-1) i5))), (4, .int (nI i5))] [] (HW Γ hb F R) n 0 0 := by
    intro m5
    induction m5 with
    | zero =>
      intro i5 hi5
      have hk1 := nI_nm1' (show i5 < 2 ^ 31 by omega)
      refine g_iload 4 rfl dX2_isFullFor_5 ?_
      refine g_aload_n 0 rfl dX2_isFullFor_7 ?_
      refine g_get f_X2_50 HW_h rfl dX2_isFullFor_8 ?_
      refine g_top hr.cnt ?_
      refine gn_icmp_ge (by omega) (by omega) (tgt := 48) (by decide) dX2_isFullFor_11 (fun cc1 => ?_) (fun cc1 => ?_)
      · -- t 48
        obtain rfl : i5 = c := by omega
        have hle := cntOn_le f fl (-1) i5
        refine g_iload_n 3 rfl dX2_isFullFor_48 ?_
        refine gn_ic 4 (by decide) dX2_isFullFor_49 ?_
        refine gn_icmp_lt (by omega) (by omega) (tgt := 57) (by decide) dX2_isFullFor_50 (fun cc2 => ?_) (fun cc2 => ?_)
        · -- t 57
          refine gn_ic 0 (by decide) dX2_isFullFor_57 ?_
          exact g_iret ⟨by unfold bi; split <;> first | rfl | (exfalso; omega), rfl, rfl⟩ (by decide +kernel) rfl dX2_isFullFor_58
        · -- f 53
          refine gn_ic 1 (by decide) dX2_isFullFor_53 ?_
          refine g_goto (tgt := 58) (by decide) dX2_isFullFor_54 ?_
          exact g_iret ⟨by unfold bi; split <;> first | rfl | (exfalso; omega), rfl, rfl⟩ (by decide +kernel) rfl dX2_isFullFor_58
      · -- f 14
        exfalso; omega
    | succ m5 ih5 =>
      intro i5 hi5
      have hk1 := nI_nm1' (show i5 < 2 ^ 31 by omega)
      refine g_iload 4 rfl dX2_isFullFor_5 ?_
      refine g_aload_n 0 rfl dX2_isFullFor_7 ?_
      refine g_get f_X2_50 HW_h rfl dX2_isFullFor_8 ?_
      refine g_top hr.cnt ?_
      refine gn_icmp_ge (by omega) (by omega) (tgt := 48) (by decide) dX2_isFullFor_11 (fun cc3 => ?_) (fun cc3 => ?_)
      · -- t 48
        exfalso; omega
      · -- f 14
        refine g_aload_n 0 rfl dX2_isFullFor_14 ?_
        refine g_get f_X2_20 HW_h rfl dX2_isFullFor_15 ?_
        refine g_iload 4 rfl dX2_isFullFor_18 ?_
        refine h_aald (by omega) dX2_isFullFor_20 ?_
        refine g_aload_nN 2 rfl dX2_isFullFor_21 ?_
        refine g_acmp_eq (rx := some (hb + 6 + 3 * hO R i5)) (ry := none) (tgt := 42) (by decide) dX2_isFullFor_22 (fun h22 => ?_) (fun h22 => ?_)
        · -- t 42
          cases h22
        · -- f 25
          refine g_aload_n 0 rfl dX2_isFullFor_25 ?_
          refine g_get f_X2_20 HW_h rfl dX2_isFullFor_26 ?_
          refine g_iload 4 rfl dX2_isFullFor_29 ?_
          refine h_aald (by omega) dX2_isFullFor_31 ?_
          refine g_get f_X2_60 (HW_l (hr.o12 (by omega))) rfl dX2_isFullFor_32 ?_
          refine g_top (hr.flo (by omega)) ?_
          refine g_iload_n 1 rfl dX2_isFullFor_35 ?_
          refine g_icmp_ne (tgt := 42) (by decide) dX2_isFullFor_36 (fun cc4 => ?_) (fun cc4 => ?_)
          · -- t 42
            refine gn_inc (lv2 := [(4, _), (0, _), (1, _), (2, _), (3, _)]) 4 rfl (by decide) rfl dX2_isFullFor_42 ?_
            refine g_goto (tgt := 5) (by decide) dX2_isFullFor_45 ?_
            refine G.sub [1, 2, 3, 4, 0] rfl ?_
            (have h := ih5 (i5 + 1) (by omega); first | (rw [show cntOn f fl (-1) (i5 + 1) = cntOn f fl (-1) i5 + 1 from by simp [cntOn, *]] at h; exact h) | (rw [show cntOn f fl (-1) (i5 + 1) = cntOn f fl (-1) i5 from by simp [cntOn, *]] at h; exact h))
          · -- f 39
            refine gn_inc (lv2 := [(3, _), (0, _), (1, _), (2, _), (4, _)]) 3 rfl (by decide) rfl dX2_isFullFor_39 ?_
            refine gn_inc (lv2 := [(4, _), (3, _), (0, _), (1, _), (2, _)]) 4 rfl (by decide) rfl dX2_isFullFor_42 ?_
            refine g_goto (tgt := 5) (by decide) dX2_isFullFor_45 ?_
            refine G.sub [2, 3, 4, 1, 0] rfl ?_
            (have h := ih5 (i5 + 1) (by omega); first | (rw [show cntOn f fl (-1) (i5 + 1) = cntOn f fl (-1) i5 + 1 from by simp [cntOn, *]] at h; exact h) | (rw [show cntOn f fl (-1) (i5 + 1) = cntOn f fl (-1) i5 from by simp [cntOn, *]] at h; exact h))
  refine G.sub [2, 3, 4, 1, 0] rfl ?_
  exact L5 _ 0 (Nat.zero_add _)
set_option maxRecDepth 100000 in
set_option maxHeartbeats 4000000 in
theorem c_X2_isFull_k {Γ : Gm} {n : Nat} {hb : Nat} {F S : Hp} {R : Hr} {f : Nat → Int32} {c : Nat} {fl : Int32} {k : Nat} (hr : Rp Γ S f c R) (hk : k < c) : Ct Γ 1 MX2_isFullFor 0 0 [.ref hb, .int fl, .ref (hb + 6 + 3 * hO R k)] (HW Γ hb F R) n (Rt (some (.int (bi (4 ≤ cntOn f fl (nI k) c)))) (HW Γ hb F R) n) X0 := by
  refine Ct.of (by decide +kernel) rfl (Nat.le_of_ble_eq_true rfl) ?_
  have hc12 := hr.2.1
  refine G.sub (lv2 := [(0, _), (1, _), (2, _)]) [0, 1, 2] rfl ?_
  refine gn_ic 0 (by decide) dX2_isFullFor_0 ?_
  refine g_istore_n (lv2 := [(3, _), (0, _), (1, _), (2, _)]) (by decide) rfl dX2_isFullFor_1 ?_
  refine gn_ic 0 (by decide) dX2_isFullFor_2 ?_
  refine g_istore (lv2 := [(4, _), (3, _), (0, _), (1, _), (2, _)]) (by decide) rfl dX2_isFullFor_3 ?_
  have L5 : ∀ (m5 i5 : Nat), i5 + m5 = c → G Γ 1 MX2_isFullFor (Rt (some (.int (bi (4 ≤ cntOn f fl (nI k) c)))) (HW Γ hb F R) n) X0 5 [(0, .ref hb), (1, .int fl), (2, .ref (hb + 6 + 3 * hO R k)), (3, .int (nI (cntOn f fl (nI k) i5))), (4, .int (nI i5))] [] (HW Γ hb F R) n 0 0 := by
    intro m5
    induction m5 with
    | zero =>
      intro i5 hi5
      refine g_iload 4 rfl dX2_isFullFor_5 ?_
      refine g_aload_n 0 rfl dX2_isFullFor_7 ?_
      refine g_get f_X2_50 HW_h rfl dX2_isFullFor_8 ?_
      refine g_top hr.cnt ?_
      refine gn_icmp_ge (by omega) (by omega) (tgt := 48) (by decide) dX2_isFullFor_11 (fun cc1 => ?_) (fun cc1 => ?_)
      · -- t 48
        obtain rfl : i5 = c := by omega
        have hle := cntOn_le f fl (nI k) i5
        refine g_iload_n 3 rfl dX2_isFullFor_48 ?_
        refine gn_ic 4 (by decide) dX2_isFullFor_49 ?_
        refine gn_icmp_lt (by omega) (by omega) (tgt := 57) (by decide) dX2_isFullFor_50 (fun cc2 => ?_) (fun cc2 => ?_)
        · -- t 57
          refine gn_ic 0 (by decide) dX2_isFullFor_57 ?_
          exact g_iret ⟨by unfold bi; split <;> first | rfl | (exfalso; omega), rfl, rfl⟩ (by decide +kernel) rfl dX2_isFullFor_58
        · -- f 53
          refine gn_ic 1 (by decide) dX2_isFullFor_53 ?_
          refine g_goto (tgt := 58) (by decide) dX2_isFullFor_54 ?_
          exact g_iret ⟨by unfold bi; split <;> first | rfl | (exfalso; omega), rfl, rfl⟩ (by decide +kernel) rfl dX2_isFullFor_58
      · -- f 14
        exfalso; omega
    | succ m5 ih5 =>
      intro i5 hi5
      refine g_iload 4 rfl dX2_isFullFor_5 ?_
      refine g_aload_n 0 rfl dX2_isFullFor_7 ?_
      refine g_get f_X2_50 HW_h rfl dX2_isFullFor_8 ?_
      refine g_top hr.cnt ?_
      refine gn_icmp_ge (by omega) (by omega) (tgt := 48) (by decide) dX2_isFullFor_11 (fun cc3 => ?_) (fun cc3 => ?_)
      · -- t 48
        exfalso; omega
      · -- f 14
        refine g_aload_n 0 rfl dX2_isFullFor_14 ?_
        refine g_get f_X2_20 HW_h rfl dX2_isFullFor_15 ?_
        refine g_iload 4 rfl dX2_isFullFor_18 ?_
        refine h_aald (by omega) dX2_isFullFor_20 ?_
        refine g_aload_n 2 rfl dX2_isFullFor_21 ?_
        refine g_acmp_eq (rx := some (hb + 6 + 3 * hO R i5)) (ry := some (hb + 6 + 3 * hO R k)) (tgt := 42) (by decide) dX2_isFullFor_22 (fun h22 => ?_) (fun h22 => ?_)
        · -- t 42
          have hk1 : nI i5 = nI k := by rw [hr.1.2 i5 k (by omega) (by omega) (by have := Option.some.inj h22; omega)]
          refine gn_inc (lv2 := [(4, _), (0, _), (1, _), (2, _), (3, _)]) 4 rfl (by decide) rfl dX2_isFullFor_42 ?_
          refine g_goto (tgt := 5) (by decide) dX2_isFullFor_45 ?_
          refine G.sub [1, 2, 3, 4, 0] rfl ?_
          (have h := ih5 (i5 + 1) (by omega); first | (rw [show cntOn f fl (nI k) (i5 + 1) = cntOn f fl (nI k) i5 + 1 from by simp [cntOn, *]] at h; exact h) | (rw [show cntOn f fl (nI k) (i5 + 1) = cntOn f fl (nI k) i5 from by simp [cntOn, *]] at h; exact h))
        · -- f 25
          have hk1 : ¬ nI i5 = nI k := fun z => h22 (by rw [(nI_eq (by omega) (by omega)).mp z])
          refine g_aload_n 0 rfl dX2_isFullFor_25 ?_
          refine g_get f_X2_20 HW_h rfl dX2_isFullFor_26 ?_
          refine g_iload 4 rfl dX2_isFullFor_29 ?_
          refine h_aald (by omega) dX2_isFullFor_31 ?_
          refine g_get f_X2_60 (HW_l (hr.o12 (by omega))) rfl dX2_isFullFor_32 ?_
          refine g_top (hr.flo (by omega)) ?_
          refine g_iload_n 1 rfl dX2_isFullFor_35 ?_
          refine g_icmp_ne (tgt := 42) (by decide) dX2_isFullFor_36 (fun cc4 => ?_) (fun cc4 => ?_)
          · -- t 42
            refine gn_inc (lv2 := [(4, _), (0, _), (1, _), (2, _), (3, _)]) 4 rfl (by decide) rfl dX2_isFullFor_42 ?_
            refine g_goto (tgt := 5) (by decide) dX2_isFullFor_45 ?_
            refine G.sub [1, 2, 3, 4, 0] rfl ?_
            (have h := ih5 (i5 + 1) (by omega); first | (rw [show cntOn f fl (nI k) (i5 + 1) = cntOn f fl (nI k) i5 + 1 from by simp [cntOn, *]] at h; exact h) | (rw [show cntOn f fl (nI k) (i5 + 1) = cntOn f fl (nI k) i5 from by simp [cntOn, *]] at h; exact h))
          · -- f 39
            refine gn_inc (lv2 := [(3, _), (0, _), (1, _), (2, _), (4, _)]) 3 rfl (by decide) rfl dX2_isFullFor_39 ?_
            refine gn_inc (lv2 := [(4, _), (3, _), (0, _), (1, _), (2, _)]) 4 rfl (by decide) rfl dX2_isFullFor_42 ?_
            refine g_goto (tgt := 5) (by decide) dX2_isFullFor_45 ?_
            refine G.sub [2, 3, 4, 1, 0] rfl ?_
            (have h := ih5 (i5 + 1) (by omega); first | (rw [show cntOn f fl (nI k) (i5 + 1) = cntOn f fl (nI k) i5 + 1 from by simp [cntOn, *]] at h; exact h) | (rw [show cntOn f fl (nI k) (i5 + 1) = cntOn f fl (nI k) i5 from by simp [cntOn, *]] at h; exact h))
  refine G.sub [2, 3, 4, 1, 0] rfl ?_
  exact L5 _ 0 (Nat.zero_add _)
set_option maxRecDepth 100000 in
set_option maxHeartbeats 4000000 in
theorem c_X2_numberAt_k {Γ : Gm} {n : Nat} {hb : Nat} {F S : Hp} {R : Hr} {f : Nat → Int32} {c : Nat} {fl : Int32} {p : Nat} (hr : Rp Γ S f c R) (hp : p < 2 ^ 31) : Ct Γ 1 MX2_numberAt 0 0 [.ref hb, .int fl, .int (nI p)] (HW Γ hb F R) n (Rt (some (.int (oI (plF f fl c 0 p)))) (HW Γ hb F R) n) X0 := by
  refine Ct.of (by decide +kernel) rfl (Nat.le_of_ble_eq_true rfl) ?_
  have hc12 := hr.2.1
  refine G.sub (lv2 := [(0, _), (1, _), (2, _)]) [0, 1, 2] rfl ?_
  refine gn_ic 0 (by decide) dX2_numberAt_0 ?_
  refine g_istore_n (lv2 := [(3, _), (0, _), (1, _), (2, _)]) (by decide) rfl dX2_numberAt_1 ?_
  refine gn_ic 0 (by decide) dX2_numberAt_2 ?_
  refine g_istore (lv2 := [(4, _), (3, _), (0, _), (1, _), (2, _)]) (by decide) rfl dX2_numberAt_3 ?_
  have L5 : ∀ (m5 : Nat) (i q : Nat), (i + m5 = c) → (q ≤ i) → (q ≤ p) → (plF f fl c 0 p = plF f fl m5 i (p - q)) → G Γ 1 MX2_numberAt (Rt (some (.int (oI (plF f fl c 0 p)))) (HW Γ hb F R) n) X0 5 [(0, .ref hb), (1, .int fl), (2, .int (nI p)), (3, .int (nI q)), (4, .int (nI i))] [] (HW Γ hb F R) n 0 0 := by
    intro m5
    induction m5 with
    | zero =>
      intro i q hi hqc hq hpl
      refine g_iload 4 rfl dX2_numberAt_5 ?_
      refine g_aload_n 0 rfl dX2_numberAt_7 ?_
      refine g_get f_X2_50 HW_h rfl dX2_numberAt_8 ?_
      refine g_top hr.cnt ?_
      refine gn_icmp_ge (by omega) (by omega) (tgt := 45) (by decide) dX2_numberAt_11 (fun h10 => ?_) (fun h10 => ?_)
      · -- t 45
        refine g_iconst (v := -1) dX2_numberAt_45 (by decide) ?_
        exact g_iret ⟨by rw [hpl]; rfl, rfl, rfl⟩ rfl rfl dX2_numberAt_46
      · -- f 14
        exfalso; omega
    | succ m5 ih5 =>
      intro i q hi hqc hq hpl
      refine g_iload 4 rfl dX2_numberAt_5 ?_
      refine g_aload_n 0 rfl dX2_numberAt_7 ?_
      refine g_get f_X2_50 HW_h rfl dX2_numberAt_8 ?_
      refine g_top hr.cnt ?_
      refine gn_icmp_ge (by omega) (by omega) (tgt := 45) (by decide) dX2_numberAt_11 (fun h10 => ?_) (fun h10 => ?_)
      · -- t 45
        exfalso; omega
      · -- f 14
        refine g_aload_n 0 rfl dX2_numberAt_14 ?_
        refine g_get f_X2_20 HW_h rfl dX2_numberAt_15 ?_
        refine g_iload 4 rfl dX2_numberAt_18 ?_
        refine h_aald (by omega) dX2_numberAt_20 ?_
        refine g_get f_X2_60 (HW_l (hr.o12 (by omega))) rfl dX2_numberAt_21 ?_
        refine g_top (hr.flo (by omega)) ?_
        refine g_iload_n 1 rfl dX2_numberAt_24 ?_
        refine g_icmp_ne (tgt := 39) (by decide) dX2_numberAt_25 (fun h25 => ?_) (fun h25 => ?_)
        · -- t 39
          refine gn_inc (lv2 := [(4, _), (0, _), (1, _), (2, _), (3, _)]) 4 rfl (by decide) rfl dX2_numberAt_39 ?_
          refine g_goto (tgt := 5) (by decide) dX2_numberAt_42 ?_
          refine G.sub [1, 2, 3, 4, 0] rfl ?_
          exact ih5 (i + 1) q (by omega) (by omega) hq (by rw [hpl, plF_n h25])
        · -- f 28
          refine g_iload_n 3 rfl dX2_numberAt_28 ?_
          refine g_iload_n 2 rfl dX2_numberAt_29 ?_
          refine gn_icmp_ne (by omega) (by omega) (tgt := 36) (by decide) dX2_numberAt_30 (fun h30 => ?_) (fun h30 => ?_)
          · -- t 36
            refine gn_inc (lv2 := [(3, _), (0, _), (1, _), (2, _), (4, _)]) 3 rfl (by decide) rfl dX2_numberAt_36 ?_
            refine gn_inc (lv2 := [(4, _), (3, _), (0, _), (1, _), (2, _)]) 4 rfl (by decide) rfl dX2_numberAt_39 ?_
            refine g_goto (tgt := 5) (by decide) dX2_numberAt_42 ?_
            refine G.sub [2, 3, 4, 1, 0] rfl ?_
            exact ih5 (i + 1) (q + 1) (by omega) (by omega) (by omega) (by rw [hpl, plF_1 h25 (by omega), Nat.sub_sub])
          · -- f 33
            have hpl2 : plF f fl c 0 p = some i := by rw [hpl, plF_0 h25 (by omega)]
            refine g_iload 4 rfl dX2_numberAt_33 ?_
            exact g_iret ⟨by rw [hpl2]; rfl, rfl, rfl⟩ rfl rfl dX2_numberAt_35
  refine G.sub [2, 3, 4, 1, 0] rfl ?_
  exact L5 c 0 0 (Nat.zero_add _) (Nat.le_refl _) (Nat.zero_le _) rfl
set_option maxRecDepth 100000 in
set_option maxHeartbeats 4000000 in
theorem c_X2_numberAt_n {Γ : Gm} {n : Nat} {hb : Nat} {F S : Hp} {R : Hr} {f : Nat → Int32} {c : Nat} {fl y : Int32} (hr : Rp Γ S f c R) (hy : y < 0) : Ct Γ 1 MX2_numberAt 0 0 [.ref hb, .int fl, .int y] (HW Γ hb F R) n (Rt (some (.int (-1))) (HW Γ hb F R) n) X0 := by
  refine Ct.of (by decide +kernel) rfl (Nat.le_of_ble_eq_true rfl) ?_
  have hc12 := hr.2.1
  refine G.sub (lv2 := [(0, _), (1, _), (2, _)]) [0, 1, 2] rfl ?_
  refine gn_ic 0 (by decide) dX2_numberAt_0 ?_
  refine g_istore_n (lv2 := [(3, _), (0, _), (1, _), (2, _)]) (by decide) rfl dX2_numberAt_1 ?_
  refine gn_ic 0 (by decide) dX2_numberAt_2 ?_
  refine g_istore (lv2 := [(4, _), (3, _), (0, _), (1, _), (2, _)]) (by decide) rfl dX2_numberAt_3 ?_
  have L5 : ∀ (m5 : Nat) (i q : Nat), (i + m5 = c) → (q ≤ i) → G Γ 1 MX2_numberAt (Rt (some (.int (-1))) (HW Γ hb F R) n) X0 5 [(0, .ref hb), (1, .int fl), (2, .int y), (3, .int (nI q)), (4, .int (nI i))] [] (HW Γ hb F R) n 0 0 := by
    intro m5
    induction m5 with
    | zero =>
      intro i q hi hqc
      refine g_iload 4 rfl dX2_numberAt_5 ?_
      refine g_aload_n 0 rfl dX2_numberAt_7 ?_
      refine g_get f_X2_50 HW_h rfl dX2_numberAt_8 ?_
      refine g_top hr.cnt ?_
      refine gn_icmp_ge (by omega) (by omega) (tgt := 45) (by decide) dX2_numberAt_11 (fun h10 => ?_) (fun h10 => ?_)
      · -- t 45
        refine g_iconst (v := -1) dX2_numberAt_45 (by decide) ?_
        exact g_iret ⟨rfl, rfl, rfl⟩ rfl rfl dX2_numberAt_46
      · -- f 14
        exfalso; omega
    | succ m5 ih5 =>
      intro i q hi hqc
      refine g_iload 4 rfl dX2_numberAt_5 ?_
      refine g_aload_n 0 rfl dX2_numberAt_7 ?_
      refine g_get f_X2_50 HW_h rfl dX2_numberAt_8 ?_
      refine g_top hr.cnt ?_
      refine gn_icmp_ge (by omega) (by omega) (tgt := 45) (by decide) dX2_numberAt_11 (fun h10 => ?_) (fun h10 => ?_)
      · -- t 45
        exfalso; omega
      · -- f 14
        refine g_aload_n 0 rfl dX2_numberAt_14 ?_
        refine g_get f_X2_20 HW_h rfl dX2_numberAt_15 ?_
        refine g_iload 4 rfl dX2_numberAt_18 ?_
        refine h_aald (by omega) dX2_numberAt_20 ?_
        refine g_get f_X2_60 (HW_l (hr.o12 (by omega))) rfl dX2_numberAt_21 ?_
        refine g_top (hr.flo (by omega)) ?_
        refine g_iload_n 1 rfl dX2_numberAt_24 ?_
        refine g_icmp_ne (tgt := 39) (by decide) dX2_numberAt_25 (fun h25 => ?_) (fun h25 => ?_)
        · -- t 39
          refine gn_inc (lv2 := [(4, _), (0, _), (1, _), (2, _), (3, _)]) 4 rfl (by decide) rfl dX2_numberAt_39 ?_
          refine g_goto (tgt := 5) (by decide) dX2_numberAt_42 ?_
          refine G.sub [1, 2, 3, 4, 0] rfl ?_
          exact ih5 (i + 1) q (by omega) (by omega)
        · -- f 28
          refine g_iload_n 3 rfl dX2_numberAt_28 ?_
          refine g_iload_n 2 rfl dX2_numberAt_29 ?_
          refine g_icmp_ne (tgt := 36) (by decide) dX2_numberAt_30 (fun h30 => ?_) (fun h30 => ?_)
          · -- t 36
            refine gn_inc (lv2 := [(3, _), (0, _), (1, _), (2, _), (4, _)]) 3 rfl (by decide) rfl dX2_numberAt_36 ?_
            refine gn_inc (lv2 := [(4, _), (3, _), (0, _), (1, _), (2, _)]) 4 rfl (by decide) rfl dX2_numberAt_39 ?_
            refine g_goto (tgt := 5) (by decide) dX2_numberAt_42 ?_
            refine G.sub [2, 3, 4, 1, 0] rfl ?_
            exact ih5 (i + 1) (q + 1) (by omega) (by omega)
          · -- f 33
            exact absurd (h30 ▸ hy) (nI_pos (by omega))
  refine G.sub [2, 3, 4, 1, 0] rfl ?_
  exact L5 c 0 0 (Nat.zero_add _) (Nat.le_refl _)
set_option maxRecDepth 100000 in
set_option maxHeartbeats 4000000 in
theorem c_X2_mustLeave {Γ : Gm} {n : Nat} {hb : Nat} {F S : Hp} {R : Hr} {f : Nat → Int32} {c : Nat} {k : Nat} (hr : Rp Γ S f c R) (hk : k < c) : Ct Γ 3 MX2_mustLeave 0 0 [.ref hb, .ref (hb + 6 + 3 * hO R k)] (HW Γ hb F R) n (Rt (some (.int (bi (MustB f k = true)))) (HW Γ hb F R) n) X0 := by
  refine Ct.of (by decide +kernel) rfl (Nat.le_of_ble_eq_true rfl) ?_
  have hc12 := hr.2.1
  refine G.sub (lv2 := [(0, _), (1, _)]) [0, 1] rfl ?_
  refine g_aload_n 1 rfl dX2_mustLeave_0 ?_
  refine g_get f_X2_104 (HW_l (hr.o12 (by omega))) rfl dX2_mustLeave_1 ?_
  refine g_top (hr.row (i := 1) (by omega) (by decide)) ?_
  refine g_if_ge (tgt := 43) (by decide) dX2_mustLeave_4 (fun h4 => ?_) (fun h4 => ?_)
  · -- t 43
    refine gn_ic 0 (by decide) dX2_mustLeave_43 ?_
    exact g_iret ⟨by rw [bi_f (fun z => h4 |> fun h => absurd (must_t.mp z).1 (Int32.not_lt.mpr h))], rfl, rfl⟩ (by decide +kernel) rfl dX2_mustLeave_44
  · -- f 7
    refine g_aload_n 1 rfl dX2_mustLeave_7 ?_
    refine g_get f_X2_93 (HW_l (hr.o12 (by omega))) rfl dX2_mustLeave_8 ?_
    refine g_aload_n 0 rfl dX2_mustLeave_11 ?_
    refine g_get f_X2_12 HW_h rfl dX2_mustLeave_12 ?_
    refine gv_V (c_X0_distanceTo (HW_a (hr.o12 hk)) (HW_p (hr.o12 hk)) HW_1 HW_2) l_X2_107 rfl (Rcv.of (HW_a (hr.o12 (by omega))) rfl) (Nat.le_of_ble_eq_true rfl) (Nat.le_of_ble_eq_true rfl) rfl dX2_mustLeave_15 ?_
    refine g_top (y := dst (rw5 f k) (la5 f) 5) (hr.ds1 hk) ?_
    refine g_aload_n 0 rfl dX2_mustLeave_18 ?_
    refine g_get f_X2_35 HW_h rfl dX2_mustLeave_19 ?_
    refine g_top (hr.d (j := 1) (by decide) (by decide)) ?_
    refine g_icmp_le (tgt := 43) (by decide) dX2_mustLeave_22 (fun h22 => ?_) (fun h22 => ?_)
    · -- t 43
      refine gn_ic 0 (by decide) dX2_mustLeave_43 ?_
      exact g_iret ⟨by rw [bi_f (fun z => absurd (must_t.mp z).2.1 (Int32.not_lt.mpr h22))], rfl, rfl⟩ (by decide +kernel) rfl dX2_mustLeave_44
    · -- f 25
      refine g_aload_n 1 rfl dX2_mustLeave_25 ?_
      refine g_get f_X2_93 (HW_l (hr.o12 (by omega))) rfl dX2_mustLeave_26 ?_
      refine g_aload_n 0 rfl dX2_mustLeave_29 ?_
      refine g_get f_X2_12 HW_h rfl dX2_mustLeave_30 ?_
      refine gv_V (c_X0_rhymesWith (HW_a (hr.o12 hk)) (HW_p (hr.o12 hk)) HW_1 HW_2) l_X2_111 rfl (Rcv.of (HW_a (hr.o12 (by omega))) rfl) (Nat.le_of_ble_eq_true rfl) (Nat.le_of_ble_eq_true rfl) rfl dX2_mustLeave_33 ?_
      refine g_top (y := bi (dif (rw5 f k) (la5 f) 5 ≤ 1)) (by rw [hr.di1 hk]) ?_
      refine g_if_ne (tgt := 43) (by decide) dX2_mustLeave_36 (fun h36 => ?_) (fun h36 => ?_)
      · -- t 43
        refine gn_ic 0 (by decide) dX2_mustLeave_43 ?_
        exact g_iret ⟨by rw [bi_f (fun z => (must_t.mp z).2.2 (bi_n0 h36))], rfl, rfl⟩ (by decide +kernel) rfl dX2_mustLeave_44
      · -- f 39
        refine gn_ic 1 (by decide) dX2_mustLeave_39 ?_
        refine g_goto (tgt := 44) (by decide) dX2_mustLeave_40 ?_
        exact g_iret ⟨by rw [bi_t (must_t.mpr ⟨Int32.not_le.mp h4, Int32.not_le.mp h22, bi_0 h36⟩)], rfl, rfl⟩ (by decide +kernel) rfl dX2_mustLeave_44
set_option maxRecDepth 100000 in
set_option maxHeartbeats 4000000 in
theorem c_X2_houses_y {Γ : Gm} {n : Nat} {hb : Nat} {F S : Hp} {R : Hr} {f : Nat → Int32} {c : Nat} {o k : Nat} (hr : Rp Γ S f c R) (hk : k < c) (ho : hO R k = o) : Ct Γ 1 MX2_houses 0 0 [.ref hb, .ref (hb + 6 + 3 * o)] (HW Γ hb F R) n (Rt (some (.int (nI 1))) (HW Γ hb F R) n) X0 := by
  refine Ct.of (by decide +kernel) rfl (Nat.le_of_ble_eq_true rfl) ?_
  have hc12 := hr.2.1
  refine G.sub (lv2 := [(0, _), (1, _)]) [0, 1] rfl ?_
  refine gn_ic 0 (by decide) dX2_houses_0 ?_
  refine g_istore_n (lv2 := [(2, _), (0, _), (1, _)]) (by decide) rfl dX2_houses_1 ?_
  have L2 : ∀ (m2 : Nat) (i : Nat), (i + m2 = c) → (i ≤ k) → G Γ 1 MX2_houses (Rt (some (.int (nI 1))) (HW Γ hb F R) n) X0 2 [(0, .ref hb), (1, .ref (hb + 6 + 3 * o)), (2, .int (nI i))] [] (HW Γ hb F R) n 0 0 := by
    intro m2
    induction m2 with
    | zero =>
      intro i hi hik
      refine g_iload_n 2 rfl dX2_houses_2 ?_
      refine g_aload_n 0 rfl dX2_houses_3 ?_
      refine g_get f_X2_50 HW_h rfl dX2_houses_4 ?_
      refine g_top hr.cnt ?_
      refine gn_icmp_ge (by omega) (by omega) (tgt := 28) (by decide) dX2_houses_7 (fun h7 => ?_) (fun h7 => ?_)
      · -- t 28
        exfalso; omega
      · -- f 10
        exfalso; omega
    | succ m2 ih2 =>
      intro i hi hik
      refine g_iload_n 2 rfl dX2_houses_2 ?_
      refine g_aload_n 0 rfl dX2_houses_3 ?_
      refine g_get f_X2_50 HW_h rfl dX2_houses_4 ?_
      refine g_top hr.cnt ?_
      refine gn_icmp_ge (by omega) (by omega) (tgt := 28) (by decide) dX2_houses_7 (fun h7 => ?_) (fun h7 => ?_)
      · -- t 28
        exfalso; omega
      · -- f 10
        refine g_aload_n 0 rfl dX2_houses_10 ?_
        refine g_get f_X2_20 HW_h rfl dX2_houses_11 ?_
        refine g_iload_n 2 rfl dX2_houses_14 ?_
        refine h_aald (by omega) dX2_houses_15 ?_
        refine g_aload_n 1 rfl dX2_houses_16 ?_
        refine g_acmp_ne (rx := some (hb + 6 + 3 * hO R i)) (ry := some (hb + 6 + 3 * o)) (tgt := 22) (by decide) dX2_houses_17 (fun h17 => ?_) (fun h17 => ?_)
        · -- t 22
          refine gn_inc (lv2 := [(2, _), (0, _), (1, _)]) 2 rfl (by decide) rfl dX2_houses_22 ?_
          refine g_goto (tgt := 2) (by decide) dX2_houses_25 ?_
          refine G.sub [1, 2, 0] rfl ?_
          exact ih2 (i + 1) (by omega) (by have : i ≠ k := (fun z => h17 (by rw [z, ho])); omega)
        · -- f 20
          refine gn_ic 1 (by decide) dX2_houses_20 ?_
          exact g_iret ⟨rfl, rfl, rfl⟩ (by decide +kernel) rfl dX2_houses_21
  refine G.sub [1, 2, 0] rfl ?_
  exact L2 c 0 (Nat.zero_add _) (Nat.zero_le _)
set_option maxRecDepth 100000 in
set_option maxHeartbeats 4000000 in
theorem c_X2_houses_n {Γ : Gm} {n : Nat} {hb : Nat} {F S : Hp} {R : Hr} {f : Nat → Int32} {c : Nat} {o : Nat} (hr : Rp Γ S f c R) (ho : ∀ k, k < c → hO R k ≠ o) : Ct Γ 1 MX2_houses 0 0 [.ref hb, .ref (hb + 6 + 3 * o)] (HW Γ hb F R) n (Rt (some (.int (nI 0))) (HW Γ hb F R) n) X0 := by
  refine Ct.of (by decide +kernel) rfl (Nat.le_of_ble_eq_true rfl) ?_
  have hc12 := hr.2.1
  refine G.sub (lv2 := [(0, _), (1, _)]) [0, 1] rfl ?_
  refine gn_ic 0 (by decide) dX2_houses_0 ?_
  refine g_istore_n (lv2 := [(2, _), (0, _), (1, _)]) (by decide) rfl dX2_houses_1 ?_
  have L2 : ∀ (m2 : Nat) (i : Nat), (i + m2 = c) → G Γ 1 MX2_houses (Rt (some (.int (nI 0))) (HW Γ hb F R) n) X0 2 [(0, .ref hb), (1, .ref (hb + 6 + 3 * o)), (2, .int (nI i))] [] (HW Γ hb F R) n 0 0 := by
    intro m2
    induction m2 with
    | zero =>
      intro i hi
      refine g_iload_n 2 rfl dX2_houses_2 ?_
      refine g_aload_n 0 rfl dX2_houses_3 ?_
      refine g_get f_X2_50 HW_h rfl dX2_houses_4 ?_
      refine g_top hr.cnt ?_
      refine gn_icmp_ge (by omega) (by omega) (tgt := 28) (by decide) dX2_houses_7 (fun h7 => ?_) (fun h7 => ?_)
      · -- t 28
        refine gn_ic 0 (by decide) dX2_houses_28 ?_
        exact g_iret ⟨rfl, rfl, rfl⟩ (by decide +kernel) rfl dX2_houses_29
      · -- f 10
        exfalso; omega
    | succ m2 ih2 =>
      intro i hi
      refine g_iload_n 2 rfl dX2_houses_2 ?_
      refine g_aload_n 0 rfl dX2_houses_3 ?_
      refine g_get f_X2_50 HW_h rfl dX2_houses_4 ?_
      refine g_top hr.cnt ?_
      refine gn_icmp_ge (by omega) (by omega) (tgt := 28) (by decide) dX2_houses_7 (fun h7 => ?_) (fun h7 => ?_)
      · -- t 28
        exfalso; omega
      · -- f 10
        refine g_aload_n 0 rfl dX2_houses_10 ?_
        refine g_get f_X2_20 HW_h rfl dX2_houses_11 ?_
        refine g_iload_n 2 rfl dX2_houses_14 ?_
        refine h_aald (by omega) dX2_houses_15 ?_
        refine g_aload_n 1 rfl dX2_houses_16 ?_
        refine g_acmp_ne (rx := some (hb + 6 + 3 * hO R i)) (ry := some (hb + 6 + 3 * o)) (tgt := 22) (by decide) dX2_houses_17 (fun h17 => ?_) (fun h17 => ?_)
        · -- t 22
          refine gn_inc (lv2 := [(2, _), (0, _), (1, _)]) 2 rfl (by decide) rfl dX2_houses_22 ?_
          refine g_goto (tgt := 2) (by decide) dX2_houses_25 ?_
          refine G.sub [1, 2, 0] rfl ?_
          exact ih2 (i + 1) (by omega)
        · -- f 20
          exact absurd (show hO R i = o by have := Option.some.inj h17; omega) (ho i (by omega))
  refine G.sub [1, 2, 0] rfl ?_
  exact L2 c 0 (Nat.zero_add _)
end GJ6
