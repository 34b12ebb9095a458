section GJ7
set_option maxRecDepth 100000 in
set_option maxHeartbeats 4000000 in
theorem c_X2_computeAverage {Γ : Gm} {n : Nat} {hb : Nat} {F S : Hp} {R : Hr} {f : Nat → Int32} {c : Nat} {fl : Int32} (hr : Rp Γ S f c R)  : Ct Γ 2 MX2_computeAverage 0 0 [.ref hb, .int fl] (HW Γ hb F R) n (fun v E2 n2 => v = none ∧ n2 = n ∧ ∃ y, E2 = HW Γ hb F (sV R y) ∧ ∀ v, v < 5 → y v = avgF f fl v c) X0 := by
  refine Ct.of (by decide +kernel) rfl (Nat.le_of_ble_eq_true rfl) ?_
  have hc12 := hr.2.1
  refine G.sub (lv2 := [(0, _), (1, _)]) [0, 1] rfl ?_
  refine gn_ic 0 (by decide) dX2_computeAverage_0 ?_
  refine g_istore_n (lv2 := [(2, _), (0, _), (1, _)]) (by decide) rfl dX2_computeAverage_1 ?_
  have L2 : ∀ (m2 : Nat) (i : Nat) (y : Nat → Int32), (i + m2 = 5) → (∀ v, v < i → y v = avgF f fl v c) → G Γ 2 MX2_computeAverage (fun v E2 n2 => v = none ∧ n2 = n ∧ ∃ y, E2 = HW Γ hb F (sV R y) ∧ ∀ v, v < 5 → y v = avgF f fl v c) X0 2 [(0, .ref hb), (1, .int fl), (2, .int (nI i))] [] (HW Γ hb F (sV R y)) n 0 0 := by
    intro m2
    induction m2 with
    | zero =>
      intro i y hi hy
      refine g_iload_n 2 rfl dX2_computeAverage_2 ?_
      refine gn_ic 5 (by decide) dX2_computeAverage_3 ?_
      refine gn_icmp_ge (by omega) (by omega) (tgt := 28) (by decide) dX2_computeAverage_4 (fun h4 => ?_) (fun h4 => ?_)
      · -- t 28
        exact g_vret ⟨rfl, rfl, y, rfl, fun v hv => hy v (by omega)⟩ rfl dX2_computeAverage_28
      · -- f 7
        exfalso; omega
    | succ m2 ih2 =>
      intro i y hi hy
      refine g_iload_n 2 rfl dX2_computeAverage_2 ?_
      refine gn_ic 5 (by decide) dX2_computeAverage_3 ?_
      refine gn_icmp_ge (by omega) (by omega) (tgt := 28) (by decide) dX2_computeAverage_4 (fun h4 => ?_) (fun h4 => ?_)
      · -- t 28
        exfalso; omega
      · -- f 7
        refine g_aload_n 0 rfl dX2_computeAverage_7 ?_
        refine g_get f_X2_24 HW_h rfl dX2_computeAverage_8 ?_
        refine g_get f_X2_96 HW_4 rfl dX2_computeAverage_11 ?_
        refine g_iload_n 2 rfl dX2_computeAverage_14 ?_
        refine g_aload_n 0 rfl dX2_computeAverage_15 ?_
        refine g_iload_n 1 rfl dX2_computeAverage_16 ?_
        refine g_iload_n 2 rfl dX2_computeAverage_17 ?_
        refine gv_V (c_X2_averagePosition hr.sV (by omega)) l_X2_100 rfl (Rcv.of HW_h rfl) (Nat.le_of_ble_eq_true rfl) (Nat.le_of_ble_eq_true rfl) rfl dX2_computeAverage_18 ?_
        refine gn_iast HW_5 (by omega) (by decide) HW_sV dX2_computeAverage_21 ?_
        refine gn_inc (lv2 := [(2, _), (0, _), (1, _)]) 2 rfl (by decide) rfl dX2_computeAverage_22 ?_
        refine g_goto (tgt := 2) (by decide) dX2_computeAverage_25 ?_
        refine G.sub [1, 2, 0] rfl ?_
        exact ih2 (i + 1) (upd y i (avgF f fl i c)) (by omega) (fun v hv => by unfold upd; split; (rename_i e; rw [e]); exact hy v (by omega))
  refine G.sub [1, 2, 0] rfl ?_
  exact L2 5 0 (hV R) rfl (fun v hv => absurd hv (Nat.not_lt_zero v))
set_option maxRecDepth 100000 in
set_option maxHeartbeats 4000000 in
theorem c_X2_collectRent {Γ : Gm} {n : Nat} {hb : Nat} {F S : Hp} {R : Hr} {f : Nat → Int32} {c : Nat}  (hr : Rp Γ S f c R)  : Ct Γ 2 MX2_collectRent 0 0 [.ref hb] (HW Γ hb F R) n (HPo Γ hb F n (none) (fun R2 => Rp Γ S (chgN f c) c R2 ∧ hO R2 = hO R)) X0 := by
  refine Ct.of (by decide +kernel) rfl (Nat.le_of_ble_eq_true rfl) ?_
  have hc12 := hr.2.1
  refine G.sub (lv2 := [(0, _)]) [0] rfl ?_
  refine gn_ic 0 (by decide) dX2_collectRent_0 ?_
  refine g_istore_n (lv2 := [(1, _), (0, _)]) (by decide) rfl dX2_collectRent_1 ?_
  have L2 : ∀ (m2 : Nat) (i : Nat) (R1 : Hr), (i + m2 = c) → (Rp Γ S (chgN f i) c R1) → (hO R1 = hO R) → G Γ 2 MX2_collectRent (HPo Γ hb F n (none) (fun R2 => Rp Γ S (chgN f c) c R2 ∧ hO R2 = hO R)) X0 2 [(0, .ref hb), (1, .int (nI i))] [] (HW Γ hb F R1) n 0 0 := by
    intro m2
    induction m2 with
    | zero =>
      intro i R1 hi hrl hord
      refine g_iload_n 1 rfl dX2_collectRent_2 ?_
      refine g_aload_n 0 rfl dX2_collectRent_3 ?_
      refine g_get f_X2_50 HW_h rfl dX2_collectRent_4 ?_
      refine g_top hrl.cnt ?_
      refine gn_icmp_ge (by omega) (by omega) (tgt := 55) (by decide) dX2_collectRent_7 (fun h7 => ?_) (fun h7 => ?_)
      · -- t 55
        obtain rfl : i = c := by omega
        exact g_vret ⟨rfl, rfl, R1, rfl, hrl, hord⟩ rfl dX2_collectRent_55
      · -- f 10
        exfalso; omega
    | succ m2 ih2 =>
      intro i R1 hi hrl hord
      refine g_iload_n 1 rfl dX2_collectRent_2 ?_
      refine g_aload_n 0 rfl dX2_collectRent_3 ?_
      refine g_get f_X2_50 HW_h rfl dX2_collectRent_4 ?_
      refine g_top hrl.cnt ?_
      refine gn_icmp_ge (by omega) (by omega) (tgt := 55) (by decide) dX2_collectRent_7 (fun h7 => ?_) (fun h7 => ?_)
      · -- t 55
        exfalso; omega
      · -- f 10
        refine g_aload_n 0 rfl dX2_collectRent_10 ?_
        refine g_aload_n 0 rfl dX2_collectRent_11 ?_
        refine g_get f_X2_20 HW_h rfl dX2_collectRent_12 ?_
        refine g_iload_n 1 rfl dX2_collectRent_15 ?_
        refine h_aald (by omega) dX2_collectRent_16 ?_
        refine g_get f_X2_60 (HW_l (hrl.o12 (by omega))) rfl dX2_collectRent_17 ?_
        refine g_top (hrl.flo (by omega)) ?_
        refine gv_V (c_X2_dailyRent hrl) l_X2_140 rfl (Rcv.of HW_h rfl) (Nat.le_of_ble_eq_true rfl) (Nat.le_of_ble_eq_true rfl) rfl dX2_collectRent_20 ?_
        refine g_istore_n (lv2 := [(2, _), (0, _), (1, _)]) (by decide) rfl dX2_collectRent_23 ?_
        refine g_aload_n 1 rfl dX2_collectRent_24 ?_
        refine g_get f_X2_20 HW_h rfl dX2_collectRent_25 ?_
        refine g_iload_n 2 rfl dX2_collectRent_28 ?_
        refine h_aald (by omega) dX2_collectRent_29 ?_
        refine g_dup rfl dX2_collectRent_30 ?_
        refine g_get f_X2_104 (HW_l (hrl.o12 (by omega))) rfl dX2_collectRent_31 ?_
        refine g_top (hrl.row (i := 1) (by omega) (by decide)) ?_
        refine g_iload_n 0 rfl dX2_collectRent_34 ?_
        refine g_isub dX2_collectRent_35 ?_
        refine l_putR hrl (by omega) f_X2_104 w_X3_2 (by decide) rfl (j := 1) (by decide) dX2_collectRent_36 (fun hr1 => ?_)
        refine g_aload_n 1 rfl dX2_collectRent_39 ?_
        refine g_dup rfl dX2_collectRent_40 ?_
        refine g_get f_X2_44 HW_h rfl dX2_collectRent_41 ?_
        refine g_top (hr1.d (j := 11) (by decide) (by decide)) ?_
        refine g_iload_n 0 rfl dX2_collectRent_44 ?_
        refine g_iadd dX2_collectRent_45 ?_
        refine h_putR hr1 f_X2_44 w_X2_5 (by decide) rfl (j := 11) (by decide) (by decide) dX2_collectRent_46 (fun hr2 => ?_)
        refine gn_inc (lv2 := [(1, _), (2, _), (0, _)]) 2 rfl (by decide) rfl dX2_collectRent_49 ?_
        refine g_goto (tgt := 2) (by decide) dX2_collectRent_52 ?_
        refine G.sub [2, 0] rfl ?_
        exact ih2 (i + 1) _ (by omega) hr2 hord
  refine G.sub [1, 0] rfl ?_
  exact L2 c 0 R (Nat.zero_add _) hr rfl
set_option maxRecDepth 100000 in
set_option maxHeartbeats 4000000 in
theorem c_X2_giveLessons {Γ : Gm} {n : Nat} {hb : Nat} {F S : Hp} {R : Hr} {f : Nat → Int32} {c : Nat}  (hr : Rp Γ S f c R)  : Ct Γ 4 MX2_giveLessons 0 0 [.ref hb] (HW Γ hb F R) n (HPo Γ hb F n (none) (fun R2 => Rp Γ S (tchN f c) c R2 ∧ hO R2 = hO R)) X0 := by
  refine Ct.of (by decide +kernel) rfl (Nat.le_of_ble_eq_true rfl) ?_
  have hc12 := hr.2.1
  refine G.sub (lv2 := [(0, _)]) [0] rfl ?_
  refine gn_ic 0 (by decide) dX2_giveLessons_0 ?_
  refine g_istore_n (lv2 := [(1, _), (0, _)]) (by decide) rfl dX2_giveLessons_1 ?_
  have L2 : ∀ (m2 : Nat) (i : Nat) (R1 : Hr), (i + m2 = c) → (Rp Γ S (tchN f i) c R1) → (hO R1 = hO R) → G Γ 4 MX2_giveLessons (HPo Γ hb F n (none) (fun R2 => Rp Γ S (tchN f c) c R2 ∧ hO R2 = hO R)) X0 2 [(0, .ref hb), (1, .int (nI i))] [] (HW Γ hb F R1) n 0 0 := by
    intro m2
    induction m2 with
    | zero =>
      intro i R1 hi hrl hord
      refine g_iload_n 1 rfl dX2_giveLessons_2 ?_
      refine g_aload_n 0 rfl dX2_giveLessons_3 ?_
      refine g_get f_X2_50 HW_h rfl dX2_giveLessons_4 ?_
      refine g_top hrl.cnt ?_
      refine gn_icmp_ge (by omega) (by omega) (tgt := 62) (by decide) dX2_giveLessons_7 (fun h7 => ?_) (fun h7 => ?_)
      · -- t 62
        obtain rfl : i = c := by omega
        exact g_vret ⟨rfl, rfl, R1, rfl, hrl, hord⟩ rfl dX2_giveLessons_62
      · -- f 10
        exfalso; omega
    | succ m2 ih2 =>
      intro i R1 hi hrl hord
      refine g_iload_n 1 rfl dX2_giveLessons_2 ?_
      refine g_aload_n 0 rfl dX2_giveLessons_3 ?_
      refine g_get f_X2_50 HW_h rfl dX2_giveLessons_4 ?_
      refine g_top hrl.cnt ?_
      refine gn_icmp_ge (by omega) (by omega) (tgt := 62) (by decide) dX2_giveLessons_7 (fun h7 => ?_) (fun h7 => ?_)
      · -- t 62
        exfalso; omega
      · -- f 10
        have hic : i < c := by omega
        refine g_aload_n 0 rfl dX2_giveLessons_10 ?_
        refine g_get f_X2_20 HW_h rfl dX2_giveLessons_11 ?_
        refine g_iload_n 1 rfl dX2_giveLessons_14 ?_
        refine h_aald (by omega) dX2_giveLessons_15 ?_
        refine g_get f_X2_104 (HW_l (hrl.o12 (by omega))) rfl dX2_giveLessons_16 ?_
        refine g_top (hrl.row (i := 1) (by omega) (by decide)) ?_
        refine g_if_lt (tgt := 56) (by decide) dX2_giveLessons_19 (fun h19 => ?_) (fun h19 => ?_)
        · -- t 56
          refine gn_inc (lv2 := [(1, _), (0, _)]) 1 rfl (by decide) rfl dX2_giveLessons_56 ?_
          refine g_goto (tgt := 2) (by decide) dX2_giveLessons_59 ?_
          refine G.sub [1, 0] rfl ?_
          exact ih2 (i + 1) _ (by omega) (by rw [tchN, tch_f (Or.inl h19)]; exact hrl) hord
        · -- f 22
          refine g_aload_n 0 rfl dX2_giveLessons_22 ?_
          refine g_get f_X2_20 HW_h rfl dX2_giveLessons_23 ?_
          refine g_iload_n 1 rfl dX2_giveLessons_26 ?_
          refine h_aald (by omega) dX2_giveLessons_27 ?_
          refine g_get f_X2_93 (HW_l (hrl.o12 (by omega))) rfl dX2_giveLessons_28 ?_
          refine g_aload_n 0 rfl dX2_giveLessons_31 ?_
          refine g_get f_X2_12 HW_h rfl dX2_giveLessons_32 ?_
          rcases far_or (rw5 (tchN f i) i) (la5 (tchN f i)) 5 with hf | ⟨v, hv, hf⟩
          · skip
            refine gv_V (c_X0_approach_no (HW_a (hrl.o12 hic)) (HW_p (hrl.o12 hic)) HW_1 HW_2 ((congrArg Prod.fst (hrl.fa1 hic)).trans hf)) l_X2_144 rfl (Rcv.of (HW_a (hrl.o12 hic)) rfl) (Nat.le_of_ble_eq_true rfl) (Nat.le_of_ble_eq_true rfl) rfl dX2_giveLessons_35 ?_
            refine gn_if_eq (by omega) (tgt := 56) (by decide) dX2_giveLessons_38 (fun cc1 => ?_) (fun cc1 => ?_)
            · -- t 56
              refine gn_inc (lv2 := [(1, _), (0, _)]) 1 rfl (by decide) rfl dX2_giveLessons_56 ?_
              refine g_goto (tgt := 2) (by decide) dX2_giveLessons_59 ?_
              refine G.sub [1, 0] rfl ?_
              exact ih2 (i + 1) _ (by omega) (by rw [tchN, tch_f (Or.inr hf)]; exact hrl) hord
            · -- f 41
              exact absurd cc1 (by decide)
          · skip
            refine gv_V (c_X0_approach_ok (HW_a (hrl.o12 hic)) (HW_p (hrl.o12 hic)) HW_1 HW_2 hv ((congrArg Prod.fst (hrl.fa1 hic)).trans hf)) l_X2_144 rfl (Rcv.of (HW_a (hrl.o12 hic)) rfl) (Nat.le_of_ble_eq_true rfl) (Nat.le_of_ble_eq_true rfl) rfl dX2_giveLessons_35 ?_
            refine g_world (HW_sA (hrl.o12 hic)) ?_
            have hrm := rp_mv hrl hic hv
            refine gn_if_eq (by omega) (tgt := 56) (by decide) dX2_giveLessons_38 (fun cc2 => ?_) (fun cc2 => ?_)
            · -- t 56
              exact absurd cc2 (by decide)
            · -- f 41
              refine g_aload_n 0 rfl dX2_giveLessons_41 ?_
              refine g_get f_X2_20 HW_h rfl dX2_giveLessons_42 ?_
              refine g_iload_n 1 rfl dX2_giveLessons_45 ?_
              refine h_aald (by omega) dX2_giveLessons_46 ?_
              refine g_dup rfl dX2_giveLessons_47 ?_
              refine g_get f_X2_115 (HW_l (hrm.o12 (by omega))) rfl dX2_giveLessons_48 ?_
              refine g_top (hrm.row (i := 2) (by omega) (by decide)) ?_
              refine gn_ic 1 (by decide) dX2_giveLessons_51 ?_
              refine g_iadd dX2_giveLessons_52 ?_
              refine l_putR hrm (by omega) f_X2_115 w_X3_3 (by decide) rfl (j := 2) (by decide) dX2_giveLessons_53 (fun hr1 => ?_)
              refine gn_inc (lv2 := [(1, _), (0, _)]) 1 rfl (by decide) rfl dX2_giveLessons_56 ?_
              refine g_goto (tgt := 2) (by decide) dX2_giveLessons_59 ?_
              refine G.sub [1, 0] rfl ?_
              exact ih2 (i + 1) _ (by omega) (by rw [tchN, tch_t h19 hv hf]; exact hr1) hord
  refine G.sub [1, 0] rfl ?_
  exact L2 c 0 R (Nat.zero_add _) hr rfl
end GJ7
