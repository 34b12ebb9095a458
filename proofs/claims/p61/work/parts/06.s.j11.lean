section GJ11
set_option maxRecDepth 100000 in
set_option maxHeartbeats 4000000 in
theorem c_X2_copyFrom {Γ : Gm} {n : Nat} {hb ho c : Nat} {F S : Hp} {R Q : Hr} {f : Nat → Int32} (hw : Wf R) (hr : Rp Γ S f c Q) (hq : HAt Γ F ho Q) (hdj : Apt hb ho) : Ct Γ 4 MX2_copyFrom 0 0 [.ref hb, .ref ho] (HW Γ hb F R) n (HPo Γ hb F n (none) (fun R2 => Rp Γ S f c R2 ∧ hO R2 = hO R)) X0 := by
  refine Ct.of (by decide +kernel) rfl (Nat.le_of_ble_eq_true rfl) ?_
  have hc12 := hr.2.1
  refine G.sub (lv2 := [(0, _), (1, _)]) [0, 1] rfl ?_
  refine g_aload_n 0 rfl dX2_copyFrom_0 ?_
  refine g_aload_n 1 rfl dX2_copyFrom_1 ?_
  refine g_get f_X2_28 (HX_h hq hdj) rfl dX2_copyFrom_2 ?_
  refine h_put (j := 8) f_X2_28 w_X2_0 (by decide) rfl dX2_copyFrom_5 ?_
  refine g_aload_n 0 rfl dX2_copyFrom_8 ?_
  refine g_aload_n 1 rfl dX2_copyFrom_9 ?_
  refine g_get f_X2_32 (HX_h hq hdj) rfl dX2_copyFrom_10 ?_
  refine h_put (j := 0) f_X2_32 w_X2_1 (by decide) rfl dX2_copyFrom_13 ?_
  refine g_aload_n 0 rfl dX2_copyFrom_16 ?_
  refine g_aload_n 1 rfl dX2_copyFrom_17 ?_
  refine g_get f_X2_35 (HX_h hq hdj) rfl dX2_copyFrom_18 ?_
  refine h_put (j := 1) f_X2_35 w_X2_2 (by decide) rfl dX2_copyFrom_21 ?_
  refine g_aload_n 0 rfl dX2_copyFrom_24 ?_
  refine g_aload_n 1 rfl dX2_copyFrom_25 ?_
  refine g_get f_X2_38 (HX_h hq hdj) rfl dX2_copyFrom_26 ?_
  refine h_put (j := 9) f_X2_38 w_X2_3 (by decide) rfl dX2_copyFrom_29 ?_
  refine g_aload_n 0 rfl dX2_copyFrom_32 ?_
  refine g_aload_n 1 rfl dX2_copyFrom_33 ?_
  refine g_get f_X2_41 (HX_h hq hdj) rfl dX2_copyFrom_34 ?_
  refine h_put (j := 10) f_X2_41 w_X2_4 (by decide) rfl dX2_copyFrom_37 ?_
  refine g_aload_n 0 rfl dX2_copyFrom_40 ?_
  refine g_aload_n 1 rfl dX2_copyFrom_41 ?_
  refine g_get f_X2_44 (HX_h hq hdj) rfl dX2_copyFrom_42 ?_
  refine h_put (j := 11) f_X2_44 w_X2_5 (by decide) rfl dX2_copyFrom_45 ?_
  refine g_aload_n 0 rfl dX2_copyFrom_48 ?_
  refine g_aload_n 1 rfl dX2_copyFrom_49 ?_
  refine g_get f_X2_47 (HX_h hq hdj) rfl dX2_copyFrom_50 ?_
  refine h_put (j := 12) f_X2_47 w_X2_6 (by decide) rfl dX2_copyFrom_53 ?_
  refine g_aload_n 0 rfl dX2_copyFrom_56 ?_
  refine g_aload_n 1 rfl dX2_copyFrom_57 ?_
  refine g_get f_X2_50 (HX_h hq hdj) rfl dX2_copyFrom_58 ?_
  refine h_put (j := 7) f_X2_50 w_X2_7 (by decide) rfl dX2_copyFrom_61 ?_
  refine g_aload_n 0 rfl dX2_copyFrom_64 ?_
  refine g_get f_X2_12 HW_h rfl dX2_copyFrom_65 ?_
  refine g_aload_n 1 rfl dX2_copyFrom_68 ?_
  refine g_get f_X2_12 (HX_h hq hdj) rfl dX2_copyFrom_69 ?_
  refine gu_V (c_X0_copyFrom HW_1 HW_2 (HX_1 hq hdj) (HX_2 hq hdj)) l_X2_53 rfl (Rcv.of HW_1 rfl) (Nat.le_of_ble_eq_true rfl) (Nat.le_of_ble_eq_true rfl) rfl dX2_copyFrom_72 ?_
  refine g_world HW_sL ?_
  refine gn_ic 0 (by decide) dX2_copyFrom_75 ?_
  refine g_istore_n (lv2 := [(2, _), (0, _), (1, _)]) (by decide) rfl dX2_copyFrom_76 ?_
  have L77 : ∀ (m77 : Nat) (i : Nat) (R1 : Hr), (i + m77 = c) → (Rq Γ S f c i R1) → (hO R1 = hO R) → G Γ 4 MX2_copyFrom (HPo Γ hb F n (none) (fun R2 => Rp Γ S f c R2 ∧ hO R2 = hO R)) X0 77 [(0, .ref hb), (1, .ref ho), (2, .int (nI i))] [] (HW Γ hb F R1) n 0 0 := by
    intro m77
    induction m77 with
    | zero =>
      intro i R1 hi hrl hord
      refine g_iload_n 2 rfl dX2_copyFrom_77 ?_
      refine g_aload_n 0 rfl dX2_copyFrom_78 ?_
      refine g_get f_X2_50 HW_h rfl dX2_copyFrom_79 ?_
      refine g_top hrl.cnt ?_
      refine gn_icmp_ge (by omega) (by omega) (tgt := 106) (by decide) dX2_copyFrom_82 (fun h82 => ?_) (fun h82 => ?_)
      · -- t 106
        obtain rfl : c = i := by omega
        exact g_vret ⟨rfl, rfl, R1, rfl, hrl.rp, hord⟩ rfl dX2_copyFrom_106
      · -- f 85
        exfalso; omega
    | succ m77 ih77 =>
      intro i R1 hi hrl hord
      refine g_iload_n 2 rfl dX2_copyFrom_77 ?_
      refine g_aload_n 0 rfl dX2_copyFrom_78 ?_
      refine g_get f_X2_50 HW_h rfl dX2_copyFrom_79 ?_
      refine g_top hrl.cnt ?_
      refine gn_icmp_ge (by omega) (by omega) (tgt := 106) (by decide) dX2_copyFrom_82 (fun h82 => ?_) (fun h82 => ?_)
      · -- t 106
        exfalso; omega
      · -- f 85
        have hic : i < c := by omega
        have o1 := hrl.1.1 i (by omega)
        have o2 := hr.o12 hic
        refine g_aload_n 0 rfl dX2_copyFrom_85 ?_
        refine g_get f_X2_20 HW_h rfl dX2_copyFrom_86 ?_
        refine g_iload_n 2 rfl dX2_copyFrom_89 ?_
        refine h_aald (by omega) dX2_copyFrom_90 ?_
        refine g_aload_n 1 rfl dX2_copyFrom_91 ?_
        refine g_get f_X2_20 (HX_h hq hdj) rfl dX2_copyFrom_92 ?_
        refine g_iload_n 2 rfl dX2_copyFrom_95 ?_
        refine x_aald (HX_3 hq hdj) (by omega) dX2_copyFrom_96 ?_
        refine gu_V (c_X3_copyFrom (r := hR R1 (hO R1 i)) (q := hR Q (hO Q i)) (HW_l o1) (HW_a o1) (HW_p o1) (HX_l hq hdj o2) (HX_a hq hdj o2) (HX_p hq hdj o2) (by omega)) l_X2_57 rfl (Rcv.of (HW_l o1) rfl) (Nat.le_of_ble_eq_true rfl) (Nat.le_of_ble_eq_true rfl) rfl dX2_copyFrom_97 ?_
        refine g_world (HW_cp o1) ?_
        have hst := hrl.step hr hic (fun _ _ => rfl)
        refine gn_inc (lv2 := [(2, _), (0, _), (1, _)]) 2 rfl (by decide) rfl dX2_copyFrom_100 ?_
        refine g_goto (tgt := 77) (by decide) dX2_copyFrom_103 ?_
        refine G.sub [1, 2, 0] rfl ?_
        exact ih77 (i + 1) _ (by omega) hst hord
  refine G.sub [1, 2, 0] rfl ?_
  exact L77 c 0 (hdR R Q) (Nat.zero_add _) (Rq.start hw hr) rfl
end GJ11
