section GJ10
set_option maxRecDepth 100000 in
set_option maxHeartbeats 4000000 in
theorem c_X2_takePayment {Γ : Gm} {n : Nat} {hb : Nat} {F S : Hp} {R : Hr} {f : Nat → Int32} {c : Nat} {k : Nat} {x : Int32} (hr : Rp Γ S f c R) (hk : k < c) : Ct Γ 1 MX2_takePayment 0 0 [.ref hb, .ref (hb + 6 + 3 * hO R k), .int x] (HW Γ hb F R) n (HPo Γ hb F n (none) (fun R2 => Rp Γ S (payF f k x) c R2 ∧ hO R2 = hO R)) X0 := by
  refine Ct.of (by decide +kernel) rfl (Nat.le_of_ble_eq_true rfl) ?_
  have hc12 := hr.2.1
  refine G.sub (lv2 := [(0, _), (1, _), (2, _)]) [0, 1, 2] rfl ?_
  refine g_aload_n 1 rfl dX2_takePayment_0 ?_
  refine g_dup rfl dX2_takePayment_1 ?_
  refine g_get f_X2_104 (HW_l (hr.o12 (by omega))) rfl dX2_takePayment_2 ?_
  refine g_top (hr.row (i := 1) (by omega) (by decide)) ?_
  refine g_iload_n 2 rfl dX2_takePayment_5 ?_
  refine g_iadd dX2_takePayment_6 ?_
  refine l_putR hr (by omega) f_X2_104 w_X3_2 (by decide) rfl (j := 1) (by decide) dX2_takePayment_7 (fun hr1 => ?_)
  refine g_aload_n 0 rfl dX2_takePayment_10 ?_
  refine g_dup rfl dX2_takePayment_11 ?_
  refine g_get f_X2_41 HW_h rfl dX2_takePayment_12 ?_
  refine g_top (hr1.d (j := 10) (by decide) (by decide)) ?_
  refine g_iload_n 2 rfl dX2_takePayment_15 ?_
  refine g_iadd dX2_takePayment_16 ?_
  refine h_putR hr1 f_X2_41 w_X2_4 (by decide) rfl (j := 10) (by decide) (by decide) dX2_takePayment_17 (fun hr2 => ?_)
  exact g_vret ⟨rfl, rfl, _, rfl, hr2, rfl⟩ rfl dX2_takePayment_20
set_option maxRecDepth 100000 in
set_option maxHeartbeats 4000000 in
theorem c_X2_open {Γ : Gm} {n : Nat} {hb : Nat} {F : Hp} {R : Hr} {x y : Int32}  : Ct Γ 1 MX2_open 0 0 [.ref hb, .int x, .int y] (HW Γ hb F R) n (Rt none (HW Γ hb F (opR R x y)) n) X0 := by
  refine Ct.of (by decide +kernel) rfl (Nat.le_of_ble_eq_true rfl) ?_
  refine G.sub (lv2 := [(0, _), (1, _), (2, _)]) [0, 1, 2] rfl ?_
  refine g_aload_n 0 rfl dX2_open_0 ?_
  refine gn_ic 0 (by decide) dX2_open_1 ?_
  refine h_put (j := 8) f_X2_28 w_X2_0 (by decide) rfl dX2_open_2 ?_
  refine g_aload_n 0 rfl dX2_open_5 ?_
  refine g_iload_n 1 rfl dX2_open_6 ?_
  refine h_put (j := 0) f_X2_32 w_X2_1 (by decide) rfl dX2_open_7 ?_
  refine g_aload_n 0 rfl dX2_open_10 ?_
  refine g_iload_n 2 rfl dX2_open_11 ?_
  refine h_put (j := 1) f_X2_35 w_X2_2 (by decide) rfl dX2_open_12 ?_
  refine g_aload_n 0 rfl dX2_open_15 ?_
  refine gn_ic 0 (by decide) dX2_open_16 ?_
  refine h_put (j := 9) f_X2_38 w_X2_3 (by decide) rfl dX2_open_17 ?_
  refine g_aload_n 0 rfl dX2_open_20 ?_
  refine gn_ic 0 (by decide) dX2_open_21 ?_
  refine h_put (j := 10) f_X2_41 w_X2_4 (by decide) rfl dX2_open_22 ?_
  refine g_aload_n 0 rfl dX2_open_25 ?_
  refine gn_ic 0 (by decide) dX2_open_26 ?_
  refine h_put (j := 11) f_X2_44 w_X2_5 (by decide) rfl dX2_open_27 ?_
  refine g_aload_n 0 rfl dX2_open_30 ?_
  refine gn_ic 0 (by decide) dX2_open_31 ?_
  refine h_put (j := 12) f_X2_47 w_X2_6 (by decide) rfl dX2_open_32 ?_
  refine g_aload_n 0 rfl dX2_open_35 ?_
  refine gn_ic 0 (by decide) dX2_open_36 ?_
  refine h_put (j := 7) f_X2_50 w_X2_7 (by decide) rfl dX2_open_37 ?_
  exact g_vret ⟨rfl, rfl, rfl⟩ rfl dX2_open_40
set_option maxRecDepth 100000 in
set_option maxHeartbeats 4000000 in
theorem c_X2_receive {Γ : Gm} {n : Nat} {hb s a c : Nat} {F : Hp} {R : Hr} {fl pay : Int32} (hw : Wf R) (hcn : R.1 7 = nI c) (hc12 : c < 12) (ha : a < 2 ^ 31) : Ct Γ 2 MX2_receive 0 0 [.ref hb, .ref s, .int fl, .int pay, .int (nI a)] (HW Γ hb F R) n (Rt (some (.int (nI c))) (HW Γ hb F (rcR R s fl pay a c)) n) X0 := by
  refine Ct.of (by decide +kernel) rfl (Nat.le_of_ble_eq_true rfl) ?_
  refine G.sub (lv2 := [(0, _), (1, _), (2, _), (3, _), (4, _)]) [0, 1, 2, 3, 4] rfl ?_
  refine g_aload_n 0 rfl dX2_receive_0 ?_
  refine g_get f_X2_50 HW_h rfl dX2_receive_1 ?_
  refine g_top (y := nI c) hcn ?_
  refine gn_bp 12 (by decide) dX2_receive_4 ?_
  refine gn_icmp_lt (by omega) (by omega) (tgt := 11) (by decide) dX2_receive_6 (fun cc1 => ?_) (fun cc1 => ?_)
  · -- t 11
    refine g_aload_n 0 rfl dX2_receive_11 ?_
    refine g_get f_X2_20 HW_h rfl dX2_receive_12 ?_
    refine g_aload_n 0 rfl dX2_receive_15 ?_
    refine g_get f_X2_50 HW_h rfl dX2_receive_16 ?_
    refine g_top (y := nI c) hcn ?_
    refine h_aald (by omega) dX2_receive_19 ?_
    refine g_astore (lv2 := [(5, _), (0, _), (1, _), (2, _), (3, _), (4, _)]) (by decide) rfl dX2_receive_20 ?_
    refine g_aload 0 rfl dX2_receive_22 ?_
    refine g_aload_n 2 rfl dX2_receive_24 ?_
    refine l_putN f_X2_89 w_X3_0 (hw.1 c (by omega)) dX2_receive_25 ?_
    refine g_aload 0 rfl dX2_receive_28 ?_
    refine g_iload_n 3 rfl dX2_receive_30 ?_
    refine l_put (j := 0) f_X2_60 w_X3_1 (hw.1 c (by omega)) (by decide) rfl dX2_receive_31 ?_
    refine g_aload 0 rfl dX2_receive_34 ?_
    refine g_iload_n 4 rfl dX2_receive_36 ?_
    refine l_put (j := 1) f_X2_104 w_X3_2 (hw.1 c (by omega)) (by decide) rfl dX2_receive_37 ?_
    refine g_aload 0 rfl dX2_receive_40 ?_
    refine gn_ic 0 (by decide) dX2_receive_42 ?_
    refine l_put (j := 2) f_X2_115 w_X3_3 (hw.1 c (by omega)) (by decide) rfl dX2_receive_43 ?_
    refine g_aload 0 rfl dX2_receive_46 ?_
    refine gn_ic 0 (by decide) dX2_receive_48 ?_
    refine l_put (j := 3) f_X2_118 w_X3_4 (hw.1 c (by omega)) (by decide) rfl dX2_receive_49 ?_
    refine g_aload 0 rfl dX2_receive_52 ?_
    refine g_aload_n 1 rfl dX2_receive_54 ?_
    refine g_get f_X2_28 HW_h rfl dX2_receive_55 ?_
    refine l_put (j := 4) f_X2_121 w_X3_5 (hw.1 c (by omega)) (by decide) rfl dX2_receive_58 ?_
    refine g_aload 0 rfl dX2_receive_61 ?_
    refine g_get f_X2_93 (HW_l (hw.1 c (by omega))) rfl dX2_receive_63 ?_
    refine g_iload 5 rfl dX2_receive_66 ?_
    refine gu_V (c_X0_setDigits (HW_a (hw.1 c (by omega))) (HW_p (hw.1 c (by omega))) ha) l_X2_124 rfl (Rcv.of (HW_a (hw.1 c (by omega))) rfl) (Nat.le_of_ble_eq_true rfl) (Nat.le_of_ble_eq_true rfl) rfl dX2_receive_68 ?_
    refine g_world (HW_sA (hw.1 c (by omega))) ?_
    refine g_aload_n 1 rfl dX2_receive_71 ?_
    refine g_dup rfl dX2_receive_72 ?_
    refine g_get f_X2_41 HW_h rfl dX2_receive_73 ?_
    refine g_iload_n 4 rfl dX2_receive_76 ?_
    refine g_iadd dX2_receive_77 ?_
    refine h_put (j := 10) f_X2_41 w_X2_4 (by decide) rfl dX2_receive_78 ?_
    refine g_aload_n 1 rfl dX2_receive_81 ?_
    refine g_dup rfl dX2_receive_82 ?_
    refine g_get f_X2_50 HW_h rfl dX2_receive_83 ?_
    refine g_top (y := nI c) hcn ?_
    refine gn_ic 1 (by decide) dX2_receive_86 ?_
    refine gn_iadd dX2_receive_87 ?_
    refine h_put (j := 7) f_X2_50 w_X2_7 (by decide) rfl dX2_receive_88 ?_
    refine g_aload_n 1 rfl dX2_receive_91 ?_
    refine g_get f_X2_50 HW_h rfl dX2_receive_92 ?_
    refine g_top (y := nI (c + 1)) (pk_us (f := upd R.1 10 (R.1 10 + pay)) (k := 7) (x := nI (c + 1))) ?_
    refine gn_ic 1 (by decide) dX2_receive_95 ?_
    refine gn_isub (by omega) dX2_receive_96 ?_
    exact g_iret ⟨rfl, rfl, rfl⟩ rfl rfl dX2_receive_97
  · -- f 9
    exfalso; omega
set_option maxRecDepth 100000 in
set_option maxHeartbeats 4000000 in
theorem c_X3_copyFrom {Γ : Gm} {n : Nat} {E : Hp} {a e p b g u s t : Nat} {r q x y : Nat → Int32} (ha : E a = some (.inr (7, [.ref s, .int (r 0), .int (r 1), .int (r 2), .int (r 3), .int (r 4), .ref e]))) (he : E e = some (.inr (4, [.ref p]))) (hp : E p = some (.inl (gA Γ 0, 5, .inl x))) (hb9 : E b = some (.inr (7, [.ref t, .int (q 0), .int (q 1), .int (q 2), .int (q 3), .int (q 4), .ref g]))) (hg : E g = some (.inr (4, [.ref u]))) (hu : E u = some (.inl (gA Γ 0, 5, .inl y))) (hab : b ≠ a) : Ct Γ 3 MX3_copyFrom 0 0 [.ref a, .ref b] (E) n (Rt none (hset (hset E a (.inr (7, [.ref t, .int (q 0), .int (q 1), .int (q 2), .int (q 3), .int (q 4), .ref e]))) p (.inl (gA Γ 0, 5, .inl (va_cpy y x 0 0 5)))) n) X0 := by
  refine Ct.of (by decide +kernel) rfl (Nat.le_of_ble_eq_true rfl) ?_
  refine G.sub (lv2 := [(0, _), (1, _)]) [0, 1] rfl ?_
  refine g_aload_n 0 rfl dX3_copyFrom_0 ?_
  refine g_aload_n 1 rfl dX3_copyFrom_1 ?_
  refine g_get f_X3_9 hb9 rfl dX3_copyFrom_2 ?_
  refine g_put f_X3_9 w_X3_0 ha (Nat.le_of_ble_eq_true rfl) rfl rfl rfl dX3_copyFrom_5 ?_
  refine g_aload_n 0 rfl dX3_copyFrom_8 ?_
  refine g_aload_n 1 rfl dX3_copyFrom_9 ?_
  refine g_get f_X3_22 ((hset_n hab).trans hb9) rfl dX3_copyFrom_10 ?_
  refine g_put f_X3_22 w_X3_1 hset_s (Nat.le_of_ble_eq_true rfl) rfl rfl rfl dX3_copyFrom_13 ?_
  refine g_world hset_hs ?_
  refine g_aload_n 0 rfl dX3_copyFrom_16 ?_
  refine g_aload_n 1 rfl dX3_copyFrom_17 ?_
  refine g_get f_X3_26 ((hset_n hab).trans hb9) rfl dX3_copyFrom_18 ?_
  refine g_put f_X3_26 w_X3_2 hset_s (Nat.le_of_ble_eq_true rfl) rfl rfl rfl dX3_copyFrom_21 ?_
  refine g_world hset_hs ?_
  refine g_aload_n 0 rfl dX3_copyFrom_24 ?_
  refine g_aload_n 1 rfl dX3_copyFrom_25 ?_
  refine g_get f_X3_29 ((hset_n hab).trans hb9) rfl dX3_copyFrom_26 ?_
  refine g_put f_X3_29 w_X3_3 hset_s (Nat.le_of_ble_eq_true rfl) rfl rfl rfl dX3_copyFrom_29 ?_
  refine g_world hset_hs ?_
  refine g_aload_n 0 rfl dX3_copyFrom_32 ?_
  refine g_aload_n 1 rfl dX3_copyFrom_33 ?_
  refine g_get f_X3_32 ((hset_n hab).trans hb9) rfl dX3_copyFrom_34 ?_
  refine g_put f_X3_32 w_X3_4 hset_s (Nat.le_of_ble_eq_true rfl) rfl rfl rfl dX3_copyFrom_37 ?_
  refine g_world hset_hs ?_
  refine g_aload_n 0 rfl dX3_copyFrom_40 ?_
  refine g_aload_n 1 rfl dX3_copyFrom_41 ?_
  refine g_get f_X3_35 ((hset_n hab).trans hb9) rfl dX3_copyFrom_42 ?_
  refine g_put f_X3_35 w_X3_5 hset_s (Nat.le_of_ble_eq_true rfl) rfl rfl rfl dX3_copyFrom_45 ?_
  refine g_world hset_hs ?_
  refine g_aload_n 0 rfl dX3_copyFrom_48 ?_
  refine g_get f_X3_18 hset_s rfl dX3_copyFrom_49 ?_
  refine g_aload_n 1 rfl dX3_copyFrom_52 ?_
  refine g_get f_X3_18 ((hset_n hab).trans hb9) rfl dX3_copyFrom_53 ?_
  have hea : e ≠ a := fun z => by rw [z, ha] at he; cases he
  have hpa : p ≠ a := fun z => by rw [z, ha] at hp; cases hp
  have hga : g ≠ a := fun z => by rw [z, ha] at hg; cases hg
  have hua : u ≠ a := fun z => by rw [z, ha] at hu; cases hu
  refine gu_V (c_X0_copyFrom ((hset_n hea).trans he) ((hset_n hpa).trans hp) ((hset_n hga).trans hg) ((hset_n hua).trans hu)) l_X3_38 rfl (Rcv.of ((hset_n hea).trans he) rfl) (Nat.le_of_ble_eq_true rfl) (Nat.le_of_ble_eq_true rfl) rfl dX3_copyFrom_56 ?_
  exact g_vret ⟨rfl, rfl, rfl⟩ rfl dX3_copyFrom_59
end GJ10
