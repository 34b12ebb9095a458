section GJ8
set_option maxRecDepth 100000 in
set_option maxHeartbeats 4000000 in
theorem c_X2_serveDinner {Γ : Gm} {n : Nat} {hb φ : Nat} {F S : Hp} {R : Hr} {f : Nat → Int32} {c : Nat} (hr : Rp Γ S (mixF f (dinN f (avR f c) (onR f c) c) φ 0) c R) (hfl : Flo f c) (hφ : φ < 5) : Ct Γ 4 MX2_serveDinner 0 0 [.ref hb, .int (nI φ)] (HW Γ hb F R) n (HPo Γ hb F n (none) (fun R2 => Rp Γ S (mixF f (dinN f (avR f c) (onR f c) c) (φ + 1) 0) c R2 ∧ hO R2 = hO R)) X0 := by
  refine Ct.of (by decide +kernel) rfl (Nat.le_of_ble_eq_true rfl) ?_
  have hc12 := hr.2.1
  have hcn : cntA (mixF f (dinN f (avR f c) (onR f c) c) φ 0) (nI φ) c = cntA f (nI φ) c := cntA_c c (fun k hk => mix_fl (f := f) (a := avR f c) (o := onR f c) hfl hk)
  have hcl := cntA_le (mixF f (dinN f (avR f c) (onR f c) c) φ 0) (nI φ) c
  refine G.sub (lv2 := [(0, _), (1, _)]) [0, 1] rfl ?_
  refine g_aload_n 0 rfl dX2_serveDinner_0 ?_
  refine g_iload_n 1 rfl dX2_serveDinner_1 ?_
  refine gv_V (c_X2_crowdOn hr) l_X2_147 rfl (Rcv.of HW_h rfl) (Nat.le_of_ble_eq_true rfl) (Nat.le_of_ble_eq_true rfl) rfl dX2_serveDinner_2 ?_
  refine gn_ic 2 (by decide) dX2_serveDinner_5 ?_
  refine gn_icmp_ge (by omega) (by omega) (tgt := 10) (by decide) dX2_serveDinner_6 (fun h6 => ?_) (fun h6 => ?_)
  · -- t 10
    refine g_aload_n 0 rfl dX2_serveDinner_10 ?_
    refine g_iload_n 1 rfl dX2_serveDinner_11 ?_
    refine gx_V0 (c_X2_computeAverage hr) l_X2_150 rfl (Rcv.of HW_h rfl) (Nat.le_of_ble_eq_true rfl) (Nat.le_of_ble_eq_true rfl) rfl dX2_serveDinner_12 (fun _ _ _ h => h.1) (fun E2 n2 hp => ?_)
    obtain ⟨-, e1, y, e2, hy⟩ := hp
    rw [e1, e2]
    have hya : ∀ v, v < 5 → y v = avR f c (5 * φ + v) := fun v hv => by rw [hy v hv, avR_at hφ hv]; exact avgF_c (fun k hk => mix_fl (f := f) (a := avR f c) (o := onR f c) hfl hk) (fun k hk he => by rw [Nat.add_assoc]; exact mix_own (f := f) (a := avR f c) (o := onR f c) hφ he (Nat.zero_le k) (by omega))
    refine gn_ic 0 (by decide) dX2_serveDinner_15 ?_
    refine g_istore_n (lv2 := [(2, _), (0, _), (1, _)]) (by decide) rfl dX2_serveDinner_16 ?_
    have L17 : ∀ (m17 : Nat) (i : Nat) (R1 : Hr), (i + m17 = c) → (Rp Γ S (mixF f (dinN f (avR f c) (onR f c) c) φ i) c R1) → (hO R1 = hO R) → (hV R1 = y) → G Γ 4 MX2_serveDinner (HPo Γ hb F n (none) (fun R2 => Rp Γ S (mixF f (dinN f (avR f c) (onR f c) c) (φ + 1) 0) c R2 ∧ hO R2 = hO R)) X0 17 [(0, .ref hb), (1, .int (nI φ)), (2, .int (nI i))] [] (HW Γ hb F R1) n 0 0 := by
      intro m17
      induction m17 with
      | zero =>
        intro i R1 hi hrl hord hva
        refine g_iload_n 2 rfl dX2_serveDinner_17 ?_
        refine g_aload_n 0 rfl dX2_serveDinner_18 ?_
        refine g_get f_X2_50 HW_h rfl dX2_serveDinner_19 ?_
        refine g_top hrl.cnt ?_
        refine gn_icmp_ge (by omega) (by omega) (tgt := 78) (by decide) dX2_serveDinner_22 (fun h22 => ?_) (fun h22 => ?_)
        · -- t 78
          obtain rfl : c = i := by omega
          exact g_vret ⟨rfl, rfl, R1, rfl, hrl.congr (fun j hj => (mix_n (f := f) (a := avR f c) (o := onR f c) hfl j hj).symm), hord⟩ rfl dX2_serveDinner_78
        · -- f 25
          exfalso; omega
      | succ m17 ih17 =>
        intro i R1 hi hrl hord hva
        refine g_iload_n 2 rfl dX2_serveDinner_17 ?_
        refine g_aload_n 0 rfl dX2_serveDinner_18 ?_
        refine g_get f_X2_50 HW_h rfl dX2_serveDinner_19 ?_
        refine g_top hrl.cnt ?_
        refine gn_icmp_ge (by omega) (by omega) (tgt := 78) (by decide) dX2_serveDinner_22 (fun h22 => ?_) (fun h22 => ?_)
        · -- t 78
          exfalso; omega
        · -- f 25
          have hic : i < c := by omega
          refine g_aload_n 0 rfl dX2_serveDinner_25 ?_
          refine g_get f_X2_20 HW_h rfl dX2_serveDinner_26 ?_
          refine g_iload_n 2 rfl dX2_serveDinner_29 ?_
          refine h_aald (by omega) dX2_serveDinner_30 ?_
          refine g_get f_X2_60 (HW_l (hrl.o12 (by omega))) rfl dX2_serveDinner_31 ?_
          refine g_top (hrl.flo (by omega)) ?_
          refine g_iload_n 1 rfl dX2_serveDinner_34 ?_
          refine g_icmp_ne (tgt := 72) (by decide) dX2_serveDinner_35 (fun h35 => ?_) (fun h35 => ?_)
          · -- t 72
            refine gn_inc (lv2 := [(2, _), (0, _), (1, _)]) 2 rfl (by decide) rfl dX2_serveDinner_72 ?_
            refine g_goto (tgt := 17) (by decide) dX2_serveDinner_75 ?_
            refine G.sub [1, 2, 0] rfl ?_
            exact ih17 (i + 1) R1 (by omega) (hrl.congr (mix_s (f := f) (a := avR f c) (o := onR f c) hfl hic (Or.inl (fun z => h35 (by rw [mix_fl (f := f) (a := avR f c) (o := onR f c) hfl hic]; exact z))))) hord hva
          · -- f 38
            have hf0 : f (13 + 16 * i) = nI φ := by rw [← mix_fl (f := f) (a := avR f c) (o := onR f c) hfl hic]; exact h35
            have hsl : slpF f (avR f c) (onR f c) i = (far (rw5 f i) (fun v => avR f c (5 * φ + v)) 5).1 := by rw [slpF_eq hf0 hφ, if_neg (by rw [onR_at hφ (by omega)]; exact nI_nlt (by omega) (by omega))]
            have hex : far (hA R1 (hO R1 i)) (hV R1) 5 = far (rw5 f i) (fun v => avR f c (5 * φ + v)) 5 := far_c 5 (fun v hv => (hrl.acc hic hv).trans (by show _ = f (13 + 16 * i + 5 + v); rw [Nat.add_assoc]; exact mix_own (f := f) (a := avR f c) (o := onR f c) hφ hf0 (Nat.le_refl i) (by omega))) (fun v hv => by rw [hva]; exact hya v hv)
            refine g_aload_n 0 rfl dX2_serveDinner_38 ?_
            refine g_get f_X2_20 HW_h rfl dX2_serveDinner_39 ?_
            refine g_iload_n 2 rfl dX2_serveDinner_42 ?_
            refine h_aald (by omega) dX2_serveDinner_43 ?_
            refine g_get f_X2_93 (HW_l (hrl.o12 (by omega))) rfl dX2_serveDinner_44 ?_
            refine g_aload_n 0 rfl dX2_serveDinner_47 ?_
            refine g_get f_X2_24 HW_h rfl dX2_serveDinner_48 ?_
            rcases far_or (rw5 f i) (fun v => avR f c (5 * φ + v)) 5 with hf | ⟨v, hv, hf⟩
            · skip
              refine gv_V (c_X0_approach_no (HW_a (hrl.o12 hic)) (HW_p (hrl.o12 hic)) HW_4 HW_5 ((congrArg Prod.fst hex).trans hf)) l_X2_144 rfl (Rcv.of (HW_a (hrl.o12 hic)) rfl) (Nat.le_of_ble_eq_true rfl) (Nat.le_of_ble_eq_true rfl) rfl dX2_serveDinner_51 ?_
              refine gn_if_eq (by omega) (tgt := 72) (by decide) dX2_serveDinner_54 (fun cc1 => ?_) (fun cc1 => ?_)
              · -- t 72
                refine gn_inc (lv2 := [(2, _), (0, _), (1, _)]) 2 rfl (by decide) rfl dX2_serveDinner_72 ?_
                refine g_goto (tgt := 17) (by decide) dX2_serveDinner_75 ?_
                refine G.sub [1, 2, 0] rfl ?_
                exact ih17 (i + 1) R1 (by omega) (hrl.congr (mix_s (f := f) (a := avR f c) (o := onR f c) hfl hic (Or.inr (hsl.trans hf)))) hord hva
              · -- f 57
                exact absurd cc1 (by decide)
            · skip
              refine gv_V (c_X0_approach_ok (HW_a (hrl.o12 hic)) (HW_p (hrl.o12 hic)) HW_4 HW_5 hv ((congrArg Prod.fst hex).trans hf)) l_X2_144 rfl (Rcv.of (HW_a (hrl.o12 hic)) rfl) (Nat.le_of_ble_eq_true rfl) (Nat.le_of_ble_eq_true rfl) rfl dX2_serveDinner_51 ?_
              refine g_world (HW_sA (hrl.o12 hic)) ?_
              have hrm := rp_mva (t := avR f c (5 * φ + v)) hrl hic hv (by rw [hva]; exact hya v hv)
              refine gn_if_eq (by omega) (tgt := 72) (by decide) dX2_serveDinner_54 (fun cc2 => ?_) (fun cc2 => ?_)
              · -- t 72
                exact absurd cc2 (by decide)
              · -- f 57
                refine g_aload_n 0 rfl dX2_serveDinner_57 ?_
                refine g_get f_X2_20 HW_h rfl dX2_serveDinner_58 ?_
                refine g_iload_n 2 rfl dX2_serveDinner_61 ?_
                refine h_aald (by omega) dX2_serveDinner_62 ?_
                refine g_dup rfl dX2_serveDinner_63 ?_
                refine g_get f_X2_118 (HW_l (hrm.o12 (by omega))) rfl dX2_serveDinner_64 ?_
                refine g_top (hrm.row (i := 3) (by omega) (by decide)) ?_
                refine gn_ic 1 (by decide) dX2_serveDinner_67 ?_
                refine g_iadd dX2_serveDinner_68 ?_
                refine l_putR hrm (by omega) f_X2_118 w_X3_4 (by decide) rfl (j := 3) (by decide) dX2_serveDinner_69 (fun hr1 => ?_)
                refine gn_inc (lv2 := [(2, _), (0, _), (1, _)]) 2 rfl (by decide) rfl dX2_serveDinner_72 ?_
                refine g_goto (tgt := 17) (by decide) dX2_serveDinner_75 ?_
                refine G.sub [1, 2, 0] rfl ?_
                exact ih17 (i + 1) _ (by omega) (hr1.congr (mix_ok (f := f) (a := avR f c) (o := onR f c) hfl hic hφ hf0 hv (hsl.trans hf))) hord hva
    refine G.sub [1, 2, 0] rfl ?_
    exact L17 c 0 (sV R y) (Nat.zero_add _) hr.sV rfl rfl
  · -- f 9
    exact g_vret ⟨rfl, rfl, R, rfl, hr.congr (fun j hj => (mix_few (f := f) (a := avR f c) (o := onR f c) hfl (fun κ hκ he => by rw [slpF_eq he hφ, if_pos (by rw [onR_at hφ (by omega)]; exact nI_lt (by omega) (by decide))]) j hj).symm), rfl⟩ rfl dX2_serveDinner_9
set_option maxRecDepth 100000 in
set_option maxHeartbeats 4000000 in
theorem c_X2_dismiss {Γ : Gm} {n : Nat} {hb k c : Nat} {F : Hp} {R : Hr} (hw : Wf R) (hcn : R.1 7 = nI c) (hk : k < c) (hc12 : c ≤ 12) : Ct Γ 1 MX2_dismiss 0 0 [.ref hb, .int (nI k)] (HW Γ hb F R) n (Rt none (HW Γ hb F (dmR R k c)) n) X0 := by
  refine Ct.of (by decide +kernel) rfl (Nat.le_of_ble_eq_true rfl) ?_
  refine G.sub (lv2 := [(0, _), (1, _)]) [0, 1] rfl ?_
  refine g_iload_n 1 rfl dX2_dismiss_0 ?_
  refine g_if_lt (tgt := 12) (by decide) dX2_dismiss_1 (fun h1 => ?_) (fun h1 => ?_)
  · -- t 12
    exact absurd h1 (nI_pos (by omega))
  · -- f 4
    refine g_iload_n 1 rfl dX2_dismiss_4 ?_
    refine g_aload_n 0 rfl dX2_dismiss_5 ?_
    refine g_get f_X2_50 HW_h rfl dX2_dismiss_6 ?_
    refine g_top (y := nI c) hcn ?_
    refine gn_icmp_lt (by omega) (by omega) (tgt := 13) (by decide) dX2_dismiss_9 (fun cc1 => ?_) (fun cc1 => ?_)
    · -- t 13
      refine g_aload_n 0 rfl dX2_dismiss_13 ?_
      refine g_get f_X2_20 HW_h rfl dX2_dismiss_14 ?_
      refine g_iload_n 1 rfl dX2_dismiss_17 ?_
      refine h_aald (by omega) dX2_dismiss_18 ?_
      refine g_astore_n (lv2 := [(2, _), (0, _), (1, _)]) (by decide) rfl dX2_dismiss_19 ?_
      refine g_aload_n 1 rfl dX2_dismiss_20 ?_
      refine g_dup rfl dX2_dismiss_21 ?_
      refine g_get f_X2_47 HW_h rfl dX2_dismiss_22 ?_
      refine g_aload_n 0 rfl dX2_dismiss_25 ?_
      refine g_get f_X2_104 (HW_l (hw.1 k (by omega))) rfl dX2_dismiss_26 ?_
      refine g_iadd dX2_dismiss_29 ?_
      refine h_put (j := 12) f_X2_47 w_X2_6 (by decide) rfl dX2_dismiss_30 ?_
      refine g_iload_n 2 rfl dX2_dismiss_33 ?_
      refine g_istore_n (lv2 := [(3, _), (2, _), (0, _), (1, _)]) (by decide) rfl dX2_dismiss_34 ?_
      have L35 : ∀ (m35 : Nat) (i : Nat), (i + 1 + m35 = c) → (k ≤ i) → G Γ 1 MX2_dismiss (Rt none (HW Γ hb F (dmR R k c)) n) X0 35 [(0, .ref hb), (1, .int (nI k)), (2, .ref (hb + 6 + 3 * hO R k)), (3, .int (nI i))] [] (HW Γ hb F (sO (sH R 12 (R.1 12 + hR R (hO R k) 1)) (arS (hO R) k i))) n 0 0 := by
        intro m35
        induction m35 with
        | zero =>
          intro i hi hki
          refine g_iload_n 3 rfl dX2_dismiss_35 ?_
          refine gn_ic 1 (by decide) dX2_dismiss_36 ?_
          refine gn_iadd dX2_dismiss_37 ?_
          refine g_aload_n 0 rfl dX2_dismiss_38 ?_
          refine g_get f_X2_50 HW_h rfl dX2_dismiss_39 ?_
          refine g_top (y := nI c) hcn ?_
          refine gn_icmp_ge (by omega) (by omega) (tgt := 65) (by decide) dX2_dismiss_42 (fun h42 => ?_) (fun h42 => ?_)
          · -- t 65
            obtain rfl : i = c - 1 := by omega
            refine g_aload_n 0 rfl dX2_dismiss_65 ?_
            refine g_dup rfl dX2_dismiss_66 ?_
            refine g_get f_X2_50 HW_h rfl dX2_dismiss_67 ?_
            refine g_top (y := nI c) hcn ?_
            refine gn_ic 1 (by decide) dX2_dismiss_70 ?_
            refine gn_isub (by omega) dX2_dismiss_71 ?_
            refine h_put (j := 7) f_X2_50 w_X2_7 (by decide) rfl dX2_dismiss_72 ?_
            refine g_aload_n 0 rfl dX2_dismiss_75 ?_
            refine g_get f_X2_20 HW_h rfl dX2_dismiss_76 ?_
            refine g_aload_n 0 rfl dX2_dismiss_79 ?_
            refine g_get f_X2_50 HW_h rfl dX2_dismiss_80 ?_
            refine g_top (y := nI (c - 1)) (pk_us (f := upd R.1 12 (R.1 12 + hR R (hO R k) 1)) (k := 7) (x := nI (c - 1))) ?_
            refine g_aload_n 2 rfl dX2_dismiss_83 ?_
            refine h_aast (by omega) (hw.1 k (by omega)) dX2_dismiss_84 ?_
            exact g_vret ⟨rfl, rfl, rfl⟩ rfl dX2_dismiss_85
          · -- f 45
            exfalso; omega
        | succ m35 ih35 =>
          intro i hi hki
          refine g_iload_n 3 rfl dX2_dismiss_35 ?_
          refine gn_ic 1 (by decide) dX2_dismiss_36 ?_
          refine gn_iadd dX2_dismiss_37 ?_
          refine g_aload_n 0 rfl dX2_dismiss_38 ?_
          refine g_get f_X2_50 HW_h rfl dX2_dismiss_39 ?_
          refine g_top (y := nI c) hcn ?_
          refine gn_icmp_ge (by omega) (by omega) (tgt := 65) (by decide) dX2_dismiss_42 (fun h42 => ?_) (fun h42 => ?_)
          · -- t 65
            exfalso; omega
          · -- f 45
            refine g_aload_n 0 rfl dX2_dismiss_45 ?_
            refine g_get f_X2_20 HW_h rfl dX2_dismiss_46 ?_
            refine g_iload_n 3 rfl dX2_dismiss_49 ?_
            refine g_aload_n 0 rfl dX2_dismiss_50 ?_
            refine g_get f_X2_20 HW_h rfl dX2_dismiss_51 ?_
            refine g_iload_n 3 rfl dX2_dismiss_54 ?_
            refine gn_ic 1 (by decide) dX2_dismiss_55 ?_
            refine gn_iadd dX2_dismiss_56 ?_
            refine h_aald (by omega) dX2_dismiss_57 ?_
            refine h_aast (by omega) (arS_lt hw.1 (by omega) (by omega)) dX2_dismiss_58 ?_
            refine g_world (E2 := HW Γ hb F (sO (sH R 12 (R.1 12 + hR R (hO R k) 1)) (arS (hO R) k (i + 1)))) (congrArg (fun g => HW Γ hb F (sO (sH R 12 (R.1 12 + hR R (hO R k) 1)) g)) (arS_s hki)) ?_
            refine gn_inc (lv2 := [(3, _), (0, _), (1, _), (2, _)]) 3 rfl (by decide) rfl dX2_dismiss_59 ?_
            refine g_goto (tgt := 35) (by decide) dX2_dismiss_62 ?_
            refine G.sub [1, 2, 3, 0] rfl ?_
            exact ih35 (i + 1) (by omega) (by omega)
      refine G.sub [2, 3, 1, 0] rfl ?_
      refine g_world (E2 := HW Γ hb F (sO (sH R 12 (R.1 12 + hR R (hO R k) 1)) (arS (hO R) k k))) (by rw [arS_0]; rfl) ?_
      exact L35 (c - 1 - k) k (by omega) (Nat.le_refl k)
    · -- f 12
      exfalso; omega
set_option maxRecDepth 100000 in
set_option maxHeartbeats 4000000 in
theorem c_X2_inspect {Γ : Gm} {n : Nat} {hb c : Nat} {F S : Hp} {R : Hr} {f : Nat → Int32} (hr : Rp Γ S f c R) : Ct Γ 5 MX2_inspect 0 0 [.ref hb] (HW Γ hb F R) n (HPo Γ hb F n (none) (fun R2 => ∃ c2, c2 ≤ c ∧ (∀ I, Rp Γ S (insM c 0 f I).1 c2 R2 ∧ ∀ o, Trk I c R o → Trk (insM c 0 f I).2 c2 R2 o))) X0 := by
  refine Ct.of (by decide +kernel) rfl (Nat.le_of_ble_eq_true rfl) ?_
  have hc12 := hr.2.1
  refine G.sub (lv2 := [(0, _)]) [0] rfl ?_
  refine g_aload_n 0 rfl dX2_inspect_0 ?_
  refine g_get f_X2_50 HW_h rfl dX2_inspect_1 ?_
  refine g_top hr.cnt ?_
  refine gn_ic 1 (by decide) dX2_inspect_4 ?_
  refine g_isub dX2_inspect_5 ?_
  refine g_istore_n (lv2 := [(1, _), (0, _)]) (by decide) rfl dX2_inspect_6 ?_
  have L7 : ∀ (m7 : Nat) (R1 : Hr) (c1 : Nat) (g : Nat → Int32), (Dsc Γ S R c R1 c1 g m7) → (c1 ≤ c) → G Γ 5 MX2_inspect (HPo Γ hb F n (none) (fun R2 => ∃ c2, c2 ≤ c ∧ (∀ I, Rp Γ S (insM c 0 f I).1 c2 R2 ∧ ∀ o, Trk I c R o → Trk (insM c 0 f I).2 c2 R2 o))) X0 7 [(0, .ref hb), (1, .int (nI m7 - nI 1))] [] (HW Γ hb F R1) n 0 0 := by
    intro m7
    induction m7 with
    | zero =>
      intro R1 c1 g hd hcc
      have hrl := hd.rp
      refine g_iload_n 1 rfl dX2_inspect_7 ?_
      refine g_if_lt (tgt := 45) (by decide) dX2_inspect_8 (fun h8 => ?_) (fun h8 => ?_)
      · -- t 45
        exact g_vret ⟨rfl, rfl, R1, rfl, c1, hcc, fun I => hd.fin hr I⟩ rfl dX2_inspect_45
      · -- f 11
        exact absurd (by decide) h8
    | succ m7 ih7 =>
      intro R1 c1 g hd hcc
      have hrl := hd.rp
      have hlt := hd.lt
      rw [show nI (m7 + 1) - nI 1 = nI m7 by rw [nI_pr (by omega), Nat.add_sub_cancel]]
      refine g_iload_n 1 rfl dX2_inspect_7 ?_
      refine g_if_lt (tgt := 45) (by decide) dX2_inspect_8 (fun h8 => ?_) (fun h8 => ?_)
      · -- t 45
        exact absurd h8 (nI_pos (by omega))
      · -- f 11
        refine g_aload_n 0 rfl dX2_inspect_11 ?_
        refine g_aload_n 0 rfl dX2_inspect_12 ?_
        refine g_get f_X2_20 HW_h rfl dX2_inspect_13 ?_
        refine g_iload_n 1 rfl dX2_inspect_16 ?_
        refine h_aald (by omega) dX2_inspect_17 ?_
        refine gv_V (c_X2_mustLeave hrl (by omega)) l_X2_153 rfl (Rcv.of HW_h rfl) (Nat.le_of_ble_eq_true rfl) (Nat.le_of_ble_eq_true rfl) rfl dX2_inspect_18 ?_
        refine g_if_eq (tgt := 39) (by decide) dX2_inspect_21 (fun h21 => ?_) (fun h21 => ?_)
        · -- t 39
          refine g_iinc (v := nI m7 - nI 1) (lv2 := [(1, _), (0, _)]) 1 rfl (by rw [Int32.sub_eq_add_neg]; rfl) (by decide) rfl dX2_inspect_39 ?_
          refine g_goto (tgt := 7) (by decide) dX2_inspect_42 ?_
          refine G.sub [1, 0] rfl ?_
          exact ih7 _ _ _ (hd.keep (bi_0 h21)) hcc
        · -- f 24
          refine g_aload_n 0 rfl dX2_inspect_24 ?_
          refine g_iload_n 1 rfl dX2_inspect_25 ?_
          refine gu_V (c_X2_dismiss hrl.1 hrl.cnt (by omega) (by omega)) l_X2_157 rfl (Rcv.of HW_h rfl) (Nat.le_of_ble_eq_true rfl) (Nat.le_of_ble_eq_true rfl) rfl dX2_inspect_26 ?_
          have hrg := hrl.gone (k := m7) (by omega)
          refine g_aload_n 0 rfl dX2_inspect_29 ?_
          refine g_dup rfl dX2_inspect_30 ?_
          refine g_get f_X2_38 HW_h rfl dX2_inspect_31 ?_
          refine g_top (hrg.d (j := 9) (by decide) (by decide)) ?_
          refine gn_ic 1 (by decide) dX2_inspect_34 ?_
          refine g_iadd dX2_inspect_35 ?_
          refine h_putR hrg f_X2_38 w_X2_3 (by decide) rfl (j := 9) (by decide) (by decide) dX2_inspect_36 (fun hr1 => ?_)
          refine g_iinc (v := nI m7 - nI 1) (lv2 := [(1, _), (0, _)]) 1 rfl (by rw [Int32.sub_eq_add_neg]; rfl) (by decide) rfl dX2_inspect_39 ?_
          refine g_goto (tgt := 7) (by decide) dX2_inspect_42 ?_
          refine G.sub [1, 0] rfl ?_
          exact ih7 _ _ _ (hd.gone (bi_n0 h21)) (by omega)
  refine G.sub [1, 0] rfl ?_
  exact L7 c R c f (Dsc.start hr) (Nat.le_refl c)
end GJ8
