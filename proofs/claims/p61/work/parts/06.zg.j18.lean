section GJ18
set_option maxRecDepth 100000 in
set_option maxHeartbeats 4000000 in
theorem c_X4_read {Γ : Gm} {n : Nat} {pb ti e : Nat} {F : Hp} {t : PT} {R : Hr} {S : Hp} {J inp : Nat → Int32} {s : PS} {l lv cap cnt : Nat} {b : Nat → Int32} (hi : F ti = some (.inl (gA Γ 1, 600, .inl inp))) (hti : ti < pb) (hl : l ≤ 600) (hP : Pst Γ pb F S n lv cap b cnt) (hok : Hok Γ S R) (hsv : s.2.2.2.1 < 2 ^ 31) (hsf : s.2.2.2.2.2 ≤ 600) : Ct Γ 12 MX4_read 328 10168 [.ref pb, .int (nI l)] (PW Γ pb ti F e t R) n (fun r E2 n2 => r = none ∧ ∃ (F2 S2 : Hp) (t2 : PT) (R2 : Hr) (lv2 cap2 : Nat) (b2 : Nat → Int32) (cnt2 : Nat), E2 = PW Γ pb ti F2 l t2 R2 ∧ PRel inp l (txP inp l J (z0 s)).2 t2 ∧ ((txP inp l J (z0 s)).2.2.2.2.2.1 = 0 → ∃ c2, Rp Γ S2 (txP inp l J (z0 s)).1 c2 R2 ∧ Val 1200000 (txP inp l J (z0 s)).1 c2) ∧ Hok Γ S2 R2 ∧ Pst Γ pb F2 S2 n2 lv2 cap2 b2 cnt2 ∧ Grw pb F S n lv F2 S2 n2 lv2) X0 := by
  refine Ct.of (by decide +kernel) rfl (Nat.le_of_ble_eq_true rfl) ?_
  refine G.tok (fun hinj => ?_)
  refine G.sub (lv2 := [(0, _), (1, _)]) [0, 1] rfl ?_
  refine g_aload_n 0 rfl dX4_read_0 ?_
  refine gn_ic 0 (by decide) dX4_read_1 ?_
  refine g_put f_X4_35 w_X4_3 PW_p (Nat.le_of_ble_eq_true rfl) rfl rfl rfl dX4_read_2 ?_
  refine g_world (PW_sp (t2 := (0, t.2.1, t.2.2)) rfl) ?_
  refine g_aload_n 0 rfl dX4_read_5 ?_
  refine g_iconst (v := -1) dX4_read_6 (by decide) ?_
  refine g_put f_X4_18 w_X4_4 PW_p (Nat.le_of_ble_eq_true rfl) rfl rfl rfl dX4_read_7 ?_
  refine g_world (PW_sp (t2 := (0, -1, t.2.2)) rfl) ?_
  refine g_aload_n 0 rfl dX4_read_10 ?_
  refine g_get f_X4_31 PW_p rfl dX4_read_11 ?_
  refine g_iload_n 1 rfl dX4_read_14 ?_
  refine gu_V (c_X6_restart PW_t ((PW_o (by omega)).trans hi) hl) l_X4_38 rfl (Rcv.of PW_t rfl) (Nat.le_of_ble_eq_true rfl) (Nat.le_of_ble_eq_true rfl) rfl dX4_read_15 ?_
  refine g_world (E2 := PW Γ pb ti F l (0, -1, nxT inp l 3 0) R) PW_st ?_
  have hR0 : PRel inp l (nxP inp l (z0 s)) (0, -1, nxT inp l 3 0) := PRel.init hl hsv hsf
  refine g_aload_n 0 rfl dX4_read_18 ?_
  refine gx_V0 (c_X4_readHeader (s := z0 s) hR0 hi hti hok) l_X4_42 rfl (Rcv.of PW_p rfl) (Nat.le_of_ble_eq_true rfl) (Nat.le_of_ble_eq_true rfl) rfl dX4_read_19 (fun _ _ _ h => h.1) (fun E3 n3 hp => ?_)
  obtain ⟨-, hn3, t1, R1, rfl, hR1, hrow, hok1⟩ := hp
  have hn4 := hn3.symm
  subst hn4
  refine gn_ic 0 (by decide) dX4_read_22 ?_
  refine g_istore_n (lv2 := [(2, _), (0, _), (1, _)]) (by decide) rfl dX4_read_23 ?_
  have L24 : ∀ (m24 : Nat) (i p n1 lv1 cap1 cnt1 c1 : Nat) (t1 : PT) (R1 : Hr) (F1 S1 : Hp) (b1 f1 : Nat → Int32) (s1 : PS), (i + m24 = l) → (lsP inp l J (m24 + 1) (f1, s1) = (txP inp l J (z0 s))) → (PRel inp l s1 t1) → (Pst Γ pb F1 S1 n1 lv1 cap1 b1 cnt1) → (Grw pb F S n lv F1 S1 n1 lv1) → (Hok Γ S1 R1) → (s1.2.2.2.2.1 = 0 → (i ≤ s1.2.1 ∧ l + 15 ≤ s1.2.1 + 15 * p ∧ Rp Γ S1 f1 c1 R1 ∧ Val (2000 * s1.2.1) f1 c1)) → G Γ 12 MX4_read (fun r E2 n2 => r = none ∧ ∃ (F2 S2 : Hp) (t2 : PT) (R2 : Hr) (lv2 cap2 : Nat) (b2 : Nat → Int32) (cnt2 : Nat), E2 = PW Γ pb ti F2 l t2 R2 ∧ PRel inp l (txP inp l J (z0 s)).2 t2 ∧ ((txP inp l J (z0 s)).2.2.2.2.2.1 = 0 → ∃ c2, Rp Γ S2 (txP inp l J (z0 s)).1 c2 R2 ∧ Val 1200000 (txP inp l J (z0 s)).1 c2) ∧ Hok Γ S2 R2 ∧ Pst Γ pb F2 S2 n2 lv2 cap2 b2 cnt2 ∧ Grw pb F S n lv F2 S2 n2 lv2) X0 24 [(0, .ref pb), (1, .int (nI l)), (2, .int (nI i))] [] (PW Γ pb ti F1 l t1 R1) n1 (8 * p) (248 * p) := by
    intro m24
    induction m24 with
    | zero =>
      intro i p n1 lv1 cap1 cnt1 c1 t1 R1 F1 S1 b1 f1 s1 hi9 hX hRr hP1 hG1 hok1 hlv1
      refine g_iload_n 2 rfl dX4_read_24 ?_
      refine g_iload_n 1 rfl dX4_read_25 ?_
      refine gn_icmp_ge (by omega) (by omega) (tgt := 150) (by decide) dX4_read_26 (fun h26 => ?_) (fun h26 => ?_)
      · -- t 150
        refine g_aload_n 0 rfl dX4_read_150 ?_
        refine g_get f_X4_31 PW_p rfl dX4_read_151 ?_
        refine g_get f_X4_45 PW_t rfl dX4_read_154 ?_
        refine g_gets 0 rfl z_X4_88 dX4_read_157 ?_
        refine g_acmp_eq (rx := some (gF Γ t1.2.2.1)) (ry := some (gF Γ 0)) (tgt := 175) (by decide) dX4_read_160 (fun h160 => ?_) (fun h160 => ?_)
        · -- t 175
          have h160y : t1.2.2.1 = 0 := hinj t1.2.2.1 0 hRr.1.1 (by decide) (Option.some.inj h160)
          have hz := fin_0 (J := J) (f := f1) (m := (0 + 1)) hRr h160y
          rw [hX] at hz
          exact g_vret ⟨rfl, F1, S1, t1, R1, lv1, cap1, b1, cnt1, rfl, by rw [hz]; exact hRr, fun z => by rw [hz] at z ⊢; obtain ⟨-, -, hr1, hv1⟩ := hlv1 z; exact ⟨c1, hr1, hv1.le (by have := hRr.2.1.2.1; have := hRr.2.1.2.2.1; omega)⟩, hok1, hP1, hG1⟩ rfl dX4_read_175
        · -- f 163
          have h160n : ¬ t1.2.2.1 = 0 := fun z => h160 (by rw [z])
          refine g_aload_n 0 rfl dX4_read_163 ?_
          refine gn_ic 1 (by decide) dX4_read_164 ?_
          refine g_aload_n 0 rfl dX4_read_165 ?_
          refine g_get f_X4_31 PW_p rfl dX4_read_166 ?_
          refine g_get f_X4_81 PW_t rfl dX4_read_169 ?_
          refine gu_V (c_X4_fail hRr.ek6) l_X4_84 rfl (Rcv.of PW_p rfl) (Nat.le_of_ble_eq_true rfl) (Nat.le_of_ble_eq_true rfl) rfl dX4_read_172 ?_
          have hx3 : s1.2.2.2.2.1 = 0 → ¬ t1.2.2.1 = 3 := fun z y => by obtain ⟨a1, -⟩ := hlv1 z; have a2 := hRr.1.2.2.2.2.2 (by rw [y]; decide); have a3 := hRr.1.2.2.1; have a4 := (hRr.live z).2.2.1.1; omega
          have hz := fin_f (J := J) (f := f1) (m := 0) hRr h160n hx3
          rw [hX] at hz
          exact g_vret ⟨rfl, F1, S1, _, R1, lv1, cap1, b1, cnt1, rfl, hz.1, fun z => absurd z hz.2, hok1, hP1, hG1⟩ rfl dX4_read_175
      · -- f 29
        exfalso; omega
    | succ m24 ih24 =>
      intro i p n1 lv1 cap1 cnt1 c1 t1 R1 F1 S1 b1 f1 s1 hi9 hX hRr hP1 hG1 hok1 hlv1
      have hi1 : F1 ti = _ := (hP.txt hG1 hti).trans hi
      refine g_iload_n 2 rfl dX4_read_24 ?_
      refine g_iload_n 1 rfl dX4_read_25 ?_
      refine gn_icmp_ge (by omega) (by omega) (tgt := 150) (by decide) dX4_read_26 (fun h26 => ?_) (fun h26 => ?_)
      · -- t 150
        exfalso; omega
      · -- f 29
        refine g_aload_n 0 rfl dX4_read_29 ?_
        refine g_get f_X4_35 PW_p rfl dX4_read_30 ?_
        refine gn_if_ne (by have := hRr.ek6; omega) (tgt := 150) (by decide) dX4_read_33 (fun h33 => ?_) (fun h33 => ?_)
        · -- t 150
          refine g_aload_n 0 rfl dX4_read_150 ?_
          refine g_get f_X4_31 PW_p rfl dX4_read_151 ?_
          refine g_get f_X4_45 PW_t rfl dX4_read_154 ?_
          refine g_gets 0 rfl z_X4_88 dX4_read_157 ?_
          refine g_acmp_eq (rx := some (gF Γ t1.2.2.1)) (ry := some (gF Γ 0)) (tgt := 175) (by decide) dX4_read_160 (fun h160 => ?_) (fun h160 => ?_)
          · -- t 175
            have h160y : t1.2.2.1 = 0 := hinj t1.2.2.1 0 hRr.1.1 (by decide) (Option.some.inj h160)
            have hz := fin_0 (J := J) (f := f1) (m := (m24 + 1 + 1)) hRr h160y
            rw [hX] at hz
            exact g_vret ⟨rfl, F1, S1, t1, R1, lv1, cap1, b1, cnt1, rfl, by rw [hz]; exact hRr, fun z => by rw [hz] at z ⊢; obtain ⟨-, -, hr1, hv1⟩ := hlv1 z; exact ⟨c1, hr1, hv1.le (by have := hRr.2.1.2.1; have := hRr.2.1.2.2.1; omega)⟩, hok1, hP1, hG1⟩ rfl dX4_read_175
          · -- f 163
            have h160n : ¬ t1.2.2.1 = 0 := fun z => h160 (by rw [z])
            refine g_aload_n 0 rfl dX4_read_163 ?_
            refine gn_ic 1 (by decide) dX4_read_164 ?_
            refine g_aload_n 0 rfl dX4_read_165 ?_
            refine g_get f_X4_31 PW_p rfl dX4_read_166 ?_
            refine g_get f_X4_81 PW_t rfl dX4_read_169 ?_
            refine gu_V (c_X4_fail hRr.ek6) l_X4_84 rfl (Rcv.of PW_p rfl) (Nat.le_of_ble_eq_true rfl) (Nat.le_of_ble_eq_true rfl) rfl dX4_read_172 ?_
            have hx3 : s1.2.2.2.2.1 = 0 → ¬ t1.2.2.1 = 3 := fun z => absurd (hRr.ek.trans z) h33
            have hz := fin_f (J := J) (f := f1) (m := (m24 + 1)) hRr h160n hx3
            rw [hX] at hz
            exact g_vret ⟨rfl, F1, S1, _, R1, lv1, cap1, b1, cnt1, rfl, hz.1, fun z => absurd z hz.2, hok1, hP1, hG1⟩ rfl dX4_read_175
        · -- f 36
          have hlv : s1.2.2.2.2.1 = 0 := by rw [← hRr.ek]; exact h33
          obtain ⟨hi5, hp5, hr1, hv1⟩ := hlv1 hlv
          refine g_aload_n 0 rfl dX4_read_36 ?_
          refine g_get f_X4_31 PW_p rfl dX4_read_37 ?_
          refine g_get f_X4_45 PW_t rfl dX4_read_40 ?_
          refine g_gets 3 rfl z_X4_49 dX4_read_43 ?_
          refine g_acmp_ne (rx := some (gF Γ t1.2.2.1)) (ry := some (gF Γ 3)) (tgt := 150) (by decide) dX4_read_46 (fun h46 => ?_) (fun h46 => ?_)
          · -- t 150
            have h46n : ¬ t1.2.2.1 = 3 := fun z => h46 (by rw [z])
            refine g_aload_n 0 rfl dX4_read_150 ?_
            refine g_get f_X4_31 PW_p rfl dX4_read_151 ?_
            refine g_get f_X4_45 PW_t rfl dX4_read_154 ?_
            refine g_gets 0 rfl z_X4_88 dX4_read_157 ?_
            refine g_acmp_eq (rx := some (gF Γ t1.2.2.1)) (ry := some (gF Γ 0)) (tgt := 175) (by decide) dX4_read_160 (fun h160 => ?_) (fun h160 => ?_)
            · -- t 175
              have h160y : t1.2.2.1 = 0 := hinj t1.2.2.1 0 hRr.1.1 (by decide) (Option.some.inj h160)
              have hz := fin_0 (J := J) (f := f1) (m := (m24 + 1 + 1)) hRr h160y
              rw [hX] at hz
              exact g_vret ⟨rfl, F1, S1, t1, R1, lv1, cap1, b1, cnt1, rfl, by rw [hz]; exact hRr, fun z => by rw [hz] at z ⊢; obtain ⟨-, -, hr1, hv1⟩ := hlv1 z; exact ⟨c1, hr1, hv1.le (by have := hRr.2.1.2.1; have := hRr.2.1.2.2.1; omega)⟩, hok1, hP1, hG1⟩ rfl dX4_read_175
            · -- f 163
              have h160n : ¬ t1.2.2.1 = 0 := fun z => h160 (by rw [z])
              refine g_aload_n 0 rfl dX4_read_163 ?_
              refine gn_ic 1 (by decide) dX4_read_164 ?_
              refine g_aload_n 0 rfl dX4_read_165 ?_
              refine g_get f_X4_31 PW_p rfl dX4_read_166 ?_
              refine g_get f_X4_81 PW_t rfl dX4_read_169 ?_
              refine gu_V (c_X4_fail hRr.ek6) l_X4_84 rfl (Rcv.of PW_p rfl) (Nat.le_of_ble_eq_true rfl) (Nat.le_of_ble_eq_true rfl) rfl dX4_read_172 ?_
              have hx3 : s1.2.2.2.2.1 = 0 → ¬ t1.2.2.1 = 3 := fun _ => h46n
              have hz := fin_f (J := J) (f := f1) (m := (m24 + 1)) hRr h160n hx3
              rw [hX] at hz
              exact g_vret ⟨rfl, F1, S1, _, R1, lv1, cap1, b1, cnt1, rfl, hz.1, fun z => absurd z hz.2, hok1, hP1, hG1⟩ rfl dX4_read_175
          · -- f 49
            have h46y : t1.2.2.1 = 3 := hinj t1.2.2.1 3 hRr.1.1 (by decide) (Option.some.inj h46)
            obtain ⟨hR2, hl2, hadv, hs3⟩ := semi hRr hlv h46y
            have hvu : Val (2000 * (tsP inp l s1).2.1) f1 c1 := hv1.le (by omega)
            have h4u := hv1.2.2.2.2
            have hX2 : lsP inp l J (m24 + 1) ((lnF inp l f1 J c1 (tsP inp l s1)), (lnP inp l f1 c1 (tsP inp l s1))) = (txP inp l J (z0 s)) := by rw [← hX, lsP_s (x := (f1, s1)) ⟨hlv, by show s1.1 ≠ 0; omega⟩ hl2, mny_eq hv1.okr]
            refine g_aload_n 0 rfl dX4_read_49 ?_
            refine g_get f_X4_31 PW_p rfl dX4_read_50 ?_
            refine gu_V (c_X6_step PW_t ((PW_o (by omega)).trans hi1) hRr.1.1 hRr.e6 hRr.1.2.2.1) l_X4_54 rfl (Rcv.of PW_t rfl) (Nat.le_of_ble_eq_true rfl) (Nat.le_of_ble_eq_true rfl) rfl dX4_read_53 ?_
            refine g_world (E2 := PW Γ pb ti F1 l (stT inp l t1) R1) PW_st ?_
            refine g_aload_n 0 rfl dX4_read_56 ?_
            refine g_get f_X4_31 PW_p rfl dX4_read_57 ?_
            refine g_ldcS (i := 4) rfl dX4_read_60 ?_
            refine gv_V (c_X6_isWord PW_t ((PW_o (by omega)).trans hi1) hR2.1.1 hl hR2.1.2.2.1 hR2.1.2.1 (ky_sf (key := 2) (by decide)) (ky_ba (key := 2) (by decide)) (ky_a7 (key := 2) (by decide)) (by decide)) l_X4_59 rfl (Rcv.of PW_t rfl) (Nat.le_of_ble_eq_true rfl) (Nat.le_of_ble_eq_true rfl) rfl dX4_read_62 ?_
            refine g_if_eq (tgt := 75) (by decide) dX4_read_65 (fun h65 => ?_) (fun h65 => ?_)
            · -- t 75
              have k2 : ¬ keyP inp (tsP inp l s1) 2 = true := fun z => bi_0 h65 ((hR2.key hl2 (by decide)).mpr z)
              refine g_aload_n 0 rfl dX4_read_75 ?_
              refine g_get f_X4_31 PW_p rfl dX4_read_76 ?_
              refine g_ldcS (i := 11) rfl dX4_read_79 ?_
              refine gv_V (c_X6_isWord PW_t ((PW_o (by omega)).trans hi1) hR2.1.1 hl hR2.1.2.2.1 hR2.1.2.1 (ky_sf (key := 3) (by decide)) (ky_ba (key := 3) (by decide)) (ky_a7 (key := 3) (by decide)) (by decide)) l_X4_59 rfl (Rcv.of PW_t rfl) (Nat.le_of_ble_eq_true rfl) (Nat.le_of_ble_eq_true rfl) rfl dX4_read_81 ?_
              refine g_if_eq (tgt := 94) (by decide) dX4_read_84 (fun h84 => ?_) (fun h84 => ?_)
              · -- t 94
                have k3 : ¬ keyP inp (tsP inp l s1) 3 = true := fun z => bi_0 h84 ((hR2.key hl2 (by decide)).mpr z)
                refine g_aload_n 0 rfl dX4_read_94 ?_
                refine g_get f_X4_31 PW_p rfl dX4_read_95 ?_
                refine g_ldcS (i := 12) rfl dX4_read_98 ?_
                refine gv_V (c_X6_isWord PW_t ((PW_o (by omega)).trans hi1) hR2.1.1 hl hR2.1.2.2.1 hR2.1.2.1 (ky_sf (key := 4) (by decide)) (ky_ba (key := 4) (by decide)) (ky_a7 (key := 4) (by decide)) (by decide)) l_X4_59 rfl (Rcv.of PW_t rfl) (Nat.le_of_ble_eq_true rfl) (Nat.le_of_ble_eq_true rfl) rfl dX4_read_100 ?_
                refine g_if_eq (tgt := 113) (by decide) dX4_read_103 (fun h103 => ?_) (fun h103 => ?_)
                · -- t 113
                  have k4 : ¬ keyP inp (tsP inp l s1) 4 = true := fun z => bi_0 h103 ((hR2.key hl2 (by decide)).mpr z)
                  refine g_aload_n 0 rfl dX4_read_113 ?_
                  refine g_get f_X4_31 PW_p rfl dX4_read_114 ?_
                  refine g_ldcS (i := 13) rfl dX4_read_117 ?_
                  refine gv_V (c_X6_isWord PW_t ((PW_o (by omega)).trans hi1) hR2.1.1 hl hR2.1.2.2.1 hR2.1.2.1 (ky_sf (key := 5) (by decide)) (ky_ba (key := 5) (by decide)) (ky_a7 (key := 5) (by decide)) (by decide)) l_X4_59 rfl (Rcv.of PW_t rfl) (Nat.le_of_ble_eq_true rfl) (Nat.le_of_ble_eq_true rfl) rfl dX4_read_119 ?_
                  refine g_if_eq (tgt := 132) (by decide) dX4_read_122 (fun h122 => ?_) (fun h122 => ?_)
                  · -- t 132
                    have k5 : ¬ keyP inp (tsP inp l s1) 5 = true := fun z => bi_0 h122 ((hR2.key hl2 (by decide)).mpr z)
                    refine g_aload_n 0 rfl dX4_read_132 ?_
                    refine gn_ic 1 (by decide) dX4_read_133 ?_
                    refine g_aload_n 0 rfl dX4_read_134 ?_
                    refine g_get f_X4_31 PW_p rfl dX4_read_135 ?_
                    refine g_get f_X4_81 PW_t rfl dX4_read_138 ?_
                    refine gu_V (c_X4_fail hR2.ek6) l_X4_84 rfl (Rcv.of PW_p rfl) (Nat.le_of_ble_eq_true rfl) (Nat.le_of_ble_eq_true rfl) rfl dX4_read_141 ?_
                    refine gn_inc (lv2 := [(2, _), (0, _), (1, _)]) 2 rfl (by decide) rfl dX4_read_144 ?_
                    refine g_goto (tgt := 24) (by decide) dX4_read_147 ?_
                    refine G.sub [1, 2, 0] rfl ?_
                    have hR3 := hR2.fail (k := 1) (by decide) (by decide)
                    have hrow := hr1
                    rw [← (ln_n (f := f1) (c := c1) (J := J) k2 k3 k4 k5).1] at hR3
                    rw [← (ln_n (f := f1) (c := c1) (J := J) k2 k3 k4 k5).2] at hrow
                    obtain ⟨c9, hv9⟩ := val_ln (J := J) hR2.2.1 hl2 hvu
                    obtain ⟨hv3, hok3⟩ := hrow.val hv9
                    exact ih24 (i + 1) p n1 lv1 cap1 cnt1 c1 _ R1 F1 S1 b1 _ _ (by omega) hX2 hR3 hP1 hG1 hok3 (fun z => ⟨by have := lnP_fr (inp := inp) (f := f1) (c := c1) hR2.2.1; omega, by have := lnP_fr (inp := inp) (f := f1) (c := c1) hR2.2.1; omega, hrow, hv3⟩)
                  · -- f 125
                    have k5 := (hR2.key hl2 (by decide)).mp (bi_n0 h122)
                    have hk1 : (stT inp l t1).2.2.1 = (tsP inp l s1).1 := ((hR2.key (key := 5) hl2 (by decide)).mpr k5).1.trans (keyP_i k5).1.symm
                    refine g_aload_n 0 rfl dX4_read_125 ?_
                    refine gx_V0 (c_X4_readDays (J := J) hR2 hi1 hti hr1 hv1.okr hl2 hk1) l_X4_78 rfl (Rcv.of PW_p rfl) (Nat.le_of_ble_eq_true rfl) (Nat.le_of_ble_eq_true rfl) rfl dX4_read_126 (fun _ _ _ h => h.1) (fun E3 n2 hp => ?_)
                    obtain ⟨-, hn3, t2, R2, rfl, hR3, c2, hrow⟩ := hp
                    have hn4 := hn3.symm
                    subst hn4
                    refine g_goto (tgt := 144) (by decide) dX4_read_129 ?_
                    refine gn_inc (lv2 := [(2, _), (0, _), (1, _)]) 2 rfl (by decide) rfl dX4_read_144 ?_
                    refine g_goto (tgt := 24) (by decide) dX4_read_147 ?_
                    refine G.sub [1, 2, 0] rfl ?_
                    rw [← (ln_5 (f := f1) (c := c1) (J := J) k2 k3 k4 k5).1] at hR3
                    rw [← (ln_5 (f := f1) (c := c1) (J := J) k2 k3 k4 k5).2] at hrow
                    obtain ⟨c9, hv9⟩ := val_ln (J := J) hR2.2.1 hl2 hvu
                    obtain ⟨hv3, hok3⟩ := hrow.val hv9
                    exact ih24 (i + 1) p n1 lv1 cap1 cnt1 c2 t2 R2 F1 S1 b1 _ _ (by omega) hX2 hR3 hP1 hG1 hok3 (fun z => ⟨by have := lnP_fr (inp := inp) (f := f1) (c := c1) hR2.2.1; omega, by have := lnP_fr (inp := inp) (f := f1) (c := c1) hR2.2.1; omega, hrow, hv3⟩)
                · -- f 106
                  have k4 := (hR2.key hl2 (by decide)).mp (bi_n0 h103)
                  have hk1 : (stT inp l t1).2.2.1 = (tsP inp l s1).1 := ((hR2.key (key := 4) hl2 (by decide)).mpr k4).1.trans (keyP_i k4).1.symm
                  refine g_aload_n 0 rfl dX4_read_106 ?_
                  refine gx_V0 (c_X4_readMove hR2 hi1 hti hr1 h4u hP1.2.1 hl2 hk1) l_X4_73 rfl (Rcv.of PW_p rfl) (Nat.le_of_ble_eq_true rfl) (Nat.le_of_ble_eq_true rfl) rfl dX4_read_107 (fun _ _ _ h => h.1) (fun E3 n2 hp => ?_)
                  obtain ⟨-, hn3, t2, R2, rfl, hR3, hrow⟩ := hp
                  have hn4 := hn3.symm
                  subst hn4
                  refine g_goto (tgt := 144) (by decide) dX4_read_110 ?_
                  refine gn_inc (lv2 := [(2, _), (0, _), (1, _)]) 2 rfl (by decide) rfl dX4_read_144 ?_
                  refine g_goto (tgt := 24) (by decide) dX4_read_147 ?_
                  refine G.sub [1, 2, 0] rfl ?_
                  rw [← (ln_4 (J := J) k2 k3 k4).1] at hR3
                  rw [← (ln_4 (J := J) k2 k3 k4).2] at hrow
                  obtain ⟨c9, hv9⟩ := val_ln (J := J) hR2.2.1 hl2 hvu
                  obtain ⟨hv3, hok3⟩ := hrow.val hv9
                  exact ih24 (i + 1) p n1 lv1 cap1 cnt1 c1 t2 R2 F1 S1 b1 _ _ (by omega) hX2 hR3 hP1 hG1 hok3 (fun z => ⟨by have := lnP_fr (inp := inp) (f := f1) (c := c1) hR2.2.1; omega, by have := lnP_fr (inp := inp) (f := f1) (c := c1) hR2.2.1; omega, hrow, hv3⟩)
              · -- f 87
                have k3 := (hR2.key hl2 (by decide)).mp (bi_n0 h84)
                have hk1 : (stT inp l t1).2.2.1 = (tsP inp l s1).1 := ((hR2.key (key := 3) hl2 (by decide)).mpr k3).1.trans (keyP_i k3).1.symm
                refine g_aload_n 0 rfl dX4_read_87 ?_
                refine gx_V0 (c_X4_readPay hR2 hi1 hti hr1 hP1.2.1 hl2 hk1) l_X4_68 rfl (Rcv.of PW_p rfl) (Nat.le_of_ble_eq_true rfl) (Nat.le_of_ble_eq_true rfl) rfl dX4_read_88 (fun _ _ _ h => h.1) (fun E3 n2 hp => ?_)
                obtain ⟨-, hn3, t2, R2, rfl, hR3, hrow⟩ := hp
                have hn4 := hn3.symm
                subst hn4
                refine g_goto (tgt := 144) (by decide) dX4_read_91 ?_
                refine gn_inc (lv2 := [(2, _), (0, _), (1, _)]) 2 rfl (by decide) rfl dX4_read_144 ?_
                refine g_goto (tgt := 24) (by decide) dX4_read_147 ?_
                refine G.sub [1, 2, 0] rfl ?_
                rw [← (ln_3 (J := J) k2 k3).1] at hR3
                rw [← (ln_3 (J := J) k2 k3).2] at hrow
                obtain ⟨c9, hv9⟩ := val_ln (J := J) hR2.2.1 hl2 hvu
                obtain ⟨hv3, hok3⟩ := hrow.val hv9
                exact ih24 (i + 1) p n1 lv1 cap1 cnt1 c1 t2 R2 F1 S1 b1 _ _ (by omega) hX2 hR3 hP1 hG1 hok3 (fun z => ⟨by have := lnP_fr (inp := inp) (f := f1) (c := c1) hR2.2.1; omega, by have := lnP_fr (inp := inp) (f := f1) (c := c1) hR2.2.1; omega, hrow, hv3⟩)
            · -- f 68
              have k2 := (hR2.key hl2 (by decide)).mp (bi_n0 h65)
              have hk1 : (stT inp l t1).2.2.1 = (tsP inp l s1).1 := ((hR2.key (key := 2) hl2 (by decide)).mpr k2).1.trans (keyP_i k2).1.symm
              refine g_aload_n 0 rfl dX4_read_68 ?_
              have hp1 : 1 ≤ p := by have := hRr.2.1.2.1; have := hRr.2.1.2.2.1; omega
              refine G.mono (kc2 := 8 * (p - 1) + 8) (ks2 := 248 * (p - 1) + 248) (show 8 * (p - 1) + 8 ≤ 8 * p by omega) (show 248 * (p - 1) + 248 ≤ 248 * p by omega) ?_
              refine gx_V0 (c_X4_readLodger hR2 hi1 hti hr1 h4u hP1 hl2 hk1) l_X4_63 rfl (Rcv.of PW_p rfl) (Nat.le_of_ble_eq_true rfl) (Nat.le_of_ble_eq_true rfl) rfl dX4_read_69 (fun _ _ _ h => h.1) (fun E3 n2 hp => ?_)
              obtain ⟨-, F2, S2, t2, R2, lv2, cap2, b2, cnt2, c2, rfl, hR3, hrow, hP2, hG2⟩ := hp
              refine g_goto (tgt := 144) (by decide) dX4_read_72 ?_
              refine gn_inc (lv2 := [(2, _), (0, _), (1, _)]) 2 rfl (by decide) rfl dX4_read_144 ?_
              refine g_goto (tgt := 24) (by decide) dX4_read_147 ?_
              refine G.sub [1, 2, 0] rfl ?_
              have hz : lnP inp l f1 c1 (tsP inp l s1) = rlP inp l f1 c1 (tsP inp l s1) := (ln_2 (J := J) k2).1
              rw [← hz] at hR3
              rw [← (ln_2 (J := J) k2).2] at hrow
              obtain ⟨c9, hv9⟩ := val_ln (J := J) hR2.2.1 hl2 hvu
              obtain ⟨hv3, hok3⟩ := hrow.val hv9
              exact ih24 (i + 1) (p - 1) n2 lv2 cap2 cnt2 c2 t2 R2 F2 S2 b2 _ _ (by omega) hX2 hR3 hP2 (hG1.trans hG2) hok3 (fun z => ⟨by have := lnP_fr (inp := inp) (f := f1) (c := c1) hR2.2.1; omega, by by_cases h7 : f1 7 = nI 12; exact absurd z (by rw [hz]; unfold rlP; rw [op_eq, if_pos h7]; exact erP_ne (by decide)); (have := rl_adv hR2.2.1 k2 h7 (by rw [← hz]; exact z); rw [hz]; omega), hrow, hv3⟩)
  refine G.sub [1, 2, 0] rfl ?_
  refine G.mono (kc2 := 8 * 41) (ks2 := 248 * 41) (by omega) (by omega) ?_
  exact L24 l 0 41 n lv cap cnt 0 t1 R1 F S b (hdF inp l (z0 s) 5) (lpP inp l (rtE inp l (z0 s)) 5) (Nat.zero_add _) rfl hR1 hP Grw.refl hok1 (fun z => ⟨Nat.zero_le _, by omega, hrow z, val_hd.le (Nat.zero_le _)⟩)
end GJ18
