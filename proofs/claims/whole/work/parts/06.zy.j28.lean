section GJ28
set_option maxRecDepth 100000 in
set_option maxHeartbeats 4000000 in
theorem c_X7_findByName {Γ : Gm} {n : Nat} {E : Hp} {ab : Nat} {S : Hp} {q : CQ} {f : Nat → Int32} {c : Nat}  (hCA : CA Γ ab n S E q) (hr : Rp Γ S f c (q_Q q 1)) (h600 : q_im q ≤ 600) : Ct Γ 7 MX7_findByName 0 0 [.ref ab] (E) n (Rt (some (.int (fbN (q_inp q) f (q_im q) c))) (E) n) X0 := by
  refine Ct.of (by decide +kernel) rfl (Nat.le_of_ble_eq_true rfl) ?_
  have hc12 := hr.2.1
  have hb : (spn (sp32 (q_inp q)) (q_im q) 0) ≤ q_im q := by have := spn_le (sp32 (q_inp q)) (q_im q) 0; omega
  have hj1 := spr_le (q_inp q) (spn (sp32 (q_inp q)) (q_im q) 0) (q_im q)
  have hj2 := spr_ge (q_inp q) (spn (sp32 (q_inp q)) (q_im q) 0) (q_im q) hb
  refine G.sub (lv2 := [(0, _)]) [0] rfl ?_
  refine gn_ic 0 (by decide) dX7_findByName_0 ?_
  refine g_istore_n (lv2 := [(1, _), (0, _)]) (by decide) rfl dX7_findByName_1 ?_
  refine g_aload_n 1 rfl dX7_findByName_2 ?_
  refine g_get f_X7_79 hCA.co rfl dX7_findByName_3 ?_
  refine g_istore_n (lv2 := [(2, _), (1, _), (0, _)]) (by decide) rfl dX7_findByName_6 ?_
  have L7 : ∀ (m7 : Nat) (p : Nat), (p + m7 = q_im q) → (spn (sp32 (q_inp q)) m7 p = (spn (sp32 (q_inp q)) (q_im q) 0)) → G Γ 7 MX7_findByName (Rt (some (.int (fbN (q_inp q) f (q_im q) c))) (E) n) X0 7 [(0, .ref ab), (1, .int (nI p)), (2, .int (nI (q_im q)))] [] (E) n 0 0 := by
    intro m7
    induction m7 with
    | zero =>
      intro p hp hE
      refine g_iload_n 1 rfl dX7_findByName_7 ?_
      refine g_iload_n 2 rfl dX7_findByName_8 ?_
      refine gn_icmp_ge (by omega) (by omega) (tgt := 29) (by decide) dX7_findByName_9 (fun cc1 => ?_) (fun cc1 => ?_)
      · -- t 29
        obtain rfl : p = (spn (sp32 (q_inp q)) (q_im q) 0) := hE
        have L29 : ∀ (m29 : Nat) (j : Nat), (j = (spn (sp32 (q_inp q)) (q_im q) 0) + m29) → (j ≤ q_im q) → (spr (q_inp q) (spn (sp32 (q_inp q)) (q_im q) 0) j = (spr (q_inp q) (spn (sp32 (q_inp q)) (q_im q) 0) (q_im q))) → G Γ 7 MX7_findByName (Rt (some (.int (fbN (q_inp q) f (q_im q) c))) (E) n) X0 29 [(0, .ref ab), (1, .int (nI (spn (sp32 (q_inp q)) (q_im q) 0))), (2, .int (nI j))] [] (E) n 0 0 := by
          intro m29
          induction m29 with
          | zero =>
            intro j hj hjm hE2
            refine g_iload_n 2 rfl dX7_findByName_29 ?_
            refine g_iload_n 1 rfl dX7_findByName_30 ?_
            refine gn_icmp_le (by omega) (by omega) (tgt := 53) (by decide) dX7_findByName_31 (fun cc2 => ?_) (fun cc2 => ?_)
            · -- t 53
              obtain rfl : j = (spr (q_inp q) (spn (sp32 (q_inp q)) (q_im q) 0) (q_im q)) := (spr_f (fun z => by omega)).symm.trans hE2
              refine g_aload_n 0 rfl dX7_findByName_53 ?_
              refine g_get f_X7_36 hCA.co rfl dX7_findByName_54 ?_
              refine g_aload_n 0 rfl dX7_findByName_57 ?_
              refine g_get f_X7_9 hCA.co rfl dX7_findByName_58 ?_
              refine g_iload_n 1 rfl dX7_findByName_61 ?_
              refine g_iload_n 2 rfl dX7_findByName_62 ?_
              refine g_world hCA.h1.eq ?_
              have hS7 := hCA.le
              rw [hCA.h1.eq] at hS7
              refine gv_V (c_X2_numberOf hr hS7 (Or.inl ((HW_o (by omega)).trans hCA.ii)) (by decide) hj2 (by omega)) l_X7_182 rfl (Rcv.of HW_h rfl) (Nat.le_of_ble_eq_true rfl) (Nat.le_of_ble_eq_true rfl) rfl dX7_findByName_63 ?_
              refine g_world hCA.h1.eq.symm ?_
              exact g_iret ⟨rfl, rfl, rfl⟩ rfl rfl dX7_findByName_66
            · -- f 34
              exfalso; omega
          | succ m29 ih29 =>
            intro j hj hjm hE2
            refine g_iload_n 2 rfl dX7_findByName_29 ?_
            refine g_iload_n 1 rfl dX7_findByName_30 ?_
            refine gn_icmp_le (by omega) (by omega) (tgt := 53) (by decide) dX7_findByName_31 (fun cc3 => ?_) (fun cc3 => ?_)
            · -- t 53
              exfalso; omega
            · -- f 34
              refine g_aload_n 0 rfl dX7_findByName_34 ?_
              refine g_get f_X7_9 hCA.co rfl dX7_findByName_35 ?_
              refine g_iload_n 2 rfl dX7_findByName_38 ?_
              refine gn_ic 1 (by decide) dX7_findByName_39 ?_
              refine gn_isub (by omega) dX7_findByName_40 ?_
              refine gn_bald hCA.ii (by omega) (by decide) dX7_findByName_41 ?_
              refine gn_bp 32 (by decide) dX7_findByName_42 ?_
              refine g_icmp_ne (tgt := 53) (by decide) dX7_findByName_44 (fun h44 => ?_) (fun h44 => ?_)
              · -- t 53
                obtain rfl : j = (spr (q_inp q) (spn (sp32 (q_inp q)) (q_im q) 0) (q_im q)) := (spr_f (fun z => h44 z.2)).symm.trans hE2
                refine g_aload_n 0 rfl dX7_findByName_53 ?_
                refine g_get f_X7_36 hCA.co rfl dX7_findByName_54 ?_
                refine g_aload_n 0 rfl dX7_findByName_57 ?_
                refine g_get f_X7_9 hCA.co rfl dX7_findByName_58 ?_
                refine g_iload_n 1 rfl dX7_findByName_61 ?_
                refine g_iload_n 2 rfl dX7_findByName_62 ?_
                refine g_world hCA.h1.eq ?_
                have hS7 := hCA.le
                rw [hCA.h1.eq] at hS7
                refine gv_V (c_X2_numberOf hr hS7 (Or.inl ((HW_o (by omega)).trans hCA.ii)) (by decide) hj2 (by omega)) l_X7_182 rfl (Rcv.of HW_h rfl) (Nat.le_of_ble_eq_true rfl) (Nat.le_of_ble_eq_true rfl) rfl dX7_findByName_63 ?_
                refine g_world hCA.h1.eq.symm ?_
                exact g_iret ⟨rfl, rfl, rfl⟩ rfl rfl dX7_findByName_66
              · -- f 47
                refine gn_dec (lv2 := [(2, _), (0, _), (1, _)]) 2 rfl (by omega) (by decide) rfl dX7_findByName_47 ?_
                refine g_goto (tgt := 29) (by decide) dX7_findByName_50 ?_
                refine G.sub [1, 2, 0] rfl ?_
                exact ih29 (j - 1) (by omega) (by omega) ((spr_t2 (by omega) h44).symm.trans hE2)
        refine G.sub [0, 1, 2] rfl ?_
        exact L29 (q_im q - (spn (sp32 (q_inp q)) (q_im q) 0)) (q_im q) (by omega) (Nat.le_refl _) rfl
      · -- f 12
        exfalso; omega
    | succ m7 ih7 =>
      intro p hp hE
      refine g_iload_n 1 rfl dX7_findByName_7 ?_
      refine g_iload_n 2 rfl dX7_findByName_8 ?_
      refine gn_icmp_ge (by omega) (by omega) (tgt := 29) (by decide) dX7_findByName_9 (fun cc4 => ?_) (fun cc4 => ?_)
      · -- t 29
        exfalso; omega
      · -- f 12
        refine g_aload_n 0 rfl dX7_findByName_12 ?_
        refine g_get f_X7_9 hCA.co rfl dX7_findByName_13 ?_
        refine g_iload_n 1 rfl dX7_findByName_16 ?_
        refine gn_bald hCA.ii (by omega) (by decide) dX7_findByName_17 ?_
        refine gn_bp 32 (by decide) dX7_findByName_18 ?_
        refine g_icmp_ne (tgt := 29) (by decide) dX7_findByName_20 (fun h20 => ?_) (fun h20 => ?_)
        · -- t 29
          obtain rfl : p = (spn (sp32 (q_inp q)) (q_im q) 0) := (spn_f (m := m7 + 1) (fun z => h20 (sp32_t.mp z))).symm.trans hE
          have L29 : ∀ (m29 : Nat) (j : Nat), (j = (spn (sp32 (q_inp q)) (q_im q) 0) + m29) → (j ≤ q_im q) → (spr (q_inp q) (spn (sp32 (q_inp q)) (q_im q) 0) j = (spr (q_inp q) (spn (sp32 (q_inp q)) (q_im q) 0) (q_im q))) → G Γ 7 MX7_findByName (Rt (some (.int (fbN (q_inp q) f (q_im q) c))) (E) n) X0 29 [(0, .ref ab), (1, .int (nI (spn (sp32 (q_inp q)) (q_im q) 0))), (2, .int (nI j))] [] (E) n 0 0 := by
            intro m29
            induction m29 with
            | zero =>
              intro j hj hjm hE2
              refine g_iload_n 2 rfl dX7_findByName_29 ?_
              refine g_iload_n 1 rfl dX7_findByName_30 ?_
              refine gn_icmp_le (by omega) (by omega) (tgt := 53) (by decide) dX7_findByName_31 (fun cc5 => ?_) (fun cc5 => ?_)
              · -- t 53
                obtain rfl : j = (spr (q_inp q) (spn (sp32 (q_inp q)) (q_im q) 0) (q_im q)) := (spr_f (fun z => by omega)).symm.trans hE2
                refine g_aload_n 0 rfl dX7_findByName_53 ?_
                refine g_get f_X7_36 hCA.co rfl dX7_findByName_54 ?_
                refine g_aload_n 0 rfl dX7_findByName_57 ?_
                refine g_get f_X7_9 hCA.co rfl dX7_findByName_58 ?_
                refine g_iload_n 1 rfl dX7_findByName_61 ?_
                refine g_iload_n 2 rfl dX7_findByName_62 ?_
                refine g_world hCA.h1.eq ?_
                have hS7 := hCA.le
                rw [hCA.h1.eq] at hS7
                refine gv_V (c_X2_numberOf hr hS7 (Or.inl ((HW_o (by omega)).trans hCA.ii)) (by decide) hj2 (by omega)) l_X7_182 rfl (Rcv.of HW_h rfl) (Nat.le_of_ble_eq_true rfl) (Nat.le_of_ble_eq_true rfl) rfl dX7_findByName_63 ?_
                refine g_world hCA.h1.eq.symm ?_
                exact g_iret ⟨rfl, rfl, rfl⟩ rfl rfl dX7_findByName_66
              · -- f 34
                exfalso; omega
            | succ m29 ih29 =>
              intro j hj hjm hE2
              refine g_iload_n 2 rfl dX7_findByName_29 ?_
              refine g_iload_n 1 rfl dX7_findByName_30 ?_
              refine gn_icmp_le (by omega) (by omega) (tgt := 53) (by decide) dX7_findByName_31 (fun cc6 => ?_) (fun cc6 => ?_)
              · -- t 53
                exfalso; omega
              · -- f 34
                refine g_aload_n 0 rfl dX7_findByName_34 ?_
                refine g_get f_X7_9 hCA.co rfl dX7_findByName_35 ?_
                refine g_iload_n 2 rfl dX7_findByName_38 ?_
                refine gn_ic 1 (by decide) dX7_findByName_39 ?_
                refine gn_isub (by omega) dX7_findByName_40 ?_
                refine gn_bald hCA.ii (by omega) (by decide) dX7_findByName_41 ?_
                refine gn_bp 32 (by decide) dX7_findByName_42 ?_
                refine g_icmp_ne (tgt := 53) (by decide) dX7_findByName_44 (fun h44 => ?_) (fun h44 => ?_)
                · -- t 53
                  obtain rfl : j = (spr (q_inp q) (spn (sp32 (q_inp q)) (q_im q) 0) (q_im q)) := (spr_f (fun z => h44 z.2)).symm.trans hE2
                  refine g_aload_n 0 rfl dX7_findByName_53 ?_
                  refine g_get f_X7_36 hCA.co rfl dX7_findByName_54 ?_
                  refine g_aload_n 0 rfl dX7_findByName_57 ?_
                  refine g_get f_X7_9 hCA.co rfl dX7_findByName_58 ?_
                  refine g_iload_n 1 rfl dX7_findByName_61 ?_
                  refine g_iload_n 2 rfl dX7_findByName_62 ?_
                  refine g_world hCA.h1.eq ?_
                  have hS7 := hCA.le
                  rw [hCA.h1.eq] at hS7
                  refine gv_V (c_X2_numberOf hr hS7 (Or.inl ((HW_o (by omega)).trans hCA.ii)) (by decide) hj2 (by omega)) l_X7_182 rfl (Rcv.of HW_h rfl) (Nat.le_of_ble_eq_true rfl) (Nat.le_of_ble_eq_true rfl) rfl dX7_findByName_63 ?_
                  refine g_world hCA.h1.eq.symm ?_
                  exact g_iret ⟨rfl, rfl, rfl⟩ rfl rfl dX7_findByName_66
                · -- f 47
                  refine gn_dec (lv2 := [(2, _), (0, _), (1, _)]) 2 rfl (by omega) (by decide) rfl dX7_findByName_47 ?_
                  refine g_goto (tgt := 29) (by decide) dX7_findByName_50 ?_
                  refine G.sub [1, 2, 0] rfl ?_
                  exact ih29 (j - 1) (by omega) (by omega) ((spr_t2 (by omega) h44).symm.trans hE2)
          refine G.sub [0, 1, 2] rfl ?_
          exact L29 (q_im q - (spn (sp32 (q_inp q)) (q_im q) 0)) (q_im q) (by omega) (Nat.le_refl _) rfl
        · -- f 23
          refine gn_inc (lv2 := [(1, _), (0, _), (2, _)]) 1 rfl (by decide) rfl dX7_findByName_23 ?_
          refine g_goto (tgt := 7) (by decide) dX7_findByName_26 ?_
          refine G.sub [1, 0, 2] rfl ?_
          exact ih7 (p + 1) (by omega) ((spn_t (sp32_t.mpr h20)).symm.trans hE)
  refine G.sub [2, 1, 0] rfl ?_
  exact L7 (q_im q) 0 (by omega) rfl
set_option maxRecDepth 100000 in
set_option maxHeartbeats 4000000 in
theorem c_X7_writeLodger_ok {Γ : Gm} {n : Nat} {E : Hp} {ab : Nat} {S : Hp} {q : CQ} {f : Nat → Int32} {c : Nat} {k B : Nat} {o : Nat → Int32} (hCA : CA Γ ab n S E q) (hr : Rp Γ S f c (q_Q q 1)) (hk : k < c) (hB : Bal B (f (13 + 16 * k + 1))) (hB31 : B < 2 ^ 31) (hP5 : ∀ v, v < 5 → Pos (f (13 + 16 * k + 5 + v))) : Ct Γ 9 MX7_writeLodger 9 306 [.ref ab, .int (nI k)] (E) n (fun r E2 n2 => r = some (.int (nI (wnM (lenN f k + 1 + 5 + 1) (f (13 + 16 * k + 1))))) ∧ Out Γ ab n S E q (wnM (lenN f k + 1 + 5 + 1) (f (13 + 16 * k + 1))) (wnO (upd (wrP (upd (wrN o f 0 k (lenN f k)) (lenN f k) (chr (nI 32))) f (lenN f k + 1) k 5) (lenN f k + 1 + 5) (chr (nI 32))) (lenN f k + 1 + 5 + 1) (f (13 + 16 * k + 1))) n2 E2) X0 := by
  refine Ct.of (by decide +kernel) rfl (Nat.le_of_ble_eq_true rfl) ?_
  have hc12 := hr.2.1
  refine G.cst (fun hcs hgb0 => ?_)
  have hgb := hgb0 _ _ hCA.co
  have hl6 := lenN_le (f := f) (k := k)
  refine G.sub (lv2 := [(0, _), (1, _)]) [0, 1] rfl ?_
  refine g_aload_n 0 rfl dX7_writeLodger_0 ?_
  refine g_iload_n 1 rfl dX7_writeLodger_1 ?_
  refine gv_V (Ct.hat hCA.h1 (c_X7_requireLodger_ok hCA.co hr hk)) l_X7_152 rfl (Rcv.of hCA.co rfl) (Nat.le_of_ble_eq_true rfl) (Nat.le_of_ble_eq_true rfl) rfl dX7_writeLodger_2 ?_
  have hko := hr.o12 hk
  obtain ⟨w9, N9, t9, q1, q2, q3, q4, q5, q6⟩ := hr.nam hk
  have hle := nam_len q4 q5 q6
  subst hle
  refine g_astore_n (lv2 := [(2, _), (0, _), (1, _)]) (by decide) rfl dX7_writeLodger_5 ?_
  refine g_aload_n 1 rfl dX7_writeLodger_6 ?_
  refine g_get f_X7_16 hCA.co rfl dX7_writeLodger_7 ?_
  refine gn_ic 0 (by decide) dX7_writeLodger_10 ?_
  refine gx_V0 (c_J4_setLength_d00df hCA.oo) l_X7_295 rfl hCA.oo.rcv (Nat.le_of_ble_eq_true rfl) (Nat.le_of_ble_eq_true rfl) rfl dX7_writeLodger_11 (fun _ _ _ h => h.1) (fun E1 n1 hp => ?_)
  obtain ⟨h1, hp⟩ := hp
  refine G.lt (fun hlt _ => ?_)
  have hOU : Out Γ ab n S E q 0 o n1 E1 := (Out.ini hCA hp hlt).txt0
  obtain ⟨v1, cap1, b1, hCA, hn1, hv1, hF1, ht1⟩ := hOU
  have hSB : SB Γ E1 (ab + 2) v1 cap1 b1 (0) := hCA.oo
  have hov9 : q_ov q = q_ov q := rfl
  refine g_aload_n 1 rfl dX7_writeLodger_14 ?_
  refine g_get f_X7_16 hCA.co rfl dX7_writeLodger_15 ?_
  refine g_aload_n 0 rfl dX7_writeLodger_18 ?_
  refine g_get f_X7_176 (hCA.lod hko) rfl dX7_writeLodger_19 ?_
  refine gx_Vr (c_J4_append_15ec4 hSB (q1.mono (hCA.le _)) (q2.mono (hCA.le _)) (nam_a7 q5) (by rcases q2 with z | ⟨i9, q9, z1, z2, -⟩; exact (hCA.st _ _ z).2.2.2.2; (have := hcs _ _ z1; have hb9 := hCA.bd.2.2.1; replace hb9 : v1 = ab + 3 ∨ ab + 642 ≤ v1 := hb9; omega)) (by show 0 + _ ≤ 34; omega)) l_X7_298 rfl hSB.rcv (Nat.le_of_ble_eq_true rfl) (Nat.le_of_ble_eq_true rfl) rfl dX7_writeLodger_22 (fun _ _ _ h => ⟨_, h.1⟩) (fun x1 E1 n1 hp => ?_)
  obtain ⟨h1, hp⟩ := hp
  cases h1
  refine G.lt (fun hlt _ => ?_)
  have hOU := Out.step hCA hn1 hv1 hF1 hp hlt (out_nam (m := 0) ht1 q5)
  rw [Nat.zero_add] at hOU
  obtain ⟨v1, cap1, b1, hCA, hn1, hv1, hF1, ht1⟩ := hOU
  have hSB : SB Γ E1 (ab + 2) v1 cap1 b1 (lenN f k) := hCA.oo
  have hov9 : q_ov q = q_ov q := rfl
  refine gn_bp 32 (by decide) dX7_writeLodger_25 ?_
  refine gx_Vr (c_J4_append_cf468 (l := 32) hSB (by decide) (by show lenN f k + 1 ≤ 34; omega)) l_X7_302 rfl hSB.rcv (Nat.le_of_ble_eq_true rfl) (Nat.le_of_ble_eq_true rfl) rfl dX7_writeLodger_27 (fun _ _ _ h => ⟨_, h.1⟩) (fun x1 E1 n1 hp => ?_)
  obtain ⟨h1, hp⟩ := hp
  cases h1
  refine G.lt (fun hlt _ => ?_)
  have hOU := Out.step hCA hn1 hv1 hF1 hp hlt (out_chr (o := (wrN o f 0 k (lenN f k))) ht1 (by decide))
  obtain ⟨v1, cap1, b1, hCA, hn1, hv1, hF1, ht1⟩ := hOU
  have hSB : SB Γ E1 (ab + 2) v1 cap1 b1 (lenN f k + 1) := hCA.oo
  have hov9 : q_ov q = q_ov q := rfl
  refine g_pop rfl dX7_writeLodger_30 ?_
  refine gn_ic 0 (by decide) dX7_writeLodger_31 ?_
  refine g_istore_n (lv2 := [(3, _), (2, _), (0, _), (1, _)]) (by decide) rfl dX7_writeLodger_32 ?_
  have L33 : ∀ (m33 : Nat) (v n1 v1 cap1 : Nat) (E1 : Hp) (b1 : Nat → Int32), (v + m33 = 5) → (CA Γ ab n1 S E1 (qO q v1 cap1 (lenN f k + 1 + v) b1)) → (n ≤ n1) → (v1 = q_ov q ∨ n ≤ v1) → (∀ a, a ≠ ab + 2 → a ≠ q_ov q → a < n → E1 a = E a) → (∀ j, j < lenN f k + 1 + v → b1 j = (wrP (upd (wrN o f 0 k (lenN f k)) (lenN f k) (chr (nI 32))) f (lenN f k + 1) k v) j) → G Γ 9 MX7_writeLodger (fun r E2 n2 => r = some (.int (nI (wnM (lenN f k + 1 + 5 + 1) (f (13 + 16 * k + 1))))) ∧ Out Γ ab n S E q (wnM (lenN f k + 1 + 5 + 1) (f (13 + 16 * k + 1))) (wnO (upd (wrP (upd (wrN o f 0 k (lenN f k)) (lenN f k) (chr (nI 32))) f (lenN f k + 1) k 5) (lenN f k + 1 + 5) (chr (nI 32))) (lenN f k + 1 + 5 + 1) (f (13 + 16 * k + 1))) n2 E2) X0 33 [(0, .ref ab), (1, .int (nI k)), (2, (.ref (ab + 50 + 6 + 3 * hO (q_Q q 1) k))), (3, .int (nI v))] [] (E1) n1 (m33 + 2) (34 * m33 + 68) := by
    intro m33
    induction m33 with
    | zero =>
      intro v n1 v1 cap1 E1 b1 hi9 hCA hn1 hv1 hF1 ht1
      refine G.mono (kc2 := 2) (ks2 := 68) (by omega) (by omega) ?_
      have hSB : SB Γ E1 (ab + 2) v1 cap1 b1 (lenN f k + 1 + v) := hCA.oo
      have hov9 : q_ov q = q_ov q := rfl
      refine g_iload_n 3 rfl dX7_writeLodger_33 ?_
      refine gn_ic 5 (by decide) dX7_writeLodger_34 ?_
      refine gn_icmp_ge (by omega) (by omega) (tgt := 61) (by decide) dX7_writeLodger_35 (fun h35 => ?_) (fun h35 => ?_)
      · -- t 61
        obtain rfl : v = 5 := by omega
        refine g_aload_n 0 rfl dX7_writeLodger_61 ?_
        refine g_get f_X7_16 hCA.co rfl dX7_writeLodger_62 ?_
        refine gn_bp 32 (by decide) dX7_writeLodger_65 ?_
        refine gx_Vr (c_J4_append_cf468 (l := 32) hSB (by decide) (by show lenN f k + 1 + 5 + 1 ≤ 34; omega)) l_X7_302 rfl hSB.rcv (Nat.le_of_ble_eq_true rfl) (Nat.le_of_ble_eq_true rfl) rfl dX7_writeLodger_67 (fun _ _ _ h => ⟨_, h.1⟩) (fun x1 E1 n1 hp => ?_)
        obtain ⟨h1, hp⟩ := hp
        cases h1
        refine G.lt (fun hlt _ => ?_)
        have hOU := Out.step hCA hn1 hv1 hF1 hp hlt (out_chr (o := (wrP (upd (wrN o f 0 k (lenN f k)) (lenN f k) (chr (nI 32))) f (lenN f k + 1) k 5)) ht1 (by decide))
        obtain ⟨w8, hw8, hwe8⟩ := hB.iab hB31
        obtain ⟨v1, cap1, b1, hCA, hn1, hv1, hF1, ht1⟩ := hOU
        have hSB : SB Γ E1 (ab + 2) v1 cap1 b1 ((lenN f k + 1 + 5 + 1)) := hCA.oo
        have hov9 : q_ov q = q_ov q := rfl
        refine g_aload_n 2 rfl dX7_writeLodger_70 ?_
        refine g_get f_X7_161 (hCA.lod hko) rfl dX7_writeLodger_71 ?_
        refine g_top (y := (f (13 + 16 * k + 1))) (hr.row hk (i := 1) (by decide)) ?_
        refine gx_Vr (c_J4_append_bf812 (w := w8) (e := if (f (13 + 16 * k + 1)) < 0 then 1 else 0) hSB hwe8 hw8 rfl (by have := sb_dg_10 (w := w8); show (lenN f k + 1 + 5 + 1) + ((if (f (13 + 16 * k + 1)) < 0 then 1 else 0) + sb_dg w8) ≤ 34; split <;> omega)) l_X7_305 rfl hSB.rcv (Nat.le_of_ble_eq_true rfl) (Nat.le_of_ble_eq_true rfl) rfl dX7_writeLodger_74 (fun _ _ _ h => ⟨_, h.1⟩) (fun x1 E1 n1 hp => ?_)
        obtain ⟨h1, hp⟩ := hp
        cases h1
        refine G.lt (fun hlt _ => ?_)
        have hOU := Out.step hCA hn1 hv1 hF1 hp hlt (t := wnO (upd (wrP (upd (wrN o f 0 k (lenN f k)) (lenN f k) (chr (nI 32))) f (lenN f k + 1) k 5) (lenN f k + 1 + 5) (chr (nI 32))) (lenN f k + 1 + 5 + 1) (f (13 + 16 * k + 1))) (by rw [(out_num (o := (upd (wrP (upd (wrN o f 0 k (lenN f k)) (lenN f k) (chr (nI 32))) f (lenN f k + 1) k 5) (lenN f k + 1 + 5) (chr (nI 32)))) (m := (lenN f k + 1 + 5 + 1)) ht1 hwe8 hw8).1]; exact (out_num (m := (lenN f k + 1 + 5 + 1)) ht1 hwe8 hw8).2)
        rw [(out_num (o := (upd (wrP (upd (wrN o f 0 k (lenN f k)) (lenN f k) (chr (nI 32))) f (lenN f k + 1) k 5) (lenN f k + 1 + 5) (chr (nI 32)))) (m := (lenN f k + 1 + 5 + 1)) ht1 hwe8 hw8).1] at hOU
        obtain ⟨v1, cap1, b1, hCA, hn1, hv1, hF1, ht1⟩ := hOU
        have hSB : SB Γ E1 (ab + 2) v1 cap1 b1 (wnM (lenN f k + 1 + 5 + 1) (f (13 + 16 * k + 1))) := hCA.oo
        have hov9 : q_ov q = q_ov q := rfl
        refine g_pop rfl dX7_writeLodger_77 ?_
        refine g_aload_n 0 rfl dX7_writeLodger_78 ?_
        refine g_get f_X7_16 hCA.co rfl dX7_writeLodger_79 ?_
        refine gv_V (c_J4_length_8abf5 hSB) l_X7_308 rfl hSB.rcv (Nat.le_of_ble_eq_true rfl) (Nat.le_of_ble_eq_true rfl) rfl dX7_writeLodger_82 ?_
        exact g_iret ⟨rfl, v1, cap1, b1, hCA, hn1, hv1, hF1, ht1⟩ rfl rfl dX7_writeLodger_85
      · -- f 38
        exfalso; omega
    | succ m33 ih33 =>
      intro v n1 v1 cap1 E1 b1 hi9 hCA hn1 hv1 hF1 ht1
      refine G.mono (kc2 := m33 + 2 + 1) (ks2 := 34 * m33 + 68 + 34) (by omega) (by omega) ?_
      have hSB : SB Γ E1 (ab + 2) v1 cap1 b1 (lenN f k + 1 + v) := hCA.oo
      have hov9 : q_ov q = q_ov q := rfl
      refine g_iload_n 3 rfl dX7_writeLodger_33 ?_
      refine gn_ic 5 (by decide) dX7_writeLodger_34 ?_
      refine gn_icmp_ge (by omega) (by omega) (tgt := 61) (by decide) dX7_writeLodger_35 (fun h35 => ?_) (fun h35 => ?_)
      · -- t 61
        exfalso; omega
      · -- f 38
        have hv5 : v < 5 := by omega
        obtain ⟨p9, hp9, hp9e⟩ := hP5 v hv5
        have hD9 := sb_dg_s hp9
        refine g_aload_n 0 rfl dX7_writeLodger_38 ?_
        refine g_get f_X7_16 hCA.co rfl dX7_writeLodger_39 ?_
        refine g_aload_n 2 rfl dX7_writeLodger_42 ?_
        refine g_get f_X7_164 (hCA.lod hko) rfl dX7_writeLodger_43 ?_
        refine g_get f_X7_140 (hCA.acc hko) rfl dX7_writeLodger_46 ?_
        refine g_iload_n 3 rfl dX7_writeLodger_49 ?_
        refine gn_iald (hCA.pos hko) (by omega) (by decide) dX7_writeLodger_50 ?_
        refine g_top (y := nI p9) ((hr.acc hk hv5).trans hp9e) ?_
        refine gx_Vr (c_J4_append_bf812 (w := p9) (e := 0) hSB (by unfold iabs; rw [if_neg (nI_pos (by omega))]) (by omega) (if_neg (nI_pos (by omega))).symm (by show lenN f k + 1 + v + (0 + sb_dg p9) ≤ 34; omega)) l_X7_305 rfl hSB.rcv (Nat.le_of_ble_eq_true rfl) (Nat.le_of_ble_eq_true rfl) rfl dX7_writeLodger_51 (fun _ _ _ h => ⟨_, h.1⟩) (fun x1 E1 n1 hp => ?_)
        obtain ⟨h1, hp⟩ := hp
        cases h1
        refine G.lt (fun hlt _ => ?_)
        have hOU := Out.step hCA hn1 hv1 hF1 hp hlt (t := (wrP (upd (wrN o f 0 k (lenN f k)) (lenN f k) (chr (nI 32))) f (lenN f k + 1) k (v + 1))) (by rw [hD9]; exact out_pos ht1 hp9e hp9 rfl)
        rw [hD9] at hOU
        obtain ⟨v1, cap1, b1, hCA, hn1, hv1, hF1, ht1⟩ := hOU
        have hSB : SB Γ E1 (ab + 2) v1 cap1 b1 (lenN f k + 1 + v + (0 + 1)) := hCA.oo
        have hov9 : q_ov q = q_ov q := rfl
        refine g_pop rfl dX7_writeLodger_54 ?_
        refine gn_inc (lv2 := [(3, _), (0, _), (1, _), (2, _)]) 3 rfl (by decide) rfl dX7_writeLodger_55 ?_
        refine g_goto (tgt := 33) (by decide) dX7_writeLodger_58 ?_
        refine G.sub [1, 2, 3, 0] rfl ?_
        exact ih33 (v + 1) n1 v1 cap1 E1 b1 (by omega) hCA hn1 hv1 hF1 ht1
  refine G.sub [2, 3, 1, 0] rfl ?_
  refine G.mono (kc2 := 5 + 2) (ks2 := 34 * 5 + 68) (by decide) (by decide) ?_
  exact L33 5 0 n1 v1 cap1 E1 b1 rfl hCA hn1 hv1 hF1 ht1
set_option maxRecDepth 100000 in
set_option maxHeartbeats 4000000 in
theorem c_X7_writeFloor_ok {Γ : Gm} {n : Nat} {E : Hp} {ab : Nat} {S : Hp} {q : CQ} {f : Nat → Int32} {c : Nat} {φ : Nat} {o : Nat → Int32} (hCA : CA Γ ab n S E q) (hr : Rp Γ S f c (q_Q q 1)) (hφ : φ < 5) (h4 : Fl4 f c) : Ct Γ 9 MX7_writeFloor 24 816 [.ref ab, .int (nI φ)] (E) n (fun r E2 n2 => r = some (.int (nI ((wfP f (nI φ) o c).2))) ∧ Out Γ ab n S E q ((wfP f (nI φ) o c).2) ((wfP f (nI φ) o c).1) n2 E2) X0 := by
  refine Ct.of (by decide +kernel) rfl (Nat.le_of_ble_eq_true rfl) ?_
  have hc12 := hr.2.1
  refine G.cst (fun hcs hgb0 => ?_)
  have hgb := hgb0 _ _ hCA.co
  have h4φ := h4 (nI φ)
  refine G.sub (lv2 := [(0, _), (1, _)]) [0, 1] rfl ?_
  refine g_aload_n 0 rfl dX7_writeFloor_0 ?_
  refine g_iload_n 1 rfl dX7_writeFloor_1 ?_
  refine g_world hCA.h1.eq ?_
  refine gu_V (c_X7_requireFloor_ok hCA.co hφ) l_X7_126 rfl (Rcv.of ((congrFun hCA.h1.eq.symm _).trans hCA.co) rfl) (Nat.le_of_ble_eq_true rfl) (Nat.le_of_ble_eq_true rfl) rfl dX7_writeFloor_2 ?_
  refine g_world hCA.h1.eq.symm ?_
  refine g_aload_n 0 rfl dX7_writeFloor_5 ?_
  refine g_get f_X7_16 hCA.co rfl dX7_writeFloor_6 ?_
  refine gn_ic 0 (by decide) dX7_writeFloor_9 ?_
  refine gx_V0 (c_J4_setLength_d00df hCA.oo) l_X7_295 rfl hCA.oo.rcv (Nat.le_of_ble_eq_true rfl) (Nat.le_of_ble_eq_true rfl) rfl dX7_writeFloor_10 (fun _ _ _ h => h.1) (fun E1 n1 hp => ?_)
  obtain ⟨h1, hp⟩ := hp
  refine G.lt (fun hlt _ => ?_)
  have hOU : Out Γ ab n S E q 0 o n1 E1 := (Out.ini hCA hp hlt).txt0
  obtain ⟨v1, cap1, b1, hCA, hn1, hv1, hF1, ht1⟩ := hOU
  have hSB : SB Γ E1 (ab + 2) v1 cap1 b1 (0) := hCA.oo
  have hov9 : q_ov q = q_ov q := rfl
  refine gn_ic 0 (by decide) dX7_writeFloor_13 ?_
  refine g_istore_n (lv2 := [(2, _), (0, _), (1, _)]) (by decide) rfl dX7_writeFloor_14 ?_
  have L15 : ∀ (m15 : Nat) (i n1 v1 cap1 : Nat) (E1 : Hp) (b1 : Nat → Int32), (i + m15 = c) → (CA Γ ab n1 S E1 (qO q v1 cap1 (wfP f (nI φ) o i).2 b1)) → (n ≤ n1) → (v1 = q_ov q ∨ n ≤ v1) → (∀ a, a ≠ ab + 2 → a ≠ q_ov q → a < n → E1 a = E a) → (∀ j, j < (wfP f (nI φ) o i).2 → b1 j = (wfP f (nI φ) o i).1 j) → G Γ 9 MX7_writeFloor (fun r E2 n2 => r = some (.int (nI ((wfP f (nI φ) o c).2))) ∧ Out Γ ab n S E q ((wfP f (nI φ) o c).2) ((wfP f (nI φ) o c).1) n2 E2) X0 15 [(0, .ref ab), (1, .int (nI φ)), (2, .int (nI i))] [] (E1) n1 (2 * m15) (68 * m15) := by
    intro m15
    induction m15 with
    | zero =>
      intro i n1 v1 cap1 E1 b1 hi9 hCA hn1 hv1 hF1 ht1
      refine G.mono (kc2 := 0) (ks2 := 0) (by omega) (by omega) ?_
      have hSB : SB Γ E1 (ab + 2) v1 cap1 b1 ((wfP f (nI φ) o i).2) := hCA.oo
      have hov9 : q_ov q = q_ov q := rfl
      refine g_iload_n 2 rfl dX7_writeFloor_15 ?_
      refine g_aload_n 0 rfl dX7_writeFloor_16 ?_
      refine g_get f_X7_36 hCA.co rfl dX7_writeFloor_17 ?_
      refine g_get f_X7_114 hCA.ho rfl dX7_writeFloor_20 ?_
      refine g_top (y := nI c) hr.cnt ?_
      refine gn_icmp_ge (by omega) (by omega) (tgt := 88) (by decide) dX7_writeFloor_23 (fun h23 => ?_) (fun h23 => ?_)
      · -- t 88
        obtain rfl : i = c := by omega
        refine g_aload_n 0 rfl dX7_writeFloor_88 ?_
        refine g_get f_X7_16 hCA.co rfl dX7_writeFloor_89 ?_
        refine gv_V (c_J4_length_8abf5 hSB) l_X7_308 rfl hSB.rcv (Nat.le_of_ble_eq_true rfl) (Nat.le_of_ble_eq_true rfl) rfl dX7_writeFloor_92 ?_
        exact g_iret ⟨rfl, v1, cap1, b1, hCA, hn1, hv1, hF1, ht1⟩ rfl rfl dX7_writeFloor_95
      · -- f 26
        exfalso; omega
    | succ m15 ih15 =>
      intro i n1 v1 cap1 E1 b1 hi9 hCA hn1 hv1 hF1 ht1
      obtain ⟨kX, hkX⟩ : ∃ kX, kX = 2 * m15 := ⟨_, rfl⟩
      obtain ⟨sX, hsX⟩ : ∃ sX, sX = 68 * m15 := ⟨_, rfl⟩
      refine G.mono (kc2 := kX + 1 + 1) (ks2 := sX + 34 + 34) (by omega) (by omega) ?_
      have hSB : SB Γ E1 (ab + 2) v1 cap1 b1 ((wfP f (nI φ) o i).2) := hCA.oo
      have hov9 : q_ov q = q_ov q := rfl
      refine g_iload_n 2 rfl dX7_writeFloor_15 ?_
      refine g_aload_n 0 rfl dX7_writeFloor_16 ?_
      refine g_get f_X7_36 hCA.co rfl dX7_writeFloor_17 ?_
      refine g_get f_X7_114 hCA.ho rfl dX7_writeFloor_20 ?_
      refine g_top (y := nI c) hr.cnt ?_
      refine gn_icmp_ge (by omega) (by omega) (tgt := 88) (by decide) dX7_writeFloor_23 (fun h23 => ?_) (fun h23 => ?_)
      · -- t 88
        exfalso; omega
      · -- f 26
        have hic : i < c := by omega
        have hko := hr.o12 hic
        have hb28 : (wfP f (nI φ) o (i + 1)).2 ≤ 28 := by have z1 := wfP_le (f := f) (o := o) (fl := nI φ) (i + 1); have z2 := cntA_mo (f := f) (fl := nI φ) (c - (i + 1)) (i + 1); rw [show i + 1 + (c - (i + 1)) = c by omega] at z2; omega
        obtain ⟨w9, N9, t9, q1, q2, q3, q4, q5, q6⟩ := hr.nam hic
        have hle := nam_len q4 q5 q6
        subst hle
        refine g_aload_n 0 rfl dX7_writeFloor_26 ?_
        refine g_get f_X7_36 hCA.co rfl dX7_writeFloor_27 ?_
        refine g_get f_X7_208 hCA.ho rfl dX7_writeFloor_30 ?_
        refine g_iload_n 2 rfl dX7_writeFloor_33 ?_
        refine ca_aald hCA (by omega) dX7_writeFloor_34 ?_
        refine g_get f_X7_156 (hCA.lod hko) rfl dX7_writeFloor_35 ?_
        refine g_top (y := f (13 + 16 * i)) (hr.row hic (i := 0) (by decide)) ?_
        refine g_iload_n 1 rfl dX7_writeFloor_38 ?_
        refine g_icmp_ne (tgt := 82) (by decide) dX7_writeFloor_39 (fun h39 => ?_) (fun h39 => ?_)
        · -- t 82
          refine gn_inc (lv2 := [(2, _), (0, _), (1, _)]) 2 rfl (by decide) rfl dX7_writeFloor_82 ?_
          refine g_goto (tgt := 15) (by decide) dX7_writeFloor_85 ?_
          refine G.sub [1, 2, 0] rfl ?_
          refine G.mono (kc2 := 2 * m15) (ks2 := 68 * m15) (by omega) (by omega) ?_
          rw [← wfP_n (o := o) h39] at hCA ht1
          exact ih15 (i + 1) n1 v1 cap1 E1 b1 (by omega) hCA hn1 hv1 hF1 ht1
        · -- f 42
          refine g_aload_n 0 rfl dX7_writeFloor_42 ?_
          refine g_get f_X7_16 hCA.co rfl dX7_writeFloor_43 ?_
          obtain ⟨kY, hkY⟩ : ∃ kY, kY = kX + 1 + 1 := ⟨_, rfl⟩
          obtain ⟨sY, hsY⟩ : ∃ sY, sY = sX + 34 + 34 := ⟨_, rfl⟩
          refine G.mono (kc2 := kY) (ks2 := sY) (by omega) (by omega) ?_
          refine gv_V (c_J4_length_8abf5 hSB) l_X7_308 rfl hSB.rcv (Nat.le_of_ble_eq_true rfl) (Nat.le_of_ble_eq_true rfl) rfl dX7_writeFloor_46 ?_
          refine G.mono (kc2 := kX + 1 + 1) (ks2 := sX + 34 + 34) (by omega) (by omega) ?_
          refine gn_if_le (by have := wfP_ln (f := f) (o := o) (fl := nI φ) (k := i); omega) (tgt := 62) (by decide) dX7_writeFloor_49 (fun h49 => ?_) (fun h49 => ?_)
          · -- t 62
            refine g_aload_n 0 rfl dX7_writeFloor_62 ?_
            refine g_get f_X7_16 hCA.co rfl dX7_writeFloor_63 ?_
            refine g_aload_n 0 rfl dX7_writeFloor_66 ?_
            refine g_get f_X7_36 hCA.co rfl dX7_writeFloor_67 ?_
            refine g_get f_X7_208 hCA.ho rfl dX7_writeFloor_70 ?_
            refine g_iload_n 2 rfl dX7_writeFloor_73 ?_
            refine ca_aald hCA (by omega) dX7_writeFloor_74 ?_
            refine g_get f_X7_176 (hCA.lod hko) rfl dX7_writeFloor_75 ?_
            refine gx_Vr (c_J4_append_15ec4 hSB (q1.mono (hCA.le _)) (q2.mono (hCA.le _)) (nam_a7 q5) (by rcases q2 with z | ⟨i9, q9, z1, z2, -⟩; exact (hCA.st _ _ z).2.2.2.2; (have := hcs _ _ z1; have hb9 := hCA.bd.2.2.1; replace hb9 : v1 = ab + 3 ∨ ab + 642 ≤ v1 := hb9; omega)) (by show (wfP f (nI φ) o i).2 + _ ≤ 34; have z := wfP_0 (o := o) h39 h49; rw [z] at hb28; replace hb28 : lenN f i ≤ 28 := hb28; omega)) l_X7_298 rfl hSB.rcv (Nat.le_of_ble_eq_true rfl) (Nat.le_of_ble_eq_true rfl) rfl dX7_writeFloor_78 (fun _ _ _ h => ⟨_, h.1⟩) (fun x1 E1 n1 hp => ?_)
            obtain ⟨h1, hp⟩ := hp
            cases h1
            refine G.lt (fun hlt _ => ?_)
            have hOU := Out.step hCA hn1 hv1 hF1 hp hlt (out_nam (m := (wfP f (nI φ) o i).2) ht1 q5)
            have e9 := wfP_0 (o := o) h39 h49
            rw [h49, Nat.zero_add] at hOU
            replace hOU : Out Γ ab n S E q (wfP f (nI φ) o (i + 1)).2 (wfP f (nI φ) o (i + 1)).1 n1 E1 := by rw [e9]; exact hOU
            obtain ⟨v1, cap1, b1, hCA, hn1, hv1, hF1, ht1⟩ := hOU
            have hSB : SB Γ E1 (ab + 2) v1 cap1 b1 ((wfP f (nI φ) o (i + 1)).2) := hCA.oo
            have hov9 : q_ov q = q_ov q := rfl
            · skip
              refine g_pop rfl dX7_writeFloor_81 ?_
              refine gn_inc (lv2 := [(2, _), (0, _), (1, _)]) 2 rfl (by decide) rfl dX7_writeFloor_82 ?_
              refine g_goto (tgt := 15) (by decide) dX7_writeFloor_85 ?_
              refine G.sub [1, 2, 0] rfl ?_
              refine G.mono (kc2 := 2 * m15) (ks2 := 68 * m15) (by omega) (by omega) ?_
              exact ih15 (i + 1) n1 v1 cap1 E1 b1 (by omega) hCA hn1 hv1 hF1 ht1
          · -- f 52
            refine g_aload_n 0 rfl dX7_writeFloor_52 ?_
            refine g_get f_X7_16 hCA.co rfl dX7_writeFloor_53 ?_
            refine gn_bp 44 (by decide) dX7_writeFloor_56 ?_
            refine gx_Vr (c_J4_append_cf468 (l := 44) hSB (by decide) (by have z := wfP_1 (o := o) h39 h49; rw [z] at hb28; replace hb28 : (wfP f (nI φ) o i).2 + 1 + lenN f i ≤ 28 := hb28; show (wfP f (nI φ) o i).2 + 1 ≤ 34; omega)) l_X7_302 rfl hSB.rcv (Nat.le_of_ble_eq_true rfl) (Nat.le_of_ble_eq_true rfl) rfl dX7_writeFloor_58 (fun _ _ _ h => ⟨_, h.1⟩) (fun x1 E1 n1 hp => ?_)
            obtain ⟨h1, hp⟩ := hp
            cases h1
            refine G.lt (fun hlt _ => ?_)
            have hOU := Out.step hCA hn1 hv1 hF1 hp hlt (out_chr (o := (wfP f (nI φ) o i).1) ht1 (by decide))
            obtain ⟨v1, cap1, b1, hCA, hn1, hv1, hF1, ht1⟩ := hOU
            have hSB : SB Γ E1 (ab + 2) v1 cap1 b1 ((wfP f (nI φ) o i).2 + 1) := hCA.oo
            have hov9 : q_ov q = q_ov q := rfl
            refine g_pop rfl dX7_writeFloor_61 ?_
            refine g_aload_n 0 rfl dX7_writeFloor_62 ?_
            refine g_get f_X7_16 hCA.co rfl dX7_writeFloor_63 ?_
            refine g_aload_n 0 rfl dX7_writeFloor_66 ?_
            refine g_get f_X7_36 hCA.co rfl dX7_writeFloor_67 ?_
            refine g_get f_X7_208 hCA.ho rfl dX7_writeFloor_70 ?_
            refine g_iload_n 2 rfl dX7_writeFloor_73 ?_
            refine ca_aald hCA (by omega) dX7_writeFloor_74 ?_
            refine g_get f_X7_176 (hCA.lod hko) rfl dX7_writeFloor_75 ?_
            refine gx_Vr (c_J4_append_15ec4 hSB (q1.mono (hCA.le _)) (q2.mono (hCA.le _)) (nam_a7 q5) (by rcases q2 with z | ⟨i9, q9, z1, z2, -⟩; exact (hCA.st _ _ z).2.2.2.2; (have := hcs _ _ z1; have hb9 := hCA.bd.2.2.1; replace hb9 : v1 = ab + 3 ∨ ab + 642 ≤ v1 := hb9; omega)) (by show (wfP f (nI φ) o i).2 + 1 + _ ≤ 34; have z := wfP_1 (o := o) h39 h49; rw [z] at hb28; replace hb28 : (wfP f (nI φ) o i).2 + 1 + lenN f i ≤ 28 := hb28; omega)) l_X7_298 rfl hSB.rcv (Nat.le_of_ble_eq_true rfl) (Nat.le_of_ble_eq_true rfl) rfl dX7_writeFloor_78 (fun _ _ _ h => ⟨_, h.1⟩) (fun x1 E1 n1 hp => ?_)
            obtain ⟨h1, hp⟩ := hp
            cases h1
            refine G.lt (fun hlt _ => ?_)
            have hOU := Out.step hCA hn1 hv1 hF1 hp hlt (out_nam (m := (wfP f (nI φ) o i).2 + 1) ht1 q5)
            have e9 := wfP_1 (o := o) h39 h49
            replace hOU : Out Γ ab n S E q (wfP f (nI φ) o (i + 1)).2 (wfP f (nI φ) o (i + 1)).1 n1 E1 := by rw [e9]; exact hOU
            obtain ⟨v1, cap1, b1, hCA, hn1, hv1, hF1, ht1⟩ := hOU
            have hSB : SB Γ E1 (ab + 2) v1 cap1 b1 ((wfP f (nI φ) o (i + 1)).2) := hCA.oo
            have hov9 : q_ov q = q_ov q := rfl
            · skip
              refine g_pop rfl dX7_writeFloor_81 ?_
              refine gn_inc (lv2 := [(2, _), (0, _), (1, _)]) 2 rfl (by decide) rfl dX7_writeFloor_82 ?_
              refine g_goto (tgt := 15) (by decide) dX7_writeFloor_85 ?_
              refine G.sub [1, 2, 0] rfl ?_
              refine G.mono (kc2 := 2 * m15) (ks2 := 68 * m15) (by omega) (by omega) ?_
              exact ih15 (i + 1) n1 v1 cap1 E1 b1 (by omega) hCA hn1 hv1 hF1 ht1
  refine G.sub [1, 2, 0] rfl ?_
  refine G.mono (kc2 := 2 * c) (ks2 := 68 * c) (by omega) (by omega) ?_
  exact L15 c 0 n1 v1 cap1 E1 b1 (Nat.zero_add _) hCA hn1 hv1 hF1 ht1
end GJ28
