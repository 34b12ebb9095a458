section GJ15
section
variable {Γ : Gm} {d : Nat} {M : Mr} {P : Po} {X : Px} {pc : Nat} {lv : List (Nat × Value)} {st rest : List Value} {E : Hp} {n kc ks : Nat}
variable {M1 : Mr} {d1 mc ms ix k b : Nat} {As : List Value} {P1 : Po}
theorem gx_Va (hC : Ct Γ d1 M1 mc ms (.ref b :: As) E n P1 X0) (lk : LkV M.1 ix M1 k) (hk : As.length = k) (hr : Rcv Γ E b M1.1) (hd : d1 + 1 ≤ d) (hrest : (rest.map fun v => v.category).sum ≤ 8) (hst : st = As.reverse ++ .ref b :: rest) (dg : decode M.2.2.1 pc = .ok (.invokevirtual ix, 3)) (hv : ∀ v E1 n1, P1 v E1 n1 → ∃ x, v = some x)
    (kk : ∀ x E1 n1, P1 (some x) E1 n1 → G Γ d M P X (pc + 3) lv (x :: rest) E1 n1 kc ks) : G Γ d M P X pc lv st E n (kc + mc) (ks + ms) := g_invV hC lk hk hr hd hrest hst dg (fun _ _ _ h => h.elim) (fun v E1 n1 h => by obtain ⟨x, e⟩ := hv v E1 n1 h; subst e; exact kk x E1 n1 h)
end
set_option maxRecDepth 100000 in
set_option maxHeartbeats 4000000 in
theorem c_X4_fail {Γ : Gm} {n : Nat} {pb ti e : Nat} {F : Hp} {t : PT} {R : Hr} {k o : Nat} (hek : t.1 ≤ 6) : Ct Γ 1 MX4_fail 0 0 [.ref pb, .int (nI k), .int (nI o)] (PW Γ pb ti F e t R) n (Rt none (PW Γ pb ti F e (flT t k o) R) n) X0 := by
  refine Ct.of (by decide +kernel) rfl (Nat.le_of_ble_eq_true rfl) ?_
  refine G.sub (lv2 := [(0, _), (1, _), (2, _)]) [0, 1, 2] rfl ?_
  refine g_aload_n 0 rfl dX4_fail_0 ?_
  refine g_get f_X4_35 PW_p rfl dX4_fail_1 ?_
  refine gn_if_ne (by omega) (tgt := 17) (by decide) dX4_fail_4 (fun h4 => ?_) (fun h4 => ?_)
  · -- t 17
    exact g_vret ⟨rfl, by rw [flT_n h4], rfl⟩ rfl dX4_fail_17
  · -- f 7
    refine g_aload_n 0 rfl dX4_fail_7 ?_
    refine g_iload_n 1 rfl dX4_fail_8 ?_
    refine g_put f_X4_35 w_X4_3 PW_p (Nat.le_of_ble_eq_true rfl) rfl rfl rfl dX4_fail_9 ?_
    refine g_world (PW_sp (t2 := (k, t.2.1, t.2.2)) rfl) ?_
    refine g_aload_n 0 rfl dX4_fail_12 ?_
    refine g_iload_n 2 rfl dX4_fail_13 ?_
    refine g_put f_X4_18 w_X4_4 PW_p (Nat.le_of_ble_eq_true rfl) rfl rfl rfl dX4_fail_14 ?_
    refine g_world (PW_sp (t2 := (k, nI o, t.2.2)) rfl) ?_
    exact g_vret ⟨rfl, by rw [flT_0 h4], rfl⟩ rfl dX4_fail_17
set_option maxRecDepth 100000 in
set_option maxHeartbeats 4000000 in
theorem c_X4_isAtName {Γ : Gm} {n : Nat} {pb ti e : Nat} {F : Hp} {t : PT} {R : Hr} {inp : Nat → Int32} {s : PS}  (hR : PRel inp e s t) (hi : F ti = some (.inl (gA Γ 1, 600, .inl inp))) (hti : ti < pb)  : Ct Γ 2 MX4_isAtName 0 0 [.ref pb] (PW Γ pb ti F e t R) n (Rt (some (.int (bi (t.2.2.1 = 1 ∧ t.2.2.2.2 - t.2.2.2.1 ≤ 6)))) (PW Γ pb ti F e t R) n) X0 := by
  refine Ct.of (by decide +kernel) rfl (Nat.le_of_ble_eq_true rfl) ?_
  have hek := hR.ek6
  have he := hR.e6
  have hse := hR.1.2.1
  have hen := hR.1.2.2.1
  refine G.tok (fun hinj => ?_)
  refine G.sub (lv2 := [(0, _)]) [0] rfl ?_
  refine g_aload_n 0 rfl dX4_isAtName_0 ?_
  refine g_get f_X4_31 PW_p rfl dX4_isAtName_1 ?_
  refine g_get f_X4_45 PW_t rfl dX4_isAtName_4 ?_
  refine g_gets 1 rfl z_X4_159 dX4_isAtName_7 ?_
  refine g_acmp_ne (rx := some (gF Γ t.2.2.1)) (ry := some (gF Γ 1)) (tgt := 29) (by decide) dX4_isAtName_10 (fun h10 => ?_) (fun h10 => ?_)
  · -- t 29
    have h10n : ¬ t.2.2.1 = 1 := fun z => h10 (by rw [z])
    refine gn_ic 0 (by decide) dX4_isAtName_29 ?_
    exact g_iret ⟨by rw [bi_f (fun z => h10n z.1)], rfl, rfl⟩ (by decide +kernel) rfl dX4_isAtName_30
  · -- f 13
    have h10y : t.2.2.1 = 1 := hinj t.2.2.1 1 hR.1.1 (by decide) (Option.some.inj h10)
    refine g_aload_n 0 rfl dX4_isAtName_13 ?_
    refine g_get f_X4_31 PW_p rfl dX4_isAtName_14 ?_
    refine gv_V (c_X6_size PW_t hse) l_X4_162 rfl (Rcv.of PW_t rfl) (Nat.le_of_ble_eq_true rfl) (Nat.le_of_ble_eq_true rfl) rfl dX4_isAtName_17 ?_
    refine gn_bp 6 (by decide) dX4_isAtName_20 ?_
    refine gn_icmp_gt (by omega) (by omega) (tgt := 29) (by decide) dX4_isAtName_22 (fun h22 => ?_) (fun h22 => ?_)
    · -- t 29
      refine gn_ic 0 (by decide) dX4_isAtName_29 ?_
      exact g_iret ⟨by rw [bi_f (fun z => absurd z.2 (by omega))], rfl, rfl⟩ (by decide +kernel) rfl dX4_isAtName_30
    · -- f 25
      refine gn_ic 1 (by decide) dX4_isAtName_25 ?_
      refine g_goto (tgt := 30) (by decide) dX4_isAtName_26 ?_
      exact g_iret ⟨by rw [bi_t ⟨h10y, by omega⟩], rfl, rfl⟩ (by decide +kernel) rfl dX4_isAtName_30
set_option maxRecDepth 100000 in
set_option maxHeartbeats 4000000 in
theorem c_X4_readNumber {Γ : Gm} {n : Nat} {pb ti e : Nat} {F : Hp} {t : PT} {R : Hr} {inp : Nat → Int32} {s : PS} {lo ub : Nat} (hR : PRel inp e s t) (hi : F ti = some (.inl (gA Γ 1, 600, .inl inp))) (hti : ti < pb) (hlh : lo ≤ ub) (hhi : ub ≤ 999) : Ct Γ 3 MX4_readNumber 0 0 [.ref pb, .int (nI lo), .int (nI ub)] (PW Γ pb ti F e t R) n (fun r E2 n2 => ∃ (v : Nat) (t2 : PT), r = some (.int (nI v)) ∧ n2 = n ∧ E2 = PW Γ pb ti F e t2 R ∧ PRel inp e (tnP inp e lo ub s) t2 ∧ lo ≤ v ∧ v ≤ ub ∧ ((tnP inp e lo ub s).2.2.2.2.1 = 0 → v = hvP lo ub s)) X0 := by
  refine Ct.of (by decide +kernel) rfl (Nat.le_of_ble_eq_true rfl) ?_
  have hek := hR.ek6
  have he := hR.e6
  have hse := hR.1.2.1
  have hen := hR.1.2.2.1
  refine G.tok (fun hinj => ?_)
  refine G.sub (lv2 := [(0, _), (1, _), (2, _)]) [0, 1, 2] rfl ?_
  refine g_aload_n 0 rfl dX4_readNumber_0 ?_
  refine g_get f_X4_31 PW_p rfl dX4_readNumber_1 ?_
  refine g_get f_X4_45 PW_t rfl dX4_readNumber_4 ?_
  refine g_gets 2 rfl z_X4_169 dX4_readNumber_7 ?_
  refine g_acmp_ne (rx := some (gF Γ t.2.2.1)) (ry := some (gF Γ 2)) (tgt := 24) (by decide) dX4_readNumber_10 (fun h10 => ?_) (fun h10 => ?_)
  · -- t 24
    have h10n : ¬ t.2.2.1 = 2 := fun z => h10 (by rw [z])
    refine g_aload_n 0 rfl dX4_readNumber_24 ?_
    refine gn_ic 1 (by decide) dX4_readNumber_25 ?_
    refine g_aload_n 0 rfl dX4_readNumber_26 ?_
    refine g_get f_X4_31 PW_p rfl dX4_readNumber_27 ?_
    refine g_get f_X4_81 PW_t rfl dX4_readNumber_30 ?_
    refine gu_V (c_X4_fail hek) l_X4_84 rfl (Rcv.of PW_p rfl) (Nat.le_of_ble_eq_true rfl) (Nat.le_of_ble_eq_true rfl) rfl dX4_readNumber_33 ?_
    refine g_iload_n 1 rfl dX4_readNumber_36 ?_
    exact g_iret ⟨_, _, rfl, rfl, rfl, (rn_k hR (fun z => h10n z.1)).1, Nat.le_refl _, hlh, (rn_k hR (fun z => h10n z.1)).2⟩ rfl rfl dX4_readNumber_37
  · -- f 13
    have h10y : t.2.2.1 = 2 := hinj t.2.2.1 2 hR.1.1 (by decide) (Option.some.inj h10)
    refine g_aload_n 0 rfl dX4_readNumber_13 ?_
    refine g_get f_X4_31 PW_p rfl dX4_readNumber_14 ?_
    refine gv_V (c_X6_size PW_t hse) l_X4_162 rfl (Rcv.of PW_t rfl) (Nat.le_of_ble_eq_true rfl) (Nat.le_of_ble_eq_true rfl) rfl dX4_readNumber_17 ?_
    refine gn_ic 3 (by decide) dX4_readNumber_20 ?_
    refine gn_icmp_le (by omega) (by omega) (tgt := 38) (by decide) dX4_readNumber_21 (fun h21 => ?_) (fun h21 => ?_)
    · -- t 38
      have h3 : t.2.2.2.2 - t.2.2.2.1 ≤ 3 := by omega
      refine g_aload_n 0 rfl dX4_readNumber_38 ?_
      refine g_get f_X4_31 PW_p rfl dX4_readNumber_39 ?_
      have hvb := vlN_b (inp := inp) (fr := t.2.2.2.1) (t.2.2.2.2 - t.2.2.2.1) (fun j a b => hR.1.2.2.2.2.1 h10y j a (by omega))
      have hvb2 : 10 ^ (t.2.2.2.2 - t.2.2.2.1) ≤ 10 ^ 3 := Nat.pow_le_pow_right (by decide) h3
      refine gv_V (c_X6_value PW_t ((PW_o (by omega)).trans hi) he hen hse h3 (hR.1.2.2.2.2.1 h10y)) l_X4_172 rfl (Rcv.of PW_t rfl) (Nat.le_of_ble_eq_true rfl) (Nat.le_of_ble_eq_true rfl) rfl dX4_readNumber_42 ?_
      refine g_istore_n (lv2 := [(3, _), (0, _), (1, _), (2, _)]) (by decide) rfl dX4_readNumber_45 ?_
      refine g_iload_n 0 rfl dX4_readNumber_46 ?_
      refine g_iload_n 2 rfl dX4_readNumber_47 ?_
      refine gn_icmp_lt (by omega) (by omega) (tgt := 56) (by decide) dX4_readNumber_48 (fun h48 => ?_) (fun h48 => ?_)
      · -- t 56
        refine g_aload_n 1 rfl dX4_readNumber_56 ?_
        refine gn_ic 2 (by decide) dX4_readNumber_57 ?_
        refine g_aload_n 1 rfl dX4_readNumber_58 ?_
        refine g_get f_X4_31 PW_p rfl dX4_readNumber_59 ?_
        refine g_get f_X4_81 PW_t rfl dX4_readNumber_62 ?_
        refine gu_V (c_X4_fail hek) l_X4_84 rfl (Rcv.of PW_p rfl) (Nat.le_of_ble_eq_true rfl) (Nat.le_of_ble_eq_true rfl) rfl dX4_readNumber_65 ?_
        refine g_iload_n 2 rfl dX4_readNumber_68 ?_
        exact g_iret ⟨_, _, rfl, rfl, rfl, (rn_r hR h10y h3 (fun z => absurd z.1 (by omega))).1, Nat.le_refl _, hlh, (rn_r hR h10y h3 (fun z => absurd z.1 (by omega))).2⟩ rfl rfl dX4_readNumber_69
      · -- f 51
        refine g_iload_n 0 rfl dX4_readNumber_51 ?_
        refine g_iload_n 3 rfl dX4_readNumber_52 ?_
        refine gn_icmp_le (by omega) (by omega) (tgt := 70) (by decide) dX4_readNumber_53 (fun h53 => ?_) (fun h53 => ?_)
        · -- t 70
          refine g_aload_n 1 rfl dX4_readNumber_70 ?_
          refine g_get f_X4_31 PW_p rfl dX4_readNumber_71 ?_
          refine gu_V (c_X6_step PW_t ((PW_o (by omega)).trans hi) hR.1.1 he hR.1.2.2.1) l_X4_54 rfl (Rcv.of PW_t rfl) (Nat.le_of_ble_eq_true rfl) (Nat.le_of_ble_eq_true rfl) rfl dX4_readNumber_74 ?_
          refine g_world (E2 := PW Γ pb ti F e (stT inp e t) R) PW_st ?_
          refine g_iload_n 0 rfl dX4_readNumber_77 ?_
          exact g_iret ⟨_, _, rfl, rfl, rfl, (rn_o hR h10y h3 ⟨by omega, by omega⟩).1, by omega, by omega, (rn_o hR h10y h3 ⟨by omega, by omega⟩).2⟩ rfl rfl dX4_readNumber_78
        · -- f 56
          refine g_aload_n 1 rfl dX4_readNumber_56 ?_
          refine gn_ic 2 (by decide) dX4_readNumber_57 ?_
          refine g_aload_n 1 rfl dX4_readNumber_58 ?_
          refine g_get f_X4_31 PW_p rfl dX4_readNumber_59 ?_
          refine g_get f_X4_81 PW_t rfl dX4_readNumber_62 ?_
          refine gu_V (c_X4_fail hek) l_X4_84 rfl (Rcv.of PW_p rfl) (Nat.le_of_ble_eq_true rfl) (Nat.le_of_ble_eq_true rfl) rfl dX4_readNumber_65 ?_
          refine g_iload_n 2 rfl dX4_readNumber_68 ?_
          exact g_iret ⟨_, _, rfl, rfl, rfl, (rn_r hR h10y h3 (fun z => absurd z.2 (by omega))).1, Nat.le_refl _, hlh, (rn_r hR h10y h3 (fun z => absurd z.2 (by omega))).2⟩ rfl rfl dX4_readNumber_69
    · -- f 24
      refine g_aload_n 0 rfl dX4_readNumber_24 ?_
      refine gn_ic 1 (by decide) dX4_readNumber_25 ?_
      refine g_aload_n 0 rfl dX4_readNumber_26 ?_
      refine g_get f_X4_31 PW_p rfl dX4_readNumber_27 ?_
      refine g_get f_X4_81 PW_t rfl dX4_readNumber_30 ?_
      refine gu_V (c_X4_fail hek) l_X4_84 rfl (Rcv.of PW_p rfl) (Nat.le_of_ble_eq_true rfl) (Nat.le_of_ble_eq_true rfl) rfl dX4_readNumber_33 ?_
      refine g_iload_n 1 rfl dX4_readNumber_36 ?_
      exact g_iret ⟨_, _, rfl, rfl, rfl, (rn_k hR (fun z => absurd z.2 (by omega))).1, Nat.le_refl _, hlh, (rn_k hR (fun z => absurd z.2 (by omega))).2⟩ rfl rfl dX4_readNumber_37
set_option maxRecDepth 100000 in
set_option maxHeartbeats 4000000 in
theorem c_X4_readAccent {Γ : Gm} {n : Nat} {pb ti e : Nat} {F : Hp} {t : PT} {R : Hr} {inp : Nat → Int32} {s : PS}  (hR : PRel inp e s t) (hi : F ti = some (.inl (gA Γ 1, 600, .inl inp))) (hti : ti < pb)  : Ct Γ 4 MX4_readAccent 0 0 [.ref pb] (PW Γ pb ti F e t R) n (fun r E2 n2 => ∃ (a : Nat) (t2 : PT), r = some (.int (nI a)) ∧ n2 = n ∧ E2 = PW Γ pb ti F e t2 R ∧ PRel inp e (acP inp e s 5).2 t2 ∧ a < 100000 ∧ ((acP inp e s 5).2.2.2.2.2.1 = 0 → a = (acP inp e s 5).1)) X0 := by
  refine Ct.of (by decide +kernel) rfl (Nat.le_of_ble_eq_true rfl) ?_
  have hek := hR.ek6
  have he := hR.e6
  have hse := hR.1.2.1
  have hen := hR.1.2.2.1
  refine G.sub (lv2 := [(0, _)]) [0] rfl ?_
  refine gn_ic 0 (by decide) dX4_readAccent_0 ?_
  refine g_istore_n (lv2 := [(1, _), (0, _)]) (by decide) rfl dX4_readAccent_1 ?_
  refine gn_ic 0 (by decide) dX4_readAccent_2 ?_
  refine g_istore_n (lv2 := [(2, _), (1, _), (0, _)]) (by decide) rfl dX4_readAccent_3 ?_
  have L4 : ∀ (m4 : Nat) (i q : Nat) (t1 : PT), (i + m4 = 5) → (PRel inp e (acP inp e s i).2 t1) → (q < 10 ^ i) → ((acP inp e s i).2.2.2.2.2.1 = 0 → q = (acP inp e s i).1) → G Γ 4 MX4_readAccent (fun r E2 n2 => ∃ (a : Nat) (t2 : PT), r = some (.int (nI a)) ∧ n2 = n ∧ E2 = PW Γ pb ti F e t2 R ∧ PRel inp e (acP inp e s 5).2 t2 ∧ a < 100000 ∧ ((acP inp e s 5).2.2.2.2.2.1 = 0 → a = (acP inp e s 5).1)) X0 4 [(0, .ref pb), (1, .int (nI q)), (2, .int (nI i))] [] (PW Γ pb ti F e t1 R) n 0 0 := by
    intro m4
    induction m4 with
    | zero =>
      intro i q t1 hi9 hR1 hq hqv
      refine g_iload_n 2 rfl dX4_readAccent_4 ?_
      refine gn_ic 5 (by decide) dX4_readAccent_5 ?_
      refine gn_icmp_ge (by omega) (by omega) (tgt := 28) (by decide) dX4_readAccent_6 (fun h6 => ?_) (fun h6 => ?_)
      · -- t 28
        obtain rfl : i = 5 := by omega
        refine g_iload_n 1 rfl dX4_readAccent_28 ?_
        exact g_iret ⟨q, t1, rfl, rfl, rfl, hR1, hq, hqv⟩ rfl rfl dX4_readAccent_29
      · -- f 9
        exfalso; omega
    | succ m4 ih4 =>
      intro i q t1 hi9 hR1 hq hqv
      refine g_iload_n 2 rfl dX4_readAccent_4 ?_
      refine gn_ic 5 (by decide) dX4_readAccent_5 ?_
      refine gn_icmp_ge (by omega) (by omega) (tgt := 28) (by decide) dX4_readAccent_6 (fun h6 => ?_) (fun h6 => ?_)
      · -- t 28
        exfalso; omega
      · -- f 9
        refine g_iload_n 1 rfl dX4_readAccent_9 ?_
        refine gn_bp 10 (by decide) dX4_readAccent_10 ?_
        refine gn_imul dX4_readAccent_12 ?_
        refine g_aload_n 0 rfl dX4_readAccent_13 ?_
        refine gn_ic 0 (by decide) dX4_readAccent_14 ?_
        refine gn_bp 9 (by decide) dX4_readAccent_15 ?_
        refine gx_Va (c_X4_readNumber hR1 hi hti (by decide) (by decide)) l_X4_96 rfl (Rcv.of PW_p rfl) (Nat.le_of_ble_eq_true rfl) (Nat.le_of_ble_eq_true rfl) rfl dX4_readAccent_17 (fun r E1 n1 h => by obtain ⟨v, t2, h, -⟩ := h; exact ⟨_, h⟩) (fun x E1 n1 hp => ?_)
        obtain ⟨v, t2, h1, hn1, rfl, hR2, hR2a, hR2b, hR2c⟩ := hp
        have hn2 := hn1.symm
        subst hn2
        cases h1
        refine gn_iadd dX4_readAccent_20 ?_
        refine g_istore_n (lv2 := [(1, _), (0, _), (2, _)]) (by decide) rfl dX4_readAccent_21 ?_
        refine gn_inc (lv2 := [(2, _), (1, _), (0, _)]) 2 rfl (by decide) rfl dX4_readAccent_22 ?_
        refine g_goto (tgt := 4) (by decide) dX4_readAccent_25 ?_
        refine G.sub [2, 1, 0] rfl ?_
        refine ih4 (i + 1) _ t2 (by omega) hR2 ?_ (fun z => ?_)
        · rw [Nat.pow_succ]; omega
        · show _ = 10 * (acP inp e s i).1 + hvP 0 9 (acP inp e s i).2
          have := hqv (tnP_live z).1
          have := hR2c z
          omega
  refine G.sub [2, 1, 0] rfl ?_
  exact L4 5 0 0 t rfl hR (by decide) (fun _ => rfl)
set_option maxRecDepth 100000 in
set_option maxHeartbeats 4000000 in
theorem c_X4_expectWord {Γ : Gm} {n : Nat} {pb ti e : Nat} {F : Hp} {t : PT} {R : Hr} {inp : Nat → Int32} {s : PS} {key : Nat} (hR : PRel inp e s t) (hi : F ti = some (.inl (gA Γ 1, 600, .inl inp))) (hti : ti < pb) (hk : key < 6) : Ct Γ 6 MX4_expectWord 0 0 [.ref pb, .ref (gK Γ (kyC key))] (PW Γ pb ti F e t R) n (fun r E2 n2 => r = none ∧ n2 = n ∧ ∃ t2 : PT, E2 = PW Γ pb ti F e t2 R ∧ PRel inp e (twP inp e key s) t2) X0 := by
  refine Ct.of (by decide +kernel) rfl (Nat.le_of_ble_eq_true rfl) ?_
  have hek := hR.ek6
  have he := hR.e6
  have hse := hR.1.2.1
  have hen := hR.1.2.2.1
  refine G.sub (lv2 := [(0, _), (1, _)]) [0, 1] rfl ?_
  refine g_aload_n 0 rfl dX4_expectWord_0 ?_
  refine g_get f_X4_31 PW_p rfl dX4_expectWord_1 ?_
  refine g_aload_n 1 rfl dX4_expectWord_4 ?_
  have hN8 := kyN_le key hk
  refine gv_V (c_X6_isWord PW_t ((PW_o (by omega)).trans hi) hR.1.1 he hR.1.2.2.1 hR.1.2.1 (ky_sf hk) (ky_ba hk) (ky_a7 hk) (by omega)) l_X4_59 rfl (Rcv.of PW_t rfl) (Nat.le_of_ble_eq_true rfl) (Nat.le_of_ble_eq_true rfl) rfl dX4_expectWord_5 ?_
  refine g_if_eq (tgt := 21) (by decide) dX4_expectWord_8 (fun h8 => ?_) (fun h8 => ?_)
  · -- t 21
    have hnp := bi_0 h8
    refine g_aload_n 0 rfl dX4_expectWord_21 ?_
    refine gn_ic 1 (by decide) dX4_expectWord_22 ?_
    refine g_aload_n 0 rfl dX4_expectWord_23 ?_
    refine g_get f_X4_31 PW_p rfl dX4_expectWord_24 ?_
    refine g_get f_X4_81 PW_t rfl dX4_expectWord_27 ?_
    refine gu_V (c_X4_fail hek) l_X4_84 rfl (Rcv.of PW_p rfl) (Nat.le_of_ble_eq_true rfl) (Nat.le_of_ble_eq_true rfl) rfl dX4_expectWord_30 ?_
    exact g_vret ⟨rfl, rfl, _, rfl, ew_n hR hk hnp⟩ rfl dX4_expectWord_33
  · -- f 11
    have hyp := bi_n0 h8
    refine g_aload_n 0 rfl dX4_expectWord_11 ?_
    refine g_get f_X4_31 PW_p rfl dX4_expectWord_12 ?_
    refine gu_V (c_X6_step PW_t ((PW_o (by omega)).trans hi) hR.1.1 he hR.1.2.2.1) l_X4_54 rfl (Rcv.of PW_t rfl) (Nat.le_of_ble_eq_true rfl) (Nat.le_of_ble_eq_true rfl) rfl dX4_expectWord_15 ?_
    refine g_world (E2 := PW Γ pb ti F e (stT inp e t) R) PW_st ?_
    refine g_goto (tgt := 33) (by decide) dX4_expectWord_18 ?_
    exact g_vret ⟨rfl, rfl, _, rfl, ew_y hR hk hyp⟩ rfl dX4_expectWord_33
set_option maxRecDepth 100000 in
set_option maxHeartbeats 4000000 in
theorem c_X4_readFloor_0 {Γ : Gm} {n : Nat} {pb ti e : Nat} {F : Hp} {t : PT} {R : Hr} {inp : Nat → Int32} {s : PS} {S : Hp} {f : Nat → Int32} {c : Nat} {bt : Int32}  (hR : PRel inp e s t) (hi : F ti = some (.inl (gA Γ 1, 600, .inl inp))) (hti : ti < pb) (hr : Rp Γ S f c R) (h4 : Fl4 f c) (hbt : s.2.2.2.2.1 = 0 → bt = (-1))  : Ct Γ 4 MX4_readFloor 0 0 [.ref pb, .null] (PW Γ pb ti F e t R) n (fun r E2 n2 => ∃ (v : Nat) (t2 : PT), r = some (.int (nI v)) ∧ n2 = n ∧ E2 = PW Γ pb ti F e t2 R ∧ PRel inp e (goP inp e (rl6 f (hvP 0 4 s) bt c (hrP 0 4 s))) t2 ∧ v ≤ 4 ∧ ((goP inp e (rl6 f (hvP 0 4 s) bt c (hrP 0 4 s))).2.2.2.2.1 = 0 → v = hvP 0 4 s)) X0 := by
  refine Ct.of (by decide +kernel) rfl (Nat.le_of_ble_eq_true rfl) ?_
  have hek := hR.ek6
  have he := hR.e6
  have hse := hR.1.2.1
  have hen := hR.1.2.2.1
  refine G.sub (lv2 := [(0, _), (1, _)]) [0, 1] rfl ?_
  refine g_aload_n 0 rfl dX4_readFloor_0 ?_
  refine g_get f_X4_31 PW_p rfl dX4_readFloor_1 ?_
  refine g_get f_X4_81 PW_t rfl dX4_readFloor_4 ?_
  refine g_istore_n (lv2 := [(2, _), (0, _), (1, _)]) (by decide) rfl dX4_readFloor_7 ?_
  refine g_aload_n 1 rfl dX4_readFloor_8 ?_
  refine gn_ic 0 (by decide) dX4_readFloor_9 ?_
  refine gn_ic 4 (by decide) dX4_readFloor_10 ?_
  refine gx_Va (c_X4_readNumber hR hi hti (by decide) (by decide)) l_X4_96 rfl (Rcv.of PW_p rfl) (Nat.le_of_ble_eq_true rfl) (Nat.le_of_ble_eq_true rfl) rfl dX4_readFloor_11 (fun r E1 n1 h => by obtain ⟨v, t2, h, -⟩ := h; exact ⟨_, h⟩) (fun x E1 n1 hp => ?_)
  obtain ⟨v, t2, h1, hn1, rfl, hR2, hR2a, hR2b, hR2c⟩ := hp
  have hn2 := hn1.symm
  subst hn2
  cases h1
  refine g_istore_n (lv2 := [(3, _), (2, _), (0, _), (1, _)]) (by decide) rfl dX4_readFloor_14 ?_
  refine g_aload_n 2 rfl dX4_readFloor_15 ?_
  refine g_get f_X4_12 PW_p rfl dX4_readFloor_16 ?_
  refine g_iload_n 0 rfl dX4_readFloor_19 ?_
  refine g_aload_nN 3 rfl dX4_readFloor_20 ?_
  refine gv_V (PW_full none hr (fun _ z => by cases z)) l_X4_175 rfl (Rcv.of PW_h rfl) (Nat.le_of_ble_eq_true rfl) (Nat.le_of_ble_eq_true rfl) rfl dX4_readFloor_21 ?_
  have hA4 := cntOn_A f (nI v) (-1) c
  have h4v := h4 (nI v)
  refine g_if_eq (tgt := 34) (by decide) dX4_readFloor_24 (fun h24 => ?_) (fun h24 => ?_)
  · -- t 34
    have hnf := bi_0 h24
    refine g_iload_n 0 rfl dX4_readFloor_34 ?_
    exact g_iret ⟨v, _, rfl, rfl, rfl, (rf_ok (bt := bt) hR2 hR2c (fun z y => hnf (show 4 ≤ cntOn f (nI v) (-1) c by rw [← hbt (tnP_live z).1]; omega))).1, hR2b, (rf_ok (bt := bt) hR2 hR2c (fun z y => hnf (show 4 ≤ cntOn f (nI v) (-1) c by rw [← hbt (tnP_live z).1]; omega))).2⟩ rfl rfl dX4_readFloor_35
  · -- f 27
    have hyf := bi_n0 h24
    refine g_aload_n 2 rfl dX4_readFloor_27 ?_
    refine gn_bp 6 (by decide) dX4_readFloor_28 ?_
    refine g_iload_n 1 rfl dX4_readFloor_30 ?_
    refine gu_V (c_X4_fail hR2.ek6) l_X4_84 rfl (Rcv.of PW_p rfl) (Nat.le_of_ble_eq_true rfl) (Nat.le_of_ble_eq_true rfl) rfl dX4_readFloor_31 ?_
    refine g_iload_n 0 rfl dX4_readFloor_34 ?_
    exact g_iret ⟨v, _, rfl, rfl, rfl, (rf_full (bt := bt) (f := f) (c := c) hR hR2 hR2c (fun z => by rw [hbt (tnP_live z).1]; have : 4 ≤ cntOn f (nI v) (-1) c := hyf; omega)).1, hR2b, (rf_full (bt := bt) (f := f) (c := c) hR hR2 hR2c (fun z => by rw [hbt (tnP_live z).1]; have : 4 ≤ cntOn f (nI v) (-1) c := hyf; omega)).2⟩ rfl rfl dX4_readFloor_35
set_option maxRecDepth 100000 in
set_option maxHeartbeats 4000000 in
theorem c_X4_readFloor_k {Γ : Gm} {n : Nat} {pb ti e : Nat} {F : Hp} {t : PT} {R : Hr} {inp : Nat → Int32} {s : PS} {S : Hp} {f : Nat → Int32} {c : Nat} {bt : Int32} {k : Nat} (hR : PRel inp e s t) (hi : F ti = some (.inl (gA Γ 1, 600, .inl inp))) (hti : ti < pb) (hr : Rp Γ S f c R) (h4 : Fl4 f c) (hbt : s.2.2.2.2.1 = 0 → bt = (nI k)) (hk : k < c) : Ct Γ 4 MX4_readFloor 0 0 [.ref pb, .ref (pb + 1 + 6 + 3 * hO R k)] (PW Γ pb ti F e t R) n (fun r E2 n2 => ∃ (v : Nat) (t2 : PT), r = some (.int (nI v)) ∧ n2 = n ∧ E2 = PW Γ pb ti F e t2 R ∧ PRel inp e (goP inp e (rl6 f (hvP 0 4 s) bt c (hrP 0 4 s))) t2 ∧ v ≤ 4 ∧ ((goP inp e (rl6 f (hvP 0 4 s) bt c (hrP 0 4 s))).2.2.2.2.1 = 0 → v = hvP 0 4 s)) X0 := by
  refine Ct.of (by decide +kernel) rfl (Nat.le_of_ble_eq_true rfl) ?_
  have hek := hR.ek6
  have he := hR.e6
  have hse := hR.1.2.1
  have hen := hR.1.2.2.1
  refine G.sub (lv2 := [(0, _), (1, _)]) [0, 1] rfl ?_
  refine g_aload_n 0 rfl dX4_readFloor_0 ?_
  refine g_get f_X4_31 PW_p rfl dX4_readFloor_1 ?_
  refine g_get f_X4_81 PW_t rfl dX4_readFloor_4 ?_
  refine g_istore_n (lv2 := [(2, _), (0, _), (1, _)]) (by decide) rfl dX4_readFloor_7 ?_
  refine g_aload_n 1 rfl dX4_readFloor_8 ?_
  refine gn_ic 0 (by decide) dX4_readFloor_9 ?_
  refine gn_ic 4 (by decide) dX4_readFloor_10 ?_
  refine gx_Va (c_X4_readNumber hR hi hti (by decide) (by decide)) l_X4_96 rfl (Rcv.of PW_p rfl) (Nat.le_of_ble_eq_true rfl) (Nat.le_of_ble_eq_true rfl) rfl dX4_readFloor_11 (fun r E1 n1 h => by obtain ⟨v, t2, h, -⟩ := h; exact ⟨_, h⟩) (fun x E1 n1 hp => ?_)
  obtain ⟨v, t2, h1, hn1, rfl, hR2, hR2a, hR2b, hR2c⟩ := hp
  have hn2 := hn1.symm
  subst hn2
  cases h1
  refine g_istore_n (lv2 := [(3, _), (2, _), (0, _), (1, _)]) (by decide) rfl dX4_readFloor_14 ?_
  refine g_aload_n 2 rfl dX4_readFloor_15 ?_
  refine g_get f_X4_12 PW_p rfl dX4_readFloor_16 ?_
  refine g_iload_n 0 rfl dX4_readFloor_19 ?_
  refine g_aload_n 3 rfl dX4_readFloor_20 ?_
  refine gv_V (PW_full (some k) hr (fun _ z => by cases z; exact hk)) l_X4_175 rfl (Rcv.of PW_h rfl) (Nat.le_of_ble_eq_true rfl) (Nat.le_of_ble_eq_true rfl) rfl dX4_readFloor_21 ?_
  have hA4 := cntOn_A f (nI v) (nI k) c
  have h4v := h4 (nI v)
  refine g_if_eq (tgt := 34) (by decide) dX4_readFloor_24 (fun h24 => ?_) (fun h24 => ?_)
  · -- t 34
    have hnf := bi_0 h24
    refine g_iload_n 0 rfl dX4_readFloor_34 ?_
    exact g_iret ⟨v, _, rfl, rfl, rfl, (rf_ok (bt := bt) hR2 hR2c (fun z y => hnf (show 4 ≤ cntOn f (nI v) (nI k) c by rw [← hbt (tnP_live z).1]; omega))).1, hR2b, (rf_ok (bt := bt) hR2 hR2c (fun z y => hnf (show 4 ≤ cntOn f (nI v) (nI k) c by rw [← hbt (tnP_live z).1]; omega))).2⟩ rfl rfl dX4_readFloor_35
  · -- f 27
    have hyf := bi_n0 h24
    refine g_aload_n 2 rfl dX4_readFloor_27 ?_
    refine gn_bp 6 (by decide) dX4_readFloor_28 ?_
    refine g_iload_n 1 rfl dX4_readFloor_30 ?_
    refine gu_V (c_X4_fail hR2.ek6) l_X4_84 rfl (Rcv.of PW_p rfl) (Nat.le_of_ble_eq_true rfl) (Nat.le_of_ble_eq_true rfl) rfl dX4_readFloor_31 ?_
    refine g_iload_n 0 rfl dX4_readFloor_34 ?_
    exact g_iret ⟨v, _, rfl, rfl, rfl, (rf_full (bt := bt) (f := f) (c := c) hR hR2 hR2c (fun z => by rw [hbt (tnP_live z).1]; have : 4 ≤ cntOn f (nI v) (nI k) c := hyf; omega)).1, hR2b, (rf_full (bt := bt) (f := f) (c := c) hR hR2 hR2c (fun z => by rw [hbt (tnP_live z).1]; have : 4 ≤ cntOn f (nI v) (nI k) c := hyf; omega)).2⟩ rfl rfl dX4_readFloor_35
end GJ15
