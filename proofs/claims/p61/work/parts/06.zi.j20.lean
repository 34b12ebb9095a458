section GJ20
set_option maxRecDepth 100000 in
set_option maxHeartbeats 4000000 in
theorem c_X6_init {Γ : Gm} {n : Nat} {E : Hp} {a ti : Nat} (hE : E a = some (.inr (9, dfX6))) : Ct Γ 6 MX6_init 2 20 [.ref a, .ref ti] (E) n (fun v E2 n2 => v = none ∧ n2 = n + 2 ∧ E2 a = some (.inr (9, tkF Γ ti n 0 0 0 0)) ∧ SB Γ E2 n (n + 1) 16 (fun _ => nI 0) 0 ∧ ∀ q, q ≠ a → q < n → E2 q = E q) X0 := by
  refine Ct.of (by decide +kernel) rfl (Nat.le_of_ble_eq_true rfl) ?_
  refine G.lt (fun hlt _ => ?_)
  have ha := hlt _ _ hE
  refine G.sub (lv2 := [(0, _), (1, _)]) [0, 1] rfl ?_
  refine g_aload_n 0 rfl dX6_init_0 ?_
  refine g_objInit (wl_1 195 rfl rfl) (wl_1 35 rfl rfl) (wl_1 36 rfl rfl) (Nat.le_of_ble_eq_true rfl) (Nat.le_of_ble_eq_true rfl) dX6_init_1 ?_
  refine g_aload_n 0 rfl dX6_init_4 ?_
  refine gn_sb (wl_1 196 rfl rfl) (wl_1 38 rfl rfl) (wl_1 3 rfl rfl) dX6_init_5 (fun hB5 hf5 => ?_)
  refine g_dup rfl dX6_init_8 ?_
  refine gu_I (c_J4_init_da8c8 hset_s) l_X6_9 rfl (Nat.le_of_ble_eq_true rfl) (Nat.le_of_ble_eq_true rfl) rfl dX6_init_9 ?_
  refine g_putF f_X6_10 w_X6_1 ⟨_, _, rfl⟩ rfl ((hset_n (by omega)).trans ((hset_n (by omega)).trans ((hset_n (by omega)).trans (hE)))) (Nat.le_of_ble_eq_true rfl) rfl rfl rfl dX6_init_12 ?_
  refine g_aload_n 0 rfl dX6_init_15 ?_
  refine g_gets 0 rfl z_X6_16 dX6_init_16 ?_
  refine g_put f_X6_22 w_X6_3 hset_s (Nat.le_of_ble_eq_true rfl) rfl rfl rfl dX6_init_19 ?_
  refine g_world hset_hs ?_
  refine g_aload_n 0 rfl dX6_init_22 ?_
  refine g_aload_n 1 rfl dX6_init_23 ?_
  refine g_putF f_X6_25 w_X6_0 ⟨_, _, rfl⟩ rfl hset_s (Nat.le_of_ble_eq_true rfl) rfl rfl rfl dX6_init_24 ?_
  refine g_world hset_hs ?_
  exact g_vret ⟨rfl, rfl, hset_s, ⟨⟨_, (hset_n (by omega)).trans (hset_s)⟩, (hset_n (by omega)).trans ((hset_n (by omega)).trans (hset_s)), A7.zero, Or.inl rfl, Nat.zero_le _⟩, fun q g1 g2 => (hset_n (by omega)).trans ((hset_n (by omega)).trans ((hset_n (by omega)).trans ((hset_n (by omega)).trans (rfl))))⟩ rfl dX6_init_27
set_option maxRecDepth 100000 in
set_option maxHeartbeats 4000000 in
theorem c_X4_init {Γ : Gm} {E : Hp} {pb ti : Nat} (hE : E pb = some (.inr (8, dfX4))) : Ct Γ 7 MX4_init 45 217 [.ref pb, .ref ti] (E) (pb + 1) (fun v E2 n2 => v = none ∧ n2 = pb + 46 ∧ E2 pb = some (.inr (8, prF pb ti (0, -1, 0, 0, 0))) ∧ E2 (pb + 43) = some (.inr (9, tkF Γ ti (pb + 44) 0 0 0 0)) ∧ SB Γ E2 (pb + 44) (pb + 45) 16 (fun _ => nI 0) 0 ∧ HAt Γ E2 (pb + 1) (R0 Γ) ∧ ∀ q, q < pb → E2 q = E q) X0 := by
  refine Ct.of (by decide +kernel) rfl (Nat.le_of_ble_eq_true rfl) ?_
  refine G.sub (lv2 := [(0, _), (1, _)]) [0, 1] rfl ?_
  refine g_aload_n 0 rfl dX4_init_0 ?_
  refine g_objInit (wl_1 75 rfl rfl) (wl_1 35 rfl rfl) (wl_1 36 rfl rfl) (Nat.le_of_ble_eq_true rfl) (Nat.le_of_ble_eq_true rfl) dX4_init_1 ?_
  refine g_aload_n 0 rfl dX4_init_4 ?_
  refine gn_X2 (wl_1 76 rfl rfl) (wl_1 77 rfl rfl) (wl_1 7 rfl rfl) dX4_init_5 (fun hB5 hf5 => ?_)
  refine g_dup rfl dX4_init_8 ?_
  refine gx_I0 (c_X2_init hset_s) l_X4_11 rfl (Nat.le_of_ble_eq_true rfl) (Nat.le_of_ble_eq_true rfl) rfl dX4_init_9 (fun _ _ _ h => h.1) (fun E3 n3 hp => ?_)
  obtain ⟨-, rfl, a2, a3⟩ := hp
  refine g_putF f_X4_12 w_X4_2 ⟨_, _, rfl⟩ rfl ((a3 pb (by omega)).trans ((hset_n (by omega)).trans hE)) (Nat.le_of_ble_eq_true rfl) rfl rfl rfl dX4_init_12 ?_
  refine g_aload_n 0 rfl dX4_init_15 ?_
  refine g_iconst (v := -1) dX4_init_16 (by decide) ?_
  refine g_put f_X4_18 w_X4_4 hset_s (Nat.le_of_ble_eq_true rfl) rfl rfl rfl dX4_init_17 ?_
  refine g_world hset_hs ?_
  refine g_aload_n 0 rfl dX4_init_20 ?_
  refine g_aload_n 1 rfl dX4_init_21 ?_
  refine g_putF f_X4_22 w_X4_0 ⟨_, _, rfl⟩ rfl hset_s (Nat.le_of_ble_eq_true rfl) rfl rfl rfl dX4_init_22 ?_
  refine g_world hset_hs ?_
  refine g_aload_n 0 rfl dX4_init_25 ?_
  refine gn_X6 (wl_1 190 rfl rfl) (wl_1 191 rfl rfl) (wl_1 10 rfl rfl) dX4_init_26 (fun hB26 hf26 => ?_)
  refine g_dup rfl dX4_init_29 ?_
  refine g_aload_n 1 rfl dX4_init_30 ?_
  refine gx_I0 (c_X6_init hset_s) l_X4_28 rfl (Nat.le_of_ble_eq_true rfl) (Nat.le_of_ble_eq_true rfl) rfl dX4_init_31 (fun _ _ _ h => h.1) (fun E4 n4 hp => ?_)
  obtain ⟨-, rfl, t1, t2, t3⟩ := hp
  refine g_putF f_X4_31 w_X4_1 ⟨_, _, rfl⟩ rfl ((t3 pb (by omega) (by omega)).trans ((hset_n (by omega)).trans hset_s)) (Nat.le_of_ble_eq_true rfl) rfl rfl rfl dX4_init_34 ?_
  obtain ⟨⟨ml, s1⟩, s2, s3⟩ := t2
  exact g_vret ⟨rfl, rfl, hset_s, (hset_n (by omega)).trans t1, ⟨⟨ml, (hset_n (by omega)).trans s1⟩, (hset_n (by omega)).trans s2, s3⟩, fun j hj => (hset_n (by omega)).trans ((t3 _ (by omega) (by omega)).trans ((hset_n (by omega)).trans ((hset_n (by omega)).trans (a2 j hj)))), fun q hq => (hset_n (by omega)).trans ((t3 _ (by omega) (by omega)).trans ((hset_n (by omega)).trans ((hset_n (by omega)).trans ((a3 q (by omega)).trans (hset_n (by omega))))))⟩ rfl dX4_init_37
set_option maxRecDepth 100000 in
set_option maxHeartbeats 4000000 in
theorem c_X1_init {Γ : Gm} {E : Hp} {a : Nat} (hE : E a = some (.inr (5, dfX1))) : Ct Γ 5 MX1_init 421 1920 [.ref a] (E) (a + 1) (fun v E2 n2 => v = none ∧ n2 = a + 422 ∧ E2 a = some (.inr (5, [.ref (a + 1), .int (nI 0), .int (nI 0)])) ∧ E2 (a + 1) = some (.inl (gA Γ 6, 10, .inr (.inr (.inr (.inr (fun k => some (a + 2 + 42 * k))))))) ∧ (∀ j, j < 10 → HAt Γ E2 (a + 2 + 42 * j) (R0 Γ)) ∧ ∀ q, q < a → E2 q = E q) X0 := by
  refine Ct.of (by decide +kernel) rfl (Nat.le_of_ble_eq_true rfl) ?_
  refine G.sub (lv2 := [(0, _)]) [0] rfl ?_
  refine g_aload_n 0 rfl dX1_init_0 ?_
  refine g_objInit (wl_2 8 rfl rfl) (wl_1 35 rfl rfl) (wl_1 36 rfl rfl) (Nat.le_of_ble_eq_true rfl) (Nat.le_of_ble_eq_true rfl) dX1_init_1 ?_
  refine g_aload_n 0 rfl dX1_init_4 ?_
  refine gn_bp 10 (by decide) dX1_init_5 ?_
  refine gn_aH (wl_2 9 rfl rfl) dX1_init_7 (fun hB7 hf7 => ?_)
  refine g_putF f_X1_11 w_X1_0 ⟨_, _, rfl⟩ rfl ((hset_n (by omega)).trans (hE)) (Nat.le_of_ble_eq_true rfl) rfl rfl rfl dX1_init_10 ?_
  refine gn_ic 0 (by decide) dX1_init_13 ?_
  refine g_istore_n (lv2 := [(1, _), (0, _)]) (by decide) rfl dX1_init_14 ?_
  have L15 : ∀ (m15 : Nat) (i : Nat) (E1 : Hp), (i + m15 = 10) → (E1 a = some (.inr (5, [.ref (a + 1), .int (nI 0), .int (nI 0)]))) → (E1 (a + 1) = some (.inl (gA Γ 6, 10, .inr (.inr (.inr (.inr (reF (a + 2) i 42))))))) → (∀ j, j < i → HAt Γ E1 (a + 2 + 42 * j) (R0 Γ)) → (∀ q, q < a → E1 q = E q) → G Γ 5 MX1_init (fun v E2 n2 => v = none ∧ n2 = a + 422 ∧ E2 a = some (.inr (5, [.ref (a + 1), .int (nI 0), .int (nI 0)])) ∧ E2 (a + 1) = some (.inl (gA Γ 6, 10, .inr (.inr (.inr (.inr (fun k => some (a + 2 + 42 * k))))))) ∧ (∀ j, j < 10 → HAt Γ E2 (a + 2 + 42 * j) (R0 Γ)) ∧ ∀ q, q < a → E2 q = E q) X0 15 [(0, .ref a), (1, .int (nI i))] [] (E1) (a + 2 + 42 * i) (42 * m15) (191 * m15) := by
    intro m15
    induction m15 with
    | zero =>
      intro i E1 hi9 h1 h2 h3 h4
      refine g_iload_n 1 rfl dX1_init_15 ?_
      refine gn_bp 10 (by decide) dX1_init_16 ?_
      refine gn_icmp_ge (by omega) (by omega) (tgt := 40) (by decide) dX1_init_18 (fun h18 => ?_) (fun h18 => ?_)
      · -- t 40
        obtain rfl : i = 10 := by omega
        refine g_agr (g := fun k => some (a + 2 + 42 * k)) h2 (fun j hj => if_pos hj) ?_
        exact g_vret ⟨rfl, rfl, (hset_n (by omega)).trans h1, hset_s, fun j hj k hk => (hset_n (by omega)).trans (h3 j hj k hk), fun q hq => (hset_n (by omega)).trans (h4 q hq)⟩ rfl dX1_init_40
      · -- f 21
        exfalso; omega
    | succ m15 ih15 =>
      intro i E1 hi9 h1 h2 h3 h4
      refine G.mono (kc2 := 42 * m15 + 42) (ks2 := 191 * m15 + 191) (show 42 * m15 + 42 ≤ 42 * (m15 + 1) by omega) (show 191 * m15 + 191 ≤ 191 * (m15 + 1) by omega) ?_
      refine g_iload_n 1 rfl dX1_init_15 ?_
      refine gn_bp 10 (by decide) dX1_init_16 ?_
      refine gn_icmp_ge (by omega) (by omega) (tgt := 40) (by decide) dX1_init_18 (fun h18 => ?_) (fun h18 => ?_)
      · -- t 40
        exfalso; omega
      · -- f 21
        refine g_aload_n 0 rfl dX1_init_21 ?_
        refine g_get f_X1_11 h1 rfl dX1_init_22 ?_
        refine g_iload_n 1 rfl dX1_init_25 ?_
        refine gn_X2 (wl_2 9 rfl rfl) (wl_1 77 rfl rfl) (wl_1 7 rfl rfl) dX1_init_26 (fun hB26 hf26 => ?_)
        refine g_dup rfl dX1_init_29 ?_
        refine gx_I0 (c_X2_init hset_s) l_X1_17 rfl (Nat.le_of_ble_eq_true rfl) (Nat.le_of_ble_eq_true rfl) rfl dX1_init_30 (fun _ _ _ h => h.1) (fun E3 n3 hp => ?_)
        obtain ⟨-, rfl, a2, a3⟩ := hp
        refine g_aast (t := 6) (r := ("AccentHouse$House", TX2, 11)) ((a3 _ (by omega)).trans ((hset_n (by omega)).trans h2)) rfl (a2 0 (by decide)) rfl (vp_in_nI (by omega) (by decide)) dX1_init_33 ?_
        refine gn_inc (lv2 := [(1, _), (0, _)]) 1 rfl (by decide) rfl dX1_init_34 ?_
        refine g_goto (tgt := 15) (by decide) dX1_init_37 ?_
        refine G.sub [1, 0] rfl ?_
        refine ih15 (i + 1) _ (by omega) ((hset_n (by omega)).trans ((a3 _ (by omega)).trans ((hset_n (by omega)).trans h1))) (by rw [reF_s (by omega)]; exact hset_s) (fun j hj k hk => ?_) (fun q hq => (hset_n (by omega)).trans ((a3 _ (by omega)).trans ((hset_n (by omega)).trans (h4 q hq))))
        by_cases h : j = i
        · subst h; exact (hset_n (by omega)).trans (a2 k hk)
        · exact (hset_n (by omega)).trans ((a3 _ (by omega)).trans ((hset_n (by omega)).trans (h3 j (by omega) k hk)))
  refine G.sub [1, 0] rfl ?_
  refine G.mono (kc2 := 42 * 10) (ks2 := 191 * 10) (by decide) (by decide) ?_
  exact L15 10 0 _ rfl hset_s ((hset_n (by omega)).trans hset_s) (fun j hj => absurd hj (Nat.not_lt_zero j)) (fun q hq => (hset_n (by omega)).trans (hset_n (by omega)))
end GJ20
