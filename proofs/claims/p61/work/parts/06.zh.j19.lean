section GJ19
section
variable {Γ : Gm} {d : Nat} {M : Mr} {P : Po} {X : Px} {pc : Nat} {lv : List (Nat × Value)} {st rest : List Value} {E : Hp} {n kc ks : Nat}
def dfX0 : List Value := [.null]
theorem gn_X0 {ix : Nat} (hl : Cond.classLink M.1 ix "AccentHouse$Accent" ∈ wl) (hi : Cond.instantiable "AccentHouse$Accent" 1 ∈ wl) (hini : Cond.initialized "AccentHouse$Accent" ∈ wl) (dg : decode M.2.2.1 pc = .ok (.new ix, 3)) (kk : gB Γ ≤ n → (∀ a e, E a = some e → a < n) → G Γ d M P X (pc + 3) lv (.ref n :: st) (hset E n (.inr (4, dfX0))) (n + 1) kc ks) : G Γ d M P X pc lv st E n (kc + 1) (ks + 1) :=
  g_new (ci := 4) (C := "AccentHouse$Accent") (T := TX0) (ty := tyX0) rfl u_X0 tyX0_ok hl hi hini (fun j hj => by
    have h : j = 0 := by omega
    subst h; rfl) dg kk
def dfX1 : List Value := [.null, .int (nI 0), .int (nI 0)]
theorem gn_X1 {ix : Nat} (hl : Cond.classLink M.1 ix "AccentHouse$History" ∈ wl) (hi : Cond.instantiable "AccentHouse$History" 3 ∈ wl) (hini : Cond.initialized "AccentHouse$History" ∈ wl) (dg : decode M.2.2.1 pc = .ok (.new ix, 3)) (kk : gB Γ ≤ n → (∀ a e, E a = some e → a < n) → G Γ d M P X (pc + 3) lv (.ref n :: st) (hset E n (.inr (5, dfX1))) (n + 1) kc ks) : G Γ d M P X pc lv st E n (kc + 1) (ks + 3) :=
  g_new (ci := 5) (C := "AccentHouse$History") (T := TX1) (ty := tyX1) rfl u_X1 tyX1_ok hl hi hini (fun j hj => by
    have h : j = 0 ∨ j = 1 ∨ j = 2 := by omega
    rcases h with rfl | rfl | rfl <;> rfl) dg kk
def dfX2 : List Value := [.int (nI 0), .int (nI 0), .int (nI 0), .int (nI 0), .int (nI 0), .int (nI 0), .int (nI 0), .int (nI 0), .null, .null, .null]
theorem gn_X2 {ix : Nat} (hl : Cond.classLink M.1 ix "AccentHouse$House" ∈ wl) (hi : Cond.instantiable "AccentHouse$House" 11 ∈ wl) (hini : Cond.initialized "AccentHouse$House" ∈ wl) (dg : decode M.2.2.1 pc = .ok (.new ix, 3)) (kk : gB Γ ≤ n → (∀ a e, E a = some e → a < n) → G Γ d M P X (pc + 3) lv (.ref n :: st) (hset E n (.inr (6, dfX2))) (n + 1) kc ks) : G Γ d M P X pc lv st E n (kc + 1) (ks + 11) :=
  g_new (ci := 6) (C := "AccentHouse$House") (T := TX2) (ty := tyX2) rfl u_X2 tyX2_ok hl hi hini (fun j hj => by
    have h : j = 0 ∨ j = 1 ∨ j = 2 ∨ j = 3 ∨ j = 4 ∨ j = 5 ∨ j = 6 ∨ j = 7 ∨ j = 8 ∨ j = 9 ∨ j = 10 := by omega
    rcases h with rfl | rfl | rfl | rfl | rfl | rfl | rfl | rfl | rfl | rfl | rfl <;> rfl) dg kk
def dfX3 : List Value := [.null, .int (nI 0), .int (nI 0), .int (nI 0), .int (nI 0), .int (nI 0), .null]
theorem gn_X3 {ix : Nat} (hl : Cond.classLink M.1 ix "AccentHouse$Lodger" ∈ wl) (hi : Cond.instantiable "AccentHouse$Lodger" 7 ∈ wl) (hini : Cond.initialized "AccentHouse$Lodger" ∈ wl) (dg : decode M.2.2.1 pc = .ok (.new ix, 3)) (kk : gB Γ ≤ n → (∀ a e, E a = some e → a < n) → G Γ d M P X (pc + 3) lv (.ref n :: st) (hset E n (.inr (7, dfX3))) (n + 1) kc ks) : G Γ d M P X pc lv st E n (kc + 1) (ks + 7) :=
  g_new (ci := 7) (C := "AccentHouse$Lodger") (T := TX3) (ty := tyX3) rfl u_X3 tyX3_ok hl hi hini (fun j hj => by
    have h : j = 0 ∨ j = 1 ∨ j = 2 ∨ j = 3 ∨ j = 4 ∨ j = 5 ∨ j = 6 := by omega
    rcases h with rfl | rfl | rfl | rfl | rfl | rfl | rfl <;> rfl) dg kk
def dfX4 : List Value := [.null, .null, .null, .int (nI 0), .int (nI 0)]
theorem gn_X4 {ix : Nat} (hl : Cond.classLink M.1 ix "AccentHouse$Parser" ∈ wl) (hi : Cond.instantiable "AccentHouse$Parser" 5 ∈ wl) (hini : Cond.initialized "AccentHouse$Parser" ∈ wl) (dg : decode M.2.2.1 pc = .ok (.new ix, 3)) (kk : gB Γ ≤ n → (∀ a e, E a = some e → a < n) → G Γ d M P X (pc + 3) lv (.ref n :: st) (hset E n (.inr (8, dfX4))) (n + 1) kc ks) : G Γ d M P X pc lv st E n (kc + 1) (ks + 5) :=
  g_new (ci := 8) (C := "AccentHouse$Parser") (T := TX4) (ty := tyX4) rfl u_X4 tyX4_ok hl hi hini (fun j hj => by
    have h : j = 0 ∨ j = 1 ∨ j = 2 ∨ j = 3 ∨ j = 4 := by omega
    rcases h with rfl | rfl | rfl | rfl | rfl <;> rfl) dg kk
def dfX6 : List Value := [.null, .null, .int (nI 0), .null, .int (nI 0), .int (nI 0)]
theorem gn_X6 {ix : Nat} (hl : Cond.classLink M.1 ix "AccentHouse$Tokens" ∈ wl) (hi : Cond.instantiable "AccentHouse$Tokens" 6 ∈ wl) (hini : Cond.initialized "AccentHouse$Tokens" ∈ wl) (dg : decode M.2.2.1 pc = .ok (.new ix, 3)) (kk : gB Γ ≤ n → (∀ a e, E a = some e → a < n) → G Γ d M P X (pc + 3) lv (.ref n :: st) (hset E n (.inr (9, dfX6))) (n + 1) kc ks) : G Γ d M P X pc lv st E n (kc + 1) (ks + 6) :=
  g_new (ci := 9) (C := "AccentHouse$Tokens") (T := TX6) (ty := tyX6) rfl u_X6 tyX6_ok hl hi hini (fun j hj => by
    have h : j = 0 ∨ j = 1 ∨ j = 2 ∨ j = 3 ∨ j = 4 ∨ j = 5 := by omega
    rcases h with rfl | rfl | rfl | rfl | rfl | rfl <;> rfl) dg kk
theorem gn_aL {ix N : Nat} (hl : Cond.classLink M.1 ix "AccentHouse$Lodger" ∈ wl) (dg : decode M.2.2.1 pc = .ok (.anewarray ix, 3)) (kk : gB Γ ≤ n → (∀ a e, E a = some e → a < n) → G Γ d M P X (pc + 3) lv (.ref n :: st) (hset E n (.inl (gA Γ 5, N, .inr (.inr (.inr (.inr (fun _ => none))))))) (n + 1) kc ks) (hN : N < 1000 := by decide) : G Γ d M P X pc lv (.int (nI N) :: st) E n (kc + 1) (ks + N) :=
  g_anew (t := 5) (C := "AccentHouse$Lodger") rfl hl (fun U H h => h.2.2.2.2.2.2.2.1.1) (nI_pos (by omega)) (nI_clamp (by omega)) (by omega) dg kk
theorem gn_aH {ix N : Nat} (hl : Cond.classLink M.1 ix "AccentHouse$House" ∈ wl) (dg : decode M.2.2.1 pc = .ok (.anewarray ix, 3)) (kk : gB Γ ≤ n → (∀ a e, E a = some e → a < n) → G Γ d M P X (pc + 3) lv (.ref n :: st) (hset E n (.inl (gA Γ 6, N, .inr (.inr (.inr (.inr (fun _ => none))))))) (n + 1) kc ks) (hN : N < 1000 := by decide) : G Γ d M P X pc lv (.int (nI N) :: st) E n (kc + 1) (ks + N) :=
  g_anew (t := 6) (C := "AccentHouse$House") rfl hl (fun U H h => h.2.2.2.2.2.2.2.1.2) (nI_pos (by omega)) (nI_clamp (by omega)) (by omega) dg kk
theorem HS_agr {H : Heap} {a t N : Nat} {f g : Nat → Option Nat} (he : E a = some (.inl (gA Γ t, N, .inr (.inr (.inr (.inr f)))))) (h : ∀ j, j < N → f j = g j) (hs : HS Γ E H) : HS Γ (hset E a (.inl (gA Γ t, N, .inr (.inr (.inr (.inr g)))))) H := by
  intro b e hb
  by_cases hab : b = a
  · subst hab
    rw [hset_s] at hb
    cases hb
    obtain ⟨h1, h2⟩ := hs b _ he
    refine ⟨?_, h2⟩
    have h1' : H[b]? = some (vp_cell (gA Γ t) (N, .inr (.inr (.inr (.inr f))))) := h1
    show H[b]? = some (vp_cell (gA Γ t) (N, .inr (.inr (.inr (.inr g)))))
    rw [h1', vp_cell_q, vp_cell_q]
    exact congrArg some (arrV_c fun j hj => by rw [h j hj])
  · rw [hset_n hab] at hb; exact hs b e hb
theorem g_agr {a t N : Nat} {f g : Nat → Option Nat} (he : E a = some (.inl (gA Γ t, N, .inr (.inr (.inr (.inr f)))))) (h : ∀ j, j < N → f j = g j) (k : G Γ d M P X pc lv st (hset E a (.inl (gA Γ t, N, .inr (.inr (.inr (.inr g)))))) n kc ks) : G Γ d M P X pc lv st E n kc ks := G.conv (fun _ => HS_agr he h) k
end
theorem l_X2_11 : LkIN RX2 11 MX0_init 0 := ⟨.head _, (wl_1 85 rfl rfl), rfl, (wl_1 8 rfl rfl), k_X0_init, n_X0_init, rfl⟩
theorem l_X2_27 : LkIN RX2 27 MX3_init 0 := ⟨.tail _ (.head _), (wl_1 99 rfl rfl), rfl, (wl_1 9 rfl rfl), k_X3_init, n_X3_init, rfl⟩
theorem l_X3_17 : LkIN RX3 17 MX0_init 0 := ⟨.tail _ (.tail _ (.head _)), (wl_1 85 rfl rfl), rfl, (wl_1 8 rfl rfl), k_X0_init, n_X0_init, rfl⟩
set_option maxRecDepth 100000 in
set_option maxHeartbeats 4000000 in
theorem c_X0_init {Γ : Gm} {n : Nat} {E : Hp} {a : Nat} (hE : E a = some (.inr (4, dfX0))) : Ct Γ 2 MX0_init 1 5 [.ref a] (E) n (Rt none (hset (hset E n (.inl (gA Γ 0, 5, .inl (fun _ => nI 0)))) a (.inr (4, [.ref n]))) (n + 1)) X0 := by
  refine Ct.of (by decide +kernel) rfl (Nat.le_of_ble_eq_true rfl) ?_
  refine G.lt (fun hlt _ => ?_)
  have ha := hlt _ _ hE
  refine G.sub (lv2 := [(0, _)]) [0] rfl ?_
  refine g_aload_n 0 rfl dX0_init_0 ?_
  refine g_objInit (wl_1 87 rfl rfl) (wl_1 35 rfl rfl) (wl_1 36 rfl rfl) (Nat.le_of_ble_eq_true rfl) (Nat.le_of_ble_eq_true rfl) dX0_init_1 ?_
  refine g_aload_n 0 rfl dX0_init_4 ?_
  refine gn_ic 5 (by decide) dX0_init_5 ?_
  refine gn_ni (wl_1 94 rfl rfl) (by decide) dX0_init_6 (fun hB6 hf6 => ?_)
  refine g_putF f_X0_9 w_X0_0 ⟨_, _, rfl⟩ rfl ((hset_n (by omega)).trans (hE)) (Nat.le_of_ble_eq_true rfl) rfl rfl rfl dX0_init_8 ?_
  exact g_vret ⟨rfl, rfl, rfl⟩ rfl dX0_init_11
set_option maxRecDepth 100000 in
set_option maxHeartbeats 4000000 in
theorem c_X3_init {Γ : Gm} {n : Nat} {E : Hp} {a : Nat} (hE : E a = some (.inr (7, dfX3))) : Ct Γ 3 MX3_init 2 6 [.ref a] (E) n (fun v E2 n2 => v = none ∧ n2 = n + 2 ∧ E2 a = some (.inr (7, [.ref (gK Γ 0), .int (nI 0), .int (nI 0), .int (nI 0), .int (nI 0), .int (nI 0), .ref n])) ∧ E2 n = some (.inr (4, [.ref (n + 1)])) ∧ E2 (n + 1) = some (.inl (gA Γ 0, 5, .inl (fun _ => nI 0))) ∧ ∀ q, q ≠ a → q < n → E2 q = E q) X0 := by
  refine Ct.of (by decide +kernel) rfl (Nat.le_of_ble_eq_true rfl) ?_
  refine G.lt (fun hlt _ => ?_)
  have ha := hlt _ _ hE
  refine G.sub (lv2 := [(0, _)]) [0] rfl ?_
  refine g_aload_n 0 rfl dX3_init_0 ?_
  refine g_objInit (wl_1 101 rfl rfl) (wl_1 35 rfl rfl) (wl_1 36 rfl rfl) (Nat.le_of_ble_eq_true rfl) (Nat.le_of_ble_eq_true rfl) dX3_init_1 ?_
  refine g_aload_n 0 rfl dX3_init_4 ?_
  refine g_ldcS (i := 0) rfl dX3_init_5 ?_
  refine g_put f_X3_9 w_X3_0 hE (Nat.le_of_ble_eq_true rfl) rfl rfl rfl dX3_init_7 ?_
  refine g_aload_n 0 rfl dX3_init_10 ?_
  refine gn_X0 (wl_1 103 rfl rfl) (wl_1 83 rfl rfl) (wl_1 8 rfl rfl) dX3_init_11 (fun hB11 hf11 => ?_)
  refine g_dup rfl dX3_init_14 ?_
  refine gu_IN (c_X0_init hset_s) l_X3_17 rfl (Nat.le_of_ble_eq_true rfl) (Nat.le_of_ble_eq_true rfl) rfl dX3_init_15 ?_
  refine g_putF f_X3_18 w_X3_6 ⟨_, _, rfl⟩ rfl ((hset_n (by omega)).trans ((hset_n (by omega)).trans ((hset_n (by omega)).trans (hset_s)))) (Nat.le_of_ble_eq_true rfl) rfl rfl rfl dX3_init_18 ?_
  exact g_vret ⟨rfl, rfl, hset_s, (hset_n (by omega)).trans (hset_s), (hset_n (by omega)).trans ((hset_n (by omega)).trans (hset_s)), fun q g1 g2 => (hset_n (by omega)).trans ((hset_n (by omega)).trans ((hset_n (by omega)).trans ((hset_n (by omega)).trans ((hset_n (by omega)).trans (rfl)))))⟩ rfl dX3_init_21
def R0 (Γ : Gm) : Hr := (fun _ => nI 0, fun _ => nI 0, fun _ => nI 0, fun k => k, fun _ => gK Γ 0, fun _ _ => nI 0, fun _ _ => nI 0)
theorem R0_wf {Γ : Gm} : Wf (R0 Γ) := ⟨fun k hk => hk, fun j k _ _ h => h⟩
def reF (b i : Nat) (w : Nat) : Nat → Option Nat := fun k => if k < i then some (b + w * k) else none
theorem reF_s {b i w : Nat} (hi : i < 2 ^ 31) : va_up (reF b i w) (nI i).toNatClampNeg (some (b + w * i)) = reF b (i + 1) w := by
  rw [nI_clamp hi]
  funext k
  unfold va_up reF
  by_cases e : k = i
  · subst e; rw [if_pos rfl, if_pos (by omega)]
  · by_cases h : k < i
    · rw [if_neg e, if_pos h, if_pos (by omega)]
    · rw [if_neg e, if_neg h, if_neg (by omega)]
set_option maxRecDepth 100000 in
set_option maxHeartbeats 4000000 in
theorem c_X2_init {Γ : Gm} {E : Hp} {hb : Nat} (hE : E hb = some (.inr (6, dfX2))) : Ct Γ 4 MX2_init 41 180 [.ref hb] (E) (hb + 1) (fun v E2 n2 => v = none ∧ n2 = hb + 42 ∧ HAt Γ E2 hb (R0 Γ) ∧ ∀ q, q < hb → E2 q = E q) X0 := by
  refine Ct.of (by decide +kernel) rfl (Nat.le_of_ble_eq_true rfl) ?_
  refine G.sub (lv2 := [(0, _)]) [0] rfl ?_
  refine g_aload_n 0 rfl dX2_init_0 ?_
  refine g_objInit (wl_1 81 rfl rfl) (wl_1 35 rfl rfl) (wl_1 36 rfl rfl) (Nat.le_of_ble_eq_true rfl) (Nat.le_of_ble_eq_true rfl) dX2_init_1 ?_
  refine g_aload_n 0 rfl dX2_init_4 ?_
  refine gn_X0 (wl_1 82 rfl rfl) (wl_1 83 rfl rfl) (wl_1 8 rfl rfl) dX2_init_5 (fun hB5 hf5 => ?_)
  refine g_dup rfl dX2_init_8 ?_
  refine gu_IN (c_X0_init hset_s) l_X2_11 rfl (Nat.le_of_ble_eq_true rfl) (Nat.le_of_ble_eq_true rfl) rfl dX2_init_9 ?_
  refine g_putF f_X2_12 w_X2_8 ⟨_, _, rfl⟩ rfl ((hset_n (by omega)).trans ((hset_n (by omega)).trans ((hset_n (by omega)).trans (hE)))) (Nat.le_of_ble_eq_true rfl) rfl rfl rfl dX2_init_12 ?_
  refine g_aload_n 0 rfl dX2_init_15 ?_
  refine gn_bp 12 (by decide) dX2_init_16 ?_
  refine gn_aL (wl_1 95 rfl rfl) dX2_init_18 (fun hB18 hf18 => ?_)
  refine g_putF f_X2_20 w_X2_9 ⟨_, _, rfl⟩ rfl ((hset_n (by omega)).trans (hset_s)) (Nat.le_of_ble_eq_true rfl) rfl rfl rfl dX2_init_21 ?_
  refine g_aload_n 0 rfl dX2_init_24 ?_
  refine gn_X0 (wl_1 82 rfl rfl) (wl_1 83 rfl rfl) (wl_1 8 rfl rfl) dX2_init_25 (fun hB25 hf25 => ?_)
  refine g_dup rfl dX2_init_28 ?_
  refine gu_IN (c_X0_init hset_s) l_X2_11 rfl (Nat.le_of_ble_eq_true rfl) (Nat.le_of_ble_eq_true rfl) rfl dX2_init_29 ?_
  refine g_putF f_X2_24 w_X2_10 ⟨_, _, rfl⟩ rfl ((hset_n (by omega)).trans ((hset_n (by omega)).trans ((hset_n (by omega)).trans (hset_s)))) (Nat.le_of_ble_eq_true rfl) rfl rfl rfl dX2_init_32 ?_
  refine gn_ic 0 (by decide) dX2_init_35 ?_
  refine g_istore_n (lv2 := [(1, _), (0, _)]) (by decide) rfl dX2_init_36 ?_
  have L37 : ∀ (m37 : Nat) (i : Nat) (E1 : Hp), (i + m37 = 12) → (∀ j, j < 6 + 3 * i → j ≠ 3 → E1 (hb + j) = some (hwE Γ hb (R0 Γ) j)) → (E1 (hb + 3) = some (.inl (gA Γ 5, 12, .inr (.inr (.inr (.inr (reF (hb + 6) i 3))))))) → (∀ q, q < hb → E1 q = E q) → G Γ 4 MX2_init (fun v E2 n2 => v = none ∧ n2 = hb + 42 ∧ HAt Γ E2 hb (R0 Γ) ∧ ∀ q, q < hb → E2 q = E q) X0 37 [(0, .ref hb), (1, .int (nI i))] [] (E1) (hb + 6 + 3 * i) (3 * m37) (13 * m37) := by
    intro m37
    induction m37 with
    | zero =>
      intro i E1 hi9 hJ hA3 hQ
      refine g_iload_n 1 rfl dX2_init_37 ?_
      refine gn_bp 12 (by decide) dX2_init_38 ?_
      refine gn_icmp_ge (by omega) (by omega) (tgt := 62) (by decide) dX2_init_40 (fun h40 => ?_) (fun h40 => ?_)
      · -- t 62
        obtain rfl : i = 12 := by omega
        refine g_agr (g := laF hb (hO (R0 Γ))) hA3 (fun j hj => if_pos hj) ?_
        refine g_vret ⟨rfl, rfl, fun j hj => ?_, fun q hq => (hset_n (by omega)).trans (hQ q hq)⟩ rfl dX2_init_62
        by_cases h3 : j = 3
        · subst h3; exact hset_s
        · exact (hset_n (by omega)).trans (hJ j (by omega) h3)
      · -- f 43
        exfalso; omega
    | succ m37 ih37 =>
      intro i E1 hi9 hJ hA3 hQ
      refine G.mono (kc2 := 3 * m37 + 3) (ks2 := 13 * m37 + 13) (show 3 * m37 + 3 ≤ 3 * (m37 + 1) by omega) (show 13 * m37 + 13 ≤ 13 * (m37 + 1) by omega) ?_
      refine g_iload_n 1 rfl dX2_init_37 ?_
      refine gn_bp 12 (by decide) dX2_init_38 ?_
      refine gn_icmp_ge (by omega) (by omega) (tgt := 62) (by decide) dX2_init_40 (fun h40 => ?_) (fun h40 => ?_)
      · -- t 62
        exfalso; omega
      · -- f 43
        refine g_aload_n 0 rfl dX2_init_43 ?_
        refine g_get f_X2_20 (show E1 hb = some (.inr (6, hoF hb (fun _ => nI 0))) from hJ 0 (by omega) (by decide)) rfl dX2_init_44 ?_
        refine g_iload_n 1 rfl dX2_init_47 ?_
        refine gn_X3 (wl_1 95 rfl rfl) (wl_1 97 rfl rfl) (wl_1 9 rfl rfl) dX2_init_48 (fun hB48 hf48 => ?_)
        refine g_dup rfl dX2_init_51 ?_
        refine gx_IN0 (c_X3_init hset_s) l_X2_27 rfl (Nat.le_of_ble_eq_true rfl) (Nat.le_of_ble_eq_true rfl) rfl dX2_init_52 (fun _ _ _ h => h.1) (fun E3 n3 hp => ?_)
        obtain ⟨-, rfl, p1, p2, p3, p4⟩ := hp
        refine g_aast (t := 5) (r := ("AccentHouse$Lodger", TX3, 7)) ((p4 _ (by omega) (by omega)).trans ((hset_n (by omega)).trans hA3)) rfl p1 rfl (vp_in_nI (by omega) (by decide)) dX2_init_55 ?_
        refine gn_inc (lv2 := [(1, _), (0, _)]) 1 rfl (by decide) rfl dX2_init_56 ?_
        refine g_goto (tgt := 37) (by decide) dX2_init_59 ?_
        refine G.sub [1, 0] rfl ?_
        refine ih37 (i + 1) _ (by omega) (fun j hj hn => ?_) (by rw [show hb + 6 + 3 * i = hb + 6 + 3 * i from rfl, reF_s (by omega)]; exact hset_s) (fun q hq => (hset_n (by omega)).trans ((p4 q (by omega) (by omega)).trans ((hset_n (by omega)).trans (hQ q hq))))
        by_cases h1 : j < 6 + 3 * i
        · exact (hset_n (by omega)).trans ((p4 _ (by omega) (by omega)).trans ((hset_n (by omega)).trans (hJ j h1 hn)))
        · have : j = 3 * i + 0 + 6 ∨ j = 3 * i + 1 + 6 ∨ j = 3 * i + 2 + 6 := by omega
          rcases this with rfl | rfl | rfl
          · rw [hwE_l (o := i) (j := 0) (by decide)]; exact (hset_n (by omega)).trans (by rw [show hb + (3 * i + 0 + 6) = hb + 6 + 3 * i by omega, p1, show hb + 6 + 3 * i + 1 = hb + 7 + 3 * i by omega]; rfl)
          · rw [hwE_l (o := i) (j := 1) (by decide)]; exact (hset_n (by omega)).trans (by rw [show hb + (3 * i + 1 + 6) = hb + 6 + 3 * i + 1 by omega, p2, show hb + 6 + 3 * i + 1 + 1 = hb + 8 + 3 * i by omega]; rfl)
          · rw [hwE_l (o := i) (j := 2) (by decide)]; exact (hset_n (by omega)).trans (by rw [show hb + (3 * i + 2 + 6) = hb + 6 + 3 * i + 1 + 1 by omega, p3]; rfl)
  refine G.sub [1, 0] rfl ?_
  refine G.mono (kc2 := 3 * 12) (ks2 := 13 * 12) (by decide) (by decide) ?_
  refine L37 12 0 _ rfl (fun j hj hn => ?_) ?_ (fun q hq => ?_)
  · have : j = 0 ∨ j = 1 ∨ j = 2 ∨ j = 4 ∨ j = 5 := by omega
    rcases this with rfl | rfl | rfl | rfl | rfl <;> (simp [hset]; rfl)
  · simp [hset]; rfl
  · unfold hset; rw [if_neg (by omega), if_neg (by omega), if_neg (by omega), if_neg (by omega), if_neg (by omega), if_neg (by omega), if_neg (by omega), if_neg (by omega), if_neg (by omega), if_neg (by omega)]
end GJ19
