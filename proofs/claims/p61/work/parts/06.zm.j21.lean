section GJ21
theorem CI.grow {Γ : Gm} {ab i : Nat} {inp : Nat → Int32} {E1 E2 E0 : Hp} (h : CI Γ ab i inp E1 E0) (hi : i < 2) (hs : ∀ a, a ≠ ab + 556 → a < ab + 558 + 42 * i → E2 a = E1 a) (hn : HAt Γ E2 (ab + 558 + 42 * i) (R0 Γ)) : CI Γ ab (i + 1) inp E2 E0 := by
  have h' := h.of (E2 := E2) (inp2 := inp) (by omega) ((hs _ (by omega) (by omega)).trans h.2.1) (fun a _ g2 g3 => hs a g2 g3)
  obtain ⟨h1, h2, h3, h4, h5, h6, h7, h8, h9, h10, h11⟩ := h'
  refine ⟨h1, h2, h3, h4, h5, h6, h7, h8, h9, fun j hj => ?_, h11⟩
  by_cases e : j < 13 + i
  · exact h10 j e
  · obtain rfl : j = 13 + i := by omega
    rw [hh_s hi]; exact hn
set_option maxRecDepth 100000 in
set_option maxHeartbeats 4000000 in
theorem r_i155 {Γ : Gm} {ab : Nat} {E1 E0 : Hp} (hI : CI Γ ab 2 FT E1 E0) (hS : E1 (ab + 556) = some (.inl (gA Γ 6, 2, .inr (.inr (.inr (.inr (fun k => some (ab + 558 + 42 * k)))))))) : G Γ 13 MX7_init (fun v E2 n2 => v = none ∧ ∃ (S : Hp) (q : CQ) (c : Nat), CA Γ ab n2 S E2 q ∧ (∃ t lv cap cnt b R2 R3, q = qini ab t lv cap cnt b R2 R3 (R0 Γ) ∧ Hok Γ S R2 ∧ Rp Γ S (dayM (iniL 4) iniI 4).1 c R3 ∧ Val 1200000 (dayM (iniL 4) iniI 4).1 c) ∧ ∀ a, a < ab → E2 a = E0 a) X0 155 [(0, .ref ab)] [] (E1) (ab + 642) 328 10168 := by
  have hok0 : Hok Γ (fun _ => none) (R0 Γ) := hok_0 R0_wf rfl
  have hPs : Pst Γ (ab + 4) E1 (fun _ => none) (ab + 642) (ab + 49) 16 (fun _ => nI 0) 0 := ⟨hI.2.2.2.2.2.1, (show Sto (fun _ => none) E1 (ab + 4 + 638) (ab + 642) (ab + 49) from fun a v (h : (none : Option va_E) = some v) => by cases h), by omega, by omega⟩
  have hW : E1 = PW Γ (ab + 4) (ab + 1) E1 0 (0, -1, 0, 0, 0) (R0 Γ) := PW_of hI.2.2.2.1 hI.2.2.2.2.1 (hI.2.2.2.2.2.2.2.2.2.1 0 (by omega))
  refine G.sub (lv2 := [(0, _)]) [0] rfl ?_
  refine g_aload_n 0 rfl dX7_init_155 ?_
  refine g_get f_X7_25 hI.1 rfl dX7_init_156 ?_
  refine g_ldcS (i := 1) rfl dX7_init_159 ?_
  refine gv_V (c_J0_length_8abf5 (show SF Γ _ (gK Γ 1) (gV Γ 1) from Or.inr ⟨1, _, rfl, rfl, rfl⟩) (show BA Γ _ (gV Γ 1) 143 (fun j => ftB.getD j 0) from Or.inr ⟨1, _, rfl, rfl, rfl, fun _ _ => rfl⟩)) l_X7_60 rfl (Or.inr ⟨rfl, 1, _, rfl, rfl⟩) (Nat.le_of_ble_eq_true rfl) (Nat.le_of_ble_eq_true rfl) rfl dX7_init_161 ?_
  refine g_world hW ?_
  refine gx_V0 (c_X4_read (S := fun _ => none) (J := iniI) (s := (0, 0, 0, 0, 0, 0)) (l := 143) (inp := FT) hI.2.1 (by omega) (by decide) hPs hok0 (by decide) (by decide)) l_X7_70 rfl (Rcv.of PW_p rfl) (Nat.le_of_ble_eq_true rfl) (Nat.le_of_ble_eq_true rfl) rfl dX7_init_164 (fun _ _ _ h => h.1) (fun E3 n3 hp => ?_)
  obtain ⟨-, F2, S2, t2, R2, lv2, cap2, b2, cnt2, rfl, hRl, hrow, hok2, hP2, hG⟩ := hp
  have hT : txP FT 143 iniI (z0 (0, 0, 0, 0, 0, 0)) = _ := tx_all
  rw [hT] at hRl hrow
  obtain ⟨c2, hr2, hv2⟩ := hrow rfl
  have hH1 : HAt Γ (PW Γ (ab + 4) (ab + 1) F2 143 t2 R2) (ab + 50) (R0 Γ) := fun j hj => ((PW_o (by omega)).trans (hG.1 _ (by omega) (by omega) (by omega))).trans ((show HAt Γ E1 (ab + 50) (R0 Γ) from hI.2.2.2.2.2.2.2.2.2.1 1 (by omega)) j hj)
  refine g_aload_n 0 rfl dX7_init_167 ?_
  refine g_get f_X7_36 ((PW_o (by omega)).trans ((hG.1 ab (by omega) (by omega) (by omega)).trans hI.1)) rfl dX7_init_168 ?_
  refine g_aload_n 0 rfl dX7_init_171 ?_
  refine g_get f_X7_25 ((PW_o (by omega)).trans ((hG.1 ab (by omega) (by omega) (by omega)).trans hI.1)) rfl dX7_init_172 ?_
  refine g_get f_X7_74 PW_p rfl dX7_init_175 ?_
  refine G.lt (fun hlt9 _ => ?_)
  have hl9 : lv2 < n3 := hlt9 lv2 _ ((PW_o (by have := hP2.2.2.1; omega)).trans hP2.1.2.1)
  refine g_world hH1.eq ?_
  refine gx_V0 (c_X2_copyFrom (hb := ab + 50) (ho := ab + 4 + 1) R0_wf hr2 (fun j hj => HAt.of (hb := ab + 4 + 1) j hj) (Or.inl (by omega))) l_X7_75 rfl (Rcv.of HW_h rfl) (Nat.le_of_ble_eq_true rfl) (Nat.le_of_ble_eq_true rfl) rfl dX7_init_178 (fun _ _ _ h => h.1) (fun E4 n4 hp => ?_)
  obtain ⟨-, rfl, R3, rfl, hr3, -⟩ := hp
  have hz := ca_init (t2 := t2) (R2 := R2) (R3 := R3) hI hS hG hP2 hl9
  exact g_vret ⟨rfl, S2, _, c2, hz.1, ⟨t2, lv2, cap2, cnt2, b2, R2, R3, rfl, hok2, hr3, hv2⟩, hz.2⟩ rfl dX7_init_181
set_option maxRecDepth 100000 in
set_option maxHeartbeats 4000000 in
theorem r_i120 {Γ : Gm} {ab : Nat} {E1 E0 : Hp} (hI : CI Γ ab 2 (fun _ => nI 0) E1 E0) (hS : E1 (ab + 556) = some (.inl (gA Γ 6, 2, .inr (.inr (.inr (.inr (fun k => some (ab + 558 + 42 * k)))))))) : G Γ 13 MX7_init (fun v E2 n2 => v = none ∧ ∃ (S : Hp) (q : CQ) (c : Nat), CA Γ ab n2 S E2 q ∧ (∃ t lv cap cnt b R2 R3, q = qini ab t lv cap cnt b R2 R3 (R0 Γ) ∧ Hok Γ S R2 ∧ Rp Γ S (dayM (iniL 4) iniI 4).1 c R3 ∧ Val 1200000 (dayM (iniL 4) iniI 4).1 c) ∧ ∀ a, a < ab → E2 a = E0 a) X0 120 [(0, .ref ab), (1, .int (nI 0))] [] (E1) (ab + 642) 328 10168 := by
  refine G.sub (lv2 := [(0, _), (1, _)]) [0, 1] rfl ?_
  have L120 : ∀ (m120 : Nat) (i : Nat) (E2 : Hp), (i + m120 = 143) → (CI Γ ab 2 (ftF i) E2 E0) → (E2 (ab + 556) = E1 (ab + 556)) → G Γ 13 MX7_init (fun v E2 n2 => v = none ∧ ∃ (S : Hp) (q : CQ) (c : Nat), CA Γ ab n2 S E2 q ∧ (∃ t lv cap cnt b R2 R3, q = qini ab t lv cap cnt b R2 R3 (R0 Γ) ∧ Hok Γ S R2 ∧ Rp Γ S (dayM (iniL 4) iniI 4).1 c R3 ∧ Val 1200000 (dayM (iniL 4) iniI 4).1 c) ∧ ∀ a, a < ab → E2 a = E0 a) X0 120 [(0, .ref ab), (1, .int (nI i))] [] (E2) (ab + 642) 328 10168 := by
    intro m120
    induction m120 with
    | zero =>
      intro i E2 hi9 hI1 hS1
      refine g_iload_n 1 rfl dX7_init_120 ?_
      refine g_ldcS (i := 1) rfl dX7_init_121 ?_
      refine gv_V (c_J0_length_8abf5 (show SF Γ _ (gK Γ 1) (gV Γ 1) from Or.inr ⟨1, _, rfl, rfl, rfl⟩) (show BA Γ _ (gV Γ 1) 143 (fun j => ftB.getD j 0) from Or.inr ⟨1, _, rfl, rfl, rfl, fun _ _ => rfl⟩)) l_X7_60 rfl (Or.inr ⟨rfl, 1, _, rfl, rfl⟩) (Nat.le_of_ble_eq_true rfl) (Nat.le_of_ble_eq_true rfl) rfl dX7_init_123 ?_
      refine gn_icmp_ge (by omega) (by omega) (tgt := 155) (by decide) dX7_init_126 (fun h126 => ?_) (fun h126 => ?_)
      · -- t 155
        obtain rfl : i = 143 := by omega
        exact G.sub [0] rfl (r_i155 hI1 (hS1.trans hS))
      · -- f 129
        exfalso; omega
    | succ m120 ih120 =>
      intro i E2 hi9 hI1 hS1
      refine g_iload_n 1 rfl dX7_init_120 ?_
      refine g_ldcS (i := 1) rfl dX7_init_121 ?_
      refine gv_V (c_J0_length_8abf5 (show SF Γ _ (gK Γ 1) (gV Γ 1) from Or.inr ⟨1, _, rfl, rfl, rfl⟩) (show BA Γ _ (gV Γ 1) 143 (fun j => ftB.getD j 0) from Or.inr ⟨1, _, rfl, rfl, rfl, fun _ _ => rfl⟩)) l_X7_60 rfl (Or.inr ⟨rfl, 1, _, rfl, rfl⟩) (Nat.le_of_ble_eq_true rfl) (Nat.le_of_ble_eq_true rfl) rfl dX7_init_123 ?_
      refine gn_icmp_ge (by omega) (by omega) (tgt := 155) (by decide) dX7_init_126 (fun h126 => ?_) (fun h126 => ?_)
      · -- t 155
        exfalso; omega
      · -- f 129
        have hb7 := (show (ftB.getD i 0).toInt8.toInt32 = ftB.getD i 0 by obtain ⟨l, l1, l2⟩ := ftB_7 i (by omega); rw [l2]; exact (a7_all l l1).2.1)
        have hc7 := (show chr (ftB.getD i 0 &&& nI 255) = ftB.getD i 0 by obtain ⟨l, l1, l2⟩ := ftB_7 i (by omega); rw [l2]; exact (a7_all l l1).2.2.1)
        refine g_iload_n 1 rfl dX7_init_129 ?_
        refine gn_sp 600 (by decide) dX7_init_130 ?_
        refine gn_icmp_ge (by omega) (by omega) (tgt := 155) (by decide) dX7_init_133 (fun h133 => ?_) (fun h133 => ?_)
        · -- t 155
          exfalso; omega
        · -- f 136
          refine g_aload_n 0 rfl dX7_init_136 ?_
          refine g_get f_X7_9 hI1.1 rfl dX7_init_137 ?_
          refine g_iload_n 1 rfl dX7_init_140 ?_
          refine g_ldcS (i := 1) rfl dX7_init_141 ?_
          refine g_iload_n 1 rfl dX7_init_143 ?_
          refine gv_V (c_J0_charAt_5068e (show SF Γ _ (gK Γ 1) (gV Γ 1) from Or.inr ⟨1, _, rfl, rfl, rfl⟩) (show BA Γ _ (gV Γ 1) 143 (fun j => ftB.getD j 0) from Or.inr ⟨1, _, rfl, rfl, rfl, fun _ _ => rfl⟩) (show i < 143 by omega) (by decide)) l_X7_66 rfl (Or.inr ⟨rfl, 1, _, rfl, rfl⟩) (Nat.le_of_ble_eq_true rfl) (Nat.le_of_ble_eq_true rfl) rfl dX7_init_144 ?_
          refine g_top (y := ftB.getD i 0) hc7 ?_
          refine g_i2b dX7_init_147 ?_
          refine g_top (y := ftB.getD i 0) hb7 ?_
          refine gn_bast hI1.2.1 (by omega) (by decide) rfl dX7_init_148 ?_
          refine gn_inc (lv2 := [(1, _), (0, _)]) 1 rfl (by decide) rfl dX7_init_149 ?_
          refine g_goto (tgt := 120) (by decide) dX7_init_152 ?_
          refine G.sub [1, 0] rfl ?_
          exact ih120 (i + 1) _ (by omega) (hI1.of (by decide) (by rw [hb7, ftF_s]; exact hset_s) (fun a g1 g2 g3 => hset_n g1)) ((hset_n (by omega)).trans hS1)
  refine G.sub [0, 1] rfl ?_
  have e0 : ftF 0 = fun _ => nI 0 := by funext j; exact if_neg (Nat.not_lt_zero j)
  exact L120 143 0 E1 rfl (by rw [e0]; exact hI) rfl
set_option maxRecDepth 100000 in
set_option maxHeartbeats 4000000 in
theorem r_i94 {Γ : Gm} {ab : Nat} {E1 E0 : Hp} (hI : CI Γ ab 0 (fun _ => nI 0) E1 E0) (hS : E1 (ab + 556) = some (.inl (gA Γ 6, 2, .inr (.inr (.inr (.inr (reF (ab + 558) 0 42))))))) : G Γ 13 MX7_init (fun v E2 n2 => v = none ∧ ∃ (S : Hp) (q : CQ) (c : Nat), CA Γ ab n2 S E2 q ∧ (∃ t lv cap cnt b R2 R3, q = qini ab t lv cap cnt b R2 R3 (R0 Γ) ∧ Hok Γ S R2 ∧ Rp Γ S (dayM (iniL 4) iniI 4).1 c R3 ∧ Val 1200000 (dayM (iniL 4) iniI 4).1 c) ∧ ∀ a, a < ab → E2 a = E0 a) X0 94 [(0, .ref ab), (1, .int (nI 0))] [] (E1) (ab + 558) 412 10550 := by
  refine G.sub (lv2 := [(0, _), (1, _)]) [0, 1] rfl ?_
  have L94 : ∀ (m94 : Nat) (i : Nat) (E2 : Hp), (i + m94 = 2) → (CI Γ ab i (fun _ => nI 0) E2 E0) → (E2 (ab + 556) = some (.inl (gA Γ 6, 2, .inr (.inr (.inr (.inr (reF (ab + 558) i 42))))))) → G Γ 13 MX7_init (fun v E2 n2 => v = none ∧ ∃ (S : Hp) (q : CQ) (c : Nat), CA Γ ab n2 S E2 q ∧ (∃ t lv cap cnt b R2 R3, q = qini ab t lv cap cnt b R2 R3 (R0 Γ) ∧ Hok Γ S R2 ∧ Rp Γ S (dayM (iniL 4) iniI 4).1 c R3 ∧ Val 1200000 (dayM (iniL 4) iniI 4).1 c) ∧ ∀ a, a < ab → E2 a = E0 a) X0 94 [(0, .ref ab), (1, .int (nI i))] [] (E2) (ab + 558 + 42 * i) (42 * m94 + 328) (191 * m94 + 10168) := by
    intro m94
    induction m94 with
    | zero =>
      intro i E2 hi9 hI1 hS1
      refine G.mono (kc2 := 328) (ks2 := 10168) (by omega) (by omega) ?_
      refine g_iload_n 1 rfl dX7_init_94 ?_
      refine gn_ic 2 (by decide) dX7_init_95 ?_
      refine gn_icmp_ge (by omega) (by omega) (tgt := 118) (by decide) dX7_init_96 (fun h96 => ?_) (fun h96 => ?_)
      · -- t 118
        obtain rfl : i = 2 := by omega
        refine g_agr (g := fun k => some (ab + 558 + 42 * k)) hS1 (fun j hj => if_pos hj) ?_
        refine gn_ic 0 (by decide) dX7_init_118 ?_
        refine g_istore_n (lv2 := [(1, _), (0, _)]) (by decide) rfl dX7_init_119 ?_
        exact G.sub [1, 0] rfl (r_i120 (hI1.of (by decide) ((hset_n (by omega)).trans hI1.2.1) (fun a g1 g2 g3 => hset_n g2)) hset_s)
      · -- f 99
        exfalso; omega
    | succ m94 ih94 =>
      intro i E2 hi9 hI1 hS1
      obtain ⟨kX, hkX⟩ : ∃ kX, kX = 42 * m94 + 328 := ⟨_, rfl⟩
      obtain ⟨sX, hsX⟩ : ∃ sX, sX = 191 * m94 + 10168 := ⟨_, rfl⟩
      refine G.mono (kc2 := kX + 42) (ks2 := sX + 191) (by omega) (by omega) ?_
      refine g_iload_n 1 rfl dX7_init_94 ?_
      refine gn_ic 2 (by decide) dX7_init_95 ?_
      refine gn_icmp_ge (by omega) (by omega) (tgt := 118) (by decide) dX7_init_96 (fun h96 => ?_) (fun h96 => ?_)
      · -- t 118
        exfalso; omega
      · -- f 99
        refine g_aload_n 0 rfl dX7_init_99 ?_
        refine g_get f_X7_50 hI1.1 rfl dX7_init_100 ?_
        refine g_iload_n 1 rfl dX7_init_103 ?_
        refine gn_X2 (wl_2 1 rfl rfl) (wl_1 77 rfl rfl) (wl_1 7 rfl rfl) dX7_init_104 (fun hB104 hf104 => ?_)
        refine g_dup rfl dX7_init_107 ?_
        refine gx_I0 (c_X2_init hset_s) l_X7_35 rfl (Nat.le_of_ble_eq_true rfl) (Nat.le_of_ble_eq_true rfl) rfl dX7_init_108 (fun _ _ _ h => h.1) (fun E3 n3 hp => ?_)
        obtain ⟨-, rfl, a2, a3⟩ := hp
        refine g_aast (t := 6) (r := ("AccentHouse$House", TX2, 11)) ((a3 _ (by omega)).trans ((hset_n (by omega)).trans hS1)) rfl (a2 0 (by decide)) rfl (vp_in_nI (by omega) (by decide)) dX7_init_111 ?_
        refine gn_inc (lv2 := [(1, _), (0, _)]) 1 rfl (by decide) rfl dX7_init_112 ?_
        refine g_goto (tgt := 94) (by decide) dX7_init_115 ?_
        refine G.sub [1, 0] rfl ?_
        subst hkX
        subst hsX
        refine ih94 (i + 1) _ (by omega) (hI1.grow (by omega) (fun a g1 g2 => (hset_n g1).trans ((a3 a g2).trans (hset_n (by omega)))) (fun j hj => (hset_n (by omega)).trans (a2 j hj))) (by rw [reF_s (by omega)]; exact hset_s)
  refine G.sub [0, 1] rfl ?_
  refine G.mono (kc2 := 42 * 2 + 328) (ks2 := 191 * 2 + 10168) (by decide) (by decide) ?_
  exact L94 2 0 E1 rfl hI hS
def dfX7 : List Value := [.null, .int (nI 0), .null, .null, .int (nI 0), .int (nI 0), .null, .null, .null, .null, .null]
theorem k5 {E6 : Hp} {ab a : Nat} {x1 x2 x3 x4 x5 : va_E} (h1 : a ≠ ab) (h2 : a ≠ ab + 556) (h3 : a ≠ ab + 557) : hset (hset (hset (hset (hset E6 ab x1) (ab + 556) x2) ab x3) (ab + 557) x4) ab x5 a = E6 a := (hset_n h1).trans ((hset_n h3).trans ((hset_n h1).trans ((hset_n h2).trans (hset_n h1))))
set_option maxRecDepth 100000 in
set_option maxHeartbeats 4000000 in
theorem c_X7_init {Γ : Gm} {E : Hp} {ab : Nat} (hE : E ab = some (.inr (10, dfX7))) : Ct Γ 13 MX7_init 970 13710 [.ref ab] (E) (ab + 1) (fun v E2 n2 => v = none ∧ ∃ (S : Hp) (q : CQ) (c : Nat), CA Γ ab n2 S E2 q ∧ (∃ t lv cap cnt b R2 R3, q = qini ab t lv cap cnt b R2 R3 (R0 Γ) ∧ Hok Γ S R2 ∧ Rp Γ S (dayM (iniL 4) iniI 4).1 c R3 ∧ Val 1200000 (dayM (iniL 4) iniI 4).1 c) ∧ ∀ a, a < ab → E2 a = E a) X0 := by
  refine Ct.of (by decide +kernel) rfl (Nat.le_of_ble_eq_true rfl) ?_
  refine G.sub (lv2 := [(0, _)]) [0] rfl ?_
  refine g_aload_n 0 rfl dX7_init_0 ?_
  refine g_objInit (wl_1 34 rfl rfl) (wl_1 35 rfl rfl) (wl_1 36 rfl rfl) (Nat.le_of_ble_eq_true rfl) (Nat.le_of_ble_eq_true rfl) dX7_init_1 ?_
  refine g_aload_n 0 rfl dX7_init_4 ?_
  refine gn_sp 600 (by decide) dX7_init_5 ?_
  refine gn_nb (wl_1 69 rfl rfl) (by decide) dX7_init_8 (fun hB8 hf8 => ?_)
  refine g_putF f_X7_9 w_X7_0 ⟨_, _, rfl⟩ rfl ((hset_n (by omega)).trans (hE)) (Nat.le_of_ble_eq_true rfl) rfl rfl rfl dX7_init_10 ?_
  refine g_aload_n 0 rfl dX7_init_13 ?_
  refine gn_sb (wl_1 37 rfl rfl) (wl_1 38 rfl rfl) (wl_1 3 rfl rfl) dX7_init_14 (fun hB14 hf14 => ?_)
  refine g_dup rfl dX7_init_17 ?_
  refine gu_I (c_J4_init_da8c8 hset_s) l_X7_15 rfl (Nat.le_of_ble_eq_true rfl) (Nat.le_of_ble_eq_true rfl) rfl dX7_init_18 ?_
  refine g_putF f_X7_16 w_X7_2 ⟨_, _, rfl⟩ rfl ((hset_n (by omega)).trans ((hset_n (by omega)).trans ((hset_n (by omega)).trans (hset_s)))) (Nat.le_of_ble_eq_true rfl) rfl rfl rfl dX7_init_21 ?_
  refine g_aload_n 0 rfl dX7_init_24 ?_
  refine gn_X4 (wl_1 70 rfl rfl) (wl_1 71 rfl rfl) (wl_1 6 rfl rfl) dX7_init_25 (fun hB25 hf25 => ?_)
  refine g_dup rfl dX7_init_28 ?_
  refine g_aload_n 0 rfl dX7_init_29 ?_
  refine g_get f_X7_9 ((hset_n (by omega)).trans hset_s) rfl dX7_init_30 ?_
  refine gx_I0 (c_X4_init (ti := ab + 1) hset_s) l_X7_22 rfl (Nat.le_of_ble_eq_true rfl) (Nat.le_of_ble_eq_true rfl) rfl dX7_init_33 (fun _ _ _ h => h.1) (fun E3 E3n hp => ?_)
  obtain ⟨-, rfl, b1, b2, b3, b4, b5⟩ := hp
  refine g_putF f_X7_25 w_X7_3 ⟨_, _, rfl⟩ rfl ((b5 ab (by omega)).trans ((hset_n (by omega)).trans hset_s)) (Nat.le_of_ble_eq_true rfl) rfl rfl rfl dX7_init_36 ?_
  refine g_aload_n 0 rfl dX7_init_39 ?_
  refine g_iconst (v := -1) dX7_init_40 (by decide) ?_
  refine g_put f_X7_29 w_X7_5 hset_s (Nat.le_of_ble_eq_true rfl) rfl rfl rfl dX7_init_41 ?_
  refine g_world hset_hs ?_
  refine g_aload_n 0 rfl dX7_init_44 ?_
  refine gn_X2 (wl_2 1 rfl rfl) (wl_1 77 rfl rfl) (wl_1 7 rfl rfl) dX7_init_45 (fun hB45 hf45 => ?_)
  refine g_dup rfl dX7_init_48 ?_
  refine gx_I0 (c_X2_init hset_s) l_X7_35 rfl (Nat.le_of_ble_eq_true rfl) (Nat.le_of_ble_eq_true rfl) rfl dX7_init_49 (fun _ _ _ h => h.1) (fun E4 E4n hp => ?_)
  obtain ⟨-, rfl, a2, a3⟩ := hp
  refine g_putF f_X7_36 w_X7_6 ⟨_, _, rfl⟩ rfl ((a3 ab (by omega)).trans ((hset_n (by omega)).trans hset_s)) (Nat.le_of_ble_eq_true rfl) rfl rfl rfl dX7_init_52 ?_
  refine g_aload_n 0 rfl dX7_init_55 ?_
  refine gn_X2 (wl_2 1 rfl rfl) (wl_1 77 rfl rfl) (wl_1 7 rfl rfl) dX7_init_56 (fun hB56 hf56 => ?_)
  refine g_dup rfl dX7_init_59 ?_
  refine gx_I0 (c_X2_init hset_s) l_X7_35 rfl (Nat.le_of_ble_eq_true rfl) (Nat.le_of_ble_eq_true rfl) rfl dX7_init_60 (fun _ _ _ h => h.1) (fun E5 E5n hp => ?_)
  obtain ⟨-, rfl, c2, c3⟩ := hp
  refine g_putF f_X7_40 w_X7_7 ⟨_, _, rfl⟩ rfl ((c3 ab (by omega)).trans ((hset_n (by omega)).trans hset_s)) (Nat.le_of_ble_eq_true rfl) rfl rfl rfl dX7_init_63 ?_
  refine g_aload_n 0 rfl dX7_init_66 ?_
  refine gn_X1 (wl_2 3 rfl rfl) (wl_2 4 rfl rfl) (wl_1 13 rfl rfl) dX7_init_67 (fun hB67 hf67 => ?_)
  refine g_dup rfl dX7_init_70 ?_
  refine gx_I0 (c_X1_init hset_s) l_X7_45 rfl (Nat.le_of_ble_eq_true rfl) (Nat.le_of_ble_eq_true rfl) rfl dX7_init_71 (fun _ _ _ h => h.1) (fun E6 E6n hp => ?_)
  obtain ⟨-, rfl, d1, d2, d3, d4⟩ := hp
  refine g_putF f_X7_46 w_X7_8 ⟨_, _, rfl⟩ rfl ((d4 ab (by omega)).trans ((hset_n (by omega)).trans hset_s)) (Nat.le_of_ble_eq_true rfl) rfl rfl rfl dX7_init_74 ?_
  refine g_aload_n 0 rfl dX7_init_77 ?_
  refine gn_ic 2 (by decide) dX7_init_78 ?_
  refine gn_aH (wl_2 1 rfl rfl) dX7_init_79 (fun hB79 hf79 => ?_)
  refine g_putF f_X7_50 w_X7_9 ⟨_, _, rfl⟩ rfl ((hset_n (by omega)).trans hset_s) (Nat.le_of_ble_eq_true rfl) rfl rfl rfl dX7_init_82 ?_
  refine g_aload_n 0 rfl dX7_init_85 ?_
  refine gn_ic 2 (by decide) dX7_init_86 ?_
  refine gn_nz (wl_3 181 rfl rfl) (by decide) dX7_init_87 (fun hB87 hf87 => ?_)
  refine g_putF f_X7_54 w_X7_10 ⟨_, _, rfl⟩ rfl ((hset_n (by omega)).trans hset_s) (Nat.le_of_ble_eq_true rfl) rfl rfl rfl dX7_init_89 ?_
  refine gn_ic 0 (by decide) dX7_init_92 ?_
  refine g_istore_n (lv2 := [(1, _), (0, _)]) (by decide) rfl dX7_init_93 ?_
  refine G.mono (kc2 := 412) (ks2 := 10550) (by decide) (by decide) ?_
  exact G.sub [1, 0] rfl (r_i94 (E0 := E) ⟨hset_s, (k5 (by omega) (by omega) (by omega)).trans (((d4 _ (by omega)).trans ((hset_n (by omega)).trans (hset_n (by omega)))).trans (((c3 _ (by omega)).trans ((hset_n (by omega)).trans (hset_n (by omega)))).trans (((a3 _ (by omega)).trans ((hset_n (by omega)).trans (hset_n (by omega)))).trans ((b5 _ (by omega)).trans ((hset_n (by omega)).trans ((hset_n (by omega)).trans ((hset_n (by omega)).trans ((hset_n (by omega)).trans ((hset_n (by omega)).trans ((hset_n (by omega)).trans (hset_s))))))))))), ⟨⟨_, (k5 (by omega) (by omega) (by omega)).trans (((d4 _ (by omega)).trans ((hset_n (by omega)).trans (hset_n (by omega)))).trans (((c3 _ (by omega)).trans ((hset_n (by omega)).trans (hset_n (by omega)))).trans (((a3 _ (by omega)).trans ((hset_n (by omega)).trans (hset_n (by omega)))).trans ((b5 _ (by omega)).trans ((hset_n (by omega)).trans ((hset_n (by omega)).trans (hset_s)))))))⟩, (k5 (by omega) (by omega) (by omega)).trans (((d4 _ (by omega)).trans ((hset_n (by omega)).trans (hset_n (by omega)))).trans (((c3 _ (by omega)).trans ((hset_n (by omega)).trans (hset_n (by omega)))).trans (((a3 _ (by omega)).trans ((hset_n (by omega)).trans (hset_n (by omega)))).trans ((b5 _ (by omega)).trans ((hset_n (by omega)).trans ((hset_n (by omega)).trans ((hset_n (by omega)).trans (hset_s)))))))), A7.zero, Or.inl rfl, Nat.zero_le _⟩, (k5 (by omega) (by omega) (by omega)).trans (((d4 _ (by omega)).trans ((hset_n (by omega)).trans (hset_n (by omega)))).trans (((c3 _ (by omega)).trans ((hset_n (by omega)).trans (hset_n (by omega)))).trans (((a3 _ (by omega)).trans ((hset_n (by omega)).trans (hset_n (by omega)))).trans (b1)))), (k5 (by omega) (by omega) (by omega)).trans (((d4 _ (by omega)).trans ((hset_n (by omega)).trans (hset_n (by omega)))).trans (((c3 _ (by omega)).trans ((hset_n (by omega)).trans (hset_n (by omega)))).trans (((a3 _ (by omega)).trans ((hset_n (by omega)).trans (hset_n (by omega)))).trans (b2)))), b3.of ((k5 (by omega) (by omega) (by omega)).trans (((d4 _ (by omega)).trans ((hset_n (by omega)).trans (hset_n (by omega)))).trans (((c3 _ (by omega)).trans ((hset_n (by omega)).trans (hset_n (by omega)))).trans (((a3 _ (by omega)).trans ((hset_n (by omega)).trans (hset_n (by omega)))).trans (rfl))))) ((k5 (by omega) (by omega) (by omega)).trans (((d4 _ (by omega)).trans ((hset_n (by omega)).trans (hset_n (by omega)))).trans (((c3 _ (by omega)).trans ((hset_n (by omega)).trans (hset_n (by omega)))).trans (((a3 _ (by omega)).trans ((hset_n (by omega)).trans (hset_n (by omega)))).trans (rfl))))), (k5 (by omega) (by omega) (by omega)).trans (d1), (k5 (by omega) (by omega) (by omega)).trans (d2), (hset_n (by omega)).trans (hset_s), fun j hj k hk => by
      by_cases j0 : j = 0
      · subst j0; rw [hh_0]; exact (k5 (by omega) (by omega) (by omega)).trans (((d4 _ (by omega)).trans ((hset_n (by omega)).trans (hset_n (by omega)))).trans (((c3 _ (by omega)).trans ((hset_n (by omega)).trans (hset_n (by omega)))).trans (((a3 _ (by omega)).trans ((hset_n (by omega)).trans (hset_n (by omega)))).trans (b4 k hk))))
      · by_cases j1 : j = 1
        · subst j1; rw [hh_1]; exact (k5 (by omega) (by omega) (by omega)).trans (((d4 _ (by omega)).trans ((hset_n (by omega)).trans (hset_n (by omega)))).trans (((c3 _ (by omega)).trans ((hset_n (by omega)).trans (hset_n (by omega)))).trans (a2 k hk)))
        · by_cases j2 : j = 2
          · subst j2; rw [hh_2]; exact (k5 (by omega) (by omega) (by omega)).trans (((d4 _ (by omega)).trans ((hset_n (by omega)).trans (hset_n (by omega)))).trans (c2 k hk))
          · obtain ⟨i, hi, rfl⟩ : ∃ i, i < 10 ∧ j = 3 + i := ⟨j - 3, by omega, by omega⟩
            rw [hh_p hi]; exact (k5 (by omega) (by omega) (by omega)).trans (d3 i hi k hk), fun a ha => (k5 (by omega) (by omega) (by omega)).trans (((d4 _ (by omega)).trans ((hset_n (by omega)).trans (hset_n (by omega)))).trans (((c3 _ (by omega)).trans ((hset_n (by omega)).trans (hset_n (by omega)))).trans (((a3 _ (by omega)).trans ((hset_n (by omega)).trans (hset_n (by omega)))).trans ((b5 _ (by omega)).trans ((hset_n (by omega)).trans ((hset_n (by omega)).trans ((hset_n (by omega)).trans ((hset_n (by omega)).trans ((hset_n (by omega)).trans ((hset_n (by omega)).trans ((hset_n (by omega)).trans (rfl))))))))))))⟩ ((hset_n (by omega)).trans ((hset_n (by omega)).trans ((hset_n (by omega)).trans hset_s))))
end GJ21
