section GJ17
section
variable {Γ : Gm} {pb ti e n c : Nat} {F S : Hp} {t : PT} {R : Hr} {f inp : Nat → Int32}
theorem PW_rec {sw a : Nat} {fl pay : Int32} (hr : Rp Γ S f c R) (hc12 : c < 12) (ha : a < 2 ^ 31) : Ct Γ 2 MX2_receive 0 0 [.ref (pb + 1), .ref sw, .int fl, .int pay, .int (nI a)] (PW Γ pb ti F e t R) n (Rt (some (.int (nI c))) (PW Γ pb ti F e t (rcR R sw fl pay a c)) n) X0 := c_X2_receive hr.1 hr.cnt hc12 ha
theorem PW_open {x y : Int32} : Ct Γ 1 MX2_open 0 0 [.ref (pb + 1), .int x, .int y] (PW Γ pb ti F e t R) n (Rt none (PW Γ pb ti F e t (opR R x y)) n) X0 := c_X2_open
theorem PW_dig {a : Nat} (ha : a < 2 ^ 31) : Ct Γ 1 MX0_setDigits 0 0 [.ref (pb + 1 + 1), .int (nI a)] (PW Γ pb ti F e t R) n (Rt none (PW Γ pb ti F e t (sL R (dgF (hL R) a))) n) X0 := by
  have h := c_X0_setDigits (Γ := Γ) (n := n) (E := PW Γ pb ti F e t R) (e := pb + 1 + 1) (p := pb + 1 + 2) (x := hL R) HW_1 HW_2 ha
  have e1 : hset (PW Γ pb ti F e t R) (pb + 1 + 2) (.inl (gA Γ 0, 5, .inl (dgF (hL R) a))) = PW Γ pb ti F e t (sL R (dgF (hL R) a)) := HW_sL
  rw [← e1]; exact h
theorem PW_ld : Rcv Γ (PW Γ pb ti F e t R) (pb + 1 + 1) "AccentHouse$Accent" := Rcv.of (HW_1 (hb := pb + 1)) rfl
end
set_option maxRecDepth 100000 in
set_option maxHeartbeats 4000000 in
theorem c_X4_readLodger {Γ : Gm} {n : Nat} {pb ti e : Nat} {F : Hp} {t : PT} {R : Hr} {inp : Nat → Int32} {s : PS} {S : Hp} {f : Nat → Int32} {c lv cap cnt : Nat} {b : Nat → Int32} (hR : PRel inp e s t) (hi : F ti = some (.inl (gA Γ 1, 600, .inl inp))) (hti : ti < pb) (hr : Rp Γ S f c R) (h4 : Fl4 f c) (hP : Pst Γ pb F S n lv cap b cnt) (hlv : s.2.2.2.2.1 = 0) (hk1 : t.2.2.1 = s.1) : Ct Γ 11 MX4_readLodger 8 248 [.ref pb] (PW Γ pb ti F e t R) n (fun r E2 n2 => r = none ∧ ∃ (F2 S2 : Hp) (t2 : PT) (R2 : Hr) (lv2 cap2 : Nat) (b2 : Nat → Int32) (cnt2 c2 : Nat), E2 = PW Γ pb ti F2 e t2 R2 ∧ PRel inp e (rlP inp e f c s) t2 ∧ Rp Γ S2 (rlF inp e f c s) c2 R2 ∧ Pst Γ pb F2 S2 n2 lv2 cap2 b2 cnt2 ∧ Grw pb F S n lv F2 S2 n2 lv2) X0 := by
  refine Ct.of (by decide +kernel) rfl (Nat.le_of_ble_eq_true rfl) ?_
  have hek := hR.ek6
  have he := hR.e6
  have hse := hR.1.2.1
  have hen := hR.1.2.2.1
  have hc12 := hr.2.1
  refine G.sub (lv2 := [(0, _)]) [0] rfl ?_
  refine g_aload_n 0 rfl dX4_readLodger_0 ?_
  refine g_get f_X4_12 PW_p rfl dX4_readLodger_1 ?_
  refine g_get f_X4_117 PW_h rfl dX4_readLodger_4 ?_
  refine g_top (y := nI c) hr.cnt ?_
  refine gn_bp 12 (by decide) dX4_readLodger_7 ?_
  refine gn_icmp_lt (by omega) (by omega) (tgt := 25) (by decide) dX4_readLodger_9 (fun h9 => ?_) (fun h9 => ?_)
  · -- t 25
    refine g_aload_n 0 rfl dX4_readLodger_25 ?_
    refine g_get f_X4_31 PW_p rfl dX4_readLodger_26 ?_
    refine gu_V (c_X6_step PW_t ((PW_o (by omega)).trans hi) hR.1.1 he hR.1.2.2.1) l_X4_54 rfl (Rcv.of PW_t rfl) (Nat.le_of_ble_eq_true rfl) (Nat.le_of_ble_eq_true rfl) rfl dX4_readLodger_29 ?_
    refine g_world (E2 := PW Γ pb ti F e (stT inp e t) R) PW_st ?_
    have hR1 : PRel inp e (nxP inp e s) (stT inp e t) := by have := hR.step (fun _ => hk1); rwa [goP_t hlv] at this
    have h7 : ¬ f 7 = nI 12 := fun z => by rw [hr.2.2.1] at z; have := (nI_eq (by omega) (by omega)).mp z; omega
    have h01 : (nxP inp e s).2.2.2.2.1 = 0 := (congrArg Prod.fst (nxP_ft (inp := inp) (e := e) (s := s))).trans hlv
    refine g_aload_n 0 rfl dX4_readLodger_32 ?_
    refine gv_V (c_X4_isAtName hR1 hi hti) l_X4_120 rfl (Rcv.of PW_p rfl) (Nat.le_of_ble_eq_true rfl) (Nat.le_of_ble_eq_true rfl) rfl dX4_readLodger_33 ?_
    refine g_if_ne (tgt := 52) (by decide) dX4_readLodger_36 (fun h36 => ?_) (fun h36 => ?_)
    · -- t 52
      have hp := bi_n0 h36
      refine g_aload_n 0 rfl dX4_readLodger_52 ?_
      refine g_get f_X4_12 PW_p rfl dX4_readLodger_53 ?_
      refine g_aload_n 0 rfl dX4_readLodger_56 ?_
      refine g_get f_X4_22 PW_p rfl dX4_readLodger_57 ?_
      refine g_aload_n 0 rfl dX4_readLodger_60 ?_
      refine g_get f_X4_31 PW_p rfl dX4_readLodger_61 ?_
      refine g_get f_X4_81 PW_t rfl dX4_readLodger_64 ?_
      refine g_aload_n 0 rfl dX4_readLodger_67 ?_
      refine g_get f_X4_31 PW_p rfl dX4_readLodger_68 ?_
      refine g_get f_X4_124 PW_t rfl dX4_readLodger_71 ?_
      refine gv_V (PW_num hr (hP.2.1.le (by omega)) hi hti hR1.1.2.1 (by have := hR1.1.2.2.1; omega)) l_X4_127 rfl (Rcv.of PW_h rfl) (Nat.le_of_ble_eq_true rfl) (Nat.le_of_ble_eq_true rfl) rfl dX4_readLodger_74 ?_
      refine g_iconst (v := -1) dX4_readLodger_77 (by decide) ?_
      refine g_icmp_eq (tgt := 94) (by decide) dX4_readLodger_78 (fun h78 => ?_) (fun h78 => ?_)
      · -- t 94
        refine g_aload_n 0 rfl dX4_readLodger_94 ?_
        refine g_get f_X4_31 PW_p rfl dX4_readLodger_95 ?_
        refine gx_Vr (c_X6_word PW_t ((PW_o (by omega)).trans hi) hP.sb (by have := hP.2.2.1; omega) he hR1.1.2.2.1 (hR1.1.2.2.2.2.2 (by rw [hp.1]; decide)) hp.2 (hR1.1.2.2.2.1 hp.1)) l_X4_131 rfl (Rcv.of PW_t rfl) (Nat.le_of_ble_eq_true rfl) (Nat.le_of_ble_eq_true rfl) rfl dX4_readLodger_98 (fun r E1 n1 h => by obtain ⟨s9, w9, v9, c9, b9, k9, y9, h, -⟩ := h; exact ⟨_, h⟩) (fun x E1 n1 hp2 => ?_)
        obtain ⟨sw, w, lv2, cap2, b2, cnt2, y, hx, q1, q2, q3, q4, q5, q6, q7, q8, q9, q10, hy, q11, q12⟩ := hp2
        cases hx
        obtain ⟨S2, e2, hP2, hG, hsf, hba⟩ := hP.word q1 q2 q3 q4 q5 q6 q7 q8 q9 q10 q11 q12
        refine g_world e2 ?_
        have hi2 : E1 ti = _ := (hP.txt hG hti).trans hi
        have hr2 := hr.mono hG.2.2.2.1
        obtain ⟨eA, hR2⟩ := rl_ok (f := f) (c := c) hR1 h01 hp h78
        refine g_astore_n (lv2 := [(1, _), (0, _)]) (by decide) rfl dX4_readLodger_101 ?_
        refine g_aload_n 1 rfl dX4_readLodger_102 ?_
        refine g_get f_X4_31 PW_p rfl dX4_readLodger_103 ?_
        refine gu_V (c_X6_step PW_t ((PW_o (by omega)).trans hi2) hR1.1.1 hR1.e6 hR1.1.2.2.1) l_X4_54 rfl (Rcv.of PW_t rfl) (Nat.le_of_ble_eq_true rfl) (Nat.le_of_ble_eq_true rfl) rfl dX4_readLodger_106 ?_
        refine g_world (E2 := PW Γ pb ti E1 e (stT inp e (stT inp e t)) R) PW_st ?_
        refine g_aload_n 1 rfl dX4_readLodger_109 ?_
        refine g_null dX4_readLodger_110 ?_
        refine gx_Va (c_X4_readFloor_0 (bt := -1) hR2 hi2 hti hr2 h4 (fun _ => rfl)) l_X4_135 rfl (Rcv.of PW_p rfl) (Nat.le_of_ble_eq_true rfl) (Nat.le_of_ble_eq_true rfl) rfl dX4_readLodger_111 (fun r E1 n1 h => by obtain ⟨v, t2, h, -⟩ := h; exact ⟨_, h⟩) (fun x E3 n3 hp => ?_)
        obtain ⟨v, t3, h1, hn3, rfl, hR3, hv4, hvh⟩ := hp
        have hn4 := hn3.symm
        subst hn4
        cases h1
        replace hR3 : PRel inp e (rlC inp e f c s) t3 := hR3
        replace hvh : (rlC inp e f c s).2.2.2.2.1 = 0 → v = hvP 0 4 (rlB inp e f c s) := hvh
        refine g_istore_n (lv2 := [(2, _), (1, _), (0, _)]) (by decide) rfl dX4_readLodger_114 ?_
        refine g_aload_n 2 rfl dX4_readLodger_115 ?_
        refine gn_ic 0 (by decide) dX4_readLodger_116 ?_
        refine gn_sp 999 (by decide) dX4_readLodger_117 ?_
        refine gx_Va (c_X4_readNumber hR3 hi2 hti (by decide) (by decide)) l_X4_96 rfl (Rcv.of PW_p rfl) (Nat.le_of_ble_eq_true rfl) (Nat.le_of_ble_eq_true rfl) rfl dX4_readLodger_120 (fun r E1 n1 h => by obtain ⟨v, t2, h, -⟩ := h; exact ⟨_, h⟩) (fun x E3 n3 hp => ?_)
        obtain ⟨v2, t4, h1, hn3, rfl, hR4, -, -, hv2⟩ := hp
        have hn4 := hn3.symm
        subst hn4
        cases h1
        replace hR4 : PRel inp e (rlD inp e f c s) t4 := hR4
        replace hv2 : (rlD inp e f c s).2.2.2.2.1 = 0 → v2 = hvP 0 999 (rlC inp e f c s) := hv2
        refine g_istore_n (lv2 := [(3, _), (2, _), (1, _), (0, _)]) (by decide) rfl dX4_readLodger_123 ?_
        refine g_aload_n 3 rfl dX4_readLodger_124 ?_
        refine gx_Va (c_X4_readAccent hR4 hi2 hti) l_X4_108 rfl (Rcv.of PW_p rfl) (Nat.le_of_ble_eq_true rfl) (Nat.le_of_ble_eq_true rfl) rfl dX4_readLodger_125 (fun r E1 n1 h => by obtain ⟨v, t2, h, -⟩ := h; exact ⟨_, h⟩) (fun x E3 n3 hp => ?_)
        obtain ⟨a, t5, h1, hn3, rfl, hR5, ha, hav⟩ := hp
        have hn4 := hn3.symm
        subst hn4
        cases h1
        replace hR5 : PRel inp e (rlE inp e f c s).2 t5 := hR5
        refine g_istore (lv2 := [(4, _), (3, _), (2, _), (1, _), (0, _)]) (by decide) rfl dX4_readLodger_128 ?_
        refine g_aload_n 4 rfl dX4_readLodger_130 ?_
        refine g_get f_X4_35 PW_p rfl dX4_readLodger_131 ?_
        refine gn_if_ne (by have := hR5.ek6; omega) (tgt := 150) (by decide) dX4_readLodger_134 (fun h134 => ?_) (fun h134 => ?_)
        · -- t 150
          have hz := rl_no hR5 (fun z => h134 (hR5.ek.trans z)) h7 hr2
          exact g_vret ⟨rfl, E1, S2, t5, R, lv2, cap2, b2, cnt2, c, rfl, hz.1, hz.2, hP2, hG⟩ rfl dX4_readLodger_150
        · -- f 137
          refine g_aload_n 4 rfl dX4_readLodger_137 ?_
          refine g_get f_X4_12 PW_p rfl dX4_readLodger_138 ?_
          refine g_aload_n 3 rfl dX4_readLodger_141 ?_
          refine g_iload_n 2 rfl dX4_readLodger_142 ?_
          refine g_iload_n 1 rfl dX4_readLodger_143 ?_
          refine g_iload 0 rfl dX4_readLodger_144 ?_
          refine gv_V (PW_rec hr2 h9 (by omega)) l_X4_139 rfl (Rcv.of PW_h rfl) (Nat.le_of_ble_eq_true rfl) (Nat.le_of_ble_eq_true rfl) rfl dX4_readLodger_146 ?_
          refine g_pop rfl dX4_readLodger_149 ?_
          have hl5 : (rlE inp e f c s).2.2.2.2.2.1 = 0 := by rw [← hR5.ek]; exact h134
          obtain ⟨-, -, ⟨g3, g4, -, -⟩, -⟩ := hR1.live h01
          have g5 := hR1.1.2.2.2.2.2 (by rw [hp.1]; decide)
          have hz := rl_end (sw := x) (w := w) (y := y) (N := (stT inp e t).2.2.2.2 - (stT inp e t).2.2.2.1) h9 h7 hr2 hl5 hvh hv2 hav hsf hba (by rw [eA, g3, g4]) (by omega) hp.2 (fun i hi => by rw [eA, ← g3]; exact hy i hi) (fun i hi => by rw [eA, ← g3]; exact hR1.1.2.2.2.1 hp.1 _ (by omega) (by omega))
          exact g_vret ⟨rfl, E1, S2, t5, _, lv2, cap2, b2, cnt2, c + 1, rfl, by rw [rlP_e h7]; exact hR5, hz, hP2, hG⟩ rfl dX4_readLodger_150
      · -- f 81
        refine g_aload_n 0 rfl dX4_readLodger_81 ?_
        refine gn_ic 4 (by decide) dX4_readLodger_82 ?_
        refine g_aload_n 0 rfl dX4_readLodger_83 ?_
        refine g_get f_X4_31 PW_p rfl dX4_readLodger_84 ?_
        refine g_get f_X4_81 PW_t rfl dX4_readLodger_87 ?_
        refine gu_V (c_X4_fail hR1.ek6) l_X4_84 rfl (Rcv.of PW_p rfl) (Nat.le_of_ble_eq_true rfl) (Nat.le_of_ble_eq_true rfl) rfl dX4_readLodger_90 ?_
        have hz := rl_dup hR1 h01 hp h78 h7 hr
        exact g_vret ⟨rfl, F, S, _, R, lv, cap, b, cnt, c, rfl, hz.1, hz.2, hP, Grw.refl⟩ rfl dX4_readLodger_93
    · -- f 39
      have hp := bi_0 h36
      refine g_aload_n 0 rfl dX4_readLodger_39 ?_
      refine gn_ic 1 (by decide) dX4_readLodger_40 ?_
      refine g_aload_n 0 rfl dX4_readLodger_41 ?_
      refine g_get f_X4_31 PW_p rfl dX4_readLodger_42 ?_
      refine g_get f_X4_81 PW_t rfl dX4_readLodger_45 ?_
      refine gu_V (c_X4_fail hR1.ek6) l_X4_84 rfl (Rcv.of PW_p rfl) (Nat.le_of_ble_eq_true rfl) (Nat.le_of_ble_eq_true rfl) rfl dX4_readLodger_48 ?_
      have hz := rl_nm hR1 h01 hp h7 hr
      exact g_vret ⟨rfl, F, S, _, R, lv, cap, b, cnt, c, rfl, hz.1, hz.2, hP, Grw.refl⟩ rfl dX4_readLodger_51
  · -- f 12
    refine g_aload_n 0 rfl dX4_readLodger_12 ?_
    refine gn_ic 5 (by decide) dX4_readLodger_13 ?_
    refine g_aload_n 0 rfl dX4_readLodger_14 ?_
    refine g_get f_X4_31 PW_p rfl dX4_readLodger_15 ?_
    refine g_get f_X4_81 PW_t rfl dX4_readLodger_18 ?_
    refine gu_V (c_X4_fail hek) l_X4_84 rfl (Rcv.of PW_p rfl) (Nat.le_of_ble_eq_true rfl) (Nat.le_of_ble_eq_true rfl) rfl dX4_readLodger_21 ?_
    have hz := rl_12 hR (by rw [hr.2.2.1, show c = 12 by omega]) hr
    exact g_vret ⟨rfl, F, S, _, R, lv, cap, b, cnt, c, rfl, hz.1, hz.2, hP, Grw.refl⟩ rfl dX4_readLodger_24
set_option maxRecDepth 100000 in
set_option maxHeartbeats 4000000 in
theorem c_X4_readHeader {Γ : Gm} {n : Nat} {pb ti e : Nat} {F : Hp} {t : PT} {R : Hr} {S : Hp} {inp : Nat → Int32} {s : PS} (hR : PRel inp e (nxP inp e s) t) (hi : F ti = some (.inl (gA Γ 1, 600, .inl inp))) (hti : ti < pb) (hok : Hok Γ S R) : Ct Γ 7 MX4_readHeader 0 0 [.ref pb] (PW Γ pb ti F e t R) n (fun r E2 n2 => r = none ∧ n2 = n ∧ ∃ (t2 : PT) (R2 : Hr), E2 = PW Γ pb ti F e t2 R2 ∧ PRel inp e (lpP inp e (rtE inp e s) 5) t2 ∧ ((lpP inp e (rtE inp e s) 5).2.2.2.2.1 = 0 → Rp Γ S (hdF inp e s 5) 0 R2) ∧ Hok Γ S R2) X0 := by
  refine Ct.of (by decide +kernel) rfl (Nat.le_of_ble_eq_true rfl) ?_
  refine G.tok (fun hinj => ?_)
  have he := hR.e6
  refine G.sub (lv2 := [(0, _)]) [0] rfl ?_
  refine g_aload_n 0 rfl dX4_readHeader_0 ?_
  refine g_ldcS (i := 2) rfl dX4_readHeader_1 ?_
  refine gx_V0 (c_X4_expectWord (key := 0) hR hi hti (by decide)) l_X4_92 rfl (Rcv.of PW_p rfl) (Nat.le_of_ble_eq_true rfl) (Nat.le_of_ble_eq_true rfl) rfl dX4_readHeader_3 (fun _ _ _ h => h.1) (fun E3 n3 hp => ?_)
  obtain ⟨-, hn3, t1, rfl, hR1⟩ := hp
  have hn4 := hn3.symm
  subst hn4
  refine g_aload_n 0 rfl dX4_readHeader_6 ?_
  refine gn_ic 0 (by decide) dX4_readHeader_7 ?_
  refine gn_bp 50 (by decide) dX4_readHeader_8 ?_
  refine gx_Va (c_X4_readNumber hR1 hi hti (by decide) (by decide)) l_X4_96 rfl (Rcv.of PW_p rfl) (Nat.le_of_ble_eq_true rfl) (Nat.le_of_ble_eq_true rfl) rfl dX4_readHeader_10 (fun r E1 n1 h => by obtain ⟨v, t2, h, -⟩ := h; exact ⟨_, h⟩) (fun x E3 n3 hp => ?_)
  obtain ⟨v1, t2, h1, hn3, rfl, hR2, -, -, hv1⟩ := hp
  have hn4 := hn3.symm
  subst hn4
  cases h1
  refine g_istore_n (lv2 := [(1, _), (0, _)]) (by decide) rfl dX4_readHeader_13 ?_
  refine g_aload_n 1 rfl dX4_readHeader_14 ?_
  refine gn_ic 0 (by decide) dX4_readHeader_15 ?_
  refine gn_bp 45 (by decide) dX4_readHeader_16 ?_
  refine gx_Va (c_X4_readNumber hR2 hi hti (by decide) (by decide)) l_X4_96 rfl (Rcv.of PW_p rfl) (Nat.le_of_ble_eq_true rfl) (Nat.le_of_ble_eq_true rfl) rfl dX4_readHeader_18 (fun r E1 n1 h => by obtain ⟨v, t2, h, -⟩ := h; exact ⟨_, h⟩) (fun x E3 n3 hp => ?_)
  obtain ⟨v2, t3, h1, hn3, rfl, hR3, -, -, hv2⟩ := hp
  have hn4 := hn3.symm
  subst hn4
  cases h1
  refine g_istore_n (lv2 := [(2, _), (1, _), (0, _)]) (by decide) rfl dX4_readHeader_21 ?_
  refine g_aload_n 2 rfl dX4_readHeader_22 ?_
  refine g_get f_X4_31 PW_p rfl dX4_readHeader_23 ?_
  refine g_get f_X4_45 PW_t rfl dX4_readHeader_26 ?_
  refine g_gets 3 rfl z_X4_49 dX4_readHeader_29 ?_
  refine g_acmp_eq (rx := some (gF Γ t3.2.2.1)) (ry := some (gF Γ 3)) (tgt := 48) (by decide) dX4_readHeader_32 (fun h32 => ?_) (fun h32 => ?_)
  · -- t 48
    have h3y : t3.2.2.1 = 3 := hinj t3.2.2.1 3 hR3.1.1 (by decide) (Option.some.inj h32)
    refine g_aload_n 2 rfl dX4_readHeader_48 ?_
    refine g_get f_X4_31 PW_p rfl dX4_readHeader_49 ?_
    refine gu_V (c_X6_step PW_t ((PW_o (by omega)).trans hi) hR3.1.1 hR3.e6 hR3.1.2.2.1) l_X4_54 rfl (Rcv.of PW_t rfl) (Nat.le_of_ble_eq_true rfl) (Nat.le_of_ble_eq_true rfl) rfl dX4_readHeader_52 ?_
    refine g_world (E2 := PW Γ pb ti F e (stT inp e t3) R) PW_st ?_
    have hR4 := ts_y hR3 h3y
    refine g_aload_n 2 rfl dX4_readHeader_55 ?_
    refine g_ldcS (i := 3) rfl dX4_readHeader_56 ?_
    refine gx_V0 (c_X4_expectWord (key := 1) hR4 hi hti (by decide)) l_X4_92 rfl (Rcv.of PW_p rfl) (Nat.le_of_ble_eq_true rfl) (Nat.le_of_ble_eq_true rfl) rfl dX4_readHeader_58 (fun _ _ _ h => h.1) (fun E3 n3 hp => ?_)
    obtain ⟨-, hn3, t5, rfl, hR5⟩ := hp
    have hn4 := hn3.symm
    subst hn4
    refine g_aload_n 2 rfl dX4_readHeader_61 ?_
    refine g_get f_X4_12 PW_p rfl dX4_readHeader_62 ?_
    refine g_iload_n 1 rfl dX4_readHeader_65 ?_
    refine g_iload_n 0 rfl dX4_readHeader_66 ?_
    refine gu_V PW_open l_X4_102 rfl (Rcv.of PW_h rfl) (Nat.le_of_ble_eq_true rfl) (Nat.le_of_ble_eq_true rfl) rfl dX4_readHeader_67 ?_
    refine g_aload_n 2 rfl dX4_readHeader_70 ?_
    refine g_get f_X4_12 PW_p rfl dX4_readHeader_71 ?_
    refine g_get f_X4_105 PW_h rfl dX4_readHeader_74 ?_
    refine g_aload_n 2 rfl dX4_readHeader_77 ?_
    refine gx_Va (c_X4_readAccent hR5 hi hti) l_X4_108 rfl (Rcv.of PW_p rfl) (Nat.le_of_ble_eq_true rfl) (Nat.le_of_ble_eq_true rfl) rfl dX4_readHeader_78 (fun r E1 n1 h => by obtain ⟨v, t2, h, -⟩ := h; exact ⟨_, h⟩) (fun x E3 n3 hp => ?_)
    obtain ⟨a, t6, h1, hn3, rfl, hR6, ha, hav⟩ := hp
    have hn4 := hn3.symm
    subst hn4
    cases h1
    refine gu_V (PW_dig (by omega)) l_X4_112 rfl PW_ld (Nat.le_of_ble_eq_true rfl) (Nat.le_of_ble_eq_true rfl) rfl dX4_readHeader_81 ?_
    exact g_vret ⟨rfl, rfl, t6, opR2 R v1 v2 a, rfl, by rw [lp_ac]; exact hR6, hd_yes hok.wf hv1 hv2 hav, Hok.opn hok.wf⟩ rfl dX4_readHeader_84
  · -- f 35
    have h3n : ¬ t3.2.2.1 = 3 := fun z => h32 (by rw [z])
    refine g_aload_n 2 rfl dX4_readHeader_35 ?_
    refine gn_ic 1 (by decide) dX4_readHeader_36 ?_
    refine g_aload_n 2 rfl dX4_readHeader_37 ?_
    refine g_get f_X4_31 PW_p rfl dX4_readHeader_38 ?_
    refine g_get f_X4_81 PW_t rfl dX4_readHeader_41 ?_
    refine gu_V (c_X4_fail hR3.ek6) l_X4_84 rfl (Rcv.of PW_p rfl) (Nat.le_of_ble_eq_true rfl) (Nat.le_of_ble_eq_true rfl) rfl dX4_readHeader_44 ?_
    have hz0 := ts_n hR3 h3n
    have hz := hd_no hz0.1 hz0.2
    exact g_vret ⟨rfl, rfl, _, R, rfl, hz.1, fun z => absurd z hz.2, hok⟩ rfl dX4_readHeader_47
end GJ17
