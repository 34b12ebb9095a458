section GJ29
def LDq (q : CQ) (l : Nat) (t : PT) (lv cap cnt : Nat) (b : Nat → Int32) (R2 R3 : Hr) : CQ := ((0, nI t.1, t.2.1), q.2.1, q.2.2.1, (t, l, lv, cap, cnt, b), (0, 0), upd (upd (q_sv q) 0 (nI 0)) 1 (nI 0), up (up (q_Q q) 0 R2) 1 R3)
set_option maxRecDepth 100000 in
set_option maxHeartbeats 4000000 in
theorem c_X7_load_ok {Γ : Gm} {n : Nat} {E : Hp} {ab : Nat} {S : Hp} {q : CQ} {J : Nat → Int32} {s : PS} {l : Nat} (hCA : CA Γ ab n S E q) (hw : Wf (q_Q q 1)) (hok : Hok Γ S (q_Q q 0)) (hl : l ≤ q_im q) (h600 : q_im q ≤ 600) (hsv : s.2.2.2.1 < 2 ^ 31) (hsf : s.2.2.2.2.2 ≤ 600) (hft : (txP (q_inp q) l J (z0 s)).2.2.2.2.2.1 = 0) : Ct Γ 13 MX7_load 328 10168 [.ref ab, .int (nI l)] (E) n (fun r E2 n2 => ∃ (S2 : Hp) (t2 : PT) (lv2 cap2 cnt2 : Nat) (b2 : Nat → Int32) (R2 R3 : Hr) (c2 : Nat), r = some (.int (nI c2)) ∧ t2.1 = 0 ∧ t2.2.1 = -1 ∧ CA Γ ab n2 S2 E2 (LDq q l t2 lv2 cap2 cnt2 b2 R2 R3) ∧ n ≤ n2 ∧ Frm ab n (q_lv q) (q_ov q) E E2 ∧ (lv2 = q_lv q ∨ n ≤ lv2) ∧ (∀ a, Le S S2 a) ∧ (∀ a v, S2 a = some v → S a = some v ∨ n ≤ a) ∧ Hok Γ S2 R2 ∧ Rp Γ S2 (txP (q_inp q) l J (z0 s)).1 c2 R3 ∧ Val 1200000 (txP (q_inp q) l J (z0 s)).1 c2) X0 := by
  refine Ct.of (by decide +kernel) rfl (Nat.le_of_ble_eq_true rfl) ?_
  refine G.sub (lv2 := [(0, _), (1, _)]) [0, 1] rfl ?_
  refine g_iload_n 1 rfl dX7_load_0 ?_
  refine g_if_lt (tgt := 12) (by decide) dX7_load_1 (fun h1 => ?_) (fun h1 => ?_)
  · -- t 12
    exact absurd h1 (nI_pos (by omega))
  · -- f 4
    refine g_iload_n 1 rfl dX7_load_4 ?_
    refine g_aload_n 0 rfl dX7_load_5 ?_
    refine g_get f_X7_79 hCA.co rfl dX7_load_6 ?_
    refine gn_icmp_le (by omega) (by omega) (tgt := 22) (by decide) dX7_load_9 (fun h9 => ?_) (fun h9 => ?_)
    · -- t 22
      refine g_aload_n 0 rfl dX7_load_22 ?_
      refine g_get f_X7_25 hCA.co rfl dX7_load_23 ?_
      refine g_iload_n 1 rfl dX7_load_26 ?_
      refine g_world hCA.pw ?_
      refine gx_V0 (c_X4_read (S := S) (J := J) (s := s) (l := l) (inp := q_inp q) hCA.ii (by omega) (by omega) hCA.pst hok hsv hsf) l_X7_70 rfl (Rcv.of PW_p rfl) (Nat.le_of_ble_eq_true rfl) (Nat.le_of_ble_eq_true rfl) rfl dX7_load_27 (fun _ _ _ h => h.1) (fun E3 n3 hp => ?_)
      obtain ⟨-, F2, S2, t2, R2, lv2, cap2, b2, cnt2, rfl, hRl, hrow, hok2, hP2, hG⟩ := hp
      refine G.lt (fun hlt9 _ => ?_)
      have hl9 : lv2 < n3 := hlt9 lv2 _ ((PW_o (by have := hP2.2.2.1; omega)).trans hP2.1.2.1)
      obtain ⟨hCA2, hFm⟩ := hCA.setP (e := l) (t2 := t2) (R2 := R2) hG hP2 hl9
      obtain ⟨E1, hE1⟩ : ∃ E1, E1 = PW Γ (ab + 4) (ab + 1) F2 l t2 R2 := ⟨_, rfl⟩
      refine g_world hE1.symm ?_
      rw [← hE1] at hCA2 hFm
      have hn9 := hG.2.2.1
      have hS9 := hG.2.2.2.1
      have hCA3 := hCA2.setC (im := 0) (rk := nI t2.1) (ro := t2.2.1)
      refine g_aload_n 0 rfl dX7_load_30 ?_
      refine gn_ic 0 (by decide) dX7_load_31 ?_
      refine g_put f_X7_79 w_X7_1 hCA2.co (Nat.le_of_ble_eq_true rfl) rfl rfl rfl dX7_load_32 ?_
      refine g_world (E2 := hset E1 ab (.inr (10, coF ab 0 (q_rk q) (q_ro q)))) rfl ?_
      refine g_aload_n 0 rfl dX7_load_35 ?_
      refine g_aload_n 0 rfl dX7_load_36 ?_
      refine g_get f_X7_25 hset_s rfl dX7_load_37 ?_
      refine g_get f_X7_97 ((hset_n (by omega)).trans hCA2.pp) rfl dX7_load_40 ?_
      refine g_put f_X7_100 w_X7_4 hset_s (Nat.le_of_ble_eq_true rfl) rfl rfl rfl dX7_load_43 ?_
      refine g_world (E2 := hset E1 ab (.inr (10, coF ab 0 (nI t2.1) (q_ro q)))) hset_hs ?_
      refine g_aload_n 0 rfl dX7_load_46 ?_
      refine g_aload_n 0 rfl dX7_load_47 ?_
      refine g_get f_X7_25 hset_s rfl dX7_load_48 ?_
      refine g_get f_X7_103 ((hset_n (by omega)).trans hCA2.pp) rfl dX7_load_51 ?_
      refine g_put f_X7_29 w_X7_5 hset_s (Nat.le_of_ble_eq_true rfl) rfl rfl rfl dX7_load_54 ?_
      refine g_world (E2 := hset E1 ab (.inr (10, coF ab 0 (nI t2.1) t2.2.1))) hset_hs ?_
      refine g_aload_n 0 rfl dX7_load_57 ?_
      refine g_get f_X7_100 hset_s rfl dX7_load_58 ?_
      refine gn_if_eq (by have := hRl.ek6; omega) (tgt := 74) (by decide) dX7_load_61 (fun h61 => ?_) (fun h61 => ?_)
      · -- t 74
        obtain ⟨c2, hr2, hv2⟩ := hrow hft
        have hlv := hRl.live hft
        refine g_aload_n 0 rfl dX7_load_74 ?_
        refine g_get f_X7_36 hset_s rfl dX7_load_75 ?_
        refine g_aload_n 0 rfl dX7_load_78 ?_
        refine g_get f_X7_25 hset_s rfl dX7_load_79 ?_
        refine g_get f_X7_74 ((hset_n (by omega)).trans hCA2.pp) rfl dX7_load_82 ?_
        refine g_world hCA3.h1.eq ?_
        refine gx_V0 (c_X2_copyFrom (hb := ab + 50) (ho := ab + 4 + 1) hw hr2 (show HAt Γ _ (ab + 4 + 1) R2 from hCA3.qq 0 (by decide)) (Or.inl (by omega))) l_X7_75 rfl (Rcv.of HW_h rfl) (Nat.le_of_ble_eq_true rfl) (Nat.le_of_ble_eq_true rfl) rfl dX7_load_85 (fun _ _ _ h => h.1) (fun E4 n4 hp => ?_)
        obtain ⟨-, hn5, R3, rfl, hr3, -⟩ := hp
        have hn6 := hn5.symm
        subst hn6
        have hCA4 := hCA3.setQ (i := 1) (R := R3) (by decide)
        have hCA5 := hCA4.setH (ol := 0) (kp := 0)
        refine g_aload_n 0 rfl dX7_load_88 ?_
        refine g_get f_X7_46 hCA4.co rfl dX7_load_89 ?_
        refine gu_V (c_X1_clear hCA4.hi) l_X7_111 rfl (Rcv.of hCA4.hi rfl) (Nat.le_of_ble_eq_true rfl) (Nat.le_of_ble_eq_true rfl) rfl dX7_load_92 ?_
        refine gn_ic 0 (by decide) dX7_load_95 ?_
        refine g_istore_n (lv2 := [(2, _), (0, _), (1, _)]) (by decide) rfl dX7_load_96 ?_
        refine g_iload_n 0 rfl dX7_load_97 ?_
        refine gn_ic 2 (by decide) dX7_load_98 ?_
        refine gn_icmp_ge (by omega) (by omega) (tgt := 115) (by decide) dX7_load_99 (fun cc1 => ?_) (fun cc1 => ?_)
        · -- t 115
          exact absurd cc1 (by decide)
        · -- f 102
          refine g_aload_n 1 rfl dX7_load_102 ?_
          refine g_get f_X7_54 hCA5.co rfl dX7_load_103 ?_
          refine g_iload_n 0 rfl dX7_load_106 ?_
          refine gn_ic 0 (by decide) dX7_load_107 ?_
          refine gn_zast hCA5.sz (by decide) (by decide) (by rw [show vp_nar .boolean (nI 0) = nI 0 by decide +kernel]) dX7_load_108 ?_
          have hCA6 := hCA5.setZ (sv := upd (q_sv q) 0 (nI 0))
          refine g_world (E2 := hset (hset (HW Γ (ab + 50) (hset E1 ab (.inr (10, coF ab 0 (nI t2.1) t2.2.1))) R3) (ab + 134) (.inr (5, [.ref (ab + 135), .int (nI 0), .int (nI 0)]))) (ab + 557) (.inl (gA Γ 2, 2, .inl (upd (q_sv q) 0 (nI 0))))) rfl ?_
          refine g_iinc (v := nI 1) (lv2 := [(2, _), (0, _), (1, _)]) 0 rfl (by decide) (by decide) rfl dX7_load_109 ?_
          refine g_goto (tgt := 97) (by decide) dX7_load_112 ?_
          refine g_iload_n 0 rfl dX7_load_97 ?_
          refine gn_ic 2 (by decide) dX7_load_98 ?_
          refine gn_icmp_ge (by omega) (by omega) (tgt := 115) (by decide) dX7_load_99 (fun cc2 => ?_) (fun cc2 => ?_)
          · -- t 115
            exact absurd cc2 (by decide)
          · -- f 102
            refine g_aload_n 1 rfl dX7_load_102 ?_
            refine g_get f_X7_54 hCA6.co rfl dX7_load_103 ?_
            refine g_iload_n 0 rfl dX7_load_106 ?_
            refine gn_ic 0 (by decide) dX7_load_107 ?_
            refine gn_zast hset_s (by decide) (by decide) (by rw [show vp_nar .boolean (nI 0) = nI 0 by decide +kernel]) dX7_load_108 ?_
            have hCA7 := hCA5.setZ (sv := upd (upd (q_sv q) 0 (nI 0)) 1 (nI 0))
            refine g_world (E2 := hset (hset (HW Γ (ab + 50) (hset E1 ab (.inr (10, coF ab 0 (nI t2.1) t2.2.1))) R3) (ab + 134) (.inr (5, [.ref (ab + 135), .int (nI 0), .int (nI 0)]))) (ab + 557) (.inl (gA Γ 2, 2, .inl (upd (upd (q_sv q) 0 (nI 0)) 1 (nI 0))))) hset_hs ?_
            refine g_iinc (v := nI 2) (lv2 := [(2, _), (0, _), (1, _)]) 0 rfl (by decide) (by decide) rfl dX7_load_109 ?_
            refine g_goto (tgt := 97) (by decide) dX7_load_112 ?_
            refine g_iload_n 0 rfl dX7_load_97 ?_
            refine gn_ic 2 (by decide) dX7_load_98 ?_
            refine gn_icmp_ge (by omega) (by omega) (tgt := 115) (by decide) dX7_load_99 (fun cc3 => ?_) (fun cc3 => ?_)
            · -- t 115
              refine g_aload_n 1 rfl dX7_load_115 ?_
              refine g_get f_X7_36 hCA7.co rfl dX7_load_116 ?_
              refine g_get f_X7_114 hCA7.ho rfl dX7_load_119 ?_
              refine g_top (y := nI c2) hr3.cnt ?_
              exact g_iret ⟨S2, t2, lv2, cap2, cnt2, b2, R2, R3, c2, rfl, hlv.1, hlv.2.1, hCA7, hn9, (((hFm.hset (by omega)).hw (i := 1) (by decide)).hset (by omega)).hset (by omega), hG.2.1, hS9, hG.2.2.2.2, hok2, hr3, hv2⟩ rfl rfl dX7_load_122
            · -- f 102
              exact absurd cc3 (by decide)
      · -- f 64
        exact absurd (hRl.ek.trans hft) h61
    · -- f 12
      exfalso; omega
set_option maxRecDepth 100000 in
set_option maxHeartbeats 4000000 in
theorem c_X7_load_er {Γ : Gm} {n : Nat} {E : Hp} {ab : Nat} {S : Hp} {q : CQ} {J : Nat → Int32} {s : PS} {l : Nat} (hCA : CA Γ ab n S E q) (hw : Wf (q_Q q 1)) (hok : Hok Γ S (q_Q q 0)) (hl : l ≤ q_im q) (h600 : q_im q ≤ 600) (hsv : s.2.2.2.1 < 2 ^ 31) (hsf : s.2.2.2.2.2 ≤ 600) (hft : ¬ (txP (q_inp q) l J (z0 s)).2.2.2.2.2.1 = 0) : Ct Γ 13 MX7_load 329 10174 [.ref ab, .int (nI l)] (E) n PNo (fun y E2 n2 => y = "java/lang/IllegalArgumentException" ∧ ∃ (S2 : Hp) (t2 : PT) (lv2 cap2 cnt2 : Nat) (b2 : Nat → Int32) (R2 : Hr), t2.1 = (txP (q_inp q) l J (z0 s)).2.2.2.2.2.1 ∧ t2.2.1 = nI (txP (q_inp q) l J (z0 s)).2.2.2.2.2.2 ∧ CA Γ ab n2 S2 E2 (qC (qP q t2 l lv2 cap2 cnt2 b2 R2) 0 (nI t2.1) t2.2.1) ∧ n ≤ n2 ∧ Frm ab n (q_lv q) (q_ov q) E E2 ∧ (lv2 = q_lv q ∨ n ≤ lv2) ∧ (∀ a, Le S S2 a) ∧ (∀ a v, S2 a = some v → S a = some v ∨ n ≤ a) ∧ Hok Γ S2 R2) := by
  refine Ct.of (by decide +kernel) rfl (Nat.le_of_ble_eq_true rfl) ?_
  refine G.sub (lv2 := [(0, _), (1, _)]) [0, 1] rfl ?_
  refine g_iload_n 1 rfl dX7_load_0 ?_
  refine g_if_lt (tgt := 12) (by decide) dX7_load_1 (fun h1 => ?_) (fun h1 => ?_)
  · -- t 12
    exact absurd h1 (nI_pos (by omega))
  · -- f 4
    refine g_iload_n 1 rfl dX7_load_4 ?_
    refine g_aload_n 0 rfl dX7_load_5 ?_
    refine g_get f_X7_79 hCA.co rfl dX7_load_6 ?_
    refine gn_icmp_le (by omega) (by omega) (tgt := 22) (by decide) dX7_load_9 (fun h9 => ?_) (fun h9 => ?_)
    · -- t 22
      refine g_aload_n 0 rfl dX7_load_22 ?_
      refine g_get f_X7_25 hCA.co rfl dX7_load_23 ?_
      refine g_iload_n 1 rfl dX7_load_26 ?_
      refine g_world hCA.pw ?_
      refine gx_V0 (c_X4_read (S := S) (J := J) (s := s) (l := l) (inp := q_inp q) hCA.ii (by omega) (by omega) hCA.pst hok hsv hsf) l_X7_70 rfl (Rcv.of PW_p rfl) (Nat.le_of_ble_eq_true rfl) (Nat.le_of_ble_eq_true rfl) rfl dX7_load_27 (fun _ _ _ h => h.1) (fun E3 n3 hp => ?_)
      obtain ⟨-, F2, S2, t2, R2, lv2, cap2, b2, cnt2, rfl, hRl, hrow, hok2, hP2, hG⟩ := hp
      refine G.lt (fun hlt9 _ => ?_)
      have hl9 : lv2 < n3 := hlt9 lv2 _ ((PW_o (by have := hP2.2.2.1; omega)).trans hP2.1.2.1)
      obtain ⟨hCA2, hFm⟩ := hCA.setP (e := l) (t2 := t2) (R2 := R2) hG hP2 hl9
      obtain ⟨E1, hE1⟩ : ∃ E1, E1 = PW Γ (ab + 4) (ab + 1) F2 l t2 R2 := ⟨_, rfl⟩
      refine g_world hE1.symm ?_
      rw [← hE1] at hCA2 hFm
      have hn9 := hG.2.2.1
      have hS9 := hG.2.2.2.1
      have hCA3 := hCA2.setC (im := 0) (rk := nI t2.1) (ro := t2.2.1)
      refine g_aload_n 0 rfl dX7_load_30 ?_
      refine gn_ic 0 (by decide) dX7_load_31 ?_
      refine g_put f_X7_79 w_X7_1 hCA2.co (Nat.le_of_ble_eq_true rfl) rfl rfl rfl dX7_load_32 ?_
      refine g_world (E2 := hset E1 ab (.inr (10, coF ab 0 (q_rk q) (q_ro q)))) rfl ?_
      refine g_aload_n 0 rfl dX7_load_35 ?_
      refine g_aload_n 0 rfl dX7_load_36 ?_
      refine g_get f_X7_25 hset_s rfl dX7_load_37 ?_
      refine g_get f_X7_97 ((hset_n (by omega)).trans hCA2.pp) rfl dX7_load_40 ?_
      refine g_put f_X7_100 w_X7_4 hset_s (Nat.le_of_ble_eq_true rfl) rfl rfl rfl dX7_load_43 ?_
      refine g_world (E2 := hset E1 ab (.inr (10, coF ab 0 (nI t2.1) (q_ro q)))) hset_hs ?_
      refine g_aload_n 0 rfl dX7_load_46 ?_
      refine g_aload_n 0 rfl dX7_load_47 ?_
      refine g_get f_X7_25 hset_s rfl dX7_load_48 ?_
      refine g_get f_X7_103 ((hset_n (by omega)).trans hCA2.pp) rfl dX7_load_51 ?_
      refine g_put f_X7_29 w_X7_5 hset_s (Nat.le_of_ble_eq_true rfl) rfl rfl rfl dX7_load_54 ?_
      refine g_world (E2 := hset E1 ab (.inr (10, coF ab 0 (nI t2.1) t2.2.1))) hset_hs ?_
      refine g_aload_n 0 rfl dX7_load_57 ?_
      refine g_get f_X7_100 hset_s rfl dX7_load_58 ?_
      refine gn_if_eq (by have := hRl.ek6; omega) (tgt := 74) (by decide) dX7_load_61 (fun h61 => ?_) (fun h61 => ?_)
      · -- t 74
        exact absurd (hRl.ek.symm.trans h61) hft
      · -- f 64
        have hd9 : t2.1 = (txP (q_inp q) l J (z0 s)).2.2.2.2.2.1 ∧ t2.2.1 = nI (txP (q_inp q) l J (z0 s)).2.2.2.2.2.2 := by rcases hRl.2.2 with z | z; exact absurd z.1 hft; exact z.2
        exact g_throw ⟨rfl, S2, t2, lv2, cap2, cnt2, b2, R2, hd9.1, hd9.2, hCA3, hn9, hFm.hset (by omega), hG.2.1, hS9, hG.2.2.2.2, hok2⟩ (thr_X7_load_64 (by decide)) (Nat.le_of_ble_eq_true rfl) (by decide) (by decide)
    · -- f 12
      exfalso; omega
end GJ29
