section GJ3
set_option maxRecDepth 100000 in
set_option maxHeartbeats 4000000 in
theorem r_ss {Γ : Gm} {n : Nat} {E : Hp} {w e : Nat} (hw31 : w < 2 ^ 31) (he : e ≤ 1) : G Γ 1 MJ6_stringSize_0f7a4 (Rt (some (.int (nI (e + (sb_dg w))))) E n) X0 11 [(0, .int (-nI w)), (1, .int (nI e))] [] (E) n 0 0 := by
  refine G.sub (lv2 := [(0, _), (1, _)]) [0, 1] rfl ?_
  refine g_bipush (v := -10) dJ6_stringSize_0f7a4_11 (by decide) ?_
  refine g_istore_n (lv2 := [(2, _), (0, _), (1, _)]) (by decide) rfl dJ6_stringSize_0f7a4_13 ?_
  refine gn_ic 1 (by decide) dJ6_stringSize_0f7a4_14 ?_
  refine g_istore_n (lv2 := [(3, _), (2, _), (0, _), (1, _)]) (by decide) rfl dJ6_stringSize_0f7a4_15 ?_
  have L16 : ∀ (m16 : Nat) (i : Nat) (p : Int32), (i + m16 = 10) → (1 ≤ i) → (i = 1 ∨ 10 ^ (i - 1) ≤ w) → (i ≤ 9 → p = -nI (10 ^ i)) → G Γ 1 MJ6_stringSize_0f7a4 (Rt (some (.int (nI (e + (sb_dg w))))) E n) X0 16 [(0, .int (-nI w)), (1, .int (nI e)), (2, .int p), (3, .int (nI i))] [] (E) n 0 0 := by
    intro m16
    induction m16 with
    | zero =>
      intro i p hi h0 h1 hp
      refine g_iload_n 3 rfl dJ6_stringSize_0f7a4_16 ?_
      refine gn_bp 10 (by decide) dJ6_stringSize_0f7a4_17 ?_
      refine gn_icmp_ge (by omega) (by omega) (tgt := 42) (by decide) dJ6_stringSize_0f7a4_19 (fun h19 => ?_) (fun h19 => ?_)
      · -- t 42
        have hD : (sb_dg w) = 10 := dg_is (j := 9) hw31 (by decide) (Or.inr (by rcases h1 with h1 | h1; omega; rw [show i - 1 = 9 by omega] at h1; exact h1)) (by show w / 1000000000 ≤ 9; omega)
        refine gn_bp 10 (by decide) dJ6_stringSize_0f7a4_42 ?_
        refine g_iload_n 1 rfl dJ6_stringSize_0f7a4_44 ?_
        refine gn_iadd dJ6_stringSize_0f7a4_45 ?_
        exact g_iret ⟨by rw [hD]; congr 3; omega, rfl, rfl⟩ rfl rfl dJ6_stringSize_0f7a4_46
      · -- f 22
        exfalso; omega
    | succ m16 ih16 =>
      intro i p hi h0 h1 hp
      have hp0 := p10_le (show i ≤ 9 by omega)
      refine g_iload_n 3 rfl dJ6_stringSize_0f7a4_16 ?_
      refine gn_bp 10 (by decide) dJ6_stringSize_0f7a4_17 ?_
      refine gn_icmp_ge (by omega) (by omega) (tgt := 42) (by decide) dJ6_stringSize_0f7a4_19 (fun h19 => ?_) (fun h19 => ?_)
      · -- t 42
        have hD : (sb_dg w) = 10 := dg_is (j := 9) hw31 (by decide) (Or.inr (by rcases h1 with h1 | h1; omega; rw [show i - 1 = 9 by omega] at h1; exact h1)) (by show w / 1000000000 ≤ 9; omega)
        refine gn_bp 10 (by decide) dJ6_stringSize_0f7a4_42 ?_
        refine g_iload_n 1 rfl dJ6_stringSize_0f7a4_44 ?_
        refine gn_iadd dJ6_stringSize_0f7a4_45 ?_
        exact g_iret ⟨by rw [hD]; congr 3; omega, rfl, rfl⟩ rfl rfl dJ6_stringSize_0f7a4_46
      · -- f 22
        refine g_iload_n 0 rfl dJ6_stringSize_0f7a4_22 ?_
        refine g_iload_n 2 rfl dJ6_stringSize_0f7a4_23 ?_
        refine g_icmp_le (tgt := 31) (by decide) dJ6_stringSize_0f7a4_24 (fun h24 => ?_) (fun h24 => ?_)
        · -- t 31
          rw [hp (by omega), sb_nle hw31 (by omega)] at h24
          refine gn_bp 10 (by decide) dJ6_stringSize_0f7a4_31 ?_
          refine g_iload_n 2 rfl dJ6_stringSize_0f7a4_33 ?_
          refine g_imul dJ6_stringSize_0f7a4_34 ?_
          refine g_istore_n (lv2 := [(2, _), (0, _), (1, _), (3, _)]) (by decide) rfl dJ6_stringSize_0f7a4_35 ?_
          refine gn_inc (lv2 := [(3, _), (2, _), (0, _), (1, _)]) 3 rfl (by decide) rfl dJ6_stringSize_0f7a4_36 ?_
          refine g_goto (tgt := 16) (by decide) dJ6_stringSize_0f7a4_39 ?_
          refine G.sub [2, 3, 1, 0] rfl ?_
          exact ih16 (i + 1) _ (by omega) (by omega) (Or.inr (by rw [Nat.add_sub_cancel]; exact h24)) (fun h => by rw [hp (by omega), n10neg, Nat.pow_succ, Nat.mul_comm])
        · -- f 27
          rw [hp (by omega), sb_nle hw31 (by omega)] at h24
          have hD : (sb_dg w) = i - 1 + 1 := dg_is hw31 (by omega) (by rcases h1 with h1 | h1; exact Or.inl (by omega); exact Or.inr h1) (Nat.lt_succ_iff.mp ((Nat.div_lt_iff_lt_mul (p10_pos _)).mpr (by rw [Nat.mul_comm, ← Nat.pow_succ]; rw [show (i - 1).succ = i by omega]; exact Nat.lt_of_not_le h24)))
          refine g_iload_n 3 rfl dJ6_stringSize_0f7a4_27 ?_
          refine g_iload_n 1 rfl dJ6_stringSize_0f7a4_28 ?_
          refine gn_iadd dJ6_stringSize_0f7a4_29 ?_
          exact g_iret ⟨by rw [hD]; congr 3; omega, rfl, rfl⟩ rfl rfl dJ6_stringSize_0f7a4_30
  refine G.sub [2, 3, 1, 0] rfl ?_
  exact L16 9 1 (-nI 10) rfl (by decide) (Or.inl rfl) (fun _ => rfl)
set_option maxRecDepth 100000 in
set_option maxHeartbeats 4000000 in
theorem c_J6_stringSize_0f7a4 {Γ : Gm} {n : Nat} {E : Hp} {w e : Nat} {x : Int32} (hw : iabs x = nI w) (hw31 : w < 2 ^ 31) (he : e = if x < 0 then 1 else 0) : Ct Γ 1 MJ6_stringSize_0f7a4 0 0 [.int x] (E) n (Rt (some (.int (nI (e + (sb_dg w))))) (E) n) X0 := by
  refine Ct.of (by decide +kernel) rfl (Nat.le_of_ble_eq_true rfl) ?_
  refine G.sub (lv2 := [(0, _)]) [0] rfl ?_
  refine gn_ic 1 (by decide) dJ6_stringSize_0f7a4_0 ?_
  refine g_istore_n (lv2 := [(1, _), (0, _)]) (by decide) rfl dJ6_stringSize_0f7a4_1 ?_
  refine g_iload_n 1 rfl dJ6_stringSize_0f7a4_2 ?_
  refine g_if_lt (tgt := 11) (by decide) dJ6_stringSize_0f7a4_3 (fun h3 => ?_) (fun h3 => ?_)
  · -- t 11
    rw [if_pos h3] at he
    subst he
    have hx := (neg_of hw).1 h3
    subst hx
    exact G.sub [1, 0] rfl (r_ss (e := 1) hw31 (by decide))
  · -- f 6
    rw [if_neg h3] at he
    subst he
    have hx := (neg_of hw).2 h3
    subst hx
    refine gn_ic 0 (by decide) dJ6_stringSize_0f7a4_6 ?_
    refine g_istore_n (lv2 := [(1, _), (0, _)]) (by decide) rfl dJ6_stringSize_0f7a4_7 ?_
    refine g_iload_n 1 rfl dJ6_stringSize_0f7a4_8 ?_
    refine g_ineg dJ6_stringSize_0f7a4_9 ?_
    refine g_istore_n (lv2 := [(0, _), (1, _)]) (by decide) rfl dJ6_stringSize_0f7a4_10 ?_
    exact G.sub [0, 1] rfl (r_ss (e := 0) hw31 (by decide))
set_option maxRecDepth 100000 in
set_option maxHeartbeats 4000000 in
theorem r_gc {Γ : Gm} {n : Nat} {E : Hp} {v cap cnt w e : Nat} {b : Nat → Int32} (hw31 : w < 2 ^ 31) (he : e ≤ 1) (hv : E v = some (.inl (gA Γ 1, cap, .inl b))) (hr : (cnt + (e + (sb_dg w))) ≤ cap) (hcap : cap < 1000) : G Γ 1 MJ6_getChars_ba4f3 (Rt (some (.int (nI cnt))) (hset E v (.inl (gA Γ 1, cap, .inl (gcS b cnt e w (sb_dg w))))) n) X0 22 [(0, .int (-nI w)), (2, .ref v), (5, .int (nI (cnt + (e + (sb_dg w))))), (6, .int (nI e))] [] (E) n 0 0 := by
  refine G.sub (lv2 := [(0, _), (2, _), (5, _), (6, _)]) [0, 1, 2, 3] rfl ?_
  have L22 : ∀ (m22 : Nat) (t p w1 : Nat), (t + 2 * m22 = 10) → (p + t = (cnt + (e + (sb_dg w)))) → (w1 = w / 10 ^ t) → (t + sb_dg w1 = (sb_dg w)) → G Γ 1 MJ6_getChars_ba4f3 (Rt (some (.int (nI cnt))) (hset E v (.inl (gA Γ 1, cap, .inl (gcS b cnt e w (sb_dg w))))) n) X0 22 [(0, .int (-nI w1)), (2, .ref v), (5, .int (nI p)), (6, .int (nI e))] [] (hset E v (.inl (gA Γ 1, cap, .inl (gcF b (cnt + (e + (sb_dg w))) w t)))) n 0 0 := by
    intro m22
    induction m22 with
    | zero =>
      intro t p w1 hi hp hw1 hD
      have hw2 : w1 ≤ w := by rw [hw1]; exact Nat.div_le_self _ _
      have hd1 := sb_dg_in w1
      have hz : w1 = 0 := by rw [hw1, show t = 10 by omega]; exact Nat.div_eq_of_lt (by show w < 10000000000; omega)
      refine g_iload_n 0 rfl dJ6_getChars_ba4f3_22 ?_
      refine g_bipush (v := -100) dJ6_getChars_ba4f3_23 (by decide) ?_
      refine g_icmp_gt (tgt := 72) (by decide) dJ6_getChars_ba4f3_25 (fun h25 => ?_) (fun h25 => ?_)
      · -- t 72
        rw [show (-100 : Int32) = -nI 100 from rfl, sb_nlt (by decide) (by omega)] at h25
        refine g_aload_n 1 rfl dJ6_getChars_ba4f3_72 ?_
        refine gn_dec (lv2 := [(5, _), (0, _), (2, _), (6, _)]) 2 rfl (by omega) (by decide) rfl dJ6_getChars_ba4f3_73 ?_
        refine g_iload 0 rfl dJ6_getChars_ba4f3_76 ?_
        refine g_gets 6 rfl z_J6_83 dJ6_getChars_ba4f3_78 ?_
        refine g_iload_n 1 rfl dJ6_getChars_ba4f3_81 ?_
        refine g_ineg dJ6_getChars_ba4f3_82 ?_
        refine g_top (y := nI w1) Int32.neg_neg ?_
        refine g_dgt (Or.inl ⟨rfl, rfl⟩) (by omega) rfl dJ6_getChars_ba4f3_83 ?_
        refine gn_bast (E2 := hset E v (.inl (gA Γ 1, cap, .inl (gcF b (cnt + (e + (sb_dg w))) w (t + 1))))) hset_s (by omega) (by omega) (by rw [gcF_u (by omega) (by omega) (by rw [hw1]), hset_hs]) dJ6_getChars_ba4f3_84 ?_
        refine g_iload_n 1 rfl dJ6_getChars_ba4f3_85 ?_
        refine g_bipush (v := -9) dJ6_getChars_ba4f3_86 (by decide) ?_
        refine g_icmp_ge (tgt := 104) (by decide) dJ6_getChars_ba4f3_88 (fun h88 => ?_) (fun h88 => ?_)
        · -- t 104
          rw [show (-9 : Int32) = -nI 9 from rfl, sb_nle (by omega) (by omega)] at h88
          have hd3 := sb_dg1 (show w1 < 10 by omega)
          refine g_iload 3 rfl dJ6_getChars_ba4f3_104 ?_
          refine gn_if_eq (by omega) (tgt := 118) (by decide) dJ6_getChars_ba4f3_106 (fun h106 => ?_) (fun h106 => ?_)
          · -- t 118
            refine g_iload 0 rfl dJ6_getChars_ba4f3_118 ?_
            exact g_iret ⟨by rw [show (p - 1) = cnt by omega], by unfold gcS; rw [if_pos h106, show (sb_dg w) = t + 1 by omega], rfl⟩ rfl rfl dJ6_getChars_ba4f3_120
          · -- f 109
            refine g_aload_n 2 rfl dJ6_getChars_ba4f3_109 ?_
            refine gn_dec (lv2 := [(5, _), (0, _), (2, _), (6, _)]) 0 rfl (by omega) (by decide) rfl dJ6_getChars_ba4f3_110 ?_
            refine g_iload 0 rfl dJ6_getChars_ba4f3_113 ?_
            refine gn_bp 45 (by decide) dJ6_getChars_ba4f3_115 ?_
            refine gn_bast (E2 := hset E v (.inl (gA Γ 1, cap, .inl (upd (gcF b (cnt + (e + (sb_dg w))) w (sb_dg w)) cnt (nI 45))))) hset_s (by omega) (by omega) (by rw [hset_hs, show (sb_dg w) = t + 1 by omega, show (nI 45).toInt8.toInt32 = nI 45 from rfl, show (p - 1) - 1 = cnt by omega]) dJ6_getChars_ba4f3_117 ?_
            refine g_iload 0 rfl dJ6_getChars_ba4f3_118 ?_
            exact g_iret ⟨by rw [show (p - 1) - 1 = cnt by omega], by unfold gcS; rw [if_neg h106], rfl⟩ rfl rfl dJ6_getChars_ba4f3_120
        · -- f 91
          rw [show (-9 : Int32) = -nI 9 from rfl, sb_nle (by omega) (by omega)] at h88
          have hd3 := sb_dg2 (show ¬ w1 < 10 by omega) (by omega)
          have hq3 : w1 / 10 = w / 10 ^ (t + 1) % 10 := by rw [Nat.pow_succ, ← Nat.div_div_eq_div_mul, ← hw1]; omega
          refine g_aload_n 2 rfl dJ6_getChars_ba4f3_91 ?_
          refine gn_dec (lv2 := [(5, _), (0, _), (2, _), (6, _)]) 0 rfl (by omega) (by decide) rfl dJ6_getChars_ba4f3_92 ?_
          refine g_iload 0 rfl dJ6_getChars_ba4f3_95 ?_
          refine g_gets 7 rfl z_J6_87 dJ6_getChars_ba4f3_97 ?_
          refine g_iload_n 1 rfl dJ6_getChars_ba4f3_100 ?_
          refine g_ineg dJ6_getChars_ba4f3_101 ?_
          refine g_top (y := nI w1) Int32.neg_neg ?_
          refine g_dgt (Or.inr ⟨rfl, rfl⟩) (by omega) rfl dJ6_getChars_ba4f3_102 ?_
          refine gn_bast (E2 := hset E v (.inl (gA Γ 1, cap, .inl (gcF b (cnt + (e + (sb_dg w))) w ((t + 1) + 1))))) hset_s (by omega) (by omega) (by rw [gcF_u (by omega) (by omega) (by rw [hq3]), hset_hs]) dJ6_getChars_ba4f3_103 ?_
          refine g_iload 3 rfl dJ6_getChars_ba4f3_104 ?_
          refine gn_if_eq (by omega) (tgt := 118) (by decide) dJ6_getChars_ba4f3_106 (fun h106 => ?_) (fun h106 => ?_)
          · -- t 118
            refine g_iload 0 rfl dJ6_getChars_ba4f3_118 ?_
            exact g_iret ⟨by rw [show (p - 1 - 1) = cnt by omega], by unfold gcS; rw [if_pos h106, show (sb_dg w) = t + 1 + 1 by omega], rfl⟩ rfl rfl dJ6_getChars_ba4f3_120
          · -- f 109
            refine g_aload_n 2 rfl dJ6_getChars_ba4f3_109 ?_
            refine gn_dec (lv2 := [(5, _), (0, _), (2, _), (6, _)]) 0 rfl (by omega) (by decide) rfl dJ6_getChars_ba4f3_110 ?_
            refine g_iload 0 rfl dJ6_getChars_ba4f3_113 ?_
            refine gn_bp 45 (by decide) dJ6_getChars_ba4f3_115 ?_
            refine gn_bast (E2 := hset E v (.inl (gA Γ 1, cap, .inl (upd (gcF b (cnt + (e + (sb_dg w))) w (sb_dg w)) cnt (nI 45))))) hset_s (by omega) (by omega) (by rw [hset_hs, show (sb_dg w) = t + 1 + 1 by omega, show (nI 45).toInt8.toInt32 = nI 45 from rfl, show (p - 1 - 1) - 1 = cnt by omega]) dJ6_getChars_ba4f3_117 ?_
            refine g_iload 0 rfl dJ6_getChars_ba4f3_118 ?_
            exact g_iret ⟨by rw [show (p - 1 - 1) - 1 = cnt by omega], by unfold gcS; rw [if_neg h106], rfl⟩ rfl rfl dJ6_getChars_ba4f3_120
      · -- f 28
        exact absurd (by rw [show (-100 : Int32) = -nI 100 from rfl, sb_nlt (by decide) (by omega)]; omega) h25
    | succ m22 ih22 =>
      intro t p w1 hi hp hw1 hD
      have hw2 : w1 ≤ w := by rw [hw1]; exact Nat.div_le_self _ _
      have hd1 := sb_dg_in w1
      refine g_iload_n 0 rfl dJ6_getChars_ba4f3_22 ?_
      refine g_bipush (v := -100) dJ6_getChars_ba4f3_23 (by decide) ?_
      refine g_icmp_gt (tgt := 72) (by decide) dJ6_getChars_ba4f3_25 (fun h25 => ?_) (fun h25 => ?_)
      · -- t 72
        rw [show (-100 : Int32) = -nI 100 from rfl, sb_nlt (by decide) (by omega)] at h25
        refine g_aload_n 1 rfl dJ6_getChars_ba4f3_72 ?_
        refine gn_dec (lv2 := [(5, _), (0, _), (2, _), (6, _)]) 2 rfl (by omega) (by decide) rfl dJ6_getChars_ba4f3_73 ?_
        refine g_iload 0 rfl dJ6_getChars_ba4f3_76 ?_
        refine g_gets 6 rfl z_J6_83 dJ6_getChars_ba4f3_78 ?_
        refine g_iload_n 1 rfl dJ6_getChars_ba4f3_81 ?_
        refine g_ineg dJ6_getChars_ba4f3_82 ?_
        refine g_top (y := nI w1) Int32.neg_neg ?_
        refine g_dgt (Or.inl ⟨rfl, rfl⟩) (by omega) rfl dJ6_getChars_ba4f3_83 ?_
        refine gn_bast (E2 := hset E v (.inl (gA Γ 1, cap, .inl (gcF b (cnt + (e + (sb_dg w))) w (t + 1))))) hset_s (by omega) (by omega) (by rw [gcF_u (by omega) (by omega) (by rw [hw1]), hset_hs]) dJ6_getChars_ba4f3_84 ?_
        refine g_iload_n 1 rfl dJ6_getChars_ba4f3_85 ?_
        refine g_bipush (v := -9) dJ6_getChars_ba4f3_86 (by decide) ?_
        refine g_icmp_ge (tgt := 104) (by decide) dJ6_getChars_ba4f3_88 (fun h88 => ?_) (fun h88 => ?_)
        · -- t 104
          rw [show (-9 : Int32) = -nI 9 from rfl, sb_nle (by omega) (by omega)] at h88
          have hd3 := sb_dg1 (show w1 < 10 by omega)
          refine g_iload 3 rfl dJ6_getChars_ba4f3_104 ?_
          refine gn_if_eq (by omega) (tgt := 118) (by decide) dJ6_getChars_ba4f3_106 (fun h106 => ?_) (fun h106 => ?_)
          · -- t 118
            refine g_iload 0 rfl dJ6_getChars_ba4f3_118 ?_
            exact g_iret ⟨by rw [show (p - 1) = cnt by omega], by unfold gcS; rw [if_pos h106, show (sb_dg w) = t + 1 by omega], rfl⟩ rfl rfl dJ6_getChars_ba4f3_120
          · -- f 109
            refine g_aload_n 2 rfl dJ6_getChars_ba4f3_109 ?_
            refine gn_dec (lv2 := [(5, _), (0, _), (2, _), (6, _)]) 0 rfl (by omega) (by decide) rfl dJ6_getChars_ba4f3_110 ?_
            refine g_iload 0 rfl dJ6_getChars_ba4f3_113 ?_
            refine gn_bp 45 (by decide) dJ6_getChars_ba4f3_115 ?_
            refine gn_bast (E2 := hset E v (.inl (gA Γ 1, cap, .inl (upd (gcF b (cnt + (e + (sb_dg w))) w (sb_dg w)) cnt (nI 45))))) hset_s (by omega) (by omega) (by rw [hset_hs, show (sb_dg w) = t + 1 by omega, show (nI 45).toInt8.toInt32 = nI 45 from rfl, show (p - 1) - 1 = cnt by omega]) dJ6_getChars_ba4f3_117 ?_
            refine g_iload 0 rfl dJ6_getChars_ba4f3_118 ?_
            exact g_iret ⟨by rw [show (p - 1) - 1 = cnt by omega], by unfold gcS; rw [if_neg h106], rfl⟩ rfl rfl dJ6_getChars_ba4f3_120
        · -- f 91
          rw [show (-9 : Int32) = -nI 9 from rfl, sb_nle (by omega) (by omega)] at h88
          have hd3 := sb_dg2 (show ¬ w1 < 10 by omega) (by omega)
          have hq3 : w1 / 10 = w / 10 ^ (t + 1) % 10 := by rw [Nat.pow_succ, ← Nat.div_div_eq_div_mul, ← hw1]; omega
          refine g_aload_n 2 rfl dJ6_getChars_ba4f3_91 ?_
          refine gn_dec (lv2 := [(5, _), (0, _), (2, _), (6, _)]) 0 rfl (by omega) (by decide) rfl dJ6_getChars_ba4f3_92 ?_
          refine g_iload 0 rfl dJ6_getChars_ba4f3_95 ?_
          refine g_gets 7 rfl z_J6_87 dJ6_getChars_ba4f3_97 ?_
          refine g_iload_n 1 rfl dJ6_getChars_ba4f3_100 ?_
          refine g_ineg dJ6_getChars_ba4f3_101 ?_
          refine g_top (y := nI w1) Int32.neg_neg ?_
          refine g_dgt (Or.inr ⟨rfl, rfl⟩) (by omega) rfl dJ6_getChars_ba4f3_102 ?_
          refine gn_bast (E2 := hset E v (.inl (gA Γ 1, cap, .inl (gcF b (cnt + (e + (sb_dg w))) w ((t + 1) + 1))))) hset_s (by omega) (by omega) (by rw [gcF_u (by omega) (by omega) (by rw [hq3]), hset_hs]) dJ6_getChars_ba4f3_103 ?_
          refine g_iload 3 rfl dJ6_getChars_ba4f3_104 ?_
          refine gn_if_eq (by omega) (tgt := 118) (by decide) dJ6_getChars_ba4f3_106 (fun h106 => ?_) (fun h106 => ?_)
          · -- t 118
            refine g_iload 0 rfl dJ6_getChars_ba4f3_118 ?_
            exact g_iret ⟨by rw [show (p - 1 - 1) = cnt by omega], by unfold gcS; rw [if_pos h106, show (sb_dg w) = t + 1 + 1 by omega], rfl⟩ rfl rfl dJ6_getChars_ba4f3_120
          · -- f 109
            refine g_aload_n 2 rfl dJ6_getChars_ba4f3_109 ?_
            refine gn_dec (lv2 := [(5, _), (0, _), (2, _), (6, _)]) 0 rfl (by omega) (by decide) rfl dJ6_getChars_ba4f3_110 ?_
            refine g_iload 0 rfl dJ6_getChars_ba4f3_113 ?_
            refine gn_bp 45 (by decide) dJ6_getChars_ba4f3_115 ?_
            refine gn_bast (E2 := hset E v (.inl (gA Γ 1, cap, .inl (upd (gcF b (cnt + (e + (sb_dg w))) w (sb_dg w)) cnt (nI 45))))) hset_s (by omega) (by omega) (by rw [hset_hs, show (sb_dg w) = t + 1 + 1 by omega, show (nI 45).toInt8.toInt32 = nI 45 from rfl, show (p - 1 - 1) - 1 = cnt by omega]) dJ6_getChars_ba4f3_117 ?_
            refine g_iload 0 rfl dJ6_getChars_ba4f3_118 ?_
            exact g_iret ⟨by rw [show (p - 1 - 1) - 1 = cnt by omega], by unfold gcS; rw [if_neg h106], rfl⟩ rfl rfl dJ6_getChars_ba4f3_120
      · -- f 28
        rw [show (-100 : Int32) = -nI 100 from rfl, sb_nlt (by decide) (by omega)] at h25
        have hg2 := sb_dg100 (show 100 ≤ w1 by omega) (by omega)
        replace h25 : 100 ≤ w1 := by omega
        have hd2 := sb_dg_in (w1 / 100)
        have hq : w1 % 100 % 10 = w / 10 ^ t % 10 := by rw [← hw1]; omega
        have hq2 : w1 % 100 / 10 = w / 10 ^ (t + 1) % 10 := by rw [Nat.pow_succ, ← Nat.div_div_eq_div_mul, ← hw1]; omega
        refine g_iload_n 0 rfl dJ6_getChars_ba4f3_28 ?_
        refine gn_bp 100 (by decide) dJ6_getChars_ba4f3_29 ?_
        refine g_idiv (by decide) dJ6_getChars_ba4f3_31 ?_
        refine g_top (y := -nI (w1 / 100)) (sb_ndiv (by omega)) ?_
        refine g_istore_n (lv2 := [(3, _), (0, _), (2, _), (5, _), (6, _)]) (by decide) rfl dJ6_getChars_ba4f3_32 ?_
        refine g_iload_n 0 rfl dJ6_getChars_ba4f3_33 ?_
        refine gn_bp 100 (by decide) dJ6_getChars_ba4f3_34 ?_
        refine g_imul dJ6_getChars_ba4f3_36 ?_
        refine g_iload_n 1 rfl dJ6_getChars_ba4f3_37 ?_
        refine g_isub dJ6_getChars_ba4f3_38 ?_
        refine g_top (y := nI (w1 % 100)) (sb_nrem (by omega)) ?_
        refine g_istore (lv2 := [(4, _), (3, _), (0, _), (2, _), (5, _), (6, _)]) (by decide) rfl dJ6_getChars_ba4f3_39 ?_
        refine g_iload_n 1 rfl dJ6_getChars_ba4f3_41 ?_
        refine g_istore_n (lv2 := [(0, _), (4, _), (3, _), (2, _), (5, _), (6, _)]) (by decide) rfl dJ6_getChars_ba4f3_42 ?_
        refine g_aload_n 3 rfl dJ6_getChars_ba4f3_43 ?_
        refine gn_dec (lv2 := [(5, _), (0, _), (4, _), (3, _), (2, _), (6, _)]) 4 rfl (by omega) (by decide) rfl dJ6_getChars_ba4f3_44 ?_
        refine g_iload 0 rfl dJ6_getChars_ba4f3_47 ?_
        refine g_gets 6 rfl z_J6_83 dJ6_getChars_ba4f3_49 ?_
        refine g_iload 2 rfl dJ6_getChars_ba4f3_52 ?_
        refine g_dgt (Or.inl ⟨rfl, rfl⟩) (by omega) rfl dJ6_getChars_ba4f3_54 ?_
        refine gn_bast (E2 := hset E v (.inl (gA Γ 1, cap, .inl (gcF b (cnt + (e + (sb_dg w))) w (t + 1))))) hset_s (by omega) (by omega) (by rw [gcF_u (by omega) (by omega) (by rw [hq]), hset_hs]) dJ6_getChars_ba4f3_55 ?_
        refine g_aload_n 4 rfl dJ6_getChars_ba4f3_56 ?_
        refine gn_dec (lv2 := [(5, _), (0, _), (4, _), (3, _), (2, _), (6, _)]) 0 rfl (by omega) (by decide) rfl dJ6_getChars_ba4f3_57 ?_
        refine g_iload 0 rfl dJ6_getChars_ba4f3_60 ?_
        refine g_gets 7 rfl z_J6_87 dJ6_getChars_ba4f3_62 ?_
        refine g_iload 2 rfl dJ6_getChars_ba4f3_65 ?_
        refine g_dgt (Or.inr ⟨rfl, rfl⟩) (by omega) rfl dJ6_getChars_ba4f3_67 ?_
        refine gn_bast (E2 := hset E v (.inl (gA Γ 1, cap, .inl (gcF b (cnt + (e + (sb_dg w))) w ((t + 1) + 1))))) hset_s (by omega) (by omega) (by rw [gcF_u (by omega) (by omega) (by rw [hq2]), hset_hs]) dJ6_getChars_ba4f3_68 ?_
        refine g_goto (tgt := 22) (by decide) dJ6_getChars_ba4f3_69 ?_
        refine G.sub [1, 4, 0, 5] rfl ?_
        exact ih22 (t + 1 + 1) (p - 1 - 1) (w1 / 100) (by omega) (by omega) (by rw [hw1, Nat.div_div_eq_div_mul, Nat.pow_succ, Nat.pow_succ, Nat.mul_assoc]) (by rw [sb_dg100 h25 (by omega)] at hD; omega)
  refine G.sub [0, 1, 2, 3] rfl ?_
  refine g_world (E2 := hset E v (.inl (gA Γ 1, cap, .inl (gcF b (cnt + (e + (sb_dg w))) w 0)))) (by rw [gcF_0, hset_id hv]) ?_
  exact L22 5 0 _ _ rfl rfl (by rw [Nat.pow_zero, Nat.div_one]) (Nat.zero_add _)
set_option maxRecDepth 100000 in
set_option maxHeartbeats 4000000 in
theorem c_J6_getChars_ba4f3 {Γ : Gm} {n : Nat} {E : Hp} {v cap cnt w e : Nat} {b : Nat → Int32} {x : Int32} (hw : iabs x = nI w) (hw31 : w < 2 ^ 31) (he : e = if x < 0 then 1 else 0) (hv : E v = some (.inl (gA Γ 1, cap, .inl b))) (hr : (cnt + (e + (sb_dg w))) ≤ cap) (hcap : cap < 1000) : Ct Γ 1 MJ6_getChars_ba4f3 0 0 [.int x, .int (nI (cnt + (e + (sb_dg w)))), .ref v] (E) n (Rt (some (.int (nI cnt))) (hset E v (.inl (gA Γ 1, cap, .inl (gcS b cnt e w (sb_dg w))))) n) X0 := by
  refine Ct.of (by decide +kernel) rfl (Nat.le_of_ble_eq_true rfl) ?_
  refine G.sub (lv2 := [(0, _), (1, _), (2, _)]) [0, 1, 2] rfl ?_
  refine g_iload_n 1 rfl dJ6_getChars_ba4f3_0 ?_
  refine g_istore (lv2 := [(5, _), (0, _), (1, _), (2, _)]) (by decide) rfl dJ6_getChars_ba4f3_1 ?_
  refine g_iload_n 1 rfl dJ6_getChars_ba4f3_3 ?_
  refine g_if_ge (tgt := 11) (by decide) dJ6_getChars_ba4f3_4 (fun h4 => ?_) (fun h4 => ?_)
  · -- t 11
    rw [if_neg (Int32.not_lt.mpr h4)] at he
    have hx := (neg_of hw).2 (Int32.not_lt.mpr h4)
    subst hx
    refine gn_ic 0 (by decide) dJ6_getChars_ba4f3_11 ?_
    refine g_istore (lv2 := [(6, _), (5, _), (0, _), (1, _), (2, _)]) (by decide) rfl dJ6_getChars_ba4f3_12 ?_
    refine g_iload 0 rfl dJ6_getChars_ba4f3_14 ?_
    refine gn_if_ne (by omega) (tgt := 22) (by decide) dJ6_getChars_ba4f3_16 (fun cc1 => ?_) (fun cc1 => ?_)
    · -- t 22
      exact absurd cc1 (by decide)
    · -- f 19
      refine g_iload_n 2 rfl dJ6_getChars_ba4f3_19 ?_
      refine g_ineg dJ6_getChars_ba4f3_20 ?_
      refine g_istore_n (lv2 := [(0, _), (6, _), (5, _), (1, _), (2, _)]) (by decide) rfl dJ6_getChars_ba4f3_21 ?_
      subst he
      exact G.sub [0, 4, 2, 1] rfl (r_gc hw31 (by omega) hv hr hcap)
  · -- f 7
    rw [if_pos (Int32.not_le.mp h4)] at he
    have hx := (neg_of hw).1 (Int32.not_le.mp h4)
    subst hx
    refine gn_ic 1 (by decide) dJ6_getChars_ba4f3_7 ?_
    refine g_goto (tgt := 12) (by decide) dJ6_getChars_ba4f3_8 ?_
    refine g_istore (lv2 := [(6, _), (5, _), (0, _), (1, _), (2, _)]) (by decide) rfl dJ6_getChars_ba4f3_12 ?_
    refine g_iload 0 rfl dJ6_getChars_ba4f3_14 ?_
    refine gn_if_ne (by omega) (tgt := 22) (by decide) dJ6_getChars_ba4f3_16 (fun cc2 => ?_) (fun cc2 => ?_)
    · -- t 22
      subst he
      exact G.sub [2, 4, 1, 0] rfl (r_gc hw31 (by omega) hv hr hcap)
    · -- f 19
      exact absurd cc2 (by decide)
set_option maxRecDepth 100000 in
set_option maxHeartbeats 4000000 in
theorem c_J5_append_c97b9 {Γ : Gm} {n : Nat} {E : Hp} {a v cap cnt w e : Nat} {b : Nat → Int32} {x : Int32} (hSB : SB Γ E a v cap b cnt) (hw : iabs x = nI w) (hw31 : w < 2 ^ 31) (he : e = if x < 0 then 1 else 0) (hr : (cnt + (e + (sb_dg w))) ≤ 34) : Ct Γ 7 MJ5_append_c97b9 1 34 [.ref a, .int x] (E) n (fun r E2 n2 => r = some (.ref a) ∧ SBp Γ E n a v (cnt + (e + (sb_dg w))) (cnt + (e + (sb_dg w))) (gcS b cnt e w (sb_dg w)) E2 n2) X0 := by
  refine Ct.of (by decide +kernel) rfl (Nat.le_of_ble_eq_true rfl) ?_
  obtain ⟨⟨ml, hs⟩, hv, hb7, hcap, hc⟩ := id hSB
  have hD := sb_dg_in w
  have he1 : e ≤ 1 := by rw [he]; split <;> omega
  refine G.sub (lv2 := [(0, _), (1, _)]) [0, 1] rfl ?_
  refine g_aload_n 0 rfl dJ5_append_c97b9_0 ?_
  refine g_get f_J5_79 hs rfl dJ5_append_c97b9_1 ?_
  refine g_istore_n (lv2 := [(2, _), (0, _), (1, _)]) (by decide) rfl dJ5_append_c97b9_4 ?_
  refine g_iload_n 0 rfl dJ5_append_c97b9_5 ?_
  refine g_iload_n 2 rfl dJ5_append_c97b9_6 ?_
  refine gv_S (c_J6_stringSize_0f7a4 hw hw31 he) l_J5_245 rfl (Nat.le_of_ble_eq_true rfl) (Nat.le_of_ble_eq_true rfl) rfl dJ5_append_c97b9_7 ?_
  refine gn_iadd dJ5_append_c97b9_10 ?_
  refine g_istore_n (lv2 := [(3, _), (2, _), (0, _), (1, _)]) (by decide) rfl dJ5_append_c97b9_11 ?_
  refine g_aload_n 2 rfl dJ5_append_c97b9_12 ?_
  refine g_iload_n 0 rfl dJ5_append_c97b9_13 ?_
  refine gx_Y0 (c_J5_ens hSB hr ) l_J5_100 rfl hSB.rcv (Nat.le_of_ble_eq_true rfl) (Nat.le_of_ble_eq_true rfl) rfl dJ5_append_c97b9_14 (fun _ _ _ h => h.1) (fun E2 n2 hp => ?_)
  obtain ⟨-, v2, cap2, b2, ⟨⟨ml2, hs1⟩, hv1, hb72, hcap2, hc2⟩, hK2, hB2, hF2, hV2, hn2⟩ := hp
  refine g_aload_n 2 rfl dJ5_append_c97b9_17 ?_
  refine gv_Y (c_J5_isLatin1_aae02 hs1) l_J5_83 rfl (Rcv.of hs1 rfl) (Nat.le_of_ble_eq_true rfl) (Nat.le_of_ble_eq_true rfl) rfl dJ5_append_c97b9_18 ?_
  refine gn_if_eq (by omega) (tgt := 37) (by decide) dJ5_append_c97b9_21 (fun cc1 => ?_) (fun cc1 => ?_)
  · -- t 37
    exact absurd cc1 (by decide)
  · -- f 24
    refine g_iload_n 3 rfl dJ5_append_c97b9_24 ?_
    refine g_iload_n 0 rfl dJ5_append_c97b9_25 ?_
    refine g_aload_n 2 rfl dJ5_append_c97b9_26 ?_
    refine g_get f_J5_15 hs1 rfl dJ5_append_c97b9_27 ?_
    refine gv_S (c_J6_getChars_ba4f3 hw hw31 he hv1 hK2 (by omega)) l_J5_248 rfl (Nat.le_of_ble_eq_true rfl) (Nat.le_of_ble_eq_true rfl) rfl dJ5_append_c97b9_30 ?_
    have hs2 := (hset_n (e := .inl (gA Γ 1, cap2, .inl (gcS b2 cnt e w (sb_dg w)))) (show a ≠ v2 from fun e => by rw [← e] at hv1; rw [hv1] at hs1; cases hs1)).trans hs1
    refine g_pop rfl dJ5_append_c97b9_33 ?_
    refine g_goto (tgt := 48) (by decide) dJ5_append_c97b9_34 ?_
    refine g_aload_n 2 rfl dJ5_append_c97b9_48 ?_
    refine g_iload_n 0 rfl dJ5_append_c97b9_49 ?_
    refine g_put2 f_J5_79 w_J4_3 hs2 (Nat.le_of_ble_eq_true rfl) rfl rfl rfl dJ5_append_c97b9_50 ?_
    refine g_aload_n 2 rfl dJ5_append_c97b9_53 ?_
    exact g_aret ⟨rfl, v2, cap2, _, ⟨⟨ml2, hset_s⟩, (hset_n (show v2 ≠ a from fun e => by rw [e] at hv1; rw [hv1] at hs1; cases hs1)).trans hset_s, hb72.gcs, hcap2, hK2⟩, hK2, gcS_eq hB2 he1, fun q g1 g2 g3 => (hset_n g1).trans ((hset_n (by omega)).trans (hF2 q g1 g2 g3)), hV2, hn2⟩ rfl dJ5_append_c97b9_54
set_option maxRecDepth 100000 in
set_option maxHeartbeats 4000000 in
theorem c_J4_append_bf812 {Γ : Gm} {n : Nat} {E : Hp} {a v cap cnt w e : Nat} {b : Nat → Int32} {x : Int32} (hSB : SB Γ E a v cap b cnt) (hw : iabs x = nI w) (hw31 : w < 2 ^ 31) (he : e = if x < 0 then 1 else 0) (hr : (cnt + (e + (sb_dg w))) ≤ 34) : Ct Γ 8 MJ4_append_bf812 1 34 [.ref a, .int x] (E) n (fun r E2 n2 => r = some (.ref a) ∧ SBp Γ E n a v (cnt + (e + (sb_dg w))) (cnt + (e + (sb_dg w))) (gcS b cnt e w (sb_dg w)) E2 n2) X0 := by
  refine Ct.of (by decide +kernel) rfl (Nat.le_of_ble_eq_true rfl) ?_
  obtain ⟨⟨ml, hs⟩, hv, hb7, hcap, hc⟩ := id hSB
  refine G.sub (lv2 := [(0, _), (1, _)]) [0, 1] rfl ?_
  refine g_aload_n 0 rfl dJ4_append_bf812_0 ?_
  refine g_iload_n 1 rfl dJ4_append_bf812_1 ?_
  refine gx_U (c_J5_append_c97b9 hSB hw hw31 he hr) l_J4_53 rfl hs rfl (Nat.le_of_ble_eq_true rfl) (Nat.le_of_ble_eq_true rfl) rfl dJ4_append_bf812_2 (fun r E2 n2 hp => ?_)
  obtain ⟨rfl, hp⟩ := hp
  refine g_pop rfl dJ4_append_bf812_5 ?_
  refine g_aload_n 0 rfl dJ4_append_bf812_6 ?_
  exact g_aret ⟨rfl, hp⟩ rfl dJ4_append_bf812_7
end GJ3
