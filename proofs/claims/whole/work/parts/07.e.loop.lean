/-! the law's loop -/
section GLOOP
variable {Γ : Gm} {t ab mo n k0 kc ks : Nat} {E : Hp}
theorem and63 (x : Int32) : ∃ v, v < 64 ∧ x &&& nI 63 = nI v := by
  refine ⟨x.toBitVec.toNat % 64, Nat.mod_lt _ (by decide), ?_⟩
  apply Int32.toBitVec_inj.mp
  apply BitVec.eq_of_toNat_eq
  have h1 : (x &&& nI 63).toBitVec.toNat = x.toBitVec.toNat % 64 := by
    rw [Int32.toBitVec_and, BitVec.toNat_and]
    have h2 : (nI 63).toBitVec.toNat = 2 ^ 6 - 1 := by decide +kernel
    rw [h2, Nat.and_two_pow_sub_one_eq_mod]
  rw [h1]
  show _ = (BitVec.ofNat 32 _).toNat
  rw [BitVec.toNat_ofNat]
  exact (Nat.mod_eq_of_lt (by have := Nat.mod_lt x.toBitVec.toNat (show 0 < 64 by decide); omega)).symm
theorem scr_lt {L t : Nat} (hL : L ≤ 3072) (ht : t ≤ 600) (h : ¬ nI L - nI 6 < nI (6 * t)) : 6 * t + 6 ≤ L := by
  by_cases h6 : 6 ≤ L
  · rw [pk_sub h6] at h
    have h9 : ¬ (L - 6 < 6 * t) := fun z => h (nI_lt z (by omega))
    omega
  · exfalso
    apply h
    have h0 : ∀ L, L < 6 → nI L - nI 6 < nI 0 := by decide +kernel
    exact Int32.lt_of_lt_of_le (h0 L (by omega)) (nI_le (Nat.zero_le _) (by omega))
set_option maxRecDepth 100000 in
set_option maxHeartbeats 4000000 in
theorem law_switch (h0 : IVo Γ ab mo k0 t E n) (ht : t ≤ 600) (hL : 6 * t + 6 ≤ gF Γ 10) (K : KL Γ ab mo t kc ks) {v : Nat} (hv : v < 64) : G Γ 15 ML_law Pl X0 40 (lvL Γ ab mo t) [.int (nI v)] E n (kc + 330) (ks + 10200) := by
  by_cases e0 : v = 0
  · subst e0; exact g_tswIn (off := 248) (tgt := 288) dL_law_40 (by decide) (by decide) (by decide +kernel) (by decide) (q_append h0 ht hL K)
  by_cases e1 : v = 1
  · subst e1; exact g_tswIn (off := 352) (tgt := 392) dL_law_40 (by decide) (by decide) (by decide +kernel) (by decide) (q_load h0 ht hL K)
  by_cases e2 : v = 2
  · subst e2; exact g_tswIn (off := 408) (tgt := 448) dL_law_40 (by decide) (by decide) (by decide +kernel) (by decide) (q_errorKind h0 ht hL K)
  by_cases e3 : v = 3
  · subst e3; exact g_tswIn (off := 421) (tgt := 461) dL_law_40 (by decide) (by decide) (by decide +kernel) (by decide) (q_errorOffset h0 ht hL K)
  by_cases e4 : v = 4
  · subst e4; exact g_tswIn (off := 434) (tgt := 474) dL_law_40 (by decide) (by decide) (by decide +kernel) (by decide) (q_day h0 ht hL K)
  by_cases e5 : v = 5
  · subst e5; exact g_tswIn (off := 447) (tgt := 487) dL_law_40 (by decide) (by decide) (by decide +kernel) (by decide) (q_lodgerCount h0 ht hL K)
  by_cases e6 : v = 6
  · subst e6; exact g_tswIn (off := 460) (tgt := 500) dL_law_40 (by decide) (by decide) (by decide +kernel) (by decide) (q_baseRent h0 ht hL K)
  by_cases e7 : v = 7
  · subst e7; exact g_tswIn (off := 473) (tgt := 513) dL_law_40 (by decide) (by decide) (by decide +kernel) (by decide) (q_tolerance h0 ht hL K)
  by_cases e8 : v = 8
  · subst e8; exact g_tswIn (off := 486) (tgt := 526) dL_law_40 (by decide) (by decide) (by decide +kernel) (by decide) (q_rentOf h0 ht hL K)
  by_cases e9 : v = 9
  · subst e9; exact g_tswIn (off := 542) (tgt := 582) dL_law_40 (by decide) (by decide) (by decide +kernel) (by decide) (q_landladyVowel h0 ht hL K)
  by_cases e10 : v = 10
  · subst e10; exact g_tswIn (off := 598) (tgt := 638) dL_law_40 (by decide) (by decide) (by decide +kernel) (by decide) (q_daysToInspection h0 ht hL K)
  by_cases e11 : v = 11
  · subst e11; exact g_tswIn (off := 611) (tgt := 651) dL_law_40 (by decide) (by decide) (by decide +kernel) (by decide) (q_evictions h0 ht hL K)
  by_cases e12 : v = 12
  · subst e12; exact g_tswIn (off := 624) (tgt := 664) dL_law_40 (by decide) (by decide) (by decide +kernel) (by decide) (q_undoCount h0 ht hL K)
  by_cases e13 : v = 13
  · subst e13; exact g_tswIn (off := 637) (tgt := 677) dL_law_40 (by decide) (by decide) (by decide +kernel) (by decide) (q_floorOf h0 ht hL K)
  by_cases e14 : v = 14
  · subst e14; exact g_tswIn (off := 693) (tgt := 733) dL_law_40 (by decide) (by decide) (by decide +kernel) (by decide) (q_balanceOf h0 ht hL K)
  by_cases e15 : v = 15
  · subst e15; exact g_tswIn (off := 749) (tgt := 789) dL_law_40 (by decide) (by decide) (by decide +kernel) (by decide) (q_vowelOf h0 ht hL K)
  by_cases e16 : v = 16
  · subst e16; exact g_tswIn (off := 817) (tgt := 857) dL_law_40 (by decide) (by decide) (by decide +kernel) (by decide) (q_lessonsOf h0 ht hL K)
  by_cases e17 : v = 17
  · subst e17; exact g_tswIn (off := 873) (tgt := 913) dL_law_40 (by decide) (by decide) (by decide +kernel) (by decide) (q_slipsOf h0 ht hL K)
  by_cases e18 : v = 18
  · subst e18; exact g_tswIn (off := 929) (tgt := 969) dL_law_40 (by decide) (by decide) (by decide +kernel) (by decide) (q_daysStayed h0 ht hL K)
  by_cases e19 : v = 19
  · subst e19; exact g_tswIn (off := 985) (tgt := 1025) dL_law_40 (by decide) (by decide) (by decide +kernel) (by decide) (q_nameLength h0 ht hL K)
  by_cases e20 : v = 20
  · subst e20; exact g_tswIn (off := 1041) (tgt := 1081) dL_law_40 (by decide) (by decide) (by decide +kernel) (by decide) (q_nameLetter h0 ht hL K)
  by_cases e21 : v = 21
  · subst e21; exact g_tswIn (off := 1109) (tgt := 1149) dL_law_40 (by decide) (by decide) (by decide +kernel) (by decide) (q_findByName h0 ht hL K)
  by_cases e22 : v = 22
  · subst e22; exact g_tswIn (off := 1122) (tgt := 1162) dL_law_40 (by decide) (by decide) (by decide +kernel) (by decide) (q_lodgersOn h0 ht hL K)
  by_cases e23 : v = 23
  · subst e23; exact g_tswIn (off := 1178) (tgt := 1218) dL_law_40 (by decide) (by decide) (by decide +kernel) (by decide) (q_lodgerOn h0 ht hL K)
  by_cases e24 : v = 24
  · subst e24; exact g_tswIn (off := 1246) (tgt := 1286) dL_law_40 (by decide) (by decide) (by decide +kernel) (by decide) (q_averageVowel h0 ht hL K)
  by_cases e25 : v = 25
  · subst e25; exact g_tswIn (off := 1314) (tgt := 1354) dL_law_40 (by decide) (by decide) (by decide +kernel) (by decide) (q_distanceToLandlady h0 ht hL K)
  by_cases e26 : v = 26
  · subst e26; exact g_tswIn (off := 1370) (tgt := 1410) dL_law_40 (by decide) (by decide) (by decide +kernel) (by decide) (q_distance h0 ht hL K)
  by_cases e27 : v = 27
  · subst e27; exact g_tswIn (off := 1438) (tgt := 1478) dL_law_40 (by decide) (by decide) (by decide +kernel) (by decide) (q_rhymes h0 ht hL K)
  by_cases e28 : v = 28
  · subst e28; exact g_tswIn (off := 1513) (tgt := 1553) dL_law_40 (by decide) (by decide) (by decide +kernel) (by decide) (q_rhymesWithLandlady h0 ht hL K)
  by_cases e29 : v = 29
  · subst e29; exact g_tswIn (off := 1576) (tgt := 1616) dL_law_40 (by decide) (by decide) (by decide +kernel) (by decide) (q_rhymeCount h0 ht hL K)
  by_cases e30 : v = 30
  · subst e30; exact g_tswIn (off := 1632) (tgt := 1672) dL_law_40 (by decide) (by decide) (by decide +kernel) (by decide) (q_closestTo h0 ht hL K)
  by_cases e31 : v = 31
  · subst e31; exact g_tswIn (off := 1688) (tgt := 1728) dL_law_40 (by decide) (by decide) (by decide +kernel) (by decide) (q_lessonVowel h0 ht hL K)
  by_cases e32 : v = 32
  · subst e32; exact g_tswIn (off := 1744) (tgt := 1784) dL_law_40 (by decide) (by decide) (by decide +kernel) (by decide) (q_slipVowel h0 ht hL K)
  by_cases e33 : v = 33
  · subst e33; exact g_tswIn (off := 1800) (tgt := 1840) dL_law_40 (by decide) (by decide) (by decide +kernel) (by decide) (q_mustGo h0 ht hL K)
  by_cases e34 : v = 34
  · subst e34; exact g_tswIn (off := 1863) (tgt := 1903) dL_law_40 (by decide) (by decide) (by decide +kernel) (by decide) (q_meanDistance h0 ht hL K)
  by_cases e35 : v = 35
  · subst e35; exact g_tswIn (off := 1904) (tgt := 1944) dL_law_40 (by decide) (by decide) (by decide +kernel) (by decide) (q_rhymingShare h0 ht hL K)
  by_cases e36 : v = 36
  · subst e36; exact g_tswIn (off := 1947) (tgt := 1987) dL_law_40 (by decide) (by decide) (by decide +kernel) (by decide) (q_balanceAfter h0 ht hL K)
  by_cases e37 : v = 37
  · subst e37; exact g_tswIn (off := 2015) (tgt := 2055) dL_law_40 (by decide) (by decide) (by decide +kernel) (by decide) (q_distanceAfter h0 ht hL K)
  by_cases e38 : v = 38
  · subst e38; exact g_tswIn (off := 2083) (tgt := 2123) dL_law_40 (by decide) (by decide) (by decide +kernel) (by decide) (q_daysToEviction h0 ht hL K)
  by_cases e39 : v = 39
  · subst e39; exact g_tswIn (off := 2139) (tgt := 2179) dL_law_40 (by decide) (by decide) (by decide +kernel) (by decide) (q_paymentToStay h0 ht hL K)
  by_cases e40 : v = 40
  · subst e40; exact g_tswIn (off := 2195) (tgt := 2235) dL_law_40 (by decide) (by decide) (by decide +kernel) (by decide) (q_totalPaid h0 ht hL K)
  by_cases e41 : v = 41
  · subst e41; exact g_tswIn (off := 2208) (tgt := 2248) dL_law_40 (by decide) (by decide) (by decide +kernel) (by decide) (q_totalCharged h0 ht hL K)
  by_cases e42 : v = 42
  · subst e42; exact g_tswIn (off := 2221) (tgt := 2261) dL_law_40 (by decide) (by decide) (by decide +kernel) (by decide) (q_settled h0 ht hL K)
  by_cases e43 : v = 43
  · subst e43; exact g_tswIn (off := 2234) (tgt := 2274) dL_law_40 (by decide) (by decide) (by decide +kernel) (by decide) (q_ledgerDifference h0 ht hL K)
  by_cases e44 : v = 44
  · subst e44; exact g_tswIn (off := 2247) (tgt := 2287) dL_law_40 (by decide) (by decide) (by decide +kernel) (by decide) (q_advance h0 ht hL K)
  by_cases e45 : v = 45
  · subst e45; exact g_tswIn (off := 2303) (tgt := 2343) dL_law_40 (by decide) (by decide) (by decide +kernel) (by decide) (q_moveIn h0 ht hL K)
  by_cases e46 : v = 46
  · subst e46; exact g_tswIn (off := 2383) (tgt := 2423) dL_law_40 (by decide) (by decide) (by decide +kernel) (by decide) (q_moveOut h0 ht hL K)
  by_cases e47 : v = 47
  · subst e47; exact g_tswIn (off := 2439) (tgt := 2479) dL_law_40 (by decide) (by decide) (by decide +kernel) (by decide) (q_moveTo h0 ht hL K)
  by_cases e48 : v = 48
  · subst e48; exact g_tswIn (off := 2507) (tgt := 2547) dL_law_40 (by decide) (by decide) (by decide +kernel) (by decide) (q_pay h0 ht hL K)
  by_cases e49 : v = 49
  · subst e49; exact g_tswIn (off := 2575) (tgt := 2615) dL_law_40 (by decide) (by decide) (by decide +kernel) (by decide) (q_setLandladyVowel h0 ht hL K)
  by_cases e50 : v = 50
  · subst e50; exact g_tswIn (off := 2643) (tgt := 2683) dL_law_40 (by decide) (by decide) (by decide +kernel) (by decide) (q_setTolerance h0 ht hL K)
  by_cases e51 : v = 51
  · subst e51; exact g_tswIn (off := 2699) (tgt := 2739) dL_law_40 (by decide) (by decide) (by decide +kernel) (by decide) (q_setBaseRent h0 ht hL K)
  by_cases e52 : v = 52
  · subst e52; exact g_tswIn (off := 2755) (tgt := 2795) dL_law_40 (by decide) (by decide) (by decide +kernel) (by decide) (q_restore h0 ht hL K)
  by_cases e53 : v = 53
  · subst e53; exact g_tswIn (off := 2811) (tgt := 2851) dL_law_40 (by decide) (by decide) (by decide +kernel) (by decide) (q_undo h0 ht hL K)
  by_cases e54 : v = 54
  · subst e54; exact g_tswIn (off := 2855) (tgt := 2895) dL_law_40 (by decide) (by decide) (by decide +kernel) (by decide) (q_save h0 ht hL K)
  by_cases e55 : v = 55
  · subst e55; exact g_tswIn (off := 2911) (tgt := 2951) dL_law_40 (by decide) (by decide) (by decide +kernel) (by decide) (q_writeLodger h0 ht hL K)
  by_cases e56 : v = 56
  · subst e56; exact g_tswIn (off := 2967) (tgt := 3007) dL_law_40 (by decide) (by decide) (by decide +kernel) (by decide) (q_writeFloor h0 ht hL K)
  by_cases e57 : v = 57
  · subst e57; exact g_tswIn (off := 3023) (tgt := 3063) dL_law_40 (by decide) (by decide) (by decide +kernel) (by decide) (q_outputCharacter h0 ht hL K)
  have hb : 57 < (nI v).toInt := by
    have h9 : ∀ v, v < 64 → 58 ≤ v → 57 < (nI v).toInt := by decide +kernel
    exact h9 v hv (by omega)
  refine g_tswOut (tgt := 3119) dL_law_40 (Or.inr hb) (by decide) ?_
  refine G.mono (kc2 := kc) (ks2 := ks) (by omega) (by omega) ?_
  obtain ⟨S, q, I, A, f, i1, i2, i3, i4, i5, i6⟩ := h0
  exact K _ _ k0 ⟨S, q, I, A, f, i1, i2, i3, i4, RV.nxt i5, i6⟩
set_option maxRecDepth 100000 in
set_option maxHeartbeats 4000000 in
theorem law_loop : ∀ (m t : Nat) (E : Hp) (n k0 : Nat), t + m = 512 → IVo Γ ab mo k0 t E n → G Γ 15 ML_law Pl X0 23 (lvL Γ ab mo t) [] E n (330 * m) (10200 * m) := by
  intro m
  induction m with
  | zero =>
    intro t E n k0 htm h0
    refine G.scr (fun hL9 => ?_)
    refine g_iload 4 rfl dL_law_23 ?_
    refine g_aload_n 0 rfl dL_law_25 ?_
    refine g_slen dL_law_26 ?_
    refine gn_bp 6 (by decide) dL_law_27 ?_
    refine g_isub dL_law_29 ?_
    refine g_icmp_gt (tgt := 3125) (by decide) dL_law_30 (fun _ => ?_) (fun c => ?_)
    · refine g_iconst (v := 1) dL_law_3125 (by decide) ?_
      exact g_iret (rfl : Pl (some (.int 1)) E n) (by decide +kernel) rfl dL_law_3126
    · exfalso
      have := scr_lt hL9 (by omega) c
      omega
  | succ m ih =>
    intro t E n k0 htm h0
    refine G.scr (fun hL9 => ?_)
    refine g_iload 4 rfl dL_law_23 ?_
    refine g_aload_n 0 rfl dL_law_25 ?_
    refine g_slen dL_law_26 ?_
    refine gn_bp 6 (by decide) dL_law_27 ?_
    refine g_isub dL_law_29 ?_
    refine g_icmp_gt (tgt := 3125) (by decide) dL_law_30 (fun _ => ?_) (fun c => ?_)
    · refine g_iconst (v := 1) dL_law_3125 (by decide) ?_
      exact g_iret (rfl : Pl (some (.int 1)) E n) (by decide +kernel) rfl dL_law_3126
    · have hL := scr_lt hL9 (by omega) c
      refine g_aload_n 0 rfl dL_law_33 ?_
      refine g_iload 4 rfl dL_law_34 ?_
      refine g_sld (by omega) dL_law_36 ?_
      refine gn_bp 63 (by decide) dL_law_37 ?_
      refine g_iand dL_law_39 ?_
      obtain ⟨v, hv, e⟩ := and63 (gX Γ (6 * t))
      refine g_top e ?_
      refine G.mono (kc2 := 330 * m + 330) (ks2 := 10200 * m + 10200) (by omega) (by omega) ?_
      refine law_switch h0 (by omega) hL (fun E2 n2 k2 h2 => ?_) hv
      refine g_iinc (v := nI (6 * (t + 1))) (lv2 := [(4, _), (0, _), (1, _), (2, _), (3, _)]) 4 rfl ?_ (by decide) rfl dL_law_3119 ?_
      · rw [show Int32.ofInt 6 = nI 6 by decide, nI_add]; rfl
      refine g_goto (tgt := 23) (by decide) dL_law_3122 ?_
      exact G.sub [1, 2, 3, 4, 0] rfl (ih (t + 1) E2 n2 k2 (by omega) h2)
end GLOOP
