section GJ25
section
variable {Γ : Gm} {d : Nat} {M : Mr} {P : Po} {X : Px} {pc : Nat} {lv : List (Nat × Value)} {st : List Value} {E : Hp} {n kc ks : Nat}
theorem hs_ald {a b k N : Nat} (he : E a = some (.inl (gA Γ 6, N, .inr (.inr (.inr (.inr (fun k => some (b + 42 * k)))))))) (hk : k < N) (hN : N < 1000) (dg : decode M.2.2.1 pc = .ok (.aaload, 1)) (kk : G Γ d M P X (pc + 1) lv (.ref (b + 42 * k) :: st) E n kc ks) : G Γ d M P X pc lv (.int (nI k) :: .ref a :: st) E n kc ks :=
  g_aald (C := "AccentHouse$House") (t := 6) he rfl (vp_in_nI hk (by omega)) dg (by rw [nI_clamp (by omega)]; exact kk)
/-- the ring: where the oldest lies, where the next comes -/
def rgO (ol kp : Nat) : Nat := if kp = 10 then (ol + 1) % 10 else ol
def rgS (ol kp : Nat) : Nat := if kp = 10 then ol else (ol + kp) % 10
end
set_option maxRecDepth 100000 in
set_option maxHeartbeats 4000000 in
theorem c_X1_clear {Γ : Gm} {n : Nat} {E : Hp} {ab ol kp : Nat} (hH : E (ab + 134) = some (.inr (5, [.ref (ab + 135), .int (nI ol), .int (nI kp)]))) : Ct Γ 1 MX1_clear 0 0 [.ref (ab + 134)] (E) n (Rt none (hset E (ab + 134) (.inr (5, [.ref (ab + 135), .int (nI 0), .int (nI 0)]))) n) X0 := by
  refine Ct.of (by decide +kernel) rfl (Nat.le_of_ble_eq_true rfl) ?_
  refine G.sub (lv2 := [(0, _)]) [0] rfl ?_
  refine g_aload_n 0 rfl dX1_clear_0 ?_
  refine gn_ic 0 (by decide) dX1_clear_1 ?_
  refine g_put f_X1_18 w_X1_1 hH (Nat.le_of_ble_eq_true rfl) rfl rfl rfl dX1_clear_2 ?_
  refine g_aload_n 0 rfl dX1_clear_5 ?_
  refine gn_ic 0 (by decide) dX1_clear_6 ?_
  refine g_put f_X1_22 w_X1_2 hset_s (Nat.le_of_ble_eq_true rfl) rfl rfl rfl dX1_clear_7 ?_
  refine g_world hset_hs ?_
  exact g_vret ⟨rfl, rfl, rfl⟩ rfl dX1_clear_10
set_option maxRecDepth 100000 in
set_option maxHeartbeats 4000000 in
theorem c_X1_remember_a {Γ : Gm} {n : Nat} {E : Hp} {ab ol kp c : Nat} {S : Hp} {R : Hr} {Pq : Nat → Hr} {f : Nat → Int32} (hH : E (ab + 134) = some (.inr (5, [.ref (ab + 135), .int (nI ol), .int (nI kp)]))) (hA : E (ab + 135) = some (.inl (gA Γ 6, 10, .inr (.inr (.inr (.inr (fun k => some (ab + 136 + 42 * k)))))))) (hP : ∀ i, i < 10 → HAt Γ E (ab + 136 + 42 * i) (Pq i)) (hw : ∀ i, i < 10 → Wf (Pq i)) (hq : HAt Γ E (ab + 50) R) (hr : Rp Γ S f c R) (hol : ol < 10) (hkp : kp ≤ 10) (h10 : kp = 10) : Ct Γ 5 MX1_remember 0 0 [.ref (ab + 134), .ref (ab + 50)] (E) n (fun v E2 n2 => v = none ∧ n2 = n ∧ ∃ P2, E2 = HW Γ (ab + 136 + 42 * rgS ol kp) (hset E (ab + 134) (.inr (5, [.ref (ab + 135), .int (nI (rgO ol kp)), .int (nI (remM kp))]))) P2 ∧ Rp Γ S f c P2) X0 := by
  refine Ct.of (by decide +kernel) rfl (Nat.le_of_ble_eq_true rfl) ?_
  refine G.sub (lv2 := [(0, _), (1, _)]) [0, 1] rfl ?_
  refine g_aload_n 0 rfl dX1_remember_0 ?_
  refine g_get f_X1_22 hH rfl dX1_remember_1 ?_
  refine gn_bp 10 (by decide) dX1_remember_4 ?_
  refine gn_icmp_ne (by omega) (by omega) (tgt := 32) (by decide) dX1_remember_6 (fun h6 => ?_) (fun h6 => ?_)
  · -- t 32
    exact absurd h10 h6
  · -- f 9
    refine g_aload_n 0 rfl dX1_remember_9 ?_
    refine g_aload_n 0 rfl dX1_remember_10 ?_
    refine g_get f_X1_18 hH rfl dX1_remember_11 ?_
    refine gn_ic 1 (by decide) dX1_remember_14 ?_
    refine gn_iadd dX1_remember_15 ?_
    refine gn_bp 10 (by decide) dX1_remember_16 ?_
    refine gn_irem (by omega) (by decide) (by decide) dX1_remember_18 ?_
    refine g_put f_X1_18 w_X1_1 hH (Nat.le_of_ble_eq_true rfl) rfl rfl rfl dX1_remember_19 ?_
    refine g_aload_n 0 rfl dX1_remember_22 ?_
    refine g_dup rfl dX1_remember_23 ?_
    refine g_get f_X1_22 hset_s rfl dX1_remember_24 ?_
    refine gn_ic 1 (by decide) dX1_remember_27 ?_
    refine gn_isub (by omega) dX1_remember_28 ?_
    refine g_put f_X1_22 w_X1_2 hset_s (Nat.le_of_ble_eq_true rfl) rfl rfl rfl dX1_remember_29 ?_
    refine g_world hset_hs ?_
    refine g_aload_n 0 rfl dX1_remember_32 ?_
    refine g_get f_X1_11 hset_s rfl dX1_remember_33 ?_
    refine g_aload_n 0 rfl dX1_remember_36 ?_
    refine g_get f_X1_18 hset_s rfl dX1_remember_37 ?_
    refine g_aload_n 0 rfl dX1_remember_40 ?_
    refine g_get f_X1_22 hset_s rfl dX1_remember_41 ?_
    refine gn_iadd dX1_remember_44 ?_
    refine gn_bp 10 (by decide) dX1_remember_45 ?_
    refine gn_irem (by omega) (by decide) (by decide) dX1_remember_47 ?_
    refine hs_ald ((hset_n (by omega)).trans hA) (show ((((ol + 1) % 10) + (kp - 1)) % 10) < 10 by omega) (by decide) dX1_remember_48 ?_
    refine g_aload_n 1 rfl dX1_remember_49 ?_
    rw [show (((ol + 1) % 10) + (kp - 1)) % 10 = ol by omega]
    have hs : HAt Γ (hset E (ab + 134) (.inr (5, [.ref (ab + 135), .int (nI ((ol + 1) % 10)), .int (nI (kp - 1))]))) (ab + 136 + 42 * ol) (Pq ol) := (fun j hj => (hset_n (by omega)).trans (hP ol (by omega) j hj))
    have hq1 : HAt Γ (hset E (ab + 134) (.inr (5, [.ref (ab + 135), .int (nI ((ol + 1) % 10)), .int (nI (kp - 1))]))) (ab + 50) R := (fun j hj => (hset_n (by omega)).trans (hq j hj))
    refine g_world hs.eq ?_
    refine gx_V0 (c_X2_copyFrom (hb := ab + 136 + 42 * ol) (ho := ab + 50) (hw ol (by omega)) hr hq1 (Or.inl (by omega))) l_X1_25 rfl (Rcv.of HW_h rfl) (Nat.le_of_ble_eq_true rfl) (Nat.le_of_ble_eq_true rfl) rfl dX1_remember_50 (fun _ _ _ h => h.1) (fun E4 n4 hp => ?_)
    obtain ⟨-, hn3, P2, rfl, hr2, -⟩ := hp
    have hn4 := hn3.symm
    subst hn4
    refine g_aload_n 0 rfl dX1_remember_53 ?_
    refine g_dup rfl dX1_remember_54 ?_
    refine g_get f_X1_22 ((HW_o (by omega)).trans hset_s) rfl dX1_remember_55 ?_
    refine gn_ic 1 (by decide) dX1_remember_58 ?_
    refine gn_iadd dX1_remember_59 ?_
    refine g_put f_X1_22 w_X1_2 ((HW_o (by omega)).trans hset_s) (Nat.le_of_ble_eq_true rfl) rfl rfl rfl dX1_remember_60 ?_
    refine g_world (E2 := HW Γ (ab + 136 + 42 * ol) (hset E (ab + 134) (.inr (5, [.ref (ab + 135), .int (nI ((ol + 1) % 10)), .int (nI ((kp - 1) + 1))]))) P2) ((hset_HW (by omega)).trans (by rw [hset_hs]; rfl)) ?_
    exact g_vret ⟨rfl, rfl, P2, by unfold rgS rgO remM; rw [if_pos h10, if_pos h10, if_pos h10, show kp - 1 + 1 = 10 by omega], hr2⟩ rfl dX1_remember_63
set_option maxRecDepth 100000 in
set_option maxHeartbeats 4000000 in
theorem c_X1_remember_b {Γ : Gm} {n : Nat} {E : Hp} {ab ol kp c : Nat} {S : Hp} {R : Hr} {Pq : Nat → Hr} {f : Nat → Int32} (hH : E (ab + 134) = some (.inr (5, [.ref (ab + 135), .int (nI ol), .int (nI kp)]))) (hA : E (ab + 135) = some (.inl (gA Γ 6, 10, .inr (.inr (.inr (.inr (fun k => some (ab + 136 + 42 * k)))))))) (hP : ∀ i, i < 10 → HAt Γ E (ab + 136 + 42 * i) (Pq i)) (hw : ∀ i, i < 10 → Wf (Pq i)) (hq : HAt Γ E (ab + 50) R) (hr : Rp Γ S f c R) (hol : ol < 10) (hkp : kp ≤ 10) (h10 : ¬ kp = 10) : Ct Γ 5 MX1_remember 0 0 [.ref (ab + 134), .ref (ab + 50)] (E) n (fun v E2 n2 => v = none ∧ n2 = n ∧ ∃ P2, E2 = HW Γ (ab + 136 + 42 * rgS ol kp) (hset E (ab + 134) (.inr (5, [.ref (ab + 135), .int (nI (rgO ol kp)), .int (nI (remM kp))]))) P2 ∧ Rp Γ S f c P2) X0 := by
  refine Ct.of (by decide +kernel) rfl (Nat.le_of_ble_eq_true rfl) ?_
  refine G.sub (lv2 := [(0, _), (1, _)]) [0, 1] rfl ?_
  refine g_aload_n 0 rfl dX1_remember_0 ?_
  refine g_get f_X1_22 hH rfl dX1_remember_1 ?_
  refine gn_bp 10 (by decide) dX1_remember_4 ?_
  refine gn_icmp_ne (by omega) (by omega) (tgt := 32) (by decide) dX1_remember_6 (fun h6 => ?_) (fun h6 => ?_)
  · -- t 32
    refine g_aload_n 0 rfl dX1_remember_32 ?_
    refine g_get f_X1_11 hH rfl dX1_remember_33 ?_
    refine g_aload_n 0 rfl dX1_remember_36 ?_
    refine g_get f_X1_18 hH rfl dX1_remember_37 ?_
    refine g_aload_n 0 rfl dX1_remember_40 ?_
    refine g_get f_X1_22 hH rfl dX1_remember_41 ?_
    refine gn_iadd dX1_remember_44 ?_
    refine gn_bp 10 (by decide) dX1_remember_45 ?_
    refine gn_irem (by omega) (by decide) (by decide) dX1_remember_47 ?_
    refine hs_ald hA (show ((ol + kp) % 10) < 10 by omega) (by decide) dX1_remember_48 ?_
    refine g_aload_n 1 rfl dX1_remember_49 ?_
    have hs : HAt Γ (E) (ab + 136 + 42 * ((ol + kp) % 10)) (Pq ((ol + kp) % 10)) := hP ((ol + kp) % 10) (by omega)
    have hq1 : HAt Γ (E) (ab + 50) R := hq
    refine g_world hs.eq ?_
    refine gx_V0 (c_X2_copyFrom (hb := ab + 136 + 42 * ((ol + kp) % 10)) (ho := ab + 50) (hw ((ol + kp) % 10) (by omega)) hr hq1 (Or.inl (by omega))) l_X1_25 rfl (Rcv.of HW_h rfl) (Nat.le_of_ble_eq_true rfl) (Nat.le_of_ble_eq_true rfl) rfl dX1_remember_50 (fun _ _ _ h => h.1) (fun E4 n4 hp => ?_)
    obtain ⟨-, hn3, P2, rfl, hr2, -⟩ := hp
    have hn4 := hn3.symm
    subst hn4
    refine g_aload_n 0 rfl dX1_remember_53 ?_
    refine g_dup rfl dX1_remember_54 ?_
    refine g_get f_X1_22 ((HW_o (by omega)).trans hH) rfl dX1_remember_55 ?_
    refine gn_ic 1 (by decide) dX1_remember_58 ?_
    refine gn_iadd dX1_remember_59 ?_
    refine g_put f_X1_22 w_X1_2 ((HW_o (by omega)).trans hH) (Nat.le_of_ble_eq_true rfl) rfl rfl rfl dX1_remember_60 ?_
    refine g_world (E2 := HW Γ (ab + 136 + 42 * ((ol + kp) % 10)) (hset E (ab + 134) (.inr (5, [.ref (ab + 135), .int (nI ol), .int (nI (kp + 1))]))) P2) (hset_HW (by omega)) ?_
    exact g_vret ⟨rfl, rfl, P2, by unfold rgS rgO remM; rw [if_neg h10, if_neg h10, if_neg h10], hr2⟩ rfl dX1_remember_63
  · -- f 9
    exact absurd h6 h10
theorem c_X1_remember {Γ : Gm} {n : Nat} {E : Hp} {ab ol kp c : Nat} {S : Hp} {R : Hr} {Pq : Nat → Hr} {f : Nat → Int32} (hH : E (ab + 134) = some (.inr (5, [.ref (ab + 135), .int (nI ol), .int (nI kp)]))) (hA : E (ab + 135) = some (.inl (gA Γ 6, 10, .inr (.inr (.inr (.inr (fun k => some (ab + 136 + 42 * k)))))))) (hP : ∀ i, i < 10 → HAt Γ E (ab + 136 + 42 * i) (Pq i)) (hw : ∀ i, i < 10 → Wf (Pq i)) (hq : HAt Γ E (ab + 50) R) (hr : Rp Γ S f c R) (hol : ol < 10) (hkp : kp ≤ 10) : Ct Γ 5 MX1_remember 0 0 [.ref (ab + 134), .ref (ab + 50)] E n (fun v E2 n2 => v = none ∧ n2 = n ∧ ∃ P2, E2 = HW Γ (ab + 136 + 42 * rgS ol kp) (hset E (ab + 134) (.inr (5, [.ref (ab + 135), .int (nI (rgO ol kp)), .int (nI (remM kp))]))) P2 ∧ Rp Γ S f c P2) X0 := by
  by_cases h : kp = 10
  · exact c_X1_remember_a hH hA hP hw hq hr hol hkp h
  · exact c_X1_remember_b hH hA hP hw hq hr hol hkp h
set_option maxRecDepth 100000 in
set_option maxHeartbeats 4000000 in
theorem c_X1_takeBack {Γ : Gm} {n : Nat} {E : Hp} {ab ol kp c : Nat} {S : Hp} {R T : Hr} {g : Nat → Int32} (hH : E (ab + 134) = some (.inr (5, [.ref (ab + 135), .int (nI ol), .int (nI kp)]))) (hA : E (ab + 135) = some (.inl (gA Γ 6, 10, .inr (.inr (.inr (.inr (fun k => some (ab + 136 + 42 * k)))))))) (hP : HAt Γ E (ab + 136 + 42 * ((ol + (kp - 1)) % 10)) T) (hq : HAt Γ E (ab + 50) R) (hwR : Wf R) (hr : Rp Γ S g c T) (hol : ol < 10) (hkp : kp ≤ 10) (hk0 : 0 < kp) : Ct Γ 5 MX1_takeBack 0 0 [.ref (ab + 134), .ref (ab + 50)] (E) n (fun v E2 n2 => v = none ∧ n2 = n ∧ ∃ R2, E2 = HW Γ (ab + 50) (hset E (ab + 134) (.inr (5, [.ref (ab + 135), .int (nI ol), .int (nI (kp - 1))]))) R2 ∧ Rp Γ S g c R2) X0 := by
  refine Ct.of (by decide +kernel) rfl (Nat.le_of_ble_eq_true rfl) ?_
  refine G.sub (lv2 := [(0, _), (1, _)]) [0, 1] rfl ?_
  refine g_aload_n 0 rfl dX1_takeBack_0 ?_
  refine g_get f_X1_22 hH rfl dX1_takeBack_1 ?_
  refine gn_if_le (by omega) (tgt := 38) (by decide) dX1_takeBack_4 (fun cc1 => ?_) (fun cc1 => ?_)
  · -- t 38
    exfalso; omega
  · -- f 7
    refine g_aload_n 0 rfl dX1_takeBack_7 ?_
    refine g_dup rfl dX1_takeBack_8 ?_
    refine g_get f_X1_22 hH rfl dX1_takeBack_9 ?_
    refine gn_ic 1 (by decide) dX1_takeBack_12 ?_
    refine gn_isub (by omega) dX1_takeBack_13 ?_
    refine g_put f_X1_22 w_X1_2 hH (Nat.le_of_ble_eq_true rfl) rfl rfl rfl dX1_takeBack_14 ?_
    refine g_aload_n 1 rfl dX1_takeBack_17 ?_
    refine g_aload_n 0 rfl dX1_takeBack_18 ?_
    refine g_get f_X1_11 hset_s rfl dX1_takeBack_19 ?_
    refine g_aload_n 0 rfl dX1_takeBack_22 ?_
    refine g_get f_X1_18 hset_s rfl dX1_takeBack_23 ?_
    refine g_aload_n 0 rfl dX1_takeBack_26 ?_
    refine g_get f_X1_22 hset_s rfl dX1_takeBack_27 ?_
    refine gn_iadd dX1_takeBack_30 ?_
    refine gn_bp 10 (by decide) dX1_takeBack_31 ?_
    refine gn_irem (by omega) (by decide) (by decide) dX1_takeBack_33 ?_
    refine hs_ald ((hset_n (by omega)).trans hA) (show (ol + (kp - 1)) % 10 < 10 by omega) (by decide) dX1_takeBack_34 ?_
    have hq1 : HAt Γ (hset E (ab + 134) (.inr (5, [.ref (ab + 135), .int (nI ol), .int (nI (kp - 1))]))) (ab + 50) R := fun j hj => (hset_n (by omega)).trans (hq j hj)
    have hs1 : HAt Γ (hset E (ab + 134) (.inr (5, [.ref (ab + 135), .int (nI ol), .int (nI (kp - 1))]))) (ab + 136 + 42 * ((ol + (kp - 1)) % 10)) T := fun j hj => (hset_n (by omega)).trans (hP j hj)
    refine g_world hq1.eq ?_
    refine gx_V0 (c_X2_copyFrom (hb := ab + 50) hwR hr hs1 (Or.inr (by omega))) l_X1_25 rfl (Rcv.of HW_h rfl) (Nat.le_of_ble_eq_true rfl) (Nat.le_of_ble_eq_true rfl) rfl dX1_takeBack_35 (fun _ _ _ h => h.1) (fun E4 n4 hp => ?_)
    obtain ⟨-, hn3, R2, rfl, hr2, -⟩ := hp
    have hn4 := hn3.symm
    subst hn4
    exact g_vret ⟨rfl, rfl, R2, rfl, hr2⟩ rfl dX1_takeBack_38
end GJ25
