section GJ16
section
variable {Γ : Gm} {d : Nat} {M : Mr} {P : Po} {X : Px} {pc : Nat} {lv : List (Nat × Value)} {st rest : List Value} {E : Hp} {n kc ks : Nat}
theorem g_astore_nN {j : Fin 4} {lv2 : List (Nat × Value)} (hn : (j : Nat) < M.2.2.2.1) (hl : ((j : Nat), Value.null) :: lv.filter (fun q => !(q.1 == (j : Nat)) && !(q.1 + 1 == (j : Nat) && q.2.category == 2)) = lv2) (dg : decode M.2.2.1 pc = .ok (.astore_n j, 1)) (k : G Γ d M P X (pc + 1) lv2 st E n kc ks) : G Γ d M P X pc lv (.null :: st) E n kc ks := G.goL (fun hx hb h k => lv_astore_nN hx hb dg rfl h hn hl k) k
end
section
variable {Γ : Gm} {pb ti e n c : Nat} {F S : Hp} {t : PT} {R : Hr} {f inp : Nat → Int32}
theorem PW_num {a z : Nat} (hr : Rp Γ S f c R) (hS : ∀ a, Le S (PW Γ pb ti F e t R) a) (hi : F ti = some (.inl (gA Γ 1, 600, .inl inp))) (hti : ti < pb) (haz : a ≤ z) (hzT : z ≤ 600) : Ct Γ 6 MX2_numberOf 0 0 [.ref (pb + 1), .ref ti, .int (nI a), .int (nI z)] (PW Γ pb ti F e t R) n (Rt (some (.int (fndF inp f a (z - a) c))) (PW Γ pb ti F e t R) n) X0 :=
  c_X2_numberOf hr hS (Or.inl ((PW_o (by omega)).trans hi)) (by decide) haz hzT
abbrev PWF (Γ : Gm) (pb ti : Nat) (F : Hp) (e : Nat) (t : PT) : Hp := hset (hset F pb (.inr (8, prF pb ti t))) (pb + 43) (.inr (9, tkF Γ ti (pb + 44) e t.2.2.1 t.2.2.2.1 t.2.2.2.2))
theorem PW_pay {k : Nat} {x : Int32} (hr : Rp Γ S f c R) (hk : k < c) : Ct Γ 1 MX2_takePayment 0 0 [.ref (pb + 1), .ref (pb + 1 + 6 + 3 * hO R k), .int x] (PW Γ pb ti F e t R) n (HPo Γ (pb + 1) (PWF Γ pb ti F e t) n none (fun R2 => Rp Γ S (payF f k x) c R2 ∧ hO R2 = hO R)) X0 :=
  c_X2_takePayment hr hk
theorem PW_day (hr : Rp Γ S f c R) (hfl : Flo f c) : Ct Γ 6 MX2_passDay 0 0 [.ref (pb + 1)] (PW Γ pb ti F e t R) n (HPo Γ (pb + 1) (PWF Γ pb ti F e t) n none (fun R2 => ∃ c2, c2 ≤ c ∧ (∀ I, Rp Γ S (dayM f I c).1 c2 R2 ∧ ∀ o, Tin I c R o → Trk (dayM f I c).2 c2 R2 o))) X0 :=
  c_X2_passDay hr hfl
theorem PW_put {d : Nat} {M : Mr} {P : Po} {X : Px} {pc : Nat} {lv : List (Nat × Value)} {st : List Value} {kc ks ix k : Nat} {x : Int32} (hr : Rp Γ S f c R) (hk : k < c) (hf : Fl M.1 ix 7 1) (dg : decode M.2.2.1 pc = .ok (.putfield ix, 3)) (kk : ∀ R2, Rp Γ S (upd f (13 + 16 * k) x) c R2 → G Γ d M P X (pc + 3) lv st (PW Γ pb ti F e t R2) n kc ks) : G Γ d M P X pc lv (.int x :: .ref (pb + 1 + 6 + 3 * hO R k) :: st) (PW Γ pb ti F e t R) n kc ks :=
  l_put (hb := pb + 1) (j := 0) hf w_X3_1 (hr.o12 hk) (by decide) rfl dg (kk _ (hr.sR (i := 0) hk (by decide)))
theorem PW_ald {d : Nat} {M : Mr} {P : Po} {X : Px} {pc : Nat} {lv : List (Nat × Value)} {st : List Value} {kc ks k : Nat} (hk : k < 12) (dg : decode M.2.2.1 pc = .ok (.aaload, 1)) (kk : G Γ d M P X (pc + 1) lv (lov (pb + 1) R (some k) :: st) (PW Γ pb ti F e t R) n kc ks) : G Γ d M P X pc lv (.int (nI k) :: .ref (pb + 1 + 3) :: st) (PW Γ pb ti F e t R) n kc ks := h_aald (hb := pb + 1) hk dg kk
end
section
variable {Γ : Gm} {e c v i : Nat} {S : Hp} {t : PT} {R : Hr} {f J inp : Nat → Int32} {s : PS}
theorem rd_end (h : PRel inp e (tnP inp e 1 100 (nxP inp e s)) t) (h1 : 1 ≤ i) (hd : t.1 ≠ 0 → i = 0) (hv : (tnP inp e 1 100 (nxP inp e s)).2.2.2.2.1 = 0 → i = hvP 1 100 (nxP inp e s)) (hr : Rp Γ S (dysM f J i).1 c R) : PRel inp e (rdP inp e s) t ∧ Rp Γ S (dysM f J (rdN inp e s)).1 c R := by
  have h0 : (tnP inp e 1 100 (nxP inp e s)).2.2.2.2.1 = 0 := Classical.byContradiction fun z => by have := hd (by rw [h.ek]; exact z); omega
  have e1 := hv h0
  rw [rdP_eq] at h h0
  exact ⟨h, by unfold rdN; rw [if_pos h0, ← e1]; exact hr⟩
theorem rd_dead (h : PRel inp e (tnP inp e 1 100 (nxP inp e s)) t) (h0 : ¬ t.1 = 0) (hi : i = 0) (hr : Rp Γ S (dysM f J i).1 c R) : PRel inp e (rdP inp e s) t ∧ Rp Γ S (dysM f J (rdN inp e s)).1 c R := by
  have h1 : ¬ (tnP inp e 1 100 (nxP inp e s)).2.2.2.2.1 = 0 := fun z => h0 (by rw [h.ek]; exact z)
  rw [rdP_eq] at h h1
  exact ⟨h, by unfold rdN; rw [if_neg h1]; rw [hi] at hr; exact hr⟩
end
set_option maxRecDepth 100000 in
set_option maxHeartbeats 4000000 in
theorem c_X4_readKnownName {Γ : Gm} {n : Nat} {pb ti e : Nat} {F : Hp} {t : PT} {R : Hr} {inp : Nat → Int32} {s : PS} {S : Hp} {f : Nat → Int32} {c lv : Nat} (hR : PRel inp e s t) (hi : F ti = some (.inl (gA Γ 1, 600, .inl inp))) (hti : ti < pb) (hr : Rp Γ S f c R) (hS : Sto S F (pb + 638) n lv) : Ct Γ 7 MX4_readKnownName 0 0 [.ref pb] (PW Γ pb ti F e t R) n (fun r E2 n2 => ∃ (o : Option Nat) (t2 : PT), r = some (lov (pb + 1) R o) ∧ n2 = n ∧ E2 = PW Γ pb ti F e t2 R ∧ (∀ k, o = some k → k < c) ∧ PRel inp e (tlP inp e f c s) t2 ∧ ((tlP inp e f c s).2.2.2.2.1 = 0 → ∃ k, o = some k ∧ k = tlV inp e f c s)) X0 := by
  refine Ct.of (by decide +kernel) rfl (Nat.le_of_ble_eq_true rfl) ?_
  have hek := hR.ek6
  have he := hR.e6
  have hse := hR.1.2.1
  have hen := hR.1.2.2.1
  refine G.sub (lv2 := [(0, _)]) [0] rfl ?_
  refine g_aload_n 0 rfl dX4_readKnownName_0 ?_
  refine gv_V (c_X4_isAtName hR hi hti) l_X4_120 rfl (Rcv.of PW_p rfl) (Nat.le_of_ble_eq_true rfl) (Nat.le_of_ble_eq_true rfl) rfl dX4_readKnownName_1 ?_
  refine g_if_ne (tgt := 21) (by decide) dX4_readKnownName_4 (fun h4 => ?_) (fun h4 => ?_)
  · -- t 21
    have hp := bi_n0 h4
    refine g_aload_n 0 rfl dX4_readKnownName_21 ?_
    refine g_get f_X4_12 PW_p rfl dX4_readKnownName_22 ?_
    refine g_aload_n 0 rfl dX4_readKnownName_25 ?_
    refine g_get f_X4_22 PW_p rfl dX4_readKnownName_26 ?_
    refine g_aload_n 0 rfl dX4_readKnownName_29 ?_
    refine g_get f_X4_31 PW_p rfl dX4_readKnownName_30 ?_
    refine g_get f_X4_81 PW_t rfl dX4_readKnownName_33 ?_
    refine g_aload_n 0 rfl dX4_readKnownName_36 ?_
    refine g_get f_X4_31 PW_p rfl dX4_readKnownName_37 ?_
    refine g_get f_X4_124 PW_t rfl dX4_readKnownName_40 ?_
    refine gv_V (PW_num hr (hS.le (by omega)) hi hti hse (by omega)) l_X4_127 rfl (Rcv.of PW_h rfl) (Nat.le_of_ble_eq_true rfl) (Nat.le_of_ble_eq_true rfl) rfl dX4_readKnownName_43 ?_
    refine g_istore_n (lv2 := [(1, _), (0, _)]) (by decide) rfl dX4_readKnownName_46 ?_
    refine g_iload_n 0 rfl dX4_readKnownName_47 ?_
    refine g_iconst (v := -1) dX4_readKnownName_48 (by decide) ?_
    refine g_icmp_ne (tgt := 66) (by decide) dX4_readKnownName_49 (fun h49 => ?_) (fun h49 => ?_)
    · -- t 66
      have hc12 := hr.2.1
      obtain ⟨k, -, hk1, hk2, -⟩ := (fstK_or (fun k => nmE inp f k t.2.2.2.1 (t.2.2.2.2 - t.2.2.2.1) 6) c 0).resolve_left h49
      have hkc : k < c := by omega
      refine g_aload_n 1 rfl dX4_readKnownName_66 ?_
      refine g_get f_X4_31 PW_p rfl dX4_readKnownName_67 ?_
      refine gu_V (c_X6_step PW_t ((PW_o (by omega)).trans hi) hR.1.1 he hR.1.2.2.1) l_X4_54 rfl (Rcv.of PW_t rfl) (Nat.le_of_ble_eq_true rfl) (Nat.le_of_ble_eq_true rfl) rfl dX4_readKnownName_70 ?_
      refine g_world (E2 := PW Γ pb ti F e (stT inp e t) R) PW_st ?_
      refine g_aload_n 1 rfl dX4_readKnownName_73 ?_
      refine g_get f_X4_12 PW_p rfl dX4_readKnownName_74 ?_
      refine g_get f_X4_165 PW_h rfl dX4_readKnownName_77 ?_
      refine g_iload_n 0 rfl dX4_readKnownName_80 ?_
      refine g_top (y := nI k) hk2 ?_
      refine h_aald (by omega) dX4_readKnownName_81 ?_
      exact g_aret ⟨some k, _, rfl, rfl, rfl, (fun _ z => by cases z; exact hkc), (kn_y hR hp (by omega) hk2).1, fun z => ⟨k, rfl, ((kn_y hR hp (by omega) hk2).2 z).symm⟩⟩ rfl dX4_readKnownName_82
    · -- f 52
      have hf1 : (fndF inp f t.2.2.2.1 (t.2.2.2.2 - t.2.2.2.1) c) = -1 := h49
      refine g_aload_n 1 rfl dX4_readKnownName_52 ?_
      refine gn_ic 3 (by decide) dX4_readKnownName_53 ?_
      refine g_aload_n 1 rfl dX4_readKnownName_54 ?_
      refine g_get f_X4_31 PW_p rfl dX4_readKnownName_55 ?_
      refine g_get f_X4_81 PW_t rfl dX4_readKnownName_58 ?_
      refine gu_V (c_X4_fail hek) l_X4_84 rfl (Rcv.of PW_p rfl) (Nat.le_of_ble_eq_true rfl) (Nat.le_of_ble_eq_true rfl) rfl dX4_readKnownName_61 ?_
      refine g_null dX4_readKnownName_64 ?_
      exact g_aretN ⟨none, _, rfl, rfl, rfl, (fun _ z => by cases z), (kn_no2 hR hp hf1).1, fun z => absurd z (kn_no2 hR hp hf1).2⟩ rfl dX4_readKnownName_65
  · -- f 7
    have hp := bi_0 h4
    refine g_aload_n 0 rfl dX4_readKnownName_7 ?_
    refine gn_ic 1 (by decide) dX4_readKnownName_8 ?_
    refine g_aload_n 0 rfl dX4_readKnownName_9 ?_
    refine g_get f_X4_31 PW_p rfl dX4_readKnownName_10 ?_
    refine g_get f_X4_81 PW_t rfl dX4_readKnownName_13 ?_
    refine gu_V (c_X4_fail hek) l_X4_84 rfl (Rcv.of PW_p rfl) (Nat.le_of_ble_eq_true rfl) (Nat.le_of_ble_eq_true rfl) rfl dX4_readKnownName_16 ?_
    refine g_null dX4_readKnownName_19 ?_
    exact g_aretN ⟨none, _, rfl, rfl, rfl, (fun _ z => by cases z), (kn_no1 hR hp).1, fun z => absurd z (kn_no1 hR hp).2⟩ rfl dX4_readKnownName_20
set_option maxRecDepth 100000 in
set_option maxHeartbeats 4000000 in
theorem c_X4_readPay {Γ : Gm} {n : Nat} {pb ti e : Nat} {F : Hp} {t : PT} {R : Hr} {inp : Nat → Int32} {s : PS} {S : Hp} {f : Nat → Int32} {c lv : Nat} (hR : PRel inp e s t) (hi : F ti = some (.inl (gA Γ 1, 600, .inl inp))) (hti : ti < pb) (hr : Rp Γ S f c R) (hS : Sto S F (pb + 638) n lv) (hlv : s.2.2.2.2.1 = 0) (hk1 : t.2.2.1 = s.1) : Ct Γ 8 MX4_readPay 0 0 [.ref pb] (PW Γ pb ti F e t R) n (fun r E2 n2 => r = none ∧ n2 = n ∧ ∃ (t2 : PT) (R2 : Hr), E2 = PW Γ pb ti F e t2 R2 ∧ PRel inp e (ryP inp e f c s) t2 ∧ Rp Γ S (ryF inp e f c s) c R2) X0 := by
  refine Ct.of (by decide +kernel) rfl (Nat.le_of_ble_eq_true rfl) ?_
  have hek := hR.ek6
  have he := hR.e6
  have hse := hR.1.2.1
  have hen := hR.1.2.2.1
  refine G.sub (lv2 := [(0, _)]) [0] rfl ?_
  refine g_aload_n 0 rfl dX4_readPay_0 ?_
  refine g_get f_X4_31 PW_p rfl dX4_readPay_1 ?_
  refine gu_V (c_X6_step PW_t ((PW_o (by omega)).trans hi) hR.1.1 he hR.1.2.2.1) l_X4_54 rfl (Rcv.of PW_t rfl) (Nat.le_of_ble_eq_true rfl) (Nat.le_of_ble_eq_true rfl) rfl dX4_readPay_4 ?_
  refine g_world (E2 := PW Γ pb ti F e (stT inp e t) R) PW_st ?_
  have hR1 : PRel inp e (nxP inp e s) (stT inp e t) := by have := hR.step (fun _ => hk1); rwa [goP_t hlv] at this
  refine g_aload_n 0 rfl dX4_readPay_7 ?_
  refine gx_Va (c_X4_readKnownName hR1 hi hti hr hS) l_X4_143 rfl (Rcv.of PW_p rfl) (Nat.le_of_ble_eq_true rfl) (Nat.le_of_ble_eq_true rfl) rfl dX4_readPay_8 (fun r E1 n1 h => by obtain ⟨o, t2, h, -⟩ := h; exact ⟨_, h⟩) (fun x E1 n1 hp => ?_)
  obtain ⟨o, t2, h1, rfl, rfl, ho, hR2, hR2o⟩ := hp
  cases h1
  rcases o with _ | k
  · skip
    have hdd : (ryA inp e f c s).2.2.2.2.1 ≠ 0 := fun z => by obtain ⟨k, z1, -⟩ := hR2o z; cases z1
    refine g_astore_nN (lv2 := [(1, _), (0, _)]) (by decide) rfl dX4_readPay_11 ?_
    refine g_aload_n 1 rfl dX4_readPay_12 ?_
    refine gn_ic 1 (by decide) dX4_readPay_13 ?_
    refine gn_sp 999 (by decide) dX4_readPay_14 ?_
    refine gx_Va (c_X4_readNumber hR2 hi hti (by decide) (by decide)) l_X4_96 rfl (Rcv.of PW_p rfl) (Nat.le_of_ble_eq_true rfl) (Nat.le_of_ble_eq_true rfl) rfl dX4_readPay_17 (fun r E1 n1 h => by obtain ⟨v, t2, h, -⟩ := h; exact ⟨_, h⟩) (fun x E1 n1 hp => ?_)
    obtain ⟨v, t3, h1, hn1, rfl, hR3, hR3a, hR3b, hR3c⟩ := hp
    have hn2 := hn1.symm
    subst hn2
    cases h1
    refine g_istore_n (lv2 := [(2, _), (1, _), (0, _)]) (by decide) rfl dX4_readPay_20 ?_
    refine g_aload_nN 1 rfl dX4_readPay_21 ?_
    refine g_ifnullN (tgt := 41) (by decide) dX4_readPay_22 ?_
    have hz := ry_no hR3 (fun z => hdd (tnP_live z).1) hr
    exact g_vret ⟨rfl, rfl, t3, R, rfl, hz.1, hz.2⟩ rfl dX4_readPay_41
  · skip
    have hkc : k < c := ho k rfl
    have hkV : (ryA inp e f c s).2.2.2.2.1 = 0 → k = tlV inp e f c (nxP inp e s) := fun z => by obtain ⟨k2, z1, z2⟩ := hR2o z; cases z1; exact z2
    refine g_astore_n (lv2 := [(1, _), (0, _)]) (by decide) rfl dX4_readPay_11 ?_
    refine g_aload_n 1 rfl dX4_readPay_12 ?_
    refine gn_ic 1 (by decide) dX4_readPay_13 ?_
    refine gn_sp 999 (by decide) dX4_readPay_14 ?_
    refine gx_Va (c_X4_readNumber hR2 hi hti (by decide) (by decide)) l_X4_96 rfl (Rcv.of PW_p rfl) (Nat.le_of_ble_eq_true rfl) (Nat.le_of_ble_eq_true rfl) rfl dX4_readPay_17 (fun r E1 n1 h => by obtain ⟨v, t2, h, -⟩ := h; exact ⟨_, h⟩) (fun x E1 n1 hp => ?_)
    obtain ⟨v, t3, h1, hn1, rfl, hR3, hR3a, hR3b, hR3c⟩ := hp
    have hn2 := hn1.symm
    subst hn2
    cases h1
    refine g_istore_n (lv2 := [(2, _), (1, _), (0, _)]) (by decide) rfl dX4_readPay_20 ?_
    refine g_aload_n 1 rfl dX4_readPay_21 ?_
    refine g_ifnull dX4_readPay_22 ?_
    refine g_aload_n 2 rfl dX4_readPay_25 ?_
    refine g_get f_X4_35 PW_p rfl dX4_readPay_26 ?_
    refine gn_if_ne (by have := hR3.ek6; omega) (tgt := 41) (by decide) dX4_readPay_29 (fun h29 => ?_) (fun h29 => ?_)
    · -- t 41
      have hz := ry_no hR3 (fun z => h29 (hR3.ek.trans z)) hr
      exact g_vret ⟨rfl, rfl, t3, R, rfl, hz.1, hz.2⟩ rfl dX4_readPay_41
    · -- f 32
      refine g_aload_n 2 rfl dX4_readPay_32 ?_
      refine g_get f_X4_12 PW_p rfl dX4_readPay_33 ?_
      refine g_aload_n 1 rfl dX4_readPay_36 ?_
      refine g_iload_n 0 rfl dX4_readPay_37 ?_
      refine gx_V0 (PW_pay hr hkc) l_X4_147 rfl (Rcv.of PW_h rfl) (Nat.le_of_ble_eq_true rfl) (Nat.le_of_ble_eq_true rfl) rfl dX4_readPay_38 (fun _ _ _ h => h.1) (fun E4 n4 hp => ?_)
      obtain ⟨-, rfl, R4, e4, hr4, -⟩ := hp
      replace e4 : E4 = PW Γ pb ti F e t3 R4 := e4
      subst e4
      have hz := ry_y hR3 h29 hkV hR3c hr4
      exact g_vret ⟨rfl, rfl, t3, R4, rfl, hz.1, hz.2⟩ rfl dX4_readPay_41
set_option maxRecDepth 100000 in
set_option maxHeartbeats 4000000 in
theorem c_X4_readMove {Γ : Gm} {n : Nat} {pb ti e : Nat} {F : Hp} {t : PT} {R : Hr} {inp : Nat → Int32} {s : PS} {S : Hp} {f : Nat → Int32} {c lv : Nat} (hR : PRel inp e s t) (hi : F ti = some (.inl (gA Γ 1, 600, .inl inp))) (hti : ti < pb) (hr : Rp Γ S f c R) (h4 : Fl4 f c) (hS : Sto S F (pb + 638) n lv) (hlv : s.2.2.2.2.1 = 0) (hk1 : t.2.2.1 = s.1) : Ct Γ 8 MX4_readMove 0 0 [.ref pb] (PW Γ pb ti F e t R) n (fun r E2 n2 => r = none ∧ n2 = n ∧ ∃ (t2 : PT) (R2 : Hr), E2 = PW Γ pb ti F e t2 R2 ∧ PRel inp e (rmP inp e f c s) t2 ∧ Rp Γ S (rmF inp e f c s) c R2) X0 := by
  refine Ct.of (by decide +kernel) rfl (Nat.le_of_ble_eq_true rfl) ?_
  have hek := hR.ek6
  have he := hR.e6
  have hse := hR.1.2.1
  have hen := hR.1.2.2.1
  refine G.sub (lv2 := [(0, _)]) [0] rfl ?_
  refine g_aload_n 0 rfl dX4_readMove_0 ?_
  refine g_get f_X4_31 PW_p rfl dX4_readMove_1 ?_
  refine gu_V (c_X6_step PW_t ((PW_o (by omega)).trans hi) hR.1.1 he hR.1.2.2.1) l_X4_54 rfl (Rcv.of PW_t rfl) (Nat.le_of_ble_eq_true rfl) (Nat.le_of_ble_eq_true rfl) rfl dX4_readMove_4 ?_
  refine g_world (E2 := PW Γ pb ti F e (stT inp e t) R) PW_st ?_
  have hR1 : PRel inp e (nxP inp e s) (stT inp e t) := by have := hR.step (fun _ => hk1); rwa [goP_t hlv] at this
  refine g_aload_n 0 rfl dX4_readMove_7 ?_
  refine gx_Va (c_X4_readKnownName hR1 hi hti hr hS) l_X4_143 rfl (Rcv.of PW_p rfl) (Nat.le_of_ble_eq_true rfl) (Nat.le_of_ble_eq_true rfl) rfl dX4_readMove_8 (fun r E1 n1 h => by obtain ⟨o, t2, h, -⟩ := h; exact ⟨_, h⟩) (fun x E1 n1 hp => ?_)
  obtain ⟨o, t2, h1, rfl, rfl, ho, hR2, hR2o⟩ := hp
  cases h1
  rcases o with _ | k
  · skip
    have hdd : (ryA inp e f c s).2.2.2.2.1 ≠ 0 := fun z => by obtain ⟨k, z1, -⟩ := hR2o z; cases z1
    refine g_astore_nN (lv2 := [(1, _), (0, _)]) (by decide) rfl dX4_readMove_11 ?_
    refine g_aload_n 1 rfl dX4_readMove_12 ?_
    refine g_aload_nN 0 rfl dX4_readMove_13 ?_
    refine gx_Va (c_X4_readFloor_0 (bt := nI (tlV inp e f c (nxP inp e s))) hR2 hi hti hr h4 (fun z => absurd z hdd)) l_X4_135 rfl (Rcv.of PW_p rfl) (Nat.le_of_ble_eq_true rfl) (Nat.le_of_ble_eq_true rfl) rfl dX4_readMove_14 (fun r E1 n1 h => by obtain ⟨v, t2, h, -⟩ := h; exact ⟨_, h⟩) (fun x E1 n1 hp => ?_)
    obtain ⟨v, t3, h1, rfl, rfl, hR3, hv4, hvh⟩ := hp
    cases h1
    · skip
      refine g_istore_n (lv2 := [(2, _), (1, _), (0, _)]) (by decide) rfl dX4_readMove_17 ?_
      refine g_aload_nN 1 rfl dX4_readMove_18 ?_
      refine g_ifnullN (tgt := 34) (by decide) dX4_readMove_19 ?_
      have hz := rm_no hR3 (fun z => hdd (rm_live z)) hr
      exact g_vret ⟨rfl, rfl, t3, R, rfl, hz.1, hz.2⟩ rfl dX4_readMove_34
  · skip
    have hkc : k < c := ho k rfl
    have hkV : (ryA inp e f c s).2.2.2.2.1 = 0 → k = tlV inp e f c (nxP inp e s) := fun z => by obtain ⟨k2, z1, z2⟩ := hR2o z; cases z1; exact z2
    refine g_astore_n (lv2 := [(1, _), (0, _)]) (by decide) rfl dX4_readMove_11 ?_
    refine g_aload_n 1 rfl dX4_readMove_12 ?_
    refine g_aload_n 0 rfl dX4_readMove_13 ?_
    refine gx_Va (c_X4_readFloor_k (bt := nI (tlV inp e f c (nxP inp e s))) hR2 hi hti hr h4 (fun z => by rw [hkV z]) hkc) l_X4_135 rfl (Rcv.of PW_p rfl) (Nat.le_of_ble_eq_true rfl) (Nat.le_of_ble_eq_true rfl) rfl dX4_readMove_14 (fun r E1 n1 h => by obtain ⟨v, t2, h, -⟩ := h; exact ⟨_, h⟩) (fun x E1 n1 hp => ?_)
    obtain ⟨v, t3, h1, rfl, rfl, hR3, hv4, hvh⟩ := hp
    cases h1
    · skip
      refine g_istore_n (lv2 := [(2, _), (1, _), (0, _)]) (by decide) rfl dX4_readMove_17 ?_
      refine g_aload_n 1 rfl dX4_readMove_18 ?_
      refine g_ifnull dX4_readMove_19 ?_
      refine g_aload_n 2 rfl dX4_readMove_22 ?_
      refine g_get f_X4_35 PW_p rfl dX4_readMove_23 ?_
      refine gn_if_ne (by have := hR3.ek6; omega) (tgt := 34) (by decide) dX4_readMove_26 (fun h26 => ?_) (fun h26 => ?_)
      · -- t 34
        have hz := rm_no hR3 (fun z => h26 (hR3.ek.trans z)) hr
        exact g_vret ⟨rfl, rfl, t3, R, rfl, hz.1, hz.2⟩ rfl dX4_readMove_34
      · -- f 29
        refine g_aload_n 1 rfl dX4_readMove_29 ?_
        refine g_iload_n 0 rfl dX4_readMove_30 ?_
        refine PW_put hr hkc f_X4_151 dX4_readMove_31 (fun R4 hr4 => ?_)
        have hz := rm_y hR3 h26 hkV hvh hr4
        exact g_vret ⟨rfl, rfl, t3, R4, rfl, hz.1, hz.2⟩ rfl dX4_readMove_34
set_option maxRecDepth 100000 in
set_option maxHeartbeats 4000000 in
theorem c_X4_readDays {Γ : Gm} {n : Nat} {pb ti e : Nat} {F : Hp} {t : PT} {R : Hr} {inp : Nat → Int32} {s : PS} {S : Hp} {f J : Nat → Int32} {c : Nat} (hR : PRel inp e s t) (hi : F ti = some (.inl (gA Γ 1, 600, .inl inp))) (hti : ti < pb) (hr : Rp Γ S f c R) (hok : Okr f c) (hlv : s.2.2.2.2.1 = 0) (hk1 : t.2.2.1 = s.1) : Ct Γ 7 MX4_readDays 0 0 [.ref pb] (PW Γ pb ti F e t R) n (fun r E2 n2 => r = none ∧ n2 = n ∧ ∃ (t2 : PT) (R2 : Hr), E2 = PW Γ pb ti F e t2 R2 ∧ PRel inp e (rdP inp e s) t2 ∧ ∃ c2, Rp Γ S (dysM f J (rdN inp e s)).1 c2 R2) X0 := by
  refine Ct.of (by decide +kernel) rfl (Nat.le_of_ble_eq_true rfl) ?_
  have hek := hR.ek6
  have he := hR.e6
  have hse := hR.1.2.1
  have hen := hR.1.2.2.1
  refine G.sub (lv2 := [(0, _)]) [0] rfl ?_
  refine g_aload_n 0 rfl dX4_readDays_0 ?_
  refine g_get f_X4_31 PW_p rfl dX4_readDays_1 ?_
  refine gu_V (c_X6_step PW_t ((PW_o (by omega)).trans hi) hR.1.1 he hR.1.2.2.1) l_X4_54 rfl (Rcv.of PW_t rfl) (Nat.le_of_ble_eq_true rfl) (Nat.le_of_ble_eq_true rfl) rfl dX4_readDays_4 ?_
  refine g_world (E2 := PW Γ pb ti F e (stT inp e t) R) PW_st ?_
  have hR1 : PRel inp e (nxP inp e s) (stT inp e t) := by have := hR.step (fun _ => hk1); rwa [goP_t hlv] at this
  refine g_aload_n 0 rfl dX4_readDays_7 ?_
  refine gn_ic 1 (by decide) dX4_readDays_8 ?_
  refine gn_bp 100 (by decide) dX4_readDays_9 ?_
  refine gx_Va (c_X4_readNumber hR1 hi hti (by decide) (by decide)) l_X4_96 rfl (Rcv.of PW_p rfl) (Nat.le_of_ble_eq_true rfl) (Nat.le_of_ble_eq_true rfl) rfl dX4_readDays_11 (fun r E1 n1 h => by obtain ⟨v, t2, h, -⟩ := h; exact ⟨_, h⟩) (fun x E1 n1 hp => ?_)
  obtain ⟨v, t2, h1, hn1, rfl, hR2, hR2a, hR2b, hR2c⟩ := hp
  have hn2 := hn1.symm
  subst hn2
  cases h1
  refine g_istore_n (lv2 := [(1, _), (0, _)]) (by decide) rfl dX4_readDays_14 ?_
  refine gn_ic 0 (by decide) dX4_readDays_15 ?_
  refine g_istore_n (lv2 := [(2, _), (1, _), (0, _)]) (by decide) rfl dX4_readDays_16 ?_
  have L17 : ∀ (m17 : Nat) (i c1 : Nat) (R1 : Hr), (i + m17 = v) → (Rp Γ S (dysM f J i).1 c1 R1) → (t2.1 ≠ 0 → i = 0) → G Γ 7 MX4_readDays (fun r E2 n2 => r = none ∧ n2 = n ∧ ∃ (t2 : PT) (R2 : Hr), E2 = PW Γ pb ti F e t2 R2 ∧ PRel inp e (rdP inp e s) t2 ∧ ∃ c2, Rp Γ S (dysM f J (rdN inp e s)).1 c2 R2) X0 17 [(0, .ref pb), (1, .int (nI v)), (2, .int (nI i))] [] (PW Γ pb ti F e t2 R1) n 0 0 := by
    intro m17
    induction m17 with
    | zero =>
      intro i c1 R1 hi9 hr1 hd9
      refine g_iload_n 2 rfl dX4_readDays_17 ?_
      refine g_iload_n 1 rfl dX4_readDays_18 ?_
      refine gn_icmp_ge (by omega) (by omega) (tgt := 42) (by decide) dX4_readDays_19 (fun h19 => ?_) (fun h19 => ?_)
      · -- t 42
        obtain rfl : i = v := by omega
        have hz := rd_end hR2 hR2a hd9 hR2c hr1
        exact g_vret ⟨rfl, rfl, t2, R1, rfl, hz.1, c1, hz.2⟩ rfl dX4_readDays_42
      · -- f 22
        exfalso; omega
    | succ m17 ih17 =>
      intro i c1 R1 hi9 hr1 hd9
      refine g_iload_n 2 rfl dX4_readDays_17 ?_
      refine g_iload_n 1 rfl dX4_readDays_18 ?_
      refine gn_icmp_ge (by omega) (by omega) (tgt := 42) (by decide) dX4_readDays_19 (fun h19 => ?_) (fun h19 => ?_)
      · -- t 42
        exfalso; omega
      · -- f 22
        refine g_aload_n 0 rfl dX4_readDays_22 ?_
        refine g_get f_X4_35 PW_p rfl dX4_readDays_23 ?_
        refine gn_if_ne (by have := hR2.ek6; omega) (tgt := 42) (by decide) dX4_readDays_26 (fun h26 => ?_) (fun h26 => ?_)
        · -- t 42
          have hz := rd_dead hR2 h26 (hd9 h26) hr1
          exact g_vret ⟨rfl, rfl, t2, R1, rfl, hz.1, c1, hz.2⟩ rfl dX4_readDays_42
        · -- f 29
          refine g_aload_n 0 rfl dX4_readDays_29 ?_
          refine g_get f_X4_12 PW_p rfl dX4_readDays_30 ?_
          obtain ⟨c3, h5, h6⟩ := dysM_ok (I := J) hok i
          obtain rfl : c3 = c1 := (nI_eq (by have := h6.2.1; omega) (by have := hr1.2.1; omega)).mp (h6.1.symm.trans hr1.2.2.1)
          refine gx_V0 (PW_day hr1 h6.2.2) l_X4_156 rfl (Rcv.of PW_h rfl) (Nat.le_of_ble_eq_true rfl) (Nat.le_of_ble_eq_true rfl) rfl dX4_readDays_33 (fun _ _ _ h => h.1) (fun E4 n4 hp => ?_)
          obtain ⟨-, rfl, R4, e4, c2, -, hr4⟩ := hp
          replace e4 : E4 = PW Γ pb ti F e t2 R4 := e4
          subst e4
          refine gn_inc (lv2 := [(2, _), (0, _), (1, _)]) 2 rfl (by decide) rfl dX4_readDays_36 ?_
          refine g_goto (tgt := 17) (by decide) dX4_readDays_39 ?_
          refine G.sub [1, 2, 0] rfl ?_
          exact ih17 (i + 1) c2 R4 (by omega) (by rw [dysM, mny_eq h6]; exact (hr4 _).1) (fun z => absurd h26 z)
  refine G.sub [2, 1, 0] rfl ?_
  exact L17 v 0 c R (Nat.zero_add _) hr (fun _ => rfl)
end GJ16
