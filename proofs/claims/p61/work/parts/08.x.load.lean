/-! the law loads its text -/
section GLDX
variable {Γ : Gm} {ab ra B D s0 c kp n e L o w : Nat} {g0 f t : Nat → Int32} {top : Option (Nat → Int32)} {E : Hp}
abbrev z6 : PS := (0, 0, 0, 0, 0, 0)
theorem rv_rMi {S : Hp} {q : CQ} {I : Nat → Int32} {A : Nat → Nat → Int32} (h : RV Γ B S q I A f) : Hok Γ S (q_Q q 0) ∧ (∀ i, i < 15 → Wf (q_Q q i)) := ⟨h.2.2.2.2.2.2.1, h.2.2.2.2.2.2.2.1⟩
set_option maxHeartbeats 1000000 in
theorem ld_post {S E2 S2 : Hp} {q : CQ} {I : Nat → Int32} {A : Nat → Nat → Int32} {n2 : Nat} {t2 : PT} {lv2 cap2 cnt2 : Nat} {b2 F : Nat → Int32} {R2 R3 : Hr} {c2 : Nat} {x : Nat → Int32} (hRV : RV Γ B S q I A f) (hB : 1200000 ≤ B) (hD : 5 ≤ D) (hL : L ≤ 12)
    (o1 : ab + 642 ≤ ra) (o2 : ra < n) (o3 : ra ≠ q_lv q) (o4 : ra ≠ q_ov q) (o5 : S ra = none) (o6 : E ra = some (.inl (gA Γ 0, 1, .inl x)))
    (k1 : t2.1 = 0) (k2 : t2.2.1 = -1) (k3 : CA Γ ab n2 S2 E2 (LDq q e t2 lv2 cap2 cnt2 b2 R2 R3)) (k4 : n ≤ n2) (k5 : Frm ab n (q_lv q) (q_ov q) E E2) (k6 : lv2 = q_lv q ∨ n ≤ lv2) (k8 : ∀ a v, S2 a = some v → S a = some v ∨ n ≤ a) (k9 : Hok Γ S2 R2) (k10 : Rp Γ S2 F c2 R3) (k11 : Val 1200000 F c2)
    (t7 : F 7 = nI L) (tl : ldN F L = 0) (td : ∃ dy, dy ≤ 5 ∧ F 8 = nI dy) : c2 = L ∧ IW Γ ab ra B D 2 g0 F L 0 none E2 n2 := by
  obtain rfl : c2 = L := (nI_eq (by have := k11.2.1; omega) (by omega)).mp (k11.1.symm.trans t7)
  refine ⟨rfl, S2, _, upd (upd (upd (upd (upd I 14 (nI 0)) 17 (nI 0)) 18 (-1)) 6 (nI 0)) 8 (nI 0), A, k3, hRV.lok hB ?_ ?_ ?_ ?_ ?_ ?_ ?_ ?_ Sc3.rf k1 k2 k9 k10 k11, ⟨t7, hL, tl, ?_⟩, rfl, ⟨fun j hj => absurd hj (Nat.not_lt_zero j), fun t z => by cases z⟩, fun hs => absurd hs (by decide), ⟨rfl, o1⟩, by omega, ?_, o4, ?_, x, (k5 ra o2 (by omega) o3 o4).trans o6⟩
  · rw [pk_un (by decide), pk_un (by decide), pk_un (by decide), pk_un (by decide), pk_us]
  · rw [pk_un (by decide), pk_un (by decide), pk_un (by decide), pk_us]
  · rw [pk_un (by decide), pk_un (by decide), pk_us]
  · rw [pk_un (by decide), pk_us]
  · rw [pk_us]
  · rw [pk_un (by decide), pk_un (by decide), pk_un (by decide), pk_un (by decide), pk_un (by decide)]
  · rw [pk_un (by decide), pk_un (by decide), pk_un (by decide), pk_un (by decide), pk_un (by decide)]
  · have hp := hRV.2.2.2.2.2.2.2.2.2.2
    exact ((((hp.u (by decide)).u (by decide)).u (by decide)).u (by decide)).u (by decide)
  · obtain ⟨dy, h1, h2⟩ := td
    exact ⟨dy, by omega, h2⟩
  · show ra ≠ lv2
    rcases k6 with z | z
    · rw [z]; exact o3
    · omega
  · cases hz : S2 ra with
    | none => rfl
    | some v =>
      rcases k8 ra v hz with z | z
      · rw [o5] at z; cases z
      · omega
set_option maxHeartbeats 1000000 in
theorem k_load {m : Nat} (hI : IT Γ ab ra B f (tyT t e) m E n) (hm : e ≤ m) (ht7 : A7 t e) (hT : Txt t e L) (hL : L ≤ 8) (hB : 1200000 ≤ B) (hD : 5 ≤ D) : CtW Γ 13 MX7_load 328 10168 [.ref ab, .int (nI e)] E n (fun r E2 n2 => r = some (.int (nI L)) ∧ n ≤ n2 ∧ ∃ F, IW Γ ab ra B D 2 g0 F L 0 none E2 n2) X0 := by
  obtain ⟨S, q, I, A, hCA, hRV, him, hin, o1, o2, o3, o4, o5, x, o6⟩ := hI
  have hT2 : Txt (q_inp q) e L := hT.of (fun j hj => (hin j (by omega)).trans (tyT_lo ht7 hj).1.symm)
  obtain ⟨t1, t7, tl, td⟩ := txt_ok (J := fun _ => nI 0) (fa := 0) hT2 hL (s := z6) rfl
  have h600 : q_im q ≤ 600 := hRV.1.1
  refine ⟨_, _, c_X7_load_ok (J := fun _ => nI 0) (s := z6) (l := e) hCA ((rv_rMi hRV).2 1 (by decide)) (rv_rMi hRV).1 (by omega) h600 (by decide) (by decide) t1, fun r E2 n2 z => ?_, fun _ _ _ z => z⟩
  obtain ⟨S2, t2, lv2, cap2, cnt2, b2, R2, R3, c2, hr, k1, k2, k3, k4, k5, k6, k7, k8, k9, k10, k11⟩ := z
  obtain ⟨e2, hW⟩ := ld_post (g0 := g0) hRV hB hD (show L ≤ 12 by omega) o1 o2 o3 o4 o5 o6 k1 k2 k3 k4 k5 k6 k8 k9 k10 k11 t7 tl td
  exact ⟨by rw [hr, e2], k4, _, hW⟩
set_option maxHeartbeats 1000000 in
theorem c_L_load (hI : IW Γ ab ra B D s0 g0 f c kp top E n) (hs0 : ∃ h z, E o = some (.inr (0, [.ref w, .int 0, h, z]))) (hb0 : E w = some (.inl (gA Γ 1, e, .inl t))) (hoa : ab + 642 ≤ o) (hwa : ab + 642 ≤ w) (ht7 : A7 t e) (he : e ≤ 380) (hT : Txt t e L) (hL : L ≤ 8) (hB : 1200000 ≤ B) (hD : 5 ≤ D) : CtH Γ 14 ML_load 329 10173 [.ref ab, .ref o] E n (fun r E2 n2 => r = some (.int (nI L)) ∧ n ≤ n2 ∧ ∃ F, IW Γ ab ra B D 2 g0 F L 0 none E2 n2) X0 := by
  refine CtH.of (by decide +kernel) rfl (Nat.le_of_ble_eq_true rfl) ?_
  refine G.sub (lv2 := [(0, _), (1, _)]) [0, 1] rfl ?_
  refine g_aload_n 0 rfl dL_load_0 ?_
  refine g_aload_n 1 rfl dL_load_1 ?_
  refine G.mono (kc2 := 328 + 1) (ks2 := 10168 + 5) (by decide) (by decide) ?_
  refine g_Sz (kc := 328) (ks := 10168) (v := .int (nI e)) (c_L_type hI.it hs0 hb0 hoa hwa ht7 he) l_L_24 rfl (Nat.le_of_ble_eq_true rfl) (Nat.le_of_ble_eq_true rfl) rfl dL_load_2 (fun _ _ _ z => z.1) (fun E1 n1 z => ?_)
  obtain ⟨-, rfl, m, hm, hI1⟩ := z
  refine g_istore_n (lv2 := [(2, _), (0, _), (1, _)]) (by decide) rfl dL_load_5 ?_
  refine g_aload_n 1 rfl dL_load_6 ?_
  refine g_iload_n 0 rfl dL_load_7 ?_
  refine G.mono (kc2 := 0 + 328) (ks2 := 0 + 10168) (by decide) (by decide) ?_
  refine gw_Vi (kc := 0) (ks := 0) (k_load (g0 := g0) (D := D) hI1 hm ht7 hT hL hB hD) l_L_30 rfl (by obtain ⟨S, q, I, A, hCA, -⟩ := hI1; exact Rcv.of hCA.co rfl) (Nat.le_of_ble_eq_true rfl) (Nat.le_of_ble_eq_true rfl) rfl dL_load_8 (fun _ _ _ z => ⟨_, z.1⟩) (fun x E2 n2 z => ?_)
  obtain ⟨e1, h2, F, hW⟩ := z
  have e9 := (Value.int.inj (Option.some.inj e1)).symm
  subst e9
  exact g_iret ⟨rfl, by omega, F, hW⟩ rfl rfl dL_load_11
end GLDX
