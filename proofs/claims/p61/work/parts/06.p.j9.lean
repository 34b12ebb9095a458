section GJ9
/-- one is watched and lives in the house -/
def Tin (I : Nat → Int32) (c : Nat) (R : Hr) (o : Nat) : Prop := ∃ j, j < c ∧ I 11 = nI j ∧ hO R j = o
theorem Tin.mv {I : Nat → Int32} {c o : Nat} {R R2 : Hr} (h : Tin I c R o) (e : hO R2 = hO R) : Tin I c R2 o := by unfold Tin; rw [e]; exact h
set_option maxRecDepth 100000 in
set_option maxHeartbeats 4000000 in
theorem c_X2_passDay {Γ : Gm} {n : Nat} {hb c : Nat} {F S : Hp} {R : Hr} {f : Nat → Int32} (hr : Rp Γ S f c R) (hfl : Flo f c) : Ct Γ 6 MX2_passDay 0 0 [.ref hb] (HW Γ hb F R) n (HPo Γ hb F n (none) (fun R2 => ∃ c2, c2 ≤ c ∧ (∀ I, Rp Γ S (dayM f I c).1 c2 R2 ∧ ∀ o, Tin I c R o → Trk (dayM f I c).2 c2 R2 o))) X0 := by
  refine Ct.of (by decide +kernel) rfl (Nat.le_of_ble_eq_true rfl) ?_
  have hc12 := hr.2.1
  have hok : Okr f c := ⟨hr.2.2.1, hr.2.1, hfl⟩
  have hoA := dayA_ok hok
  refine G.sub (lv2 := [(0, _)]) [0] rfl ?_
  refine g_aload_n 0 rfl dX2_passDay_0 ?_
  refine gx_V0 (c_X2_collectRent hr) l_X2_128 rfl (Rcv.of HW_h rfl) (Nat.le_of_ble_eq_true rfl) (Nat.le_of_ble_eq_true rfl) rfl dX2_passDay_1 (fun _ _ _ h => h.1) (fun E2 n2 hp => ?_)
  obtain ⟨-, e1, R1, e2, hrA, hoA2⟩ := hp
  rw [e1, e2]
  refine g_aload_n 0 rfl dX2_passDay_4 ?_
  refine gx_V0 (c_X2_giveLessons hrA) l_X2_131 rfl (Rcv.of HW_h rfl) (Nat.le_of_ble_eq_true rfl) (Nat.le_of_ble_eq_true rfl) rfl dX2_passDay_5 (fun _ _ _ h => h.1) (fun E2 n2 hp => ?_)
  obtain ⟨-, e1, R2, e2, hrB, hoB⟩ := hp
  rw [e1, e2]
  refine gn_ic 0 (by decide) dX2_passDay_8 ?_
  refine g_istore_n (lv2 := [(1, _), (0, _)]) (by decide) rfl dX2_passDay_9 ?_
  have L10 : ∀ (m10 : Nat) (φ : Nat) (R3 : Hr), (φ + m10 = 5) → (Rp Γ S (mixF (dayA f c) (dinN (dayA f c) (avR (dayA f c) c) (onR (dayA f c) c) c) φ 0) c R3) → (hO R3 = hO R) → G Γ 6 MX2_passDay (HPo Γ hb F n (none) (fun R2 => ∃ c2, c2 ≤ c ∧ (∀ I, Rp Γ S (dayM f I c).1 c2 R2 ∧ ∀ o, Tin I c R o → Trk (dayM f I c).2 c2 R2 o))) X0 10 [(0, .ref hb), (1, .int (nI φ))] [] (HW Γ hb F R3) n 0 0 := by
    intro m10
    induction m10 with
    | zero =>
      intro φ R3 hi hrl hord
      refine g_iload_n 1 rfl dX2_passDay_10 ?_
      refine gn_ic 5 (by decide) dX2_passDay_11 ?_
      refine gn_icmp_ge (by omega) (by omega) (tgt := 26) (by decide) dX2_passDay_12 (fun h12 => ?_) (fun h12 => ?_)
      · -- t 26
        obtain rfl : φ = 5 := by omega
        replace hrl : Rp Γ S (dayB f c) c R3 := hrl.congr (fun j hj => (mix_5 (f := dayA f c) (a := avR (dayA f c) c) (o := onR (dayA f c) c) hoA.2.2 j hj).symm)
        refine g_aload_n 0 rfl dX2_passDay_26 ?_
        refine g_dup rfl dX2_passDay_27 ?_
        refine g_get f_X2_28 HW_h rfl dX2_passDay_28 ?_
        refine g_top (hrl.d (j := 8) (by decide) (by decide)) ?_
        refine gn_ic 1 (by decide) dX2_passDay_31 ?_
        refine g_iadd dX2_passDay_32 ?_
        refine h_putR hrl f_X2_28 w_X2_0 (by decide) rfl (j := 8) (by decide) (by decide) dX2_passDay_33 (fun hr1 => ?_)
        replace hr1 : Rp Γ S (dayC f c) c _ := hr1
        refine g_aload_n 0 rfl dX2_passDay_36 ?_
        refine g_get f_X2_28 HW_h rfl dX2_passDay_37 ?_
        refine g_top (hr1.d (j := 8) (by decide) (by decide)) ?_
        refine gn_bp 7 (by decide) dX2_passDay_40 ?_
        refine g_irem (by decide) dX2_passDay_42 ?_
        refine g_if_ne (tgt := 50) (by decide) dX2_passDay_43 (fun h43 => ?_) (fun h43 => ?_)
        · -- t 50
          exact g_vret ⟨rfl, rfl, _, rfl, c, Nat.le_refl c, fun I => ⟨by rw [dayM_f (fun z => h43 (InsB_t.mp z))]; exact hr1, fun o ht => by rw [dayM_f (fun z => h43 (InsB_t.mp z))]; exact Or.inr (ht.mv hord)⟩⟩ rfl dX2_passDay_50
        · -- f 46
          refine g_aload_n 0 rfl dX2_passDay_46 ?_
          refine gx_V0 (c_X2_inspect hr1) l_X2_137 rfl (Rcv.of HW_h rfl) (Nat.le_of_ble_eq_true rfl) (Nat.le_of_ble_eq_true rfl) rfl dX2_passDay_47 (fun _ _ _ h => h.1) (fun E2 n2 hp => ?_)
          obtain ⟨-, e1, R5, e2, c2, hc2, hI⟩ := hp
          rw [e1, e2]
          exact g_vret ⟨rfl, rfl, R5, rfl, c2, hc2, fun I => ⟨by rw [dayM_t (InsB_t.mpr h43)]; exact (hI I).1, fun o ht => by rw [dayM_t (InsB_t.mpr h43)]; exact (hI I).2 o (Or.inr (ht.mv hord))⟩⟩ rfl dX2_passDay_50
      · -- f 15
        exfalso; omega
    | succ m10 ih10 =>
      intro φ R3 hi hrl hord
      refine g_iload_n 1 rfl dX2_passDay_10 ?_
      refine gn_ic 5 (by decide) dX2_passDay_11 ?_
      refine gn_icmp_ge (by omega) (by omega) (tgt := 26) (by decide) dX2_passDay_12 (fun h12 => ?_) (fun h12 => ?_)
      · -- t 26
        exfalso; omega
      · -- f 15
        refine g_aload_n 0 rfl dX2_passDay_15 ?_
        refine g_iload_n 1 rfl dX2_passDay_16 ?_
        refine gx_V0 (c_X2_serveDinner (f := dayA f c) hrl hoA.2.2 (by omega)) l_X2_134 rfl (Rcv.of HW_h rfl) (Nat.le_of_ble_eq_true rfl) (Nat.le_of_ble_eq_true rfl) rfl dX2_passDay_17 (fun _ _ _ h => h.1) (fun E2 n2 hp => ?_)
        obtain ⟨-, e1, R4, e2, hrC, hoC⟩ := hp
        rw [e1, e2]
        refine gn_inc (lv2 := [(1, _), (0, _)]) 1 rfl (by decide) rfl dX2_passDay_20 ?_
        refine g_goto (tgt := 10) (by decide) dX2_passDay_23 ?_
        refine G.sub [1, 0] rfl ?_
        exact ih10 (φ + 1) R4 (by omega) hrC (hoC.trans hord)
  refine G.sub [1, 0] rfl ?_
  exact L10 5 0 R2 rfl (by rw [mix_00]; exact hrB) (hoB.trans hoA2)
end GJ9
