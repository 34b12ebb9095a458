section GO4
variable {Γ : Gm} {t ab mo n k0 : Nat} {E : Hp}
theorem o_findByName (h0 : IVo Γ ab mo k0 t E n) : OPk Γ ab mo t MX7_findByName [] MX8_findByName [] E n := by
  obtain ⟨S, q, I, A, f, h⟩ := h0.d
  obtain ⟨c, hr, hv⟩ := h.2.2.2.2.row
  have hc := hr.2.2.1
  have hc12 := hr.2.1
  have hC := h.1.co
  have h1 := h.inn
  exact op_ro h (c_X7_findByName h.1 hr h1.1) (fun F n => c_X8_findByName hc hc12 h1.2.1 h1.1) (fbN_c (fun j hj => (h1.2.2 j hj).symm))
theorem o_load {x : Int32} (h0 : IVo Γ ab mo k0 t E n) : OPk Γ ab mo t MX7_load ["java/lang/IndexOutOfBoundsException", "java/lang/IllegalArgumentException"] MX8_load [.int x] E n := by
  obtain ⟨S, q, I, A, f, h⟩ := h0.d
  obtain ⟨c, hr, hv⟩ := h.2.2.2.2.row
  have hc := hr.2.2.1
  have hc12 := hr.2.1
  have hC := h.1.co
  obtain ⟨h600, hm14, hbt⟩ := h.inn
  by_cases hx : nI 0 ≤ x ∧ x ≤ nI (q_im q)
  · obtain ⟨l, -, hl, rfl⟩ := rng_of (by omega) (by decide) hx
    obtain ⟨s, hI, hv31, hfa⟩ := h.mis.2.2.2.2
    have hT : (txP (q_inp q) l (upd I 19 (nI l)) (z0 s)) = (txP (A 8) l (upd I 19 (nI l)) (z0 s)) := txP_c (fun j hj => hbt j (by omega)) (by omega) hv31 hfa
    have hpv : PV l (txP (A 8) l (upd I 19 (nI l)) (z0 s)).2 := txP_v (by omega) hv31 hfa
    by_cases hft : (txP (A 8) l (upd I 19 (nI l)) (z0 s)).2.2.2.2.2.1 = 0
    · refine op_gen (x := (txP (A 8) l (upd I 19 (nI l)) (z0 s)).1 7) (b := (txP (A 8) l (upd I 19 (nI l)) (z0 s)).1 7) (Z := fun S2 q2 => ∃ (t2 : PT) (lv2 cap2 cnt2 : Nat) (b2 : Nat → Int32) (R2 R3 : Hr) (c2 : Nat), q2 = LDq q l t2 lv2 cap2 cnt2 b2 R2 R3 ∧ t2.1 = 0 ∧ t2.2.1 = -1 ∧ Hok Γ S2 R2 ∧ Rp Γ S2 (txP (A 8) l (upd I 19 (nI l)) (z0 s)).1 c2 R3 ∧ Val 1200000 (txP (A 8) l (upd I 19 (nI l)) (z0 s)).1 c2) h (c_X7_load_ok (J := upd I 19 (nI l)) (s := s) h.1 (h.hw 1 (by decide)) h.mis.1 hl h600 hv31 hfa (by rw [hT]; exact hft)) (fun r E2 n2 z => ?_) (fun F n => by have z := c_X8_load_ok (Γ := Γ) (mo := mo) (F := F) (n := n) (J := I) (s := s) (A := A) (f := f) (e := l) hm14 h600 hl hv31 hfa h.mis.2.2.1 h.i11 hft; rw [← hI] at z; exact z) (fun S2 q2 z F n r E3 n3 y => ?_) rfl
      · rw [hT] at z
        obtain ⟨S2, t2, lv2, cap2, cnt2, b2, R2, R3, c2, rfl, k1, k2, k3, k4, k5, k6, k7, k8, k9, k10, k11⟩ := z
        exact ⟨by rw [k10.2.2.1], S2, _, k3, k4, k5, k6, Or.inl rfl, k8, t2, lv2, cap2, cnt2, b2, R2, R3, c2, rfl, k1, k2, k9, k10, k11⟩
      · obtain ⟨t2, lv2, cap2, cnt2, b2, R2, R3, c2, rfl, k1, k2, k9, k10, k11⟩ := z
        obtain ⟨rfl, rfl, A2, hA, rfl⟩ := y
        refine ⟨rfl, rfl, _, A2, _, rfl, (RV.nxt h.2.2.2.2).lok (by omega) ?_ ?_ ?_ ?_ ?_ ?_ ?_ (PIo.u (PIo.pIk hpv.2.2.2.1 hpv.2.2.2.2.2.1) (by decide)) hA k1 k2 k9 k10 k11, pk_us⟩
        all_goals rw [pk_un (by decide), pI_lt (by decide)]
        · rw [pk_un (by decide), pk_un (by decide), pk_un (by decide), pk_un (by decide), pk_us]
        · rw [pk_un (by decide), pk_un (by decide), pk_un (by decide), pk_us, hft]
        · rw [pk_un (by decide), pk_un (by decide), pk_us]
        · rw [pk_un (by decide), pk_us]
        · rw [pk_us]
        · rw [pk_un (by decide), pk_un (by decide), pk_un (by decide), pk_un (by decide), pk_un (by decide), pk_un (by decide)]
        · rw [pk_un (by decide), pk_un (by decide), pk_un (by decide), pk_un (by decide), pk_un (by decide), pk_un (by decide)]
    · have hc8 : ∀ F n, Ct Γ _ MX8_load 0 0 [.ref mo, .int (nI l)] (MW Γ mo F I A f) n _ X0 := fun F n => by have z := c_X8_load_er (Γ := Γ) (mo := mo) (F := F) (n := n) (J := I) (s := s) (A := A) (f := f) (e := l) hm14 h600 hl hv31 hfa h.mis.2.2.1 h.i11 (by have := hpv.2.2.2.2.1; omega) hft; rw [← hI] at z; exact z
      refine ⟨13, 329, 10174, by decide, by decide, by decide, _, _, c_X7_load_er (J := upd I 19 (nI l)) (s := s) h.1 (h.hw 1 (by decide)) h.mis.1 hl h600 hv31 hfa (by rw [hT]; exact hft), fun _ _ _ z => z.elim, fun y2 E2 n2 z => ?_⟩
      rw [hT] at z
      obtain ⟨rfl, S2, t2, lv2, cap2, cnt2, b2, R2, k1, k2, k3, k4, k5, k6, k7, k8, k9⟩ := z
      obtain ⟨e1, e2, e3⟩ := h.frm (q2 := qC (qP q t2 l lv2 cap2 cnt2 b2 R2) 0 (nI t2.1) t2.2.1) (S2 := S2) k5 k4 k6 (Or.inl rfl) k8
      refine ⟨1, rfl, Pre.of k3 e1 e2 e3 (by decide) hc8 (fun F n r E3 n3 y => ?_)⟩
      obtain ⟨rfl, rfl, A2, hA, rfl⟩ := y
      refine ⟨rfl, ⟨_, rfl, fun z => absurd z (by decide)⟩, _, A2, _, rfl, (RV.nxt h.2.2.2.2).ler ?_ ?_ ?_ ?_ ?_ ?_ ?_ (PIo.u (PIo.pIk hpv.2.2.2.1 hpv.2.2.2.2.2.1) (by decide)) hA k1 k2 k9 k7, pk_us⟩
      all_goals rw [pk_un (by decide), pI_lt (by decide)]
      · rw [pk_un (by decide), pk_un (by decide), pk_un (by decide), pk_us]
      · rw [pk_un (by decide), pk_un (by decide), pk_us]
      · rw [pk_un (by decide), pk_us]
      · rw [pk_un (by decide), pk_un (by decide), pk_un (by decide), pk_un (by decide), pk_un (by decide)]
      · rw [pk_un (by decide), pk_un (by decide), pk_un (by decide), pk_un (by decide), pk_un (by decide)]
      · rw [pk_un (by decide), pk_un (by decide), pk_un (by decide), pk_un (by decide), pk_un (by decide)]
      · rw [pk_us]
  · exact op_no (j := 0) h rfl (Ct.hatN h.1.h1 (c_X7_load_no hC h600 hx)) (fun F n => by obtain ⟨s, hI, hv31, hfa⟩ := h.mis.2.2.2.2; have z := c_X8_load_no (Γ := Γ) (mo := mo) (F := F) (n := n) (J := I) (s := s) (A := A) (f := f) hm14 h600 hx; rw [← hI] at z; exact z)
def OPd (Γ : Gm) (ab mo t : Nat) (M7 M8 : Mr) (E : Hp) (n : Nat) : Prop := ∃ d7 x, d7 ≤ 13 ∧ okD x ∧ CtW Γ d7 M7 0 0 [.ref ab] E n (fun r E2 n2 => r = some (.double x) ∧ Pre Γ ab mo t 0 (KV (.double x)) M8 [] E2 n2) X0
def OPf (Γ : Gm) (ab mo t : Nat) (M7 M8 : Mr) (E : Hp) (n : Nat) : Prop := ∃ d7 x, d7 ≤ 13 ∧ okF x ∧ CtW Γ d7 M7 0 0 [.ref ab] E n (fun r E2 n2 => r = some (.float x) ∧ Pre Γ ab mo t 0 (KV (.float x)) M8 [] E2 n2) X0
theorem o_meanDistance (h0 : IVo Γ ab mo k0 t E n) : OPd Γ ab mo t MX7_meanDistance MX8_meanDistance E n := by
  obtain ⟨S, q, I, A, f, h⟩ := h0.d
  obtain ⟨c, hr, hv⟩ := h.2.2.2.2.row
  have hn : ¬ c = 0 → _ := fun z => (mean_n hv z).1
  refine ⟨8, (if c = 0 then FP.dconst0 else FP.ddiv (FP.i2d (sumD f c)) (FP.i2d (nI c))), by decide, ?_, _, _, Ct.hat h.1.h1 (c_X7_meanDistance h.1.co hr hn), fun r E2 n2 z => ?_, fun _ _ _ z => z.elim⟩
  · by_cases z : c = 0
    · rw [if_pos z]; exact okD_0
    · rw [if_neg z]; exact mean_n hv z
  · obtain ⟨rfl, rfl, rfl⟩ := z
    obtain ⟨h1, h2, h3, h4, h5⟩ := h
    exact ⟨rfl, Pre.of h1 h2 h3 h4 (by decide) (fun F n => c_X8_meanDistance hr.2.2.1 hr.2.1 hn) (fun F n r E3 n3 y => by obtain ⟨rfl, rfl, rfl⟩ := y; exact ⟨rfl, rfl, _, _, _, rfl, (RV.nxt h5).u2, pk_us⟩)⟩
theorem o_rhymingShare (h0 : IVo Γ ab mo k0 t E n) : OPf Γ ab mo t MX7_rhymingShare MX8_rhymingShare E n := by
  obtain ⟨S, q, I, A, f, h⟩ := h0.d
  obtain ⟨c, hr, hv⟩ := h.2.2.2.2.row
  have hn : ¬ c = 0 → _ := fun z => (share_n hv z).1
  refine ⟨8, (if c = 0 then FP.fconst0 else FP.fdiv (FP.i2f (nI (cntR f c))) (FP.i2f (nI c))), by decide, ?_, _, _, Ct.hat h.1.h1 (c_X7_rhymingShare h.1.co hr hn), fun r E2 n2 z => ?_, fun _ _ _ z => z.elim⟩
  · by_cases z : c = 0
    · rw [if_pos z]; exact okF_0
    · rw [if_neg z]; exact share_n hv z
  · obtain ⟨rfl, rfl, rfl⟩ := z
    obtain ⟨h1, h2, h3, h4, h5⟩ := h
    exact ⟨rfl, Pre.of h1 h2 h3 h4 (by decide) (fun F n => c_X8_rhymingShare hr.2.2.1 hr.2.1 hn) (fun F n r E3 n3 y => by obtain ⟨rfl, rfl, rfl⟩ := y; exact ⟨rfl, rfl, _, _, _, rfl, (RV.nxt h5).u2, pk_us⟩)⟩
end GO4
