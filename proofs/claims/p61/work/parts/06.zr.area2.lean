/-! the class's area: changes -/
section GAR2
variable {Γ : Gm} {ab n i : Nat} {S E : Hp} {q : CQ}
theorem CA.co (h : CA Γ ab n S E q) : E ab = some (.inr (10, coF ab (q_im q) (q_rk q) (q_ro q))) := h.1
theorem CA.ii (h : CA Γ ab n S E q) : E (ab + 1) = some (.inl (gA Γ 1, 600, .inl (q_inp q))) := h.2.1
theorem CA.oo (h : CA Γ ab n S E q) : SB Γ E (ab + 2) (q_ov q) (q_oc q) (q_ob q) (q_om q) := h.2.2.1
theorem CA.pp (h : CA Γ ab n S E q) : E (ab + 4) = some (.inr (8, prF (ab + 4) (ab + 1) (q_t q))) := h.2.2.2.1
theorem CA.tt (h : CA Γ ab n S E q) : E (ab + 47) = some (.inr (9, tkF Γ (ab + 1) (ab + 48) (q_te q) (q_t q).2.2.1 (q_t q).2.2.2.1 (q_t q).2.2.2.2)) := h.2.2.2.2.1
theorem CA.ll (h : CA Γ ab n S E q) : SB Γ E (ab + 48) (q_lv q) (q_lc q) (q_lb q) (q_lm q) := h.2.2.2.2.2.1
theorem CA.hi (h : CA Γ ab n S E q) : E (ab + 134) = some (.inr (5, [.ref (ab + 135), .int (nI (q_ol q)), .int (nI (q_kp q))])) := h.2.2.2.2.2.2.1
theorem CA.ha (h : CA Γ ab n S E q) : E (ab + 135) = some (.inl (gA Γ 6, 10, .inr (.inr (.inr (.inr (fun k => some (ab + 136 + 42 * k))))))) := h.2.2.2.2.2.2.2.1
theorem CA.sv (h : CA Γ ab n S E q) : E (ab + 556) = some (.inl (gA Γ 6, 2, .inr (.inr (.inr (.inr (fun k => some (ab + 558 + 42 * k))))))) := h.2.2.2.2.2.2.2.2.1
theorem CA.sz (h : CA Γ ab n S E q) : E (ab + 557) = some (.inl (gA Γ 2, 2, .inl (q_sv q))) := h.2.2.2.2.2.2.2.2.2.1
theorem CA.qq (h : CA Γ ab n S E q) : ∀ i, i < 15 → HAt Γ E (hh ab i) (q_Q q i) := h.2.2.2.2.2.2.2.2.2.2.1
theorem CA.st (h : CA Γ ab n S E q) : ∀ a v, S a = some v → E a = some v ∧ ab + 642 ≤ a ∧ a < n ∧ a ≠ q_lv q ∧ a ≠ q_ov q := h.2.2.2.2.2.2.2.2.2.2.2.1
theorem CA.bd (h : CA Γ ab n S E q) : ab + 642 ≤ n ∧ (q_lv q = ab + 49 ∨ ab + 642 ≤ q_lv q) ∧ (q_ov q = ab + 3 ∨ ab + 642 ≤ q_ov q) ∧ q_lv q ≠ q_ov q ∧ q_lv q < n ∧ q_ov q < n := h.2.2.2.2.2.2.2.2.2.2.2.2
theorem CA.h1 (h : CA Γ ab n S E q) : HAt Γ E (ab + 50) (q_Q q 1) := h.qq 1 (by decide)
theorem CA.h2 (h : CA Γ ab n S E q) : HAt Γ E (ab + 92) (q_Q q 2) := h.qq 2 (by decide)
theorem CA.hp {j : Nat} (h : CA Γ ab n S E q) (hj : j < 10) : HAt Γ E (ab + 136 + 42 * j) (q_Q q (3 + j)) := by
  have := h.qq (3 + j) (by omega); rwa [hh_p hj] at this
theorem CA.hs {j : Nat} (h : CA Γ ab n S E q) (hj : j < 2) : HAt Γ E (ab + 558 + 42 * j) (q_Q q (13 + j)) := by
  have := h.qq (13 + j) (by omega); rwa [hh_s hj] at this
theorem CA.le (h : CA Γ ab n S E q) : ∀ a, Le S E a := fun a v hv => (h.st a v hv).1
/-- one house changes -/
def qQ (q : CQ) (i : Nat) (R : Hr) : CQ := (q.1, q.2.1, q.2.2.1, q.2.2.2.1, q.2.2.2.2.1, q.2.2.2.2.2.1, up (q_Q q) i R)
theorem CA.setQ {R : Hr} (h : CA Γ ab n S E q) (hi : i < 15) : CA Γ ab n S (HW Γ (hh ab i) E R) (qQ q i R) := by
  have hr := hh_in (ab := ab) hi
  have hb := h.bd
  have hx : ∀ a, a ≠ ab + 50 → (a < ab + 5 ∨ a = ab + 47 ∨ a = ab + 48 ∨ a = ab + 49 ∨ a = ab + 134 ∨ a = ab + 135 ∨ a = ab + 556 ∨ a = ab + 557 ∨ ab + 642 ≤ a) → HW Γ (hh ab i) E R a = E a := fun a _ ha => HW_o (by
    unfold hh; repeat' split
    all_goals omega)
  refine ⟨(hx _ (by omega) (by omega)).trans h.co, (hx _ (by omega) (by omega)).trans h.ii, h.oo.of (hx _ (by omega) (by omega)) (hx _ (by show q_ov q ≠ _; omega) (by show q_ov q < _ ∨ _; omega)), (hx _ (by omega) (by omega)).trans h.pp, (hx _ (by omega) (by omega)).trans h.tt, h.ll.of (hx _ (by omega) (by omega)) (hx _ (by show q_lv q ≠ _; omega) (by show q_lv q < _ ∨ _; omega)), (hx _ (by omega) (by omega)).trans h.hi, (hx _ (by omega) (by omega)).trans h.ha, (hx _ (by omega) (by omega)).trans h.sv, (hx _ (by omega) (by omega)).trans h.sz, fun j hj k hk => ?_, fun a v hv => ?_, hb⟩
  · show _ = some (hwE Γ (hh ab j) (up (q_Q q) i R j) k)
    by_cases e : j = i
    · subst e; rw [up_s]; exact HAt.of k hk
    · rw [up_n e]
      have hp := hh_apt (ab := ab) hj hi e
      unfold Apt at hp
      rw [HW_o (by omega)]; exact h.qq j hj k hk
  · have hs := h.st a v hv
    exact ⟨(hx a (by omega) (by omega)).trans hs.1, hs.2⟩
/-- one cell changes -/
theorem CA.cell {a : Nat} {x : va_E} (hb : a ≠ q_lv q ∧ a ≠ q_ov q) (ha : ab ≤ a ∧ a < ab + 642) (hq : ∀ i, i < 15 → ¬ (hh ab i ≤ a ∧ a < hh ab i + 42)) (h : CA Γ ab n S E q) : (∀ i, i < 15 → HAt Γ (hset E a x) (hh ab i) (q_Q q i)) ∧ (∀ b v, S b = some v → hset E a x b = some v ∧ ab + 642 ≤ b ∧ b < n ∧ b ≠ q_lv q ∧ b ≠ q_ov q) := by
  refine ⟨fun i hi k hk => ?_, fun b v hv => ?_⟩
  · have := hq i hi
    exact (hset_n (by omega)).trans (h.qq i hi k hk)
  · have hs := h.st b v hv
    exact ⟨(hset_n (by omega)).trans hs.1, hs.2⟩
theorem hh_not {a : Nat} (ha : a < ab + 5 ∨ a = ab + 47 ∨ a = ab + 48 ∨ a = ab + 49 ∨ a = ab + 134 ∨ a = ab + 135 ∨ a = ab + 556 ∨ a = ab + 557) (i : Nat) (hi : i < 15) : ¬ (hh ab i ≤ a ∧ a < hh ab i + 42) := by
  unfold hh; repeat' split
  all_goals omega
def qC (q : CQ) (im : Nat) (rk ro : Int32) : CQ := ((im, rk, ro), q.2)
theorem CA.setC {im : Nat} {rk ro : Int32} (h : CA Γ ab n S E q) : CA Γ ab n S (hset E ab (.inr (10, coF ab im rk ro))) (qC q im rk ro) := by
  have hb := h.bd
  have hc := CA.cell (a := ab) (x := .inr (10, coF ab im rk ro)) (by omega) (by omega) (hh_not (by omega)) h
  exact ⟨hset_s, (hset_n (by omega)).trans h.ii, h.oo.of (hset_n (by omega)) (hset_n (by omega)), (hset_n (by omega)).trans h.pp, (hset_n (by omega)).trans h.tt, h.ll.of (hset_n (by omega)) (hset_n (by omega)), (hset_n (by omega)).trans h.hi, (hset_n (by omega)).trans h.ha, (hset_n (by omega)).trans h.sv, (hset_n (by omega)).trans h.sz, hc.1, hc.2, hb⟩
def qI (q : CQ) (inp : Nat → Int32) : CQ := (q.1, inp, q.2.2)
theorem CA.setI {inp : Nat → Int32} (h : CA Γ ab n S E q) : CA Γ ab n S (hset E (ab + 1) (.inl (gA Γ 1, 600, .inl inp))) (qI q inp) := by
  have hb := h.bd
  have hc := CA.cell (a := ab + 1) (x := .inl (gA Γ 1, 600, .inl inp)) (by omega) (by omega) (hh_not (by omega)) h
  exact ⟨(hset_n (by omega)).trans h.co, hset_s, h.oo.of (hset_n (by omega)) (hset_n (by omega)), (hset_n (by omega)).trans h.pp, (hset_n (by omega)).trans h.tt, h.ll.of (hset_n (by omega)) (hset_n (by omega)), (hset_n (by omega)).trans h.hi, (hset_n (by omega)).trans h.ha, (hset_n (by omega)).trans h.sv, (hset_n (by omega)).trans h.sz, hc.1, hc.2, hb⟩
def qH (q : CQ) (ol kp : Nat) : CQ := (q.1, q.2.1, q.2.2.1, q.2.2.2.1, (ol, kp), q.2.2.2.2.2)
theorem CA.setH {ol kp : Nat} (h : CA Γ ab n S E q) : CA Γ ab n S (hset E (ab + 134) (.inr (5, [.ref (ab + 135), .int (nI ol), .int (nI kp)]))) (qH q ol kp) := by
  have hb := h.bd
  have hc := CA.cell (a := ab + 134) (x := .inr (5, [.ref (ab + 135), .int (nI ol), .int (nI kp)])) (by omega) (by omega) (hh_not (by omega)) h
  exact ⟨(hset_n (by omega)).trans h.co, (hset_n (by omega)).trans h.ii, h.oo.of (hset_n (by omega)) (hset_n (by omega)), (hset_n (by omega)).trans h.pp, (hset_n (by omega)).trans h.tt, h.ll.of (hset_n (by omega)) (hset_n (by omega)), hset_s, (hset_n (by omega)).trans h.ha, (hset_n (by omega)).trans h.sv, (hset_n (by omega)).trans h.sz, hc.1, hc.2, hb⟩
def qZ (q : CQ) (sv : Nat → Int32) : CQ := (q.1, q.2.1, q.2.2.1, q.2.2.2.1, q.2.2.2.2.1, sv, q.2.2.2.2.2.2)
theorem CA.setZ {sv : Nat → Int32} (h : CA Γ ab n S E q) : CA Γ ab n S (hset E (ab + 557) (.inl (gA Γ 2, 2, .inl sv))) (qZ q sv) := by
  have hb := h.bd
  have hc := CA.cell (a := ab + 557) (x := .inl (gA Γ 2, 2, .inl sv)) (by omega) (by omega) (hh_not (by omega)) h
  exact ⟨(hset_n (by omega)).trans h.co, (hset_n (by omega)).trans h.ii, h.oo.of (hset_n (by omega)) (hset_n (by omega)), (hset_n (by omega)).trans h.pp, (hset_n (by omega)).trans h.tt, h.ll.of (hset_n (by omega)) (hset_n (by omega)), (hset_n (by omega)).trans h.hi, (hset_n (by omega)).trans h.ha, (hset_n (by omega)).trans h.sv, hset_s, hc.1, hc.2, hb⟩
/-- frames -/
theorem Frm.refl {lv ov : Nat} : Frm ab n lv ov E E := fun _ _ _ _ _ => rfl
theorem Frm.hw {lv ov : Nat} {E2 : Hp} {R : Hr} (h : Frm ab n lv ov E E2) (hi : i < 15) : Frm ab n lv ov E (HW Γ (hh ab i) E2 R) := fun a h1 h2 h3 h4 => by
  have hr := hh_in (ab := ab) hi
  rw [HW_o (by omega)]; exact h a h1 h2 h3 h4
theorem Frm.hset {lv ov a : Nat} {E2 : Hp} {x : va_E} (h : Frm ab n lv ov E E2) (ha : ab ≤ a ∧ a < ab + 642) : Frm ab n lv ov E (hset E2 a x) := fun b h1 h2 h3 h4 => (hset_n (by omega)).trans (h b h1 h2 h3 h4)
end GAR2
