/-! the class's area: what the parser has read -/
section GLDP
variable {Γ : Gm} {ab n n2 e lv2 cap2 cnt2 : Nat} {S E F2 S2 : Hp} {q : CQ} {b2 : Nat → Int32} {t2 : PT} {R2 : Hr}
def qP (q : CQ) (t : PT) (e lv cap cnt : Nat) (b : Nat → Int32) (R : Hr) : CQ := (q.1, q.2.1, q.2.2.1, (t, e, lv, cap, cnt, b), q.2.2.2.2.1, q.2.2.2.2.2.1, up (q_Q q) 0 R)
theorem CA.pst (h : CA Γ ab n S E q) : Pst Γ (ab + 4) E S n (q_lv q) (q_lc q) (q_lb q) (q_lm q) := by
  have hb := h.bd
  exact ⟨h.ll, fun a v ha => ⟨(h.st a v ha).1, (h.st a v ha).2.1, (h.st a v ha).2.2.1, (h.st a v ha).2.2.2.1⟩, by omega, by omega⟩
theorem CA.pw (h : CA Γ ab n S E q) : E = PW Γ (ab + 4) (ab + 1) E (q_te q) (q_t q) (q_Q q 0) := PW_of h.pp h.tt (h.qq 0 (by decide))
theorem CA.setP (h : CA Γ ab n S E q) (hG : Grw (ab + 4) E S n (q_lv q) F2 S2 n2 lv2) (hP : Pst Γ (ab + 4) F2 S2 n2 lv2 cap2 b2 cnt2) (hl : lv2 < n2) : CA Γ ab n2 S2 (PW Γ (ab + 4) (ab + 1) F2 e t2 R2) (qP q t2 e lv2 cap2 cnt2 b2 R2) ∧ Frm ab n (q_lv q) (q_ov q) E (PW Γ (ab + 4) (ab + 1) F2 e t2 R2) := by
  have hb := h.bd
  obtain ⟨g1, g2, g3, g4, g5⟩ := hG
  obtain ⟨p1, p2, p3, p4⟩ := hP
  have key : ∀ a, a < n → ¬ (ab + 4 ≤ a ∧ a < ab + 49) → a ≠ q_lv q → PW Γ (ab + 4) (ab + 1) F2 e t2 R2 a = E a := fun a q1 q2 q4 => by
    rw [PW_o (by omega)]; exact g1 a q1 (by omega) q4
  have k6 : ∀ a, ab ≤ a → a < ab + 642 → ¬ (ab + 4 ≤ a ∧ a < ab + 50) → PW Γ (ab + 4) (ab + 1) F2 e t2 R2 a = E a := fun a q1 q2 q3 => key a (by omega) (by omega) (by omega)
  refine ⟨⟨(k6 _ (by omega) (by omega) (by omega)).trans h.co, (k6 _ (by omega) (by omega) (by omega)).trans h.ii, h.oo.of (k6 _ (by omega) (by omega) (by omega)) (key _ hb.2.2.2.2.2 (by show ¬ (_ ≤ q_ov q ∧ q_ov q < _); omega) (by show q_ov q ≠ q_lv q; omega)), PW_p, PW_t, p1.of (PW_o (by omega)) (PW_o (by omega)), (k6 _ (by omega) (by omega) (by omega)).trans h.hi, (k6 _ (by omega) (by omega) (by omega)).trans h.ha, (k6 _ (by omega) (by omega) (by omega)).trans h.sv, (k6 _ (by omega) (by omega) (by omega)).trans h.sz, fun i hi j hj => ?_, fun a v hv => ?_, ?_⟩, fun a h1 h2 h3 h4 => key a h1 (by omega) h3⟩
  · show _ = some (hwE Γ (hh ab i) (up (q_Q q) 0 R2 i) j)
    by_cases i0 : i = 0
    · subst i0
      rw [up_s, hh_0]
      exact HAt.of (hb := ab + 4 + 1) j hj
    · rw [up_n i0]
      have hr : hh ab i + j < ab + 642 ∧ ab + 50 ≤ hh ab i + j := by
        unfold hh; rw [if_neg i0]; repeat' split
        all_goals omega
      rw [k6 _ (by omega) hr.1 (by omega)]
      exact h.qq i hi j hj
  · obtain ⟨k1, k2, k3, k4⟩ := p2 a v hv
    have k5 : ab + 642 ≤ a := k2
    refine ⟨by rw [PW_o (by omega)]; exact k1, k5, k3, k4, ?_⟩
    show a ≠ q_ov q
    rcases g5 a v hv with z | z
    · exact (h.st a v z).2.2.2.2
    · have := hb.2.2.2.2.2; omega
  · show ab + 642 ≤ n2 ∧ (lv2 = ab + 49 ∨ ab + 642 ≤ lv2) ∧ (q_ov q = ab + 3 ∨ ab + 642 ≤ q_ov q) ∧ lv2 ≠ q_ov q ∧ lv2 < n2 ∧ q_ov q < n2
    omega
theorem Frm.trans {n3 lv ov lv3 ov3 : Nat} {E2 E3 : Hp} (h : Frm ab n lv ov E E2) (h2 : Frm ab n3 lv3 ov3 E2 E3) (hn : n ≤ n3) (hl : lv3 = lv ∨ n ≤ lv3) (ho : ov3 = ov ∨ n ≤ ov3) : Frm ab n lv ov E E3 := fun a g1 g2 g3 g4 => (h2 a (by omega) g2 (by omega) (by omega)).trans (h a g1 g2 g3 g4)
end GLDP
