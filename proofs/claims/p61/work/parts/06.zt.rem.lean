/-! remembering, letters left (pure) -/
section GREM
variable {Γ : Gm} {ab n i c : Nat} {S E E3 : Hp} {q : CQ} {f : Nat → Int32}
def qR (q : CQ) (P2 : Hr) : CQ := qQ (qH q (rgO (q_ol q) (q_kp q)) (remM (q_kp q))) (3 + rgS (q_ol q) (q_kp q)) P2
theorem rgS_lt {ol kp : Nat} (h : ol < 10) : rgS ol kp < 10 := by unfold rgS; split <;> omega
theorem rgO_lt {ol kp : Nat} (h : ol < 10) : rgO ol kp < 10 := by unfold rgO; split <;> omega
theorem qR_1 {P2 : Hr} (q : CQ) : q_Q (qR q P2) 1 = q_Q q 1 := up_n (by omega)
theorem qR_s {P2 : Hr} {s : Nat} (hs : s < 2) (h : q_ol q < 10) : q_Q (qR q P2) (13 + s) = q_Q q (13 + s) := up_n (by have := rgS_lt (kp := q_kp q) h; omega)
/-- the house f has been laid by -/
def Rem (Γ : Gm) (ab n : Nat) (S E : Hp) (q : CQ) (f : Nat → Int32) (c : Nat) (P2 : Hr) (E3 : Hp) : Prop := CA Γ ab n S E3 (qR q P2) ∧ Rp Γ S f c P2 ∧ Frm ab n (q_lv q) (q_ov q) E E3
theorem rem_of {P2 : Hr} (h : CA Γ ab n S E q) (hol : q_ol q < 10) (hr : Rp Γ S f c P2) : Rem Γ ab n S E q f c P2 (HW Γ (ab + 136 + 42 * rgS (q_ol q) (q_kp q)) (hset E (ab + 134) (.inr (5, [.ref (ab + 135), .int (nI (rgO (q_ol q) (q_kp q))), .int (nI (remM (q_kp q)))]))) P2) := by
  have hs := rgS_lt (kp := q_kp q) hol
  have h1 := (h.setH (ol := rgO (q_ol q) (q_kp q)) (kp := remM (q_kp q))).setQ (i := 3 + rgS (q_ol q) (q_kp q)) (R := P2) (by omega)
  rw [hh_p hs] at h1
  refine ⟨h1, hr, ?_⟩
  have h2 := (Frm.refl (ab := ab) (n := n) (lv := q_lv q) (ov := q_ov q) (E := E)).hset (a := ab + 134) (x := .inr (5, [.ref (ab + 135), .int (nI (rgO (q_ol q) (q_kp q))), .int (nI (remM (q_kp q)))])) (by omega)
  have h3 := h2.hw (Γ := Γ) (i := 3 + rgS (q_ol q) (q_kp q)) (R := P2) (by omega)
  rw [hh_p hs] at h3
  exact h3
theorem Rem.h1 {P2 : Hr} (h : Rem Γ ab n S E q f c P2 E3) : HAt Γ E3 (ab + 50) (q_Q q 1) := by
  have := h.1.h1; rwa [qR_1] at this
theorem Rem.co {P2 : Hr} (h : Rem Γ ab n S E q f c P2 E3) : E3 ab = some (.inr (10, coF ab (q_im q) (q_rk q) (q_ro q))) := h.1.co
/-- a letter is left -/
theorem pig : ∀ (c m : Nat) (g h : Nat → Nat), (∀ i, i < m → ∃ k, k < c ∧ g k = h i) → (∀ i j, i < m → j < m → h i = h j → i = j) → m ≤ c
  | 0, m, g, h, h1, _ => by
    rcases Nat.eq_zero_or_pos m with z | z
    · omega
    · obtain ⟨k, hk, -⟩ := h1 0 z; omega
  | c + 1, m, g, h, h1, h2 => by
    by_cases e : ∃ i, i < m ∧ h i = g c
    · obtain ⟨i0, hi0, e0⟩ := e
      have := pig c (m - 1) g (fun i => if i < i0 then h i else h (i + 1)) (fun i hi => by
        by_cases l : i < i0
        · obtain ⟨k, hk, ek⟩ := h1 i (by omega)
          refine ⟨k, ?_, by show g k = if i < i0 then h i else h (i + 1); rw [if_pos l]; exact ek⟩
          rcases Nat.lt_or_ge k c with y | y
          · exact y
          · obtain rfl : k = c := by omega
            have := h2 i i0 (by omega) hi0 (ek.symm.trans e0.symm); omega
        · obtain ⟨k, hk, ek⟩ := h1 (i + 1) (by omega)
          refine ⟨k, ?_, by show g k = if i < i0 then h i else h (i + 1); rw [if_neg l]; exact ek⟩
          rcases Nat.lt_or_ge k c with y | y
          · exact y
          · obtain rfl : k = c := by omega
            have := h2 (i + 1) i0 (by omega) hi0 (ek.symm.trans e0.symm); omega) (fun i j hi hj e2 => by
        by_cases l : i < i0
        · by_cases l2 : j < i0
          · have e3 : (if i < i0 then h i else h (i + 1)) = (if j < i0 then h j else h (j + 1)) := e2
            rw [if_pos l, if_pos l2] at e3; exact h2 i j (by omega) (by omega) e3
          · have e3 : (if i < i0 then h i else h (i + 1)) = (if j < i0 then h j else h (j + 1)) := e2
            rw [if_pos l, if_neg l2] at e3; have := h2 i (j + 1) (by omega) (by omega) e3; omega
        · by_cases l2 : j < i0
          · have e3 : (if i < i0 then h i else h (i + 1)) = (if j < i0 then h j else h (j + 1)) := e2
            rw [if_neg l, if_pos l2] at e3; have := h2 (i + 1) j (by omega) (by omega) e3; omega
          · have e3 : (if i < i0 then h i else h (i + 1)) = (if j < i0 then h j else h (j + 1)) := e2
            rw [if_neg l, if_neg l2] at e3; have := h2 (i + 1) (j + 1) (by omega) (by omega) e3; omega)
      omega
    · have := pig c m g h (fun i hi => by
        obtain ⟨k, hk, ek⟩ := h1 i hi
        refine ⟨k, ?_, ek⟩
        rcases Nat.lt_or_ge k c with y | y
        · exact y
        · obtain rfl : k = c := by omega
          exact absurd ⟨i, hi, ek.symm⟩ e) h2
      omega
theorem tkB_e {x : Int32} : ∀ c, tkB f x c = true → ∃ k, k < c ∧ f (13 + 16 * k + 10) = x
  | 0, h => by rw [tkB] at h; cases h
  | c + 1, h => by
    rw [tkB, Bool.or_eq_true] at h
    rcases h with h | h
    · obtain ⟨k, hk, e⟩ := tkB_e c h; exact ⟨k, by omega, e⟩
    · exact ⟨c, by omega, (of_decide_eq_true h).1⟩
theorem frL_ok {c : Nat} : ∀ m x, (∃ i, i < m ∧ ¬ tkB f (nI (x + i)) c = true) → ¬ tkB f (nI (frL f c m x)) c = true ∧ frL f c m x < x + m
  | 0, x, h => by obtain ⟨i, hi, -⟩ := h; omega
  | m + 1, x, h => by
    by_cases e : tkB f (nI x) c = true
    · rw [frL_t e]
      obtain ⟨i, hi, h2⟩ := h
      have hi0 : i ≠ 0 := fun z => by subst z; exact h2 e
      have := frL_ok m (x + 1) ⟨i - 1, by omega, by rw [show x + 1 + (i - 1) = x + i by omega]; exact h2⟩
      exact ⟨this.1, by omega⟩
    · rw [frL_f e]; exact ⟨e, by omega⟩
theorem frL_26 {c : Nat} (hc : c ≤ 12) : ¬ tkB f (nI (frL f c 26 97)) c = true ∧ frL f c 26 97 < 123 := by
  refine frL_ok 26 97 ?_
  refine Classical.byContradiction fun hn => ?_
  have h : ∀ i, i < 26 → tkB f (nI (97 + i)) c = true := fun i hi => Classical.byContradiction fun z => hn ⟨i, hi, z⟩
  have := pig c 26 (fun k => (f (13 + 16 * k + 10)).toNatClampNeg) (fun i => 97 + i) (fun i hi => by
    obtain ⟨k, hk, e⟩ := tkB_e c (h i hi)
    exact ⟨k, hk, by show (f (13 + 16 * k + 10)).toNatClampNeg = _; rw [e, nI_clamp (by omega)]⟩) (fun i j _ _ e => by have e2 : 97 + i = 97 + j := e; omega)
  omega
/-- a newcomer with a letter for a name -/
theorem Rp.letter {S2 : Hp} {R : Hr} {s w φ p a : Nat} {y : Nat → Int32} (h : Rp Γ S2 f c R) (hc : c < 12) (hs : SF Γ S2 s w) (hb : BA Γ S2 w 1 y) (hy : y 0 = nI (frL f c 26 97)) : Rp Γ S2 (upd (comF f (nI φ) (nI p) a c) (13 + 16 * c + 10) (nI (frL f c 26 97))) (c + 1) (rcR R s (nI φ) (nI p) a c) := by
  have hl := frL_26 (f := f) (c := c) (by omega)
  have hg := frL_ge (f := f) (c := c) 26 97
  refine h.come hc ⟨w, 1, y, hs, hb, Nat.le_refl 1, by decide, fun i hi => ?_, fun i hi hi6 => ?_⟩ (fun j hj => pk_un (by omega))
  · obtain rfl : i = 0 := by omega
    show y 0 = upd _ (13 + 16 * c + 10) _ (13 + 16 * c + 10 + 0) ∧ ∃ q, 97 ≤ q ∧ q ≤ 122 ∧ upd _ (13 + 16 * c + 10) _ (13 + 16 * c + 10 + 0) = nI q
    rw [Nat.add_zero, pk_us]
    exact ⟨hy, _, hg, by omega, rfl⟩
  · show upd _ (13 + 16 * c + 10) _ (13 + 16 * c + 10 + i) = nI 0
    rw [pk_un (by omega), com_n hi6]
end GREM
