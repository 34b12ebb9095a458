/-! changes of class and reference (pure) -/
section GCHG
variable {Γ : Gm} {B t ab mo n n2 c s : Nat} {S S2 E E2 : Hp} {q q2 : CQ} {I : Nat → Int32} {A : Nat → Nat → Int32} {f g : Nat → Int32} {P2 R2 : Hr}
theorem up_eq {α : Type} {h : Nat → α} {i : Nat} {x : α} {j : Nat} : up h i x j = if j = i then x else h j := rfl
theorem wf_up {h : Nat → Hr} {i : Nat} (hw : ∀ j, j < 15 → Wf (h j)) (hR : Wf R2) : ∀ j, j < 15 → Wf (up h i R2 j) := fun j hj => by
  rw [up_eq]; split
  · exact hR
  · exact hw j hj
theorem remO_10 {o : Nat → Int32} {j k : Nat} (hj : j < 9) (hk : k < 205) : rowO (remO o f 10) j k = rowO o (j + 1) k := by
  show (if 10 = 10 then cpO (dnO o 1845) f (9 * 205) 205 else cpO o f (10 * 205) 205) (j * 205 + k) = o ((j + 1) * 205 + k)
  rw [if_pos rfl]; unfold cpO; rw [if_neg (by omega)]; unfold dnO; rw [if_pos (by omega)]
  exact congrArg o (by omega)
theorem remO_l {o : Nat → Int32} {m k : Nat} (hm : m ≤ 10) (hk : k < 205) : rowO (remO o f m) (remM m - 1) k = f k := by
  unfold remO remM
  by_cases e : m = 10
  · rw [if_pos e, if_pos e]
    show cpO (dnO o 1845) f (9 * 205) 205 ((10 - 1) * 205 + k) = _
    unfold cpO; rw [if_pos (by omega)]
    exact congrArg f (by omega)
  · rw [if_neg e, if_neg e]
    show cpO o f (m * 205) 205 ((m + 1 - 1) * 205 + k) = _
    rw [Nat.add_sub_cancel]
    unfold cpO; rw [if_pos (by omega)]
    exact congrArg f (by omega)
theorem remO_o {o : Nat → Int32} {m j k : Nat} (hm : m ≠ 10) (hj : j < m) (hk : k < 205) : rowO (remO o f m) j k = rowO o j k := by
  unfold remO
  rw [if_neg hm]
  show cpO o f (m * 205) 205 (j * 205 + k) = o (j * 205 + k)
  unfold cpO
  have h9 : (j + 1) * 205 ≤ m * 205 := Nat.mul_le_mul_right 205 hj
  rw [if_neg (by omega)]
/-- the ring of ten -/
theorem rHi.rem (h : rHi Γ B S q I (A 4)) (hP : RH Γ B S f P2) {I2 : Nat → Int32} (hI : I2 6 = nI (remM (q_kp q))) : rHi Γ B S (qR q P2) I2 (remO (A 4) f (q_kp q)) := by
  obtain ⟨h1, h2, h3, h4⟩ := h
  have hs := rgS_lt (kp := q_kp q) h2
  refine ⟨?_, rgO_lt h2, hI, fun j hj => ?_⟩
  · show remM (q_kp q) ≤ 10
    unfold remM; split <;> omega
  · replace hj : j < remM (q_kp q) := hj
    show RH Γ B S (rowO (remO (A 4) f (q_kp q)) j) (up (q_Q q) (3 + rgS (q_ol q) (q_kp q)) P2 (3 + (rgO (q_ol q) (q_kp q) + j) % 10))
    rw [up_eq]
    by_cases e : j = remM (q_kp q) - 1
    · subst e
      have e2 : 3 + (rgO (q_ol q) (q_kp q) + (remM (q_kp q) - 1)) % 10 = 3 + rgS (q_ol q) (q_kp q) := by
        unfold rgO rgS remM
        by_cases z : q_kp q = 10
        · rw [if_pos z, if_pos z, if_pos z]; omega
        · rw [if_neg z, if_neg z, if_neg z, Nat.add_sub_cancel]
      rw [if_pos e2]
      exact hP.congr (fun k hk => remO_l h1 hk)
    · by_cases z : q_kp q = 10
      · have e0 : remM (q_kp q) = 10 := by unfold remM; rw [if_pos z]
        have e1 : rgO (q_ol q) (q_kp q) = (q_ol q + 1) % 10 := by unfold rgO; rw [if_pos z]
        have e2 : rgS (q_ol q) (q_kp q) = q_ol q := by unfold rgS; rw [if_pos z]
        rw [if_neg (by rw [e1, e2]; omega)]
        have h5 := h4 (j + 1) (by omega)
        rw [show 3 + (rgO (q_ol q) (q_kp q) + j) % 10 = 3 + (q_ol q + (j + 1)) % 10 by rw [e1]; omega]
        exact h5.congr (fun k hk => by rw [z]; exact remO_10 (by omega) hk)
      · have e0 : remM (q_kp q) = q_kp q + 1 := by unfold remM; rw [if_neg z]
        have e1 : rgO (q_ol q) (q_kp q) = q_ol q := by unfold rgO; rw [if_neg z]
        have e2 : rgS (q_ol q) (q_kp q) = (q_ol q + q_kp q) % 10 := by unfold rgS; rw [if_neg z]
        rw [if_neg (by rw [e1, e2]; omega), e1]
        exact (h4 j (by omega)).congr (fun k hk => remO_o z (by omega) hk)
theorem rHi.q1 (h : rHi Γ B S q I f) : rHi Γ B S (qQ q 1 R2) I f := ⟨h.1, h.2.1, h.2.2.1, fun j hj => by
  show RH Γ B S _ (up (q_Q q) 1 R2 (3 + (q_ol q + j) % 10))
  rw [up_n (by omega)]; exact h.2.2.2 j hj⟩
theorem rHi.io {I2 : Nat → Int32} (h : rHi Γ B S q I f) (e : I2 6 = I 6) : rHi Γ B S q I2 f := ⟨h.1, h.2.1, e.trans h.2.2.1, h.2.2.2⟩
theorem rSv.q1 (h : rSv Γ B S q I f) (hq : ∀ s, s < 2 → q_Q q2 (13 + s) = q_Q q (13 + s)) (hz : q_sv q2 = q_sv q) {I2 : Nat → Int32} (e : I2 8 = I 8) : rSv Γ B S q2 I2 f := by
  unfold rSv
  rw [e, hz]
  exact ⟨h.1, fun s hs => by rw [hq s hs]; exact h.2 s hs⟩
/-- remember, then another house -/
theorem RV.rem (h : RV Γ B S q I A f) (hP : Rp Γ S f c P2) (hv : Val B f c) (hr2 : RH Γ B S g R2) : RV Γ B S (qQ (qR q P2) 1 R2) (upd (upd I 6 (nI (remM (q_kp q)))) 2 (nI 0)) (updA A 4 (remO (A 4) f (q_kp q))) g := by
  obtain ⟨h1, h2, h3, h4, h5, h6, h7⟩ := h
  have e : ∀ j, j ≠ 2 → j ≠ 6 → upd (upd I 6 (nI (remM (q_kp q)))) 2 (nI 0) j = I j := fun j a b => by rw [pk_un a, pk_un b]
  refine ⟨⟨h1.1, (e 14 (by decide) (by decide)).trans h1.2.1, h1.2.2⟩, ⟨(e 17 (by decide) (by decide)).trans h2.1, (e 18 (by decide) (by decide)).trans h2.2⟩, ?_, ?_, ?_, ⟨h6.1, (e 16 (by decide) (by decide)).trans h6.2.1, h6.2.2⟩, ?_⟩
  · show RH Γ B S g (up (q_Q (qR q P2)) 1 R2 1)
    rw [up_s]; exact hr2
  · show rHi Γ B S _ _ (remO (A 4) f (q_kp q))
    exact (h4.rem ⟨c, hP, hv⟩ (by rw [pk_un (by decide)]; exact pk_us)).q1
  · exact h5.q1 (q2 := qQ (qR q P2) 1 R2) (fun s hs => by show up (q_Q (qR q P2)) 1 R2 (13 + s) = q_Q q (13 + s); rw [up_n (by omega)]; exact qR_s hs h4.2.1) rfl (e 8 (by decide) (by decide))
  · refine ⟨?_, wf_up (wf_up h7.2.1 hP.1) (by obtain ⟨_, z, -⟩ := hr2; exact z.1), h7.2.2.1, (e 11 (by decide) (by decide)).trans h7.2.2.2.1, (h7.2.2.2.2.u (by decide)).u (by decide)⟩
    show Hok Γ S (up (up (q_Q q) (3 + rgS (q_ol q) (q_kp q)) P2) 1 R2 0)
    rw [up_n (by decide), up_n (by omega)]; exact h7.1
/-- undo -/
theorem RV.undo (h : RV Γ B S q I A f) (hk : 0 < q_kp q) (hr2 : RH Γ B S (rowO (A 4) (q_kp q - 1)) R2) : RV Γ B S (qQ (qH q (q_ol q) (q_kp q - 1)) 1 R2) (upd (upd I 6 (nI (q_kp q - 1))) 2 (nI 0)) A (rowO (A 4) (q_kp q - 1)) := by
  obtain ⟨h1, h2, h3, h4, h5, h6, h7⟩ := h
  have e : ∀ j, j ≠ 2 → j ≠ 6 → upd (upd I 6 (nI (q_kp q - 1))) 2 (nI 0) j = I j := fun j a b => by rw [pk_un a, pk_un b]
  refine ⟨⟨h1.1, (e 14 (by decide) (by decide)).trans h1.2.1, h1.2.2⟩, ⟨(e 17 (by decide) (by decide)).trans h2.1, (e 18 (by decide) (by decide)).trans h2.2⟩, ?_, ?_, ?_, ⟨h6.1, (e 16 (by decide) (by decide)).trans h6.2.1, h6.2.2⟩, ?_⟩
  · show RH Γ B S _ (up (q_Q q) 1 R2 1)
    rw [up_s]; exact hr2
  · have h8 : rHi Γ B S (qH q (q_ol q) (q_kp q - 1)) (upd (upd I 6 (nI (q_kp q - 1))) 2 (nI 0)) (A 4) := ⟨by show q_kp q - 1 ≤ 10; have := h4.1; omega, h4.2.1, by rw [pk_un (by decide)]; exact pk_us, fun j hj => h4.2.2.2 j (by replace hj : j < q_kp q - 1 := hj; omega)⟩
    exact h8.q1
  · exact h5.q1 (q2 := qQ (qH q (q_ol q) (q_kp q - 1)) 1 R2) (fun s hs => by show up (q_Q q) 1 R2 (13 + s) = q_Q q (13 + s); exact up_n (by omega)) rfl (e 8 (by decide) (by decide))
  · refine ⟨?_, wf_up h7.2.1 (by obtain ⟨_, z, -⟩ := hr2; exact z.1), h7.2.2.1, (e 11 (by decide) (by decide)).trans h7.2.2.2.1, (h7.2.2.2.2.u (by decide)).u (by decide)⟩
    show Hok Γ S (up (q_Q q) 1 R2 0)
    rw [up_n (by decide)]; exact h7.1
theorem sv_bits : ∀ b, b < 4 → ∀ s, s < 2 → ∃ b2, b2 < 4 ∧ nI b ||| (nI 1 <<< (nI s &&& 31)) = nI b2 ∧ ∀ r, r < 2 → (nI b2 >>> (nI r &&& 31)) &&& nI 1 = if r = s then nI 1 else (nI b >>> (nI r &&& 31)) &&& nI 1 := by
  have h : ∀ b, b < 4 → ∀ s, s < 2 → (b ||| 2 ^ s < 4) ∧ nI b ||| (nI 1 <<< (nI s &&& 31)) = nI (b ||| 2 ^ s) ∧ ∀ r, r < 2 → (nI (b ||| 2 ^ s) >>> (nI r &&& 31)) &&& nI 1 = if r = s then nI 1 else (nI b >>> (nI r &&& 31)) &&& nI 1 := by decide +kernel
  exact fun b hb s hs => ⟨_, h b hb s hs⟩
/-- save -/
theorem RV.save (h : RV Γ B S q I A f) (hs : s < 2) (hr2 : RH Γ B S f R2) : RV Γ B S (qZ (qQ q (13 + s) R2) (upd (q_sv q) s (nI 1))) (upd (upd I 8 (I 8 ||| (nI 1 <<< (nI s &&& 31)))) 2 (nI 0)) (updA A 5 (cpO (A 5) f (s * 205) 205)) f := by
  obtain ⟨h1, h2, h3, h4, h5, h6, h7⟩ := h
  have e : ∀ j, j ≠ 2 → j ≠ 8 → upd (upd I 8 (I 8 ||| (nI 1 <<< (nI s &&& 31)))) 2 (nI 0) j = I j := fun j a b => by rw [pk_un a, pk_un b]
  refine ⟨⟨h1.1, (e 14 (by decide) (by decide)).trans h1.2.1, h1.2.2⟩, ⟨(e 17 (by decide) (by decide)).trans h2.1, (e 18 (by decide) (by decide)).trans h2.2⟩, ?_, ?_, ?_, ⟨h6.1, (e 16 (by decide) (by decide)).trans h6.2.1, h6.2.2⟩, ?_⟩
  · show RH Γ B S _ (up (q_Q q) (13 + s) R2 1)
    rw [up_n (by omega)]; exact h3
  · refine ⟨h4.1, h4.2.1, (e 6 (by decide) (by decide)).trans h4.2.2.1, fun j hj => ?_⟩
    show RH Γ B S _ (up (q_Q q) (13 + s) R2 (3 + (q_ol q + j) % 10))
    rw [up_n (by omega)]; exact h4.2.2.2 j hj
  · obtain ⟨b, hb, hb8⟩ := h5.1
    obtain ⟨b2, hb2, e2, e3⟩ := sv_bits b hb s hs
    have e8 : upd (upd I 8 (I 8 ||| (nI 1 <<< (nI s &&& 31)))) 2 (nI 0) 8 = nI b2 := by rw [pk_un (by decide), pk_us, hb8, e2]
    refine ⟨⟨b2, hb2, e8⟩, fun r hr => ?_⟩
    rw [e8, e3 r hr]
    show (_ = upd (q_sv q) s (nI 1) r) ∧ (upd (q_sv q) s (nI 1) r = nI 0 ∨ (upd (q_sv q) s (nI 1) r = nI 1 ∧ RH Γ B S (rowO (cpO (A 5) f (s * 205) 205) r) (up (q_Q q) (13 + s) R2 (13 + r))))
    by_cases z : r = s
    · subst z
      rw [if_pos rfl, pk_us, up_s]
      exact ⟨rfl, Or.inr ⟨rfl, hr2.congr (fun k hk => by show cpO (A 5) f (r * 205) 205 (r * 205 + k) = _; unfold cpO; rw [if_pos (by omega)]; exact congrArg f (by omega))⟩⟩
    · rw [if_neg z, pk_un z, up_n (by omega), ← hb8]
      refine ⟨(h5.2 r hr).1, (h5.2 r hr).2.imp id (fun w => ⟨w.1, w.2.congr (fun k hk => ?_)⟩)⟩
      show cpO (A 5) f (s * 205) 205 (r * 205 + k) = A 5 (r * 205 + k)
      unfold cpO
      rw [if_neg (by omega)]
  · refine ⟨?_, wf_up h7.2.1 (by obtain ⟨_, z, -⟩ := hr2; exact z.1), h7.2.2.1, (e 11 (by decide) (by decide)).trans h7.2.2.2.1, (h7.2.2.2.2.u (by decide)).u (by decide)⟩
    show Hok Γ S (up (q_Q q) (13 + s) R2 0)
    rw [up_n (by omega)]; exact h7.1
/-- where class and reference lie -/
theorem IVd.frm (h : IVd Γ ab mo t S q I A f E n) (hF : Frm ab n (q_lv q) (q_ov q) E E2) (hn : n ≤ n2) (hlv : q_lv q2 = q_lv q ∨ n ≤ q_lv q2) (hov : q_ov q2 = q_ov q ∨ n ≤ q_ov q2) (hS : ∀ a v, S2 a = some v → S a = some v ∨ n ≤ a) : E2 = MW Γ mo E2 I A f ∧ (∃ g, E2 (mo + 11) = some (lgE Γ g)) ∧ Sep ab mo n2 S2 q2 := by
  obtain ⟨h1, h2, ⟨g, h3⟩, ⟨s1, s2, s3, s4, s5⟩, -⟩ := h
  have hx : ∀ a, mo ≤ a → a < mo + 12 → E2 a = E a := fun a g1 g2 => hF a (by omega) (by omega) (by omega) (by omega)
  refine ⟨MW_to h2 (fun a g1 g2 => hx a g1 (by omega)), ⟨g, (hx _ (by omega) (by omega)).trans h3⟩, s1, by omega, by omega, by omega, fun a v hv => ?_⟩
  rcases hS a v hv with z | z
  · exact s5 a v z
  · omega
theorem CA.str {x y : va_E} (h : CA Γ ab n S E q) : CA Γ ab (n + 1 + 1) (hset (hset S n x) (n + 1) y) (hset (hset E n x) (n + 1) y) q := by
  have hb := h.bd
  have hx : ∀ a, a < n → hset (hset E n x) (n + 1) y a = E a := fun a ha => (hset_n (by omega)).trans (hset_n (by omega))
  refine ⟨(hx _ (by omega)).trans h.co, (hx _ (by omega)).trans h.ii, h.oo.of (hx _ (by omega)) (hx _ hb.2.2.2.2.2), (hx _ (by omega)).trans h.pp, (hx _ (by omega)).trans h.tt, h.ll.of (hx _ (by omega)) (hx _ hb.2.2.2.2.1), (hx _ (by omega)).trans h.hi, (hx _ (by omega)).trans h.ha, (hx _ (by omega)).trans h.sv, (hx _ (by omega)).trans h.sz, fun i hi j hj => ?_, fun a v hv => ?_, by omega⟩
  · have hr := hh_in (ab := ab) hi
    exact (hx _ (by omega)).trans (h.qq i hi j hj)
  · unfold hset at hv ⊢
    by_cases e1 : a = n + 1
    · rw [if_pos e1] at hv ⊢
      exact ⟨hv, by omega, by omega, by omega, by omega⟩
    · rw [if_neg e1] at hv ⊢
      by_cases e2 : a = n
      · rw [if_pos e2] at hv ⊢
        exact ⟨hv, by omega, by omega, by omega, by omega⟩
      · rw [if_neg e2] at hv ⊢
        have hz := h.st a v hv
        exact ⟨hz.1, hz.2.1, by omega, hz.2.2.2⟩
end GCHG
