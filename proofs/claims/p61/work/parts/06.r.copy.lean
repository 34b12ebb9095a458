/-! one house copied from another -/
section GCPY
variable {Γ : Gm} {hb ho : Nat} {F : Hp} {R Q : Hr}
/-- two houses lie apart -/
abbrev Apt (hb ho : Nat) : Prop := ho + 42 ≤ hb ∨ hb + 42 ≤ ho
theorem HX {j : Nat} (hq : HAt Γ F ho Q) (hd : Apt hb ho) (hj : j < 42) : HW Γ hb F R (ho + j) = some (hwE Γ ho Q j) := by rw [HW_o (by omega)]; exact hq j hj
theorem HX_h (hq : HAt Γ F ho Q) (hd : Apt hb ho) : HW Γ hb F R ho = some (.inr (6, hoF ho Q.1)) := HX (j := 0) hq hd (by decide)
theorem HX_1 (hq : HAt Γ F ho Q) (hd : Apt hb ho) : HW Γ hb F R (ho + 1) = some (.inr (4, [.ref (ho + 2)])) := HX hq hd (by decide)
theorem HX_2 (hq : HAt Γ F ho Q) (hd : Apt hb ho) : HW Γ hb F R (ho + 2) = some (.inl (gA Γ 0, 5, .inl (hL Q))) := HX hq hd (by decide)
theorem HX_3 (hq : HAt Γ F ho Q) (hd : Apt hb ho) : HW Γ hb F R (ho + 3) = some (.inl (gA Γ 5, 12, .inr (.inr (.inr (.inr (laF ho (hO Q))))))) := HX hq hd (by decide)
theorem HX_l {o : Nat} (hq : HAt Γ F ho Q) (hd : Apt hb ho) (h : o < 12) : HW Γ hb F R (ho + 6 + 3 * o) = some (.inr (7, loF ho o (hN Q o) (hR Q o))) := by
  rw [show ho + 6 + 3 * o = ho + (3 * o + 0 + 6) by omega, HX hq hd (by omega), hwE_l (o := o) (j := 0) (by decide)]; rfl
theorem HX_a {o : Nat} (hq : HAt Γ F ho Q) (hd : Apt hb ho) (h : o < 12) : HW Γ hb F R (ho + 7 + 3 * o) = some (.inr (4, [.ref (ho + 8 + 3 * o)])) := by
  rw [show ho + 7 + 3 * o = ho + (3 * o + 1 + 6) by omega, HX hq hd (by omega), hwE_l (o := o) (j := 1) (by decide)]; rfl
theorem HX_p {o : Nat} (hq : HAt Γ F ho Q) (hd : Apt hb ho) (h : o < 12) : HW Γ hb F R (ho + 8 + 3 * o) = some (.inl (gA Γ 0, 5, .inl (hA Q o))) := by
  rw [show ho + 8 + 3 * o = ho + (3 * o + 2 + 6) by omega, HX hq hd (by omega), hwE_l (o := o) (j := 2) (by decide)]; rfl
def hdR (R Q : Hr) : Hr := sL (sH (sH (sH (sH (sH (sH (sH (sH R 8 (Q.1 8)) 0 (Q.1 0)) 1 (Q.1 1)) 9 (Q.1 9)) 10 (Q.1 10)) 11 (Q.1 11)) 12 (Q.1 12)) 7 (Q.1 7)) (va_cpy (hL Q) (hL R) 0 0 5)
theorem Rq.start {S : Hp} {f : Nat → Int32} {c : Nat} (hw : Wf R) (h : Rp Γ S f c Q) : Rq Γ S f c 0 (hdR R Q) := by
  refine ⟨hw, h.2.1, h.2.2.1, fun j hj hn => ?_, fun v hv => ?_, fun k hk => absurd hk (Nat.not_lt_zero k)⟩
  · rw [← h.d hj hn]
    show upd (upd (upd (upd (upd (upd (upd (upd R.1 8 (Q.1 8)) 0 (Q.1 0)) 1 (Q.1 1)) 9 (Q.1 9)) 10 (Q.1 10)) 11 (Q.1 11)) 12 (Q.1 12)) 7 (Q.1 7) j = Q.1 j
    have : j = 0 ∨ j = 1 ∨ j = 7 ∨ j = 8 ∨ j = 9 ∨ j = 10 ∨ j = 11 ∨ j = 12 := by omega
    rcases this with rfl | rfl | rfl | rfl | rfl | rfl | rfl | rfl <;> rfl
  · rw [← h.lan hv]; exact sb_cpy0 hv
theorem Rq.cnt {S : Hp} {f : Nat → Int32} {c i : Nat} (h : Rq Γ S f c i R) : R.1 7 = nI c := by rw [h.2.2.2.1 7 (by decide) (by decide)]; exact h.2.2.1
theorem HW_cp {i : Nat} (h : hO R i < 12) : hset (hset (HW Γ hb F R) (hb + 6 + 3 * hO R i) (.inr (7, loF hb (hO R i) (hN Q (hO Q i)) (hR Q (hO Q i))))) (hb + 8 + 3 * hO R i) (.inl (gA Γ 0, 5, .inl (va_cpy (hA Q (hO Q i)) (hA R (hO R i)) 0 0 5))) = HW Γ hb F (cpR R Q i (hR Q (hO Q i))) := by
  rw [HW_sl (R := R) (R2 := (R.1, R.2.1, R.2.2.1, R.2.2.2.1, up R.2.2.2.2.1 (hO R i) (hN Q (hO Q i)), up R.2.2.2.2.2.1 (hO R i) (hR Q (hO Q i)), R.2.2.2.2.2.2)) h rfl rfl rfl rfl rfl rfl rfl, HW_sA h]
  rfl
variable {d : Nat} {M : Mr} {P : Po} {X : Px} {pc : Nat} {lv : List (Nat × Value)} {st : List Value} {E : Hp} {n kc ks : Nat}
theorem x_aald {a k : Nat} {g : Nat → Nat} (he : E a = some (.inl (gA Γ 5, 12, .inr (.inr (.inr (.inr (laF ho g))))))) (hk : k < 12) (dg : decode M.2.2.1 pc = .ok (.aaload, 1)) (kk : G Γ d M P X (pc + 1) lv (.ref (ho + 6 + 3 * g k) :: st) E n kc ks) : G Γ d M P X pc lv (.int (nI k) :: .ref a :: st) E n kc ks :=
  g_aald (C := "AccentHouse$Lodger") (t := 5) he rfl (vp_in_nI hk (by decide)) dg (by rw [nI_clamp (by omega)]; exact kk)
end GCPY
