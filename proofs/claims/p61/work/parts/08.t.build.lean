/-! the law writes its text: rules -/
noncomputable section GBLD
variable {Γ : Gm} {ab ra B D s0 c kp n0 n a cnt d pc ix kc ks l w p q m : Nat} {g0 f b b2 : Nat → Int32} {top : Option (Nat → Int32)} {E : Hp} {M : Mr} {P : Po} {X : Px} {lv : List (Nat × Value)} {rest : List Value}
def HB (Γ : Gm) (ab ra B D s0 : Nat) (g0 f : Nat → Int32) (c kp : Nat) (top : Option (Nat → Int32)) (n0 : Nat) (E : Hp) (n a cnt : Nat) (b : Nat → Int32) : Prop := IW Γ ab ra B D s0 g0 f c kp top E n0 ∧ gB Γ ≤ n0 ∧ n0 ≤ a ∧ n0 ≤ n ∧ ∃ v cap b', SBg Γ E a v cap b' cnt ∧ n0 ≤ v ∧ ∀ j, j < cnt → b' j = b j
theorem hb_next (h : HB Γ ab ra B D s0 g0 f c kp top n0 E n a cnt b) (lk : LkS M.1 ix ML_next 1) (hd : 1 + 1 ≤ d) (hrest : (rest.map fun v => v.category).sum ≤ 8) (dg : decode M.2.2.1 pc = .ok (.invokestatic ix, 3))
    (kk : ∀ (m : Nat) (E2 : Hp), m < 8388608 → HB Γ ab ra B D s0 g0 f c kp top n0 E2 n a cnt b → G Γ d M P X (pc + 3) lv (.int (nI m) :: rest) E2 n kc ks) : G Γ d M P X pc lv (.ref ra :: rest) E n kc ks := by
  obtain ⟨hI, hB, ha, hn, v, cap, b', ⟨⟨ml, hs⟩, hv, h7, hc1, hc2⟩, hv0, hb⟩ := h
  obtain ⟨-, hra, x, hx⟩ := hI.rra
  refine g_invS (kc := kc) (ks := ks) (c_L_next hx) lk rfl hd hrest rfl dg (fun _ _ _ h => h.elim) (fun r E1 n1 h => ?_)
  obtain ⟨rfl, m, y, hm, rfl, rfl⟩ := h
  exact kk m _ hm ⟨hI.fr (fun q _ hq => hset_n hq) ⟨y, hset_s⟩ (Nat.le_refl _), hB, ha, hn, v, cap, b', ⟨⟨ml, (hset_n (by omega)).trans hs⟩, (hset_n (by omega)).trans hv, h7, hc1, hc2⟩, hv0, hb⟩
theorem HB.app {E2 : Hp} {n2 K cnt2 : Nat} {B1 : Nat → Int32} (h : HB Γ ab ra B D s0 g0 f c kp top n0 E n a cnt b) {v cap : Nat} {b' : Nat → Int32} (hS : SBg Γ E a v cap b' cnt) (hv0 : n0 ≤ v) (hq : SBq Γ E n a v K cnt2 B1 E2 n2) (he : ∀ j, j < cnt2 → B1 j = b2 j) : HB Γ ab ra B D s0 g0 f c kp top n0 E2 n2 a cnt2 b2 := by
  obtain ⟨hI, hB, ha, hn, -⟩ := h
  obtain ⟨-, hra, x, hx⟩ := hI.rra
  obtain ⟨v2, cap2, b3, q1, q2, q3, q4, q5, q6⟩ := hq
  exact ⟨hI.fr (fun z z1 z2 => q4 z (by omega) (by omega) (by omega)) ⟨x, (q4 ra (by omega) (by omega) (by omega)).trans hx⟩ (Nat.le_refl _), hB, ha, by omega, v2, cap2, b3, q1, by omega, fun j hj => (q3 j hj).trans (he j hj)⟩
theorem hb_c (h : HB Γ ab ra B D s0 g0 f c kp top n0 E n a cnt b) (hl : l < 128) (hr : cnt + 1 ≤ 382) (lk : LkV M.1 ix MJ4_append_cf468 1) (hd : 8 + 1 ≤ d) (hrest : (rest.map fun v => v.category).sum ≤ 8) (dg : decode M.2.2.1 pc = .ok (.invokevirtual ix, 3))
    (kk : ∀ E2 n2 b2, HB Γ ab ra B D s0 g0 f c kp top n0 E2 n2 a (cnt + 1) b2 → (∀ j, j < cnt → b2 j = b j) → b2 cnt = nI l → G Γ d M P X (pc + 3) lv (.ref a :: rest) E2 n2 kc ks) : G Γ d M P X pc lv (.int (nI l) :: .ref a :: rest) E n (kc + 1) (ks + 382) := by
  obtain ⟨hI, hB, ha, hn, v, cap, b', hS, hv0, hb⟩ := id h
  refine gx_Vr (cg_append_c hS hl hr) lk rfl hS.rcv hd hrest rfl dg (fun _ _ _ h => ⟨_, h.1⟩) (fun r3 E3 n3 hp => ?_)
  obtain ⟨h1, hq⟩ := hp
  cases h1
  refine kk _ _ (upd b cnt (nI l)) (h.app hS hv0 hq (fun j hj => ?_)) (fun j hj => pk_un (by omega)) pk_us
  unfold upd; split
  · rfl
  · exact hb j (by omega)
theorem hb_s {i N : Nat} {qs : String × Nat × String × List Int32} {W : List Nat} (h : HB Γ ab ra B D s0 g0 f c kp top n0 E n a cnt b) (hq : gstrs[i]? = some qs) (hN : qs.2.2.2.length = N) (hW : W.length = N) (hw : ∀ j, j < N → qs.2.2.2.getD j 0 = nI (W.getD j 0) ∧ W.getD j 0 < 128) (hN20 : N ≤ 20) (hr : cnt + N ≤ 382) (lk : LkV M.1 ix MJ4_append_15ec4 1) (hd : 8 + 1 ≤ d) (hrest : (rest.map fun v => v.category).sum ≤ 8) (dg : decode M.2.2.1 pc = .ok (.invokevirtual ix, 3))
    (kk : ∀ E2 n2 b2, HB Γ ab ra B D s0 g0 f c kp top n0 E2 n2 a (cnt + N) b2 → (∀ j, j < cnt → b2 j = b j) → Wd b2 cnt W → G Γ d M P X (pc + 3) lv (.ref a :: rest) E2 n2 kc ks) : G Γ d M P X pc lv (.ref (gK Γ i) :: .ref a :: rest) E n (kc + 1) (ks + 382) := by
  refine G.gv (fun hgv => ?_)
  obtain ⟨hI, hB, ha, hn, v, cap, b', hS, hv0, hb⟩ := id h
  have hlt := hgv i qs hq
  refine gx_Vr (cg_append_s (s := gK Γ i) (w := gV Γ i) (N := N) (t := fun j => qs.2.2.2.getD j 0) hS (Or.inr ⟨i, qs, hq, rfl, rfl⟩) (Or.inr ⟨i, qs, hq, rfl, hN.symm, fun _ _ => rfl⟩) (fun j hj => ⟨_, (hw j hj).2, (hw j hj).1⟩) (by omega) hr hN20) lk rfl hS.rcv hd hrest rfl dg (fun _ _ _ h => ⟨_, h.1⟩) (fun r3 E3 n3 hp => ?_)
  obtain ⟨h1, hq⟩ := hp
  cases h1
  refine kk _ _ (catF b cnt (fun j => qs.2.2.2.getD j 0)) (h.app hS hv0 hq (fun j hj => ?_)) (fun j hj => if_pos hj) (fun j hj => ?_)
  · unfold catF; split
    · exact hb j (by omega)
    · rfl
  · show (if cnt + j < cnt then _ else qs.2.2.2.getD (cnt + j - cnt) 0) = _
    rw [if_neg (by omega), show cnt + j - cnt = j by omega]
    exact (hw j (by omega)).1
theorem gat {i t : Nat} (hi : i < t) : gcS b cnt 0 w t (cnt + i) = nI (48 + w / 10 ^ (t - 1 - i) % 10) := by
  unfold gcS; rw [if_pos rfl]; unfold gcF
  rw [if_pos (by omega), show cnt + (0 + t) - 1 - (cnt + i) = t - 1 - i by omega]
theorem gbe {t j : Nat} (hj : j < cnt) : gcS b cnt 0 w t j = b j := by
  unfold gcS; rw [if_pos rfl]; unfold gcF
  rw [if_neg (by omega)]
theorem dg_at {g : Nat → Int32} {j x : Nat} (h : g j = nI (48 + x % 10)) : dgB g j = true ∧ (g j).toNatClampNeg - 48 = x % 10 := ⟨dg_of h (by omega) (by omega), by rw [h, nI_clamp (by omega)]; omega⟩
theorem dgs_3 {w : Nat} (h : w < 1000) : 1 ≤ sb_dg w ∧ sb_dg w ≤ 3 := by
  by_cases h1 : w < 10
  · rw [sb_dg1 h1]; omega
  · by_cases h2 : w < 100
    · rw [sb_dg2 h1 h2]; omega
    · rw [sb_dg100 (by omega) (by omega), sb_dg1 (by omega)]; omega
theorem nm_gc (hw : w < 1000) (h : b p = nI 32) : Nm (gcS b (p + 1) 0 w (sb_dg w)) p (p + 1 + sb_dg w) w := by
  have h3 := dgs_3 hw
  have hd : ∀ i, i < sb_dg w → dgB (gcS b (p + 1) 0 w (sb_dg w)) (p + 1 + i) = true ∧ (gcS b (p + 1) 0 w (sb_dg w) (p + 1 + i)).toNatClampNeg - 48 = w / 10 ^ (sb_dg w - 1 - i) % 10 := fun i hi => dg_at (gat hi)
  refine ⟨sb_dg w, h3.1, h3.2, rfl, (gbe (by omega)).trans h, fun i hi => (hd i hi).1, ?_⟩
  generalize gcS b (p + 1) 0 w (sb_dg w) = g at hd
  by_cases h1 : w < 10
  · rw [sb_dg1 h1] at hd ⊢
    have a0 := (hd 0 (by decide)).2
    rw [show (1 : Nat) - 1 - 0 = 0 by rfl, Nat.pow_zero, Nat.div_one] at a0
    rw [vlN, vlN, a0]; omega
  · by_cases h2 : w < 100
    · rw [sb_dg2 h1 h2] at hd ⊢
      have a0 := (hd 0 (by decide)).2
      have a1 := (hd 1 (by decide)).2
      rw [show (10 : Nat) ^ (2 - 1 - 0) = 10 by rfl] at a0
      rw [show (10 : Nat) ^ (2 - 1 - 1) = 1 by rfl, Nat.div_one] at a1
      rw [vlN, vlN, vlN, a0, a1]; omega
    · have e3 : sb_dg w = 3 := by rw [sb_dg100 (by omega) (by omega), sb_dg1 (by omega)]
      rw [e3] at hd ⊢
      have a0 := (hd 0 (by decide)).2
      have a1 := (hd 1 (by decide)).2
      have a2 := (hd 2 (by decide)).2
      rw [show (10 : Nat) ^ (3 - 1 - 0) = 100 by rfl] at a0
      rw [show (10 : Nat) ^ (3 - 1 - 1) = 10 by rfl] at a1
      rw [show (10 : Nat) ^ (3 - 1 - 2) = 1 by rfl, Nat.div_one] at a2
      rw [vlN, vlN, vlN, vlN, a0, a1, a2]; omega
theorem iabs_nn (h : w < 2 ^ 31) : iabs (nI w) = nI w := if_neg (nI_pos h)
theorem hb_i (h : HB Γ ab ra B D s0 g0 f c kp top n0 E n a cnt b) (hw : w < 1000) (hr : cnt + 3 ≤ 382) (lk : LkV M.1 ix MJ4_append_bf812 1) (hd : 8 + 1 ≤ d) (hrest : (rest.map fun v => v.category).sum ≤ 8) (dg : decode M.2.2.1 pc = .ok (.invokevirtual ix, 3))
    (kk : ∀ E2 n2 b2 q, q = cnt + sb_dg w → HB Γ ab ra B D s0 g0 f c kp top n0 E2 n2 a q b2 → (∀ j, j < cnt → b2 j = b j) → (∀ p, cnt = p + 1 → b p = nI 32 → Nm b2 p q w) → G Γ d M P X (pc + 3) lv (.ref a :: rest) E2 n2 kc ks) : G Γ d M P X pc lv (.int (nI w) :: .ref a :: rest) E n (kc + 1) (ks + 382) := by
  obtain ⟨hI, hB, ha, hn, v, cap, b', hS, hv0, hb⟩ := id h
  have h3 := dgs_3 hw
  refine gx_Vr (cg_append_i (w := w) (e := 0) hS (iabs_nn (show w < 2 ^ 31 by omega)) (by omega) (if_neg (nI_pos (show w < 2 ^ 31 by omega))).symm (by omega)) lk rfl hS.rcv hd hrest rfl dg (fun _ _ _ h => ⟨_, h.1⟩) (fun r3 E3 n3 hp => ?_)
  obtain ⟨h1, hq⟩ := hp
  cases h1
  have hq2 : SBq Γ E n a v (cnt + (0 + sb_dg w)) (cnt + sb_dg w) (gcS b' cnt 0 w (sb_dg w)) E3 n3 := by rw [Nat.zero_add] at hq ⊢; exact hq
  refine kk _ _ (gcS b cnt 0 w (sb_dg w)) _ rfl (h.app hS hv0 hq2 (fun j hj => ?_)) (fun j hj => gbe hj) (fun p hp h32 => ?_)
  · by_cases z : j < cnt
    · rw [gbe z, gbe z]; exact hb j z
    · obtain ⟨i, rfl⟩ : ∃ i, j = cnt + i := ⟨j - cnt, by omega⟩
      rw [gat (by omega), gat (by omega)]
  · subst hp; exact nm_gc hw h32
/-- the text's parts so far -/
def HdP (b : Nat → Int32) (bb : Nat) : Prop := ∃ a r1 r2, r1 ≤ 50 ∧ r2 ≤ 45 ∧ Wd b 0 [104, 111, 117, 115, 101] ∧ Nm b 5 a r1 ∧ Nm b a bb r2 ∧ Wd b bb [59, 108, 97, 110, 100, 108, 97, 100, 121]
theorem HdP.of {bb : Nat} (he : ∀ j, j < q → b2 j = b j) (hq : bb + 9 ≤ q) (h : HdP b bb) : HdP b2 bb := by
  obtain ⟨a, r1, r2, h1, h2, h3, h4, h5, h6⟩ := h
  have l1 := h4.lt
  have l2 := h5.lt
  exact ⟨a, r1, r2, h1, h2, h3.of (fun j hj => he j (by change j < 0 + 5 at hj; omega)), h4.of (fun j hj => he j (by omega)), h5.of (fun j hj => he j (by omega)), h6.of (fun j hj => he j (by change j < bb + 9 at hj; omega))⟩
def PreP (b : Nat → Int32) (sh i p : Nat) : Prop := ∃ bb d, HdP b bb ∧ Nms b 5 (bb + 9) d ∧ Lods b sh i d p
theorem PreP.of {sh i : Nat} (he : ∀ j, j < q → b2 j = b j) (hq : p ≤ q) (h : PreP b sh i p) : PreP b2 sh i p := by
  obtain ⟨bb, d, h1, h2, h3⟩ := h
  have l2 := h2.lt
  have l3 := h3.lt
  exact ⟨bb, d, h1.of (fun j hj => he j hj) (by omega), h2.of (fun j hj => he j (by omega)), h3.of (fun j hj => he j (by omega))⟩
def LodP (b : Nat → Int32) (k φ p p2 : Nat) : Prop := Wd b p [59, 108, 111, 100, 103, 101, 114, 32] ∧ b (p + 8) = nI (97 + k) ∧ ∃ p1 pay, pay ≤ 999 ∧ Nm b (p + 9) p1 φ ∧ Nm b p1 p2 pay
theorem LodP.of {k φ p2 : Nat} (he : ∀ j, j < q → b2 j = b j) (hq : p2 ≤ q) (h : LodP b k φ p p2) : LodP b2 k φ p p2 := by
  obtain ⟨h1, h2, p1, pay, h3, h4, h5⟩ := h
  have l1 := h4.lt
  have l2 := h5.lt
  exact ⟨h1.of (fun j hj => he j (by change j < p + 8 at hj; omega)), (he _ (by omega)).trans h2, p1, pay, h3, h4.of (fun j hj => he j (by omega)), h5.of (fun j hj => he j (by omega))⟩
theorem LodP.lt {k φ p2 : Nat} (h : LodP b k φ p p2) : p + 10 ≤ p2 := by
  obtain ⟨h1, h2, p1, pay, h3, h4, h5⟩ := h
  have l1 := h4.lt
  have l2 := h5.lt
  omega
theorem PreP.step {sh i p2 : Nat} (h : PreP b sh i p) (h2 : LodP b i ((sh + i / 3) % 5) p p2) (h3 : Nms b 5 p2 q) : PreP b sh (i + 1) q := by
  obtain ⟨bb, d, a1, a2, a3⟩ := h
  obtain ⟨b1, b2, p1, pay, b3, b4, b5⟩ := h2
  exact ⟨bb, d, a1, a2, p, a3, b1, b2, p1, p2, pay, b3, b4, b5, h3⟩
theorem Txt.mk {sh L g e Dd : Nat} (h : PreP b sh L g) (hs : sh < 5) (hw : Wd b g [59, 100, 97, 121, 115]) (h1 : 1 ≤ Dd) (h5 : Dd ≤ 5) (hn : Nm b (g + 5) e Dd) : Txt b e L := by
  obtain ⟨bb, d, ⟨a, r1, r2, c1, c2, c3, c4, c5, c6⟩, a2, a3⟩ := h
  exact ⟨sh, a, bb, d, g, r1, r2, Dd, hs, c1, c2, c3, c4, c5, c6, a2, a3, hw, h1, h5, hn⟩
theorem Txt.of {e L : Nat} (he : ∀ j, j < e → b2 j = b j) (h : Txt b e L) : Txt b2 e L := by
  obtain ⟨sh, a, bb, d, g, r1, r2, Dd, c1, c2, c3, c4, c5, c6, c7, c8, c9, c10, c11, c12, c13⟩ := h
  have l1 := c5.lt
  have l2 := c6.lt
  have l3 := c8.lt
  have l4 := c9.lt
  have l5 := c13.lt
  exact ⟨sh, a, bb, d, g, r1, r2, Dd, c1, c2, c3, c4.of (fun j hj => he j (by change j < 0 + 5 at hj; omega)), c5.of (fun j hj => he j (by omega)), c6.of (fun j hj => he j (by omega)), c7.of (fun j hj => he j (by change j < bb + 9 at hj; omega)), c8.of (fun j hj => he j (by omega)), c9.of (fun j hj => he j (by omega)), c10.of (fun j hj => he j (by change j < g + 5 at hj; omega)), c11, c12, c13.of he⟩
end GBLD
section GBLD2
theorem dgs_1 {w : Nat} (h : w < 10) : sb_dg w = 1 := sb_dg1 h
theorem dgs_2 {w : Nat} (h : w < 100) : 1 ≤ sb_dg w ∧ sb_dg w ≤ 2 := by
  by_cases h1 : w < 10
  · rw [sb_dg1 h1]; omega
  · rw [sb_dg2 h1 h]; omega
end GBLD2
