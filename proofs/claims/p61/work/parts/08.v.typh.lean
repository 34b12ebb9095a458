/-! the law types its text: words and bytes -/
noncomputable section GTYH
def sh8 (w : Int32) (b : Nat) : Int32 := (w <<< (nI 8 &&& 31)) ||| nI b
theorem nI_bv {b i : Nat} (hi : i < 32) : (nI b).toBitVec.getLsbD i = b.testBit i := by
  show (BitVec.ofNat 32 b).getLsbD i = _
  rw [BitVec.getLsbD_ofNat, decide_eq_true hi, Bool.true_and]
theorem sh8_bit {w : Int32} {b i : Nat} (hb : b < 128) (hi : i < 32) : (sh8 w b).toBitVec.getLsbD i = if i < 8 then b.testBit i else w.toBitVec.getLsbD (i - 8) := by
  have e0 : (nI 8 &&& 31).toBitVec.smod 32 = 8#32 := by decide +kernel
  unfold sh8
  rw [Int32.toBitVec_or, Int32.toBitVec_shiftLeft, e0, BitVec.getLsbD_or, BitVec.shiftLeft_eq', BitVec.getLsbD_shiftLeft, nI_bv hi, show (8#32).toNat = 8 from rfl]
  by_cases h : i < 8
  · rw [if_pos h, decide_eq_true hi, decide_eq_true h]; simp
  · have h2 : b.testBit i = false := Nat.testBit_lt_two_pow (Nat.lt_of_lt_of_le hb (Nat.le_trans (show 128 ≤ 2 ^ 8 by decide) (Nat.pow_le_pow_right (by decide) (by omega))))
    rw [if_neg h, h2, decide_eq_true hi, decide_eq_false h]; simp
theorem byt_s {w : Int32} {b k k2 : Nat} {y y2 : Int32} (hb : b < 128) (hy : ((y &&& 31).toBitVec.smod 32).toNat = k) (hy2 : ((y2 &&& 31).toBitVec.smod 32).toNat = k2) (hk : k = k2 + 8) (hk2 : k2 ≤ 16) : (sh8 w b >>> (y &&& 31)).toInt8.toInt32 = (w >>> (y2 &&& 31)).toInt8.toInt32 := by
  have e : (sh8 w b >>> (y &&& 31)).toInt8 = (w >>> (y2 &&& 31)).toInt8 := by
    apply Int8.toBitVec_inj.mp
    rw [Int32.toBitVec_toInt8, Int32.toBitVec_toInt8, Int32.toBitVec_shiftRight, Int32.toBitVec_shiftRight]
    apply BitVec.eq_of_getLsbD_eq
    intro i hi
    rw [BitVec.getLsbD_signExtend, BitVec.getLsbD_signExtend, if_pos (by omega), if_pos (by omega), BitVec.sshiftRight', BitVec.sshiftRight', hy, hy2, BitVec.getLsbD_sshiftRight, BitVec.getLsbD_sshiftRight]
    rw [if_pos (by omega), if_pos (by omega), sh8_bit hb (by omega), if_neg (by omega), show k + i - 8 = k2 + i by omega]
  rw [e]
theorem shr0 {w : Int32} : w >>> (nI 0 &&& 31) = w := by
  apply Int32.toBitVec_inj.mp
  have e0 : (nI 0 &&& 31).toBitVec.smod 32 = 0#32 := by decide +kernel
  rw [Int32.toBitVec_shiftRight, e0]
  apply BitVec.eq_of_getLsbD_eq
  intro i hi
  rw [BitVec.sshiftRight', BitVec.getLsbD_sshiftRight]
  simp [hi]
theorem byt_3 {w : Int32} {b : Nat} (hb : b < 128) : byt (sh8 w b) 3 = nI b := by
  show (sh8 w b).toInt8.toInt32 = _
  have e : (sh8 w b).toInt8 = (nI b).toInt8 := by
    apply Int8.toBitVec_inj.mp
    rw [Int32.toBitVec_toInt8, Int32.toBitVec_toInt8]
    apply BitVec.eq_of_getLsbD_eq
    intro i hi
    rw [BitVec.getLsbD_signExtend, BitVec.getLsbD_signExtend, if_pos (by omega), if_pos (by omega), sh8_bit hb (by omega), if_pos hi, nI_bv (by omega)]
  rw [e]; exact (a7_all b hb).2.1
theorem byt_r {w : Int32} {b : Nat} (hb : b < 128) : ∀ r, r < 3 → byt (sh8 w b) r = byt w (r + 1)
  | 0, _ => byt_s (k := 24) (k2 := 16) hb (by decide +kernel) (by decide +kernel) rfl (by decide)
  | 1, _ => byt_s (k := 16) (k2 := 8) hb (by decide +kernel) (by decide +kernel) rfl (by decide)
  | 2, _ => by
    have h := byt_s (w := w) (y := nI 8) (y2 := nI 0) (k := 8) (k2 := 0) hb (by decide +kernel) (by decide +kernel) rfl (by decide)
    rw [shr0] at h; exact h
  | r + 3, h => absurd h (by omega)
/-- the words behind q letters from k on -/
def tyV (V : Nat → Int32) (T : Nat → Nat) (k : Nat) : Nat → Nat → Int32
  | 0 => V
  | q + 1 => upd (tyV V T k q) (q / 4) (sh8 (tyV V T k q (q / 4)) (T (k + q)))
variable {V g b : Nat → Int32} {T : Nat → Nat} {k m j r : Nat}
theorem tyV_hi {j : Nat} : ∀ d, tyV V T k (4 * j + 4 + d) j = tyV V T k (4 * j + 4) j
  | 0 => rfl
  | d + 1 => by
    show upd (tyV V T k (4 * j + 4 + d)) ((4 * j + 4 + d) / 4) _ j = _
    rw [pk_un (by omega), tyV_hi d]
theorem tyV_4 {j : Nat} : tyV V T k (4 * j + 4) j = sh8 (sh8 (sh8 (sh8 (tyV V T k (4 * j) j) (T (k + 4 * j))) (T (k + (4 * j + 1)))) (T (k + (4 * j + 2)))) (T (k + (4 * j + 3))) := by
  have s : ∀ i, i < 4 → tyV V T k (4 * j + i + 1) j = sh8 (tyV V T k (4 * j + i) j) (T (k + (4 * j + i))) := fun i hi => by
    show upd (tyV V T k (4 * j + i)) ((4 * j + i) / 4) _ j = _
    rw [show (4 * j + i) / 4 = j by omega, pk_us]
  have s0 := s 0 (by decide)
  have s1 := s 1 (by decide)
  have s2 := s 2 (by decide)
  have s3 := s 3 (by decide)
  rw [show 4 * j + 4 = 4 * j + 3 + 1 from rfl, s3, show 4 * j + 3 = 4 * j + 2 + 1 from rfl, s2, show 4 * j + 2 = 4 * j + 1 + 1 from rfl, s1, show 4 * j + 1 = 4 * j + 0 + 1 from rfl, s0]
  rfl
theorem tyV_b (hT : ∀ j, T j < 128) (hj : j < 5) : ∀ r, r < 4 → byt (tyV V T k 20 j) r = nI (T (k + (4 * j + r))) := fun r hr => by
  have e : tyV V T k 20 j = tyV V T k (4 * j + 4) j := by
    have := tyV_hi (V := V) (T := T) (k := k) (j := j) (16 - 4 * j)
    rw [show 4 * j + 4 + (16 - 4 * j) = 20 by omega] at this; exact this
  rw [e, tyV_4]
  match r, hr with
  | 0, _ => rw [byt_r (hT _) 0 (by decide), byt_r (hT _) 1 (by decide), byt_r (hT _) 2 (by decide), byt_3 (hT _)]; rfl
  | 1, _ => rw [byt_r (hT _) 1 (by decide), byt_r (hT _) 2 (by decide), byt_3 (hT _)]
  | 2, _ => rw [byt_r (hT _) 2 (by decide), byt_3 (hT _)]
  | 3, _ => rw [byt_3 (hT _)]
theorem fdF_at {w : Int32} : ∀ r, r < 4 → fdF g m w (m + r) = byt w r
  | 0, _ => by unfold fdF; rw [pk_un (by omega), pk_un (by omega), pk_un (by omega)]; exact pk_us
  | 1, _ => by unfold fdF; rw [pk_un (by omega), pk_un (by omega)]; exact pk_us
  | 2, _ => by unfold fdF; rw [pk_un (by omega)]; exact pk_us
  | 3, _ => by unfold fdF; exact pk_us
  | r + 4, h => absurd h (by omega)
theorem fdF_lt {w : Int32} (h : j < m) : fdF g m w j = g j := by
  unfold fdF; rw [pk_un (by omega), pk_un (by omega), pk_un (by omega), pk_un (by omega)]
theorem fd5_lt {a c d e f : Int32} (h : j < m) : fd5 g m a c d e f j = g j := by
  unfold fd5; rw [fdF_lt (by omega), fdF_lt (by omega), fdF_lt (by omega), fdF_lt (by omega), fdF_lt h]
theorem fd5_at {W : Nat → Int32} (r : Nat) (hr : r < 4) : ∀ j, j < 5 → fd5 g m (W 0) (W 1) (W 2) (W 3) (W 4) (m + (4 * j + r)) = byt (W j) r
  | 0, _ => by unfold fd5; rw [fdF_lt (by omega), fdF_lt (by omega), fdF_lt (by omega), fdF_lt (by omega), show m + (4 * 0 + r) = m + r by omega, fdF_at r hr]
  | 1, _ => by unfold fd5; rw [fdF_lt (by omega), fdF_lt (by omega), fdF_lt (by omega), show m + (4 * 1 + r) = m + 4 + r by omega, fdF_at r hr]
  | 2, _ => by unfold fd5; rw [fdF_lt (by omega), fdF_lt (by omega), show m + (4 * 2 + r) = m + 4 + 4 + r by omega, fdF_at r hr]
  | 3, _ => by unfold fd5; rw [fdF_lt (by omega), show m + (4 * 3 + r) = m + 4 + 4 + 4 + r by omega, fdF_at r hr]
  | 4, _ => by unfold fd5; rw [show m + (4 * 4 + r) = m + 4 + 4 + 4 + 4 + r by omega, fdF_at r hr]
  | j + 5, h => absurd h (by omega)
theorem ty_app (hT : ∀ j, T j < 128) (hg : ∀ j, j < k → g j = nI (T j)) : ∀ j, j < k + 20 → fd5 g k (tyV V T k 20 0) (tyV V T k 20 1) (tyV V T k 20 2) (tyV V T k 20 3) (tyV V T k 20 4) j = nI (T j) := fun j hj => by
  by_cases z : j < k
  · rw [fd5_lt z]; exact hg j z
  · have h := fd5_at (g := g) (m := k) (W := tyV V T k 20) ((j - k) % 4) (by omega) ((j - k) / 4) (by omega)
    rw [tyV_b hT (by omega) _ (by omega), show k + (4 * ((j - k) / 4) + (j - k) % 4) = j by omega] at h
    exact h
/-- the text's letters, and spaces behind them -/
def tyT (t : Nat → Int32) (e j : Nat) : Nat := if j < e then (t j).toNatClampNeg else 32
theorem tyT_b {t : Nat → Int32} {e : Nat} (h : A7 t e) (j : Nat) : tyT t e j < 128 := by
  unfold tyT; split
  · obtain ⟨l, hl, e2⟩ := h j (by assumption)
    rw [e2, nI_clamp (by omega)]; exact hl
  · decide
theorem tyT_lo {t : Nat → Int32} {e : Nat} (h : A7 t e) (hj : j < e) : t j = nI (tyT t e j) ∧ chr (t j &&& nI 255) = nI (tyT t e j) := by
  unfold tyT; rw [if_pos hj]
  obtain ⟨l, hl, e2⟩ := h j hj
  rw [e2, nI_clamp (by omega)]
  exact ⟨rfl, (a7_all l hl).2.2.1⟩
theorem tyT_hi {t : Nat → Int32} {e : Nat} (hj : e ≤ j) : nI 32 = nI (tyT t e j) := by unfold tyT; rw [if_neg (by omega)]
end GTYH
section GIT
variable {Γ : Gm} {ab ra B D s0 c kp n n2 m e : Nat} {g0 f t : Nat → Int32} {top : Option (Nat → Int32)} {S E E2 : Hp} {q : CQ} {T : Nat → Nat}
/-- the class while the law types -/
def IT (Γ : Gm) (ab ra B : Nat) (f : Nat → Int32) (T : Nat → Nat) (m : Nat) (E : Hp) (n : Nat) : Prop := ∃ S q I A, CA Γ ab n S E q ∧ RV Γ B S q I A f ∧ q_im q = m ∧ (∀ j, j < m → q_inp q j = nI (T j)) ∧ ab + 642 ≤ ra ∧ ra < n ∧ ra ≠ q_lv q ∧ ra ≠ q_ov q ∧ S ra = none ∧ ∃ x, E ra = some (.inl (gA Γ 0, 1, .inl x))
theorem IW.it (h : IW Γ ab ra B D s0 g0 f c kp top E n) : IT Γ ab ra B f T 0 E n := by
  obtain ⟨S, q, I, A, h1, h2, h3, h4, h5, h6, h7⟩ := h
  exact ⟨S, q, I, A, h1, h2, h7.1.1, fun j hj => absurd hj (Nat.not_lt_zero j), h7.1.2, h7.2⟩
theorem CA.fr2 (h : CA Γ ab n S E q) (o1 : ab + 642 ≤ ra) (o3 : ra ≠ q_lv q) (o4 : ra ≠ q_ov q) (o5 : S ra = none) (e : ∀ a, a < n → a ≠ ra → E2 a = E a) (hn : n ≤ n2) : CA Γ ab n2 S E2 q := by
  have hb := h.bd
  have hx : ∀ a, a < ab + 642 → E2 a = E a := fun a ha => e a (by omega) (by omega)
  refine ⟨(hx _ (by omega)).trans h.co, (hx _ (by omega)).trans h.ii, h.oo.of (hx _ (by omega)) (e _ hb.2.2.2.2.2 (fun z => o4 z.symm)), (hx _ (by omega)).trans h.pp, (hx _ (by omega)).trans h.tt, h.ll.of (hx _ (by omega)) (e _ hb.2.2.2.2.1 (fun z => o3 z.symm)), (hx _ (by omega)).trans h.hi, (hx _ (by omega)).trans h.ha, (hx _ (by omega)).trans h.sv, (hx _ (by omega)).trans h.sz, fun i hi j hj => ?_, fun a v hv => ?_, by omega⟩
  · have hr := hh_in (ab := ab) hi
    exact (hx _ (by omega)).trans (h.qq i hi j hj)
  · have hz := h.st a v hv
    exact ⟨(e a hz.2.2.1 (fun y => by rw [y, o5] at hv; cases hv)).trans hz.1, hz.2.1, by omega, hz.2.2.2⟩
theorem IT.fr (h : IT Γ ab ra B f T m E n) (e : ∀ a, a < n → E2 a = E a) (hn : n ≤ n2) : IT Γ ab ra B f T m E2 n2 := by
  obtain ⟨S, q, I, A, h1, h2, h3, h4, o1, o2, o3, o4, o5, x, o6⟩ := h
  exact ⟨S, q, I, A, h1.fr2 o1 o3 o4 o5 (fun a ha _ => e a ha) hn, h2, h3, h4, o1, by omega, o3, o4, o5, x, (e ra o2).trans o6⟩
theorem IT.app {I V : Nat → Int32} {A : Nat → Nat → Int32} {k : Nat} (hCA : CA Γ ab n S E q) (hRV : RV Γ B S q I A f) (him : q_im q = k) (hin : ∀ j, j < k → q_inp q j = nI (T j)) (o1 : ab + 642 ≤ ra) (o2 : ra < n) (o3 : ra ≠ q_lv q) (o4 : ra ≠ q_ov q) (o5 : S ra = none) {x : Nat → Int32} (o6 : E ra = some (.inl (gA Γ 0, 1, .inl x))) (hT : ∀ j, T j < 128) (h600 : q_im q + 20 ≤ 600) : IT Γ ab ra B f T (k + 20) (WA Γ ab E (q_im q + 4 + 4 + 4 + 4 + 4) (q_rk q) (q_ro q) (fd5 (q_inp q) (q_im q) (tyV V T k 20 0) (tyV V T k 20 1) (tyV V T k 20 2) (tyV V T k 20 3) (tyV V T k 20 4))) n := by
  refine ⟨S, _, _, _, hCA.setWA, hRV.app h600, by show q_im q + 4 + 4 + 4 + 4 + 4 = _; omega, fun j hj => ?_, o1, o2, o3, o4, o5, x, ((hset_n (by omega)).trans (hset_n (by omega))).trans o6⟩
  show fd5 (q_inp q) (q_im q) _ _ _ _ _ j = _
  rw [him]
  exact ty_app hT hin j hj
end GIT
