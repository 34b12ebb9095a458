/-! bytes of a word (pure) -/
section GBYT
theorem byt_bv {x : Int32} {s u : BitVec 32} {k : Nat} (hk : k ≤ 24) (hs : s.toNat = k) (hu : u.toNat = k) : (BitVec.sshiftRight' x.toBitVec s).signExtend 8 = (x.toBitVec >>> u).signExtend 8 := by
  apply BitVec.eq_of_getLsbD_eq
  intro i hi
  rw [BitVec.getLsbD_signExtend, BitVec.getLsbD_signExtend, if_pos (by omega), if_pos (by omega), BitVec.sshiftRight', hs, BitVec.getLsbD_sshiftRight, BitVec.ushiftRight_eq', hu, BitVec.getLsbD_ushiftRight]
  rw [if_pos (by omega)]
  simp only [show ¬ 32 ≤ i by omega, decide_false, Bool.not_false, Bool.true_and]
theorem byt_n {x : Int32} {y : Int32} {k : Nat} (hk : k ≤ 24) (h1 : ((y &&& 31).toBitVec.smod 32#32).toNat = k) (h2 : ((y.toUInt32 &&& Int32.toUInt32 31).toBitVec % 32#32).toNat = k) : (x.toUInt32 >>> (y.toUInt32 &&& Int32.toUInt32 31)).toInt32.toInt8.toInt32 = (x >>> (y &&& 31)).toInt8.toInt32 := by
  have e : (x.toUInt32 >>> (y.toUInt32 &&& Int32.toUInt32 31)).toInt32.toInt8 = (x >>> (y &&& 31)).toInt8 := by
    apply Int8.toBitVec_inj.mp
    rw [Int32.toBitVec_toInt8, Int32.toBitVec_toInt8, Int32.toBitVec_shiftRight]
    exact (byt_bv hk h1 h2).symm
  rw [e]
theorem byt_24 {x : Int32} : (x.toUInt32 >>> ((nI 24).toUInt32 &&& Int32.toUInt32 31)).toInt32.toInt8.toInt32 = byt x 0 := byt_n (k := 24) (by decide) (by decide +kernel) (by decide +kernel)
theorem byt_16 {x : Int32} : (x.toUInt32 >>> ((nI 16).toUInt32 &&& Int32.toUInt32 31)).toInt32.toInt8.toInt32 = byt x 1 := byt_n (k := 16) (by decide) (by decide +kernel) (by decide +kernel)
theorem byt_8 {x : Int32} : (x.toUInt32 >>> ((nI 8).toUInt32 &&& Int32.toUInt32 31)).toInt32.toInt8.toInt32 = byt x 2 := byt_n (k := 8) (by decide) (by decide +kernel) (by decide +kernel)
theorem byt_0 {x : Int32} : (x.toUInt32 >>> ((nI 0).toUInt32 &&& Int32.toUInt32 31)).toInt32.toInt8.toInt32 = byt x 3 := by
  have h := byt_n (x := x) (y := nI 0) (k := 0) (by decide) (by decide +kernel) (by decide +kernel)
  rw [h]
  have e : x >>> (nI 0 &&& 31) = x := by
    apply Int32.toBitVec_inj.mp
    have e0 : (nI 0 &&& 31).toBitVec.smod 32 = 0#32 := by decide +kernel
    rw [Int32.toBitVec_shiftRight, e0]
    apply BitVec.eq_of_getLsbD_eq
    intro i hi
    rw [BitVec.sshiftRight', BitVec.getLsbD_sshiftRight]
    simp [hi]
  rw [e]; rfl
theorem byt_b {w : Int32} : ∀ {k : Nat}, (byt w k).toInt8.toInt32 = byt w k
  | 0 => b2b
  | 1 => b2b
  | 2 => b2b
  | _ + 3 => b2b
/-- the class's object and its input -/
def WA (Γ : Gm) (ab : Nat) (E : Hp) (im : Nat) (rk ro : Int32) (g : Nat → Int32) : Hp := hset (hset E (ab + 1) (.inl (gA Γ 1, 600, .inl g))) ab (.inr (10, coF ab im rk ro))
variable {Γ : Gm} {ab im : Nat} {E : Hp} {rk ro : Int32} {g : Nat → Int32}
theorem WA_c : WA Γ ab E im rk ro g ab = some (.inr (10, coF ab im rk ro)) := hset_s
theorem WA_i : WA Γ ab E im rk ro g (ab + 1) = some (.inl (gA Γ 1, 600, .inl g)) := (hset_n (by omega)).trans hset_s
theorem WA_si {g2 : Nat → Int32} : hset (WA Γ ab E im rk ro g) (ab + 1) (.inl (gA Γ 1, 600, .inl g2)) = WA Γ ab E im rk ro g2 := hset_c (by omega)
theorem WA_sb {w : Int32} {j k : Nat} : hset (WA Γ ab E im rk ro g) (ab + 1) (.inl (gA Γ 1, 600, .inl (upd g j (byt w k).toInt8.toInt32))) = WA Γ ab E im rk ro (upd g j (byt w k)) := by rw [byt_b]; exact WA_si
theorem WA_sc {im2 : Nat} {rk2 ro2 : Int32} : hset (WA Γ ab E im rk ro g) ab (.inr (10, coF ab im2 rk2 ro2)) = WA Γ ab E im2 rk2 ro2 g := hset_hs
theorem WA_id (h : E ab = some (.inr (10, coF ab im rk ro))) (h2 : E (ab + 1) = some (.inl (gA Γ 1, 600, .inl g))) : E = WA Γ ab E im rk ro g := by
  unfold WA; rw [hset_id h2, hset_id h]
theorem CA.setWA {n : Nat} {S : Hp} {q : CQ} {im2 : Nat} {rk2 ro2 : Int32} {g2 : Nat → Int32} (h : CA Γ ab n S E q) : CA Γ ab n S (WA Γ ab E im2 rk2 ro2 g2) (qC (qI q g2) im2 rk2 ro2) := h.setI.setC
end GBYT
