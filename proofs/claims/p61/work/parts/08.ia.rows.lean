/-! rows without a number of a room; the greater of two; lodgers in their order -/
section GZRW
variable {Γ : Gm} {n mc ms d d1 k ix pc kc ks b n2 : Nat} {E E2 : Hp} {P P1 : Po} {X : Px} {M M1 : Mr} {lv : List (Nat × Value)} {st rest As : List Value} {v : Value}
theorem gv_Vz (hC : Ct Γ d1 M1 0 0 (.ref b :: As) E n (Rt (some v) E2 n2) X0) (lk : LkV M.1 ix M1 k) (hk : As.length = k) (hr : Rcv Γ E b M1.1) (hd : d1 + 1 ≤ d) (hrest : (rest.map fun v => v.category).sum ≤ 8) (hst : st = As.reverse ++ .ref b :: rest) (dg : decode M.2.2.1 pc = .ok (.invokevirtual ix, 3))
    (kk : G Γ d M P X (pc + 3) lv (v :: rest) E2 n2 kc ks) : G Γ d M P X pc lv st E n kc ks := gv_V (kc := kc) (ks := ks) hC lk hk hr hd hrest hst dg kk
theorem gw_Viz (hC : CtW Γ d1 M1 0 0 (.ref b :: As) E n P1 X0) (lk : LkV M.1 ix M1 k) (hk : As.length = k) (hr : Rcv Γ E b M1.1) (hd : d1 + 1 ≤ d) (hrest : (rest.map fun v => v.category).sum ≤ 8) (hst : st = As.reverse ++ .ref b :: rest) (dg : decode M.2.2.1 pc = .ok (.invokevirtual ix, 3)) (hv : ∀ v E1 n1, P1 v E1 n1 → ∃ x : Int32, v = some (.int x))
    (kk : ∀ (x : Int32) E1 n1, P1 (some (.int x)) E1 n1 → G Γ d M P X (pc + 3) lv (.int x :: rest) E1 n1 kc ks) : G Γ d M P X pc lv st E n kc ks := gw_Vi (kc := kc) (ks := ks) hC lk hk hr hd hrest hst dg hv kk
theorem g_SHz (hC : CtH Γ d1 M1 0 0 As E n P1 X0) (lk : LkSH M.1 ix M1 k) (hk : As.length = k) (hd : d1 + 1 ≤ d) (hrest : (rest.map fun v => v.category).sum ≤ 8) (hst : st = As.reverse ++ rest) (dg : decode M.2.2.1 pc = .ok (.invokestatic ix, 3)) (hv : ∀ v E1 n1, P1 v E1 n1 → ∃ x : Int32, v = some (.int x))
    (kk : ∀ (x : Int32) E1 n1, P1 (some (.int x)) E1 n1 → G Γ d M P X (pc + 3) lv (.int x :: rest) E1 n1 kc ks) : G Γ d M P X pc lv st E n kc ks := g_SHi (kc := kc) (ks := ks) hC lk hk hd hrest hst dg hv kk
theorem g_mmaxI {x y : Int32} (lk : LkS M.1 ix MJ9_max_7cf53 2) (hd : 1 ≤ d) (hrest : (rest.map fun v => v.category).sum ≤ 8) (dg : decode M.2.2.1 pc = .ok (.invokestatic ix, 3)) (kk : G Γ d M P X (pc + 3) lv (.int (if x < y then y else x) :: rest) E n kc ks) : G Γ d M P X pc lv (.int y :: .int x :: rest) E n kc ks := by
  obtain ⟨w1, w2, w4, w5, -⟩ := lk
  intro p e9 R s m args below meth c Q hF hE H locs cells slots ls h1 h2 h3 h4 h5 h6
  obtain ⟨hx9, hb, hml, hown, hts, hev, hdR, hlR, -⟩ := id hF
  have k9 := kk p e9 R s m args below meth c Q hF hE H locs cells slots ls h1 h2 h3 h4 h5 h6
  exact va_mmax hx9 hb (by rw [hml]; exact h4.1.symm) hown (hts _ w1) (hts _ w2) (hts _ w4) (hts _ w5) (by omega) (by omega) (by omega) (by omega) dg k9
theorem mx_p {x y : Int32} (h : y ≤ x) : (if x < y then y else x) = x := if_neg (Int32.not_lt.mpr h)
theorem mx_n {x y : Int32} (h : ¬ y ≤ x) : (if x < y then y else x) = y := if_pos (Int32.not_le.mp h)
theorem plc_t {f : Nat → Int32} {fl a : Int32} {c i r : Nat} (hc : c ≤ 12) (ha : (a = -1 ∧ i = 0) ∨ ∃ q, q < c ∧ a = nI q ∧ cntA f fl q + 1 = i) (hr : r < c) (h : cntA f fl r = i) : ¬ nI r ≤ a := fun z => by
  rcases ha with ⟨rfl, -⟩ | ⟨q, hq, rfl, e⟩
  · have h1 := Int32.lt_of_le_of_lt z (show (-1 : Int32) < 0 by decide)
    exact nI_pos (show r < 2 ^ 31 by omega) h1
  · have h1 := (nI_leI (by omega) (by omega)).mp z
    have h2 := cntA_mono (f := f) (fl := fl) h1
    omega
end GZRW
