section GJB
variable {Γ : Gm} {d : Nat} {M : Mr} {P : Po} {X : Px} {pc : Nat} {lv : List (Nat × Value)} {st rest : List Value} {E : Hp} {n kc ks : Nat}
variable {M1 : Mr} {d1 mc ms ix k : Nat} {As : List Value} {E2 : Hp} {n2 : Nat}
theorem gu_S (hC : Ct Γ d1 M1 mc ms As E n (Rt none E2 n2) X0) (lk : LkS M.1 ix M1 k) (hk : As.length = k) (hd : d1 + 1 ≤ d) (hrest : (rest.map fun v => v.category).sum ≤ 8) (hst : st = As.reverse ++ rest) (dg : decode M.2.2.1 pc = .ok (.invokestatic ix, 3))
    (kk : G Γ d M P X (pc + 3) lv rest E2 n2 kc ks) : G Γ d M P X pc lv st E n (kc + mc) (ks + ms) := g_invS hC lk hk hd hrest hst dg (fun _ _ _ h => h.elim) (fun v E1 n1 h => by obtain ⟨rfl, rfl, rfl⟩ := h; exact kk)
theorem g_mmin {x y : Nat} (lk : LkS M.1 ix MJ9_min_7cf53 2) (hx : x < 2 ^ 31) (hy : y < 2 ^ 31) (hd : 1 ≤ d) (hrest : (rest.map fun v => v.category).sum ≤ 8) (dg : decode M.2.2.1 pc = .ok (.invokestatic ix, 3)) (kk : G Γ d M P X (pc + 3) lv (.int (nI (min x y)) :: rest) E n kc ks) : G Γ d M P X pc lv (.int (nI y) :: .int (nI x) :: rest) E n kc ks := by
  obtain ⟨w1, w2, w4, w5, -⟩ := lk
  have e : (if nI y < nI x then nI y else nI x) = nI (min x y) := by
    by_cases h : y < x
    · rw [if_pos (nI_lt h hx), Nat.min_eq_right (Nat.le_of_lt h)]
    · rw [if_neg (nI_nlt (by omega) hy), Nat.min_eq_left (by omega)]
  intro p e9 R s m args below meth c Q hF hE H locs cells slots ls h1 h2 h3 h4 h5 h6
  obtain ⟨hx9, hb, hml, hown, hts, hev, hdR, hlR, -⟩ := id hF
  have k9 := kk p e9 R s m args below meth c Q hF hE H locs cells slots ls h1 h2 h3 h4 h5 h6
  rw [← e] at k9
  exact va_mmin hx9 hb (by rw [hml]; exact h4.1.symm) hown (hts _ w1) (hts _ w2) (hts _ w4) (hts _ w5) (by omega) (by omega) (by omega) (by omega) dg k9
theorem g_mmax {x y : Nat} (lk : LkS M.1 ix MJ9_max_7cf53 2) (hx : x < 2 ^ 31) (hy : y < 2 ^ 31) (hd : 1 ≤ d) (hrest : (rest.map fun v => v.category).sum ≤ 8) (dg : decode M.2.2.1 pc = .ok (.invokestatic ix, 3)) (kk : G Γ d M P X (pc + 3) lv (.int (nI (max x y)) :: rest) E n kc ks) : G Γ d M P X pc lv (.int (nI y) :: .int (nI x) :: rest) E n kc ks := by
  obtain ⟨w1, w2, w4, w5, -⟩ := lk
  have e : (if nI x < nI y then nI y else nI x) = nI (max x y) := by
    by_cases h : x < y
    · rw [if_pos (nI_lt h hy), Nat.max_eq_right (Nat.le_of_lt h)]
    · rw [if_neg (nI_nlt (by omega) hx), Nat.max_eq_left (by omega)]
  intro p e9 R s m args below meth c Q hF hE H locs cells slots ls h1 h2 h3 h4 h5 h6
  obtain ⟨hx9, hb, hml, hown, hts, hev, hdR, hlR, -⟩ := id hF
  have k9 := kk p e9 R s m args below meth c Q hF hE H locs cells slots ls h1 h2 h3 h4 h5 h6
  rw [← e] at k9
  exact va_mmax hx9 hb (by rw [hml]; exact h4.1.symm) hown (hts _ w1) (hts _ w2) (hts _ w4) (hts _ w5) (by omega) (by omega) (by omega) (by omega) dg k9
theorem g_aretA {x : Nat} {t : FieldType} (hp : P (some (.ref x)) E n) (hr : M.2.2.2.2 = some (.array t)) (dg : decode M.2.2.1 pc = .ok (.areturn, 1)) : G Γ d M P X pc lv [.ref x] E n kc ks := g_ret hp ⟨dg, _, hr, Or.inr ⟨t, rfl⟩⟩ rfl
end GJB
