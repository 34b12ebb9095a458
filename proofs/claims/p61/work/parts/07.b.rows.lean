/-! rows of the law: whole numbers of 64 bits, comparisons of means -/
section GRW2
variable {Γ : Gm} {d : Nat} {M : Mr} {P : Po} {X : Px} {pc : Nat} {lv : List (Nat × Value)} {st rest : List Value} {E : Hp} {n kc ks ix : Nat}
theorem g_ldc2 {v : Int64} (hw : Cond.constantLong M.1 ix v ∈ wl) (dg : decode M.2.2.1 pc = .ok (.ldc2_w ix, 3)) (k : G Γ d M P X (pc + 3) lv (.long v :: st) E n kc ks) : G Γ d M P X pc lv st E n kc ks := G.goF (fun hF _ _ _ _ k => lv_ldc2 hF.1 hF.2.1 hF.2.2.2.1 (hF.2.2.2.2.1 _ hw) dg k) k
theorem g_lload_n {j : Fin 4} {x : Int64} (q : Nat) (hl : lv[q]? = some ((j : Nat), .long x)) (dg : decode M.2.2.1 pc = .ok (.lload_n j, 1)) (k : G Γ d M P X (pc + 1) lv (.long x :: st) E n kc ks) : G Γ d M P X pc lv st E n kc ks := G.go (fun hx hb h k => lv_lload_n hx hb dg rfl (lv_at h q hl) k) k
theorem g_lload {j : Nat} {x : Int64} (q : Nat) (hl : lv[q]? = some (j, .long x)) (dg : decode M.2.2.1 pc = .ok (.lload j, 2)) (k : G Γ d M P X (pc + 2) lv (.long x :: st) E n kc ks) : G Γ d M P X pc lv st E n kc ks := G.go (fun hx hb h k => lv_lload hx hb dg (lv_at h q hl) k) k
theorem g_lstore_n {j : Fin 4} {x : Int64} {lv2 : List (Nat × Value)} (hn : (j : Nat) + 1 < M.2.2.2.1) (hl : ((j : Nat), Value.long x) :: lv.filter (fun q => !(q.1 == (j : Nat)) && (!(q.1 == (j : Nat) + 1) && !(q.1 + 1 == (j : Nat) && q.2.category == 2))) = lv2) (dg : decode M.2.2.1 pc = .ok (.lstore_n j, 1)) (k : G Γ d M P X (pc + 1) lv2 st E n kc ks) : G Γ d M P X pc lv (.long x :: st) E n kc ks := G.goL (fun hx hb h k => lv_lstore_n hx hb dg rfl h hn hl k) k
theorem g_lstore {j : Nat} {x : Int64} {lv2 : List (Nat × Value)} (hn : j + 1 < M.2.2.2.1) (hl : (j, Value.long x) :: lv.filter (fun q => !(q.1 == j) && (!(q.1 == j + 1) && !(q.1 + 1 == j && q.2.category == 2))) = lv2) (dg : decode M.2.2.1 pc = .ok (.lstore j, 2)) (k : G Γ d M P X (pc + 2) lv2 st E n kc ks) : G Γ d M P X pc lv (.long x :: st) E n kc ks := G.goL (fun hx hb h k => lv_lstore hx hb dg h hn hl k) k
theorem g_ladd {x y : Int64} (dg : decode M.2.2.1 pc = .ok (.ladd, 1)) (k : G Γ d M P X (pc + 1) lv (.long (x + y) :: st) E n kc ks) : G Γ d M P X pc lv (.long y :: .long x :: st) E n kc ks := G.go (fun hx hb _ k => lv_ladd hx hb dg k) k
theorem g_lmul {x y : Int64} (dg : decode M.2.2.1 pc = .ok (.lmul, 1)) (k : G Γ d M P X (pc + 1) lv (.long (x * y) :: st) E n kc ks) : G Γ d M P X pc lv (.long y :: .long x :: st) E n kc ks := G.go (fun hx hb _ k => lv_lmul hx hb dg k) k
theorem g_lret {x : Int64} (hp : P (some (.long x)) E n) (hr : M.2.2.2.2 = some .long) (dg : decode M.2.2.1 pc = .ok (.lreturn, 1)) : G Γ d M P X pc lv [.long x] E n kc ks := g_ret hp ⟨dg, hr⟩ rfl
theorem g_ixor {x y : Int32} (dg : decode M.2.2.1 pc = .ok (.ixor, 1)) (k : G Γ d M P X (pc + 1) lv (.int (x ^^^ y) :: st) E n kc ks) : G Γ d M P X pc lv (.int y :: .int x :: st) E n kc ks := G.go (fun hx hb _ k => lv_ixor hx hb dg k) k
theorem g_fcmp {x y : UInt32} {op : CmpOp} (dg : decode M.2.2.1 pc = .ok (.fcmp op, 1)) (k : G Γ d M P X (pc + 1) lv (.int (Op.cmpValue (FP.fcmp x y) op) :: st) E n kc ks) : G Γ d M P X pc lv (.float y :: .float x :: st) E n kc ks := G.go (fun hx hb _ k => lv_fcmp hx hb dg k) k
theorem g_lcmp0 {x : Int64} (dg : decode M.2.2.1 pc = .ok (.lcmp, 1)) (k : G Γ d M P X (pc + 1) lv (.int 0 :: st) E n kc ks) : G Γ d M P X pc lv (.long x :: .long x :: st) E n kc ks := g_lcmp dg (by
  have e : lg_cmp x x = 0 := by
    unfold lg_cmp
    rw [if_neg (by simp only [gt_iff_lt, Int64.lt_iff_toInt_lt]; omega), if_pos rfl]
  rw [e]; exact k)
/-- the distance of two numbers -/
theorem g_mabs {x : Int32} (lk : LkS M.1 ix MJ9_abs_0f7a4 1) (hd : 1 ≤ d) (hrest : (rest.map fun v => v.category).sum ≤ 8) (dg : decode M.2.2.1 pc = .ok (.invokestatic ix, 3)) (kk : G Γ d M P X (pc + 3) lv (.int (iabs x) :: rest) E n kc ks) : G Γ d M P X pc lv (.int x :: rest) E n kc ks := by
  obtain ⟨w1, w2, w4, w5, -⟩ := lk
  have e : (if 0 ≤ x then x else 0 - x) = iabs x := by
    unfold iabs
    by_cases h : x < 0
    · rw [if_neg (Int32.not_le.mpr h), if_pos h, Int32.zero_sub]
    · rw [if_pos (Int32.not_lt.mp h), if_neg h]
  intro p e9 R s m args below meth c Q hF hE H locs cells slots ls h1 h2 h3 h4 h5 h6
  obtain ⟨hx9, hb, hml, hown, hts, hev, hdR, hlR, -⟩ := id hF
  have k9 := kk p e9 R s m args below meth c Q hF hE H locs cells slots ls h1 h2 h3 h4 h5 h6
  rw [← e] at k9
  exact va_mabs hx9 hb (by rw [hml]; exact h4.1.symm) hown (hts _ w1) (hts _ w2) (hts _ w4) (hts _ w5) (by omega) (by omega) (by omega) (by omega) dg k9
theorem dup_b {x y : Int32} : (Value.int x).category = 1 := rfl
end GRW2
