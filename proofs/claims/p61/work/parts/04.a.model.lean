section GMOD
/-- natural numbers as ints: the rows' other forms -/
theorem nI_mul (a b : Nat) : nI a * nI b = nI (a * b) := pk_mul a b
variable {Γ : Gm} {d : Nat} {M : Mr} {P : Po} {X : Px} {pc : Nat} {lv : List (Nat × Value)} {st rest : List Value} {E : Hp} {n kc ks : Nat}
abbrev Rt (r : Option Value) (E2 : Hp) (n2 : Nat) : Po := fun v E1 n1 => v = r ∧ E1 = E2 ∧ n1 = n2
abbrev X0 : Px := fun _ _ _ => False
theorem gn_iadd {a b : Nat} (dg : decode M.2.2.1 pc = .ok (.iadd, 1)) (k : G Γ d M P X (pc + 1) lv (.int (nI (a + b)) :: st) E n kc ks) : G Γ d M P X pc lv (.int (nI b) :: .int (nI a) :: st) E n kc ks := g_iadd dg (by rw [nI_add]; exact k)
theorem gn_iadd0 {a : Nat} (dg : decode M.2.2.1 pc = .ok (.iadd, 1)) (k : G Γ d M P X (pc + 1) lv (.int (nI a) :: st) E n kc ks) : G Γ d M P X pc lv (.int (nI 0) :: .int (nI a) :: st) E n kc ks := gn_iadd dg k
theorem gn_isub {a b : Nat} (h : b ≤ a) (dg : decode M.2.2.1 pc = .ok (.isub, 1)) (k : G Γ d M P X (pc + 1) lv (.int (nI (a - b)) :: st) E n kc ks) : G Γ d M P X pc lv (.int (nI b) :: .int (nI a) :: st) E n kc ks := g_isub dg (by rw [pk_sub h]; exact k)
theorem gn_imul {a b : Nat} (dg : decode M.2.2.1 pc = .ok (.imul, 1)) (k : G Γ d M P X (pc + 1) lv (.int (nI (a * b)) :: st) E n kc ks) : G Γ d M P X pc lv (.int (nI b) :: .int (nI a) :: st) E n kc ks := g_imul dg (by rw [nI_mul]; exact k)
theorem gn_idiv {a b : Nat} (ha : a < 2 ^ 31) (h0 : 0 < b) (hb : b < 2 ^ 31) (dg : decode M.2.2.1 pc = .ok (.idiv, 1)) (k : G Γ d M P X (pc + 1) lv (.int (nI (a / b)) :: st) E n kc ks) : G Γ d M P X pc lv (.int (nI b) :: .int (nI a) :: st) E n kc ks := g_idiv (nI_ne0 h0 hb) dg (by rw [pk_div ha h0 hb]; exact k)
theorem gn_irem {a b : Nat} (ha : a < 2 ^ 31) (h0 : 0 < b) (hb : b < 2 ^ 31) (dg : decode M.2.2.1 pc = .ok (.irem, 1)) (k : G Γ d M P X (pc + 1) lv (.int (nI (a % b)) :: st) E n kc ks) : G Γ d M P X pc lv (.int (nI b) :: .int (nI a) :: st) E n kc ks := g_irem (nI_ne0 h0 hb) dg (by rw [pk_rem ha h0 hb]; exact k)
theorem gn_inc {j a : Nat} {lv2 : List (Nat × Value)} (q : Nat) (hq : lv[q]? = some (j, .int (nI a))) (hn : j < M.2.2.2.1) (hl : (j, Value.int (nI (a + 1))) :: lv.filter (fun q => !(q.1 == j) && !(q.1 + 1 == j && q.2.category == 2)) = lv2) (dg : decode M.2.2.1 pc = .ok (.iinc j 1, 3)) (k : G Γ d M P X (pc + 3) lv2 st E n kc ks) : G Γ d M P X pc lv st E n kc ks := g_iinc q hq (show nI a + Int32.ofInt 1 = nI (a + 1) from nI_1 a) hn hl dg k
theorem gn_ic {i : Int} (a : Nat) (hv : Int32.ofInt i = nI a) (dg : decode M.2.2.1 pc = .ok (.iconst i, 1)) (k : G Γ d M P X (pc + 1) lv (.int (nI a) :: st) E n kc ks) : G Γ d M P X pc lv st E n kc ks := g_iconst dg hv k
theorem gn_bp {i : Int} (a : Nat) (hv : (Int8.ofInt i).toInt32 = nI a) (dg : decode M.2.2.1 pc = .ok (.bipush i, 2)) (k : G Γ d M P X (pc + 2) lv (.int (nI a) :: st) E n kc ks) : G Γ d M P X pc lv st E n kc ks := g_bipush dg hv k
theorem gn_sp {i : Int} (a : Nat) (hv : (Int16.ofInt i).toInt32 = nI a) (dg : decode M.2.2.1 pc = .ok (.sipush i, 3)) (k : G Γ d M P X (pc + 3) lv (.int (nI a) :: st) E n kc ks) : G Γ d M P X pc lv st E n kc ks := g_sipush dg hv k
theorem gn_iald {a N j : Nat} {f : Nat → Int32} (he : E a = some (.inl (gA Γ 0, N, .inl f))) (hj : j < N) (hN : N < 2 ^ 31) (dg : decode M.2.2.1 pc = .ok (.iaload, 1)) (kk : G Γ d M P X (pc + 1) lv (.int (f j) :: st) E n kc ks) : G Γ d M P X pc lv (.int (nI j) :: .ref a :: st) E n kc ks := g_iald he (vp_in_nI hj hN) dg (by rw [nI_clamp (by omega)]; exact kk)
theorem gn_bald {a N j : Nat} {f : Nat → Int32} (he : E a = some (.inl (gA Γ 1, N, .inl f))) (hj : j < N) (hN : N < 2 ^ 31) (dg : decode M.2.2.1 pc = .ok (.baload, 1)) (kk : G Γ d M P X (pc + 1) lv (.int (f j) :: st) E n kc ks) : G Γ d M P X pc lv (.int (nI j) :: .ref a :: st) E n kc ks := g_bald he (vp_in_nI hj hN) dg (by rw [nI_clamp (by omega)]; exact kk)
theorem gn_zald {a N j : Nat} {f : Nat → Int32} (he : E a = some (.inl (gA Γ 2, N, .inl f))) (hj : j < N) (hN : N < 2 ^ 31) (dg : decode M.2.2.1 pc = .ok (.baload, 1)) (kk : G Γ d M P X (pc + 1) lv (.int (f j) :: st) E n kc ks) : G Γ d M P X pc lv (.int (nI j) :: .ref a :: st) E n kc ks := g_zald he (vp_in_nI hj hN) dg (by rw [nI_clamp (by omega)]; exact kk)
theorem gn_iast {a N j : Nat} {f : Nat → Int32} {x : Int32} {E2 : Hp} (he : E a = some (.inl (gA Γ 0, N, .inl f))) (hj : j < N) (hN : N < 2 ^ 31) (hE : hset E a (.inl (gA Γ 0, N, .inl (upd f j x))) = E2) (dg : decode M.2.2.1 pc = .ok (.iastore, 1)) (kk : G Γ d M P X (pc + 1) lv st E2 n kc ks) : G Γ d M P X pc lv (.int x :: .int (nI j) :: .ref a :: st) E n kc ks := g_iast he (vp_in_nI hj hN) dg (by rw [nI_clamp (by omega), hE]; exact kk)
theorem gn_bast {a N j : Nat} {f : Nat → Int32} {x : Int32} {E2 : Hp} (he : E a = some (.inl (gA Γ 1, N, .inl f))) (hj : j < N) (hN : N < 2 ^ 31) (hE : hset E a (.inl (gA Γ 1, N, .inl (upd f j x.toInt8.toInt32))) = E2) (dg : decode M.2.2.1 pc = .ok (.bastore, 1)) (kk : G Γ d M P X (pc + 1) lv st E2 n kc ks) : G Γ d M P X pc lv (.int x :: .int (nI j) :: .ref a :: st) E n kc ks := g_bast he (vp_in_nI hj hN) dg (by rw [nI_clamp (by omega), vp_nar_byte, hE]; exact kk)
theorem gn_zast {a N j : Nat} {f : Nat → Int32} {x : Int32} {E2 : Hp} (he : E a = some (.inl (gA Γ 2, N, .inl f))) (hj : j < N) (hN : N < 2 ^ 31) (hE : hset E a (.inl (gA Γ 2, N, .inl (upd f j (vp_nar .boolean x)))) = E2) (dg : decode M.2.2.1 pc = .ok (.bastore, 1)) (kk : G Γ d M P X (pc + 1) lv st E2 n kc ks) : G Γ d M P X pc lv (.int x :: .int (nI j) :: .ref a :: st) E n kc ks := g_zast he (vp_in_nI hj hN) dg (by rw [nI_clamp (by omega), hE]; exact kk)
theorem gn_icmp_eq {a b : Nat} {off : Int} {tgt : Nat} (ha : a < 2 ^ 31) (hb : b < 2 ^ 31) (ht : (pc : Int) + off = (tgt : Int)) (dg : decode M.2.2.1 pc = .ok (.if_icmp .eq off, 3)) (ka : a = b → G Γ d M P X tgt lv st E n kc ks) (kb : ¬ a = b → G Γ d M P X (pc + 3) lv st E n kc ks) : G Γ d M P X pc lv (.int (nI b) :: .int (nI a) :: st) E n kc ks := g_icmp_eq ht dg (fun z => ka ((nI_eq ha hb).mp z)) (fun z => kb (fun y => z ((nI_eq ha hb).mpr y)))
theorem gn_icmp_ne {a b : Nat} {off : Int} {tgt : Nat} (ha : a < 2 ^ 31) (hb : b < 2 ^ 31) (ht : (pc : Int) + off = (tgt : Int)) (dg : decode M.2.2.1 pc = .ok (.if_icmp .ne off, 3)) (ka : ¬ a = b → G Γ d M P X tgt lv st E n kc ks) (kb : a = b → G Γ d M P X (pc + 3) lv st E n kc ks) : G Γ d M P X pc lv (.int (nI b) :: .int (nI a) :: st) E n kc ks := g_icmp_ne ht dg (fun z => ka (fun y => z ((nI_eq ha hb).mpr y))) (fun z => kb ((nI_eq ha hb).mp z))
theorem gn_icmp_lt {a b : Nat} {off : Int} {tgt : Nat} (ha : a < 2 ^ 31) (hb : b < 2 ^ 31) (ht : (pc : Int) + off = (tgt : Int)) (dg : decode M.2.2.1 pc = .ok (.if_icmp .lt off, 3)) (ka : a < b → G Γ d M P X tgt lv st E n kc ks) (kb : ¬ a < b → G Γ d M P X (pc + 3) lv st E n kc ks) : G Γ d M P X pc lv (.int (nI b) :: .int (nI a) :: st) E n kc ks := g_icmp_lt ht dg (fun z => ka ((nI_ltI ha hb).mp z)) (fun z => kb (fun y => z ((nI_ltI ha hb).mpr y)))
theorem gn_icmp_ge {a b : Nat} {off : Int} {tgt : Nat} (ha : a < 2 ^ 31) (hb : b < 2 ^ 31) (ht : (pc : Int) + off = (tgt : Int)) (dg : decode M.2.2.1 pc = .ok (.if_icmp .ge off, 3)) (ka : b ≤ a → G Γ d M P X tgt lv st E n kc ks) (kb : ¬ b ≤ a → G Γ d M P X (pc + 3) lv st E n kc ks) : G Γ d M P X pc lv (.int (nI b) :: .int (nI a) :: st) E n kc ks := g_icmp_ge ht dg (fun z => ka ((nI_leI hb ha).mp z)) (fun z => kb (fun y => z ((nI_leI hb ha).mpr y)))
theorem gn_icmp_gt {a b : Nat} {off : Int} {tgt : Nat} (ha : a < 2 ^ 31) (hb : b < 2 ^ 31) (ht : (pc : Int) + off = (tgt : Int)) (dg : decode M.2.2.1 pc = .ok (.if_icmp .gt off, 3)) (ka : b < a → G Γ d M P X tgt lv st E n kc ks) (kb : ¬ b < a → G Γ d M P X (pc + 3) lv st E n kc ks) : G Γ d M P X pc lv (.int (nI b) :: .int (nI a) :: st) E n kc ks := g_icmp_gt ht dg (fun z => ka ((nI_ltI hb ha).mp z)) (fun z => kb (fun y => z ((nI_ltI hb ha).mpr y)))
theorem gn_icmp_le {a b : Nat} {off : Int} {tgt : Nat} (ha : a < 2 ^ 31) (hb : b < 2 ^ 31) (ht : (pc : Int) + off = (tgt : Int)) (dg : decode M.2.2.1 pc = .ok (.if_icmp .le off, 3)) (ka : a ≤ b → G Γ d M P X tgt lv st E n kc ks) (kb : ¬ a ≤ b → G Γ d M P X (pc + 3) lv st E n kc ks) : G Γ d M P X pc lv (.int (nI b) :: .int (nI a) :: st) E n kc ks := g_icmp_le ht dg (fun z => ka ((nI_leI ha hb).mp z)) (fun z => kb (fun y => z ((nI_leI ha hb).mpr y)))
theorem gn_if_eq {a : Nat} {off : Int} {tgt : Nat} (ha : a < 2 ^ 31) (ht : (pc : Int) + off = (tgt : Int)) (dg : decode M.2.2.1 pc = .ok (.ifCond .eq off, 3)) (ka : a = 0 → G Γ d M P X tgt lv st E n kc ks) (kb : ¬ a = 0 → G Γ d M P X (pc + 3) lv st E n kc ks) : G Γ d M P X pc lv (.int (nI a) :: st) E n kc ks := g_if_eq ht dg (fun z => ka ((nI_eq ha (by omega : 0 < 2 ^ 31)).mp z)) (fun z => kb (fun y => z (by rw [y]; rfl)))
theorem gn_if_ne {a : Nat} {off : Int} {tgt : Nat} (ha : a < 2 ^ 31) (ht : (pc : Int) + off = (tgt : Int)) (dg : decode M.2.2.1 pc = .ok (.ifCond .ne off, 3)) (ka : ¬ a = 0 → G Γ d M P X tgt lv st E n kc ks) (kb : a = 0 → G Γ d M P X (pc + 3) lv st E n kc ks) : G Γ d M P X pc lv (.int (nI a) :: st) E n kc ks := g_if_ne ht dg (fun z => ka (fun y => z (by rw [y]; rfl))) (fun z => kb ((nI_eq ha (by omega : 0 < 2 ^ 31)).mp z))
theorem g_iret {x : Int32} {ty : FieldType} (hp : P (some (.int x)) E n) (hn : narrow ty (.int x) = .int x) (hr : M.2.2.2.2 = some ty) (dg : decode M.2.2.1 pc = .ok (.ireturn, 1)) : G Γ d M P X pc lv [.int x] E n kc ks := g_ret hp ⟨dg, ty, hr, hn⟩ rfl
theorem g_vret (hp : P none E n) (hr : M.2.2.2.2 = none) (dg : decode M.2.2.1 pc = .ok (.return_, 1)) : G Γ d M P X pc lv [] E n kc ks := g_ret hp ⟨dg, hr⟩ rfl
theorem g_aret {x : Nat} {c : String} (hp : P (some (.ref x)) E n) (hr : M.2.2.2.2 = some (.object c)) (dg : decode M.2.2.1 pc = .ok (.areturn, 1)) : G Γ d M P X pc lv [.ref x] E n kc ks := g_ret hp ⟨dg, _, hr, Or.inl ⟨c, rfl⟩⟩ rfl
theorem g_aretN {c : String} (hp : P (some .null) E n) (hr : M.2.2.2.2 = some (.object c)) (dg : decode M.2.2.1 pc = .ok (.areturn, 1)) : G Γ d M P X pc lv [.null] E n kc ks := g_ret hp ⟨dg, _, hr, Or.inl ⟨c, rfl⟩⟩ rfl
theorem g_dret {x : UInt64} (hp : P (some (.double x)) E n) (hr : M.2.2.2.2 = some .double) (dg : decode M.2.2.1 pc = .ok (.dreturn, 1)) : G Γ d M P X pc lv [.double x] E n kc ks := g_ret hp ⟨dg, hr⟩ rfl
theorem g_fret {x : UInt32} (hp : P (some (.float x)) E n) (hr : M.2.2.2.2 = some .float) (dg : decode M.2.2.1 pc = .ok (.freturn, 1)) : G Γ d M P X pc lv [.float x] E n kc ks := g_ret hp ⟨dg, hr⟩ rfl
/-- a rewritten top -/
theorem g_top {x y : Int32} (h : x = y) (k : G Γ d M P X pc lv (.int y :: st) E n kc ks) : G Γ d M P X pc lv (.int x :: st) E n kc ks := h ▸ k
theorem g_world {E2 : Hp} (h : E = E2) (k : G Γ d M P X pc lv st E2 n kc ks) : G Γ d M P X pc lv st E n kc ks := h ▸ k
-- calls whose answer is one value
section
variable {M1 : Mr} {d1 mc ms ix k b : Nat} {As : List Value} {v : Value} {E2 : Hp} {n2 : Nat} {X1 : Px}
theorem gv_V (hC : Ct Γ d1 M1 mc ms (.ref b :: As) E n (Rt (some v) E2 n2) X0) (lk : LkV M.1 ix M1 k) (hk : As.length = k) (hr : Rcv Γ E b M1.1) (hd : d1 + 1 ≤ d) (hrest : (rest.map fun v => v.category).sum ≤ 8) (hst : st = As.reverse ++ .ref b :: rest) (dg : decode M.2.2.1 pc = .ok (.invokevirtual ix, 3))
    (kk : G Γ d M P X (pc + 3) lv (v :: rest) E2 n2 kc ks) : G Γ d M P X pc lv st E n (kc + mc) (ks + ms) := g_invV hC lk hk hr hd hrest hst dg (fun _ _ _ h => h.elim) (fun v E1 n1 h => by obtain ⟨rfl, rfl, rfl⟩ := h; exact kk)
theorem gv_S (hC : Ct Γ d1 M1 mc ms As E n (Rt (some v) E2 n2) X0) (lk : LkS M.1 ix M1 k) (hk : As.length = k) (hd : d1 + 1 ≤ d) (hrest : (rest.map fun v => v.category).sum ≤ 8) (hst : st = As.reverse ++ rest) (dg : decode M.2.2.1 pc = .ok (.invokestatic ix, 3))
    (kk : G Γ d M P X (pc + 3) lv (v :: rest) E2 n2 kc ks) : G Γ d M P X pc lv st E n (kc + mc) (ks + ms) := g_invS hC lk hk hd hrest hst dg (fun _ _ _ h => h.elim) (fun v E1 n1 h => by obtain ⟨rfl, rfl, rfl⟩ := h; exact kk)
theorem gu_V (hC : Ct Γ d1 M1 mc ms (.ref b :: As) E n (Rt none E2 n2) X0) (lk : LkV M.1 ix M1 k) (hk : As.length = k) (hr : Rcv Γ E b M1.1) (hd : d1 + 1 ≤ d) (hrest : (rest.map fun v => v.category).sum ≤ 8) (hst : st = As.reverse ++ .ref b :: rest) (dg : decode M.2.2.1 pc = .ok (.invokevirtual ix, 3))
    (kk : G Γ d M P X (pc + 3) lv rest E2 n2 kc ks) : G Γ d M P X pc lv st E n (kc + mc) (ks + ms) := g_invV hC lk hk hr hd hrest hst dg (fun _ _ _ h => h.elim) (fun v E1 n1 h => by obtain ⟨rfl, rfl, rfl⟩ := h; exact kk)
end
end GMOD
/-! the reference's world: one object at mo, its ten arrays behind it -/
section GMW
/-- the object's fields, out of its whole numbers -/
def moObj (mo : Nat) (I : Nat → Int32) : List Value := [.ref (mo + 1), .ref (mo + 2), .int (I 2), .ref (mo + 3), .ref (mo + 4), .ref (mo + 5), .int (I 6), .ref (mo + 6), .int (I 8), .ref (mo + 7), .ref (mo + 8), .int (I 11), .int (I 12), .ref (mo + 9), .int (I 14), .ref (mo + 10), .int (I 16), .int (I 17), .int (I 18), .int (I 19), .int (I 20), .int (I 21), .int (I 22), .int (I 23), .int (I 24), .int (I 25)]
/-- the world: whole numbers I, arrays A (by their place; A 2 isn't asked), the row f that is 'now', all else F -/
def MW (Γ : Gm) (mo : Nat) (F : Hp) (I : Nat → Int32) (A : Nat → Nat → Int32) (f : Nat → Int32) : Hp := fun a =>
  if a = mo then some (.inr (11, moObj mo I)) else if a = mo + 1 then some (.inl (gA Γ 0, 48, .inl (A 0))) else if a = mo + 2 then some (.inl (gA Γ 0, 24, .inl (A 1))) else if a = mo + 3 then some (.inl (gA Γ 0, 205, .inl f)) else if a = mo + 4 then some (.inl (gA Γ 0, 205, .inl (A 3))) else if a = mo + 5 then some (.inl (gA Γ 0, 2050, .inl (A 4))) else if a = mo + 6 then some (.inl (gA Γ 0, 410, .inl (A 5))) else if a = mo + 7 then some (.inl (gA Γ 0, 25, .inl (A 6))) else if a = mo + 8 then some (.inl (gA Γ 0, 5, .inl (A 7))) else if a = mo + 9 then some (.inl (gA Γ 1, 600, .inl (A 8))) else if a = mo + 10 then some (.inl (gA Γ 4, 60, .inl (A 9))) else F a
variable {Γ : Gm} {mo : Nat} {F : Hp} {I : Nat → Int32} {A : Nat → Nat → Int32} {f : Nat → Int32}
theorem MW_0 : MW Γ mo F I A f mo = some (.inr (11, moObj mo I)) := by simp [MW]
theorem MW_1 : MW Γ mo F I A f (mo + 1) = some (.inl (gA Γ 0, 48, .inl (A 0))) := by simp [MW]
theorem MW_2 : MW Γ mo F I A f (mo + 2) = some (.inl (gA Γ 0, 24, .inl (A 1))) := by simp [MW]
theorem MW_3 : MW Γ mo F I A f (mo + 3) = some (.inl (gA Γ 0, 205, .inl f)) := by simp [MW]
theorem MW_4 : MW Γ mo F I A f (mo + 4) = some (.inl (gA Γ 0, 205, .inl (A 3))) := by simp [MW]
theorem MW_5 : MW Γ mo F I A f (mo + 5) = some (.inl (gA Γ 0, 2050, .inl (A 4))) := by simp [MW]
theorem MW_6 : MW Γ mo F I A f (mo + 6) = some (.inl (gA Γ 0, 410, .inl (A 5))) := by simp [MW]
theorem MW_7 : MW Γ mo F I A f (mo + 7) = some (.inl (gA Γ 0, 25, .inl (A 6))) := by simp [MW]
theorem MW_8 : MW Γ mo F I A f (mo + 8) = some (.inl (gA Γ 0, 5, .inl (A 7))) := by simp [MW]
theorem MW_9 : MW Γ mo F I A f (mo + 9) = some (.inl (gA Γ 1, 600, .inl (A 8))) := by simp [MW]
theorem MW_10 : MW Γ mo F I A f (mo + 10) = some (.inl (gA Γ 4, 60, .inl (A 9))) := by simp [MW]
def updA (A : Nat → Nat → Int32) (j : Nat) (g : Nat → Int32) : Nat → Nat → Int32 := fun i => if i = j then g else A i
theorem MW_s3 {g : Nat → Int32} : hset (MW Γ mo F I A f) (mo + 3) (.inl (gA Γ 0, 205, .inl g)) = MW Γ mo F I A g := by
  funext a
  by_cases h : a = mo + 3
  · subst h; simp [hset, MW]
  · simp only [hset, MW, if_neg h]
theorem MW_s4 {g : Nat → Int32} : hset (MW Γ mo F I A f) (mo + 4) (.inl (gA Γ 0, 205, .inl g)) = MW Γ mo F I (updA A 3 g) f := by
  funext a
  by_cases h : a = mo + 4
  · subst h; simp [hset, MW, updA]
  · simp only [hset, MW, if_neg h]
    simp [updA]
theorem MW_s5 {g : Nat → Int32} : hset (MW Γ mo F I A f) (mo + 5) (.inl (gA Γ 0, 2050, .inl g)) = MW Γ mo F I (updA A 4 g) f := by
  funext a
  by_cases h : a = mo + 5
  · subst h; simp [hset, MW, updA]
  · simp only [hset, MW, if_neg h]
    simp [updA]
theorem MW_s6 {g : Nat → Int32} : hset (MW Γ mo F I A f) (mo + 6) (.inl (gA Γ 0, 410, .inl g)) = MW Γ mo F I (updA A 5 g) f := by
  funext a
  by_cases h : a = mo + 6
  · subst h; simp [hset, MW, updA]
  · simp only [hset, MW, if_neg h]
    simp [updA]
theorem MW_s7 {g : Nat → Int32} : hset (MW Γ mo F I A f) (mo + 7) (.inl (gA Γ 0, 25, .inl g)) = MW Γ mo F I (updA A 6 g) f := by
  funext a
  by_cases h : a = mo + 7
  · subst h; simp [hset, MW, updA]
  · simp only [hset, MW, if_neg h]
    simp [updA]
theorem MW_s8 {g : Nat → Int32} : hset (MW Γ mo F I A f) (mo + 8) (.inl (gA Γ 0, 5, .inl g)) = MW Γ mo F I (updA A 7 g) f := by
  funext a
  by_cases h : a = mo + 8
  · subst h; simp [hset, MW, updA]
  · simp only [hset, MW, if_neg h]
    simp [updA]
theorem MW_s9 {g : Nat → Int32} : hset (MW Γ mo F I A f) (mo + 9) (.inl (gA Γ 1, 600, .inl g)) = MW Γ mo F I (updA A 8 g) f := by
  funext a
  by_cases h : a = mo + 9
  · subst h; simp [hset, MW, updA]
  · simp only [hset, MW, if_neg h]
    simp [updA]
theorem MW_s10 {g : Nat → Int32} : hset (MW Γ mo F I A f) (mo + 10) (.inl (gA Γ 4, 60, .inl g)) = MW Γ mo F I (updA A 9 g) f := by
  funext a
  by_cases h : a = mo + 10
  · subst h; simp [hset, MW, updA]
  · simp only [hset, MW, if_neg h]
    simp [updA]
theorem MW_sI {J : Nat → Int32} {l : List Value} (h : l = moObj mo J) : hset (MW Γ mo F I A f) mo (.inr (11, l)) = MW Γ mo F J A f := by
  subst h; funext a
  by_cases h : a = mo
  · subst h; simp [hset, MW]
  · simp only [hset, MW, if_neg h]
variable {d : Nat} {M : Mr} {P : Po} {X : Px} {pc : Nat} {lv : List (Nat × Value)} {st rest : List Value} {n kc ks : Nat}
/-- 'this.field': aload_0; getfield -/
theorem m_get {ix k : Nat} {v : Value} (q : Nat) (hl : lv[q]? = some (0, .ref mo)) (hf : Fl M.1 ix 11 k) (hv : (moObj mo I)[k]? = some v) (d0 : decode M.2.2.1 pc = .ok (.aload_n 0, 1)) (d1 : decode M.2.2.1 (pc + 1) = .ok (.getfield ix, 3)) (kk : G Γ d M P X (pc + 4) lv (v :: st) (MW Γ mo F I A f) n kc ks) : G Γ d M P X pc lv st (MW Γ mo F I A f) n kc ks := g_aload_n q hl d0 (g_get hf MW_0 hv d1 kk)
/-- getfield of this on the stack -/
theorem m_getS {ix k : Nat} {v : Value} (hf : Fl M.1 ix 11 k) (hv : (moObj mo I)[k]? = some v) (d1 : decode M.2.2.1 pc = .ok (.getfield ix, 3)) (kk : G Γ d M P X (pc + 3) lv (v :: st) (MW Γ mo F I A f) n kc ks) : G Γ d M P X pc lv (.ref mo :: st) (MW Γ mo F I A f) n kc ks := g_get hf MW_0 hv d1 kk
theorem m_put {ix k : Nat} {x : Int32} (hf : Fl M.1 ix 11 k) (hw : Fw 11 k .int false) (hk : k < 26) (hs : (moObj mo I).set k (.int x) = moObj mo (upd I k x)) (d1 : decode M.2.2.1 pc = .ok (.putfield ix, 3)) (kk : G Γ d M P X (pc + 3) lv st (MW Γ mo F (upd I k x) A f) n kc ks) : G Γ d M P X pc lv (.int x :: .ref mo :: st) (MW Γ mo F I A f) n kc ks := g_put hf hw MW_0 hk rfl rfl hs d1 (g_world (MW_sI rfl) kk)
end GMW
