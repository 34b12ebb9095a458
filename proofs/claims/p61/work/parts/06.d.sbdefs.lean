/-! StringBuilder's picture: small signs only, 16 or 34 bytes -/
section GSBD
theorem hset_hs {E : Hp} {a : Nat} {x y : va_E} : hset (hset E a x) a y = hset E a y := by
  funext q; unfold hset; by_cases h : q = a
  · rw [if_pos h, if_pos h]
  · rw [if_neg h, if_neg h, if_neg h]
theorem isub_le0 {a b : Nat} (ha : a < 2 ^ 31) (hb : b < 2 ^ 31) : nI a - nI b ≤ 0 ↔ a ≤ b := by
  rw [Int32.le_iff_toInt_le, Int32.toInt_sub, nI_toInt ha, nI_toInt hb, Int.bmod_eq_of_le (by omega) (by omega)]
  show (a : Int) - b ≤ 0 ↔ _
  omega
def A7 (b : Nat → Int32) (N : Nat) : Prop := ∀ j, j < N → ∃ l, l < 128 ∧ b j = nI l
theorem a7_all : ∀ l, l < 128 → (fits .byte (.int (nI l)) = true ∧ (nI l).toInt8.toInt32 = nI l ∧ chr (nI l &&& nI 255) = nI l ∧ chr (nI l) = nI l) := by decide +kernel
theorem A7.fit {b : Nat → Int32} {N j : Nat} (h : A7 b N) (hj : j < N) : fits .byte (.int (b j)) = true := by
  obtain ⟨l, h1, h2⟩ := h j hj; rw [h2]; exact (a7_all l h1).1
theorem A7.ch {b : Nat → Int32} {N j : Nat} (h : A7 b N) (hj : j < N) : chr (b j &&& nI 255) = b j := by
  obtain ⟨l, h1, h2⟩ := h j hj; rw [h2]; exact (a7_all l h1).2.2.1
theorem a7_nar {b : Nat → Int32} {N j : Nat} (h : A7 b N) (hj : j < N) : narrow .char (.int (b j)) = .int (b j) := by
  obtain ⟨l, h1, h2⟩ := h j hj
  rw [h2, ← (a7_all l h1).2.2.2]
  exact pk_nc _
theorem A7.put {b : Nat → Int32} {N k l : Nat} (h : A7 b N) (hl : l < 128) : A7 (upd b k (nI l)) N := fun j hj => by
  by_cases e : j = k
  · exact ⟨l, hl, by unfold upd; rw [if_pos e]⟩
  · obtain ⟨m, h1, h2⟩ := h j hj
    exact ⟨m, h1, by unfold upd; rw [if_neg e]; exact h2⟩
theorem A7.cpy {f g : Nat → Int32} {N sp dp M n0 : Nat} (hf : A7 f n0) (hg : A7 g N) (h : sp + M ≤ n0) : A7 (va_cpy f g sp dp M) N := fun j hj => by
  by_cases e : dp ≤ j ∧ j < dp + M
  · obtain ⟨l, h1, h2⟩ := hf (sp + (j - dp)) (by omega)
    exact ⟨l, h1, by unfold va_cpy; rw [if_pos e]; exact h2⟩
  · obtain ⟨m, h1, h2⟩ := hg j hj
    exact ⟨m, h1, by unfold va_cpy; rw [if_neg e]; exact h2⟩
theorem A7.zero {N : Nat} : A7 (fun _ => nI 0) N := fun _ _ => ⟨0, by decide, rfl⟩
/-- the builder's object at a, its bytes at v -/
def SB (Γ : Gm) (E : Hp) (a v cap : Nat) (b : Nat → Int32) (cnt : Nat) : Prop := (∃ ml : Int32, E a = some (.inr (1, [.ref v, .int (nI 0), .int ml, .int (nI cnt)]))) ∧ E v = some (.inl (gA Γ 1, cap, .inl b)) ∧ A7 b cap ∧ (cap = 16 ∨ cap = 34) ∧ cnt ≤ cap
/-- elsewhere nothing has changed -/
def Fx (E E2 : Hp) (n a v : Nat) : Prop := ∀ q, q ≠ a → q ≠ v → q < n → E2 q = E q
def SBp (Γ : Gm) (E : Hp) (n a v K cnt2 : Nat) (B : Nat → Int32) (E2 : Hp) (n2 : Nat) : Prop := ∃ v2 cap2 b2, SB Γ E2 a v2 cap2 b2 cnt2 ∧ K ≤ cap2 ∧ (∀ j, j < cnt2 → b2 j = B j) ∧ Fx E E2 n a v ∧ (v2 = v ∨ n ≤ v2) ∧ n ≤ n2
theorem SBp.trans {Γ : Gm} {E E2 E3 : Hp} {n n2 n3 a v v2 K c : Nat} {B : Nat → Int32} (hF : Fx E E2 n a v) (hV : v2 = v ∨ n ≤ v2) (hn : n ≤ n2) (h : SBp Γ E2 n2 a v2 K c B E3 n3) : SBp Γ E n a v K c B E3 n3 := by
  obtain ⟨v3, cap3, b3, h1, h2, h3, h4, h5, h6⟩ := h
  refine ⟨v3, cap3, b3, h1, h2, h3, fun q g1 g2 g3 => (h4 q g1 (by omega) (by omega)).trans (hF q g1 g2 g3), by omega, by omega⟩
theorem SBp.text {Γ : Gm} {E E2 : Hp} {n n2 a v K c : Nat} {B B2 : Nat → Int32} (h : SBp Γ E n a v K c B E2 n2) (hB : ∀ j, j < c → B j = B2 j) : SBp Γ E n a v K c B2 E2 n2 := by
  obtain ⟨v3, cap3, b3, h1, h2, h3, h4⟩ := h
  exact ⟨v3, cap3, b3, h1, h2, fun j hj => (h3 j hj).trans (hB j hj), h4⟩
theorem SB.rcv {Γ : Gm} {E : Hp} {a v cap cnt : Nat} {b : Nat → Int32} (h : SB Γ E a v cap b cnt) : Rcv Γ E a "java/lang/StringBuilder" := by
  obtain ⟨⟨ml, h⟩, -⟩ := h
  exact Rcv.of h (show vwCl[1]? = some ("java/lang/StringBuilder", TJ4, 4) from rfl)
/-- t behind b's first cnt -/
def catF (b : Nat → Int32) (cnt : Nat) (t : Nat → Int32) : Nat → Int32 := fun j => if j < cnt then b j else t (j - cnt)
variable {Γ : Gm} {d : Nat} {M : Mr} {P : Po} {X : Px} {pc : Nat} {lv : List (Nat × Value)} {st rest : List Value} {E : Hp} {n kc ks : Nat}
/-- what the heap itself says of the world -/
theorem G.lt (k : (∀ a e, E a = some e → a < n) → gB Γ ≤ n → G Γ d M P X pc lv st E n kc ks) : G Γ d M P X pc lv st E n kc ks := by
  intro p e R s m args below meth c Q hF hE H locs cells slots ls h1 h2 h3 h4 h5 h6
  exact k (fun a e ha => by rw [← h2]; exact h1.lt ha) (by rw [← h2]; exact Nat.le_trans hF.2.2.2.2.2.1.2.2.2.2.2.2.2.2.1 h3.1) p e R s m args below meth c Q hF hE H locs cells slots ls h1 h2 h3 h4 h5 h6
theorem gn_nb {N : Nat} (hw : Cond.arrayClass .byte ∈ wl) (hN : N < 2 ^ 27) (dg : decode M.2.2.1 pc = .ok (.newarray .byte, 2)) (kk : gB Γ ≤ n → (∀ a e, E a = some e → a < n) → G Γ d M P X (pc + 2) lv (.ref n :: st) (hset E n (.inl (gA Γ 1, N, .inl (fun _ => nI 0)))) (n + 1) kc ks) : G Γ d M P X pc lv (.int (nI N) :: st) E n (kc + 1) (ks + N) :=
  g_newa (t := 1) (ty := .byte) (a0 := (N, .inl (fun _ => nI 0))) rfl rfl hw (vi_0 rfl) (nI_pos (by omega)) (nI_clamp (by omega)) (by show N * 1 ≤ _; omega) (fun U cA h => h) dg kk
theorem gn_ni {N : Nat} (hw : Cond.arrayClass .int ∈ wl) (hN : N < 2 ^ 27) (dg : decode M.2.2.1 pc = .ok (.newarray .int, 2)) (kk : gB Γ ≤ n → (∀ a e, E a = some e → a < n) → G Γ d M P X (pc + 2) lv (.ref n :: st) (hset E n (.inl (gA Γ 0, N, .inl (fun _ => nI 0)))) (n + 1) kc ks) : G Γ d M P X pc lv (.int (nI N) :: st) E n (kc + 1) (ks + N) :=
  g_newa (t := 0) (ty := .int) (a0 := (N, .inl (fun _ => nI 0))) rfl rfl hw (vi_0 rfl) (nI_pos (by omega)) (nI_clamp (by omega)) (by show N * 4 ≤ _; omega) (fun U cA h => h) dg kk
theorem gn_nz {N : Nat} (hw : Cond.arrayClass .boolean ∈ wl) (hN : N < 2 ^ 27) (dg : decode M.2.2.1 pc = .ok (.newarray .boolean, 2)) (kk : gB Γ ≤ n → (∀ a e, E a = some e → a < n) → G Γ d M P X (pc + 2) lv (.ref n :: st) (hset E n (.inl (gA Γ 2, N, .inl (fun _ => nI 0)))) (n + 1) kc ks) : G Γ d M P X pc lv (.int (nI N) :: st) E n (kc + 1) (ks + N) :=
  g_newa (t := 2) (ty := .boolean) (a0 := (N, .inl (fun _ => nI 0))) rfl rfl hw (vi_0 rfl) (nI_pos (by omega)) (nI_clamp (by omega)) (by show N * 1 ≤ _; omega) (fun U cA h => h) dg kk
theorem gn_str {ix : Nat} (hl : Cond.classLink M.1 ix "java/lang/String" ∈ wl) (hi : Cond.instantiable "java/lang/String" 4 ∈ wl) (hini : Cond.initialized "java/lang/String" ∈ wl) (dg : decode M.2.2.1 pc = .ok (.new ix, 3)) (kk : gB Γ ≤ n → (∀ a e, E a = some e → a < n) → G Γ d M P X (pc + 3) lv (.ref n :: st) (hset E n (.inr (0, [.null, .int (nI 0), .int (nI 0), .int (nI 0)]))) (n + 1) kc ks) : G Γ d M P X pc lv st E n (kc + 1) (ks + 4) :=
  g_new (ci := 0) (C := "java/lang/String") (T := TJ0) (ty := tyJ0) rfl u_J0 tyJ0_ok hl hi hini (fun j hj => by
    have h : j = 0 ∨ j = 1 ∨ j = 2 ∨ j = 3 := by omega
    rcases h with rfl | rfl | rfl | rfl <;> rfl) dg kk
theorem gn_sb {ix : Nat} (hl : Cond.classLink M.1 ix "java/lang/StringBuilder" ∈ wl) (hi : Cond.instantiable "java/lang/StringBuilder" 4 ∈ wl) (hini : Cond.initialized "java/lang/StringBuilder" ∈ wl) (dg : decode M.2.2.1 pc = .ok (.new ix, 3)) (kk : gB Γ ≤ n → (∀ a e, E a = some e → a < n) → G Γ d M P X (pc + 3) lv (.ref n :: st) (hset E n (.inr (1, [.null, .int (nI 0), .int (nI 0), .int (nI 0)]))) (n + 1) kc ks) : G Γ d M P X pc lv st E n (kc + 1) (ks + 4) :=
  g_new (ci := 1) (C := "java/lang/StringBuilder") (T := TJ4) (ty := tyJ4) rfl u_J4 tyJ4_ok hl hi hini (fun j hj => by
    have h : j = 0 ∨ j = 1 ∨ j = 2 ∨ j = 3 := by omega
    rcases h with rfl | rfl | rfl | rfl <;> rfl) dg kk
theorem hset_c {E : Hp} {a b : Nat} {x y z : va_E} (h : a ≠ b) : hset (hset (hset E a x) b y) a z = hset (hset E a z) b y := by
  funext q; unfold hset
  by_cases e : q = a
  · rw [if_pos e, if_neg (by omega), if_pos e]
  · rw [if_neg e, if_neg e, if_neg e]
theorem hset_cm {E : Hp} {a b : Nat} {x y : va_E} (h : a ≠ b) : hset (hset E a x) b y = hset (hset E b y) a x := by
  funext q; unfold hset
  by_cases e : q = a
  · rw [if_neg (by omega), if_pos e, if_pos e]
  · rw [if_neg e, if_neg e]
variable {M1 : Mr} {d1 mc ms ix k b : Nat} {As : List Value} {E2 : Hp} {n2 : Nat}
theorem gu_I (hC : Ct Γ d1 M1 mc ms (.ref b :: As) E n (Rt none E2 n2) X0) (lk : LkI M.1 ix M1 k) (hk : As.length = k) (hd : d1 + 1 ≤ d) (hrest : (rest.map fun v => v.category).sum ≤ 8) (hst : st = As.reverse ++ .ref b :: rest) (dg : decode M.2.2.1 pc = .ok (.invokespecial ix, 3))
    (kk : G Γ d M P X (pc + 3) lv rest E2 n2 kc ks) : G Γ d M P X pc lv st E n (kc + mc) (ks + ms) := g_invI hC lk hk hd hrest hst dg (fun _ _ _ h => h.elim) (fun v E1 n1 h => by obtain ⟨rfl, rfl, rfl⟩ := h; exact kk)
theorem gu_IN (hC : Ct Γ d1 M1 mc ms (.ref b :: As) E n (Rt none E2 n2) X0) (lk : LkIN M.1 ix M1 k) (hk : As.length = k) (hd : d1 + 1 ≤ d) (hrest : (rest.map fun v => v.category).sum ≤ 8) (hst : st = As.reverse ++ .ref b :: rest) (dg : decode M.2.2.1 pc = .ok (.invokespecial ix, 3))
    (kk : G Γ d M P X (pc + 3) lv rest E2 n2 kc ks) : G Γ d M P X pc lv st E n (kc + mc) (ks + ms) := g_invIN hC lk hk hd hrest hst dg (fun _ _ _ h => h.elim) (fun v E1 n1 h => by obtain ⟨rfl, rfl, rfl⟩ := h; exact kk)
end GSBD
