/-! rows for the class's side: constants' fields and bytes, copies, inherited and private methods of the JDK -/
section GJR
/-- the formatter that is handed to the checks: null or an object -/
def gSI (Γ : Gm) : Value := if gF Γ 7 = 0 then .null else .ref (gF Γ 8)
theorem gSI_c {Γ : Gm} : (gSI Γ).category = 1 := by unfold gSI; split <;> rfl
/-- a String's bytes; a constant's or of the world -/
def SF (Γ : Gm) (E : Hp) (a v : Nat) : Prop := (∃ h z, E a = some (.inr (0, [.ref v, .int 0, h, z]))) ∨ (∃ i q, gstrs[i]? = some q ∧ a = gK Γ i ∧ v = gV Γ i)
def BA (Γ : Gm) (E : Hp) (v N : Nat) (b : Nat → Int32) : Prop := E v = some (.inl (gA Γ 1, N, .inl b)) ∨ (∃ (i : Nat) (q : String × Nat × String × List Int32), gstrs[i]? = some q ∧ v = gV Γ i ∧ N = q.2.2.2.length ∧ ∀ j, j < N → b j = q.2.2.2.getD j 0)
/-- a text: N letters b at a -/
def Str (Γ : Gm) (E : Hp) (a N : Nat) (b : Nat → Int32) : Prop := ∃ v, SF Γ E a v ∧ BA Γ E v N b
theorem Str.const {Γ : Gm} {E : Hp} {i N : Nat} {q : String × Nat × String × List Int32} {b : Nat → Int32} (h : gstrs[i]? = some q) (hN : N = q.2.2.2.length) (hb : ∀ j, j < N → b j = q.2.2.2.getD j 0) : Str Γ E (gK Γ i) N b := ⟨gV Γ i, Or.inr ⟨i, q, h, rfl, rfl⟩, Or.inr ⟨i, q, h, rfl, hN, hb⟩⟩
/-- more world, same texts -/
def Le (E E2 : Hp) (a : Nat) : Prop := ∀ e, E a = some e → E2 a = some e
theorem SF.mono {Γ : Gm} {E E2 : Hp} {a v : Nat} (h : SF Γ E a v) (he : Le E E2 a) : SF Γ E2 a v := by
  rcases h with ⟨x, z, h⟩ | h
  · exact Or.inl ⟨x, z, he _ h⟩
  · exact Or.inr h
theorem BA.mono {Γ : Gm} {E E2 : Hp} {v N : Nat} {b : Nat → Int32} (h : BA Γ E v N b) (he : Le E E2 v) : BA Γ E2 v N b := by
  rcases h with h | h
  · exact Or.inl (he _ h)
  · exact Or.inr h
variable {Γ : Gm} {d : Nat} {M : Mr} {P : Po} {X : Px} {pc : Nat} {lv : List (Nat × Value)} {st rest : List Value} {E : Hp} {n kc ks : Nat}
theorem SF.rcv {a v : Nat} (h : SF Γ E a v) : Rcv Γ E a "java/lang/String" := by
  rcases h with ⟨x, z, h⟩ | ⟨i, q, h, rfl, -⟩
  · exact Rcv.of h (show vwCl[0]? = some ("java/lang/String", TJ0, 4) from rfl)
  · exact Or.inr ⟨rfl, i, q, h, rfl⟩
theorem g_sval {a v ix : Nat} (hs : SF Γ E a v) (hf : Fl M.1 ix 0 0) (hl : Cond.fieldLink M.1 ix "java/lang/String" "value" "[B" ∈ wl) (dg : decode M.2.2.1 pc = .ok (.getfield ix, 3)) (kk : G Γ d M P X (pc + 3) lv (.ref v :: st) E n kc ks) : G Γ d M P X pc lv (.ref a :: st) E n kc ks := by
  rcases hs with ⟨x, z, h⟩ | ⟨i, q, h, rfl, rfl⟩
  · exact g_get hf h rfl dg kk
  · exact G.goF (fun hF _ _ hS _ k => vk_getf hF.1 hF.2.1 (hF.2.2.2.2.2.1.2.2.2.2.1 _ _ h).2.2.2.1 hS hF.2.2.2.1 (hF.2.2.2.2.1 _ hl) (fun _ z => z) dg k) kk
theorem g_scod {a v ix : Nat} (hs : SF Γ E a v) (hf : Fl M.1 ix 0 1) (hl : Cond.fieldLink M.1 ix "java/lang/String" "coder" "B" ∈ wl) (dg : decode M.2.2.1 pc = .ok (.getfield ix, 3)) (kk : G Γ d M P X (pc + 3) lv (.int (nI 0) :: st) E n kc ks) : G Γ d M P X pc lv (.ref a :: st) E n kc ks := by
  rcases hs with ⟨x, z, h⟩ | ⟨i, q, h, rfl, rfl⟩
  · exact g_get hf h rfl dg kk
  · exact G.goF (fun hF _ _ hS _ k => vk_getf hF.1 hF.2.1 (hF.2.2.2.2.2.1.2.2.2.2.1 _ _ h).2.2.1 hS hF.2.2.2.1 (hF.2.2.2.2.1 _ hl) (fun _ z => z) dg k) kk
theorem g_blen {v N : Nat} {b : Nat → Int32} (hs : BA Γ E v N b) (dg : decode M.2.2.1 pc = .ok (.arraylength, 1)) (kk : G Γ d M P X (pc + 1) lv (.int (nI N) :: st) E n kc ks) : G Γ d M P X pc lv (.ref v :: st) E n kc ks := by
  rcases hs with h | ⟨i, q, h, rfl, rfl, -⟩
  · exact g_len h (show (gtys Γ)[1]? = some (gA Γ 1, .byte) from rfl) rfl dg kk
  · exact G.goF (fun hF _ _ hS _ k => va_tlen hF.1 hF.2.1 (hF.2.2.2.2.2.1.2.2.2.2.1 _ _ h).2.2.2.2 hS rfl dg k) kk
theorem gstr_len : ∀ q ∈ gstrs, q.2.2.2.length < 2 ^ 31 := by decide +kernel
theorem g_bbald {v N j : Nat} {b : Nat → Int32} (hs : BA Γ E v N b) (hj : j < N) (hN : N < 2 ^ 31) (dg : decode M.2.2.1 pc = .ok (.baload, 1)) (kk : G Γ d M P X (pc + 1) lv (.int (b j) :: st) E n kc ks) : G Γ d M P X pc lv (.int (nI j) :: .ref v :: st) E n kc ks := by
  rcases hs with h | ⟨i, q, h, rfl, rfl, hb⟩
  · exact gn_bald h hj hN dg kk
  · refine G.goF (fun hF _ _ hS _ k => va_tb hF.1 hF.2.1 (hF.2.2.2.2.2.1.2.2.2.2.1 _ _ h).2.2.2.2 hS (vp_in_nI hj hN) (v := .int (b j)) (by rw [nI_clamp (by omega), hb j hj]) dg k) kk
/-- a static array of bytes of the environment: the figures -/
theorem g_dgt {k : Nat} {f : Nat → Value} {x : Int32} {j : Nat} (hk : (k = 5 ∧ f = gOnes) ∨ (k = 6 ∧ f = gTens)) (hj : j < 100) (hv : f j = .int x) (dg : decode M.2.2.1 pc = .ok (.baload, 1)) (kk : G Γ d M P X (pc + 1) lv (.int x :: st) E n kc ks) : G Γ d M P X pc lv (.int (nI j) :: .ref (gF Γ k) :: st) E n kc ks := by
  rcases hk with ⟨rfl, rfl⟩ | ⟨rfl, rfl⟩
  · exact G.goF (fun hF _ _ hS _ k => va_tb hF.1 hF.2.1 hF.2.2.2.2.2.1.2.2.2.2.2.2.1.1 hS (vp_in_nI hj (by decide)) (by rw [nI_clamp (by omega)]; exact hv) dg k) kk
  · exact G.goF (fun hF _ _ hS _ k => va_tb hF.1 hF.2.1 hF.2.2.2.2.2.1.2.2.2.2.2.2.1.2 hS (vp_in_nI hj (by decide)) (by rw [nI_clamp (by omega)]; exact hv) dg k) kk
/-- where a row's entries can be read from, at run time -/
def Srd (Γ : Gm) (E : Hp) (a0 n0 : Nat) (f : Nat → Int32) (ty : FieldType) : Prop := ∀ (s : State) (H : Heap) (locs : List Loc), HS Γ E H → Ev Γ s s.heap → va_S (AB Γ) s.heap H locs → ∃ scr : Cell, H[a0]? = some scr ∧ s.isArrayOf scr ty ∧ scr.vm ≠ .unknown ∧ n0 ≤ scr.slots.size ∧ ∀ j, j < n0 → scr.slots[j]? = some (.int (f j))
theorem Srd.of {t a0 n0 : Nat} {f : Nat → Int32} {ty : FieldType} (h : E a0 = some (.inl (gA Γ t, n0, .inl f))) (ht : (gtys Γ)[t]? = some (gA Γ t, ty)) : Srd Γ E a0 n0 f ty := by
  intro s H locs hH hev hS
  refine ⟨vp_cell (gA Γ t) (n0, .inl f), (hH a0 _ h).1, (hev.2.1.2 t _ ht).1 n0 (fun j => .int (f j)), (fun h => by cases h), Nat.le_of_eq ?_, fun j hj => ?_⟩
  · show _ = (arrV _ _ _).slots.size; rw [arrV_size]
  · show (arrV (gA Γ t) n0 (fun j => .int (f j))).slots[j]? = _
    rw [arrV_read _ _ hj]
theorem Srd.ba {v N : Nat} {b : Nat → Int32} (h : BA Γ E v N b) : Srd Γ E v N b .byte := by
  rcases h with h | ⟨i, q, h, rfl, rfl, hb⟩
  · exact Srd.of h (show (gtys Γ)[1]? = some (gA Γ 1, .byte) from rfl)
  · intro s H locs hH hev hS
    obtain ⟨cell, h1, h2, h3, h4, -, h6, h7⟩ := (hev.2.2.2.2.1 _ _ h).2.2.2.2
    refine ⟨cell, by rw [hS.2.1 _ (Array.getElem?_eq_some_iff.mp h1).1 h7]; exact h1, h2, h3, h4, fun j hj => by rw [h6 j hj, hb j hj]⟩
/-- System.arraycopy into a row of the world -/
theorem g_copy {ix t a0 a n0 n1 sp dp N : Nat} {f g : Nat → Int32} {ty : FieldType} {E2 : Hp} (hl : Cond.methodLink M.1 ix arraycopyName ∈ wl) (hnat : Cond.native arraycopyName ∈ wl) (hstat : Cond.static arraycopyName ∈ wl) (hini : Cond.initialized "java/lang/System" ∈ wl)
    (hsrc : Srd Γ E a0 n0 f ty) (ha1 : E a = some (.inl (gA Γ t, n1, .inl g))) (ht : (gtys Γ)[t]? = some (gA Γ t, ty)) (hprim : refKind ty = false) (h4 : sp + N ≤ n0) (h5 : dp + N ≤ n1) (hb : sp < 2 ^ 31 ∧ dp < 2 ^ 31 ∧ N < 2 ^ 31) (hfit : ∀ i, i < N → fits ty (.int (f (sp + i))) = true)
    (hd : 1 ≤ d) (hrest : (rest.map fun v => v.category).sum ≤ 8) (hE : hset E a (.inl (gA Γ t, n1, .inl (va_cpy f g sp dp N))) = E2) (dg : decode M.2.2.1 pc = .ok (.invokestatic ix, 3)) (kk : G Γ d M P X (pc + 3) lv rest E2 n kc ks) : G Γ d M P X pc lv (.int (nI N) :: .int (nI dp) :: .ref a :: .int (nI sp) :: .ref a0 :: rest) E n kc ks := by
  subst hE
  intro p e R s m args below meth c Q hF hE9 H locs cells slots ls h1 h2 h3 h4' h5' h6
  obtain ⟨hx, hcb, hml, hown, hts, hev, hdR, hlR, -⟩ := id hF
  obtain ⟨scr, s1, s2, s3, s4, s5⟩ := hsrc s H locs h1 hev h3
  have hK := hev.2.1
  have eS : (nI sp).toNatClampNeg = sp := nI_clamp hb.1
  have eD : (nI dp).toNatClampNeg = dp := nI_clamp hb.2.1
  have eN : (nI N).toNatClampNeg = N := nI_clamp hb.2.2
  intro T hT X9
  have hc1 : H[a]? = some (vp_cell (gA Γ t) (n1, .inl g)) := (h1 a _ ha1).1
  obtain ⟨s6, k0, hk0, cm0, hkk0⟩ := s2
  obtain ⟨-, k1, hk1, cm1, hkk1⟩ := (hK.2 t _ ht).1 n1 (fun j => .int (g j))
  obtain ⟨vm', X', step⟩ := X9.arraycopy hx hown (hts _ hl) (hts _ hnat) (hts _ hstat) (hts _ hini) (src := a0) (dst := a) (cs := scr) (cd := vp_cell (gA Γ t) (n1, .inl g)) (srcPos := nI sp) (destPos := nI dp) (n := nI N) (by rw [hT]; exact s1) (by rw [hT]; exact hc1)
    s6 (fun _ h => by cases h) s3 (fun h => by cases h) hk0 hk1 hkk0 hkk1 (by simp [hprim]) (nI_pos hb.1) (nI_pos hb.2.1) (nI_pos hb.2.2)
    (by rw [nI_toInt hb.1, nI_toInt hb.2.2]; omega)
    (by rw [nI_toInt hb.2.1, nI_toInt hb.2.2]; show ¬ _ > ((arrV (gA Γ t) n1 (fun j => .int (g j))).slots.size : Int); rw [arrV_size]; omega)
    (fun vm₁ _ i hi => by
      rw [eN] at hi
      have e : scr.slots.getD ((nI sp).toNatClampNeg + i) .null = .int (f (sp + i)) := by
        rw [eS, Array.getD_eq_getD_getElem?, s5 _ (by omega)]
        rfl
      refine ⟨?_, ?_⟩
      · rw [e]; exact hfit i hi
      · rw [e]; exact trivial)
    (g := F0 m pc ls (.int (nI N) :: .int (nI dp) :: .ref a :: .int (nI sp) :: .ref a0 :: rest)) rfl (by rw [h4'.1]; exact hml.symm) (rest := rest) rfl (by rw [hcb]; exact dg) (by omega) (by show 2 * 0 + _ + (7 + 11) ≤ _; omega)
  have e1 : copied scr (vp_cell (gA Γ t) (n1, .inl g)) (nI sp) (nI dp) (nI N) = vp_cell (gA Γ t) (n1, .inl (va_cpy f g sp dp N)) := by
    have := va_copiedX (fun z => Value.int z) scr (gA Γ t) (n1 := n1) (sp := (nI sp).toNatClampNeg) (dp := (nI dp).toNatClampNeg) (n := (nI N).toNatClampNeg) f g s5 (by rw [eS, eN]; exact h4)
    rw [eS, eD, eN] at this
    exact (by show Cell.storeRun _ (nI dp).toNatClampNeg (scr.stretch (nI sp).toNatClampNeg (nI N).toNatClampNeg) = _; rw [eS, eD, eN]; exact this)
  rw [e1] at X' step
  have hl9 : a < H.size := (Array.getElem?_eq_some_iff.mp hc1).1
  have hheap : ((T.setVm vm').setCell a (vp_cell (gA Γ t) (n1, .inl (va_cpy f g sp dp N)))).heap = H.setIfInBounds a (vp_cell (gA Γ t) (n1, .inl (va_cpy f g sp dp N))) := by rw [← hT]; rfl
  have oq : ∀ q : Nat, q ≠ a → (H.setIfInBounds a (vp_cell (gA Γ t) (n1, .inl (va_cpy f g sp dp N))))[q]? = H[q]? := fun q hq => by simp [Array.getElem?_setIfInBounds, Ne.symm hq]
  have hB := (h1 a _ ha1).2
  obtain ⟨t2, a1, b1⟩ := kk p e R s m args below meth c Q hF hE9 _ _ cells slots ls (h1.set ha1 (show (H.setIfInBounds a _)[a]? = some _ by simp [Array.getElem?_setIfInBounds, hl9]) oq) (by rw [Array.size_setIfInBounds]; exact h2) ⟨by rw [Array.size_setIfInBounds]; exact h3.1, fun q g1 g2 => by
      rw [oq q (fun e => g2 (by rw [e]; exact hB))]
      exact h3.2.1 q g1 g2, fun q hq => by
      rcases List.mem_append.mp hq with h | h
      · exact h3.2.2 q h
      · obtain ⟨z, -, hz⟩ := List.mem_map.mp h
        rw [← hz]
        exact hB⟩ h4' h5' h6 _ hheap X'
  exact ⟨t2, step t2 a1, b1⟩
end GJR
