section GJC
variable {Γ : Gm} {d : Nat} {M : Mr} {P : Po} {X : Px} {pc : Nat} {lv : List (Nat × Value)} {st rest : List Value} {E : Hp} {n kc ks : Nat}
variable {M1 : Mr} {d1 mc ms ix k : Nat} {b : Nat} {As : List Value} {P1 : Po} {X1 : Px}
/-- a private method of a class above C is its own choice -/
theorem sel_priv {C : String} {y0 y : MethodName} {s : State} {args : Array Value} (hcls : y0.cls = y.cls) (hy : y.cls ≠ "java/lang/invoke/MethodHandle" ∧ y.cls ≠ "java/lang/invoke/VarHandle")
    (h0 : (Cond.selects C y0 y0).before args s = true) (hpriv : (Cond.privateMethod y).before args s = true) (hinst : (Cond.instanceMethod y).before args s = true) : (Cond.selects C y y).before args s = true := by
  obtain ⟨c, r, m, hc, hr, hm, hs, mk, hmk, hni⟩ := Cond.selects_spec h0
  obtain ⟨mk2, methM, hnamed, hmethM, -, -⟩ := Cond.instanceMethod_spec hinst
  have hfound : s.methodFound? y.cls y.name y.desc = some mk2 := State.methodFound?_of_named hnamed hy
  have h1 := findClass_of_methodNamed hm
  have h2 := findClass_of_methodNamed hnamed
  rw [hcls] at h1
  have hcc : m.cls = mk2.cls := Option.some.inj (h1.symm.trans h2)
  rw [hcc] at hmk
  have hsel : selectMethod {} s.vm c mk2 = .method mk2 := selectMethod_private hmethM (Cond.privateMethod_at hpriv mk2 methM hnamed hmethM)
  simp only [Cond.before, Cond.holds, Cond.value, hc, hfound, hnamed, hsel, hmk]
  simp [hni]
/-- a method by another class's name, told by what the tables say -/
def LkY (own : String) (ix : Nat) (C owner : String) (x : MethodName) (M1 : Mr) (k : Nat) : Prop := Cond.methodLink own ix x ∈ wl ∧ Cond.sameMethod x.cls owner x.name x.desc ∈ wl ∧ (∀ (args : Array Value) (s : State), (∀ w ∈ wl, w.before args s = true) → (Cond.selects C x M1.2.1).before args s = true) ∧ Cond.instanceMethod M1.2.1 ∈ wl ∧ Cond.initialized M1.2.1.cls ∈ wl ∧ Cd M1 ∈ wl ∧ (∀ (args : Array Value) (s : State), (∀ w ∈ wl, w.before args s = true) → va_Decl s ⟨owner, x.name, x.desc⟩) ∧ (owner ≠ "java/lang/invoke/MethodHandle" ∧ owner ≠ "java/lang/invoke/VarHandle") ∧ (parseMethodDescriptor x.desc).map (fun d => d.parameters.length) = some k ∧ M1.2.2.2.1 ≤ 45
theorem g_invY {C owner : String} {x : MethodName} (hC : Ct Γ d1 M1 mc ms (.ref b :: As) E n P1 X1) (lk : LkY M.1 ix C owner x M1 k) (hk : As.length = k) (hr : Rcv Γ E b C) (hd : d1 + 1 ≤ d) (hrest : (rest.map fun v => v.category).sum ≤ 8) (hst : st = As.reverse ++ .ref b :: rest) (dg : decode M.2.2.1 pc = .ok (.invokevirtual ix, 3)) (hX : ∀ x E1 n1, X1 x E1 n1 → X x E1 n1)
    (kk : ∀ v E1 n1, P1 v E1 n1 → G Γ d M P X (pc + 3) lv (v.toList ++ rest) E1 n1 kc ks) : G Γ d M P X pc lv st E n (kc + mc) (ks + ms) := by
  intro p e R s m args below meth c Q hF hE H locs cells slots ls h1 h2 h3 h4 h5 h6
  obtain ⟨hx, hb, hml, hown, hts, hev, hdR, hlR, -⟩ := id hF
  obtain ⟨w1, w2, w3, w6, w4, w5, m4, m1, m2, m3⟩ := lk
  refine g_run (vx_runU (n := k) (C := C) (owner := owner) (x := x) ⟨hx, hb, hml, hown, hts⟩ hC ⟨⟨rfl, rfl, by show d1 + 1 ≤ R.frames; omega, by show 8 + (M1.2.2.2.1 + 11) + 64 * d1 ≤ R.locals; omega, pay_in hts (wl_cons w5), List.mem_cons_self⟩, hts _ w5, hts _ w4, m1, (fun sig hs => by rw [hs] at m2; exact (Option.some.inj m2).symm), hts _ w1, hts _ w2, m4 args s hts, w3 args s hts, hts _ w6⟩ ⟨Pg.blind, hr.use h1 hev h3, g_pre h1 h2 hev h3⟩ rfl hk h4.1 hst (by show 2 * 0 + _ ≤ 8; omega) dg ⟨by omega, by omega⟩) h3 (fun x E1 n1 H1 locs1 q ce a1 a2 a3 a4 a5 a6 a7 => hE.2.2 x E1 n1 H1 locs1 _ _ pc ls rest q ce (hX _ _ _ a1) a2 a3 a4 (by omega) (by omega) a5 a6 a7 h4.1) (fun v E1 n1 H1 locs1 a1 a2 a3 a4 => kk v E1 n1 a1 p e R s m args below meth c Q hF hE H1 locs1 _ _ ls a2 a3 a4 h4 (by omega) (by omega))
section
variable {v : Value} {E2 : Hp} {n2 : Nat}
theorem gv_Y {C owner : String} {x : MethodName} (hC : Ct Γ d1 M1 mc ms (.ref b :: As) E n (Rt (some v) E2 n2) X0) (lk : LkY M.1 ix C owner x M1 k) (hk : As.length = k) (hr : Rcv Γ E b C) (hd : d1 + 1 ≤ d) (hrest : (rest.map fun v => v.category).sum ≤ 8) (hst : st = As.reverse ++ .ref b :: rest) (dg : decode M.2.2.1 pc = .ok (.invokevirtual ix, 3))
    (kk : G Γ d M P X (pc + 3) lv (v :: rest) E2 n2 kc ks) : G Γ d M P X pc lv st E n (kc + mc) (ks + ms) := g_invY hC lk hk hr hd hrest hst dg (fun _ _ _ h => h.elim) (fun v E1 n1 h => by obtain ⟨rfl, rfl, rfl⟩ := h; exact kk)
theorem gu_Y {C owner : String} {x : MethodName} (hC : Ct Γ d1 M1 mc ms (.ref b :: As) E n (Rt none E2 n2) X0) (lk : LkY M.1 ix C owner x M1 k) (hk : As.length = k) (hr : Rcv Γ E b C) (hd : d1 + 1 ≤ d) (hrest : (rest.map fun v => v.category).sum ≤ 8) (hst : st = As.reverse ++ .ref b :: rest) (dg : decode M.2.2.1 pc = .ok (.invokevirtual ix, 3))
    (kk : G Γ d M P X (pc + 3) lv rest E2 n2 kc ks) : G Γ d M P X pc lv st E n (kc + mc) (ks + ms) := g_invY hC lk hk hr hd hrest hst dg (fun _ _ _ h => h.elim) (fun v E1 n1 h => by obtain ⟨rfl, rfl, rfl⟩ := h; exact kk)
theorem gx_Y0 {C owner : String} {x : MethodName} (hC : Ct Γ d1 M1 mc ms (.ref b :: As) E n P1 X0) (lk : LkY M.1 ix C owner x M1 k) (hk : As.length = k) (hr : Rcv Γ E b C) (hd : d1 + 1 ≤ d) (hrest : (rest.map fun v => v.category).sum ≤ 8) (hst : st = As.reverse ++ .ref b :: rest) (dg : decode M.2.2.1 pc = .ok (.invokevirtual ix, 3)) (hv : ∀ v E1 n1, P1 v E1 n1 → v = none)
    (kk : ∀ E1 n1, P1 none E1 n1 → G Γ d M P X (pc + 3) lv rest E1 n1 kc ks) : G Γ d M P X pc lv st E n (kc + mc) (ks + ms) := g_invY hC lk hk hr hd hrest hst dg (fun _ _ _ h => h.elim) (fun v E1 n1 h => by have e := hv v E1 n1 h; subst e; exact kk E1 n1 h)
theorem gx_S0 (hC : Ct Γ d1 M1 mc ms As E n P1 X0) (lk : LkS M.1 ix M1 k) (hk : As.length = k) (hd : d1 + 1 ≤ d) (hrest : (rest.map fun v => v.category).sum ≤ 8) (hst : st = As.reverse ++ rest) (dg : decode M.2.2.1 pc = .ok (.invokestatic ix, 3)) (hv : ∀ v E1 n1, P1 v E1 n1 → v = none)
    (kk : ∀ E1 n1, P1 none E1 n1 → G Γ d M P X (pc + 3) lv rest E1 n1 kc ks) : G Γ d M P X pc lv st E n (kc + mc) (ks + ms) := g_invS hC lk hk hd hrest hst dg (fun _ _ _ h => h.elim) (fun v E1 n1 h => by have e := hv v E1 n1 h; subst e; exact kk E1 n1 h)
theorem gx_Sr (hC : Ct Γ d1 M1 mc ms As E n P1 X0) (lk : LkS M.1 ix M1 k) (hk : As.length = k) (hd : d1 + 1 ≤ d) (hrest : (rest.map fun v => v.category).sum ≤ 8) (hst : st = As.reverse ++ rest) (dg : decode M.2.2.1 pc = .ok (.invokestatic ix, 3)) (hv : ∀ v E1 n1, P1 v E1 n1 → ∃ a, v = some (.ref a))
    (kk : ∀ a E1 n1, P1 (some (.ref a)) E1 n1 → G Γ d M P X (pc + 3) lv (.ref a :: rest) E1 n1 kc ks) : G Γ d M P X pc lv st E n (kc + mc) (ks + ms) := g_invS hC lk hk hd hrest hst dg (fun _ _ _ h => h.elim) (fun v E1 n1 h => by obtain ⟨a, e⟩ := hv v E1 n1 h; subst e; exact kk a E1 n1 h)
theorem gx_Vr (hC : Ct Γ d1 M1 mc ms (.ref b :: As) E n P1 X0) (lk : LkV M.1 ix M1 k) (hk : As.length = k) (hr : Rcv Γ E b M1.1) (hd : d1 + 1 ≤ d) (hrest : (rest.map fun v => v.category).sum ≤ 8) (hst : st = As.reverse ++ .ref b :: rest) (dg : decode M.2.2.1 pc = .ok (.invokevirtual ix, 3)) (hv : ∀ v E1 n1, P1 v E1 n1 → ∃ a, v = some (.ref a))
    (kk : ∀ a E1 n1, P1 (some (.ref a)) E1 n1 → G Γ d M P X (pc + 3) lv (.ref a :: rest) E1 n1 kc ks) : G Γ d M P X pc lv st E n (kc + mc) (ks + ms) := g_invV hC lk hk hr hd hrest hst dg (fun _ _ _ h => h.elim) (fun v E1 n1 h => by obtain ⟨a, e⟩ := hv v E1 n1 h; subst e; exact kk a E1 n1 h)
theorem gx_I0 (hC : Ct Γ d1 M1 mc ms (.ref b :: As) E n P1 X0) (lk : LkI M.1 ix M1 k) (hk : As.length = k) (hd : d1 + 1 ≤ d) (hrest : (rest.map fun v => v.category).sum ≤ 8) (hst : st = As.reverse ++ .ref b :: rest) (dg : decode M.2.2.1 pc = .ok (.invokespecial ix, 3)) (hv : ∀ v E1 n1, P1 v E1 n1 → v = none)
    (kk : ∀ E1 n1, P1 none E1 n1 → G Γ d M P X (pc + 3) lv rest E1 n1 kc ks) : G Γ d M P X pc lv st E n (kc + mc) (ks + ms) := g_invI hC lk hk hd hrest hst dg (fun _ _ _ h => h.elim) (fun v E1 n1 h => by have e := hv v E1 n1 h; subst e; exact kk E1 n1 h)
theorem gx_IN0 (hC : Ct Γ d1 M1 mc ms (.ref b :: As) E n P1 X0) (lk : LkIN M.1 ix M1 k) (hk : As.length = k) (hd : d1 + 1 ≤ d) (hrest : (rest.map fun v => v.category).sum ≤ 8) (hst : st = As.reverse ++ .ref b :: rest) (dg : decode M.2.2.1 pc = .ok (.invokespecial ix, 3)) (hv : ∀ v E1 n1, P1 v E1 n1 → v = none)
    (kk : ∀ E1 n1, P1 none E1 n1 → G Γ d M P X (pc + 3) lv rest E1 n1 kc ks) : G Γ d M P X pc lv st E n (kc + mc) (ks + ms) := g_invIN hC lk hk hd hrest hst dg (fun _ _ _ h => h.elim) (fun v E1 n1 h => by have e := hv v E1 n1 h; subst e; exact kk E1 n1 h)
theorem gx_U {ci N : Nat} {C : String} {T : u_T} {fs : List Value} (hC : Ct Γ d1 M1 mc ms (.ref b :: As) E n P1 X0) (lk : LkU M.1 ix M1 k) (hk : As.length = k) (hb9 : E b = some (.inr (ci, fs))) (hc9 : vwCl[ci]? = some (C, T, N)) (hd : d1 + 1 ≤ d) (hrest : (rest.map fun v => v.category).sum ≤ 8) (hst : st = As.reverse ++ .ref b :: rest) (dg : decode M.2.2.1 pc = .ok (.invokespecial ix, 3))
    (kk : ∀ v E1 n1, P1 v E1 n1 → G Γ d M P X (pc + 3) lv (v.toList ++ rest) E1 n1 kc ks) : G Γ d M P X pc lv st E n (kc + mc) (ks + ms) := g_invU hC lk hk hb9 hc9 hd hrest hst dg (fun _ _ _ h => h.elim) kk
end
/-- a store into a field that the class inherits, too -/
def Fw2 (ci k : Nat) (ty : FieldType) : Prop := ∃ (C : String) (T : u_T) (N : Nat), vwCl[ci]? = some (C, T, N) ∧ (T k).2.2.2 = false ∧ parseFieldDescriptor (T k).2.2.1 = some ty ∧ (∃ ty0 : Nat → FieldType, ∀ j, j < N → parseFieldDescriptor (T j).2.2.1 = some (ty0 j)) ∧ ∀ a, a < N → ∀ b, b < N → a ≠ b → (T a).2.1 ≠ (T b).2.1
theorem g_put2 {ix ci k a : Nat} {fs fs2 : List Value} {v : Value} {ty : FieldType} (hf : Fl M.1 ix ci k) (hw : Fw2 ci k ty) (he : E a = some (.inr (ci, fs))) (hl9 : k < fs.length) (hn : narrow ty v = v) (hfit : fits ty v = true) (hfs2 : fs.set k v = fs2) (dg : decode M.2.2.1 pc = .ok (.putfield ix, 3))
    (kk : G Γ d M P X (pc + 3) lv st (hset E a (.inr (ci, fs2))) n kc ks) : G Γ d M P X pc lv (v :: .ref a :: st) E n kc ks := by
  subst hfs2
  obtain ⟨C, ref, T, N, hc, hk, hl, hin, hsame⟩ := hf
  obtain ⟨C', T', N', hc', hfin, hd, ⟨ty0, hty⟩, hnm⟩ := hw
  cases hc.symm.trans hc'
  intro p e R s m args below meth c Q hF hE H locs cells slots ls h1 h2 h3 h4 h5 h6
  obtain ⟨hx, hb, -, hown, hts, hev, -⟩ := id hF
  have hK := hev.2.1
  have hap := va_apart (own := M.1) hts hin ty0 hty hnm hK hc
  have hB := (h1 a _ he).2
  obtain ⟨r, g1, cell, q1, q2, q3, q4⟩ := (h1 a _ he).1
  have hr : r = (C, T, N) := Option.some.inj (g1.symm.trans hc)
  subst hr
  obtain ⟨hS, hfc, kC, hkC, hkind⟩ := hK.1 ci _ hc
  obtain ⟨cf, kf, fi, f, hi, hsl⟩ := hS k hk
  have hlay := hts _ (hin _ (u_in_lay hk))
  unfold u_lay at hlay
  rw [if_neg (by rw [hfin]; decide)] at hlay
  have hst := (u_facts hfc hkC (u_lays hts hin hk) hi).1
  have h9 := u_store hfc hkC hkind hlay hi hd hn hfit
  refine W.putK hx hb (f := f) ⟨hown, hts _ hl, ⟨_, _, _, hsame args s hts _ hi⟩, hst⟩ (by rw [q2]; exact h9) q1 q3 (by rw [hsl]; exact k2_hasslot (q4 k hk)) rfl rfl dg fun H' e1 e2 e3 => ?_
  rw [hsl] at e1 ⊢
  exact kk p e R s m args below meth c Q hF hE H' _ cells slots ls (h1.set (e := .inr (ci, fs.set k v)) he ⟨_, hc, t_OB.to (V := updV (vp_V fs) k v) ⟨_, e1, q2, q3, t_set q4 hap hk v⟩ (fun j _ => vp_updV_set hl9 v j)⟩ e3) (e2.trans h2) (h3.put e2 e3 hB) h4 h5 h6
theorem f_J5_15 : Fl RJ5 15 1 0 := Fl.of (ref := "java/lang/AbstractStringBuilder") (C := RJ4) (T := TJ4) (N := 4) rfl (by decide) (wl_1 55 rfl rfl) u_J4 rfl
theorem f_J5_22 : Fl RJ5 22 1 1 := Fl.of (ref := "java/lang/AbstractStringBuilder") (C := RJ4) (T := TJ4) (N := 4) rfl (by decide) (wl_1 56 rfl rfl) u_J4 rfl
theorem f_J5_73 : Fl RJ5 73 1 2 := Fl.of (ref := "java/lang/AbstractStringBuilder") (C := RJ4) (T := TJ4) (N := 4) rfl (by decide) (wl_1 57 rfl rfl) u_J4 rfl
theorem f_J5_79 : Fl RJ5 79 1 3 := Fl.of (ref := "java/lang/AbstractStringBuilder") (C := RJ4) (T := TJ4) (N := 4) rfl (by decide) (wl_1 59 rfl rfl) u_J4 rfl
theorem f_J0_1048 : Fl RJ0 1048 1 2 := Fl.of (ref := "java/lang/AbstractStringBuilder") (C := RJ4) (T := TJ4) (N := 4) rfl (by decide) (wl_1 58 rfl rfl) u_J4 rfl
theorem w_J4_0 : Fw2 1 0 (.array .byte) := ⟨RJ4, TJ4, 4, rfl, rfl, by decide +kernel, ⟨tyJ4, tyJ4_ok⟩, nmJ4⟩
theorem w_J4_1 : Fw2 1 1 (.byte) := ⟨RJ4, TJ4, 4, rfl, rfl, by decide +kernel, ⟨tyJ4, tyJ4_ok⟩, nmJ4⟩
theorem w_J4_2 : Fw2 1 2 (.boolean) := ⟨RJ4, TJ4, 4, rfl, rfl, by decide +kernel, ⟨tyJ4, tyJ4_ok⟩, nmJ4⟩
theorem w_J4_3 : Fw2 1 3 (.int) := ⟨RJ4, TJ4, 4, rfl, rfl, by decide +kernel, ⟨tyJ4, tyJ4_ok⟩, nmJ4⟩
theorem l_J5_83 : LkY RJ5 83 RJ4 "java/lang/AbstractStringBuilder" ⟨"java/lang/AbstractStringBuilder", "isLatin1", "()Z"⟩ MJ5_isLatin1_aae02 0 := ⟨(wl_2 231 rfl rfl), (wl_2 233 rfl rfl), (fun args s hts => hts _ (wl_2 234 rfl rfl)), (wl_2 232 rfl rfl), (wl_1 2 rfl rfl), k_J5_isLatin1_aae02, (fun args s hts => va_Decl.of (hts _ (wl_2 232 rfl rfl)) (hts _ k_J5_isLatin1_aae02)), ⟨by decide +kernel, by decide +kernel⟩, by decide +kernel, by decide⟩
theorem l_J5_100 : LkY RJ5 100 RJ4 "java/lang/AbstractStringBuilder" ⟨"java/lang/AbstractStringBuilder", "ensureCapacityInternal", "(I)V"⟩ MJ5_ensureCapacityInternal_d00df 1 := ⟨(wl_2 198 rfl rfl), (wl_6 154 rfl rfl), (fun args s hts => hts _ (wl_sel 0 rfl rfl)), (wl_2 200 rfl rfl), (wl_1 2 rfl rfl), k_J5_ensureCapacityInternal_d00df, (fun args s hts => va_Decl.of (hts _ (wl_2 200 rfl rfl)) (hts _ k_J5_ensureCapacityInternal_d00df)), ⟨by decide +kernel, by decide +kernel⟩, by decide +kernel, by decide⟩
theorem l_J5_104 : LkY RJ5 104 RJ4 "java/lang/AbstractStringBuilder" ⟨"java/lang/AbstractStringBuilder", "newCapacity", "(I)I"⟩ MJ5_newCapacity_0f7a4 1 := ⟨(wl_2 202 rfl rfl), (wl_6 155 rfl rfl), (fun args s hts => hts _ (wl_sel 1 rfl rfl)), (wl_2 204 rfl rfl), (wl_1 2 rfl rfl), k_J5_newCapacity_0f7a4, (fun args s hts => va_Decl.of (hts _ (wl_2 204 rfl rfl)) (hts _ k_J5_newCapacity_0f7a4)), ⟨by decide +kernel, by decide +kernel⟩, by decide +kernel, by decide⟩
theorem l_J5_195 : LkY RJ5 195 RJ4 "java/lang/AbstractStringBuilder" ⟨"java/lang/AbstractStringBuilder", "inflate", "()V"⟩ MJ5_inflate_da8c8 0 := ⟨(wl_3 21 rfl rfl), (wl_6 158 rfl rfl), (fun args s hts => hts _ (wl_sel 2 rfl rfl)), (wl_3 23 rfl rfl), (wl_1 2 rfl rfl), k_J5_inflate_da8c8, (fun args s hts => va_Decl.of (hts _ (wl_3 23 rfl rfl)) (hts _ k_J5_inflate_da8c8)), ⟨by decide +kernel, by decide +kernel⟩, by decide +kernel, by decide⟩
theorem l_J5_204 : LkY RJ5 204 RJ4 "java/lang/AbstractStringBuilder" ⟨"java/lang/AbstractStringBuilder", "appendNull", "()Ljava/lang/AbstractStringBuilder;"⟩ MJ5_appendNull_278bc 0 := ⟨(wl_2 194 rfl rfl), (wl_6 153 rfl rfl), (fun args s hts => hts _ (wl_sel 3 rfl rfl)), (wl_2 196 rfl rfl), (wl_1 2 rfl rfl), k_J5_appendNull_278bc, (fun args s hts => va_Decl.of (hts _ (wl_2 196 rfl rfl)) (hts _ k_J5_appendNull_278bc)), ⟨by decide +kernel, by decide +kernel⟩, by decide +kernel, by decide⟩
theorem l_J5_208 : LkY RJ5 208 RJ4 "java/lang/AbstractStringBuilder" ⟨"java/lang/AbstractStringBuilder", "putStringAt", "(ILjava/lang/String;)V"⟩ MJ5_putStringAt_47b60 2 := ⟨(wl_3 12 rfl rfl), (wl_6 156 rfl rfl), (fun args s hts => hts _ (wl_sel 4 rfl rfl)), (wl_3 14 rfl rfl), (wl_1 2 rfl rfl), k_J5_putStringAt_47b60, (fun args s hts => va_Decl.of (hts _ (wl_3 14 rfl rfl)) (hts _ k_J5_putStringAt_47b60)), ⟨by decide +kernel, by decide +kernel⟩, by decide +kernel, by decide⟩
theorem l_J5_397 : LkY RJ5 397 RJ4 "java/lang/AbstractStringBuilder" ⟨"java/lang/AbstractStringBuilder", "inflateIfNeededFor", "(Ljava/lang/String;)V"⟩ MJ5_inflateIfNeededFor_a7421 1 := ⟨(wl_3 16 rfl rfl), (wl_6 157 rfl rfl), (fun args s hts => hts _ (wl_sel 5 rfl rfl)), (wl_3 18 rfl rfl), (wl_1 2 rfl rfl), k_J5_inflateIfNeededFor_a7421, (fun args s hts => va_Decl.of (hts _ (wl_3 18 rfl rfl)) (hts _ k_J5_inflateIfNeededFor_a7421)), ⟨by decide +kernel, by decide +kernel⟩, by decide +kernel, by decide⟩
theorem l_J0_549 : LkY RJ0 549 RJ4 "java/lang/AbstractStringBuilder" ⟨"java/lang/AbstractStringBuilder", "length", "()I"⟩ MJ4_length_8abf5 0 := ⟨(wl_3 89 rfl rfl), (wl_3 91 rfl rfl), (fun args s hts => hts _ (wl_3 92 rfl rfl)), (wl_3 93 rfl rfl), (wl_1 3 rfl rfl), k_J4_length_8abf5, (fun args s hts => va_Decl.of (hts _ (wl_3 90 rfl rfl)) (hts _ k_J5_length_8abf5)), ⟨by decide +kernel, by decide +kernel⟩, by decide +kernel, by decide⟩
theorem l_J0_552 : LkY RJ0 552 RJ4 "java/lang/AbstractStringBuilder" ⟨"java/lang/AbstractStringBuilder", "getValue", "()[B"⟩ MJ5_getValue_6d5f1 0 := ⟨(wl_3 84 rfl rfl), (wl_3 86 rfl rfl), (fun args s hts => hts _ (wl_3 87 rfl rfl)), (wl_3 85 rfl rfl), (wl_1 2 rfl rfl), k_J5_getValue_6d5f1, (fun args s hts => va_Decl.of (hts _ (wl_3 85 rfl rfl)) (hts _ k_J5_getValue_6d5f1)), ⟨by decide +kernel, by decide +kernel⟩, by decide +kernel, by decide⟩
theorem l_J0_1047 : LkY RJ0 1047 RJ4 "java/lang/AbstractStringBuilder" ⟨"java/lang/AbstractStringBuilder", "isLatin1", "()Z"⟩ MJ5_isLatin1_aae02 0 := ⟨(wl_3 97 rfl rfl), (wl_2 233 rfl rfl), (fun args s hts => hts _ (wl_2 234 rfl rfl)), (wl_2 232 rfl rfl), (wl_1 2 rfl rfl), k_J5_isLatin1_aae02, (fun args s hts => va_Decl.of (hts _ (wl_2 232 rfl rfl)) (hts _ k_J5_isLatin1_aae02)), ⟨by decide +kernel, by decide +kernel⟩, by decide +kernel, by decide⟩
theorem l_J4_29 : LkU RJ4 29 MJ5_append_cf1ce 1 := ⟨(wl_2 191 rfl rfl), (wl_6 152 rfl rfl), (wl_1 68 rfl rfl), (wl_2 192 rfl rfl), (wl_1 2 rfl rfl), k_J5_append_cf1ce, by decide +kernel, n_J5_append_cf1ce⟩
theorem l_J4_50 : LkU RJ4 50 MJ5_append_3fe6f 1 := ⟨(wl_4 17 rfl rfl), (wl_6 161 rfl rfl), (wl_1 68 rfl rfl), (wl_4 18 rfl rfl), (wl_1 2 rfl rfl), k_J5_append_3fe6f, by decide +kernel, n_J5_append_3fe6f⟩
theorem l_J4_53 : LkU RJ4 53 MJ5_append_c97b9 1 := ⟨(wl_3 50 rfl rfl), (wl_6 159 rfl rfl), (wl_1 68 rfl rfl), (wl_3 51 rfl rfl), (wl_1 2 rfl rfl), k_J5_append_c97b9, by decide +kernel, n_J5_append_c97b9⟩
theorem l_J4_333 : LkU RJ4 333 MJ5_setLength_d00df 1 := ⟨(wl_2 176 rfl rfl), (wl_6 151 rfl rfl), (wl_1 68 rfl rfl), (wl_2 177 rfl rfl), (wl_1 2 rfl rfl), k_J5_setLength_d00df, by decide +kernel, n_J5_setLength_d00df⟩
theorem l_J4_343 : LkU RJ4 343 MJ5_length_8abf5 0 := ⟨(wl_3 95 rfl rfl), (wl_3 91 rfl rfl), (wl_1 68 rfl rfl), (wl_3 90 rfl rfl), (wl_1 2 rfl rfl), k_J5_length_8abf5, by decide +kernel, n_J5_length_8abf5⟩
theorem z_X4_49 : Cond.fieldLink RX4 49 "AccentHouse$Token" "SEMICOLON" "LAccentHouse$Token;" ∈ wl := (wl_2 134 rfl rfl)
theorem z_X4_88 : Cond.fieldLink RX4 88 "AccentHouse$Token" "END" "LAccentHouse$Token;" ∈ wl := (wl_4 123 rfl rfl)
theorem z_X4_159 : Cond.fieldLink RX4 159 "AccentHouse$Token" "WORD" "LAccentHouse$Token;" ∈ wl := (wl_2 157 rfl rfl)
theorem z_X4_169 : Cond.fieldLink RX4 169 "AccentHouse$Token" "NUMBER" "LAccentHouse$Token;" ∈ wl := (wl_2 128 rfl rfl)
theorem z_X6_16 : Cond.fieldLink RX6 16 "AccentHouse$Token" "END" "LAccentHouse$Token;" ∈ wl := (wl_1 198 rfl rfl)
theorem z_X6_39 : Cond.fieldLink RX6 39 "AccentHouse$Token" "SEMICOLON" "LAccentHouse$Token;" ∈ wl := (wl_2 82 rfl rfl)
theorem z_X6_48 : Cond.fieldLink RX6 48 "AccentHouse$Token" "WORD" "LAccentHouse$Token;" ∈ wl := (wl_2 88 rfl rfl)
theorem z_X6_51 : Cond.fieldLink RX6 51 "AccentHouse$Token" "NUMBER" "LAccentHouse$Token;" ∈ wl := (wl_2 90 rfl rfl)
theorem z_X6_61 : Cond.fieldLink RX6 61 "AccentHouse$Token" "WRONG" "LAccentHouse$Token;" ∈ wl := (wl_2 95 rfl rfl)
theorem z_J5_18 : Cond.fieldLink RJ5 18 "java/lang/String" "COMPACT_STRINGS" "Z" ∈ wl := (wl_1 46 rfl rfl)
theorem z_J6_83 : Cond.fieldLink RJ6 83 "java/lang/Integer" "DigitOnes" "[B" ∈ wl := (wl_3 59 rfl rfl)
theorem z_J6_87 : Cond.fieldLink RJ6 87 "java/lang/Integer" "DigitTens" "[B" ∈ wl := (wl_3 61 rfl rfl)
theorem z_J0_38 : Cond.fieldLink RJ0 38 "java/lang/String" "COMPACT_STRINGS" "Z" ∈ wl := (wl_2 32 rfl rfl)
theorem z_J0_1053 : Cond.fieldLink RJ0 1053 "jdk/internal/util/Preconditions" "SIOOBE_FORMATTER" "Ljava/util/function/BiFunction;" ∈ wl := (wl_2 47 rfl rfl)
theorem z_J2_251 : Cond.fieldLink RJ2 251 "java/lang/String" "COMPACT_STRINGS" "Z" ∈ wl := (wl_5 97 rfl rfl)
theorem z_J2_403 : Cond.fieldLink RJ2 403 "java/lang/Integer" "DigitOnes" "[B" ∈ wl := (wl_3 69 rfl rfl)
theorem z_J2_407 : Cond.fieldLink RJ2 407 "java/lang/Integer" "DigitTens" "[B" ∈ wl := (wl_3 70 rfl rfl)
theorem z_J0_9 : Cond.fieldLink RJ0 9 "java/lang/String" "value" "[B" ∈ wl := (wl_3 192 rfl rfl)
theorem z_J0_15 : Cond.fieldLink RJ0 15 "java/lang/String" "coder" "B" ∈ wl := (wl_3 193 rfl rfl)
theorem ac_X0_15 : Cond.methodLink RX0 15 arraycopyName ∈ wl := (wl_4 132 rfl rfl)
theorem ac_J0_212 : Cond.methodLink RJ0 212 arraycopyName ∈ wl := (wl_3 44 rfl rfl)
theorem ac_J7_150 : Cond.methodLink RJ7 150 arraycopyName ∈ wl := (wl_2 228 rfl rfl)
theorem ac_n : Cond.native arraycopyName ∈ wl := (wl_2 230 rfl rfl)
theorem ac_s : Cond.static arraycopyName ∈ wl := (wl_2 229 rfl rfl)
theorem ac_i : Cond.initialized "java/lang/System" ∈ wl := (wl_1 24 rfl rfl)
end GJC
