section GCALL
variable {Γ : Gm} {d : Nat} {M : Mr} {P : Po} {X : Px} {pc : Nat} {lv : List (Nat × Value)} {st rest : List Value} {E : Hp} {n kc ks : Nat}
theorem g_run {p : Program} {e : Env} {R : Room} {s : State} {m : MethodId} {args : Array Value} {below : List Frame} {meth : Method} {c : Code} {H : Heap} {locs : List Loc} {cells slots mc ms : Nat} {Q : State → Prop} {ls : Array Slot} {a : Array Value} {P1 : Po} {X1 : Px}
    (hr : vx_Run p Γ.1 e R s m args below meth c H locs cells slots mc ms (F0 m pc ls st) rest (Qg Γ P1 a) (Xg Γ X1) (AB Γ)) (hS : va_S (AB Γ) s.heap H locs)
    (kx : ∀ (x : String) (E1 : Hp) (n1 : Nat) (H1 : Heap) (locs1 : List Loc) (q : Addr) (ce : Cell), X1 x E1 n1 → HS Γ E1 H1 → n1 ≤ H1.size → va_S (AB Γ) s.heap H1 locs1 → H1[q]? = some ce → ce.vm = .none → s.vm.findClass x = some ce.cls → vx_W p Γ.1 e R s m args below meth c H1 locs1 (cells + mc) (slots + ms) Q (F0 m pc ls rest) q)
    (kk : ∀ (v : Option Value) (E1 : Hp) (n1 : Nat) (H1 : Heap) (locs1 : List Loc), P1 v E1 n1 → HS Γ E1 H1 → H1.size = n1 → va_S (AB Γ) s.heap H1 locs1 → W p Γ.1 e R s m args below meth c H1 locs1 (cells + mc) (slots + ms) Q (F0 m (pc + 3) ls (v.toList ++ rest))) :
    W p Γ.1 e R s m args below meth c H locs cells slots Q (F0 m pc ls st) := by
  intro T hT X9
  rcases hr T hT X9 with ⟨v, st₀, t, T', L, h0, X', hL, e1, e2, ⟨⟨v2, E1, n1, hv, hp, hh, hz⟩, hF⟩, sp⟩ | ⟨q, st₀, t, T', L, x, ce, h0, X', hL, e1, e2, ⟨⟨E1, n1, hp, hh, hz⟩, hF⟩, hce, hcv, hcl, sp⟩
  · cases hv
    obtain ⟨k1, k2, k3⟩ := vx_keep h0 e1 hS (fun q _ h => h) (fun q h => h) hL hF
    obtain ⟨t2, a1, b1⟩ := kk v E1 n1 T'.heap (locs ++ L) hp (by rw [e1]; exact hh) (by rw [e1]; exact hz) k3 T' rfl X'
    exact ⟨t2, sp t2 a1, b1⟩
  · obtain ⟨k1, k2, k3⟩ := vx_keep h0 e1 hS (fun q _ h => h) (fun q h => h) hL hF
    obtain ⟨t2, a1, b1⟩ := kx x E1 n1 T'.heap (locs ++ L) q ce hp (by rw [e1]; exact hh) (by rw [e1]; exact hz) k3 (by rw [e1]; exact hce) hcv hcl T' rfl X'
    exact ⟨t2, sp.trans a1, b1⟩
/-- the receiver is an object of class C: of the world, or a String constant -/
def Rcv (Γ : Gm) (E : Hp) (b : Nat) (C : String) : Prop := (∃ (ci : Nat) (fs : List Value) (T : u_T) (N : Nat), E b = some (.inr (ci, fs)) ∧ vwCl[ci]? = some (C, T, N)) ∨ (C = "java/lang/String" ∧ ∃ i q, gstrs[i]? = some q ∧ b = gK Γ i)
theorem Rcv.of {b ci N : Nat} {fs : List Value} {C : String} {T : u_T} (h : E b = some (.inr (ci, fs))) (hc : vwCl[ci]? = some (C, T, N)) : Rcv Γ E b C := Or.inl ⟨ci, fs, T, N, h, hc⟩
theorem Rcv.use {b : Nat} {C : String} {s : State} {H : Heap} {locs : List Loc} (h : Rcv Γ E b C) (hE : HS Γ E H) (hv : Ev Γ s s.heap) (hS : va_S (AB Γ) s.heap H locs) : ∃ cellB : Cell, H[b]? = some cellB ∧ cellB.vm.isStatics = false ∧ s.vm.findClass C = some cellB.cls := by
  rcases h with ⟨ci, fs, T, N, h1, h2⟩ | ⟨rfl, i, q, h1, rfl⟩
  · exact va_recv hv.2.1 (hE _ _ h1).1.one h2 (q0 := 0) rfl
  · obtain ⟨cell, g1, g2, g3, -⟩ := ((hv.2.2.2.2.1 i q h1).2.1).kept hS.2.1
    exact ⟨cell, g1, g2, g3⟩
def nMH (M1 : Mr) (k : Nat) : Prop := (M1.2.1.cls ≠ "java/lang/invoke/MethodHandle" ∧ M1.2.1.cls ≠ "java/lang/invoke/VarHandle") ∧ (parseMethodDescriptor M1.2.1.desc).map (fun d => d.parameters.length) = some k ∧ M1.2.2.2.1 ≤ 45
def Cd (M1 : Mr) : Cond := Cond.code M1.2.1 M1.2.2.1 M1.2.2.2.1 M1.2.2.2.2
def LkV (own : String) (ix : Nat) (M1 : Mr) (k : Nat) : Prop := Cond.methodLink own ix M1.2.1 ∈ wl ∧ Cond.instanceMethod M1.2.1 ∈ wl ∧ Cond.selects M1.1 M1.2.1 M1.2.1 ∈ wl ∧ Cond.initialized M1.2.1.cls ∈ wl ∧ Cd M1 ∈ wl ∧ nMH M1 k
def LkS (own : String) (ix : Nat) (M1 : Mr) (k : Nat) : Prop := Cond.methodLink own ix M1.2.1 ∈ wl ∧ Cond.static M1.2.1 ∈ wl ∧ Cond.initialized M1.2.1.cls ∈ wl ∧ Cd M1 ∈ wl ∧ nMH M1 k
def LkI (own : String) (ix : Nat) (M1 : Mr) (k : Nat) : Prop := Cond.methodLink own ix M1.2.1 ∈ wl ∧ Cond.instanceMethod M1.2.1 ∈ wl ∧ M1.2.1.name = "<init>" ∧ Cond.initialized M1.2.1.cls ∈ wl ∧ Cd M1 ∈ wl ∧ nMH M1 k ∧ M1.2.2.2.2 = none
def LkIN (own : String) (ix : Nat) (M1 : Mr) (k : Nat) : Prop := (own, ix, M1.2.1, "AccentHouse") ∈ gNl ∧ Cond.instanceMethod M1.2.1 ∈ wl ∧ M1.2.1.name = "<init>" ∧ Cond.initialized M1.2.1.cls ∈ wl ∧ Cd M1 ∈ wl ∧ nMH M1 k ∧ M1.2.2.2.2 = none
/-- a super class's method, by invokespecial -/
def LkU (own : String) (ix : Nat) (M1 : Mr) (k : Nat) : Prop := Cond.methodLink own ix M1.2.1 ∈ wl ∧ Cond.sameMethod M1.2.1.cls M1.2.1.cls M1.2.1.name M1.2.1.desc ∈ wl ∧ Cond.superclass own M1.2.1.cls ∈ wl ∧ Cond.instanceMethod M1.2.1 ∈ wl ∧ Cond.initialized M1.2.1.cls ∈ wl ∧ Cd M1 ∈ wl ∧ M1.2.1.name ≠ "<init>" ∧ nMH M1 k
/-- an inherited method by another class's name: x is named, M1's code runs for an object of class C -/
def LkX (own : String) (ix : Nat) (C owner : String) (x : MethodName) (M1 : Mr) (k : Nat) : Prop := Cond.methodLink own ix x ∈ wl ∧ Cond.sameMethod x.cls owner x.name x.desc ∈ wl ∧ Cond.selects C x M1.2.1 ∈ wl ∧ Cond.instanceMethod M1.2.1 ∈ wl ∧ Cond.initialized M1.2.1.cls ∈ wl ∧ Cd M1 ∈ wl ∧ M1.2.1 = ⟨owner, x.name, x.desc⟩ ∧ (owner ≠ "java/lang/invoke/MethodHandle" ∧ owner ≠ "java/lang/invoke/VarHandle") ∧ (parseMethodDescriptor x.desc).map (fun d => d.parameters.length) = some k ∧ M1.2.2.2.1 ≤ 45
theorem nMH.len {M1 : Mr} {k : Nat} (h : (parseMethodDescriptor M1.2.1.desc).map (fun d => d.parameters.length) = some k) : ∀ sig, parseMethodDescriptor M1.2.1.desc = some sig → k = sig.parameters.length := fun sig hs => by
  rw [hs] at h
  exact (Option.some.inj h).symm
theorem g_pre {s : State} {H : Heap} {locs : List Loc} {av : List Value} (h1 : HS Γ E H) (h2 : H.size = n) (hv : Ev Γ s s.heap) (h3 : va_S (AB Γ) s.heap H locs) : ∀ U : State, U.heap = H → s.WarmedH U.vm → Pg Γ av E n av.toArray U := fun U hU hW => ⟨rfl, by rw [hU]; exact h1, by rw [hU]; exact h2, by rw [hU]; exact (hv.kept h3.1 h3.2.1).warm hW⟩
variable {M1 : Mr} {d1 mc ms ix k : Nat} {b : Nat} {As : List Value} {P1 : Po} {X1 : Px}
theorem g_invV (hC : Ct Γ d1 M1 mc ms (.ref b :: As) E n P1 X1) (lk : LkV M.1 ix M1 k) (hk : As.length = k) (hr : Rcv Γ E b M1.1) (hd : d1 + 1 ≤ d) (hrest : (rest.map fun v => v.category).sum ≤ 8) (hst : st = As.reverse ++ .ref b :: rest) (dg : decode M.2.2.1 pc = .ok (.invokevirtual ix, 3)) (hX : ∀ x E1 n1, X1 x E1 n1 → X x E1 n1)
    (kk : ∀ v E1 n1, P1 v E1 n1 → G Γ d M P X (pc + 3) lv (v.toList ++ rest) E1 n1 kc ks) : G Γ d M P X pc lv st E n (kc + mc) (ks + ms) := by
  intro p e R s m args below meth c Q hF hE H locs cells slots ls h1 h2 h3 h4 h5 h6
  obtain ⟨hx, hb, hml, hown, hts, hev, hdR, hlR, -⟩ := id hF
  obtain ⟨w1, w2, w3, w4, w5, ⟨m1, m2, m3⟩⟩ := lk
  refine g_run (vx_runV (n := k) ⟨hx, hb, hml, hown, hts⟩ hC ⟨⟨rfl, rfl, by show d1 + 1 ≤ R.frames; omega, by show 8 + (M1.2.2.2.1 + 11) + 64 * d1 ≤ R.locals; omega, pay_in hts (wl_cons w5), List.mem_cons_self, hts _ w5, hts _ w4, m1, nMH.len m2, hts _ w1⟩, hts _ w2, hts _ w3⟩ ⟨Pg.blind, hr.use h1 hev h3, g_pre h1 h2 hev h3⟩ rfl hk h4.1 hst (by show 2 * 0 + _ ≤ 8; omega) dg ⟨by omega, by omega⟩) h3 (fun x E1 n1 H1 locs1 q ce a1 a2 a3 a4 a5 a6 a7 => hE.2.2 x E1 n1 H1 locs1 _ _ pc ls rest q ce (hX _ _ _ a1) a2 a3 a4 (by omega) (by omega) a5 a6 a7 h4.1) (fun v E1 n1 H1 locs1 a1 a2 a3 a4 => kk v E1 n1 a1 p e R s m args below meth c Q hF hE H1 locs1 _ _ ls a2 a3 a4 h4 (by omega) (by omega))
theorem g_invS (hC : Ct Γ d1 M1 mc ms As E n P1 X1) (lk : LkS M.1 ix M1 k) (hk : As.length = k) (hd : d1 + 1 ≤ d) (hrest : (rest.map fun v => v.category).sum ≤ 8) (hst : st = As.reverse ++ rest) (dg : decode M.2.2.1 pc = .ok (.invokestatic ix, 3)) (hX : ∀ x E1 n1, X1 x E1 n1 → X x E1 n1)
    (kk : ∀ v E1 n1, P1 v E1 n1 → G Γ d M P X (pc + 3) lv (v.toList ++ rest) E1 n1 kc ks) : G Γ d M P X pc lv st E n (kc + mc) (ks + ms) := by
  intro p e R s m args below meth c Q hF hE H locs cells slots ls h1 h2 h3 h4 h5 h6
  obtain ⟨hx, hb, hml, hown, hts, hev, hdR, hlR, -⟩ := id hF
  obtain ⟨w1, w2, w4, w5, ⟨m1, m2, m3⟩⟩ := lk
  refine g_run (vx_runS (n := k) ⟨hx, hb, hml, hown, hts⟩ hC ⟨⟨rfl, rfl, by show d1 + 1 ≤ R.frames; omega, by show 8 + (M1.2.2.2.1 + 11) + 64 * d1 ≤ R.locals; omega, pay_in hts (wl_cons w5), List.mem_cons_self, hts _ w5, hts _ w4, m1, nMH.len m2, hts _ w1⟩, hts _ w2⟩ ⟨Pg.blind, g_pre h1 h2 hev h3⟩ rfl hk h4.1 hst (by show 2 * 0 + _ ≤ 8; omega) dg ⟨by omega, by omega⟩) h3 (fun x E1 n1 H1 locs1 q ce a1 a2 a3 a4 a5 a6 a7 => hE.2.2 x E1 n1 H1 locs1 _ _ pc ls rest q ce (hX _ _ _ a1) a2 a3 a4 (by omega) (by omega) a5 a6 a7 h4.1) (fun v E1 n1 H1 locs1 a1 a2 a3 a4 => kk v E1 n1 a1 p e R s m args below meth c Q hF hE H1 locs1 _ _ ls a2 a3 a4 h4 (by omega) (by omega))
theorem g_invI (hC : Ct Γ d1 M1 mc ms (.ref b :: As) E n P1 X1) (lk : LkI M.1 ix M1 k) (hk : As.length = k) (hd : d1 + 1 ≤ d) (hrest : (rest.map fun v => v.category).sum ≤ 8) (hst : st = As.reverse ++ .ref b :: rest) (dg : decode M.2.2.1 pc = .ok (.invokespecial ix, 3)) (hX : ∀ x E1 n1, X1 x E1 n1 → X x E1 n1)
    (kk : ∀ v E1 n1, P1 v E1 n1 → G Γ d M P X (pc + 3) lv (v.toList ++ rest) E1 n1 kc ks) : G Γ d M P X pc lv st E n (kc + mc) (ks + ms) := by
  intro p e R s m args below meth c Q hF hE H locs cells slots ls h1 h2 h3 h4 h5 h6
  obtain ⟨hx, hb, hml, hown, hts, hev, hdR, hlR, -⟩ := id hF
  obtain ⟨w1, w2, w3, w4, w5, ⟨m1, m2, m3⟩, m4⟩ := lk
  have hC2 := hC
  unfold Ct at hC2
  unfold Cd at w5
  rw [m4] at hC2 w5
  refine g_run (vx_runI (n := k) ⟨hx, hb, hml, hown, hts⟩ hC2 ⟨⟨rfl, rfl, by show d1 + 1 ≤ R.frames; omega, by show 8 + (M1.2.2.2.1 + 11) + 64 * d1 ≤ R.locals; omega, pay_in hts (wl_cons w5), List.mem_cons_self, hts _ w5, hts _ w4, m1, nMH.len m2, hts _ w1⟩, w3, hts _ w2⟩ ⟨Pg.blind, g_pre h1 h2 hev h3⟩ rfl hk h4.1 hst (by show 2 * 0 + _ ≤ 8; omega) dg ⟨by omega, by omega⟩) h3 (fun x E1 n1 H1 locs1 q ce a1 a2 a3 a4 a5 a6 a7 => hE.2.2 x E1 n1 H1 locs1 _ _ pc ls rest q ce (hX _ _ _ a1) a2 a3 a4 (by omega) (by omega) a5 a6 a7 h4.1) (fun v E1 n1 H1 locs1 a1 a2 a3 a4 => kk v E1 n1 a1 p e R s m args below meth c Q hF hE H1 locs1 _ _ ls a2 a3 a4 h4 (by omega) (by omega))
theorem g_invIN (hC : Ct Γ d1 M1 mc ms (.ref b :: As) E n P1 X1) (lk : LkIN M.1 ix M1 k) (hk : As.length = k) (hd : d1 + 1 ≤ d) (hrest : (rest.map fun v => v.category).sum ≤ 8) (hst : st = As.reverse ++ .ref b :: rest) (dg : decode M.2.2.1 pc = .ok (.invokespecial ix, 3)) (hX : ∀ x E1 n1, X1 x E1 n1 → X x E1 n1)
    (kk : ∀ v E1 n1, P1 v E1 n1 → G Γ d M P X (pc + 3) lv (v.toList ++ rest) E1 n1 kc ks) : G Γ d M P X pc lv st E n (kc + mc) (ks + ms) := by
  intro p e R s m args below meth c Q hF hE H locs cells slots ls h1 h2 h3 h4 h5 h6
  obtain ⟨hx, hb, hml, hown, hts, hev, hdR, hlR, -⟩ := id hF
  obtain ⟨w1, w2, w3, w4, w5, ⟨m1, m2, m3⟩, m4⟩ := lk
  have hC2 := hC
  unfold Ct at hC2
  unfold Cd at w5
  rw [m4] at hC2 w5
  refine g_run (vx_runIN (n := k) (host := "AccentHouse") ⟨hx, hb, hml, hown, hts⟩ hC2 ⟨⟨⟨rfl, rfl, by show d1 + 1 ≤ R.frames; omega, by show 8 + (M1.2.2.2.1 + 11) + 64 * d1 ≤ R.locals; omega, pay_in hts (wl_cons w5), List.mem_cons_self⟩, hts _ w5, hts _ w4, m1, nMH.len m2, va_Nw.use rfl (hev.2.2.2.2.2.1.1 _ w1)⟩, w3, hts _ w2⟩ ⟨Pg.blind, g_pre h1 h2 hev h3⟩ rfl hk h4.1 hst (by show 2 * 0 + _ ≤ 8; omega) dg ⟨by omega, by omega⟩) h3 (fun x E1 n1 H1 locs1 q ce a1 a2 a3 a4 a5 a6 a7 => hE.2.2 x E1 n1 H1 locs1 _ _ pc ls rest q ce (hX _ _ _ a1) a2 a3 a4 (by omega) (by omega) a5 a6 a7 h4.1) (fun v E1 n1 H1 locs1 a1 a2 a3 a4 => kk v E1 n1 a1 p e R s m args below meth c Q hF hE H1 locs1 _ _ ls a2 a3 a4 h4 (by omega) (by omega))
/-- Object.<init> -/
theorem g_objInit {a : Nat} (hl : Cond.methodLink M.1 ix objectInit ∈ wl) (hi : Cond.instanceMethod objectInit ∈ wl) (hc : Cond.code objectInit ⟨#[0xb1]⟩ 1 none ∈ wl) (hd : 1 ≤ d) (hrest : (rest.map fun v => v.category).sum ≤ 8) (dg : decode M.2.2.1 pc = .ok (.invokespecial ix, 3)) (kk : G Γ d M P X (pc + 3) lv rest E n kc ks) : G Γ d M P X pc lv (.ref a :: rest) E n kc ks :=
  G.goF (fun hF _ _ _ h k => W.objInit hF.1 hF.2.1 hF.2.2.2.1 (hF.2.2.2.2.1 _ hl) (hF.2.2.2.2.1 _ hi) (hF.2.2.2.2.1 _ hc) rfl (by rw [hF.2.2.1]; exact h.1) rfl dg (Nat.le_trans hd hF.2.2.2.2.2.2.1) (by have := hF.2.2.2.2.2.2.2.1; show 2 * 0 + _ + 12 ≤ _; omega) k) kk
/-- the end with a value -/
theorem g_ret {v : Option Value} (hp : P v E n) (hr : RetOp M pc v) (hst : st = v.toList) : G Γ d M P X pc lv st E n kc ks := by
  subst hst
  intro p e R s m args below meth c Q hF hE H locs cells slots ls h1 h2 h3 h4 h5 h6
  exact hE.1 v E n H locs cells slots pc ls hp h1 h2 h3 (by omega) (by omega) hr
/-- throw new x("..") -/
theorem g_throw {x : String} (hp : X x E n) (hr : ThrOp d M pc x) (hst : (st.map fun v => v.category).sum ≤ 8) (hc : 1 ≤ kc) (hs : 6 ≤ ks) : G Γ d M P X pc lv st E n kc ks := by
  intro p e R s m args below meth c Q hF hE H locs cells slots ls h1 h2 h3 h4 h5 h6
  exact hE.2.1 x E n H locs cells slots pc ls st hp h1 h2 h3 (by omega) (by omega) hr h4.1 hst
set_option maxHeartbeats 1000000 in
/-- a body's walk gives its contract -/
theorem Ct.of {av : List Value} (hy : plainName M.2.1.cls = true) (hM : M.1 = M.2.1.cls) (hlen : (lg_sl av).length ≤ M.2.2.2.1) (h : G Γ d M P X 0 (lv_args 0 av) [] E n mc ms) (hh9 : gHH M.2.1 = [] := by decide +kernel) : Ct Γ d M mc ms av E n P X := by
  refine vx_ofW hy rfl ?_
  intro p e s m args below meth c s₁ B hml ht hv
  obtain ⟨rfl, h1, h2, hev⟩ := hv
  have hts0 := atoms_spec (ws := Cond.code M.2.1 M.2.2.1 M.2.2.2.1 M.2.2.2.2 :: wl) B.pre
  have hts : ∀ w ∈ wl, w.before av.toArray s = true := fun w hw => hts0 w (List.mem_cons_of_mem _ hw)
  have hown : s.vm.findClass M.1 = some m.cls := by rw [hM]; exact findClass_of_methodNamed B.named
  have hlocks := B.notSynchronized
  have hname : meth.name = M.2.1.name := (name_of_methodNamed B.named B.method).1
  have hl := lv_entry av (n := M.2.2.2.1) hlen
  rw [lg_entry_eq]
  have hF : Fr Γ d M p (headSpec (Cond.code M.2.1 M.2.2.1 M.2.2.2.1 M.2.2.2.2 :: wl) (rmG d mc ms)).room s m av.toArray meth c := ⟨B.exec, B.bytes, hml, hown, hts, hev, Nat.le_refl _, Nat.le_refl _, fun h9 => hname.trans h9, by rw [hh9]; exact List.eq_nil_iff_forall_not_mem.mpr (fun x hx => ht x hx)⟩
  refine h p e _ s m av.toArray below meth c _ hF ⟨?_, ?_, ?_⟩ s.heap [] 0 0 _ h1 h2 va_S.rf hl (Nat.le_of_eq (Nat.zero_add _)) (Nat.le_of_eq (Nat.zero_add _))
  · intro v E1 n1 H locs cells slots pc1 ls hp g1 g2 g3 g4 g5 hr
    have hq : ∀ t : State, t.heap = H → s.WarmedH t.vm → Qg Γ P av.toArray s (.returned v) t := fun t ht _ => ⟨⟨v, E1, n1, rfl, hp, by rw [ht]; exact g1, by rw [ht]; exact g2⟩, g3.toF ht⟩
    refine vx_ret ?_
    refine W.widen (k := mc) (n := ms) g4 g5 ?_
    rcases v with _ | v
    · exact W.vret B.exec B.bytes (B.returns.trans hr.2) hq g3.2.2 hr.1
    · cases v with
      | int x => obtain ⟨r1, ty, r2, r3⟩ := hr; exact W.zret B.exec B.bytes (B.returns.trans r2) r3 hq g3.2.2 r1
      | ref a => obtain ⟨r1, ty, r2, r3⟩ := hr; exact W.aret B.exec B.bytes (B.returns.trans r2) r3 (Or.inr ⟨a, rfl⟩) hq g3.2.2 r1
      | null => obtain ⟨r1, ty, r2, r3⟩ := hr; exact W.aret B.exec B.bytes (B.returns.trans r2) r3 (Or.inl rfl) hq g3.2.2 r1
      | float x => exact W.fret B.exec B.bytes (B.returns.trans hr.2) hq g3.2.2 hr.1
      | double x => exact W.dret B.exec B.bytes (B.returns.trans hr.2) hq g3.2.2 hr.1
      | long x => exact W.lret B.exec B.bytes (B.returns.trans hr.2) hq g3.2.2 hr.1
      | _ => exact hr.elim
  · intro x E1 n1 H locs cells slots pc1 ls st1 hp g1 g2 g3 g4 g5 hr hsz hst
    obtain ⟨ik, is, ic, i, text, names, bs, r1, r2, r3, r4, r5, r6, r7, d0, d3, dd, hn3, hd7⟩ := hr
    have hstr := (hev.2.2.2.2.1 i _ r7).1
    rcases dd with ⟨d4, d6, d9⟩ | ⟨d4, d6, d9⟩
    · refine vx_throwS (sa := gK Γ i) (text := text) (names := names) B.exec B.bytes hev.1 hown r1 r2 (hts _ r3) (hts _ r4) hstr (fun w hw => (r5 w hw).elim (hts w) (fun h => va_tabs (gTw_ok w h).1 rfl (hev.2.2.2.2.2.1.2.1 w h))) r6 hev.2.2.2.1.1 hev.2.2.2.1.2 g3 (hsz.trans hml.symm) d0 d3 d4 d6 d9 (fun x hx => (ht x hx).elim) (by show names.length + 3 < d; omega) (by show _ ≤ 64 * d; omega) g4 g5 hlocks ?_ g3.2.2 g4 g5
      intro t hvm hz hk
      refine ⟨⟨E1, n1, hp, fun a e9 he => ⟨(g1 a e9 he).1.kept (hk a (g1.lt he)), (g1 a e9 he).2⟩, by omega⟩, ⟨Nat.le_trans g3.1 hz, fun q q1 q2 => (hk q (Nat.lt_of_lt_of_le q1 g3.1)).trans (g3.2.1 q q1 q2)⟩⟩
    · refine vx_throwSW (sa := gK Γ i) (text := text) (names := names) B.exec B.bytes hev.1 hown r1 r2 (hts _ r3) (hts _ r4) hstr (fun w hw => (r5 w hw).elim (hts w) (fun h => va_tabs (gTw_ok w h).1 rfl (hev.2.2.2.2.2.1.2.1 w h))) r6 hev.2.2.2.1.1 hev.2.2.2.1.2 g3 (hsz.trans hml.symm) d0 d3 d4 d6 d9 (fun x hx => (ht x hx).elim) (by show names.length + 3 < d; omega) (by show _ ≤ 64 * d; omega) g4 g5 hlocks ?_ g3.2.2 g4 g5
      intro t hvm hz hk
      refine ⟨⟨E1, n1, hp, fun a e9 he => ⟨(g1 a e9 he).1.kept (hk a (g1.lt he)), (g1 a e9 he).2⟩, by omega⟩, ⟨Nat.le_trans g3.1 hz, fun q q1 q2 => (hk q (Nat.lt_of_lt_of_le q1 g3.1)).trans (g3.2.1 q q1 q2)⟩⟩
  · intro x E1 n1 H locs cells slots pc1 ls st1 q ce hp g1 g2 g3 g4 g5 h9 h10 h11 _
    exact vx_out (fun x hx => (ht x hx).elim) hlocks h9 h10 h11 (fun t ht9 _ => ⟨⟨E1, n1, hp, by rw [ht9]; exact g1, by rw [ht9]; exact g2⟩, g3.toF ht9⟩) g3.2.2 g4 g5
theorem g_invU (hC : Ct Γ d1 M1 mc ms (.ref b :: As) E n P1 X1) (lk : LkU M.1 ix M1 k) (hk : As.length = k) {ci N : Nat} {C : String} {T : u_T} {fs : List Value} (hb9 : E b = some (.inr (ci, fs))) (hc9 : vwCl[ci]? = some (C, T, N)) (hd : d1 + 1 ≤ d) (hrest : (rest.map fun v => v.category).sum ≤ 8) (hst : st = As.reverse ++ .ref b :: rest) (dg : decode M.2.2.1 pc = .ok (.invokespecial ix, 3)) (hX : ∀ x E1 n1, X1 x E1 n1 → X x E1 n1)
    (kk : ∀ v E1 n1, P1 v E1 n1 → G Γ d M P X (pc + 3) lv (v.toList ++ rest) E1 n1 kc ks) : G Γ d M P X pc lv st E n (kc + mc) (ks + ms) := by
  intro p e R s m args below meth c Q hF hE H locs cells slots ls h1 h2 h3 h4 h5 h6
  obtain ⟨hx, hb, hml, hown, hts, hev, hdR, hlR, -⟩ := id hF
  obtain ⟨w1, w2, w3, w6, w4, w5, m4, ⟨m1, m2, m3⟩⟩ := lk
  have hr : Rcv Γ E b C := Or.inl ⟨ci, fs, T, N, hb9, hc9⟩
  refine g_run (vx_runSU (n := k) (C := C) (cC := (gD Γ).1 ci) (hev.2.1.1 ci _ hc9).2 ⟨hx, hb, hml, hown, hts⟩ hC ⟨⟨rfl, rfl, by show d1 + 1 ≤ R.frames; omega, by show 8 + (M1.2.2.2.1 + 11) + 64 * d1 ≤ R.locals; omega, pay_in hts (wl_cons w5), List.mem_cons_self⟩, hts _ w1, hts _ w2, hts _ w3, hts _ w6, hts _ w4, hts _ w5, m4, nMH.len m2⟩ ⟨Pg.blind, hr.use h1 hev h3, g_pre h1 h2 hev h3⟩ rfl hk h4.1 hst (by show 2 * 0 + _ ≤ 8; omega) dg ⟨by omega, by omega⟩) h3 (fun x E1 n1 H1 locs1 q ce a1 a2 a3 a4 a5 a6 a7 => hE.2.2 x E1 n1 H1 locs1 _ _ pc ls rest q ce (hX _ _ _ a1) a2 a3 a4 (by omega) (by omega) a5 a6 a7 h4.1) (fun v E1 n1 H1 locs1 a1 a2 a3 a4 => kk v E1 n1 a1 p e R s m args below meth c Q hF hE H1 locs1 _ _ ls a2 a3 a4 h4 (by omega) (by omega))
theorem g_invX {C owner : String} {x : MethodName} (hC : Ct Γ d1 M1 mc ms (.ref b :: As) E n P1 X1) (lk : LkX M.1 ix C owner x M1 k) (hk : As.length = k) (hr : Rcv Γ E b C) (hd : d1 + 1 ≤ d) (hrest : (rest.map fun v => v.category).sum ≤ 8) (hst : st = As.reverse ++ .ref b :: rest) (dg : decode M.2.2.1 pc = .ok (.invokevirtual ix, 3)) (hX : ∀ x E1 n1, X1 x E1 n1 → X x E1 n1)
    (kk : ∀ v E1 n1, P1 v E1 n1 → G Γ d M P X (pc + 3) lv (v.toList ++ rest) E1 n1 kc ks) : G Γ d M P X pc lv st E n (kc + mc) (ks + ms) := by
  intro p e R s m args below meth c Q hF hE H locs cells slots ls h1 h2 h3 h4 h5 h6
  obtain ⟨hx, hb, hml, hown, hts, hev, hdR, hlR, -⟩ := id hF
  obtain ⟨w1, w2, w3, w6, w4, w5, m4, m1, m2, m3⟩ := lk
  refine g_run (vx_runU (n := k) (C := C) (owner := owner) (x := x) ⟨hx, hb, hml, hown, hts⟩ hC ⟨⟨rfl, rfl, by show d1 + 1 ≤ R.frames; omega, by show 8 + (M1.2.2.2.1 + 11) + 64 * d1 ≤ R.locals; omega, pay_in hts (wl_cons w5), List.mem_cons_self⟩, hts _ w5, hts _ w4, m1, (fun sig hs => by rw [hs] at m2; exact (Option.some.inj m2).symm), hts _ w1, hts _ w2, by rw [← m4]; exact va_Decl.of (hts _ w6) (hts _ w5), hts _ w3, hts _ w6⟩ ⟨Pg.blind, hr.use h1 hev h3, g_pre h1 h2 hev h3⟩ rfl hk h4.1 hst (by show 2 * 0 + _ ≤ 8; omega) dg ⟨by omega, by omega⟩) h3 (fun x E1 n1 H1 locs1 q ce a1 a2 a3 a4 a5 a6 a7 => hE.2.2 x E1 n1 H1 locs1 _ _ pc ls rest q ce (hX _ _ _ a1) a2 a3 a4 (by omega) (by omega) a5 a6 a7 h4.1) (fun v E1 n1 H1 locs1 a1 a2 a3 a4 => kk v E1 n1 a1 p e R s m args below meth c Q hF hE H1 locs1 _ _ ls a2 a3 a4 h4 (by omega) (by omega))
theorem G.weak {P2 : Po} {X2 : Px} (h : G Γ d M P X pc lv st E n kc ks) (hP : ∀ v E1 n1, P v E1 n1 → P2 v E1 n1) (hX : ∀ x E1 n1, X x E1 n1 → X2 x E1 n1) : G Γ d M P2 X2 pc lv st E n kc ks := fun p e R s m args below meth c Q hF hE => h p e R s m args below meth c Q hF ⟨fun v E1 n1 H locs cells slots pc ls a => hE.1 v E1 n1 H locs cells slots pc ls (hP _ _ _ a), fun x E1 n1 H locs cells slots pc ls st a => hE.2.1 x E1 n1 H locs cells slots pc ls st (hX _ _ _ a), fun x E1 n1 H locs cells slots pc ls st q ce a => hE.2.2 x E1 n1 H locs cells slots pc ls st q ce (hX _ _ _ a)⟩
end GCALL
