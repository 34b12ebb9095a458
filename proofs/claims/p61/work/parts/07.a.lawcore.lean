/-! the law: methods with handlers, the script, what is compared -/
section GLAW
variable {Γ : Gm} {d : Nat} {M : Mr} {P : Po} {X : Px} {pc : Nat} {lv : List (Nat × Value)} {st rest : List Value} {E : Hp} {n kc ks : Nat}
variable {M1 : Mr} {d1 mc ms ix k : Nat} {b : Nat} {As : List Value} {P1 : Po} {X1 : Px}
/-- a method with handlers: its word, its contract -/
def CdW (M1 : Mr) : Cond := Cond.codeWith M1.2.1 M1.2.2.1 M1.2.2.2.1 M1.2.2.2.2 (gHH M1.2.1)
def CtH (Γ : Gm) (d : Nat) (M : Mr) (mc ms : Nat) (av : List Value) (E : Hp) (n : Nat) (P : Po) (X : Px) : Prop :=
  vx_Met Γ.1 M.2.1 (CdW M :: wl) (rmG d mc ms) (Pg Γ av E n) (Qg Γ P) (Xg Γ X) mc ms (AB Γ)
def LkSH (own : String) (ix : Nat) (M1 : Mr) (k : Nat) : Prop := Cond.methodLink own ix M1.2.1 ∈ wl ∧ Cond.static M1.2.1 ∈ wl ∧ Cond.initialized M1.2.1.cls ∈ wl ∧ CdW M1 ∈ wl ∧ nMH M1 k
set_option maxHeartbeats 1000000 in
theorem CtH.of {av : List Value} (hy : plainName M.2.1.cls = true) (hM : M.1 = M.2.1.cls) (hlen : (lg_sl av).length ≤ M.2.2.2.1) (h : G Γ d M P X0 0 (lv_args 0 av) [] E n mc ms) : CtH Γ d M mc ms av E n P X0 := by
  refine vx_ofWH (hh := gHH M.2.1) hy rfl ?_
  intro p e s m args below meth c s₁ B hml hv
  obtain ⟨rfl, h1, h2, hev⟩ := hv
  have hts0 := atoms_spec (ws := CdW M :: wl) B.pre
  have hts : ∀ w ∈ wl, w.before av.toArray s = true := fun w hw => hts0 w (List.mem_cons_of_mem _ hw)
  have hown : s.vm.findClass M.1 = some m.cls := by rw [hM]; exact findClass_of_methodNamed B.named
  have hlocks := B.notSynchronized
  have hname : meth.name = M.2.1.name := (name_of_methodNamed B.named B.method).1
  have hl := lv_entry av (n := M.2.2.2.1) hlen
  rw [lg_entry_eq]
  have hF : Fr Γ d M p (headSpec (CdW M :: wl) (rmG d mc ms)).room s m av.toArray meth c := ⟨B.exec, B.bytes, hml, hown, hts, hev, Nat.le_refl _, Nat.le_refl _, fun h9 => hname.trans h9, vx_table (x := M.2.1) B (hts0 _ List.mem_cons_self)⟩
  refine h p e _ s m av.toArray below meth c _ hF ⟨?_, ?_, ?_⟩ s.heap [] 0 0 _ h1 h2 va_S.rf hl (Nat.le_of_eq (Nat.zero_add _)) (Nat.le_of_eq (Nat.zero_add _))
  · intro v E1 n1 H locs cells slots pc1 ls hp g1 g2 g3 g4 g5 hr
    have hq : ∀ t : State, t.heap = H → s.WarmedH t.vm → Qg Γ P av.toArray s (.returned v) t := fun t ht _ => ⟨⟨v, E1, n1, rfl, hp, by rw [ht]; exact g1, by rw [ht]; exact g2⟩, g3.toF ht⟩
    refine vx_ret ?_
    refine W.widen (k := mc) (n := ms) g4 g5 ?_
    rcases v with _ | v
    · exact W.vret B.exec B.bytes (B.returns.trans hr.2) hq g3.2.2 hr.1
    · cases v with
      | int x => obtain ⟨r1, ty, r2, r3⟩ := hr; exact W.zret B.exec B.bytes (B.returns.trans r2) r3 hq g3.2.2 r1
      | ref a => obtain ⟨r1, ty, r2, r3⟩ := hr; exact W.aret B.exec B.bytes (B.returns.trans r2) r3 (Or.inr ⟨a, rfl⟩) hq g3.2.2 r1
      | null => obtain ⟨r1, ty, r2, r3⟩ := hr; exact W.aret B.exec B.bytes (B.returns.trans r2) r3 (Or.inl rfl) hq g3.2.2 r1
      | float x => exact W.fret B.exec B.bytes (B.returns.trans hr.2) hq g3.2.2 hr.1
      | double x => exact W.dret B.exec B.bytes (B.returns.trans hr.2) hq g3.2.2 hr.1
      | long x => exact W.lret B.exec B.bytes (B.returns.trans hr.2) hq g3.2.2 hr.1
      | _ => exact hr.elim
  · intro x E1 n1 H locs cells slots pc1 ls st1 hp
    exact hp.elim
  · intro x E1 n1 H locs cells slots pc1 ls st1 q ce hp
    exact hp.elim
theorem g_invSH (hC : CtH Γ d1 M1 mc ms As E n P1 X1) (lk : LkSH M.1 ix M1 k) (hk : As.length = k) (hd : d1 + 1 ≤ d) (hrest : (rest.map fun v => v.category).sum ≤ 8) (hst : st = As.reverse ++ rest) (dg : decode M.2.2.1 pc = .ok (.invokestatic ix, 3)) (hX : ∀ x E1 n1, X1 x E1 n1 → X x E1 n1)
    (kk : ∀ v E1 n1, P1 v E1 n1 → G Γ d M P X (pc + 3) lv (v.toList ++ rest) E1 n1 kc ks) : G Γ d M P X pc lv st E n (kc + mc) (ks + ms) := by
  intro p e R s m args below meth c Q hF hE H locs cells slots ls h1 h2 h3 h4 h5 h6
  obtain ⟨hx, hb, hml, hown, hts, hev, hdR, hlR, -⟩ := id hF
  obtain ⟨w1, w2, w4, w5, ⟨m1, m2, m3⟩⟩ := lk
  refine g_run (vx_runSX (n := k) (hh := gHH M1.2.1) ⟨hx, hb, hml, hown, hts⟩ hC ⟨⟨rfl, rfl, by show d1 + 1 ≤ R.frames; omega, by show 8 + (M1.2.2.2.1 + 11) + 64 * d1 ≤ R.locals; omega, pay_in hts (wl_cons w5), List.mem_cons_self⟩, hts _ w5, hts _ w4, m1, nMH.len m2, hts _ w1, hts _ w2⟩ ⟨Pg.blind, g_pre h1 h2 hev h3⟩ rfl hk h4.1 hst (by show 2 * 0 + _ ≤ 8; omega) dg ⟨by omega, by omega⟩) h3 (fun x E1 n1 H1 locs1 q ce a1 a2 a3 a4 a5 a6 a7 => hE.2.2 x E1 n1 H1 locs1 _ _ pc ls rest q ce (hX _ _ _ a1) a2 a3 a4 (by omega) (by omega) a5 a6 a7 h4.1) (fun v E1 n1 H1 locs1 a1 a2 a3 a4 => kk v E1 n1 a1 p e R s m args below meth c Q hF hE H1 locs1 _ _ ls a2 a3 a4 h4 (by omega) (by omega))
/-- what is thrown at this place is caught there -/
def Cat (M : Mr) (pc : Nat) (x : String) (h : Nat) : Prop := ∃ (pre : List (Nat × Nat × Nat × Nat)) (a b ct : Nat) (suf : List (Nat × Nat × Nat × Nat)), gHH M.2.1 = pre ++ (a, b, h, ct) :: suf ∧ a ≤ pc ∧ pc < b ∧ ct ≠ 0 ∧ Cond.classLink M.1 ct x ∈ wl ∧ Cond.castable x x ∈ gTw ∧ ∀ z ∈ pre, z.2.2.2 ≠ 0 ∧ ∃ nm, Cond.classLink M.1 z.2.2.2 nm ∈ wl ∧ (x, nm) ∈ gNc
theorem g_invVC (hC : Ct Γ d1 M1 mc ms (.ref b :: As) E n P1 X1) (lk : LkV M.1 ix M1 k) (hk : As.length = k) (hr : Rcv Γ E b M1.1) (hd : d1 + 1 ≤ d) (hrest : (rest.map fun v => v.category).sum ≤ 8) (hst : st = As.reverse ++ .ref b :: rest) (dg : decode M.2.2.1 pc = .ok (.invokevirtual ix, 3))
    (kx : ∀ x E1 n1 n9, X1 x E1 n1 → n1 ≤ n9 → ∃ h, Cat M pc x h ∧ ∀ q, G Γ d M P X h lv [.ref q] E1 n9 kc ks)
    (kk : ∀ v E1 n1, P1 v E1 n1 → G Γ d M P X (pc + 3) lv (v.toList ++ rest) E1 n1 kc ks) : G Γ d M P X pc lv st E n (kc + mc) (ks + ms) := by
  intro p e R s m args below meth c Q hF hE H locs cells slots ls h1 h2 h3 h4 h5 h6
  obtain ⟨hx, hb, hml, hown, hts, hev, hdR, hlR, -, htb⟩ := id hF
  obtain ⟨w1, w2, w3, w4, w5, ⟨m1, m2, m3⟩⟩ := lk
  refine g_run (vx_runV (n := k) ⟨hx, hb, hml, hown, hts⟩ hC ⟨⟨rfl, rfl, by show d1 + 1 ≤ R.frames; omega, by show 8 + (M1.2.2.2.1 + 11) + 64 * d1 ≤ R.locals; omega, pay_in hts (wl_cons w5), List.mem_cons_self, hts _ w5, hts _ w4, m1, nMH.len m2, hts _ w1⟩, hts _ w2, hts _ w3⟩ ⟨Pg.blind, hr.use h1 hev h3, g_pre h1 h2 hev h3⟩ rfl hk h4.1 hst (by show 2 * 0 + _ ≤ 8; omega) dg ⟨by omega, by omega⟩) h3 (fun x E1 n1 H1 locs1 q ce a1 a2 a3 a4 a5 a6 a7 => ?_) (fun v E1 n1 H1 locs1 a1 a2 a3 a4 => kk v E1 n1 a1 p e R s m args below meth c Q hF hE H1 locs1 _ _ ls a2 a3 a4 h4 (by omega) (by omega))
  obtain ⟨h, ⟨pre, a, b9, ct, suf, e1, e2, e3, e4, e5, e6, e7⟩, hg⟩ := kx x E1 n1 H1.size a1 a3
  refine vx_catch (name := x) hown (tableOf pre) ⟨a, b9, h, ct⟩ (tableOf suf) ?_ ?_ ?_ e4 (hts _ e5) (va_Nw.use ((gTw_ok _ e6).1) (hev.2.2.2.2.2.1.2.1 _ e6)) a5 a6 a7 ?_
  · rw [htb, e1]; simp [tableOf]
  · intro z hz
    obtain ⟨z9, hz9, rfl⟩ := List.mem_map.mp hz
    obtain ⟨g1, nm, g2, g3⟩ := e7 z9 hz9
    exact Or.inr ⟨g1, nm, hts _ g2, hev.2.2.2.2.2.1.2.2 _ g3⟩
  · show (decide (a ≤ pc) && decide (pc < b9)) = true
    rw [decide_eq_true e2, decide_eq_true e3]; rfl
  · exact hg q p e R s m args below meth c Q hF hE H1 locs1 _ _ ls a2 rfl a4 h4 (by omega) (by omega)
theorem gw_V (hC : CtW Γ d1 M1 mc ms (.ref b :: As) E n P1 X1) (lk : LkV M.1 ix M1 k) (hk : As.length = k) (hr : Rcv Γ E b M1.1) (hd : d1 + 1 ≤ d) (hrest : (rest.map fun v => v.category).sum ≤ 8) (hst : st = As.reverse ++ .ref b :: rest) (dg : decode M.2.2.1 pc = .ok (.invokevirtual ix, 3)) (hX : ∀ x E1 n1, X1 x E1 n1 → X x E1 n1)
    (kk : ∀ v E1 n1, P1 v E1 n1 → G Γ d M P X (pc + 3) lv (v.toList ++ rest) E1 n1 kc ks) : G Γ d M P X pc lv st E n (kc + mc) (ks + ms) := by
  obtain ⟨P2, X2, h, hp, hx⟩ := hC
  exact g_invV h lk hk hr hd hrest hst dg (fun x E1 n1 z => hX _ _ _ (hx _ _ _ z)) (fun v E1 n1 z => kk v E1 n1 (hp _ _ _ z))
theorem gw_VC (hC : CtW Γ d1 M1 mc ms (.ref b :: As) E n P1 X1) (lk : LkV M.1 ix M1 k) (hk : As.length = k) (hr : Rcv Γ E b M1.1) (hd : d1 + 1 ≤ d) (hrest : (rest.map fun v => v.category).sum ≤ 8) (hst : st = As.reverse ++ .ref b :: rest) (dg : decode M.2.2.1 pc = .ok (.invokevirtual ix, 3))
    (kx : ∀ x E1 n1 n9, X1 x E1 n1 → n1 ≤ n9 → ∃ h, Cat M pc x h ∧ ∀ q, G Γ d M P X h lv [.ref q] E1 n9 kc ks)
    (kk : ∀ v E1 n1, P1 v E1 n1 → G Γ d M P X (pc + 3) lv (v.toList ++ rest) E1 n1 kc ks) : G Γ d M P X pc lv st E n (kc + mc) (ks + ms) := by
  obtain ⟨P2, X2, h, hp, hx⟩ := hC
  exact g_invVC h lk hk hr hd hrest hst dg (fun x E1 n1 n9 z => kx x E1 n1 n9 (hx _ _ _ z)) (fun v E1 n1 z => kk v E1 n1 (hp _ _ _ z))
/-- the script -/
theorem g_slen (dg : decode M.2.2.1 pc = .ok (.arraylength, 1)) (k : G Γ d M P X (pc + 1) lv (.int (nI (gF Γ 10)) :: st) E n kc ks) : G Γ d M P X pc lv (.ref (gF Γ 9) :: st) E n kc ks := G.goF (fun hF _ _ hS _ k => by
  have hz : gScr Γ _ _ := hF.2.2.2.2.2.1.2.2.2.2.2.2.2.2.2.2
  exact va_slen hF.1 hF.2.1 hz.1 hz.2.1 hz.2.2.1 hS dg k) k
theorem g_sld {j : Nat} (hj : j < gF Γ 10) (dg : decode M.2.2.1 pc = .ok (.iaload, 1)) (k : G Γ d M P X (pc + 1) lv (.int (gX Γ j) :: st) E n kc ks) : G Γ d M P X pc lv (.int (nI j) :: .ref (gF Γ 9) :: st) E n kc ks := G.goF (fun hF _ _ hS _ k => by
  have hz : gScr Γ _ _ := hF.2.2.2.2.2.1.2.2.2.2.2.2.2.2.2.2
  have hb := hz.2.2.2
  exact va_sld hF.1 hF.2.1 hz.1 hz.2.1 hz.2.2.1 hS (vp_in_nI hj (by omega)) dg (by rw [nI_clamp (by omega)]; exact k)) k
theorem G.scr (k : gF Γ 10 ≤ 260 → G Γ d M P X pc lv st E n kc ks) : G Γ d M P X pc lv st E n kc ks := by
  intro p e R s m args below meth c Q hF hE H locs cells slots ls h1 h2 h3 h4 h5 h6
  have hz : gScr Γ _ _ := hF.2.2.2.2.2.1.2.2.2.2.2.2.2.2.2.2
  exact k hz.2.2.2 p e R s m args below meth c Q hF hE H locs cells slots ls h1 h2 h3 h4 h5 h6
theorem g_lcmp {x y : Int64} (dg : decode M.2.2.1 pc = .ok (.lcmp, 1)) (k : G Γ d M P X (pc + 1) lv (.int (lg_cmp x y) :: st) E n kc ks) : G Γ d M P X pc lv (.long y :: .long x :: st) E n kc ks := G.go (fun hx hb _ k => W.lcmp hx hb dg k) k
theorem g_tswIn {dflt lo hi : Int} {offs : Array Int} {len : Nat} {x : Int32} {off : Int} {tgt : Nat} (dg : decode M.2.2.1 pc = .ok (.tableswitch dflt lo hi offs, len)) (h1 : ¬ x.toInt < lo) (h2 : ¬ hi < x.toInt) (ho : offs[(x.toInt - lo).toNat]? = some off) (ht : (pc : Int) + off = (tgt : Int)) (k : G Γ d M P X tgt lv st E n kc ks) : G Γ d M P X pc lv (.int x :: st) E n kc ks := G.go (fun hx hb _ k => lv_tableIn hx hb dg h1 h2 ho ht k) k
theorem g_tswOut {dflt lo hi : Int} {offs : Array Int} {len : Nat} {x : Int32} {tgt : Nat} (dg : decode M.2.2.1 pc = .ok (.tableswitch dflt lo hi offs, len)) (h1 : x.toInt < lo ∨ hi < x.toInt) (ht : (pc : Int) + dflt = (tgt : Int)) (k : G Γ d M P X tgt lv st E n kc ks) : G Γ d M P X pc lv (.int x :: st) E n kc ks := G.go (fun hx hb _ k => lv_tableOut hx hb dg h1 ht k) k
end GLAW
