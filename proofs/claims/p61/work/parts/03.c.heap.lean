section GHEAP
variable {Γ : Gm} {d : Nat} {M : Mr} {P : Po} {X : Px} {pc : Nat} {lv : List (Nat × Value)} {st rest : List Value} {E : Hp} {n kc ks : Nat}
/-- a field by an entry of a class's pool: class ci of vwCl, its place k -/
def Fl (own : String) (ix ci k : Nat) : Prop := ∃ (C ref : String) (T : u_T) (N : Nat), vwCl[ci]? = some (C, T, N) ∧ k < N ∧ Cond.fieldLink own ix ref (T k).2.1 (T k).2.2.1 ∈ wl ∧ (∀ w ∈ u_ws C T N, w ∈ wl) ∧ (∀ (args : Array Value) (s : State), (∀ w ∈ wl, w.before args s = true) → ∀ x, s.fieldFound? (T k).1 (T k).2.1 (T k).2.2.1 = some x → s.fieldFound? ref (T k).2.1 (T k).2.2.1 = some x)
/-- what a store of it asks: its type, whether it's final -/
def Fw (ci k : Nat) (ty : FieldType) (fin : Bool) : Prop := ∃ (C : String) (T : u_T) (N : Nat), vwCl[ci]? = some (C, T, N) ∧ (T k).2.2.2 = fin ∧ (T k).1 = C ∧ parseFieldDescriptor (T k).2.2.1 = some ty ∧ (∃ ty0 : Nat → FieldType, ∀ j, j < N → parseFieldDescriptor (T j).2.2.1 = some (ty0 j)) ∧ ∀ a, a < N → ∀ b, b < N → a ≠ b → (T a).2.1 ≠ (T b).2.1
theorem Fl.of {own C ref : String} {ix ci k N : Nat} {T : u_T} (hc : vwCl[ci]? = some (C, T, N)) (hk : k < N) (hl : Cond.fieldLink own ix ref (T k).2.1 (T k).2.2.1 ∈ wl) (hin : ∀ w ∈ u_ws C T N, w ∈ wl) (he : (T k).1 = ref) : Fl own ix ci k := ⟨C, ref, T, N, hc, hk, hl, hin, fun _ _ _ x hx => by rw [← he]; exact hx⟩
theorem g_get {ix ci k a : Nat} {fs : List Value} {v : Value} (hf : Fl M.1 ix ci k) (he : E a = some (.inr (ci, fs))) (hv : fs[k]? = some v) (dg : decode M.2.2.1 pc = .ok (.getfield ix, 3)) (kk : G Γ d M P X (pc + 3) lv (v :: st) E n kc ks) : G Γ d M P X pc lv (.ref a :: st) E n kc ks := by
  obtain ⟨C, ref, T, N, hc, hk, hl, hin, hsame⟩ := hf
  refine G.goF (fun {p e R s m args below meth c Q H locs cells slots ls} hF hH _ hS _ kk9 => ?_) kk
  obtain ⟨hx, hb, -, hown, hts, hev, -⟩ := hF
  exact va_get (D := gD Γ) (ws := [(a, .inr (ci, fs))]) hx hb hts hin hown hev.2.1 (fun j q hj => by
    cases j with
    | zero => cases hj; exact (hH a _ he).1
    | succ j => simp at hj) 0 rfl hc k hk (hts _ hl) (hsame args s hts) hv dg kk9
/-- a store's two sides: the machine's row, and the world behind it -/
theorem va_at.one {D : va_G} {cl : List vw_C} {a : Nat} {e : va_E} {H : Heap} (h : va_at D cl (a, e) H) : va_P D cl [(a, e)] H := fun j q hj => by
  cases j with
  | zero => cases hj; exact h
  | succ j => simp at hj
theorem va_P.one {D : va_G} {cl : List vw_C} {a : Nat} {e : va_E} {H : Heap} (h : va_P D cl [(a, e)] H) : va_at D cl (a, e) H := h 0 _ rfl
theorem g_put {ix ci k a : Nat} {fs fs2 : List Value} {v : Value} {ty : FieldType} (hf : Fl M.1 ix ci k) (hw : Fw ci k ty false) (he : E a = some (.inr (ci, fs))) (hl9 : k < fs.length) (hn : narrow ty v = v) (hfit : fits ty v = true) (hfs2 : fs.set k v = fs2) (dg : decode M.2.2.1 pc = .ok (.putfield ix, 3))
    (kk : G Γ d M P X (pc + 3) lv st (hset E a (.inr (ci, fs2))) n kc ks) : G Γ d M P X pc lv (v :: .ref a :: st) E n kc ks := by
  subst hfs2
  obtain ⟨C, ref, T, N, hc, hk, hl, hin, hsame⟩ := hf
  obtain ⟨C', T', N', hc', hfin, -, hd, ⟨ty0, hty⟩, hnm⟩ := hw
  cases hc.symm.trans hc'
  intro p e R s m args below meth c Q hF hE H locs cells slots ls h1 h2 h3 h4 h5 h6
  obtain ⟨hx, hb, -, hown, hts, hev, -⟩ := id hF
  have hK := hev.2.1
  have hap := va_apart (own := M.1) hts hin ty0 hty hnm hK hc
  have hB := (h1 a _ he).2
  obtain ⟨r, g1, cell, q1, q2, q3, q4⟩ := (h1 a _ he).1
  have hr : r = (C, T, N) := Option.some.inj (g1.symm.trans hc)
  subst hr
  obtain ⟨hS, hfc, kC, hkC, hkind⟩ := hK.1 ci _ hc
  obtain ⟨cf, kf, fi, f, hi, hsl⟩ := hS k hk
  have hlay := hts _ (hin _ (u_in_lay hk))
  unfold u_lay at hlay
  rw [if_neg (by rw [hfin]; decide)] at hlay
  have hst := (u_facts hfc hkC (u_lays hts hin hk) hi).1
  have h9 := u_store hfc hkC hkind hlay hi hd hn hfit
  refine W.putK hx hb (f := f) ⟨hown, hts _ hl, ⟨_, _, _, hsame args s hts _ hi⟩, hst⟩ (by rw [q2]; exact h9) q1 q3 (by rw [hsl]; exact k2_hasslot (q4 k hk)) rfl rfl dg fun H' e1 e2 e3 => ?_
  rw [hsl] at e1 ⊢
  exact kk p e R s m args below meth c Q hF hE H' _ cells slots ls (h1.set (e := .inr (ci, fs.set k v)) he ⟨_, hc, t_OB.to (V := updV (vp_V fs) k v) ⟨_, e1, q2, q3, t_set q4 hap hk v⟩ (fun j _ => vp_updV_set hl9 v j)⟩ e3) (e2.trans h2) (h3.put e2 e3 hB) h4 h5 h6
theorem g_putF {ix ci k a : Nat} {fs fs2 : List Value} {v : Value} {ty : FieldType} (hf : Fl M.1 ix ci k) (hw : Fw ci k ty true) (hown9 : ∃ T N, vwCl[ci]? = some (M.1, T, N)) (hin9 : M.2.1.name = "<init>") (he : E a = some (.inr (ci, fs))) (hl9 : k < fs.length) (hn : narrow ty v = v) (hfit : fits ty v = true) (hfs2 : fs.set k v = fs2) (dg : decode M.2.2.1 pc = .ok (.putfield ix, 3))
    (kk : G Γ d M P X (pc + 3) lv st (hset E a (.inr (ci, fs2))) n kc ks) : G Γ d M P X pc lv (v :: .ref a :: st) E n kc ks := by
  subst hfs2
  obtain ⟨C, ref, T, N, hc, hk, hl, hin, hsame⟩ := hf
  obtain ⟨C', T', N', hc', hfin, hCC, hd, ⟨ty0, hty⟩, hnm⟩ := hw
  obtain ⟨T9, N9, hc9⟩ := hown9
  cases hc.symm.trans hc'
  have hCM : C = M.1 := by have := hc.symm.trans hc9; simp at this; exact this.1
  intro p e R s m args below meth c Q hF hE H locs cells slots ls h1 h2 h3 h4 h5 h6
  obtain ⟨hx, hb, -, hown, hts, hev, -, -, hnam, -⟩ := id hF
  have hK := hev.2.1
  have hap := va_apart (own := M.1) hts hin ty0 hty hnm hK hc
  have hB := (h1 a _ he).2
  obtain ⟨r, g1, cell, q1, q2, q3, q4⟩ := (h1 a _ he).1
  have hr : r = (C, T, N) := Option.some.inj (g1.symm.trans hc)
  subst hr
  obtain ⟨hS, hfc, kC, hkC, hkind⟩ := hK.1 ci _ hc
  obtain ⟨cf, kf, fi, f, hi, hsl⟩ := hS k hk
  have hlay := hts _ (hin _ (u_in_lay hk))
  unfold u_lay at hlay
  rw [if_pos hfin] at hlay
  have hst := (u_facts hfc hkC (u_lays hts hin hk) hi).1
  have hcf : m.cls = cf := by
    obtain ⟨_, _, c', _, _, _, -, -, hf', -, -, -, hown2, -⟩ := Cond.laysFinal_spec hlay
    have e1 : c' = cf := by have := hi.symm.trans hf'; simp at this; exact this.1.symm
    rw [hCC, hCM] at hown2
    rw [← e1]; exact Option.some.inj (hown.symm.trans hown2)
  have h9 := u_fits hfc hkC hkind (Or.inr hlay) hi hd hn hfit
  refine W.putFinK hx hb hown (hts _ hl) (hsame args s hts _ hi) hst hcf (hnam hin9) (by rw [q2]; exact h9) q1 q3 (by rw [hsl]; exact k2_hasslot (q4 k hk)) rfl rfl dg fun H' e1 e2 e3 => ?_
  rw [hsl] at e1 ⊢
  exact kk p e R s m args below meth c Q hF hE H' _ cells slots ls (h1.set (e := .inr (ci, fs.set k v)) he ⟨_, hc, t_OB.to (V := updV (vp_V fs) k v) ⟨_, e1, q2, q3, t_set q4 hap hk v⟩ (fun j _ => vp_updV_set hl9 v j)⟩ e3) (e2.trans h2) (h3.put e2 e3 hB) h4 h5 h6
/-- a static of the environment -/
theorem g_gets {C nm dd : String} {v : Value} {ix : Nat} (j : Nat) (hz : (gzs Γ)[j]? = some (C, nm, dd, v)) (hl : Cond.fieldLink M.1 ix C nm dd ∈ wl) (dg : decode M.2.2.1 pc = .ok (.getstatic ix, 3)) (kk : G Γ d M P X (pc + 3) lv (v :: st) E n kc ks) : G Γ d M P X pc lv st E n kc ks :=
  G.goF (fun hF _ _ hS _ k => va_gets hF.1 hF.2.1 (hF.2.2.2.2.2.1.2.2.1 _ (List.mem_of_getElem? hz)) hS hF.2.2.2.1 (hF.2.2.2.2.1 _ hl) (fun _ h => h) dg k) kk
-- arrays
theorem g_len {a : Nat} {t : Nat} {ty : FieldType} {x : vp_A} {v : Int32} (he : E a = some (.inl (gA Γ t, x))) (ht : (gtys Γ)[t]? = some (gA Γ t, ty)) (hv : Int32.ofNat x.1 = v) (dg : decode M.2.2.1 pc = .ok (.arraylength, 1)) (kk : G Γ d M P X (pc + 1) lv (.int v :: st) E n kc ks) : G Γ d M P X pc lv (.ref a :: st) E n kc ks :=
  G.goF (fun hF hH _ _ _ k => va_alen (D := gD Γ) (cl := vwCl) hF.1 hF.2.1 hF.2.2.2.2.2.1.2.1 (hH a _ he).1.one 0 t rfl ht hv dg k) kk
theorem g_iald {a N : Nat} {f : Nat → Int32} {i : Int32} (he : E a = some (.inl (gA Γ 0, N, .inl f))) (hin : vp_in i N) (dg : decode M.2.2.1 pc = .ok (.iaload, 1)) (kk : G Γ d M P X (pc + 1) lv (.int (f i.toNatClampNeg) :: st) E n kc ks) : G Γ d M P X pc lv (.int i :: .ref a :: st) E n kc ks :=
  G.goF (fun hF hH _ _ _ k => va_iald (D := gD Γ) (cl := vwCl) hF.1 hF.2.1 hF.2.2.2.2.2.1.2.1 (hH a _ he).1.one 0 0 rfl rfl hin dg k) kk
theorem g_bald {a N : Nat} {f : Nat → Int32} {i : Int32} (he : E a = some (.inl (gA Γ 1, N, .inl f))) (hin : vp_in i N) (dg : decode M.2.2.1 pc = .ok (.baload, 1)) (kk : G Γ d M P X (pc + 1) lv (.int (f i.toNatClampNeg) :: st) E n kc ks) : G Γ d M P X pc lv (.int i :: .ref a :: st) E n kc ks :=
  G.goF (fun hF hH _ _ _ k => va_bald (D := gD Γ) (cl := vwCl) hF.1 hF.2.1 hF.2.2.2.2.2.1.2.1 (hH a _ he).1.one 0 1 rfl rfl hin dg k) kk
theorem g_zald {a N : Nat} {f : Nat → Int32} {i : Int32} (he : E a = some (.inl (gA Γ 2, N, .inl f))) (hin : vp_in i N) (dg : decode M.2.2.1 pc = .ok (.baload, 1)) (kk : G Γ d M P X (pc + 1) lv (.int (f i.toNatClampNeg) :: st) E n kc ks) : G Γ d M P X pc lv (.int i :: .ref a :: st) E n kc ks :=
  G.goF (fun hF hH _ _ _ k => va_zald (D := gD Γ) (cl := vwCl) hF.1 hF.2.1 hF.2.2.2.2.2.1.2.1 (hH a _ he).1.one 0 2 rfl rfl hin dg k) kk
theorem g_aald {a N t : Nat} {C : String} {f : Nat → Option Nat} {i : Int32} (he : E a = some (.inl (gA Γ t, N, .inr (.inr (.inr (.inr f)))))) (ht : (gtys Γ)[t]? = some (gA Γ t, .object C)) (hin : vp_in i N) (dg : decode M.2.2.1 pc = .ok (.aaload, 1)) (kk : G Γ d M P X (pc + 1) lv (va_rf (f i.toNatClampNeg) :: st) E n kc ks) : G Γ d M P X pc lv (.int i :: .ref a :: st) E n kc ks :=
  G.goF (fun hF hH _ _ _ k => va_aldq (D := gD Γ) (cl := vwCl) hF.1 hF.2.1 hF.2.2.2.2.2.1.2.1 (hH a _ he).1.one 0 t rfl ht hin dg k) kk
theorem g_iast {a N : Nat} {f : Nat → Int32} {i x : Int32} (he : E a = some (.inl (gA Γ 0, N, .inl f))) (hin : vp_in i N) (dg : decode M.2.2.1 pc = .ok (.iastore, 1)) (kk : G Γ d M P X (pc + 1) lv st (hset E a (.inl (gA Γ 0, N, .inl (upd f i.toNatClampNeg x)))) n kc ks) : G Γ d M P X pc lv (.int x :: .int i :: .ref a :: st) E n kc ks := by
  intro p e R s m args below meth c Q hF hE H locs cells slots ls h1 h2 h3 h4 h5 h6
  obtain ⟨hx, hb, -, hown, hts, hev, -⟩ := id hF
  have ht : (gtys Γ)[0]? = some (gA Γ 0, .int) := rfl
  refine W.iast hx hb (h1 a _ he).1 ((hev.2.1.2 0 _ ht).1 N (fun j => .int (f j))) (fun q => by cases q) (by show ¬ (i < 0 ∨ (arrV _ _ _).slots.size ≤ _); rw [arrV_size]; exact hin) rfl rfl dg fun H1 e1 z oq => ?_
  refine kk p e R s m args below meth c Q hF hE H1 _ cells slots ls (h1.set he ?_ oq) (z.trans h2) (h3.put z oq (h1 a _ he).2) h4 h5 h6
  show H1[a]? = some (vp_cell _ _)
  rw [e1]
  rw [vp_cell_i, vp_cell_i, arrV_store]
  congr 2
  funext q
  by_cases hq : q = i.toNatClampNeg
  · subst hq
    simp [updV, upd]
  · simp [updV, upd, hq]
theorem g_bast {a N : Nat} {f : Nat → Int32} {i x : Int32} (he : E a = some (.inl (gA Γ 1, N, .inl f))) (hin : vp_in i N) (dg : decode M.2.2.1 pc = .ok (.bastore, 1)) (kk : G Γ d M P X (pc + 1) lv st (hset E a (.inl (gA Γ 1, N, .inl (upd f i.toNatClampNeg (vp_nar .byte x))))) n kc ks) : G Γ d M P X pc lv (.int x :: .int i :: .ref a :: st) E n kc ks := by
  intro p e R s m args below meth c Q hF hE H locs cells slots ls h1 h2 h3 h4 h5 h6
  obtain ⟨hx, hb, -, hown, hts, hev, -⟩ := id hF
  have ht : (gtys Γ)[1]? = some (gA Γ 1, .byte) := rfl
  refine W.bast hx hb (h1 a _ he).1 ((hev.2.1.2 1 _ ht).1 N (fun j => .int (f j))) (fun q => by cases q) (by show ¬ (i < 0 ∨ (arrV _ _ _).slots.size ≤ _); rw [arrV_size]; exact hin) rfl rfl dg fun H1 e1 z oq => ?_
  refine kk p e R s m args below meth c Q hF hE H1 _ cells slots ls (h1.set he ?_ oq) (z.trans h2) (h3.put z oq (h1 a _ he).2) h4 h5 h6
  show H1[a]? = some (vp_cell _ _)
  rw [e1]
  rw [vp_cell_i, vp_cell_i, arrV_store]
  congr 2
  funext q
  by_cases hq : q = i.toNatClampNeg
  · subst hq
    simp [updV, upd, vp_nar]
    try rfl
  · simp [updV, upd, hq]
theorem g_zast {a N : Nat} {f : Nat → Int32} {i x : Int32} (he : E a = some (.inl (gA Γ 2, N, .inl f))) (hin : vp_in i N) (dg : decode M.2.2.1 pc = .ok (.bastore, 1)) (kk : G Γ d M P X (pc + 1) lv st (hset E a (.inl (gA Γ 2, N, .inl (upd f i.toNatClampNeg (vp_nar .boolean x))))) n kc ks) : G Γ d M P X pc lv (.int x :: .int i :: .ref a :: st) E n kc ks := by
  intro p e R s m args below meth c Q hF hE H locs cells slots ls h1 h2 h3 h4 h5 h6
  obtain ⟨hx, hb, -, hown, hts, hev, -⟩ := id hF
  have ht : (gtys Γ)[2]? = some (gA Γ 2, .boolean) := rfl
  refine W.zast hx hb (h1 a _ he).1 ((hev.2.1.2 2 _ ht).1 N (fun j => .int (f j))) (fun q => by cases q) (by show ¬ (i < 0 ∨ (arrV _ _ _).slots.size ≤ _); rw [arrV_size]; exact hin) rfl rfl dg fun H1 e1 z oq => ?_
  refine kk p e R s m args below meth c Q hF hE H1 _ cells slots ls (h1.set he ?_ oq) (z.trans h2) (h3.put z oq (h1 a _ he).2) h4 h5 h6
  show H1[a]? = some (vp_cell _ _)
  rw [e1]
  rw [vp_cell_i, vp_cell_i, arrV_store]
  congr 2
  funext q
  by_cases hq : q = i.toNatClampNeg
  · subst hq
    simp [updV, upd, vp_nar]
    try rfl
  · simp [updV, upd, hq]
theorem g_aast {a N t v ci : Nat} {r : vw_C} {vs : List Value} {f : Nat → Option Nat} {i : Int32} (he : E a = some (.inl (gA Γ t, N, .inr (.inr (.inr (.inr f)))))) (ht : (gtys Γ)[t]? = some (gA Γ t, .object r.1)) (hv : E v = some (.inr (ci, vs))) (hc : vwCl[ci]? = some r) (hin : vp_in i N) (dg : decode M.2.2.1 pc = .ok (.aastore, 1)) (kk : G Γ d M P X (pc + 1) lv st (hset E a (.inl (gA Γ t, N, .inr (.inr (.inr (.inr (va_up f i.toNatClampNeg (some v)))))))) n kc ks) : G Γ d M P X pc lv (.ref v :: .int i :: .ref a :: st) E n kc ks := by
  intro p e R s m args below meth c Q hF hE H locs cells slots ls h1 h2 h3 h4 h5 h6
  obtain ⟨hx, hb, -, hown, hts, hev, -⟩ := id hF
  have hK := hev.2.1
  have hlt : i.toNatClampNeg < N := Nat.not_le.mp fun q => hin (Or.inr q)
  have h0 : ¬ i < 0 := fun q => hin (Or.inl q)
  obtain ⟨r', hr', cellV, g1, g2, g3, -⟩ := (h1 v _ hv).1
  have hcls := (hK.1 ci r hc).2
  obtain ⟨kA, comp, k1, k2, k3, -⟩ := (hK.2 t _ ht).2
  have hcomp : comp = (gD Γ).1 ci := Option.some.inj (k3.symm.trans hcls.1)
  subst hcomp
  obtain ⟨kC, hkC, -⟩ := hcls.2
  refine W.aast hx hb (h1 a _ he).1 (fun q h => by cases h) (fun h => by cases h) k1 k2 rfl hkC ⟨h0, by show _ < (arrV _ _ _).slots.size; rw [arrV_size]; exact hlt⟩ g1 (fun q h => by rw [g3] at h; cases h) (by rw [g2]; exact hkC) (by rw [g2]; exact va_assign hcls) rfl rfl dg fun H1 e1 z oq => ?_
  refine kk p e R s m args below meth c Q hF hE H1 _ cells slots ls (h1.set he ?_ oq) (z.trans h2) (h3.put z oq (h1 a _ he).2) h4 h5 h6
  show H1[a]? = some (vp_cell _ _)
  rw [e1]
  rw [vp_cell_q, vp_cell_q, arrV_store]
  congr 2
  funext q
  by_cases hq : q = i.toNatClampNeg
  · subst hq
    simp [updV, va_up, va_rf]
  · simp [updV, va_up, hq]
-- making
theorem g_new {ix ci N : Nat} {C : String} {T : u_T} {fs : List Value} {ty : Nat → FieldType} (hc : vwCl[ci]? = some (C, T, N)) (hin : ∀ w ∈ u_ws C T N, w ∈ wl) (hty : ∀ k, k < N → parseFieldDescriptor (T k).2.2.1 = some (ty k)) (hl : Cond.classLink M.1 ix C ∈ wl) (hi : Cond.instantiable C N ∈ wl) (hini : Cond.initialized C ∈ wl) (hfs : ∀ j, j < N → defaultValue (ty j) = vp_V fs j) (dg : decode M.2.2.1 pc = .ok (.new ix, 3))
    (kk : gB Γ ≤ n → (∀ a e, E a = some e → a < n) → G Γ d M P X (pc + 3) lv (.ref n :: st) (hset E n (.inr (ci, fs))) (n + 1) kc ks) : G Γ d M P X pc lv st E n (kc + 1) (ks + N) := by
  intro p e R s m args below meth c Q hF hE H locs cells slots ls h1 h2 h3 h4 h5 h6
  obtain ⟨hx, hb, -, hown, hts, hev, -⟩ := id hF
  have hKn := hev.2.1.1 ci _ hc
  have hBn : gB Γ ≤ H.size := Nat.le_trans hev.2.2.2.2.2.2.2.2.1 h3.1
  refine W.newcK hx hb hown (hts _ hl) (hts _ hi) (hts _ hini) rfl dg (by omega) (by omega) hKn.2.1 rfl fun H1 kC hkC e1 z1 o1 => ?_
  subst h2
  refine kk hBn (fun a e ha => h1.lt ha) p e R s m args below meth c Q hF hE H1 locs (cells + 1) (slots + N) ls (h1.new hBn ⟨_, hc, (u_born ty hts (fun w hw => hin w hw) hKn hkC e1 hty).to hfs⟩ o1) z1 ⟨Nat.le_trans h3.1 (by omega), fun q g1 g2 => (o1 q (Nat.lt_of_lt_of_le g1 h3.1)).trans (h3.2.1 q g1 g2), h3.2.2⟩ h4 (by omega) (by omega)
theorem g_newa {t N : Nat} {atype : ArrayType} {ty : FieldType} {i : Int32} {a0 : vp_A} (ht : (gtys Γ)[t]? = some (gA Γ t, ty)) (hty : newarray.typeOf atype = ty) (hw : Cond.arrayClass ty ∈ wl) (ha : ∀ cA : ClassId, vp_cell cA a0 = arrV cA N (fun _ => defaultValue ty)) (hi0 : ¬ i < 0) (hiN : i.toNatClampNeg = N) (hbytes : N * componentBytes ty ≤ 536870912) (hra : ∀ (U : State) (cA : ClassId), va_RA U cA ty → U.vm.findClass ("[" ++ ty.toString) = some cA) (dg : decode M.2.2.1 pc = .ok (.newarray atype, 2))
    (kk : gB Γ ≤ n → (∀ a e, E a = some e → a < n) → G Γ d M P X (pc + 2) lv (.ref n :: st) (hset E n (.inl (gA Γ t, a0))) (n + 1) kc ks) : G Γ d M P X pc lv (.int i :: st) E n (kc + 1) (ks + N) := by
  subst hty
  intro p e R s m args below meth c Q hF hE H locs cells slots ls h1 h2 h3 h4 h5 h6
  obtain ⟨hx, hb, -, hown, hts, hev, -⟩ := id hF
  have hBn : gB Γ ≤ H.size := Nat.le_trans hev.2.2.2.2.2.2.2.2.1 h3.1
  refine va_newaK hx hb (hts _ hw) rfl dg rfl hi0 hiN hbytes (by omega) (by omega) rfl fun H1 cA e1 z1 o1 hAr hNm => ?_
  have hcA : cA = gA Γ t := Option.some.inj (hNm.symm.trans (hra s _ (hev.2.1.2 t _ ht).2))
  subst hcA
  subst h2
  refine kk hBn (fun a e ha => h1.lt ha) p e R s m args below meth c Q hF hE H1 locs (cells + 1) (slots + N) ls (h1.new hBn (by show H1[H.size]? = some (vp_cell _ _); rw [ha]; exact e1) o1) z1 ⟨Nat.le_trans h3.1 (by omega), fun q g1 g2 => (o1 q (Nat.lt_of_lt_of_le g1 h3.1)).trans (h3.2.1 q g1 g2), h3.2.2⟩ h4 (by omega) (by omega)
theorem g_anew {ix t N : Nat} {C : String} {i : Int32} (ht : (gtys Γ)[t]? = some (gA Γ t, .object C)) (hl : Cond.classLink M.1 ix C ∈ wl) (hao : ∀ (U : State) (H : Heap), Ev Γ U H → va_AO C U) (hi0 : ¬ i < 0) (hiN : i.toNatClampNeg = N) (hbytes : N * 4 ≤ 536870912) (dg : decode M.2.2.1 pc = .ok (.anewarray ix, 3))
    (kk : gB Γ ≤ n → (∀ a e, E a = some e → a < n) → G Γ d M P X (pc + 3) lv (.ref n :: st) (hset E n (.inl (gA Γ t, N, .inr (.inr (.inr (.inr (fun _ => none))))))) (n + 1) kc ks) : G Γ d M P X pc lv (.int i :: st) E n (kc + 1) (ks + N) := by
  subst hiN
  intro p e R s m args below meth c Q hF hE H locs cells slots ls h1 h2 h3 h4 h5 h6
  obtain ⟨hx, hb, -, hown, hts, hev, -⟩ := id hF
  have hBn : gB Γ ≤ H.size := Nat.le_trans hev.2.2.2.2.2.2.2.2.1 h3.1
  refine W.anew hx hb hown (hts _ hl) (va_AO.use (hao s _ hev)) rfl dg rfl hi0 hbytes (by omega) (by omega) fun cA kA comp f1 f2 f3 f4 => ?_
  generalize hH1 : H.push ({ cls := cA, slots := Array.replicate i.toNatClampNeg .null, vm := .none } : Cell) = H1
  have z1 : H1.size = H.size + 1 := by rw [← hH1, Array.size_push]
  have e1 : H1[H.size]? = some (arrV cA i.toNatClampNeg (fun _ => .null)) := by rw [← hH1, Array.getElem?_push_size, ← arrV_new]
  have o1 : ∀ q : Nat, q < H.size → H1[q]? = H[q]? := fun q hq => by rw [← hH1, Array.getElem?_push, if_neg (Nat.ne_of_lt hq)]
  have hcA : cA = gA Γ t := by
    obtain ⟨kA2, comp2, -, -, -, g4⟩ := (hev.2.1.2 t _ ht).2
    exact Option.some.inj (f1.symm.trans g4)
  subst hcA
  subst h2
  refine kk hBn (fun a e ha => h1.lt ha) p e R s m args below meth c Q hF hE H1 locs (cells + 1) (slots + i.toNatClampNeg) ls (h1.new hBn (by show H1[H.size]? = some (vp_cell _ _); rw [vp_cell_q]; exact e1) o1) z1 ⟨Nat.le_trans h3.1 (by omega), fun q g1 g2 => (o1 q (Nat.lt_of_lt_of_le g1 h3.1)).trans (h3.2.1 q g1 g2), h3.2.2⟩ h4 (by omega) (by omega)
end GHEAP
