/-! A growing region: entries at consecutive places -/
section GREG
def rW (b : Nat) (F : Hp) (L : List va_E) : Hp := fun a => if b ≤ a ∧ a < b + L.length then L[a - b]? else F a
variable {b : Nat} {F : Hp} {L : List va_E}
theorem rW_get {i : Nat} {e : va_E} (h : L[i]? = some e) : rW b F L (b + i) = some e := by
  have hi : i < L.length := (List.getElem?_eq_some_iff.mp h).1
  unfold rW; rw [if_pos ⟨by omega, by omega⟩, Nat.add_sub_cancel_left]; exact h
theorem rW_at {a i : Nat} {e : va_E} (ha : a = b + i) (h : L[i]? = some e) : rW b F L a = some e := by subst ha; exact rW_get h
theorem rW_o {a : Nat} (h : a < b ∨ b + L.length ≤ a) : rW b F L a = F a := by unfold rW; rw [if_neg (by omega)]
theorem rW_set {a i : Nat} {e : va_E} (ha : a = b + i) (hi : i < L.length) : hset (rW b F L) a e = rW b F (L.set i e) := by
  subst ha
  funext q; unfold hset rW
  rw [List.length_set]
  by_cases h : q = b + i
  · subst h
    rw [if_pos rfl, if_pos ⟨by omega, by omega⟩, Nat.add_sub_cancel_left, List.getElem?_set_self hi]
  · rw [if_neg h]
    by_cases h2 : b ≤ q ∧ q < b + L.length
    · rw [if_pos h2, if_pos h2, List.getElem?_set_ne (by omega)]
    · rw [if_neg h2, if_neg h2]
theorem rW_new {a : Nat} {e : va_E} (ha : a = b + L.length) : hset (rW b F L) a e = rW b F (L ++ [e]) := by
  subst ha
  funext q; unfold hset rW
  rw [List.length_append, List.length_singleton]
  by_cases h : q = b + L.length
  · subst h
    rw [if_pos rfl, if_pos ⟨by omega, by omega⟩, Nat.add_sub_cancel_left]
    simp
  · rw [if_neg h]
    by_cases h2 : b ≤ q ∧ q < b + L.length
    · rw [if_pos h2, if_pos ⟨h2.1, by omega⟩, List.getElem?_append_left (by omega)]
    · rw [if_neg h2, if_neg (by omega)]
theorem rW_1 {e : va_E} (h : F b = some e) : rW b F [e] = F := by
  funext q; unfold rW
  by_cases h2 : b ≤ q ∧ q < b + [e].length
  · rw [if_pos h2]
    have : q = b := by have := h2.2; simp at this; omega
    subst this; rw [Nat.sub_self]; exact h.symm
  · rw [if_neg h2]
/-- a row of written numbers -/
def lsF (l : List Nat) : Nat → Int32 := fun j => nI (l.getD j 0)
theorem lsF_u {l : List Nat} {i v : Nat} (h : i < l.length) : upd (lsF l) i (nI v) = lsF (l.set i v) := by
  funext j; unfold upd lsF
  by_cases e : j = i
  · subst e; rw [if_pos rfl, List.getD_eq_getElem?_getD, List.getElem?_set_self h]; rfl
  · rw [if_neg e, List.getD_eq_getElem?_getD, List.getD_eq_getElem?_getD, List.getElem?_set_ne (by omega)]
theorem lsF_0 {N : Nat} : (fun _ => nI 0) = lsF (List.replicate N 0) := by
  funext j; unfold lsF
  rw [List.getD_eq_getElem?_getD]
  by_cases h : j < N
  · rw [List.getElem?_replicate, if_pos h]; rfl
  · rw [List.getElem?_replicate, if_neg h]; rfl
variable {Γ : Gm} {d : Nat} {M : Mr} {P : Po} {X : Px} {pc : Nat} {lv : List (Nat × Value)} {st rest : List Value} {E : Hp} {n kc ks : Nat}
theorem vi_0 {N : Nat} {ty : FieldType} (h : defaultValue ty = .int (nI 0)) (cA : ClassId) : vp_cell cA (N, .inl (fun _ => nI 0)) = arrV cA N (fun _ => defaultValue ty) := by rw [vp_cell_i, h]
/-- new arrays of numbers, all 0 -/
theorem gn_newi {N : Nat} (hw : Cond.arrayClass .int ∈ wl) (hN : N < 2 ^ 27) (dg : decode M.2.2.1 pc = .ok (.newarray .int, 2)) (kk : gB Γ ≤ n → G Γ d M P X (pc + 2) lv (.ref n :: st) (hset E n (.inl (gA Γ 0, N, .inl (fun _ => nI 0)))) (n + 1) kc ks) : G Γ d M P X pc lv (.int (nI N) :: st) E n (kc + 1) (ks + N) :=
  g_newa (t := 0) (ty := .int) (a0 := (N, .inl (fun _ => nI 0))) rfl rfl hw (vi_0 rfl) (nI_pos (by omega)) (nI_clamp (by omega)) (by show N * 4 ≤ _; omega) (fun U cA h => h) dg (fun h _ => kk h)
theorem gn_newb {N : Nat} (hw : Cond.arrayClass .byte ∈ wl) (hN : N < 2 ^ 27) (dg : decode M.2.2.1 pc = .ok (.newarray .byte, 2)) (kk : gB Γ ≤ n → G Γ d M P X (pc + 2) lv (.ref n :: st) (hset E n (.inl (gA Γ 1, N, .inl (fun _ => nI 0)))) (n + 1) kc ks) : G Γ d M P X pc lv (.int (nI N) :: st) E n (kc + 1) (ks + N) :=
  g_newa (t := 1) (ty := .byte) (a0 := (N, .inl (fun _ => nI 0))) rfl rfl hw (vi_0 rfl) (nI_pos (by omega)) (nI_clamp (by omega)) (by show N * 1 ≤ _; omega) (fun U cA h => h) dg (fun h _ => kk h)
theorem gn_newz {N : Nat} (hw : Cond.arrayClass .boolean ∈ wl) (hN : N < 2 ^ 27) (dg : decode M.2.2.1 pc = .ok (.newarray .boolean, 2)) (kk : gB Γ ≤ n → G Γ d M P X (pc + 2) lv (.ref n :: st) (hset E n (.inl (gA Γ 2, N, .inl (fun _ => nI 0)))) (n + 1) kc ks) : G Γ d M P X pc lv (.int (nI N) :: st) E n (kc + 1) (ks + N) :=
  g_newa (t := 2) (ty := .boolean) (a0 := (N, .inl (fun _ => nI 0))) rfl rfl hw (vi_0 rfl) (nI_pos (by omega)) (nI_clamp (by omega)) (by show N * 1 ≤ _; omega) (fun U cA h => h) dg (fun h _ => kk h)
theorem gn_ldc {ix a : Nat} (hw : Cond.constant M.1 ix (nI a) ∈ wl) (dg : decode M.2.2.1 pc = .ok (.ldc ix, 2)) (k : G Γ d M P X (pc + 2) lv (.int (nI a) :: st) E n kc ks) : G Γ d M P X pc lv st E n kc ks := g_ldcI hw dg k
/-- the reference's world, out of a region -/
theorem MW_rW {mo : Nat} {I : Nat → Int32} {A : Nat → Nat → Int32} {f : Nat → Int32} : rW mo F [.inr (11, moObj mo I), .inl (gA Γ 0, 48, .inl (A 0)), .inl (gA Γ 0, 24, .inl (A 1)), .inl (gA Γ 0, 205, .inl f), .inl (gA Γ 0, 205, .inl (A 3)), .inl (gA Γ 0, 2050, .inl (A 4)), .inl (gA Γ 0, 410, .inl (A 5)), .inl (gA Γ 0, 25, .inl (A 6)), .inl (gA Γ 0, 5, .inl (A 7)), .inl (gA Γ 1, 600, .inl (A 8)), .inl (gA Γ 4, 60, .inl (A 9))] = MW Γ mo F I A f := by
  funext a
  by_cases h : mo ≤ a ∧ a < mo + 11
  · obtain ⟨j, hj, rfl⟩ : ∃ j, j < 11 ∧ a = mo + j := ⟨a - mo, by omega, by omega⟩
    have hj' : j = 0 ∨ j = 1 ∨ j = 2 ∨ j = 3 ∨ j = 4 ∨ j = 5 ∨ j = 6 ∨ j = 7 ∨ j = 8 ∨ j = 9 ∨ j = 10 := by omega
    rcases hj' with rfl | rfl | rfl | rfl | rfl | rfl | rfl | rfl | rfl | rfl | rfl
    · exact (rW_get rfl).trans MW_0.symm
    · exact (rW_get rfl).trans MW_1.symm
    · exact (rW_get rfl).trans MW_2.symm
    · exact (rW_get rfl).trans MW_3.symm
    · exact (rW_get rfl).trans MW_4.symm
    · exact (rW_get rfl).trans MW_5.symm
    · exact (rW_get rfl).trans MW_6.symm
    · exact (rW_get rfl).trans MW_7.symm
    · exact (rW_get rfl).trans MW_8.symm
    · exact (rW_get rfl).trans MW_9.symm
    · exact (rW_get rfl).trans MW_10.symm
  · rw [rW_o (by show a < mo ∨ mo + 11 ≤ a; omega)]
    unfold MW
    rw [if_neg (by omega), if_neg (by omega), if_neg (by omega), if_neg (by omega), if_neg (by omega), if_neg (by omega), if_neg (by omega), if_neg (by omega), if_neg (by omega), if_neg (by omega), if_neg (by omega)]
/-- the first house -/
def fsL : List Nat := [97, 110, 110, 0, 20, 44446, 98, 111, 98, 0, 3, 4444, 99, 105, 100, 1, 0, 99004, 100, 111, 116, 1, 40, 98014]
def fsF : Nat → Int32 := lsF fsL
def iniH : Nat → Nat → Int32
  | 0 => upd (upd (fun _ => nI 0) 0 (nI 5)) 1 (nI 6)
  | i + 1 => upd (iniH i) (2 + i) (nI 4)
def iniL : Nat → Nat → Int32
  | 0 => iniH 5
  | k + 1 => nmF (comF (iniL k) (fsF (6 * k + 3)) (fsF (6 * k + 4)) (fsL.getD (6 * k + 5) 0) k) fsF (13 + 16 * k + 10) (6 * k) 3
theorem iniH_7 : ∀ i, i ≤ 5 → iniH i 7 = nI 0
  | 0, _ => rfl
  | i + 1, h => by rw [iniH, pk_un (by omega)]; exact iniH_7 i (by omega)
theorem iniL_7 : ∀ k, iniL k 7 = nI k
  | 0 => iniH_7 5 (Nat.le_refl 5)
  | k + 1 => by rw [iniL, nmF_o 3 (by omega)]; exact comF_7 (iniL_7 k)
theorem fs_fl : ∀ k, k < 4 → ∃ φ, φ < 5 ∧ fsF (6 * k + 3) = nI φ := fun k hk => by
  have : k = 0 ∨ k = 1 ∨ k = 2 ∨ k = 3 := by omega
  rcases this with rfl | rfl | rfl | rfl
  · exact ⟨0, by decide, rfl⟩
  · exact ⟨0, by decide, rfl⟩
  · exact ⟨1, by decide, rfl⟩
  · exact ⟨1, by decide, rfl⟩
theorem fs_ac : ∀ k, k < 4 → fsL.getD (6 * k + 5) 0 < 2 ^ 31 := fun k hk => by
  have : k = 0 ∨ k = 1 ∨ k = 2 ∨ k = 3 := by omega
  rcases this with rfl | rfl | rfl | rfl <;> decide
theorem iniL_ok : ∀ k, k ≤ 4 → Okr (iniL k) k
  | 0, _ => ⟨iniL_7 0, by decide, fun j hj => by omega⟩
  | k + 1, h => by
    rw [iniL]
    obtain ⟨φ, h1, h2⟩ := fs_fl k (by omega)
    rw [h2]
    exact nmF_ok rfl (by decide) (comF_ok (iniL_ok k (by omega)) (by omega) h1)
def iniI : Nat → Int32 := fun j => if j = 11 then -1 else if j = 18 then -1 else nI 0
def iniA : Nat → Nat → Int32 := fun j => if j = 0 then kyF else if j = 1 then fsF else fun _ => nI 0
end GREG
