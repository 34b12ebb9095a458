/-! the class's tokens (pure), and what the heap says of the five kinds -/
noncomputable section GTOK
/-- the token at fr, as the class has it -/
def tkT (inp : Nat → Int32) (e fr : Nat) (g : Bool) : Nat × Nat × Nat :=
  if fr = e then (0, fr, fr)
  else if ltB inp fr = true then (if g = true then 4 else 1, fr, spn (ltB inp) (e - fr) fr)
  else if dgB inp fr = true then (if g = true then 4 else 2, fr, spn (dgB inp) (e - fr) fr)
  else (if inp fr = nI 59 then 3 else 4, fr, fr + 1)
def nxT (inp : Nat → Int32) (e κ en : Nat) : Nat × Nat × Nat := op (tkT inp e (skP inp e en) (ndB κ && decide (skP inp e en = en)))
theorem nxT_eq {inp : Nat → Int32} {e κ en fr : Nat} (h : skP inp e en = fr) : nxT inp e κ en = tkT inp e fr (ndB κ && decide (fr = en)) := by unfold nxT; rw [op_eq, h]
variable {inp : Nat → Int32} {e fr κ : Nat} {g : Bool}
theorem tkT_e (h : fr = e) : tkT inp e fr g = (0, fr, fr) := if_pos h
theorem tkT_l (h : ¬ fr = e) (hl : ltB inp fr = true) (hk : κ = if g = true then 4 else 1) : tkT inp e fr g = (κ, fr, spn (ltB inp) (e - fr) fr) := by unfold tkT; rw [if_neg h, if_pos hl, hk]
theorem tkT_d (h : ¬ fr = e) (hl : ¬ ltB inp fr = true) (hd : dgB inp fr = true) (hk : κ = if g = true then 4 else 2) : tkT inp e fr g = (κ, fr, spn (dgB inp) (e - fr) fr) := by unfold tkT; rw [if_neg h, if_neg hl, if_pos hd, hk]
theorem tkT_o (h : ¬ fr = e) (hl : ¬ ltB inp fr = true) (hd : ¬ dgB inp fr = true) (hk : κ = if inp fr = nI 59 then 3 else 4) : tkT inp e fr g = (κ, fr, fr + 1) := by unfold tkT; rw [if_neg h, if_neg hl, if_neg hd, hk]
/-- a token's object -/
def tkF (Γ : Gm) (ti lb e κ st en : Nat) : List Value := [.ref ti, .ref lb, .int (nI e), .ref (gF Γ κ), .int (nI st), .int (nI en)]
section
variable {Γ : Gm} {d : Nat} {M : Mr} {P : Po} {X : Px} {pc : Nat} {lv : List (Nat × Value)} {st : List Value} {E : Hp} {n kc ks : Nat}
theorem G.tok (k : (∀ i j : Nat, i < 5 → j < 5 → gF Γ i = gF Γ j → i = j) → G Γ d M P X pc lv st E n kc ks) : G Γ d M P X pc lv st E n kc ks := by
  intro p e R s m args below meth c Q hF hE H locs cells slots ls h1 h2 h3 h4 h5 h6
  exact k hF.2.2.2.2.2.1.2.2.2.2.2.2.2.2.2.1 p e R s m args below meth c Q hF hE H locs cells slots ls h1 h2 h3 h4 h5 h6
end
/-- a state of the tokens that is one -/
def TV (inp : Nat → Int32) (e κ st en : Nat) : Prop := κ < 5 ∧ st ≤ en ∧ en ≤ e ∧ (κ = 1 → ∀ j, st ≤ j → j < en → ltB inp j = true) ∧ (κ = 2 → ∀ j, st ≤ j → j < en → dgB inp j = true) ∧ (κ ≠ 0 → st < en)
theorem tkT_v (h : fr ≤ e) : TV inp e (tkT inp e fr g).1 (tkT inp e fr g).2.1 (tkT inp e fr g).2.2 := by
  by_cases h1 : fr = e
  · rw [tkT_e h1]; exact ⟨Nat.zero_lt_succ 4, Nat.le_refl _, h, (fun z => by cases z), (fun z => by cases z), fun z => absurd rfl z⟩
  · by_cases h2 : ltB inp fr = true
    · rw [tkT_l h1 h2 rfl]
      have g1 := spn_le (ltB inp) (e - fr) fr
      have g2 := spn_ge (ltB inp) (e - fr) fr
      have g3 : fr < spn (ltB inp) (e - fr) fr := by
        rw [show e - fr = (e - fr - 1) + 1 by omega, spn_t h2]
        exact Nat.lt_of_lt_of_le (Nat.lt_succ_self fr) (spn_ge _ _ _)
      exact ⟨by show (if g = true then 4 else 1) < 5; split <;> decide, g2, (by show spn (ltB inp) (e - fr) fr ≤ e; omega), fun _ j a b => spn_in _ _ _ _ a b, (fun z => by have z2 : (if g = true then 4 else 1) = 2 := z; split at z2 <;> omega), fun _ => g3⟩
    · by_cases h3 : dgB inp fr = true
      · rw [tkT_d h1 h2 h3 rfl]
        have g1 := spn_le (dgB inp) (e - fr) fr
        have g2 := spn_ge (dgB inp) (e - fr) fr
        have g3 : fr < spn (dgB inp) (e - fr) fr := by
          rw [show e - fr = (e - fr - 1) + 1 by omega, spn_t h3]
          exact Nat.lt_of_lt_of_le (Nat.lt_succ_self fr) (spn_ge _ _ _)
        exact ⟨by show (if g = true then 4 else 2) < 5; split <;> decide, g2, (by show spn (dgB inp) (e - fr) fr ≤ e; omega), (fun z => by have z2 : (if g = true then 4 else 2) = 1 := z; split at z2 <;> omega), fun _ j a b => spn_in _ _ _ _ a b, fun _ => g3⟩
      · rw [tkT_o h1 h2 h3 rfl]
        exact ⟨by show (if inp fr = nI 59 then 3 else 4) < 5; split <;> decide, by show fr ≤ fr + 1; omega, by show fr + 1 ≤ e; omega, (fun z => by have z2 : (if inp fr = nI 59 then 3 else 4) = 1 := z; split at z2 <;> omega), (fun z => by have z2 : (if inp fr = nI 59 then 3 else 4) = 2 := z; split at z2 <;> omega), fun _ => Nat.lt_succ_self fr⟩
theorem nxT_v {en : Nat} (h : en ≤ e) : TV inp e (nxT inp e κ en).1 (nxT inp e κ en).2.1 (nxT inp e κ en).2.2 := by rw [nxT_eq rfl]; exact tkT_v (skP_le h)
/-- the class's token and the reference's -/
def Tk (κ st en : Nat) (s : PS) : Prop := st = s.2.1 ∧ en = s.2.2.1 ∧ (κ = s.1 ∨ (κ = 2 ∧ s.1 = 4 ∧ 3 < en - st)) ∧ (s.1 = 2 → en - st ≤ 3)
end GTOK
