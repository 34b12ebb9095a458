/-! dinners floor by floor are the reference's dinners at once -/
section GDIN
theorem cntA_on {f : Nat → Int32} {fl : Int32} : ∀ c, c < 2 ^ 31 → cntOn f fl (-1) c = cntA f fl c
  | 0, _ => rfl
  | c + 1, h => by
    rw [cntOn, cntA, cntA_on c (by omega)]
    by_cases e : f (13 + 16 * c) = fl
    · rw [if_pos ⟨nI_nm1' (by omega), e⟩, if_pos e]
    · rw [if_neg (fun z => e z.2), if_neg e]
theorem cntA_c {f g : Nat → Int32} {fl : Int32} : ∀ c, (∀ k, k < c → g (13 + 16 * k) = f (13 + 16 * k)) → cntA g fl c = cntA f fl c
  | 0, _ => rfl
  | c + 1, h => by rw [cntA, cntA, cntA_c c (fun k hk => h k (by omega)), h c (by omega)]
theorem sumA_c {f g : Nat → Int32} {fl : Int32} {v : Nat} : ∀ c, (∀ k, k < c → g (13 + 16 * k) = f (13 + 16 * k)) → (∀ k, k < c → f (13 + 16 * k) = fl → g (13 + 16 * k + 5 + v) = f (13 + 16 * k + 5 + v)) → sumA g fl v c = sumA f fl v c
  | 0, _, _ => rfl
  | c + 1, h, h2 => by
    rw [sumA, sumA, sumA_c c (fun k hk => h k (by omega)) (fun k hk => h2 k (by omega)), h c (by omega)]
    by_cases e : f (13 + 16 * c) = fl
    · rw [if_pos e, if_pos e, h2 c (by omega) e]
    · rw [if_neg e, if_neg e]
theorem avgF_c {f g : Nat → Int32} {fl : Int32} {v c : Nat} (h : ∀ k, k < c → g (13 + 16 * k) = f (13 + 16 * k)) (h2 : ∀ k, k < c → f (13 + 16 * k) = fl → g (13 + 16 * k + 5 + v) = f (13 + 16 * k + 5 + v)) : avgF g fl v c = avgF f fl v c := by
  unfold avgF; rw [cntA_c c h, sumA_c c h h2]
def selB (f : Nat → Int32) (φ i κ : Nat) : Bool := decide ((f (13 + 16 * κ)).toNatClampNeg < φ ∨ ((f (13 + 16 * κ)).toNatClampNeg = φ ∧ κ < i))
def mixF (f D : Nat → Int32) (φ i : Nat) : Nat → Int32 := fun j => if 13 ≤ j ∧ selB f φ i ((j - 13) / 16) = true then D j else f j
theorem selB_t {f : Nat → Int32} {φ i κ ψ : Nat} (h : f (13 + 16 * κ) = nI ψ) (h5 : ψ < 5) : selB f φ i κ = true ↔ ψ < φ ∨ (ψ = φ ∧ κ < i) := by
  unfold selB; rw [h, nI_clamp (by omega)]; simp
theorem mix_hd {f D : Nat → Int32} {φ i j : Nat} (h : j < 13) : mixF f D φ i j = f j := if_neg (by omega)
theorem mix_row {f D : Nat → Int32} {φ i κ q : Nat} (hq : q < 16) : mixF f D φ i (13 + 16 * κ + q) = if selB f φ i κ = true then D (13 + 16 * κ + q) else f (13 + 16 * κ + q) := by
  unfold mixF
  rw [show (13 + 16 * κ + q - 13) / 16 = κ by omega]
  by_cases e : selB f φ i κ = true
  · rw [if_pos ⟨by omega, e⟩, if_pos e]
  · rw [if_neg (fun z => e z.2), if_neg e]
theorem rows_of {c : Nat} {P : Nat → Prop} (h1 : ∀ j, j < 13 → P j) (h2 : ∀ κ q, κ < c → q < 16 → P (13 + 16 * κ + q)) : ∀ j, j < 13 + 16 * c → P j := fun j hj => by
  by_cases h : j < 13
  · exact h1 j h
  · have e : j = 13 + 16 * ((j - 13) / 16) + (j - 13) % 16 := by omega
    rw [e]; exact h2 _ _ (by omega) (by omega)
theorem dinF_loc {f g a o : Nat → Int32} {κ q φ : Nat} (hφ : f (13 + 16 * κ) = nI φ) (h5 : φ < 5) (h : ∀ q, q < 16 → g (13 + 16 * κ + q) = f (13 + 16 * κ + q)) (hq : q < 16) : dinF g a o κ (13 + 16 * κ + q) = dinF f a o κ (13 + 16 * κ + q) := by
  have hg : g (13 + 16 * κ) = nI φ := by have := h 0 (by decide); rw [Nat.add_zero] at this; rw [this]; exact hφ
  have e : slpF g a o κ = slpF f a o κ := by
    rw [slpF_eq hg h5, slpF_eq hφ h5, far_c 5 (x2 := rw5 f κ) (y2 := fun v => a (5 * φ + v)) (fun v hv => by show g _ = f _; rw [Nat.add_assoc]; exact h (5 + v) (by omega)) (fun _ _ => rfl)]
  rcases slp_or f a o κ with z | ⟨v, hv, z⟩
  · rw [din_f (e.trans z), din_f z]; exact h q hq
  · rw [din_t hg h5 hv (e.trans z), din_t hφ h5 hv z]
    have em : ∀ q, q < 16 → mvF g (13 + 16 * κ + 5 + v) (a (5 * φ + v)) (13 + 16 * κ + q) = mvF f (13 + 16 * κ + 5 + v) (a (5 * φ + v)) (13 + 16 * κ + q) := fun q hq => by
      unfold mvF
      have e2 : g (13 + 16 * κ + 5 + v) = f (13 + 16 * κ + 5 + v) := by have := h (5 + v) (by omega); rw [← Nat.add_assoc] at this; exact this
      by_cases e1 : q = 5 + v
      · subst e1; rw [← Nat.add_assoc, pk_us, pk_us, e2]
      · rw [pk_un (by omega), pk_un (by omega), h q hq]
    by_cases e3 : q = 3
    · subst e3; rw [pk_us, pk_us, em 3 hq]
    · rw [pk_un (by omega), pk_un (by omega), em q hq]
variable {f a o : Nat → Int32} {c : Nat}
theorem dinN_lo (h : Flo f c) {κ q : Nat} (hκ : κ < c) (hq : q < 16) : ∀ n, n ≤ κ → dinN f a o n (13 + 16 * κ + q) = f (13 + 16 * κ + q)
  | 0, _ => rfl
  | n + 1, hn => by
    obtain ⟨φ, h1, h2⟩ := h n (by omega)
    rw [dinN, dinF_off (φ := φ) (by rw [dinN_fl h n (by omega)]; exact h2) h1 (fun v hv => by omega) (by omega), dinN_lo h hκ hq n (by omega)]
theorem dinN_row (h : Flo f c) {κ q : Nat} (hκ : κ < c) (hq : q < 16) : ∀ n, κ < n → n ≤ c → dinN f a o n (13 + 16 * κ + q) = dinF f a o κ (13 + 16 * κ + q)
  | 0, h9, _ => absurd h9 (Nat.not_lt_zero _)
  | n + 1, h9, hn => by
    by_cases e : n = κ
    · subst e
      obtain ⟨φ, h1, h2⟩ := h n hκ
      rw [dinN]
      exact dinF_loc h2 h1 (fun q hq => dinN_lo h hκ hq n (Nat.le_refl n)) hq
    · obtain ⟨φ, h1, h2⟩ := h n (by omega)
      rw [dinN, dinF_off (φ := φ) (by rw [dinN_fl h n (by omega)]; exact h2) h1 (fun v hv => by omega) (by omega), dinN_row h hκ hq n (by omega) (by omega)]
theorem dinN_hd (h : Flo f c) {j : Nat} (hj : j < 13) : ∀ n, n ≤ c → dinN f a o n j = f j
  | 0, _ => rfl
  | n + 1, hn => by
    obtain ⟨φ, h1, h2⟩ := h n (by omega)
    rw [dinN, dinF_off (φ := φ) (by rw [dinN_fl h n (by omega)]; exact h2) h1 (fun v hv => by omega) (by omega), dinN_hd h hj n (by omega)]
theorem mix_fl (h : Flo f c) {φ i κ : Nat} (hκ : κ < c) : mixF f (dinN f a o c) φ i (13 + 16 * κ) = f (13 + 16 * κ) := by
  have := mix_row (f := f) (D := dinN f a o c) (φ := φ) (i := i) (κ := κ) (q := 0) (by decide)
  rw [Nat.add_zero] at this
  rw [this, dinN_fl h c (Nat.le_refl c)]
  split <;> rfl
theorem mix_00 : mixF f (dinN f a o c) 0 0 = f := by
  funext j; unfold mixF
  rw [if_neg]
  rintro ⟨-, z⟩
  have := of_decide_eq_true z
  omega
theorem mix_5 (h : Flo f c) : ∀ j, j < 13 + 16 * c → mixF f (dinN f a o c) 5 0 j = dinN f a o c j := rows_of (fun j hj => by rw [mix_hd hj, dinN_hd h hj c (Nat.le_refl c)]) (fun κ q hκ hq => by
  obtain ⟨ψ, h1, h2⟩ := h κ hκ
  rw [mix_row hq, if_pos ((selB_t h2 h1).mpr (Or.inl h1))])
theorem mix_s {φ i : Nat} (h : Flo f c) (hi : i < c) (hr : f (13 + 16 * i) ≠ nI φ ∨ slpF f a o i = -1) : ∀ j, j < 13 + 16 * c → mixF f (dinN f a o c) φ (i + 1) j = mixF f (dinN f a o c) φ i j := rows_of (fun j hj => by rw [mix_hd hj, mix_hd hj]) (fun κ q hκ hq => by
  obtain ⟨ψ, h1, h2⟩ := h κ hκ
  rw [mix_row hq, mix_row hq]
  by_cases e : κ = i
  · subst e
    rcases hr with hr | hr
    · have hne : ψ ≠ φ := fun z => hr (by rw [h2, z])
      by_cases g : selB f φ κ κ = true
      · rw [if_pos g, if_pos ((selB_t h2 h1).mpr (by have := (selB_t h2 h1).mp g; omega))]
      · rw [if_neg g, if_neg (fun z => g ((selB_t h2 h1).mpr (by have := (selB_t h2 h1).mp z; omega)))]
    · have e2 : dinN f a o c (13 + 16 * κ + q) = f (13 + 16 * κ + q) := by rw [dinN_row h hκ hq c hκ (Nat.le_refl c), din_f hr]
      rw [e2]; split <;> split <;> rfl
  · by_cases g : selB f φ i κ = true
    · rw [if_pos g, if_pos ((selB_t h2 h1).mpr (by have := (selB_t h2 h1).mp g; omega))]
    · rw [if_neg g, if_neg (fun z => g ((selB_t h2 h1).mpr (by have := (selB_t h2 h1).mp z; omega)))])
theorem mix_n {φ : Nat} (h : Flo f c) : ∀ j, j < 13 + 16 * c → mixF f (dinN f a o c) φ c j = mixF f (dinN f a o c) (φ + 1) 0 j := rows_of (fun j hj => by rw [mix_hd hj, mix_hd hj]) (fun κ q hκ hq => by
  obtain ⟨ψ, h1, h2⟩ := h κ hκ
  rw [mix_row hq, mix_row hq]
  by_cases g : selB f φ c κ = true
  · rw [if_pos g, if_pos ((selB_t h2 h1).mpr (by have := (selB_t h2 h1).mp g; omega))]
  · rw [if_neg g, if_neg (fun z => g ((selB_t h2 h1).mpr (by have := (selB_t h2 h1).mp z; omega)))])
theorem mix_few {φ : Nat} (h : Flo f c) (hs : ∀ κ, κ < c → f (13 + 16 * κ) = nI φ → slpF f a o κ = -1) : ∀ j, j < 13 + 16 * c → mixF f (dinN f a o c) φ 0 j = mixF f (dinN f a o c) (φ + 1) 0 j := rows_of (fun j hj => by rw [mix_hd hj, mix_hd hj]) (fun κ q hκ hq => by
  obtain ⟨ψ, h1, h2⟩ := h κ hκ
  rw [mix_row hq, mix_row hq]
  by_cases e : ψ = φ
  · have e2 : dinN f a o c (13 + 16 * κ + q) = f (13 + 16 * κ + q) := by rw [dinN_row h hκ hq c hκ (Nat.le_refl c), din_f (hs κ hκ (by rw [h2, e]))]
    rw [e2]; split <;> split <;> rfl
  · by_cases g : selB f φ 0 κ = true
    · rw [if_pos g, if_pos ((selB_t h2 h1).mpr (by have := (selB_t h2 h1).mp g; omega))]
    · rw [if_neg g, if_neg (fun z => g ((selB_t h2 h1).mpr (by have := (selB_t h2 h1).mp z; omega)))])
theorem mix_own {φ i κ q : Nat} (hφ : φ < 5) (hf : f (13 + 16 * κ) = nI φ) (hi : i ≤ κ) (hq : q < 16) : mixF f (dinN f a o c) φ i (13 + 16 * κ + q) = f (13 + 16 * κ + q) := by
  rw [mix_row hq, if_neg (fun z => by have := (selB_t hf hφ).mp z; omega)]
theorem mix_ok {φ i v : Nat} (h : Flo f c) (hi : i < c) (hφ : φ < 5) (hf : f (13 + 16 * i) = nI φ) (hv : v < 5) (hs : slpF f a o i = nI v) : ∀ j, j < 13 + 16 * c → mixF f (dinN f a o c) φ (i + 1) j = upd (mvF (mixF f (dinN f a o c) φ i) (13 + 16 * i + 5 + v) (a (5 * φ + v))) (13 + 16 * i + 3) (mvF (mixF f (dinN f a o c) φ i) (13 + 16 * i + 5 + v) (a (5 * φ + v)) (13 + 16 * i + 3) + nI 1) j := rows_of (fun j hj => by rw [pk_un (by omega), mvF_n (by omega), mix_hd hj, mix_hd hj]) (fun κ q hκ hq => by
  obtain ⟨ψ, h1, h2⟩ := h κ hκ
  by_cases e : κ = i
  · subst e
    rw [mix_row hq, if_pos ((selB_t hf hφ).mpr (by omega)), dinN_row h hκ hq c hκ (Nat.le_refl c), din_t hf hφ hv hs]
    have em : ∀ q, q < 16 → mvF f (13 + 16 * κ + 5 + v) (a (5 * φ + v)) (13 + 16 * κ + q) = mvF (mixF f (dinN f a o c) φ κ) (13 + 16 * κ + 5 + v) (a (5 * φ + v)) (13 + 16 * κ + q) := fun q hq => by
      unfold mvF
      have e2 : mixF f (dinN f a o c) φ κ (13 + 16 * κ + 5 + v) = f (13 + 16 * κ + 5 + v) := by rw [Nat.add_assoc]; exact mix_own hφ hf (Nat.le_refl κ) (by omega)
      by_cases e1 : q = 5 + v
      · subst e1; rw [← Nat.add_assoc, pk_us, pk_us, e2]
      · rw [pk_un (by omega), pk_un (by omega), mix_own hφ hf (Nat.le_refl κ) hq]
    by_cases e3 : q = 3
    · subst e3; rw [pk_us, pk_us, em 3 hq]
    · rw [pk_un (by omega), pk_un (by omega), em q hq]
  · rw [pk_un (by omega), mvF_n (by omega), mix_row hq, mix_row hq]
    by_cases g : selB f φ i κ = true
    · rw [if_pos g, if_pos ((selB_t h2 h1).mpr (by have := (selB_t h2 h1).mp g; omega))]
    · rw [if_neg g, if_neg (fun z => g ((selB_t h2 h1).mpr (by have := (selB_t h2 h1).mp z; omega)))])
/-- the averages and crowds of a row -/
def avR (f : Nat → Int32) (c : Nat) : Nat → Int32 := avU f (fun _ => 0) c 25
def onR (f : Nat → Int32) (c : Nat) : Nat → Int32 := onU f (fun _ => 0) c 5
theorem onR_at {φ : Nat} (hφ : φ < 5) (hc : c < 2 ^ 31) : onR f c φ = nI (cntA f (nI φ) c) := by unfold onR onU; rw [if_pos hφ, cntA_on c hc]
theorem avR_at {φ v : Nat} (hφ : φ < 5) (hv : v < 5) : avR f c (5 * φ + v) = avgF f (nI φ) v c := by
  unfold avR avU; rw [if_pos (by omega), show (5 * φ + v) / 5 = φ by omega, show (5 * φ + v) % 5 = v by omega]
end GDIN
