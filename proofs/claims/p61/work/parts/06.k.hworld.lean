/-! a house of the class: 42 cells from hb on -/
section GHW
/-- numbers, landlady, average, order, names, rows, accents -/
abbrev Hr : Type := (Nat → Int32) × (Nat → Int32) × (Nat → Int32) × (Nat → Nat) × (Nat → Nat) × (Nat → Nat → Int32) × (Nat → Nat → Int32)
abbrev hL (R : Hr) : Nat → Int32 := R.2.1
abbrev hV (R : Hr) : Nat → Int32 := R.2.2.1
abbrev hO (R : Hr) : Nat → Nat := R.2.2.2.1
abbrev hN (R : Hr) : Nat → Nat := R.2.2.2.2.1
abbrev hR (R : Hr) : Nat → Nat → Int32 := R.2.2.2.2.2.1
abbrev hA (R : Hr) : Nat → Nat → Int32 := R.2.2.2.2.2.2
def up {α : Type} (f : Nat → α) (k : Nat) (x : α) : Nat → α := fun j => if j = k then x else f j
theorem up_s {α : Type} {f : Nat → α} {k : Nat} {x : α} : up f k x k = x := if_pos rfl
theorem up_n {α : Type} {f : Nat → α} {k j : Nat} {x : α} (h : j ≠ k) : up f k x j = f j := if_neg h
def sH (R : Hr) (j : Nat) (x : Int32) : Hr := (upd R.1 j x, R.2)
def sL (R : Hr) (y : Nat → Int32) : Hr := (R.1, y, R.2.2)
def sV (R : Hr) (y : Nat → Int32) : Hr := (R.1, R.2.1, y, R.2.2.2)
def sO (R : Hr) (y : Nat → Nat) : Hr := (R.1, R.2.1, R.2.2.1, y, R.2.2.2.2)
def sN (R : Hr) (o s : Nat) : Hr := (R.1, R.2.1, R.2.2.1, R.2.2.2.1, up R.2.2.2.2.1 o s, R.2.2.2.2.2)
def sR (R : Hr) (o i : Nat) (x : Int32) : Hr := (R.1, R.2.1, R.2.2.1, R.2.2.2.1, R.2.2.2.2.1, up R.2.2.2.2.2.1 o (upd (R.2.2.2.2.2.1 o) i x), R.2.2.2.2.2.2)
def sA (R : Hr) (o : Nat) (y : Nat → Int32) : Hr := (R.1, R.2.1, R.2.2.1, R.2.2.2.1, R.2.2.2.2.1, R.2.2.2.2.2.1, up R.2.2.2.2.2.2 o y)
def hoF (hb : Nat) (d : Nat → Int32) : List Value := [.int (d 8), .int (d 0), .int (d 1), .int (d 9), .int (d 10), .int (d 11), .int (d 12), .int (d 7), .ref (hb + 1), .ref (hb + 3), .ref (hb + 4)]
def loF (hb o s : Nat) (r : Nat → Int32) : List Value := [.ref s, .int (r 0), .int (r 1), .int (r 2), .int (r 3), .int (r 4), .ref (hb + 7 + 3 * o)]
def laF (hb : Nat) (g : Nat → Nat) : Nat → Option Nat := fun k => some (hb + 6 + 3 * g k)
def hwL (Γ : Gm) (hb o : Nat) (R : Hr) : Nat → va_E
  | 0 => .inr (7, loF hb o (hN R o) (hR R o))
  | 1 => .inr (4, [.ref (hb + 8 + 3 * o)])
  | _ => .inl (gA Γ 0, 5, .inl (hA R o))
def hwE (Γ : Gm) (hb : Nat) (R : Hr) : Nat → va_E
  | 0 => .inr (6, hoF hb R.1)
  | 1 => .inr (4, [.ref (hb + 2)])
  | 2 => .inl (gA Γ 0, 5, .inl (hL R))
  | 3 => .inl (gA Γ 5, 12, .inr (.inr (.inr (.inr (laF hb (hO R))))))
  | 4 => .inr (4, [.ref (hb + 5)])
  | 5 => .inl (gA Γ 0, 5, .inl (hV R))
  | j + 6 => hwL Γ hb (j / 3) R (j % 3)
def HW (Γ : Gm) (hb : Nat) (F : Hp) (R : Hr) : Hp := fun a => if hb ≤ a ∧ a < hb + 42 then some (hwE Γ hb R (a - hb)) else F a
variable {Γ : Gm} {hb : Nat} {F : Hp} {R : Hr} {o : Nat}
theorem HW_o {a : Nat} (h : ¬ (hb ≤ a ∧ a < hb + 42)) : HW Γ hb F R a = F a := if_neg h
theorem HW_h : HW Γ hb F R hb = some (.inr (6, hoF hb R.1)) := by unfold HW; rw [if_pos (by omega), Nat.sub_self]; rfl
theorem HW_at {j : Nat} (h : j < 42) : HW Γ hb F R (hb + j) = some (hwE Γ hb R j) := by unfold HW; rw [if_pos (by omega), Nat.add_sub_cancel_left]
theorem HW_1 : HW Γ hb F R (hb + 1) = some (.inr (4, [.ref (hb + 2)])) := HW_at (by decide)
theorem HW_2 : HW Γ hb F R (hb + 2) = some (.inl (gA Γ 0, 5, .inl (hL R))) := HW_at (by decide)
theorem HW_3 : HW Γ hb F R (hb + 3) = some (.inl (gA Γ 5, 12, .inr (.inr (.inr (.inr (laF hb (hO R))))))) := HW_at (by decide)
theorem HW_4 : HW Γ hb F R (hb + 4) = some (.inr (4, [.ref (hb + 5)])) := HW_at (by decide)
theorem HW_5 : HW Γ hb F R (hb + 5) = some (.inl (gA Γ 0, 5, .inl (hV R))) := HW_at (by decide)
theorem hwE_l {j : Nat} (hj : j < 3) : hwE Γ hb R (3 * o + j + 6) = hwL Γ hb o R j := by
  show hwL Γ hb ((3 * o + j) / 3) R ((3 * o + j) % 3) = _
  rw [show (3 * o + j) / 3 = o by omega, show (3 * o + j) % 3 = j by omega]
theorem HW_l (h : o < 12) : HW Γ hb F R (hb + 6 + 3 * o) = some (.inr (7, loF hb o (hN R o) (hR R o))) := by rw [show hb + 6 + 3 * o = hb + (3 * o + 0 + 6) by omega, HW_at (by omega), hwE_l (o := o) (j := 0) (by decide)]; rfl
theorem HW_a (h : o < 12) : HW Γ hb F R (hb + 7 + 3 * o) = some (.inr (4, [.ref (hb + 8 + 3 * o)])) := by rw [show hb + 7 + 3 * o = hb + (3 * o + 1 + 6) by omega, HW_at (by omega), hwE_l (o := o) (j := 1) (by decide)]; rfl
theorem HW_p (h : o < 12) : HW Γ hb F R (hb + 8 + 3 * o) = some (.inl (gA Γ 0, 5, .inl (hA R o))) := by rw [show hb + 8 + 3 * o = hb + (3 * o + 2 + 6) by omega, HW_at (by omega), hwE_l (o := o) (j := 2) (by decide)]; rfl
theorem HW_set {R2 : Hr} {j : Nat} {e : va_E} (hj : j < 42) (he : hwE Γ hb R2 j = e) (ho : ∀ i, i < 42 → i ≠ j → hwE Γ hb R2 i = hwE Γ hb R i) : hset (HW Γ hb F R) (hb + j) e = HW Γ hb F R2 := by
  funext a; unfold hset HW
  by_cases h : a = hb + j
  · rw [if_pos h, if_pos (by omega), show a - hb = j by omega, he]
  · rw [if_neg h]
    by_cases h2 : hb ≤ a ∧ a < hb + 42
    · rw [if_pos h2, if_pos h2, ho (a - hb) (by omega) (by omega)]
    · rw [if_neg h2, if_neg h2]
theorem HW_sh {d : Nat → Int32} : hset (HW Γ hb F R) hb (.inr (6, hoF hb d)) = HW Γ hb F (d, R.2) := HW_set (j := 0) (by decide) rfl (fun i _ h => match i, h with
  | 0, h => absurd rfl h
  | 1, _ => rfl
  | 2, _ => rfl
  | 3, _ => rfl
  | 4, _ => rfl
  | 5, _ => rfl
  | _ + 6, _ => rfl)
theorem HW_sL {y : Nat → Int32} : hset (HW Γ hb F R) (hb + 2) (.inl (gA Γ 0, 5, .inl y)) = HW Γ hb F (sL R y) := HW_set (j := 2) (by decide) rfl (fun i _ h => match i, h with
  | 0, _ => rfl
  | 1, _ => rfl
  | 2, h => absurd rfl h
  | 3, _ => rfl
  | 4, _ => rfl
  | 5, _ => rfl
  | _ + 6, _ => rfl)
theorem HW_sO {g : Nat → Nat} : hset (HW Γ hb F R) (hb + 3) (.inl (gA Γ 5, 12, .inr (.inr (.inr (.inr (laF hb g)))))) = HW Γ hb F (sO R g) := HW_set (j := 3) (by decide) rfl (fun i _ h => match i, h with
  | 0, _ => rfl
  | 1, _ => rfl
  | 2, _ => rfl
  | 3, h => absurd rfl h
  | 4, _ => rfl
  | 5, _ => rfl
  | _ + 6, _ => rfl)
theorem HW_sV {y : Nat → Int32} : hset (HW Γ hb F R) (hb + 5) (.inl (gA Γ 0, 5, .inl y)) = HW Γ hb F (sV R y) := HW_set (j := 5) (by decide) rfl (fun i _ h => match i, h with
  | 0, _ => rfl
  | 1, _ => rfl
  | 2, _ => rfl
  | 3, _ => rfl
  | 4, _ => rfl
  | 5, h => absurd rfl h
  | _ + 6, _ => rfl)
theorem hwL_o {R2 : Hr} {b j : Nat} (h1 : hN R2 b = hN R b) (h2 : hR R2 b = hR R b) (h3 : hA R2 b = hA R b) : hwL Γ hb b R2 j = hwL Γ hb b R j := match j with
  | 0 => by show Sum.inr _ = _; rw [h1, h2]; rfl
  | 1 => rfl
  | _ + 2 => by show Sum.inl _ = _; rw [h3]; rfl
theorem HW_sl {R2 : Hr} {s : Nat} {r : Nat → Int32} (h : o < 12) (e1 : R2.1 = R.1) (e2 : hL R2 = hL R) (e3 : hV R2 = hV R) (e4 : hO R2 = hO R) (e5 : hA R2 = hA R) (e6 : hN R2 = up (hN R) o s) (e7 : hR R2 = up (hR R) o r) : hset (HW Γ hb F R) (hb + 6 + 3 * o) (.inr (7, loF hb o s r)) = HW Γ hb F R2 := by
  rw [show hb + 6 + 3 * o = hb + (3 * o + 0 + 6) by omega]
  refine HW_set (by omega) ?_ (fun i hi hn => ?_)
  · rw [hwE_l (o := o) (j := 0) (by decide)]; show Sum.inr _ = _; rw [e6, e7, up_s, up_s]
  · match i, hi, hn with
    | 0, _, _ => show Sum.inr _ = _; rw [e1]; rfl
    | 1, _, _ => rfl
    | 2, _, _ => show Sum.inl _ = _; rw [e2]; rfl
    | 3, _, _ => show Sum.inl _ = _; rw [e4]; rfl
    | 4, _, _ => rfl
    | 5, _, _ => show Sum.inl _ = _; rw [e3]; rfl
    | j + 6, _, hn =>
      show hwL Γ hb (j / 3) R2 (j % 3) = hwL Γ hb (j / 3) R (j % 3)
      by_cases g : j / 3 = o
      · have g2 : j % 3 = 1 ∨ j % 3 = 2 := by omega
        rcases g2 with g2 | g2
        · rw [g2]; rfl
        · rw [g2]; show Sum.inl _ = _; rw [e5]; rfl
      · exact hwL_o (by rw [e6, up_n g]) (by rw [e7, up_n g]) (by rw [e5])
theorem HW_sA {y : Nat → Int32} (h : o < 12) : hset (HW Γ hb F R) (hb + 8 + 3 * o) (.inl (gA Γ 0, 5, .inl y)) = HW Γ hb F (sA R o y) := by
  rw [show hb + 8 + 3 * o = hb + (3 * o + 2 + 6) by omega]
  refine HW_set (by omega) ?_ (fun i hi hn => ?_)
  · rw [hwE_l (o := o) (j := 2) (by decide)]; show Sum.inl _ = _; rw [show hA (sA R o y) o = y from up_s]
  · match i, hi, hn with
    | 0, _, _ => rfl
    | 1, _, _ => rfl
    | 2, _, _ => rfl
    | 3, _, _ => rfl
    | 4, _, _ => rfl
    | 5, _, _ => rfl
    | j + 6, _, hn =>
      show hwL Γ hb (j / 3) (sA R o y) (j % 3) = hwL Γ hb (j / 3) R (j % 3)
      by_cases g : j / 3 = o
      · have g2 : j % 3 = 0 ∨ j % 3 = 1 := by omega
        rcases g2 with g2 | g2
        · rw [g2]; rfl
        · rw [g2]; rfl
      · exact hwL_o rfl rfl (up_n g)
theorem HW_sR {i : Nat} {x : Int32} (h : o < 12) : hset (HW Γ hb F R) (hb + 6 + 3 * o) (.inr (7, loF hb o (hN R o) (upd (hR R o) i x))) = HW Γ hb F (sR R o i x) := by
  refine HW_sl h rfl rfl rfl rfl rfl ?_ rfl
  funext b; unfold up; split
  · rename_i e; rw [e]; rfl
  · rfl
theorem HW_sN {s : Nat} (h : o < 12) : hset (HW Γ hb F R) (hb + 6 + 3 * o) (.inr (7, loF hb o s (hR R o))) = HW Γ hb F (sN R o s) := by
  refine HW_sl h rfl rfl rfl rfl rfl rfl ?_
  funext b; unfold up; split
  · rename_i e; rw [e]; rfl
  · rfl
theorem HW_F {F2 : Hp} (h : ∀ a, ¬ (hb ≤ a ∧ a < hb + 42) → F a = F2 a) : HW Γ hb F R = HW Γ hb F2 R := by
  funext a; unfold HW
  by_cases g : hb ≤ a ∧ a < hb + 42
  · rw [if_pos g, if_pos g]
  · rw [if_neg g, if_neg g, h a g]
/-- a house lies at hb -/
def HAt (Γ : Gm) (E : Hp) (hb : Nat) (R : Hr) : Prop := ∀ j, j < 42 → E (hb + j) = some (hwE Γ hb R j)
theorem HAt.eq {E : Hp} (h : HAt Γ E hb R) : E = HW Γ hb E R := by
  funext a; unfold HW
  by_cases g : hb ≤ a ∧ a < hb + 42
  · rw [if_pos g, ← h (a - hb) (by omega), show hb + (a - hb) = a by omega]
  · rw [if_neg g]
theorem HAt.of : HAt Γ (HW Γ hb F R) hb R := fun j hj => HW_at hj
/-- names -/
def Nam (Γ : Gm) (E : Hp) (s : Nat) (l : Nat → Int32) : Prop := ∃ w N b, SF Γ E s w ∧ BA Γ E w N b ∧ 1 ≤ N ∧ N ≤ 6 ∧ (∀ i, i < N → b i = l i ∧ ∃ q, 97 ≤ q ∧ q ≤ 122 ∧ l i = nI q) ∧ (∀ i, N ≤ i → i < 6 → l i = nI 0)
def Wf (R : Hr) : Prop := (∀ k, k < 12 → hO R k < 12) ∧ (∀ j k, j < 12 → k < 12 → hO R j = hO R k → j = k)
/-- the house R is the row f, of c lodgers; names in S -/
def Rp (Γ : Gm) (S : Hp) (f : Nat → Int32) (c : Nat) (R : Hr) : Prop :=
  Wf R ∧ c ≤ 12 ∧ f 7 = nI c ∧ (∀ j, j < 13 → ¬ (2 ≤ j ∧ j < 7) → R.1 j = f j) ∧ (∀ v, v < 5 → hL R v = f (2 + v)) ∧
  (∀ k, k < c → (∀ i, i < 5 → hR R (hO R k) i = f (13 + 16 * k + i)) ∧ (∀ v, v < 5 → hA R (hO R k) v = f (13 + 16 * k + 5 + v)) ∧ Nam Γ S (hN R (hO R k)) (fun i => f (13 + 16 * k + 10 + i)))
section
variable {S : Hp} {f : Nat → Int32} {c : Nat}
theorem Rp.cnt (h : Rp Γ S f c R) : R.1 7 = nI c := by rw [h.2.2.2.1 7 (by decide) (by decide)]; exact h.2.2.1
theorem Rp.d {j : Nat} (h : Rp Γ S f c R) (hj : j < 13) (hn : ¬ (2 ≤ j ∧ j < 7)) : R.1 j = f j := h.2.2.2.1 j hj hn
theorem Rp.o12 (h : Rp Γ S f c R) {k : Nat} (hk : k < c) : hO R k < 12 := h.1.1 k (by have := h.2.1; omega)
theorem Rp.row (h : Rp Γ S f c R) {k i : Nat} (hk : k < c) (hi : i < 5) : hR R (hO R k) i = f (13 + 16 * k + i) := (h.2.2.2.2.2 k hk).1 i hi
theorem Rp.flo (h : Rp Γ S f c R) {k : Nat} (hk : k < c) : hR R (hO R k) 0 = f (13 + 16 * k) := (h.2.2.2.2.2 k hk).1 0 (by decide)
theorem Rp.acc (h : Rp Γ S f c R) {k v : Nat} (hk : k < c) (hv : v < 5) : hA R (hO R k) v = f (13 + 16 * k + 5 + v) := (h.2.2.2.2.2 k hk).2.1 v hv
theorem Rp.lan (h : Rp Γ S f c R) {v : Nat} (hv : v < 5) : hL R v = f (2 + v) := h.2.2.2.2.1 v hv
theorem Rp.nam (h : Rp Γ S f c R) {k : Nat} (hk : k < c) : Nam Γ S (hN R (hO R k)) (fun i => f (13 + 16 * k + 10 + i)) := (h.2.2.2.2.2 k hk).2.2
theorem Nam.eq {s : Nat} {l l2 : Nat → Int32} (h : Nam Γ S s l) (e : ∀ i, i < 6 → l2 i = l i) : Nam Γ S s l2 := by
  obtain ⟨w, N, b, q1, q2, q3, q4, q5, q6⟩ := h
  exact ⟨w, N, b, q1, q2, q3, q4, fun i hi => by rw [e i (by omega)]; exact q5 i hi, fun i hi hi6 => by rw [e i hi6]; exact q6 i hi hi6⟩
theorem Rp.congr {g : Nat → Int32} (h : Rp Γ S f c R) (e : ∀ j, j < 13 + 16 * c → g j = f j) : Rp Γ S g c R := by
  obtain ⟨h1, h2, h3, h4, h5, h6⟩ := h
  refine ⟨h1, h2, by rw [e 7 (by omega)]; exact h3, fun j hj hn => by rw [e j (by omega)]; exact h4 j hj hn, fun v hv => by rw [e _ (by omega)]; exact h5 v hv, fun k hk => ⟨fun i hi => by rw [e _ (by omega)]; exact (h6 k hk).1 i hi, fun v hv => by rw [e _ (by omega)]; exact (h6 k hk).2.1 v hv, ?_⟩⟩
  exact (h6 k hk).2.2.eq fun i hi => e _ (by omega)
theorem Nam.mono {S2 : Hp} {s : Nat} {l : Nat → Int32} (h : Nam Γ S s l) (e : ∀ a, Le S S2 a) : Nam Γ S2 s l := by
  obtain ⟨w, N, b, q1, q2, q3⟩ := h
  exact ⟨w, N, b, q1.mono (e _), q2.mono (e _), q3⟩
theorem Rp.mono {S2 : Hp} (h : Rp Γ S f c R) (e : ∀ a, Le S S2 a) : Rp Γ S2 f c R := ⟨h.1, h.2.1, h.2.2.1, h.2.2.2.1, h.2.2.2.2.1, fun k hk => ⟨(h.2.2.2.2.2 k hk).1, (h.2.2.2.2.2 k hk).2.1, (h.2.2.2.2.2 k hk).2.2.mono e⟩⟩
theorem Rp.sH {j : Nat} {x : Int32} (h : Rp Γ S f c R) (hj : j < 13) (hn : ¬ (2 ≤ j ∧ j < 8)) : Rp Γ S (upd f j x) c (sH R j x) := by
  obtain ⟨h1, h2, h3, h4, h5, h6⟩ := h
  refine ⟨h1, h2, by rw [pk_un (by omega)]; exact h3, fun i hi hi2 => ?_, fun v hv => by rw [pk_un (by omega)]; exact h5 v hv, fun k hk => ⟨fun i hi => by rw [pk_un (by omega)]; exact (h6 k hk).1 i hi, fun v hv => by rw [pk_un (by omega)]; exact (h6 k hk).2.1 v hv, (h6 k hk).2.2.eq fun i hi => pk_un (by omega)⟩⟩
  show upd R.1 j x i = upd f j x i
  unfold upd; split
  · rfl
  · exact h4 i hi hi2
theorem Rp.sV {y : Nat → Int32} (h : Rp Γ S f c R) : Rp Γ S f c (sV R y) := h
theorem Rp.sL {v : Nat} {x : Int32} (h : Rp Γ S f c R) (hv : v < 5) : Rp Γ S (upd f (2 + v) x) c (sL R (upd (hL R) v x)) := by
  obtain ⟨h1, h2, h3, h4, h5, h6⟩ := h
  refine ⟨h1, h2, by rw [pk_un (by omega)]; exact h3, fun i hi hi2 => by rw [pk_un (by omega)]; exact h4 i hi hi2, fun w hw => ?_, fun k hk => ⟨fun i hi => by rw [pk_un (by omega)]; exact (h6 k hk).1 i hi, fun v hv => by rw [pk_un (by omega)]; exact (h6 k hk).2.1 v hv, (h6 k hk).2.2.eq fun i hi => pk_un (by omega)⟩⟩
  show upd (hL R) v x w = upd f (2 + v) x (2 + w)
  by_cases e : w = v
  · rw [e, pk_us, pk_us]
  · rw [pk_un e, pk_un (by omega)]; exact h5 w hw
theorem Rp.sR {k i : Nat} {x : Int32} (h : Rp Γ S f c R) (hk : k < c) (hi : i < 5) : Rp Γ S (upd f (13 + 16 * k + i) x) c (sR R (hO R k) i x) := by
  obtain ⟨h1, h2, h3, h4, h5, h6⟩ := h
  refine ⟨h1, h2, by rw [pk_un (by omega)]; exact h3, fun j hj hj2 => by rw [pk_un (by omega)]; exact h4 j hj hj2, fun w hw => by rw [pk_un (by omega)]; exact h5 w hw, fun k2 hk2 => ⟨fun i2 hi2 => ?_, fun v hv => by rw [pk_un (by omega)]; exact (h6 k2 hk2).2.1 v hv, (h6 k2 hk2).2.2.eq fun i hi => pk_un (by omega)⟩⟩
  show up (hR R) (hO R k) (upd (hR R (hO R k)) i x) (hO R k2) i2 = _
  by_cases e : k2 = k
  · subst e
    rw [up_s]
    by_cases e2 : i2 = i
    · subst e2; rw [pk_us, pk_us]
    · rw [pk_un e2, pk_un (by omega)]; exact (h6 _ hk2).1 i2 hi2
  · rw [up_n (fun z => e (h1.2 _ _ (by omega) (by omega) z)), pk_un (by omega)]; exact (h6 k2 hk2).1 i2 hi2
theorem Rp.sA {k v : Nat} {x : Int32} (h : Rp Γ S f c R) (hk : k < c) (hv : v < 5) : Rp Γ S (upd f (13 + 16 * k + 5 + v) x) c (sA R (hO R k) (upd (hA R (hO R k)) v x)) := by
  obtain ⟨h1, h2, h3, h4, h5, h6⟩ := h
  refine ⟨h1, h2, by rw [pk_un (by omega)]; exact h3, fun j hj hj2 => by rw [pk_un (by omega)]; exact h4 j hj hj2, fun w hw => by rw [pk_un (by omega)]; exact h5 w hw, fun k2 hk2 => ⟨fun i2 hi2 => by rw [pk_un (by omega)]; exact (h6 k2 hk2).1 i2 hi2, fun w hw => ?_, (h6 k2 hk2).2.2.eq fun i hi => pk_un (by omega)⟩⟩
  show up (hA R) (hO R k) (upd (hA R (hO R k)) v x) (hO R k2) w = _
  by_cases e : k2 = k
  · subst e
    rw [up_s]
    by_cases e2 : w = v
    · subst e2; rw [pk_us, pk_us]
    · rw [pk_un e2, pk_un (by omega)]; exact (h6 _ hk2).2.1 w hw
  · rw [up_n (fun z => e (h1.2 _ _ (by omega) (by omega) z)), pk_un (by omega)]; exact (h6 k2 hk2).2.1 w hw
end
section
variable {d : Nat} {M : Mr} {P : Po} {X : Px} {pc : Nat} {lv : List (Nat × Value)} {st rest : List Value} {E : Hp} {n kc ks : Nat}
theorem h_put {ix k j : Nat} {x : Int32} (hf : Fl M.1 ix 6 k) (hw : Fw 6 k .int false) (hk : k < 11) (hs : (hoF hb R.1).set k (.int x) = hoF hb (upd R.1 j x)) (dg : decode M.2.2.1 pc = .ok (.putfield ix, 3)) (kk : G Γ d M P X (pc + 3) lv st (HW Γ hb F (sH R j x)) n kc ks) : G Γ d M P X pc lv (.int x :: .ref hb :: st) (HW Γ hb F R) n kc ks :=
  g_put hf hw HW_h hk rfl rfl hs dg (by rw [HW_sh]; exact kk)
theorem l_put {ix k j : Nat} {x : Int32} (hf : Fl M.1 ix 7 k) (hw : Fw 7 k .int false) (ho : o < 12) (hk : k < 7) (hs : (loF hb o (hN R o) (hR R o)).set k (.int x) = loF hb o (hN R o) (upd (hR R o) j x)) (dg : decode M.2.2.1 pc = .ok (.putfield ix, 3)) (kk : G Γ d M P X (pc + 3) lv st (HW Γ hb F (sR R o j x)) n kc ks) : G Γ d M P X pc lv (.int x :: .ref (hb + 6 + 3 * o) :: st) (HW Γ hb F R) n kc ks :=
  g_put hf hw (HW_l ho) hk rfl rfl hs dg (by rw [HW_sR ho]; exact kk)
theorem h_putR {S : Hp} {f : Nat → Int32} {c ix k j : Nat} {x : Int32} (hr : Rp Γ S f c R) (hf : Fl M.1 ix 6 k) (hw : Fw 6 k .int false) (hk : k < 11) (hs : (hoF hb R.1).set k (.int x) = hoF hb (upd R.1 j x)) (hj : j < 13) (hn : ¬ (2 ≤ j ∧ j < 8)) (dg : decode M.2.2.1 pc = .ok (.putfield ix, 3)) (kk : Rp Γ S (upd f j x) c (sH R j x) → G Γ d M P X (pc + 3) lv st (HW Γ hb F (sH R j x)) n kc ks) : G Γ d M P X pc lv (.int x :: .ref hb :: st) (HW Γ hb F R) n kc ks :=
  h_put hf hw hk hs dg (kk (hr.sH hj hn))
theorem l_putR {S : Hp} {f : Nat → Int32} {c q ix k j : Nat} {x : Int32} (hr : Rp Γ S f c R) (hq : q < c) (hf : Fl M.1 ix 7 k) (hw : Fw 7 k .int false) (hk : k < 7) (hs : (loF hb (hO R q) (hN R (hO R q)) (hR R (hO R q))).set k (.int x) = loF hb (hO R q) (hN R (hO R q)) (upd (hR R (hO R q)) j x)) (hj : j < 5) (dg : decode M.2.2.1 pc = .ok (.putfield ix, 3)) (kk : Rp Γ S (upd f (13 + 16 * q + j) x) c (sR R (hO R q) j x) → G Γ d M P X (pc + 3) lv st (HW Γ hb F (sR R (hO R q) j x)) n kc ks) : G Γ d M P X pc lv (.int x :: .ref (hb + 6 + 3 * hO R q) :: st) (HW Γ hb F R) n kc ks :=
  l_put hf hw (hr.o12 hq) hk hs dg (kk (hr.sR hq hj))
theorem l_putN {ix s : Nat} (hf : Fl M.1 ix 7 0) (hw : Fw 7 0 (.object "java/lang/String") false) (ho : o < 12) (dg : decode M.2.2.1 pc = .ok (.putfield ix, 3)) (kk : G Γ d M P X (pc + 3) lv st (HW Γ hb F (sN R o s)) n kc ks) : G Γ d M P X pc lv (.ref s :: .ref (hb + 6 + 3 * o) :: st) (HW Γ hb F R) n kc ks :=
  g_put hf hw (HW_l ho) (by show 0 < 7; decide) rfl rfl (show _ = loF hb o s (hR R o) from rfl) dg (by rw [HW_sN ho]; exact kk)
theorem h_aald {k : Nat} (hk : k < 12) (dg : decode M.2.2.1 pc = .ok (.aaload, 1)) (kk : G Γ d M P X (pc + 1) lv (.ref (hb + 6 + 3 * hO R k) :: st) (HW Γ hb F R) n kc ks) : G Γ d M P X pc lv (.int (nI k) :: .ref (hb + 3) :: st) (HW Γ hb F R) n kc ks :=
  g_aald (C := "AccentHouse$Lodger") (t := 5) HW_3 rfl (vp_in_nI hk (by decide)) dg (by rw [nI_clamp (by omega)]; exact kk)
theorem h_aast {k v : Nat} (hk : k < 12) (hv : v < 12) (dg : decode M.2.2.1 pc = .ok (.aastore, 1)) (kk : G Γ d M P X (pc + 1) lv st (HW Γ hb F (sO R (up (hO R) k v))) n kc ks) : G Γ d M P X pc lv (.ref (hb + 6 + 3 * v) :: .int (nI k) :: .ref (hb + 3) :: st) (HW Γ hb F R) n kc ks := by
  refine g_aast (t := 5) (r := ("AccentHouse$Lodger", TX3, 7)) HW_3 rfl (HW_l hv) rfl (vp_in_nI hk (by decide)) dg ?_
  rw [nI_clamp (by omega), show va_up (laF hb (hO R)) k (some (hb + 6 + 3 * v)) = laF hb (up (hO R) k v) from by
    funext j; unfold va_up laF up; split <;> rfl, HW_sO]
  exact kk
end
theorem dst_c {x y x2 y2 : Nat → Int32} : ∀ n, (∀ v, v < n → x v = x2 v) → (∀ v, v < n → y v = y2 v) → dst x y n = dst x2 y2 n
  | 0, _, _ => rfl
  | n + 1, h1, h2 => by rw [dst, dst, dst_c n (fun v hv => h1 v (by omega)) (fun v hv => h2 v (by omega)), h1 n (by omega), h2 n (by omega)]
theorem dif_c {x y x2 y2 : Nat → Int32} : ∀ n, (∀ v, v < n → x v = x2 v) → (∀ v, v < n → y v = y2 v) → dif x y n = dif x2 y2 n
  | 0, _, _ => rfl
  | n + 1, h1, h2 => by rw [dif, dif, dif_c n (fun v hv => h1 v (by omega)) (fun v hv => h2 v (by omega)), h1 n (by omega), h2 n (by omega)]
theorem far_c {x y x2 y2 : Nat → Int32} : ∀ n, (∀ v, v < n → x v = x2 v) → (∀ v, v < n → y v = y2 v) → far x y n = far x2 y2 n
  | 0, _, _ => rfl
  | n + 1, h1, h2 => by rw [far, far, far_c n (fun v hv => h1 v (by omega)) (fun v hv => h2 v (by omega)), h1 n (by omega), h2 n (by omega)]
section
variable {S : Hp} {f : Nat → Int32} {c k j : Nat}
theorem Rp.ds1 (h : Rp Γ S f c R) (hk : k < c) : dst (hA R (hO R k)) (hL R) 5 = dst (rw5 f k) (la5 f) 5 := dst_c 5 (fun v hv => h.acc hk hv) (fun v hv => h.lan hv)
theorem Rp.di1 (h : Rp Γ S f c R) (hk : k < c) : dif (hA R (hO R k)) (hL R) 5 = dif (rw5 f k) (la5 f) 5 := dif_c 5 (fun v hv => h.acc hk hv) (fun v hv => h.lan hv)
theorem Rp.fa1 (h : Rp Γ S f c R) (hk : k < c) : far (hA R (hO R k)) (hL R) 5 = far (rw5 f k) (la5 f) 5 := far_c 5 (fun v hv => h.acc hk hv) (fun v hv => h.lan hv)
theorem Rp.ds2 (h : Rp Γ S f c R) (hk : k < c) (hj : j < c) : dst (hA R (hO R k)) (hA R (hO R j)) 5 = dst (rw5 f k) (rw5 f j) 5 := dst_c 5 (fun v hv => h.acc hk hv) (fun v hv => h.acc hj hv)
theorem Rp.di2 (h : Rp Γ S f c R) (hk : k < c) (hj : j < c) : dif (hA R (hO R k)) (hA R (hO R j)) 5 = dif (rw5 f k) (rw5 f j) 5 := dif_c 5 (fun v hv => h.acc hk hv) (fun v hv => h.acc hj hv)
end
abbrev HPo (Γ : Gm) (hb : Nat) (F : Hp) (n : Nat) (r : Option Value) (Q : Hr → Prop) : Po := fun v E2 n2 => v = r ∧ n2 = n ∧ ∃ R2, E2 = HW Γ hb F R2 ∧ Q R2
section
variable {S : Hp} {f : Nat → Int32} {c k v : Nat}
theorem rp_mv (h : Rp Γ S f c R) (hk : k < c) (hv : v < 5) : Rp Γ S (mvF f (13 + 16 * k + 5 + v) (f (2 + v))) c (sA R (hO R k) (upd (hA R (hO R k)) v (hA R (hO R k) v + (if hA R (hO R k) v < hL R v then nI 1 else -1)))) := by
  have e := h.sA (x := hA R (hO R k) v + (if hA R (hO R k) v < hL R v then nI 1 else -1)) hk hv
  unfold mvF
  rw [← h.acc hk hv, ← h.lan hv]
  exact e
theorem rp_mva {t : Int32} (h : Rp Γ S f c R) (hk : k < c) (hv : v < 5) (ht : hV R v = t) : Rp Γ S (mvF f (13 + 16 * k + 5 + v) t) c (sA R (hO R k) (upd (hA R (hO R k)) v (hA R (hO R k) v + (if hA R (hO R k) v < hV R v then nI 1 else -1)))) := by
  have e := h.sA (x := hA R (hO R k) v + (if hA R (hO R k) v < hV R v then nI 1 else -1)) hk hv
  unfold mvF
  rw [← h.acc hk hv, ← ht]
  exact e
end
end GHW
