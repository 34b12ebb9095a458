/-! the parser reads no byte behind the text's end (pure) -/
noncomputable section GCNG
variable {a b f J : Nat → Int32} {e c : Nat} {s : PS}
theorem spn_c {p q : Nat → Bool} : ∀ m i, (∀ j, i ≤ j → j < i + m → p j = q j) → spn p m i = spn q m i
  | 0, _, _ => rfl
  | m + 1, i, h => by
    rw [spn, spn, h i (Nat.le_refl i) (by omega), spn_c m (i + 1) (fun j h1 h2 => h j (by omega) (by omega))]
theorem vlN_c (h : ∀ j, j < e → a j = b j) {fr : Nat} : ∀ k, fr + k ≤ e → vlN a fr k = vlN b fr k
  | 0, _ => rfl
  | k + 1, hk => by rw [vlN, vlN, vlN_c h k (by omega), h (fr + k) (by omega)]
theorem spB_c (h : ∀ j, j < e → a j = b j) {j : Nat} (hj : j < e) : spB a j = spB b j := by unfold spB; rw [h j hj]
theorem ltB_c (h : ∀ j, j < e → a j = b j) {j : Nat} (hj : j < e) : ltB a j = ltB b j := by unfold ltB; rw [h j hj]
theorem dgB_c (h : ∀ j, j < e → a j = b j) {j : Nat} (hj : j < e) : dgB a j = dgB b j := by unfold dgB; rw [h j hj]
theorem skP_c (h : ∀ j, j < e → a j = b j) {t : Nat} (ht : t ≤ e) : skP a e t = skP b e t := by
  unfold skP; exact spn_c _ _ (fun j h1 h2 => spB_c h (by omega))
theorem tkP_c (h : ∀ j, j < e → a j = b j) {fr v ft fa : Nat} {g : Bool} (hf : fr ≤ e) : tkP a e fr g v ft fa = tkP b e fr g v ft fa := by
  unfold tkP
  by_cases e1 : fr = e
  · rw [if_pos e1, if_pos e1]
  · have hl : fr < e := by omega
    have e3 : spn (ltB a) (e - fr) fr = spn (ltB b) (e - fr) fr := spn_c _ _ (fun j h1 h2 => ltB_c h (by omega))
    have e4 : spn (dgB a) (e - fr) fr = spn (dgB b) (e - fr) fr := spn_c _ _ (fun j h1 h2 => dgB_c h (by omega))
    have e5 := spn_le (dgB b) (e - fr) fr
    have e6 := spn_ge (dgB b) (e - fr) fr
    have e7 : vlN a fr (lo3 (spn (dgB b) (e - fr) fr - fr)) = vlN b fr (lo3 (spn (dgB b) (e - fr) fr - fr)) := vlN_c h _ (by unfold lo3; split <;> omega)
    rw [if_neg e1, if_neg e1, ltB_c h hl, dgB_c h hl, e3, e4, e7, h fr hl]
theorem nxP_c (h : ∀ j, j < e → a j = b j) (hs : s.2.2.1 ≤ e) : nxP a e s = nxP b e s := by
  unfold nxP
  rw [op_eq, op_eq, skP_c h hs]
  exact tkP_c h (skP_le hs)
theorem goP_c (h : ∀ j, j < e → a j = b j) (hs : PV e s) : goP a e s = goP b e s := by
  unfold goP; rw [op_eq, op_eq, nxP_c h hs.2.2.1]
theorem eqK_c (h : ∀ j, j < e → a j = b j) (hs : PV e s) {key : Nat} : ∀ k, eqK a s key k = eqK b s key k
  | 0 => rfl
  | k + 1 => by
    rw [eqK, eqK, eqK_c h hs k]
    have e1 : letP a s k = letP b s k := by
      unfold letP
      by_cases z : k < s.2.2.1 - s.2.1
      · rw [if_pos z, if_pos z, h _ (by have := hs.2.2.1; omega)]
      · rw [if_neg z, if_neg z]
    rw [e1]
theorem keyP_c (h : ∀ j, j < e → a j = b j) (hs : PV e s) {key : Nat} : keyP a s key = keyP b s key := by unfold keyP; rw [eqK_c h hs]
theorem tnP_c (h : ∀ j, j < e → a j = b j) (hs : PV e s) {lo hi : Nat} : tnP a e lo hi s = tnP b e lo hi s := by unfold tnP; exact goP_c h (hrP_v hs)
theorem twP_c (h : ∀ j, j < e → a j = b j) (hs : PV e s) {key : Nat} : twP a e key s = twP b e key s := by
  unfold twP
  rw [op_eq, op_eq, keyP_c h hs]
  by_cases z : s.2.2.2.2.1 = 0 ∧ ¬ keyP b s key = true
  · rw [if_pos z]; exact goP_c h (erP_v hs (by decide))
  · rw [if_neg z]; exact goP_c h hs
theorem tsP_c (h : ∀ j, j < e → a j = b j) (hs : PV e s) : tsP a e s = tsP b e s := by
  unfold tsP
  rw [op_eq, op_eq]
  by_cases z : s.2.2.2.2.1 = 0 ∧ s.1 ≠ 3
  · rw [if_pos z]; exact goP_c h (erP_v hs (by decide))
  · rw [if_neg z]; exact goP_c h hs
theorem nmE_c (h : ∀ j, j < e → a j = b j) {k i n : Nat} (hin : i + n ≤ e) : ∀ m, nmE a f k i n m = nmE b f k i n m
  | 0 => rfl
  | m + 1 => by
    rw [nmE, nmE, nmE_c h hin m]
    by_cases z : m < n
    · rw [h (i + m) (by omega)]
    · have e1 : ∀ x : Int32, (f (13 + 16 * k + 10 + m) = (if m < n then x else nI 0) ∧ (m < n → ¬ x = 0)) = (f (13 + 16 * k + 10 + m) = nI 0) := fun x => by
        rw [if_neg z]; exact propext ⟨fun y => y.1, fun y => ⟨y, fun w => absurd w z⟩⟩
      simp only [e1]
theorem fstK_c {p q : Nat → Bool} (h : ∀ k, p k = q k) : ∀ m k, fstK p m k = fstK q m k
  | 0, _ => rfl
  | m + 1, k => by rw [fstK, fstK, h k, fstK_c h m]
theorem fndF_c (h : ∀ j, j < e → a j = b j) {i n : Nat} (hin : i + n ≤ e) : fndF a f i n c = fndF b f i n c := fstK_c (fun k => nmE_c h hin 6) c 0
theorem pv_in (hs : PV e s) : s.2.1 + (s.2.2.1 - s.2.1) ≤ e := by have := hs.2.1; have := hs.2.2.1; omega
theorem rl3_c (h : ∀ j, j < e → a j = b j) (hs : PV e s) : rl3 a f c s = rl3 b f c s := by
  unfold rl3; rw [op_eq, op_eq, fndF_c h (pv_in hs)]
theorem acP_c (h : ∀ j, j < e → a j = b j) (hs : PV e s) : ∀ i, acP a e s i = acP b e s i
  | 0 => rfl
  | i + 1 => by rw [acP, acP, acP_c h hs i, tnP_c h (acP_v hs i)]
theorem nmF_cg (h : ∀ j, j < e → a j = b j) {r w : Nat} : ∀ i, w + i ≤ e → nmF f a r w i = nmF f b r w i
  | 0, _ => rfl
  | i + 1, hi => by rw [nmF, nmF, nmF_cg h i (by omega), h (w + i) (by omega)]
theorem rlA_c (h : ∀ j, j < e → a j = b j) (hs : PV e s) : rlA a e f c s = rlA b e f c s := by
  show rl3 a f c (nmP (nxP a e s)) = rl3 b f c (nmP (nxP b e s))
  rw [nxP_c h hs.2.2.1]; exact rl3_c h (nmP_v (nxP_v hs))
theorem rlB_c (h : ∀ j, j < e → a j = b j) (hs : PV e s) : rlB a e f c s = rlB b e f c s := by
  show goP a e (rlA a e f c s) = goP b e (rlA b e f c s)
  rw [rlA_c h hs]; exact goP_c h (rlA_v hs)
theorem rlC_c (h : ∀ j, j < e → a j = b j) (hs : PV e s) : rlC a e f c s = rlC b e f c s := by
  show goP a e (rl6 f (hvP 0 4 (rlB a e f c s)) (-1) c (hrP 0 4 (rlB a e f c s))) = goP b e (rl6 f (hvP 0 4 (rlB b e f c s)) (-1) c (hrP 0 4 (rlB b e f c s)))
  rw [rlB_c h hs]; exact goP_c h (rl6_v (hrP_v (rlB_v hs)))
theorem rlD_c (h : ∀ j, j < e → a j = b j) (hs : PV e s) : rlD a e f c s = rlD b e f c s := by
  show tnP a e 0 999 (rlC a e f c s) = tnP b e 0 999 (rlC b e f c s)
  rw [rlC_c h hs]; exact tnP_c h (rlC_v hs)
theorem rlE_c (h : ∀ j, j < e → a j = b j) (hs : PV e s) : rlE a e f c s = rlE b e f c s := by
  show acP a e (rlD a e f c s) 5 = acP b e (rlD b e f c s) 5
  rw [rlD_c h hs]; exact acP_c h (rlD_v hs) 5
theorem rlP_c (h : ∀ j, j < e → a j = b j) (hs : PV e s) : rlP a e f c s = rlP b e f c s := by
  unfold rlP; rw [op_eq, op_eq, rlE_c h hs]
theorem rlF_c (h : ∀ j, j < e → a j = b j) (hs : PV e s) : rlF a e f c s = rlF b e f c s := by
  unfold rlF
  rw [rlE_c h hs, rlA_c h hs, rlB_c h hs, rlC_c h hs, nmF_cg h _ (pv_in (rlA_v hs))]
theorem tl1_c (h : ∀ j, j < e → a j = b j) (hs : PV e s) : tl1 a f c s = tl1 b f c s := by
  unfold tl1; rw [fndF_c h (pv_in (nmP_v hs))]
theorem tlP_c (h : ∀ j, j < e → a j = b j) (hs : PV e s) : tlP a e f c s = tlP b e f c s := by
  unfold tlP
  rw [op_eq, op_eq, show tl2 a f c s = tl2 b f c s by unfold tl2; rw [op_eq, op_eq, tl1_c h hs]]
  exact goP_c h (tl2_v hs)
theorem tlV_c (h : ∀ j, j < e → a j = b j) (hs : PV e s) : tlV a e f c s = tlV b e f c s := by
  unfold tlV; rw [tlP_c h hs, tl1_c h hs]
theorem ryA_c (h : ∀ j, j < e → a j = b j) (hs : PV e s) : ryA a e f c s = ryA b e f c s := by
  show tlP a e f c (nxP a e s) = tlP b e f c (nxP b e s)
  rw [nxP_c h hs.2.2.1]; exact tlP_c h (nxP_v hs)
theorem ryP_c (h : ∀ j, j < e → a j = b j) (hs : PV e s) : ryP a e f c s = ryP b e f c s := by
  unfold ryP; rw [op_eq, op_eq, ryA_c h hs]; exact tnP_c h (ryA_v hs)
theorem ryF_c (h : ∀ j, j < e → a j = b j) (hs : PV e s) : ryF a e f c s = ryF b e f c s := by
  unfold ryF; rw [ryP_c h hs, ryA_c h hs, nxP_c h hs.2.2.1, tlV_c h (nxP_v hs)]
theorem rmP_c (h : ∀ j, j < e → a j = b j) (hs : PV e s) : rmP a e f c s = rmP b e f c s := by
  unfold rmP; rw [op_eq, op_eq, ryA_c h hs, nxP_c h hs.2.2.1, tlV_c h (nxP_v hs)]; exact goP_c h (rl6_v (hrP_v (ryA_v hs)))
theorem rmF_c (h : ∀ j, j < e → a j = b j) (hs : PV e s) : rmF a e f c s = rmF b e f c s := by
  unfold rmF; rw [rmP_c h hs, ryA_c h hs, nxP_c h hs.2.2.1, tlV_c h (nxP_v hs)]
theorem rdP_c (h : ∀ j, j < e → a j = b j) (hs : PV e s) : rdP a e s = rdP b e s := by
  unfold rdP; rw [op_eq, op_eq, nxP_c h hs.2.2.1]; exact tnP_c h (nxP_v hs)
theorem rdN_c (h : ∀ j, j < e → a j = b j) (hs : PV e s) : rdN a e s = rdN b e s := by
  unfold rdN; rw [rdP_c h hs, nxP_c h hs.2.2.1]
theorem lnP_c (h : ∀ j, j < e → a j = b j) (hs : PV e s) : lnP a e f c s = lnP b e f c s := by
  unfold lnP; rw [op_eq, op_eq, keyP_c h hs, keyP_c h hs, keyP_c h hs, keyP_c h hs, rlP_c h hs, ryP_c h hs, rmP_c h hs, rdP_c h hs]
theorem lnF_c (h : ∀ j, j < e → a j = b j) (hs : PV e s) : lnF a e f J c s = lnF b e f J c s := by
  unfold lnF; rw [keyP_c h hs, keyP_c h hs, keyP_c h hs, keyP_c h hs, rlF_c h hs, ryF_c h hs, rmF_c h hs, rdN_c h hs]
theorem lpP_c (h : ∀ j, j < e → a j = b j) (hs : PV e s) : ∀ i, lpP a e s i = lpP b e s i
  | 0 => rfl
  | i + 1 => by rw [lpP, lpP, lpP_c h hs i, tnP_c h (lpP_v hs i)]
theorem lsP_c (h : ∀ j, j < e → a j = b j) : ∀ m (x : (Nat → Int32) × PS), PV e x.2 → lsP a e J m x = lsP b e J m x
  | 0, _, _ => rfl
  | m + 1, x, hs => by
    rw [lsP, lsP, tsP_c h hs, lnF_c h (tsP_v hs), lnP_c h (tsP_v hs), lsP_c h m (lnF b e x.1 J (mny x.1) (tsP b e x.2), lnP b e x.1 (mny x.1) (tsP b e x.2)) (lnP_v (tsP_v hs))]
/-- the head -/
theorem rt_c (h : ∀ j, j < e → a j = b j) (hn : PV e (nxP b e s)) (h0 : s.2.2.1 ≤ e) : rtB a e s = rtB b e s ∧ rtC a e s = rtC b e s ∧ rtE a e s = rtE b e s ∧ PV e (rtE b e s) := by
  have h1 : rtB a e s = rtB b e s := by
    show twP a e 0 (nxP a e s) = twP b e 0 (nxP b e s)
    rw [nxP_c h h0]; exact twP_c h hn
  have v1 : PV e (rtB b e s) := twP_v hn
  have h2 : rtC a e s = rtC b e s := by
    show tnP a e 0 50 (rtB a e s) = tnP b e 0 50 (rtB b e s)
    rw [h1]; exact tnP_c h v1
  have v2 : PV e (rtC b e s) := tnP_v v1
  have h3 : rtD a e s = rtD b e s := by
    show tnP a e 0 45 (rtC a e s) = tnP b e 0 45 (rtC b e s)
    rw [h2]; exact tnP_c h v2
  have v3 : PV e (rtD b e s) := tnP_v v2
  refine ⟨h1, h2, ?_, twP_v (tsP_v v3)⟩
  show twP a e 1 (tsP a e (rtD a e s)) = twP b e 1 (tsP b e (rtD b e s))
  rw [h3, tsP_c h v3]; exact twP_c h (tsP_v v3)
theorem hdF_c (h : ∀ j, j < e → a j = b j) (hn : PV e (nxP b e s)) (h0 : s.2.2.1 ≤ e) : ∀ i, hdF a e s i = hdF b e s i
  | 0 => by
    obtain ⟨h1, h2, -, -⟩ := rt_c h hn h0
    rw [hdF, hdF, h1, h2]
  | i + 1 => by
    obtain ⟨-, -, h3, v3⟩ := rt_c h hn h0
    rw [hdF, hdF, hdF_c h hn h0 i, h3, lpP_c h v3]
theorem txP_c (h : ∀ j, j < e → a j = b j) (he : e ≤ 600) (hv : s.2.2.2.1 < 2 ^ 31) (hf : s.2.2.2.2.2 ≤ 600) : txP a e J (z0 s) = txP b e J (z0 s) := by
  have hn : PV e (nxP b e (z0 s)) := nxP_v0 (Nat.zero_le e) he hv (by show 0 ≤ 6; decide) hf
  obtain ⟨-, -, h3, v3⟩ := rt_c h hn (Nat.zero_le e)
  unfold txP
  rw [hdF_c h hn (Nat.zero_le e), h3, lpP_c h v3]
  exact lsP_c h _ _ (lpP_v v3 5)
theorem lsP_v : ∀ m (x : (Nat → Int32) × PS), PV e x.2 → PV e (lsP a e J m x).2
  | 0, _, hs => hs
  | m + 1, x, hs => by
    rw [lsP]
    split
    · split
      · exact lsP_v m _ (lnP_v (tsP_v hs))
      · exact tsP_v hs
    · exact hs
theorem txP_v (he : e ≤ 600) (hv : s.2.2.2.1 < 2 ^ 31) (hf : s.2.2.2.2.2 ≤ 600) : PV e (txP a e J (z0 s)).2 := by
  have hn : PV e (nxP a e (z0 s)) := nxP_v0 (Nat.zero_le e) he hv (by show 0 ≤ 6; decide) hf
  obtain ⟨-, -, -, v3⟩ := rt_c (a := a) (b := a) (fun _ _ => rfl) hn (Nat.zero_le e)
  unfold txP
  exact lsP_v _ _ (lpP_v v3 5)
theorem spr_c (h : ∀ j, j < e → a j = b j) {i : Nat} : ∀ m, m ≤ e → spr a i m = spr b i m
  | 0, _ => rfl
  | m + 1, hm => by rw [spr, spr, h m (by omega), spr_c h m (by omega)]
theorem fbN_c (h : ∀ j, j < e → a j = b j) : fbN a f e c = fbN b f e c := by
  unfold fbN
  have e1 : spn (sp32 a) e 0 = spn (sp32 b) e 0 := spn_c _ _ (fun j _ h2 => by unfold sp32; rw [h j (by omega)])
  have e2 := spn_le (sp32 b) e 0
  rw [e1, spr_c h e (Nat.le_refl e)]
  have e3 := spr_le b (spn (sp32 b) e 0) e
  have e4 := spr_ge b (spn (sp32 b) e 0) e (by omega)
  exact fndF_c h (by omega)
end GCNG
