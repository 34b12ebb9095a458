/-! the class's calls in the law -/
section GKAL
variable {Γ : Gm} {ab ra B D s0 c kp n : Nat} {g0 f : Nat → Int32} {top : Option (Nat → Int32)} {E : Hp}
abbrev IWp (Γ : Gm) (ab ra B D s0 : Nat) (g0 f : Nat → Int32) (c kp : Nat) (top : Option (Nat → Int32)) (E : Hp) (n : Nat) := IW Γ ab ra B D s0 g0 f c kp top E n
theorem gd_pay {k : Nat} {x : Int32} (h : Gd D f c) (hk : k < c) : Gd D (payF f k x) c := by
  have e : ∀ j, j < 13 → j ≠ 10 → payF f k x j = f j := fun j h1 h2 => by unfold payF; rw [pk_un h2, pk_un (by omega)]
  exact ⟨(e 7 (by decide) (by decide)).trans h.1, h.2.1, (ldN_pay hk).trans h.2.2.1, by rw [e 8 (by decide) (by decide)]; exact h.2.2.2⟩
theorem gd_move {k : Nat} {x : Int32} (h : Gd D f c) : Gd D (upd f (13 + 16 * k) x) c := ⟨(pk_un (by omega)).trans h.1, h.2.1, (ldN_c (pk_un (by omega)) (pk_un (by omega)) (pk_un (by omega)) (fun j hj => pk_un (by omega))).trans h.2.2.1, by rw [pk_un (by omega)]; exact h.2.2.2⟩
theorem gd_hd {j : Nat} {x : Int32} (h : Gd D f c) (hj : j < 13) (h10 : j ≠ 10) (h11 : j ≠ 11) (h12 : j ≠ 12) (h7 : j ≠ 7) (h8 : j ≠ 8) : Gd D (upd f j x) c := ⟨(pk_un (fun z => h7 z.symm)).trans h.1, h.2.1, (ldN_h hj h10 h11 h12).trans h.2.2.1, by rw [pk_un (fun z => h8 z.symm)]; exact h.2.2.2⟩
theorem gd_out {k : Nat} (h : Gd D f c) (hv : Val B f c) (hk : k < c) : Gd D (gonF f k c) (c - 1) := ⟨(hv.out hk).1, by have := h.2.1; omega, (ldN_gon hk).trans h.2.2.1, by rw [gonV_hd (by decide) (by decide) (by decide)]; exact h.2.2.2⟩
theorem gd_dys {J : Nat → Int32} {t dy c2 : Nat} (h : Gd D f c) (hv : Val B f c) (h8 : f 8 = nI dy) (hd : dy + t ≤ D + t) (h7 : (dysM f J t).1 7 = nI c2) (h2 : c2 ≤ 12) : Gd (D + t) (dysM f J t).1 c2 := by
  obtain ⟨c3, a1, a2, a3, a4, a8, a5⟩ := dys_led (I := J) hv.okr t
  obtain rfl : c3 = c2 := (nI_eq (by have := a2.2.1; omega) (by omega)).mp (a2.1.symm.trans h7)
  exact ⟨h7, h2, a3.trans h.2.2.1, dy + t, hd, by rw [a8, h8, nI_add]⟩
theorem k_day  (h : IW Γ ab ra B D s0 g0 f c kp top E n)  : Ct Γ 1 MX7_day 0 0 [.ref ab] E n (Rt (some (.int (f 8))) E n) X0 := by
  obtain ⟨S, q, I, A, hCA, hRV, hr, hv, hgd, hkp, hH, hS, hO⟩ := h.get
  exact Ct.hat hCA.h1 (c_X7_day hCA.co hr)
theorem k_baseRent  (h : IW Γ ab ra B D s0 g0 f c kp top E n)  : Ct Γ 1 MX7_baseRent 0 0 [.ref ab] E n (Rt (some (.int (f 0))) E n) X0 := by
  obtain ⟨S, q, I, A, hCA, hRV, hr, hv, hgd, hkp, hH, hS, hO⟩ := h.get
  exact Ct.hat hCA.h1 (c_X7_baseRent hCA.co hr)
theorem k_tolerance  (h : IW Γ ab ra B D s0 g0 f c kp top E n)  : Ct Γ 1 MX7_tolerance 0 0 [.ref ab] E n (Rt (some (.int (f 1))) E n) X0 := by
  obtain ⟨S, q, I, A, hCA, hRV, hr, hv, hgd, hkp, hH, hS, hO⟩ := h.get
  exact Ct.hat hCA.h1 (c_X7_tolerance hCA.co hr)
theorem k_evictions  (h : IW Γ ab ra B D s0 g0 f c kp top E n)  : Ct Γ 1 MX7_evictions 0 0 [.ref ab] E n (Rt (some (.int (f 9))) E n) X0 := by
  obtain ⟨S, q, I, A, hCA, hRV, hr, hv, hgd, hkp, hH, hS, hO⟩ := h.get
  exact Ct.hat hCA.h1 (c_X7_evictions hCA.co hr)
theorem k_totalPaid  (h : IW Γ ab ra B D s0 g0 f c kp top E n)  : Ct Γ 1 MX7_totalPaid 0 0 [.ref ab] E n (Rt (some (.int (f 10))) E n) X0 := by
  obtain ⟨S, q, I, A, hCA, hRV, hr, hv, hgd, hkp, hH, hS, hO⟩ := h.get
  exact Ct.hat hCA.h1 (c_X7_totalPaid hCA.co hr)
theorem k_totalCharged  (h : IW Γ ab ra B D s0 g0 f c kp top E n)  : Ct Γ 1 MX7_totalCharged 0 0 [.ref ab] E n (Rt (some (.int (f 11))) E n) X0 := by
  obtain ⟨S, q, I, A, hCA, hRV, hr, hv, hgd, hkp, hH, hS, hO⟩ := h.get
  exact Ct.hat hCA.h1 (c_X7_totalCharged hCA.co hr)
theorem k_settled  (h : IW Γ ab ra B D s0 g0 f c kp top E n)  : Ct Γ 1 MX7_settled 0 0 [.ref ab] E n (Rt (some (.int (f 12))) E n) X0 := by
  obtain ⟨S, q, I, A, hCA, hRV, hr, hv, hgd, hkp, hH, hS, hO⟩ := h.get
  exact Ct.hat hCA.h1 (c_X7_settled hCA.co hr)
theorem k_lodgerCount  (h : IW Γ ab ra B D s0 g0 f c kp top E n)  : Ct Γ 1 MX7_lodgerCount 0 0 [.ref ab] E n (Rt (some (.int (nI c))) E n) X0 := by
  obtain ⟨S, q, I, A, hCA, hRV, hr, hv, hgd, hkp, hH, hS, hO⟩ := h.get
  exact Ct.hat hCA.h1 (c_X7_lodgerCount hCA.co hr)
theorem k_undoCount  (h : IW Γ ab ra B D s0 g0 f c kp top E n)  : Ct Γ 1 MX7_undoCount 0 0 [.ref ab] E n (Rt (some (.int (nI kp))) E n) X0 := by
  obtain ⟨S, q, I, A, hCA, hRV, hr, hv, hgd, hkp, hH, hS, hO⟩ := h.get
  subst hkp
  exact Ct.hat hCA.h1 (c_X7_undoCount hCA.co hCA.hi)
theorem k_daysToInspection {dy : Nat} (h : IW Γ ab ra B D s0 g0 f c kp top E n) (h8 : f 8 = nI dy) (hd : dy < 2 ^ 31) : Ct Γ 1 MX7_daysToInspection 0 0 [.ref ab] E n (Rt (some (.int (nI (7 - dy % 7)))) E n) X0 := by
  obtain ⟨S, q, I, A, hCA, hRV, hr, hv, hgd, hkp, hH, hS, hO⟩ := h.get
  have z := c_X7_daysToInspection (n := n) (F := E) hCA.co hr
  rw [dl_eq h8 hd] at z
  exact Ct.hat hCA.h1 (z)
theorem k_rentOf {φ : Nat} (h : IW Γ ab ra B D s0 g0 f c kp top E n) (hφ : φ < 5) : Ct Γ 8 MX7_rentOf 0 0 [.ref ab, .int (nI φ)] E n (Rt (some (.int (f 0 + nI 5 * nI φ))) E n) X0 := by
  obtain ⟨S, q, I, A, hCA, hRV, hr, hv, hgd, hkp, hH, hS, hO⟩ := h.get
  exact Ct.hat hCA.h1 (c_X7_rentOf_ok hCA.co hr hφ)
theorem k_landladyVowel {v : Nat} (h : IW Γ ab ra B D s0 g0 f c kp top E n) (hv5 : v < 5) : Ct Γ 8 MX7_landladyVowel 0 0 [.ref ab, .int (nI v)] E n (Rt (some (.int (f (2 + v)))) E n) X0 := by
  obtain ⟨S, q, I, A, hCA, hRV, hr, hv, hgd, hkp, hH, hS, hO⟩ := h.get
  exact Ct.hat hCA.h1 (c_X7_landladyVowel_ok hCA.co hr hv5)
theorem k_floorOf {k : Nat} (h : IW Γ ab ra B D s0 g0 f c kp top E n) (hk : k < c) : Ct Γ 8 MX7_floorOf 0 0 [.ref ab, .int (nI k)] E n (Rt (some (.int (f (13 + 16 * k)))) E n) X0 := by
  obtain ⟨S, q, I, A, hCA, hRV, hr, hv, hgd, hkp, hH, hS, hO⟩ := h.get
  exact Ct.hat hCA.h1 (c_X7_floorOf_ok hCA.co hr hk)
theorem k_balanceOf {k : Nat} (h : IW Γ ab ra B D s0 g0 f c kp top E n) (hk : k < c) : Ct Γ 8 MX7_balanceOf 0 0 [.ref ab, .int (nI k)] E n (Rt (some (.int (f (13 + 16 * k + 1)))) E n) X0 := by
  obtain ⟨S, q, I, A, hCA, hRV, hr, hv, hgd, hkp, hH, hS, hO⟩ := h.get
  exact Ct.hat hCA.h1 (c_X7_balanceOf_ok hCA.co hr hk)
theorem k_lessonsOf {k : Nat} (h : IW Γ ab ra B D s0 g0 f c kp top E n) (hk : k < c) : Ct Γ 8 MX7_lessonsOf 0 0 [.ref ab, .int (nI k)] E n (Rt (some (.int (f (13 + 16 * k + 2)))) E n) X0 := by
  obtain ⟨S, q, I, A, hCA, hRV, hr, hv, hgd, hkp, hH, hS, hO⟩ := h.get
  exact Ct.hat hCA.h1 (c_X7_lessonsOf_ok hCA.co hr hk)
theorem k_slipsOf {k : Nat} (h : IW Γ ab ra B D s0 g0 f c kp top E n) (hk : k < c) : Ct Γ 8 MX7_slipsOf 0 0 [.ref ab, .int (nI k)] E n (Rt (some (.int (f (13 + 16 * k + 3)))) E n) X0 := by
  obtain ⟨S, q, I, A, hCA, hRV, hr, hv, hgd, hkp, hH, hS, hO⟩ := h.get
  exact Ct.hat hCA.h1 (c_X7_slipsOf_ok hCA.co hr hk)
theorem k_daysStayed {k : Nat} (h : IW Γ ab ra B D s0 g0 f c kp top E n) (hk : k < c) : Ct Γ 8 MX7_daysStayed 0 0 [.ref ab, .int (nI k)] E n (Rt (some (.int (f 8 - f (13 + 16 * k + 4)))) E n) X0 := by
  obtain ⟨S, q, I, A, hCA, hRV, hr, hv, hgd, hkp, hH, hS, hO⟩ := h.get
  exact Ct.hat hCA.h1 (c_X7_daysStayed_ok hCA.co hr hk)
theorem k_distanceToLandlady {k : Nat} (h : IW Γ ab ra B D s0 g0 f c kp top E n) (hk : k < c) : Ct Γ 8 MX7_distanceToLandlady 0 0 [.ref ab, .int (nI k)] E n (Rt (some (.int (dst (rw5 f k) (la5 f) 5))) E n) X0 := by
  obtain ⟨S, q, I, A, hCA, hRV, hr, hv, hgd, hkp, hH, hS, hO⟩ := h.get
  exact Ct.hat hCA.h1 (c_X7_distanceToLandlady_ok hCA.co hr hk)
theorem k_rhymesWithLandlady {k : Nat} (h : IW Γ ab ra B D s0 g0 f c kp top E n) (hk : k < c) : Ct Γ 8 MX7_rhymesWithLandlady 0 0 [.ref ab, .int (nI k)] E n (Rt (some (.int (bi (dif (rw5 f k) (la5 f) 5 ≤ 1)))) E n) X0 := by
  obtain ⟨S, q, I, A, hCA, hRV, hr, hv, hgd, hkp, hH, hS, hO⟩ := h.get
  exact Ct.hat hCA.h1 (c_X7_rhymesWithLandlady_ok hCA.co hr hk)
theorem k_rhymeCount {k : Nat} (h : IW Γ ab ra B D s0 g0 f c kp top E n) (hk : k < c) : Ct Γ 8 MX7_rhymeCount 0 0 [.ref ab, .int (nI k)] E n (Rt (some (.int (nI (rcF f k c)))) E n) X0 := by
  obtain ⟨S, q, I, A, hCA, hRV, hr, hv, hgd, hkp, hH, hS, hO⟩ := h.get
  exact Ct.hat hCA.h1 (c_X7_rhymeCount_ok hCA.co hr hk)
theorem k_closestTo {k : Nat} (h : IW Γ ab ra B D s0 g0 f c kp top E n) (hk : k < c) : Ct Γ 8 MX7_closestTo 0 0 [.ref ab, .int (nI k)] E n (Rt (some (.int (oI (clF f k c)))) E n) X0 := by
  obtain ⟨S, q, I, A, hCA, hRV, hr, hv, hgd, hkp, hH, hS, hO⟩ := h.get
  exact Ct.hat hCA.h1 (c_X7_closestTo_ok hCA.co hr hk)
theorem k_lessonVowel {k : Nat} (h : IW Γ ab ra B D s0 g0 f c kp top E n) (hk : k < c) : Ct Γ 8 MX7_lessonVowel 0 0 [.ref ab, .int (nI k)] E n (Rt (some (.int ((far (rw5 f k) (la5 f) 5).1))) E n) X0 := by
  obtain ⟨S, q, I, A, hCA, hRV, hr, hv, hgd, hkp, hH, hS, hO⟩ := h.get
  exact Ct.hat hCA.h1 (c_X7_lessonVowel_ok hCA.co hr hk)
theorem k_mustGo {k : Nat} (h : IW Γ ab ra B D s0 g0 f c kp top E n) (hk : k < c) : Ct Γ 8 MX7_mustGo 0 0 [.ref ab, .int (nI k)] E n (Rt (some (.int (bi (MustB f k = true)))) E n) X0 := by
  obtain ⟨S, q, I, A, hCA, hRV, hr, hv, hgd, hkp, hH, hS, hO⟩ := h.get
  exact Ct.hat hCA.h1 (c_X7_mustGo_ok hCA.co hr hk)
theorem k_vowelOf {k v : Nat} (h : IW Γ ab ra B D s0 g0 f c kp top E n) (hk : k < c) (hv5 : v < 5) : Ct Γ 8 MX7_vowelOf 0 0 [.ref ab, .int (nI k), .int (nI v)] E n (Rt (some (.int (f (13 + 16 * k + 5 + v)))) E n) X0 := by
  obtain ⟨S, q, I, A, hCA, hRV, hr, hv, hgd, hkp, hH, hS, hO⟩ := h.get
  exact Ct.hat hCA.h1 (c_X7_vowelOf_ok hCA.co hr hk hv5)
theorem k_nameLength {k : Nat} (h : IW Γ ab ra B D s0 g0 f c kp top E n) (hk : k < c) : Ct Γ 8 MX7_nameLength 0 0 [.ref ab, .int (nI k)] E n (Rt (some (.int (nI (lenN f k)))) E n) X0 := by
  obtain ⟨S, q, I, A, hCA, hRV, hr, hv, hgd, hkp, hH, hS, hO⟩ := h.get
  exact Ct.hat hCA.h1 (c_X7_nameLength_ok hCA.co hr hk (fun a v hv => by rw [← hCA.h1.eq]; exact hCA.le a v hv))
theorem k_nameLetter {k j : Nat} (h : IW Γ ab ra B D s0 g0 f c kp top E n) (hk : k < c) (hj : j < lenN f k) : Ct Γ 8 MX7_nameLetter 0 0 [.ref ab, .int (nI k), .int (nI j)] E n (Rt (some (.int (chr (f (13 + 16 * k + 10 + j))))) E n) X0 := by
  obtain ⟨S, q, I, A, hCA, hRV, hr, hv, hgd, hkp, hH, hS, hO⟩ := h.get
  exact Ct.hat hCA.h1 (c_X7_nameLetter_ok hCA.co hr hk (fun a v hv => by rw [← hCA.h1.eq]; exact hCA.le a v hv) hj)
theorem k_lodgersOn {φ : Nat} (h : IW Γ ab ra B D s0 g0 f c kp top E n) (hφ : φ < 5) : Ct Γ 8 MX7_lodgersOn 0 0 [.ref ab, .int (nI φ)] E n (Rt (some (.int (nI (cntA f (nI φ) c)))) E n) X0 := by
  obtain ⟨S, q, I, A, hCA, hRV, hr, hv, hgd, hkp, hH, hS, hO⟩ := h.get
  exact Ct.hat hCA.h1 (c_X7_lodgersOn_ok hCA.co hr hφ)
theorem k_lodgerOn {φ p r : Nat} (h : IW Γ ab ra B D s0 g0 f c kp top E n) (hφ : φ < 5) (hp31 : p < 2 ^ 31) (hp : plF f (nI φ) c 0 p = some r) : Ct Γ 8 MX7_lodgerOn 0 0 [.ref ab, .int (nI φ), .int (nI p)] E n (Rt (some (.int (nI r))) E n) X0 := by
  obtain ⟨S, q, I, A, hCA, hRV, hr, hv, hgd, hkp, hH, hS, hO⟩ := h.get
  exact Ct.hat hCA.h1 (c_X7_lodgerOn_ok hCA.co hr hφ hp31 hp)
theorem k_lodgerOn_no {φ p : Nat} (h : IW Γ ab ra B D s0 g0 f c kp top E n) (hφ : φ < 5) (hp31 : p < 2 ^ 31) (hp : plF f (nI φ) c 0 p = none) : Ct Γ 8 MX7_lodgerOn 1 6 [.ref ab, .int (nI φ), .int (nI p)] E n PNo (Xe "java/lang/IndexOutOfBoundsException" E n) := by
  obtain ⟨S, q, I, A, hCA, hRV, hr, hv, hgd, hkp, hH, hS, hO⟩ := h.get
  exact Ct.hatN hCA.h1 (c_X7_lodgerOn_noP hCA.co hr hφ hp31 hp)
theorem k_averageVowel {φ v : Nat} (h : IW Γ ab ra B D s0 g0 f c kp top E n) (hφ : φ < 5) (hv5 : v < 5) (h0 : ¬ cntA f (nI φ) c = 0) : Ct Γ 8 MX7_averageVowel 0 0 [.ref ab, .int (nI φ), .int (nI v)] E n (Rt (some (.int (avgF f (nI φ) v c))) E n) X0 := by
  obtain ⟨S, q, I, A, hCA, hRV, hr, hv, hgd, hkp, hH, hS, hO⟩ := h.get
  exact Ct.hat hCA.h1 (c_X7_averageVowel_ok hCA.co hr hφ hv5 h0)
theorem k_averageVowel_no {φ v : Nat} (h : IW Γ ab ra B D s0 g0 f c kp top E n) (hφ : φ < 5) (hv5 : v < 5) (h0 : cntA f (nI φ) c = 0) : Ct Γ 8 MX7_averageVowel 1 6 [.ref ab, .int (nI φ), .int (nI v)] E n PNo (Xe "java/lang/IllegalStateException" E n) := by
  obtain ⟨S, q, I, A, hCA, hRV, hr, hv, hgd, hkp, hH, hS, hO⟩ := h.get
  exact Ct.hatN hCA.h1 (c_X7_averageVowel_noC hCA.co hr hφ hv5 h0)
theorem k_distance {k j : Nat} (h : IW Γ ab ra B D s0 g0 f c kp top E n) (hk : k < c) (hj : j < c) : Ct Γ 8 MX7_distance 0 0 [.ref ab, .int (nI k), .int (nI j)] E n (Rt (some (.int (dst (rw5 f k) (rw5 f j) 5))) E n) X0 := by
  obtain ⟨S, q, I, A, hCA, hRV, hr, hv, hgd, hkp, hH, hS, hO⟩ := h.get
  exact Ct.hat hCA.h1 (c_X7_distance_ok hCA.co hr hk hj)
theorem k_rhymes {k j : Nat} (h : IW Γ ab ra B D s0 g0 f c kp top E n) (hk : k < c) (hj : j < c) : Ct Γ 8 MX7_rhymes 0 0 [.ref ab, .int (nI k), .int (nI j)] E n (Rt (some (.int (bi (dif (rw5 f k) (rw5 f j) 5 ≤ 1)))) E n) X0 := by
  obtain ⟨S, q, I, A, hCA, hRV, hr, hv, hgd, hkp, hH, hS, hO⟩ := h.get
  exact Ct.hat hCA.h1 (c_X7_rhymes_ok hCA.co hr hk hj)
theorem k_ledgerDifference  (h : IW Γ ab ra B D s0 g0 f c kp top E n)  : Ct Γ 2 MX7_ledgerDifference 0 0 [.ref ab] E n (Rt (some (.int (nI 0))) E n) X0 := by
  obtain ⟨S, q, I, A, hCA, hRV, hr, hv, hgd, hkp, hH, hS, hO⟩ := h.get
  have z := c_X7_ledgerDifference (n := n) (F := E) hCA.co hr
  rw [hgd.2.2.1, ← nI_0] at z
  exact Ct.hat hCA.h1 (z)
theorem k_meanDistance  (h : IW Γ ab ra B D s0 g0 f c kp top E n)  : Ct Γ 8 MX7_meanDistance 0 0 [.ref ab] E n (Rt (some (.double (if c = 0 then FP.dconst0 else FP.ddiv (FP.i2d (sumD f c)) (FP.i2d (nI c))))) E n) X0 := by
  obtain ⟨S, q, I, A, hCA, hRV, hr, hv, hgd, hkp, hH, hS, hO⟩ := h.get
  exact Ct.hat hCA.h1 (c_X7_meanDistance hCA.co hr (fun z => (mean_n hv z).1))
theorem k_rhymingShare  (h : IW Γ ab ra B D s0 g0 f c kp top E n)  : Ct Γ 8 MX7_rhymingShare 0 0 [.ref ab] E n (Rt (some (.float (if c = 0 then FP.fconst0 else FP.fdiv (FP.i2f (nI (cntR f c))) (FP.i2f (nI c))))) E n) X0 := by
  obtain ⟨S, q, I, A, hCA, hRV, hr, hv, hgd, hkp, hH, hS, hO⟩ := h.get
  exact Ct.hat hCA.h1 (c_X7_rhymingShare hCA.co hr (fun z => (share_n hv z).1))
theorem k_slipVowel {k : Nat} (h : IW Γ ab ra B D s0 g0 f c kp top E n) (hk : k < c) : CtW Γ 8 MX7_slipVowel 0 0 [.ref ab, .int (nI k)] E n (fun r E2 n2 => r = some (.int (far (rw5 f k) (fun v => avgF f (f (13 + 16 * k)) v c) 5).1) ∧ n2 = n ∧ IW Γ ab ra B D s0 g0 f c kp top E2 n2) X0 := by
  obtain ⟨S, q, I, A, hCA, hRV, hr, hv, hgd, hkp, hH, hS, hO⟩ := h.get
  have z := c_X7_slipVowel_ok (n := n) (F := E) hCA.co hr hk
  rw [← hCA.h1.eq] at z
  refine ⟨_, _, z, fun r E2 n2 y => ?_, fun _ _ _ y => y⟩
  obtain ⟨rfl, rfl, y, rfl⟩ := y
  exact ⟨rfl, rfl, IW.q12 (i := 1) hCA hRV hgd hkp hH hS hO (Or.inr ⟨rfl, c, hr.sV, hv⟩) (hr.sV (y := y)).1⟩
theorem TW_e {S : Hp} {q : CQ} (hCA : CA Γ ab n S E q) : TW Γ ab E (q_Q q 1) (q_Q q 2) = E := by
  show HW Γ (ab + 92) (HW Γ (ab + 50) E (q_Q q 1)) (q_Q q 2) = E
  rw [← hCA.h1.eq]; exact hCA.h2.eq.symm
theorem TW_2 {S : Hp} {q : CQ} {T : Hr} (hCA : CA Γ ab n S E q) : TW Γ ab E (q_Q q 1) T = HW Γ (hh ab 2) E T := by
  show HW Γ (ab + 92) (HW Γ (ab + 50) E (q_Q q 1)) T = HW Γ (ab + 92) E T
  rw [← hCA.h1.eq]
theorem k_balanceAfter {k t : Nat} (h : IW Γ ab ra B D s0 g0 f c kp top E n) (hk : k < c) (ht : t ≤ 100) : CtW Γ 9 MX7_balanceAfter 0 0 [.ref ab, .int (nI k), .int (nI t)] E n (fun r E2 n2 => r = some (.int (balR (dysM f (wI k) t))) ∧ n2 = n ∧ IW Γ ab ra B D s0 g0 f c kp top E2 n2) X0 := by
  obtain ⟨S, q, I, A, hCA, hRV, hr, hv, hgd, hkp, hH, hS, hO⟩ := h.get
  have hw2 : Wf (q_Q q 2) := hRV.2.2.2.2.2.2.2.1 2 (by decide)
  have z := c_X7_balanceAfter_ok (n := n) (F := E) (T := q_Q q 2) hCA.co hr hk hv.okr hw2 ht
  rw [TW_e hCA] at z
  refine ⟨_, _, z, fun r E2 n2 y => ?_, fun _ _ _ y => y⟩
  obtain ⟨rfl, rfl, T2, rfl, hT⟩ := y
  refine ⟨rfl, rfl, ?_⟩
  rw [TW_2 hCA]
  exact IW.q12 (i := 2) hCA hRV hgd hkp hH hS hO (Or.inl rfl) hT
theorem k_distanceAfter {k t : Nat} (h : IW Γ ab ra B D s0 g0 f c kp top E n) (hk : k < c) (ht : t ≤ 100) : CtW Γ 9 MX7_distanceAfter 0 0 [.ref ab, .int (nI k), .int (nI t)] E n (fun r E2 n2 => r = some (.int (dsR (dysM f (wI k) t))) ∧ n2 = n ∧ IW Γ ab ra B D s0 g0 f c kp top E2 n2) X0 := by
  obtain ⟨S, q, I, A, hCA, hRV, hr, hv, hgd, hkp, hH, hS, hO⟩ := h.get
  have hw2 : Wf (q_Q q 2) := hRV.2.2.2.2.2.2.2.1 2 (by decide)
  have z := c_X7_distanceAfter_ok (n := n) (F := E) (T := q_Q q 2) hCA.co hr hk hv.okr hw2 ht
  rw [TW_e hCA] at z
  refine ⟨_, _, z, fun r E2 n2 y => ?_, fun _ _ _ y => y⟩
  obtain ⟨rfl, rfl, T2, rfl, hT⟩ := y
  refine ⟨rfl, rfl, ?_⟩
  rw [TW_2 hCA]
  exact IW.q12 (i := 2) hCA hRV hgd hkp hH hS hO (Or.inl rfl) hT
theorem k_daysToEviction {k : Nat} (h : IW Γ ab ra B D s0 g0 f c kp top E n) (hk : k < c) : CtW Γ 9 MX7_daysToEviction 0 0 [.ref ab, .int (nI k)] E n (fun r E2 n2 => r = some (.int (evF f k 100 0)) ∧ n2 = n ∧ IW Γ ab ra B D s0 g0 f c kp top E2 n2) X0 := by
  obtain ⟨S, q, I, A, hCA, hRV, hr, hv, hgd, hkp, hH, hS, hO⟩ := h.get
  have hw2 : Wf (q_Q q 2) := hRV.2.2.2.2.2.2.2.1 2 (by decide)
  have z := c_X7_daysToEviction_ok (n := n) (F := E) (T := q_Q q 2) hCA.co hr hk hv.okr hw2
  rw [TW_e hCA] at z
  refine ⟨_, _, z, fun r E2 n2 y => ?_, fun _ _ _ y => y⟩
  obtain ⟨rfl, rfl, T2, rfl, hT⟩ := y
  refine ⟨rfl, rfl, ?_⟩
  rw [TW_2 hCA]
  exact IW.q12 (i := 2) hCA hRV hgd hkp hH hS hO (Or.inl rfl) hT
theorem k_paymentToStay {k dy : Nat} (h : IW Γ ab ra B D s0 g0 f c kp top E n) (hk : k < c) (hdy : f 8 = nI dy) (hdy31 : dy < 2 ^ 31) : CtW Γ 10 MX7_paymentToStay 0 0 [.ref ab, .int (nI k)] E n (fun r E2 n2 => r = some (.int (ptR f k (7 - dy % 7))) ∧ n2 = n ∧ IW Γ ab ra B D s0 g0 f c kp top E2 n2) X0 := by
  obtain ⟨S, q, I, A, hCA, hRV, hr, hv, hgd, hkp, hH, hS, hO⟩ := h.get
  have hw2 : Wf (q_Q q 2) := hRV.2.2.2.2.2.2.2.1 2 (by decide)
  have z := c_X7_paymentToStay_ok (n := n) (F := E) (T := q_Q q 2) hCA.co hr hk hv.okr hw2 hdy hdy31
  rw [TW_e hCA] at z
  refine ⟨_, _, z, fun r E2 n2 y => ?_, fun _ _ _ y => y⟩
  obtain ⟨rfl, rfl, T2, rfl, hT⟩ := y
  refine ⟨rfl, rfl, ?_⟩
  rw [TW_2 hCA]
  exact IW.q12 (i := 2) hCA hRV hgd hkp hH hS hO (Or.inl rfl) hT
theorem k_advance_no {x : Int32} (h : IW Γ ab ra B D s0 g0 f c kp top E n) (hx : ¬ (nI 1 ≤ x ∧ x ≤ nI 100)) : Ct Γ 8 MX7_advance 1 6 [.ref ab, .int x] E n PNo (Xe "java/lang/IllegalArgumentException" E n) := by
  obtain ⟨S, q, I, A, hCA, hRV, hr, hv, hgd, hkp, hH, hS, hO⟩ := h.get
  exact Ct.hatN hCA.h1 (c_X7_advance_noR hCA.co hx)
theorem k_moveIn_noF {x y z : Int32} (h : IW Γ ab ra B D s0 g0 f c kp top E n) (hx : ¬ (nI 0 ≤ x ∧ x ≤ nI 4)) : Ct Γ 8 MX7_moveIn 1 6 [.ref ab, .int x, .int y, .int z] E n PNo (Xe "java/lang/IllegalArgumentException" E n) := by
  obtain ⟨S, q, I, A, hCA, hRV, hr, hv, hgd, hkp, hH, hS, hO⟩ := h.get
  exact Ct.hatN hCA.h1 (c_X7_moveIn_noF hCA.co hx)
theorem k_moveIn_noC {φ p a : Nat} (h : IW Γ ab ra B D s0 g0 f c kp top E n) (hφ : φ < 5) (hp9 : p ≤ 999) (ha9 : a ≤ 99999) (hcl : ¬ c < 12) : Ct Γ 8 MX7_moveIn 1 6 [.ref ab, .int (nI φ), .int (nI p), .int (nI a)] E n PNo (Xe "java/lang/IllegalStateException" E n) := by
  obtain ⟨S, q, I, A, hCA, hRV, hr, hv, hgd, hkp, hH, hS, hO⟩ := h.get
  exact Ct.hatN hCA.h1 (c_X7_moveIn_noC hCA.co hr hφ hp9 ha9 hcl)
theorem k_moveIn_noS {φ p a : Nat} (h : IW Γ ab ra B D s0 g0 f c kp top E n) (hφ : φ < 5) (hp9 : p ≤ 999) (ha9 : a ≤ 99999) (hcl : c < 12) (hf4 : 4 ≤ cntOn f (nI φ) (-1) c) : Ct Γ 8 MX7_moveIn 1 6 [.ref ab, .int (nI φ), .int (nI p), .int (nI a)] E n PNo (Xe "java/lang/IllegalStateException" E n) := by
  obtain ⟨S, q, I, A, hCA, hRV, hr, hv, hgd, hkp, hH, hS, hO⟩ := h.get
  exact Ct.hatN hCA.h1 (c_X7_moveIn_noS hCA.co hr hφ hp9 ha9 hcl hf4)
theorem k_moveOut_no {x : Int32} (h : IW Γ ab ra B D s0 g0 f c kp top E n) (hx : ¬ (nI 0 ≤ x ∧ x ≤ nI c - nI 1)) : Ct Γ 8 MX7_moveOut 1 6 [.ref ab, .int x] E n PNo (Xe "java/lang/IndexOutOfBoundsException" E n) := by
  obtain ⟨S, q, I, A, hCA, hRV, hr, hv, hgd, hkp, hH, hS, hO⟩ := h.get
  exact Ct.hatN hCA.h1 (c_X7_moveOut_noL hCA.co hr hx)
theorem k_moveTo_noL {x y : Int32} (h : IW Γ ab ra B D s0 g0 f c kp top E n) (hx : ¬ (nI 0 ≤ x ∧ x ≤ nI c - nI 1)) : Ct Γ 8 MX7_moveTo 1 6 [.ref ab, .int x, .int y] E n PNo (Xe "java/lang/IndexOutOfBoundsException" E n) := by
  obtain ⟨S, q, I, A, hCA, hRV, hr, hv, hgd, hkp, hH, hS, hO⟩ := h.get
  exact Ct.hatN hCA.h1 (c_X7_moveTo_noL hCA.co hr hx)
theorem k_moveTo_noP {k φ : Nat} (h : IW Γ ab ra B D s0 g0 f c kp top E n) (hk : k < c) (hφ : φ < 5) (hf4 : 4 ≤ cntOn f (nI φ) (nI k) c) : Ct Γ 8 MX7_moveTo 1 6 [.ref ab, .int (nI k), .int (nI φ)] E n PNo (Xe "java/lang/IllegalStateException" E n) := by
  obtain ⟨S, q, I, A, hCA, hRV, hr, hv, hgd, hkp, hH, hS, hO⟩ := h.get
  exact Ct.hatN hCA.h1 (c_X7_moveTo_noP hCA.co hr hk hφ hf4)
theorem k_pay_noL {x y : Int32} (h : IW Γ ab ra B D s0 g0 f c kp top E n) (hx : ¬ (nI 0 ≤ x ∧ x ≤ nI c - nI 1)) : Ct Γ 8 MX7_pay 1 6 [.ref ab, .int x, .int y] E n PNo (Xe "java/lang/IndexOutOfBoundsException" E n) := by
  obtain ⟨S, q, I, A, hCA, hRV, hr, hv, hgd, hkp, hH, hS, hO⟩ := h.get
  exact Ct.hatN hCA.h1 (c_X7_pay_noL hCA.co hr hx)
theorem k_setLandladyVowel_no {x y : Int32} (h : IW Γ ab ra B D s0 g0 f c kp top E n) (hx : ¬ (nI 0 ≤ x ∧ x ≤ nI 4)) : Ct Γ 8 MX7_setLandladyVowel 1 6 [.ref ab, .int x, .int y] E n PNo (Xe "java/lang/IndexOutOfBoundsException" E n) := by
  obtain ⟨S, q, I, A, hCA, hRV, hr, hv, hgd, hkp, hH, hS, hO⟩ := h.get
  exact Ct.hatN hCA.h1 (c_X7_setLandladyVowel_noV hCA.co hx)
theorem k_setTolerance_no {x : Int32} (h : IW Γ ab ra B D s0 g0 f c kp top E n) (hx : ¬ (nI 0 ≤ x ∧ x ≤ nI 45)) : Ct Γ 8 MX7_setTolerance 1 6 [.ref ab, .int x] E n PNo (Xe "java/lang/IllegalArgumentException" E n) := by
  obtain ⟨S, q, I, A, hCA, hRV, hr, hv, hgd, hkp, hH, hS, hO⟩ := h.get
  exact Ct.hatN hCA.h1 (c_X7_setTolerance_no hCA.co hx)
theorem k_setBaseRent_no {x : Int32} (h : IW Γ ab ra B D s0 g0 f c kp top E n) (hx : ¬ (nI 0 ≤ x ∧ x ≤ nI 50)) : Ct Γ 8 MX7_setBaseRent 1 6 [.ref ab, .int x] E n PNo (Xe "java/lang/IllegalArgumentException" E n) := by
  obtain ⟨S, q, I, A, hCA, hRV, hr, hv, hgd, hkp, hH, hS, hO⟩ := h.get
  exact Ct.hatN hCA.h1 (c_X7_setBaseRent_no hCA.co hx)
theorem k_undo_no  (h : IW Γ ab ra B D s0 g0 f c kp top E n) (h0 : kp = 0) : Ct Γ 8 MX7_undo 1 6 [.ref ab] E n PNo (Xe "java/lang/IllegalStateException" E n) := by
  obtain ⟨S, q, I, A, hCA, hRV, hr, hv, hgd, hkp, hH, hS, hO⟩ := h.get
  exact Ct.hatN hCA.h1 (c_X7_undo_no hCA.co hCA.hi (hkp.trans h0))
theorem k_pay {k p : Nat} (h : IW Γ ab ra B D s0 g0 f c kp top E n) (hk : k < c) (hp1 : 1 ≤ p) (hp9 : p ≤ 999) (hB : B + 999 < 2 ^ 31) : CtW Γ 8 MX7_pay 0 0 [.ref ab, .int (nI k), .int (nI p)] E n (fun r E2 n2 => r = some (.int (payF f k (nI p) (13 + 16 * k + 1))) ∧ n2 = n ∧ IW Γ ab ra (B + 999) D s0 g0 (payF f k (nI p)) c (remM kp) (some f) E2 n2) X0 := by
  obtain ⟨S, q, I, A, hCA, hRV, hr, hv, hgd, hkp, hH, hS, hO⟩ := h.get
  refine ⟨_, _, c_X7_pay_ok hCA (fun i hi => hRV.2.2.2.2.2.2.2.1 i hi) hr hRV.2.2.2.1.2.1 hRV.2.2.2.1.1 hk hp1 hp9, fun r E2 n2 y => ?_, fun _ _ _ y => y⟩
  obtain ⟨rfl, rfl, P2, R2, E3, k1, rfl, w⟩ := y
  exact ⟨rfl, rfl, IW.chg hCA hRV hgd hv hkp hH hS hO k1 ⟨c, w, hv.pay hp9 hB⟩ (gd_pay hgd hk) (by omega) (Nat.le_refl _)⟩
theorem k_moveTo {k φ : Nat} (h : IW Γ ab ra B D s0 g0 f c kp top E n) (hk : k < c) (hφ : φ < 5) (hf4 : ¬ cntOn f (nI φ) (nI k) c = 4) : CtW Γ 8 MX7_moveTo 0 0 [.ref ab, .int (nI k), .int (nI φ)] E n (fun r E2 n2 => r = some (.int (f (13 + 16 * k))) ∧ n2 = n ∧ IW Γ ab ra B D s0 g0 (upd f (13 + 16 * k) (nI φ)) c (remM kp) (some f) E2 n2) X0 := by
  obtain ⟨S, q, I, A, hCA, hRV, hr, hv, hgd, hkp, hH, hS, hO⟩ := h.get
  refine ⟨_, _, c_X7_moveTo_ok hCA (fun i hi => hRV.2.2.2.2.2.2.2.1 i hi) hr hRV.2.2.2.1.2.1 hRV.2.2.2.1.1 hk hφ (by have := hv.on4 (fl := nI φ) (bt := nI k); omega), fun r E2 n2 y => ?_, fun _ _ _ y => y⟩
  obtain ⟨rfl, rfl, P2, R2, E3, k1, rfl, w⟩ := y
  exact ⟨rfl, rfl, IW.chg hCA hRV hgd hv hkp hH hS hO k1 ⟨c, w, hv.move hk hφ hf4⟩ (gd_move hgd) (Nat.le_refl _) (Nat.le_refl _)⟩
theorem k_moveOut {k : Nat} (h : IW Γ ab ra B D s0 g0 f c kp top E n) (hk : k < c) : CtW Γ 8 MX7_moveOut 0 0 [.ref ab, .int (nI k)] E n (fun r E2 n2 => r = some (.int (f (13 + 16 * k + 1))) ∧ n2 = n ∧ IW Γ ab ra B D s0 g0 (gonF f k c) (c - 1) (remM kp) (some f) E2 n2) X0 := by
  obtain ⟨S, q, I, A, hCA, hRV, hr, hv, hgd, hkp, hH, hS, hO⟩ := h.get
  refine ⟨_, _, c_X7_moveOut_ok hCA (fun i hi => hRV.2.2.2.2.2.2.2.1 i hi) hr hRV.2.2.2.1.2.1 hRV.2.2.2.1.1 hk, fun r E2 n2 y => ?_, fun _ _ _ y => y⟩
  obtain ⟨rfl, rfl, P2, R2, E3, k1, rfl, w⟩ := y
  exact ⟨rfl, rfl, IW.chg hCA hRV hgd hv hkp hH hS hO k1 ⟨c - 1, w, hv.out hk⟩ (gd_out hgd hv hk) (Nat.le_refl _) (Nat.le_refl _)⟩
theorem k_setLandladyVowel {v p : Nat} (h : IW Γ ab ra B D s0 g0 f c kp top E n) (hv5 : v < 5) (hp9 : p ≤ 9) : CtW Γ 8 MX7_setLandladyVowel 0 0 [.ref ab, .int (nI v), .int (nI p)] E n (fun r E2 n2 => r = some (.int (f (2 + v))) ∧ n2 = n ∧ IW Γ ab ra B D s0 g0 (upd f (2 + v) (nI p)) c (remM kp) (some f) E2 n2) X0 := by
  obtain ⟨S, q, I, A, hCA, hRV, hr, hv, hgd, hkp, hH, hS, hO⟩ := h.get
  refine ⟨_, _, c_X7_setLandladyVowel_ok hCA (fun i hi => hRV.2.2.2.2.2.2.2.1 i hi) hr hRV.2.2.2.1.2.1 hRV.2.2.2.1.1 hv5 hp9, fun r E2 n2 y => ?_, fun _ _ _ y => y⟩
  obtain ⟨rfl, rfl, P2, R2, E3, k1, rfl, w⟩ := y
  exact ⟨rfl, rfl, IW.chg hCA hRV hgd hv hkp hH hS hO k1 ⟨c, w, hv.sL hv5 hp9⟩ (gd_hd hgd (by omega) (by omega) (by omega) (by omega) (by omega) (by omega)) (Nat.le_refl _) (Nat.le_refl _)⟩
theorem k_setTolerance {p : Nat} (h : IW Γ ab ra B D s0 g0 f c kp top E n) (hp : p ≤ 45) : CtW Γ 8 MX7_setTolerance 0 0 [.ref ab, .int (nI p)] E n (fun r E2 n2 => r = some (.int (f 1)) ∧ n2 = n ∧ IW Γ ab ra B D s0 g0 (upd f 1 (nI p)) c (remM kp) (some f) E2 n2) X0 := by
  obtain ⟨S, q, I, A, hCA, hRV, hr, hv, hgd, hkp, hH, hS, hO⟩ := h.get
  refine ⟨_, _, c_X7_setTolerance_ok hCA (fun i hi => hRV.2.2.2.2.2.2.2.1 i hi) hr hRV.2.2.2.1.2.1 hRV.2.2.2.1.1 hp, fun r E2 n2 y => ?_, fun _ _ _ y => y⟩
  obtain ⟨rfl, rfl, P2, R2, E3, k1, rfl, w⟩ := y
  exact ⟨rfl, rfl, IW.chg hCA hRV hgd hv hkp hH hS hO k1 ⟨c, w, hv.s1 hp⟩ (gd_hd hgd (by decide) (by decide) (by decide) (by decide) (by decide) (by decide)) (Nat.le_refl _) (Nat.le_refl _)⟩
theorem k_setBaseRent {p : Nat} (h : IW Γ ab ra B D s0 g0 f c kp top E n) (hp : p ≤ 50) : CtW Γ 8 MX7_setBaseRent 0 0 [.ref ab, .int (nI p)] E n (fun r E2 n2 => r = some (.int (f 0)) ∧ n2 = n ∧ IW Γ ab ra B D s0 g0 (upd f 0 (nI p)) c (remM kp) (some f) E2 n2) X0 := by
  obtain ⟨S, q, I, A, hCA, hRV, hr, hv, hgd, hkp, hH, hS, hO⟩ := h.get
  refine ⟨_, _, c_X7_setBaseRent_ok hCA (fun i hi => hRV.2.2.2.2.2.2.2.1 i hi) hr hRV.2.2.2.1.2.1 hRV.2.2.2.1.1 hp, fun r E2 n2 y => ?_, fun _ _ _ y => y⟩
  obtain ⟨rfl, rfl, P2, R2, E3, k1, rfl, w⟩ := y
  exact ⟨rfl, rfl, IW.chg hCA hRV hgd hv hkp hH hS hO k1 ⟨c, w, hv.s0 hp⟩ (gd_hd hgd (by decide) (by decide) (by decide) (by decide) (by decide) (by decide)) (Nat.le_refl _) (Nat.le_refl _)⟩
theorem k_advance {t dy : Nat} {J : Nat → Int32} (h : IW Γ ab ra B D s0 g0 f c kp top E n) (ht1 : 1 ≤ t) (ht2 : t ≤ 100) (h8 : f 8 = nI dy) (hd : dy ≤ D) (hD : D + t ≤ 9999) (hB : B + 7000 < 2 ^ 31) : CtW Γ 8 MX7_advance 0 0 [.ref ab, .int (nI t)] E n (fun r E2 n2 => ∃ c2, c2 ≤ c ∧ r = some (.int (nI (c - c2))) ∧ n2 = n ∧ (dysM f J t).1 7 = nI c2 ∧ (dysM f J t).1 9 = f 9 + nI (c - c2) ∧ (c2 = c → (dysM f J t).2 = J ∧ (dysM f J t).1 12 = f 12) ∧ IW Γ ab ra (B + 7000) (D + t) s0 g0 (dysM f J t).1 c2 (remM kp) (some f) E2 n2) X0 := by
  obtain ⟨S, q, I, A, hCA, hRV, hr, hv, hgd, hkp, hH, hS, hO⟩ := h.get
  have h9 : f 8 + nI t ≤ nI 9999 := by rw [h8, nI_add]; exact nI_le (by omega) (by decide)
  refine ⟨_, _, c_X7_advance_ok hCA (fun i hi => hRV.2.2.2.2.2.2.2.1 i hi) hr hRV.2.2.2.1.2.1 hRV.2.2.2.1.1 (J := J) hv.okr ht1 ht2 h9, fun r E2 n2 y => ?_, fun _ _ _ y => y⟩
  obtain ⟨rfl, rfl, P2, R2, E3, k1, rfl, c2, w⟩ := y
  obtain ⟨c3, a1, a2, a3, a4, a8, a5⟩ := dys_led (I := J) hv.okr t
  obtain rfl : c3 = c2 := (nI_eq (by have := a2.2.1; omega) (by have := w.2.1; omega)).mp (a2.1.symm.trans w.2.2.1)
  obtain ⟨c4, b1, b2⟩ := val_dys (I := J) hv t (by omega)
  refine ⟨c3, a1, ?_, rfl, w.2.2.1, a4, a5, IW.chg hCA hRV hgd hv hkp hH hS hO k1 (RH.at w (b2.le (by omega))) (gd_dys hgd hv h8 (by omega) w.2.2.1 w.2.1) (by omega) (by omega)⟩
  rw [a4, Int32.add_comm, Int32.add_sub_cancel]
theorem k_restore {s c9 : Nat} (h : IW Γ ab ra B D s0 g0 f c kp top E n) (hs : s0 = s) (hs2 : s < 2) (hB9 : ∀ c, Gd D g0 c → c = c9) : CtW Γ 8 MX7_restore 0 0 [.ref ab, .int (nI s)] E n (fun r E2 n2 => r = some (.int (g0 8)) ∧ n2 = n ∧ IW Γ ab ra B D s0 g0 g0 c9 (remM kp) (some f) E2 n2) X0 := by
  subst hs
  obtain ⟨S, q, I, A, hCA, hRV, hr, hv, hgd, hkp, hH, hS, hO⟩ := h.get
  obtain ⟨z1, ⟨c1, z2⟩, z3⟩ := hS hs2
  obtain ⟨e8, e9⟩ := hRV.2.2.2.2.1.2 s0 hs2
  rcases e9 with e9 | ⟨e9, hR9⟩
  · rw [z1] at e9; exact absurd e9 (by decide)
  · have hR0 := hR9.congr z3
    obtain rfl := hB9 c1 z2
    obtain ⟨c5, hg, hvg⟩ := hR0
    obtain rfl : c5 = c1 := (nI_eq (by have := hg.2.1; omega) (by have := z2.2.1; omega)).mp (hg.2.2.1.symm.trans z2.1)
    refine ⟨_, _, c_X7_restore_ok hCA (fun i hi => hRV.2.2.2.2.2.2.2.1 i hi) hr hRV.2.2.2.1.2.1 hRV.2.2.2.1.1 hs2 z1 hg, fun r E2 n2 y => ?_, fun _ _ _ y => y⟩
    obtain ⟨rfl, rfl, P2, R2, E3, k1, rfl, w⟩ := y
    exact ⟨rfl, rfl, IW.chg hCA hRV hgd hv hkp hH hS hO k1 ⟨c5, w, hvg⟩ z2 (Nat.le_refl _) (Nat.le_refl _)⟩
theorem k_undo (h : IW Γ ab ra B D s0 g0 f c kp top E n) (hk : 0 < kp) : CtW Γ 8 MX7_undo 0 0 [.ref ab] E n (fun r E2 n2 => r = some (.int (nI (kp - 1))) ∧ n2 = n ∧ ((∀ t ct, top = some t → Gd D t ct → IW Γ ab ra B D s0 g0 t ct (kp - 1) none E2 n2) ∧ ∃ g c2, IW Γ ab ra B D s0 g0 g c2 (kp - 1) none E2 n2)) X0 := by
  obtain ⟨S, q, I, A, hCA, hRV, hr, hv, hgd, hkp, hH, hS, hO⟩ := h.get
  subst hkp
  obtain ⟨c9, hg, hvg⟩ := hRV.2.2.2.1.2.2.2 (q_kp q - 1) (by omega)
  obtain ⟨cq, hgq⟩ := hH.1 (q_kp q - 1) (by omega)
  refine ⟨_, _, c_X7_undo_ok hCA (fun i hi => hRV.2.2.2.2.2.2.2.1 i hi) hr hRV.2.2.2.1.2.1 hRV.2.2.2.1.1 hk hg, fun r E2 n2 y => ?_, fun _ _ _ y => y⟩
  obtain ⟨rfl, rfl, R2, rfl, w⟩ := y
  have k1 := (hCA.setH (ol := q_ol q) (kp := q_kp q - 1)).setQ (i := 1) (R := R2) (by decide)
  have k2 := hRV.undo hk ⟨c9, w, hvg⟩
  obtain ⟨o1, o2, o3, o4, o5, x, o6⟩ := hO
  have hO2 : Out1 Γ ab ra n2 S (HW Γ (ab + 50) (hset E (ab + 134) (.inr (5, [.ref (ab + 135), .int (nI (q_ol q)), .int (nI (q_kp q - 1))]))) R2) (qQ (qH q (q_ol q) (q_kp q - 1)) 1 R2) := ⟨o1, o2, o3, o4, o5, x, (HW_o (by omega)).trans ((hset_n (by omega)).trans o6)⟩
  have hH2 : His D (q_kp q - 1) A none := ⟨fun j hj => hH.1 j (by omega), fun t z => by cases z⟩
  refine ⟨rfl, rfl, fun t ct ht hgt => ?_, _, cq, S, _, _, A, k1, k2, hgq, rfl, hH2, hS, hO2⟩
  have e := (hH.2 t ht).2
  refine ⟨S, _, _, A, k1, ⟨k2.1, k2.2.1, k2.2.2.1.congr e, k2.2.2.2⟩, hgt, rfl, hH2, hS, hO2⟩
theorem k_save {s : Nat} (h : IW Γ ab ra B D s0 g0 f c kp top E n) (hs : s < 2) : CtW Γ 8 MX7_save 0 0 [.ref ab, .int (nI s)] E n (fun r E2 n2 => r = some (.int (f 8)) ∧ n2 = n ∧ IW Γ ab ra B D s f f c kp top E2 n2) X0 := by
  obtain ⟨S, q, I, A, hCA, hRV, hr, hv, hgd, hkp, hH, hS, hO⟩ := h.get
  refine ⟨_, _, c_X7_save_ok hCA (fun i hi => hRV.2.2.2.2.2.2.2.1 i hi) hr hRV.2.2.2.1.2.1 hRV.2.2.2.1.1 hs, fun r E2 n2 y => ?_, fun _ _ _ y => y⟩
  obtain ⟨rfl, rfl, R2, rfl, w⟩ := y
  have k1 := (hCA.setQ (i := 13 + s) (R := R2) (by omega)).setZ (sv := upd (q_sv q) s (nI 1))
  rw [hh_s hs] at k1
  obtain ⟨o1, o2, o3, o4, o5, x, o6⟩ := hO
  refine ⟨rfl, rfl, S, _, _, _, k1, hRV.save hs ⟨c, w, hv⟩, hgd, hkp, ⟨fun j hj => ?_, fun t ht => ?_⟩, fun _ => ⟨pk_us, ⟨c, hgd⟩, fun j hj => ?_⟩, o1, o2, o3, o4, o5, x, (hset_n (by omega)).trans ((HW_o (by omega)).trans o6)⟩
  · rw [updA_n (by decide)]; exact hH.1 j hj
  · rw [updA_n (by decide)]; exact hH.2 t ht
  · rw [updA_s]
    show f j = cpO (A 5) f (s * 205) 205 (s * 205 + j)
    unfold cpO; rw [if_pos (by omega)]
    exact congrArg f (by omega)
theorem k_moveIn {φ p a : Nat} (h : IW Γ ab ra B D s0 g0 f c kp top E n) (hφ : φ < 5) (hp9 : p ≤ 999) (ha9 : a ≤ 99999) (hcl : c < 12) (hf4 : ¬ cntOn f (nI φ) (-1) c = 4) (hpB : p ≤ B) (hB : B < 2 ^ 31) : CtW Γ 10 MX7_moveIn 2 44 [.ref ab, .int (nI φ), .int (nI p), .int (nI a)] E n (fun r E2 n2 => r = some (.int (nI c)) ∧ n2 = n + 2 ∧ IW Γ ab ra B D s0 g0 (upd (comF f (nI φ) (nI p) a c) (13 + 16 * c + 10) (nI (frL f c 26 97))) (c + 1) (remM kp) (some f) E2 n2) X0 := by
  obtain ⟨S, q, I, A, hCA, hRV, hr, hv, hgd, hkp, hH, hS, hO⟩ := h.get
  refine ⟨_, _, c_X7_moveIn_ok hCA (fun i hi => hRV.2.2.2.2.2.2.2.1 i hi) hr hRV.2.2.2.1.2.1 hRV.2.2.2.1.1 hφ hp9 ha9 hcl (by have := hv.on4 (fl := nI φ) (bt := -1); omega), fun r E2 n2 y => ?_, fun _ _ _ y => y⟩
  obtain ⟨rfl, rfl, P2, R2, E3, y, k1, k2, rfl, rfl⟩ := y
  have k3 := (k1.1.str (x := .inr (0, [.ref (n + 1), .int (nI 0), .int (nI 0), .int (nI 0)])) (y := .inl (gA Γ 1, 1, .inl y))).setQ (i := 1) (R := rcR (q_Q q 1) n (nI φ) (nI p) a c) (by decide)
  have k6 : ∀ v, Le S (hset (hset S n (.inr (0, [.ref (n + 1), .int (nI 0), .int (nI 0), .int (nI 0)]))) (n + 1) (.inl (gA Γ 1, 1, .inl y))) v := fun v w hw => by have := (hCA.st v w hw).2.2.1; exact ((hset_n (by omega)).trans (hset_n (by omega))).trans hw
  have hg : ∀ j, j < 13 + 16 * c + 10 → upd (comF f (nI φ) (nI p) a c) (13 + 16 * c + 10) (nI (frL f c 26 97)) j = comF f (nI φ) (nI p) a c j := fun j hj => pk_un (by omega)
  have hl := (hr.mono k6).letter (φ := φ) (p := p) (a := a) (s := n) (w := n + 1) (y := y) hcl (Or.inl ⟨_, _, (hset_n (by omega)).trans hset_s⟩) (Or.inl hset_s) k2
  have hvc : Val B (upd (comF f (nI φ) (nI p) a c) (13 + 16 * c + 10) (nI (frL f c 26 97))) (c + 1) := Val.com hv hcl hφ hpB hB hf4 hg
  have hkp10 : kp ≤ 10 := by have := hRV.2.2.2.1.1; omega
  obtain ⟨o1, o2, o3, o4, o5, x, o6⟩ := hO
  have hgd2 : Gd D (upd (comF f (nI φ) (nI p) a c) (13 + 16 * c + 10) (nI (frL f c 26 97))) (c + 1) := by
    refine ⟨hvc.1, by omega, (ldN_com hcl hg).trans hgd.2.2.1, ?_⟩
    rw [hg 8 (by omega), com_out (by omega) (by omega) (by omega)]; exact hgd.2.2.2
  refine ⟨rfl, rfl, _, _, _, _, k3, RV.rem (hRV.st k6) (k1.2.1.mono k6) hv ⟨c + 1, hl, hvc⟩, hgd2, ?_, ?_, fun hs => ?_, o1, by omega, o3, o4, ?_, x, ?_⟩
  · show remM (q_kp q) = _
    rw [hkp]
  · rw [hkp]; exact hH.rem hkp10 hgd
  · obtain ⟨z1, ⟨c, z2⟩, z3⟩ := hS hs
    exact ⟨z1, ⟨c, z2⟩, fun j hj => by rw [z3 j hj, updA_n (by decide)]⟩
  · rw [hset_n (by omega), hset_n (by omega)]; exact o5
  · rw [HW_o (by omega), hset_n (by omega), hset_n (by omega), k1.2.2 ra o2 (by omega) o3 o4]; exact o6
end GKAL
