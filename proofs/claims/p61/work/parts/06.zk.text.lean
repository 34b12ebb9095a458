/-! what a new object reads -/
section GTXT
variable {inp : Nat → Int32} {e lo hi key : Nat} {s : PS}
theorem tw_of (h : s.2.2.2.2.1 = 0) (hk : keyP inp s key = true) : twP inp e key s = nxP inp e s := by unfold twP; rw [op_eq, if_neg (fun z => z.2 hk), goP_t h]
theorem ts_of (h : s.2.2.2.2.1 = 0) (hk : s.1 = 3) : tsP inp e s = nxP inp e s := by unfold tsP; rw [op_eq, if_neg (fun z => z.2 hk), goP_t h]
theorem tn_of (h : s.2.2.2.2.1 = 0) (h2 : s.1 = 2) (h3 : lo ≤ s.2.2.2.1 ∧ s.2.2.2.1 ≤ hi) : tnP inp e lo hi s = nxP inp e s := by unfold tnP; rw [hrP_o h h2 h3, goP_t h]
theorem hv_of (h : s.2.2.2.2.1 = 0) (h2 : s.1 = 2) (h3 : lo ≤ s.2.2.2.1 ∧ s.2.2.2.1 ≤ hi) : hvP lo hi s = s.2.2.2.1 := hvP_t (by rw [hrP_o h h2 h3]; exact h)
theorem nm_of (h : s.1 = 1 ∧ s.2.2.1 - s.2.1 ≤ 6) : nmP s = s := by unfold nmP; rw [op_eq, if_neg (fun z => by rcases z.2 with y | y; exact y h.1; omega)]
theorem rl3_of {f : Nat → Int32} {c : Nat} (h : fndF inp f s.2.1 (s.2.2.1 - s.2.1) c = -1) : rl3 inp f c s = s := by unfold rl3; rw [op_eq, if_neg (fun z => z.2 h)]
theorem rl6_of {f : Nat → Int32} {fl c : Nat} {bt : Int32} (h : ¬ cntOn f (nI fl) bt c = 4) : rl6 f fl bt c s = s := by unfold rl6; rw [op_eq, if_neg (fun z => h z.2)]
theorem nmF_c {f g h : Nat → Int32} {r w x : Nat} : ∀ n, (∀ j, j < n → g (w + j) = h (x + j)) → nmF f g r w n = nmF f h r x n
  | 0, _ => rfl
  | n + 1, q => by rw [nmF, nmF, nmF_c n (fun j hj => q j (by omega)), q n (by omega)]
def FT : Nat → Int32 := ftF 143
theorem nx_0 : nxP FT 143 (0, 0, 0, 0, 0, 0) = (1, 0, 5, 0, 0, 0) := by unfold nxP; rw [op_eq]; decide +kernel
theorem nx_1 : nxP FT 143 (1, 0, 5, 0, 0, 0) = (2, 6, 7, 5, 0, 0) := by unfold nxP; rw [op_eq]; decide +kernel
theorem nx_2 : nxP FT 143 (2, 6, 7, 5, 0, 0) = (2, 8, 9, 6, 0, 0) := by unfold nxP; rw [op_eq]; decide +kernel
theorem nx_3 : nxP FT 143 (2, 8, 9, 6, 0, 0) = (3, 9, 10, 6, 0, 0) := by unfold nxP; rw [op_eq]; decide +kernel
theorem nx_4 : nxP FT 143 (3, 9, 10, 6, 0, 0) = (1, 11, 19, 6, 0, 0) := by unfold nxP; rw [op_eq]; decide +kernel
theorem nx_5 : nxP FT 143 (1, 11, 19, 6, 0, 0) = (2, 20, 21, 4, 0, 0) := by unfold nxP; rw [op_eq]; decide +kernel
theorem nx_6 : nxP FT 143 (2, 20, 21, 4, 0, 0) = (2, 22, 23, 4, 0, 0) := by unfold nxP; rw [op_eq]; decide +kernel
theorem nx_7 : nxP FT 143 (2, 22, 23, 4, 0, 0) = (2, 24, 25, 4, 0, 0) := by unfold nxP; rw [op_eq]; decide +kernel
theorem nx_8 : nxP FT 143 (2, 24, 25, 4, 0, 0) = (2, 26, 27, 4, 0, 0) := by unfold nxP; rw [op_eq]; decide +kernel
theorem nx_9 : nxP FT 143 (2, 26, 27, 4, 0, 0) = (2, 28, 29, 4, 0, 0) := by unfold nxP; rw [op_eq]; decide +kernel
theorem nx_10 : nxP FT 143 (2, 28, 29, 4, 0, 0) = (3, 29, 30, 4, 0, 0) := by unfold nxP; rw [op_eq]; decide +kernel
theorem nx_11 : nxP FT 143 (3, 29, 30, 4, 0, 0) = (1, 31, 37, 4, 0, 0) := by unfold nxP; rw [op_eq]; decide +kernel
theorem nx_12 : nxP FT 143 (1, 31, 37, 4, 0, 0) = (1, 38, 41, 4, 0, 0) := by unfold nxP; rw [op_eq]; decide +kernel
theorem nx_13 : nxP FT 143 (1, 38, 41, 4, 0, 0) = (2, 42, 43, 0, 0, 0) := by unfold nxP; rw [op_eq]; decide +kernel
theorem nx_14 : nxP FT 143 (2, 42, 43, 0, 0, 0) = (2, 44, 46, 20, 0, 0) := by unfold nxP; rw [op_eq]; decide +kernel
theorem nx_15 : nxP FT 143 (2, 44, 46, 20, 0, 0) = (2, 47, 48, 4, 0, 0) := by unfold nxP; rw [op_eq]; decide +kernel
theorem nx_16 : nxP FT 143 (2, 47, 48, 4, 0, 0) = (2, 49, 50, 4, 0, 0) := by unfold nxP; rw [op_eq]; decide +kernel
theorem nx_17 : nxP FT 143 (2, 49, 50, 4, 0, 0) = (2, 51, 52, 4, 0, 0) := by unfold nxP; rw [op_eq]; decide +kernel
theorem nx_18 : nxP FT 143 (2, 51, 52, 4, 0, 0) = (2, 53, 54, 4, 0, 0) := by unfold nxP; rw [op_eq]; decide +kernel
theorem nx_19 : nxP FT 143 (2, 53, 54, 4, 0, 0) = (2, 55, 56, 6, 0, 0) := by unfold nxP; rw [op_eq]; decide +kernel
theorem nx_20 : nxP FT 143 (2, 55, 56, 6, 0, 0) = (3, 56, 57, 6, 0, 0) := by unfold nxP; rw [op_eq]; decide +kernel
theorem nx_21 : nxP FT 143 (3, 56, 57, 6, 0, 0) = (1, 58, 64, 6, 0, 0) := by unfold nxP; rw [op_eq]; decide +kernel
theorem nx_22 : nxP FT 143 (1, 58, 64, 6, 0, 0) = (1, 65, 68, 6, 0, 0) := by unfold nxP; rw [op_eq]; decide +kernel
theorem nx_23 : nxP FT 143 (1, 65, 68, 6, 0, 0) = (2, 69, 70, 0, 0, 0) := by unfold nxP; rw [op_eq]; decide +kernel
theorem nx_24 : nxP FT 143 (2, 69, 70, 0, 0, 0) = (2, 71, 72, 3, 0, 0) := by unfold nxP; rw [op_eq]; decide +kernel
theorem nx_25 : nxP FT 143 (2, 71, 72, 3, 0, 0) = (2, 73, 74, 0, 0, 0) := by unfold nxP; rw [op_eq]; decide +kernel
theorem nx_26 : nxP FT 143 (2, 73, 74, 0, 0, 0) = (2, 75, 76, 4, 0, 0) := by unfold nxP; rw [op_eq]; decide +kernel
theorem nx_27 : nxP FT 143 (2, 75, 76, 4, 0, 0) = (2, 77, 78, 4, 0, 0) := by unfold nxP; rw [op_eq]; decide +kernel
theorem nx_28 : nxP FT 143 (2, 77, 78, 4, 0, 0) = (2, 79, 80, 4, 0, 0) := by unfold nxP; rw [op_eq]; decide +kernel
theorem nx_29 : nxP FT 143 (2, 79, 80, 4, 0, 0) = (2, 81, 82, 4, 0, 0) := by unfold nxP; rw [op_eq]; decide +kernel
theorem nx_30 : nxP FT 143 (2, 81, 82, 4, 0, 0) = (3, 82, 83, 4, 0, 0) := by unfold nxP; rw [op_eq]; decide +kernel
theorem nx_31 : nxP FT 143 (3, 82, 83, 4, 0, 0) = (1, 84, 90, 4, 0, 0) := by unfold nxP; rw [op_eq]; decide +kernel
theorem nx_32 : nxP FT 143 (1, 84, 90, 4, 0, 0) = (1, 91, 94, 4, 0, 0) := by unfold nxP; rw [op_eq]; decide +kernel
theorem nx_33 : nxP FT 143 (1, 91, 94, 4, 0, 0) = (2, 95, 96, 1, 0, 0) := by unfold nxP; rw [op_eq]; decide +kernel
theorem nx_34 : nxP FT 143 (2, 95, 96, 1, 0, 0) = (2, 97, 98, 0, 0, 0) := by unfold nxP; rw [op_eq]; decide +kernel
theorem nx_35 : nxP FT 143 (2, 97, 98, 0, 0, 0) = (2, 99, 100, 9, 0, 0) := by unfold nxP; rw [op_eq]; decide +kernel
theorem nx_36 : nxP FT 143 (2, 99, 100, 9, 0, 0) = (2, 101, 102, 9, 0, 0) := by unfold nxP; rw [op_eq]; decide +kernel
theorem nx_37 : nxP FT 143 (2, 101, 102, 9, 0, 0) = (2, 103, 104, 0, 0, 0) := by unfold nxP; rw [op_eq]; decide +kernel
theorem nx_38 : nxP FT 143 (2, 103, 104, 0, 0, 0) = (2, 105, 106, 0, 0, 0) := by unfold nxP; rw [op_eq]; decide +kernel
theorem nx_39 : nxP FT 143 (2, 105, 106, 0, 0, 0) = (2, 107, 108, 4, 0, 0) := by unfold nxP; rw [op_eq]; decide +kernel
theorem nx_40 : nxP FT 143 (2, 107, 108, 4, 0, 0) = (3, 108, 109, 4, 0, 0) := by unfold nxP; rw [op_eq]; decide +kernel
theorem nx_41 : nxP FT 143 (3, 108, 109, 4, 0, 0) = (1, 110, 116, 4, 0, 0) := by unfold nxP; rw [op_eq]; decide +kernel
theorem nx_42 : nxP FT 143 (1, 110, 116, 4, 0, 0) = (1, 117, 120, 4, 0, 0) := by unfold nxP; rw [op_eq]; decide +kernel
theorem nx_43 : nxP FT 143 (1, 117, 120, 4, 0, 0) = (2, 121, 122, 1, 0, 0) := by unfold nxP; rw [op_eq]; decide +kernel
theorem nx_44 : nxP FT 143 (2, 121, 122, 1, 0, 0) = (2, 123, 125, 40, 0, 0) := by unfold nxP; rw [op_eq]; decide +kernel
theorem nx_45 : nxP FT 143 (2, 123, 125, 40, 0, 0) = (2, 126, 127, 9, 0, 0) := by unfold nxP; rw [op_eq]; decide +kernel
theorem nx_46 : nxP FT 143 (2, 126, 127, 9, 0, 0) = (2, 128, 129, 8, 0, 0) := by unfold nxP; rw [op_eq]; decide +kernel
theorem nx_47 : nxP FT 143 (2, 128, 129, 8, 0, 0) = (2, 130, 131, 0, 0, 0) := by unfold nxP; rw [op_eq]; decide +kernel
theorem nx_48 : nxP FT 143 (2, 130, 131, 0, 0, 0) = (2, 132, 133, 1, 0, 0) := by unfold nxP; rw [op_eq]; decide +kernel
theorem nx_49 : nxP FT 143 (2, 132, 133, 1, 0, 0) = (2, 134, 135, 4, 0, 0) := by unfold nxP; rw [op_eq]; decide +kernel
theorem nx_50 : nxP FT 143 (2, 134, 135, 4, 0, 0) = (3, 135, 136, 4, 0, 0) := by unfold nxP; rw [op_eq]; decide +kernel
theorem nx_51 : nxP FT 143 (3, 135, 136, 4, 0, 0) = (1, 137, 141, 4, 0, 0) := by unfold nxP; rw [op_eq]; decide +kernel
theorem nx_52 : nxP FT 143 (1, 137, 141, 4, 0, 0) = (2, 142, 143, 1, 0, 0) := by unfold nxP; rw [op_eq]; decide +kernel
theorem nx_53 : nxP FT 143 (2, 142, 143, 1, 0, 0) = (0, 143, 143, 1, 0, 0) := by unfold nxP; rw [op_eq]; decide +kernel
theorem tx_B : rtB FT 143 (0, 0, 0, 0, 0, 0) = (2, 6, 7, 5, 0, 0) := by show twP FT 143 0 (nxP FT 143 (0, 0, 0, 0, 0, 0)) = _; rw [nx_0, tw_of rfl (by decide +kernel), nx_1]
theorem tx_C : rtC FT 143 (0, 0, 0, 0, 0, 0) = (2, 8, 9, 6, 0, 0) := by show tnP FT 143 0 50 (rtB FT 143 (0, 0, 0, 0, 0, 0)) = _; rw [tx_B, tn_of (lo := 0) (hi := 50) rfl rfl (by decide), nx_2]
theorem tx_D : rtD FT 143 (0, 0, 0, 0, 0, 0) = (3, 9, 10, 6, 0, 0) := by show tnP FT 143 0 45 (rtC FT 143 (0, 0, 0, 0, 0, 0)) = _; rw [tx_C, tn_of (lo := 0) (hi := 45) rfl rfl (by decide), nx_3]
theorem tx_E : rtE FT 143 (0, 0, 0, 0, 0, 0) = (2, 20, 21, 4, 0, 0) := by show twP FT 143 1 (tsP FT 143 (rtD FT 143 (0, 0, 0, 0, 0, 0))) = _; rw [tx_D, ts_of rfl rfl, nx_4, tw_of rfl (by decide +kernel), nx_5]
theorem tx_L0 : lpP FT 143 (rtE FT 143 (0, 0, 0, 0, 0, 0)) 0 = (2, 20, 21, 4, 0, 0) := tx_E
theorem tx_L1 : lpP FT 143 (rtE FT 143 (0, 0, 0, 0, 0, 0)) 1 = (2, 22, 23, 4, 0, 0) := by show tnP FT 143 0 9 (lpP FT 143 (rtE FT 143 (0, 0, 0, 0, 0, 0)) 0) = _; rw [tx_L0, tn_of (lo := 0) (hi := 9) rfl rfl (by decide), nx_6]
theorem tx_L2 : lpP FT 143 (rtE FT 143 (0, 0, 0, 0, 0, 0)) 2 = (2, 24, 25, 4, 0, 0) := by show tnP FT 143 0 9 (lpP FT 143 (rtE FT 143 (0, 0, 0, 0, 0, 0)) 1) = _; rw [tx_L1, tn_of (lo := 0) (hi := 9) rfl rfl (by decide), nx_7]
theorem tx_L3 : lpP FT 143 (rtE FT 143 (0, 0, 0, 0, 0, 0)) 3 = (2, 26, 27, 4, 0, 0) := by show tnP FT 143 0 9 (lpP FT 143 (rtE FT 143 (0, 0, 0, 0, 0, 0)) 2) = _; rw [tx_L2, tn_of (lo := 0) (hi := 9) rfl rfl (by decide), nx_8]
theorem tx_L4 : lpP FT 143 (rtE FT 143 (0, 0, 0, 0, 0, 0)) 4 = (2, 28, 29, 4, 0, 0) := by show tnP FT 143 0 9 (lpP FT 143 (rtE FT 143 (0, 0, 0, 0, 0, 0)) 3) = _; rw [tx_L3, tn_of (lo := 0) (hi := 9) rfl rfl (by decide), nx_9]
theorem tx_L5 : lpP FT 143 (rtE FT 143 (0, 0, 0, 0, 0, 0)) 5 = (3, 29, 30, 4, 0, 0) := by show tnP FT 143 0 9 (lpP FT 143 (rtE FT 143 (0, 0, 0, 0, 0, 0)) 4) = _; rw [tx_L4, tn_of (lo := 0) (hi := 9) rfl rfl (by decide), nx_10]
theorem tx_H : hdF FT 143 (0, 0, 0, 0, 0, 0) 5 = iniL 0 := by
  show upd (upd (upd (upd (upd (upd (upd (fun _ => nI 0) 0 (nI (hvP 0 50 (rtB FT 143 (0, 0, 0, 0, 0, 0))))) 1 (nI (hvP 0 45 (rtC FT 143 (0, 0, 0, 0, 0, 0))))) (2 + 0) (nI (hvP 0 9 (lpP FT 143 (rtE FT 143 (0, 0, 0, 0, 0, 0)) 0)))) (2 + 1) (nI (hvP 0 9 (lpP FT 143 (rtE FT 143 (0, 0, 0, 0, 0, 0)) 1)))) (2 + 2) (nI (hvP 0 9 (lpP FT 143 (rtE FT 143 (0, 0, 0, 0, 0, 0)) 2)))) (2 + 3) (nI (hvP 0 9 (lpP FT 143 (rtE FT 143 (0, 0, 0, 0, 0, 0)) 3)))) (2 + 4) (nI (hvP 0 9 (lpP FT 143 (rtE FT 143 (0, 0, 0, 0, 0, 0)) 4))) = _
  rw [tx_B, tx_C, tx_L0, tx_L1, tx_L2, tx_L3, tx_L4, hv_of rfl rfl (by decide), hv_of rfl rfl (by decide), hv_of (s := (2, 20, 21, 4, 0, 0)) rfl rfl (by decide), hv_of (s := (2, 22, 23, 4, 0, 0)) rfl rfl (by decide), hv_of (s := (2, 24, 25, 4, 0, 0)) rfl rfl (by decide), hv_of (s := (2, 26, 27, 4, 0, 0)) rfl rfl (by decide), hv_of (s := (2, 28, 29, 4, 0, 0)) rfl rfl (by decide)]
  rfl
theorem tx_A0 : rlA FT 143 (iniL 0) 0 (1, 31, 37, 4, 0, 0) = (1, 38, 41, 4, 0, 0) := by show rl3 FT (iniL 0) 0 (nmP (nxP FT 143 (1, 31, 37, 4, 0, 0))) = _; rw [nx_12, nm_of (by decide), rl3_of (by decide +kernel)]
theorem tx_B0 : rlB FT 143 (iniL 0) 0 (1, 31, 37, 4, 0, 0) = (2, 42, 43, 0, 0, 0) := by show goP FT 143 (rlA FT 143 (iniL 0) 0 (1, 31, 37, 4, 0, 0)) = _; rw [tx_A0, goP_t rfl, nx_13]
theorem tx_C0 : rlC FT 143 (iniL 0) 0 (1, 31, 37, 4, 0, 0) = (2, 44, 46, 20, 0, 0) := by show goP FT 143 (rl6 (iniL 0) (hvP 0 4 (rlB FT 143 (iniL 0) 0 (1, 31, 37, 4, 0, 0))) (-1) 0 (hrP 0 4 (rlB FT 143 (iniL 0) 0 (1, 31, 37, 4, 0, 0)))) = _; rw [tx_B0, hrP_o rfl rfl (by decide), hv_of rfl rfl (by decide), rl6_of (by decide +kernel), goP_t rfl, nx_14]
theorem tx_D0 : rlD FT 143 (iniL 0) 0 (1, 31, 37, 4, 0, 0) = (2, 47, 48, 4, 0, 0) := by show tnP FT 143 0 999 (rlC FT 143 (iniL 0) 0 (1, 31, 37, 4, 0, 0)) = _; rw [tx_C0, tn_of (lo := 0) (hi := 999) rfl rfl (by decide), nx_15]
theorem tx_E0_0 : acP FT 143 (rlD FT 143 (iniL 0) 0 (1, 31, 37, 4, 0, 0)) 0 = (0, (2, 47, 48, 4, 0, 0)) := by show (0, rlD FT 143 (iniL 0) 0 (1, 31, 37, 4, 0, 0)) = _; rw [tx_D0]
theorem tx_E0_1 : acP FT 143 (rlD FT 143 (iniL 0) 0 (1, 31, 37, 4, 0, 0)) 1 = (4, (2, 49, 50, 4, 0, 0)) := by show (10 * (acP FT 143 (rlD FT 143 (iniL 0) 0 (1, 31, 37, 4, 0, 0)) 0).1 + hvP 0 9 (acP FT 143 (rlD FT 143 (iniL 0) 0 (1, 31, 37, 4, 0, 0)) 0).2, tnP FT 143 0 9 (acP FT 143 (rlD FT 143 (iniL 0) 0 (1, 31, 37, 4, 0, 0)) 0).2) = _; rw [tx_E0_0]; show (10 * 0 + hvP 0 9 (2, 47, 48, 4, 0, 0), tnP FT 143 0 9 (2, 47, 48, 4, 0, 0)) = _; rw [hv_of rfl rfl (by decide), tn_of (lo := 0) (hi := 9) rfl rfl (by decide), nx_16]; rfl
theorem tx_E0_2 : acP FT 143 (rlD FT 143 (iniL 0) 0 (1, 31, 37, 4, 0, 0)) 2 = (44, (2, 51, 52, 4, 0, 0)) := by show (10 * (acP FT 143 (rlD FT 143 (iniL 0) 0 (1, 31, 37, 4, 0, 0)) 1).1 + hvP 0 9 (acP FT 143 (rlD FT 143 (iniL 0) 0 (1, 31, 37, 4, 0, 0)) 1).2, tnP FT 143 0 9 (acP FT 143 (rlD FT 143 (iniL 0) 0 (1, 31, 37, 4, 0, 0)) 1).2) = _; rw [tx_E0_1]; show (10 * 4 + hvP 0 9 (2, 49, 50, 4, 0, 0), tnP FT 143 0 9 (2, 49, 50, 4, 0, 0)) = _; rw [hv_of rfl rfl (by decide), tn_of (lo := 0) (hi := 9) rfl rfl (by decide), nx_17]; rfl
theorem tx_E0_3 : acP FT 143 (rlD FT 143 (iniL 0) 0 (1, 31, 37, 4, 0, 0)) 3 = (444, (2, 53, 54, 4, 0, 0)) := by show (10 * (acP FT 143 (rlD FT 143 (iniL 0) 0 (1, 31, 37, 4, 0, 0)) 2).1 + hvP 0 9 (acP FT 143 (rlD FT 143 (iniL 0) 0 (1, 31, 37, 4, 0, 0)) 2).2, tnP FT 143 0 9 (acP FT 143 (rlD FT 143 (iniL 0) 0 (1, 31, 37, 4, 0, 0)) 2).2) = _; rw [tx_E0_2]; show (10 * 44 + hvP 0 9 (2, 51, 52, 4, 0, 0), tnP FT 143 0 9 (2, 51, 52, 4, 0, 0)) = _; rw [hv_of rfl rfl (by decide), tn_of (lo := 0) (hi := 9) rfl rfl (by decide), nx_18]; rfl
theorem tx_E0_4 : acP FT 143 (rlD FT 143 (iniL 0) 0 (1, 31, 37, 4, 0, 0)) 4 = (4444, (2, 55, 56, 6, 0, 0)) := by show (10 * (acP FT 143 (rlD FT 143 (iniL 0) 0 (1, 31, 37, 4, 0, 0)) 3).1 + hvP 0 9 (acP FT 143 (rlD FT 143 (iniL 0) 0 (1, 31, 37, 4, 0, 0)) 3).2, tnP FT 143 0 9 (acP FT 143 (rlD FT 143 (iniL 0) 0 (1, 31, 37, 4, 0, 0)) 3).2) = _; rw [tx_E0_3]; show (10 * 444 + hvP 0 9 (2, 53, 54, 4, 0, 0), tnP FT 143 0 9 (2, 53, 54, 4, 0, 0)) = _; rw [hv_of rfl rfl (by decide), tn_of (lo := 0) (hi := 9) rfl rfl (by decide), nx_19]; rfl
theorem tx_E0_5 : acP FT 143 (rlD FT 143 (iniL 0) 0 (1, 31, 37, 4, 0, 0)) 5 = (44446, (3, 56, 57, 6, 0, 0)) := by show (10 * (acP FT 143 (rlD FT 143 (iniL 0) 0 (1, 31, 37, 4, 0, 0)) 4).1 + hvP 0 9 (acP FT 143 (rlD FT 143 (iniL 0) 0 (1, 31, 37, 4, 0, 0)) 4).2, tnP FT 143 0 9 (acP FT 143 (rlD FT 143 (iniL 0) 0 (1, 31, 37, 4, 0, 0)) 4).2) = _; rw [tx_E0_4]; show (10 * 4444 + hvP 0 9 (2, 55, 56, 6, 0, 0), tnP FT 143 0 9 (2, 55, 56, 6, 0, 0)) = _; rw [hv_of rfl rfl (by decide), tn_of (lo := 0) (hi := 9) rfl rfl (by decide), nx_20]; rfl
theorem tx_n0 {J : Nat → Int32} : lnP FT 143 (iniL 0) 0 (1, 31, 37, 4, 0, 0) = (3, 56, 57, 6, 0, 0) ∧ lnF FT 143 (iniL 0) J 0 (1, 31, 37, 4, 0, 0) = iniL 1 := by
  have h7 : ¬ (iniL 0) 7 = nI 12 := by rw [iniL_7]; decide
  obtain ⟨e1, e2⟩ := ln_2 (inp := FT) (e := 143) (s := (1, 31, 37, 4, 0, 0)) (f := (iniL 0)) (c := 0) (J := J) (by decide +kernel)
  rw [e1, e2, rlP_e h7]
  have e3 : (rlE FT 143 (iniL 0) 0 (1, 31, 37, 4, 0, 0)) = (44446, (3, 56, 57, 6, 0, 0)) := tx_E0_5
  refine ⟨by rw [e3], ?_⟩
  unfold rlF
  rw [if_pos ⟨h7, by rw [e3]⟩, e3, tx_A0, tx_B0, tx_C0, hv_of rfl rfl (by decide), hv_of rfl rfl (by decide)]
  exact nmF_c 3 (by decide +kernel)
theorem tx_A1 : rlA FT 143 (iniL 1) 1 (1, 58, 64, 6, 0, 0) = (1, 65, 68, 6, 0, 0) := by show rl3 FT (iniL 1) 1 (nmP (nxP FT 143 (1, 58, 64, 6, 0, 0))) = _; rw [nx_22, nm_of (by decide), rl3_of (by decide +kernel)]
theorem tx_B1 : rlB FT 143 (iniL 1) 1 (1, 58, 64, 6, 0, 0) = (2, 69, 70, 0, 0, 0) := by show goP FT 143 (rlA FT 143 (iniL 1) 1 (1, 58, 64, 6, 0, 0)) = _; rw [tx_A1, goP_t rfl, nx_23]
theorem tx_C1 : rlC FT 143 (iniL 1) 1 (1, 58, 64, 6, 0, 0) = (2, 71, 72, 3, 0, 0) := by show goP FT 143 (rl6 (iniL 1) (hvP 0 4 (rlB FT 143 (iniL 1) 1 (1, 58, 64, 6, 0, 0))) (-1) 1 (hrP 0 4 (rlB FT 143 (iniL 1) 1 (1, 58, 64, 6, 0, 0)))) = _; rw [tx_B1, hrP_o rfl rfl (by decide), hv_of rfl rfl (by decide), rl6_of (by decide +kernel), goP_t rfl, nx_24]
theorem tx_D1 : rlD FT 143 (iniL 1) 1 (1, 58, 64, 6, 0, 0) = (2, 73, 74, 0, 0, 0) := by show tnP FT 143 0 999 (rlC FT 143 (iniL 1) 1 (1, 58, 64, 6, 0, 0)) = _; rw [tx_C1, tn_of (lo := 0) (hi := 999) rfl rfl (by decide), nx_25]
theorem tx_E1_0 : acP FT 143 (rlD FT 143 (iniL 1) 1 (1, 58, 64, 6, 0, 0)) 0 = (0, (2, 73, 74, 0, 0, 0)) := by show (0, rlD FT 143 (iniL 1) 1 (1, 58, 64, 6, 0, 0)) = _; rw [tx_D1]
theorem tx_E1_1 : acP FT 143 (rlD FT 143 (iniL 1) 1 (1, 58, 64, 6, 0, 0)) 1 = (0, (2, 75, 76, 4, 0, 0)) := by show (10 * (acP FT 143 (rlD FT 143 (iniL 1) 1 (1, 58, 64, 6, 0, 0)) 0).1 + hvP 0 9 (acP FT 143 (rlD FT 143 (iniL 1) 1 (1, 58, 64, 6, 0, 0)) 0).2, tnP FT 143 0 9 (acP FT 143 (rlD FT 143 (iniL 1) 1 (1, 58, 64, 6, 0, 0)) 0).2) = _; rw [tx_E1_0]; show (10 * 0 + hvP 0 9 (2, 73, 74, 0, 0, 0), tnP FT 143 0 9 (2, 73, 74, 0, 0, 0)) = _; rw [hv_of rfl rfl (by decide), tn_of (lo := 0) (hi := 9) rfl rfl (by decide), nx_26]; rfl
theorem tx_E1_2 : acP FT 143 (rlD FT 143 (iniL 1) 1 (1, 58, 64, 6, 0, 0)) 2 = (4, (2, 77, 78, 4, 0, 0)) := by show (10 * (acP FT 143 (rlD FT 143 (iniL 1) 1 (1, 58, 64, 6, 0, 0)) 1).1 + hvP 0 9 (acP FT 143 (rlD FT 143 (iniL 1) 1 (1, 58, 64, 6, 0, 0)) 1).2, tnP FT 143 0 9 (acP FT 143 (rlD FT 143 (iniL 1) 1 (1, 58, 64, 6, 0, 0)) 1).2) = _; rw [tx_E1_1]; show (10 * 0 + hvP 0 9 (2, 75, 76, 4, 0, 0), tnP FT 143 0 9 (2, 75, 76, 4, 0, 0)) = _; rw [hv_of rfl rfl (by decide), tn_of (lo := 0) (hi := 9) rfl rfl (by decide), nx_27]; rfl
theorem tx_E1_3 : acP FT 143 (rlD FT 143 (iniL 1) 1 (1, 58, 64, 6, 0, 0)) 3 = (44, (2, 79, 80, 4, 0, 0)) := by show (10 * (acP FT 143 (rlD FT 143 (iniL 1) 1 (1, 58, 64, 6, 0, 0)) 2).1 + hvP 0 9 (acP FT 143 (rlD FT 143 (iniL 1) 1 (1, 58, 64, 6, 0, 0)) 2).2, tnP FT 143 0 9 (acP FT 143 (rlD FT 143 (iniL 1) 1 (1, 58, 64, 6, 0, 0)) 2).2) = _; rw [tx_E1_2]; show (10 * 4 + hvP 0 9 (2, 77, 78, 4, 0, 0), tnP FT 143 0 9 (2, 77, 78, 4, 0, 0)) = _; rw [hv_of rfl rfl (by decide), tn_of (lo := 0) (hi := 9) rfl rfl (by decide), nx_28]; rfl
theorem tx_E1_4 : acP FT 143 (rlD FT 143 (iniL 1) 1 (1, 58, 64, 6, 0, 0)) 4 = (444, (2, 81, 82, 4, 0, 0)) := by show (10 * (acP FT 143 (rlD FT 143 (iniL 1) 1 (1, 58, 64, 6, 0, 0)) 3).1 + hvP 0 9 (acP FT 143 (rlD FT 143 (iniL 1) 1 (1, 58, 64, 6, 0, 0)) 3).2, tnP FT 143 0 9 (acP FT 143 (rlD FT 143 (iniL 1) 1 (1, 58, 64, 6, 0, 0)) 3).2) = _; rw [tx_E1_3]; show (10 * 44 + hvP 0 9 (2, 79, 80, 4, 0, 0), tnP FT 143 0 9 (2, 79, 80, 4, 0, 0)) = _; rw [hv_of rfl rfl (by decide), tn_of (lo := 0) (hi := 9) rfl rfl (by decide), nx_29]; rfl
theorem tx_E1_5 : acP FT 143 (rlD FT 143 (iniL 1) 1 (1, 58, 64, 6, 0, 0)) 5 = (4444, (3, 82, 83, 4, 0, 0)) := by show (10 * (acP FT 143 (rlD FT 143 (iniL 1) 1 (1, 58, 64, 6, 0, 0)) 4).1 + hvP 0 9 (acP FT 143 (rlD FT 143 (iniL 1) 1 (1, 58, 64, 6, 0, 0)) 4).2, tnP FT 143 0 9 (acP FT 143 (rlD FT 143 (iniL 1) 1 (1, 58, 64, 6, 0, 0)) 4).2) = _; rw [tx_E1_4]; show (10 * 444 + hvP 0 9 (2, 81, 82, 4, 0, 0), tnP FT 143 0 9 (2, 81, 82, 4, 0, 0)) = _; rw [hv_of rfl rfl (by decide), tn_of (lo := 0) (hi := 9) rfl rfl (by decide), nx_30]; rfl
theorem tx_n1 {J : Nat → Int32} : lnP FT 143 (iniL 1) 1 (1, 58, 64, 6, 0, 0) = (3, 82, 83, 4, 0, 0) ∧ lnF FT 143 (iniL 1) J 1 (1, 58, 64, 6, 0, 0) = iniL 2 := by
  have h7 : ¬ (iniL 1) 7 = nI 12 := by rw [iniL_7]; decide
  obtain ⟨e1, e2⟩ := ln_2 (inp := FT) (e := 143) (s := (1, 58, 64, 6, 0, 0)) (f := (iniL 1)) (c := 1) (J := J) (by decide +kernel)
  rw [e1, e2, rlP_e h7]
  have e3 : (rlE FT 143 (iniL 1) 1 (1, 58, 64, 6, 0, 0)) = (4444, (3, 82, 83, 4, 0, 0)) := tx_E1_5
  refine ⟨by rw [e3], ?_⟩
  unfold rlF
  rw [if_pos ⟨h7, by rw [e3]⟩, e3, tx_A1, tx_B1, tx_C1, hv_of rfl rfl (by decide), hv_of rfl rfl (by decide)]
  exact nmF_c 3 (by decide +kernel)
theorem tx_A2 : rlA FT 143 (iniL 2) 2 (1, 84, 90, 4, 0, 0) = (1, 91, 94, 4, 0, 0) := by show rl3 FT (iniL 2) 2 (nmP (nxP FT 143 (1, 84, 90, 4, 0, 0))) = _; rw [nx_32, nm_of (by decide), rl3_of (by decide +kernel)]
theorem tx_B2 : rlB FT 143 (iniL 2) 2 (1, 84, 90, 4, 0, 0) = (2, 95, 96, 1, 0, 0) := by show goP FT 143 (rlA FT 143 (iniL 2) 2 (1, 84, 90, 4, 0, 0)) = _; rw [tx_A2, goP_t rfl, nx_33]
theorem tx_C2 : rlC FT 143 (iniL 2) 2 (1, 84, 90, 4, 0, 0) = (2, 97, 98, 0, 0, 0) := by show goP FT 143 (rl6 (iniL 2) (hvP 0 4 (rlB FT 143 (iniL 2) 2 (1, 84, 90, 4, 0, 0))) (-1) 2 (hrP 0 4 (rlB FT 143 (iniL 2) 2 (1, 84, 90, 4, 0, 0)))) = _; rw [tx_B2, hrP_o rfl rfl (by decide), hv_of rfl rfl (by decide), rl6_of (by decide +kernel), goP_t rfl, nx_34]
theorem tx_D2 : rlD FT 143 (iniL 2) 2 (1, 84, 90, 4, 0, 0) = (2, 99, 100, 9, 0, 0) := by show tnP FT 143 0 999 (rlC FT 143 (iniL 2) 2 (1, 84, 90, 4, 0, 0)) = _; rw [tx_C2, tn_of (lo := 0) (hi := 999) rfl rfl (by decide), nx_35]
theorem tx_E2_0 : acP FT 143 (rlD FT 143 (iniL 2) 2 (1, 84, 90, 4, 0, 0)) 0 = (0, (2, 99, 100, 9, 0, 0)) := by show (0, rlD FT 143 (iniL 2) 2 (1, 84, 90, 4, 0, 0)) = _; rw [tx_D2]
theorem tx_E2_1 : acP FT 143 (rlD FT 143 (iniL 2) 2 (1, 84, 90, 4, 0, 0)) 1 = (9, (2, 101, 102, 9, 0, 0)) := by show (10 * (acP FT 143 (rlD FT 143 (iniL 2) 2 (1, 84, 90, 4, 0, 0)) 0).1 + hvP 0 9 (acP FT 143 (rlD FT 143 (iniL 2) 2 (1, 84, 90, 4, 0, 0)) 0).2, tnP FT 143 0 9 (acP FT 143 (rlD FT 143 (iniL 2) 2 (1, 84, 90, 4, 0, 0)) 0).2) = _; rw [tx_E2_0]; show (10 * 0 + hvP 0 9 (2, 99, 100, 9, 0, 0), tnP FT 143 0 9 (2, 99, 100, 9, 0, 0)) = _; rw [hv_of rfl rfl (by decide), tn_of (lo := 0) (hi := 9) rfl rfl (by decide), nx_36]; rfl
theorem tx_E2_2 : acP FT 143 (rlD FT 143 (iniL 2) 2 (1, 84, 90, 4, 0, 0)) 2 = (99, (2, 103, 104, 0, 0, 0)) := by show (10 * (acP FT 143 (rlD FT 143 (iniL 2) 2 (1, 84, 90, 4, 0, 0)) 1).1 + hvP 0 9 (acP FT 143 (rlD FT 143 (iniL 2) 2 (1, 84, 90, 4, 0, 0)) 1).2, tnP FT 143 0 9 (acP FT 143 (rlD FT 143 (iniL 2) 2 (1, 84, 90, 4, 0, 0)) 1).2) = _; rw [tx_E2_1]; show (10 * 9 + hvP 0 9 (2, 101, 102, 9, 0, 0), tnP FT 143 0 9 (2, 101, 102, 9, 0, 0)) = _; rw [hv_of rfl rfl (by decide), tn_of (lo := 0) (hi := 9) rfl rfl (by decide), nx_37]; rfl
theorem tx_E2_3 : acP FT 143 (rlD FT 143 (iniL 2) 2 (1, 84, 90, 4, 0, 0)) 3 = (990, (2, 105, 106, 0, 0, 0)) := by show (10 * (acP FT 143 (rlD FT 143 (iniL 2) 2 (1, 84, 90, 4, 0, 0)) 2).1 + hvP 0 9 (acP FT 143 (rlD FT 143 (iniL 2) 2 (1, 84, 90, 4, 0, 0)) 2).2, tnP FT 143 0 9 (acP FT 143 (rlD FT 143 (iniL 2) 2 (1, 84, 90, 4, 0, 0)) 2).2) = _; rw [tx_E2_2]; show (10 * 99 + hvP 0 9 (2, 103, 104, 0, 0, 0), tnP FT 143 0 9 (2, 103, 104, 0, 0, 0)) = _; rw [hv_of rfl rfl (by decide), tn_of (lo := 0) (hi := 9) rfl rfl (by decide), nx_38]; rfl
theorem tx_E2_4 : acP FT 143 (rlD FT 143 (iniL 2) 2 (1, 84, 90, 4, 0, 0)) 4 = (9900, (2, 107, 108, 4, 0, 0)) := by show (10 * (acP FT 143 (rlD FT 143 (iniL 2) 2 (1, 84, 90, 4, 0, 0)) 3).1 + hvP 0 9 (acP FT 143 (rlD FT 143 (iniL 2) 2 (1, 84, 90, 4, 0, 0)) 3).2, tnP FT 143 0 9 (acP FT 143 (rlD FT 143 (iniL 2) 2 (1, 84, 90, 4, 0, 0)) 3).2) = _; rw [tx_E2_3]; show (10 * 990 + hvP 0 9 (2, 105, 106, 0, 0, 0), tnP FT 143 0 9 (2, 105, 106, 0, 0, 0)) = _; rw [hv_of rfl rfl (by decide), tn_of (lo := 0) (hi := 9) rfl rfl (by decide), nx_39]; rfl
theorem tx_E2_5 : acP FT 143 (rlD FT 143 (iniL 2) 2 (1, 84, 90, 4, 0, 0)) 5 = (99004, (3, 108, 109, 4, 0, 0)) := by show (10 * (acP FT 143 (rlD FT 143 (iniL 2) 2 (1, 84, 90, 4, 0, 0)) 4).1 + hvP 0 9 (acP FT 143 (rlD FT 143 (iniL 2) 2 (1, 84, 90, 4, 0, 0)) 4).2, tnP FT 143 0 9 (acP FT 143 (rlD FT 143 (iniL 2) 2 (1, 84, 90, 4, 0, 0)) 4).2) = _; rw [tx_E2_4]; show (10 * 9900 + hvP 0 9 (2, 107, 108, 4, 0, 0), tnP FT 143 0 9 (2, 107, 108, 4, 0, 0)) = _; rw [hv_of rfl rfl (by decide), tn_of (lo := 0) (hi := 9) rfl rfl (by decide), nx_40]; rfl
theorem tx_n2 {J : Nat → Int32} : lnP FT 143 (iniL 2) 2 (1, 84, 90, 4, 0, 0) = (3, 108, 109, 4, 0, 0) ∧ lnF FT 143 (iniL 2) J 2 (1, 84, 90, 4, 0, 0) = iniL 3 := by
  have h7 : ¬ (iniL 2) 7 = nI 12 := by rw [iniL_7]; decide
  obtain ⟨e1, e2⟩ := ln_2 (inp := FT) (e := 143) (s := (1, 84, 90, 4, 0, 0)) (f := (iniL 2)) (c := 2) (J := J) (by decide +kernel)
  rw [e1, e2, rlP_e h7]
  have e3 : (rlE FT 143 (iniL 2) 2 (1, 84, 90, 4, 0, 0)) = (99004, (3, 108, 109, 4, 0, 0)) := tx_E2_5
  refine ⟨by rw [e3], ?_⟩
  unfold rlF
  rw [if_pos ⟨h7, by rw [e3]⟩, e3, tx_A2, tx_B2, tx_C2, hv_of rfl rfl (by decide), hv_of rfl rfl (by decide)]
  exact nmF_c 3 (by decide +kernel)
theorem tx_A3 : rlA FT 143 (iniL 3) 3 (1, 110, 116, 4, 0, 0) = (1, 117, 120, 4, 0, 0) := by show rl3 FT (iniL 3) 3 (nmP (nxP FT 143 (1, 110, 116, 4, 0, 0))) = _; rw [nx_42, nm_of (by decide), rl3_of (by decide +kernel)]
theorem tx_B3 : rlB FT 143 (iniL 3) 3 (1, 110, 116, 4, 0, 0) = (2, 121, 122, 1, 0, 0) := by show goP FT 143 (rlA FT 143 (iniL 3) 3 (1, 110, 116, 4, 0, 0)) = _; rw [tx_A3, goP_t rfl, nx_43]
theorem tx_C3 : rlC FT 143 (iniL 3) 3 (1, 110, 116, 4, 0, 0) = (2, 123, 125, 40, 0, 0) := by show goP FT 143 (rl6 (iniL 3) (hvP 0 4 (rlB FT 143 (iniL 3) 3 (1, 110, 116, 4, 0, 0))) (-1) 3 (hrP 0 4 (rlB FT 143 (iniL 3) 3 (1, 110, 116, 4, 0, 0)))) = _; rw [tx_B3, hrP_o rfl rfl (by decide), hv_of rfl rfl (by decide), rl6_of (by decide +kernel), goP_t rfl, nx_44]
theorem tx_D3 : rlD FT 143 (iniL 3) 3 (1, 110, 116, 4, 0, 0) = (2, 126, 127, 9, 0, 0) := by show tnP FT 143 0 999 (rlC FT 143 (iniL 3) 3 (1, 110, 116, 4, 0, 0)) = _; rw [tx_C3, tn_of (lo := 0) (hi := 999) rfl rfl (by decide), nx_45]
theorem tx_E3_0 : acP FT 143 (rlD FT 143 (iniL 3) 3 (1, 110, 116, 4, 0, 0)) 0 = (0, (2, 126, 127, 9, 0, 0)) := by show (0, rlD FT 143 (iniL 3) 3 (1, 110, 116, 4, 0, 0)) = _; rw [tx_D3]
theorem tx_E3_1 : acP FT 143 (rlD FT 143 (iniL 3) 3 (1, 110, 116, 4, 0, 0)) 1 = (9, (2, 128, 129, 8, 0, 0)) := by show (10 * (acP FT 143 (rlD FT 143 (iniL 3) 3 (1, 110, 116, 4, 0, 0)) 0).1 + hvP 0 9 (acP FT 143 (rlD FT 143 (iniL 3) 3 (1, 110, 116, 4, 0, 0)) 0).2, tnP FT 143 0 9 (acP FT 143 (rlD FT 143 (iniL 3) 3 (1, 110, 116, 4, 0, 0)) 0).2) = _; rw [tx_E3_0]; show (10 * 0 + hvP 0 9 (2, 126, 127, 9, 0, 0), tnP FT 143 0 9 (2, 126, 127, 9, 0, 0)) = _; rw [hv_of rfl rfl (by decide), tn_of (lo := 0) (hi := 9) rfl rfl (by decide), nx_46]; rfl
theorem tx_E3_2 : acP FT 143 (rlD FT 143 (iniL 3) 3 (1, 110, 116, 4, 0, 0)) 2 = (98, (2, 130, 131, 0, 0, 0)) := by show (10 * (acP FT 143 (rlD FT 143 (iniL 3) 3 (1, 110, 116, 4, 0, 0)) 1).1 + hvP 0 9 (acP FT 143 (rlD FT 143 (iniL 3) 3 (1, 110, 116, 4, 0, 0)) 1).2, tnP FT 143 0 9 (acP FT 143 (rlD FT 143 (iniL 3) 3 (1, 110, 116, 4, 0, 0)) 1).2) = _; rw [tx_E3_1]; show (10 * 9 + hvP 0 9 (2, 128, 129, 8, 0, 0), tnP FT 143 0 9 (2, 128, 129, 8, 0, 0)) = _; rw [hv_of rfl rfl (by decide), tn_of (lo := 0) (hi := 9) rfl rfl (by decide), nx_47]; rfl
theorem tx_E3_3 : acP FT 143 (rlD FT 143 (iniL 3) 3 (1, 110, 116, 4, 0, 0)) 3 = (980, (2, 132, 133, 1, 0, 0)) := by show (10 * (acP FT 143 (rlD FT 143 (iniL 3) 3 (1, 110, 116, 4, 0, 0)) 2).1 + hvP 0 9 (acP FT 143 (rlD FT 143 (iniL 3) 3 (1, 110, 116, 4, 0, 0)) 2).2, tnP FT 143 0 9 (acP FT 143 (rlD FT 143 (iniL 3) 3 (1, 110, 116, 4, 0, 0)) 2).2) = _; rw [tx_E3_2]; show (10 * 98 + hvP 0 9 (2, 130, 131, 0, 0, 0), tnP FT 143 0 9 (2, 130, 131, 0, 0, 0)) = _; rw [hv_of rfl rfl (by decide), tn_of (lo := 0) (hi := 9) rfl rfl (by decide), nx_48]; rfl
theorem tx_E3_4 : acP FT 143 (rlD FT 143 (iniL 3) 3 (1, 110, 116, 4, 0, 0)) 4 = (9801, (2, 134, 135, 4, 0, 0)) := by show (10 * (acP FT 143 (rlD FT 143 (iniL 3) 3 (1, 110, 116, 4, 0, 0)) 3).1 + hvP 0 9 (acP FT 143 (rlD FT 143 (iniL 3) 3 (1, 110, 116, 4, 0, 0)) 3).2, tnP FT 143 0 9 (acP FT 143 (rlD FT 143 (iniL 3) 3 (1, 110, 116, 4, 0, 0)) 3).2) = _; rw [tx_E3_3]; show (10 * 980 + hvP 0 9 (2, 132, 133, 1, 0, 0), tnP FT 143 0 9 (2, 132, 133, 1, 0, 0)) = _; rw [hv_of rfl rfl (by decide), tn_of (lo := 0) (hi := 9) rfl rfl (by decide), nx_49]; rfl
theorem tx_E3_5 : acP FT 143 (rlD FT 143 (iniL 3) 3 (1, 110, 116, 4, 0, 0)) 5 = (98014, (3, 135, 136, 4, 0, 0)) := by show (10 * (acP FT 143 (rlD FT 143 (iniL 3) 3 (1, 110, 116, 4, 0, 0)) 4).1 + hvP 0 9 (acP FT 143 (rlD FT 143 (iniL 3) 3 (1, 110, 116, 4, 0, 0)) 4).2, tnP FT 143 0 9 (acP FT 143 (rlD FT 143 (iniL 3) 3 (1, 110, 116, 4, 0, 0)) 4).2) = _; rw [tx_E3_4]; show (10 * 9801 + hvP 0 9 (2, 134, 135, 4, 0, 0), tnP FT 143 0 9 (2, 134, 135, 4, 0, 0)) = _; rw [hv_of rfl rfl (by decide), tn_of (lo := 0) (hi := 9) rfl rfl (by decide), nx_50]; rfl
theorem tx_n3 {J : Nat → Int32} : lnP FT 143 (iniL 3) 3 (1, 110, 116, 4, 0, 0) = (3, 135, 136, 4, 0, 0) ∧ lnF FT 143 (iniL 3) J 3 (1, 110, 116, 4, 0, 0) = iniL 4 := by
  have h7 : ¬ (iniL 3) 7 = nI 12 := by rw [iniL_7]; decide
  obtain ⟨e1, e2⟩ := ln_2 (inp := FT) (e := 143) (s := (1, 110, 116, 4, 0, 0)) (f := (iniL 3)) (c := 3) (J := J) (by decide +kernel)
  rw [e1, e2, rlP_e h7]
  have e3 : (rlE FT 143 (iniL 3) 3 (1, 110, 116, 4, 0, 0)) = (98014, (3, 135, 136, 4, 0, 0)) := tx_E3_5
  refine ⟨by rw [e3], ?_⟩
  unfold rlF
  rw [if_pos ⟨h7, by rw [e3]⟩, e3, tx_A3, tx_B3, tx_C3, hv_of rfl rfl (by decide), hv_of rfl rfl (by decide)]
  exact nmF_c 3 (by decide +kernel)
theorem tx_n4 {J : Nat → Int32} : lnP FT 143 (iniL 4) 4 (1, 137, 141, 4, 0, 0) = (0, 143, 143, 1, 0, 0) ∧ lnF FT 143 (iniL 4) J 4 (1, 137, 141, 4, 0, 0) = (dayM (iniL 4) J 4).1 := by
  obtain ⟨e1, e2⟩ := ln_5 (inp := FT) (e := 143) (s := (1, 137, 141, 4, 0, 0)) (f := iniL 4) (c := 4) (J := J) (by decide +kernel) (by decide +kernel) (by decide +kernel) (by decide +kernel)
  have e3 : rdP FT 143 (1, 137, 141, 4, 0, 0) = (0, 143, 143, 1, 0, 0) := by rw [← rdP_eq, nx_52, tn_of (lo := 1) (hi := 100) rfl rfl (by decide), nx_53]
  have e4 : rdN FT 143 (1, 137, 141, 4, 0, 0) = 1 := by
    unfold rdN; rw [e3, if_pos rfl, nx_52, hv_of rfl rfl (by decide)]
  rw [e1, e2, e3, e4]
  refine ⟨rfl, ?_⟩
  show (dayM (iniL 4) J (mny (iniL 4))).1 = _
  rw [mny_eq (iniL_ok 4 (by decide))]
theorem tx_all {J : Nat → Int32} : txP FT 143 J (0, 0, 0, 0, 0, 0) = ((dayM (iniL 4) J 4).1, (0, 143, 143, 1, 0, 0)) := by
  show lsP FT 143 J 144 (hdF FT 143 (0, 0, 0, 0, 0, 0) 5, lpP FT 143 (rtE FT 143 (0, 0, 0, 0, 0, 0)) 5) = _
  rw [tx_H, tx_L5]
  have s0 : lsP FT 143 J 144 (iniL 0, (3, 29, 30, 4, 0, 0)) = lsP FT 143 J 143 (iniL 1, (3, 56, 57, 6, 0, 0)) := by
    have eT : tsP FT 143 (3, 29, 30, 4, 0, 0) = (1, 31, 37, 4, 0, 0) := by rw [ts_of rfl rfl, nx_11]
    rw [lsP_s (m := 143) (x := (iniL 0, (3, 29, 30, 4, 0, 0))) ⟨rfl, by decide⟩ (by rw [eT])]
    show lsP FT 143 J 143 (lnF FT 143 (iniL 0) J (mny (iniL 0)) (tsP FT 143 (3, 29, 30, 4, 0, 0)), lnP FT 143 (iniL 0) (mny (iniL 0)) (tsP FT 143 (3, 29, 30, 4, 0, 0))) = _
    rw [eT, mny_eq (iniL_ok 0 (by decide)), (tx_n0 (J := J)).1, (tx_n0 (J := J)).2]
  have s1 : lsP FT 143 J 143 (iniL 1, (3, 56, 57, 6, 0, 0)) = lsP FT 143 J 142 (iniL 2, (3, 82, 83, 4, 0, 0)) := by
    have eT : tsP FT 143 (3, 56, 57, 6, 0, 0) = (1, 58, 64, 6, 0, 0) := by rw [ts_of rfl rfl, nx_21]
    rw [lsP_s (m := 142) (x := (iniL 1, (3, 56, 57, 6, 0, 0))) ⟨rfl, by decide⟩ (by rw [eT])]
    show lsP FT 143 J 142 (lnF FT 143 (iniL 1) J (mny (iniL 1)) (tsP FT 143 (3, 56, 57, 6, 0, 0)), lnP FT 143 (iniL 1) (mny (iniL 1)) (tsP FT 143 (3, 56, 57, 6, 0, 0))) = _
    rw [eT, mny_eq (iniL_ok 1 (by decide)), (tx_n1 (J := J)).1, (tx_n1 (J := J)).2]
  have s2 : lsP FT 143 J 142 (iniL 2, (3, 82, 83, 4, 0, 0)) = lsP FT 143 J 141 (iniL 3, (3, 108, 109, 4, 0, 0)) := by
    have eT : tsP FT 143 (3, 82, 83, 4, 0, 0) = (1, 84, 90, 4, 0, 0) := by rw [ts_of rfl rfl, nx_31]
    rw [lsP_s (m := 141) (x := (iniL 2, (3, 82, 83, 4, 0, 0))) ⟨rfl, by decide⟩ (by rw [eT])]
    show lsP FT 143 J 141 (lnF FT 143 (iniL 2) J (mny (iniL 2)) (tsP FT 143 (3, 82, 83, 4, 0, 0)), lnP FT 143 (iniL 2) (mny (iniL 2)) (tsP FT 143 (3, 82, 83, 4, 0, 0))) = _
    rw [eT, mny_eq (iniL_ok 2 (by decide)), (tx_n2 (J := J)).1, (tx_n2 (J := J)).2]
  have s3 : lsP FT 143 J 141 (iniL 3, (3, 108, 109, 4, 0, 0)) = lsP FT 143 J 140 (iniL 4, (3, 135, 136, 4, 0, 0)) := by
    have eT : tsP FT 143 (3, 108, 109, 4, 0, 0) = (1, 110, 116, 4, 0, 0) := by rw [ts_of rfl rfl, nx_41]
    rw [lsP_s (m := 140) (x := (iniL 3, (3, 108, 109, 4, 0, 0))) ⟨rfl, by decide⟩ (by rw [eT])]
    show lsP FT 143 J 140 (lnF FT 143 (iniL 3) J (mny (iniL 3)) (tsP FT 143 (3, 108, 109, 4, 0, 0)), lnP FT 143 (iniL 3) (mny (iniL 3)) (tsP FT 143 (3, 108, 109, 4, 0, 0))) = _
    rw [eT, mny_eq (iniL_ok 3 (by decide)), (tx_n3 (J := J)).1, (tx_n3 (J := J)).2]
  have s4 : lsP FT 143 J 140 (iniL 4, (3, 135, 136, 4, 0, 0)) = lsP FT 143 J 139 ((dayM (iniL 4) J 4).1, (0, 143, 143, 1, 0, 0)) := by
    have eT : tsP FT 143 (3, 135, 136, 4, 0, 0) = (1, 137, 141, 4, 0, 0) := by rw [ts_of rfl rfl, nx_51]
    rw [lsP_s (m := 139) (x := (iniL 4, (3, 135, 136, 4, 0, 0))) ⟨rfl, by decide⟩ (by rw [eT])]
    show lsP FT 143 J 139 (lnF FT 143 (iniL 4) J (mny (iniL 4)) (tsP FT 143 (3, 135, 136, 4, 0, 0)), lnP FT 143 (iniL 4) (mny (iniL 4)) (tsP FT 143 (3, 135, 136, 4, 0, 0))) = _
    rw [eT, mny_eq (iniL_ok 4 (by decide)), (tx_n4 (J := J)).1, (tx_n4 (J := J)).2]
  rw [s0, s1, s2, s3, s4]
  exact lsP_x (fun z => z.2 rfl)
end GTXT
