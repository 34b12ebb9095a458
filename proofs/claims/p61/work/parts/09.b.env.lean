/-! the environment at the start -/
section GENV
abbrev fl9 : List Cond := flatC (Jvm.Cond.and given_1 narrow_1)
theorem tb_1 {w : Cond} (i : Nat) (h : tables_1_1[i]? = some w) : w ∈ lw_tbl := List.mem_append_right _ (List.mem_append_left _ (List.mem_of_getElem? h))
theorem tb_2 {w : Cond} (i : Nat) (h : tables_1_2[i]? = some w) : w ∈ lw_tbl := List.mem_append_right _ (List.mem_append_right _ (List.mem_append_left _ (List.mem_of_getElem? h)))
theorem tb_3 {w : Cond} (i : Nat) (h : tables_1_3[i]? = some w) : w ∈ lw_tbl := List.mem_append_right _ (List.mem_append_right _ (List.mem_append_right _ (List.mem_append_left _ (List.mem_of_getElem? h))))
theorem tb_4 {w : Cond} (i : Nat) (h : tables_1_4[i]? = some w) : w ∈ lw_tbl := List.mem_append_right _ (List.mem_append_right _ (List.mem_append_right _ (List.mem_append_right _ (List.mem_append_left _ (List.mem_of_getElem? h)))))
theorem tb_5 {w : Cond} (i : Nat) (h : tables_1_5[i]? = some w) : w ∈ lw_tbl := List.mem_append_right _ (List.mem_append_right _ (List.mem_append_right _ (List.mem_append_right _ (List.mem_append_right _ (List.mem_append_left _ (List.mem_of_getElem? h))))))
theorem tb_6 {w : Cond} (i : Nat) (h : tables_1_6[i]? = some w) : w ∈ lw_tbl := List.mem_append_right _ (List.mem_append_right _ (List.mem_append_right _ (List.mem_append_right _ (List.mem_append_right _ (List.mem_append_right _ (List.mem_of_getElem? h))))))
variable {args : Array Value} {s : State}
theorem gSel_ok (hts : ∀ w ∈ lw_tbl, w.before args s = true) : ∀ w ∈ gSel, w.before args s = true := List.forall_mem_cons.mpr ⟨sel_priv (y0 := ⟨"java/lang/AbstractStringBuilder", "isLatin1", "()Z"⟩) (y := ⟨"java/lang/AbstractStringBuilder", "ensureCapacityInternal", "(I)V"⟩) rfl ⟨by decide +kernel, by decide +kernel⟩ (hts _ (tb_2 234 rfl)) (hts _ (tb_2 199 rfl)) (hts _ (tb_2 200 rfl)), List.forall_mem_cons.mpr ⟨sel_priv (y0 := ⟨"java/lang/AbstractStringBuilder", "isLatin1", "()Z"⟩) (y := ⟨"java/lang/AbstractStringBuilder", "newCapacity", "(I)I"⟩) rfl ⟨by decide +kernel, by decide +kernel⟩ (hts _ (tb_2 234 rfl)) (hts _ (tb_2 203 rfl)) (hts _ (tb_2 204 rfl)), List.forall_mem_cons.mpr ⟨sel_priv (y0 := ⟨"java/lang/AbstractStringBuilder", "isLatin1", "()Z"⟩) (y := ⟨"java/lang/AbstractStringBuilder", "inflate", "()V"⟩) rfl ⟨by decide +kernel, by decide +kernel⟩ (hts _ (tb_2 234 rfl)) (hts _ (tb_3 22 rfl)) (hts _ (tb_3 23 rfl)), List.forall_mem_cons.mpr ⟨sel_priv (y0 := ⟨"java/lang/AbstractStringBuilder", "isLatin1", "()Z"⟩) (y := ⟨"java/lang/AbstractStringBuilder", "appendNull", "()Ljava/lang/AbstractStringBuilder;"⟩) rfl ⟨by decide +kernel, by decide +kernel⟩ (hts _ (tb_2 234 rfl)) (hts _ (tb_2 195 rfl)) (hts _ (tb_2 196 rfl)), List.forall_mem_cons.mpr ⟨sel_priv (y0 := ⟨"java/lang/AbstractStringBuilder", "isLatin1", "()Z"⟩) (y := ⟨"java/lang/AbstractStringBuilder", "putStringAt", "(ILjava/lang/String;)V"⟩) rfl ⟨by decide +kernel, by decide +kernel⟩ (hts _ (tb_2 234 rfl)) (hts _ (tb_3 13 rfl)) (hts _ (tb_3 14 rfl)), List.forall_mem_cons.mpr ⟨sel_priv (y0 := ⟨"java/lang/AbstractStringBuilder", "isLatin1", "()Z"⟩) (y := ⟨"java/lang/AbstractStringBuilder", "inflateIfNeededFor", "(Ljava/lang/String;)V"⟩) rfl ⟨by decide +kernel, by decide +kernel⟩ (hts _ (tb_2 234 rfl)) (hts _ (tb_3 17 rfl)) (hts _ (tb_3 18 rfl)), fun _ h => absurd h List.not_mem_nil⟩⟩⟩⟩⟩⟩
theorem wl_ok (hts : ∀ w ∈ lw_tbl, w.before args s = true) : ∀ w ∈ wl, w.before args s = true := fun w hw => (List.mem_append.mp (List.mem_filter.mp hw).1).elim (gSel_ok hts w) (hts w)
theorem ch_list {α β : Type} {l : List α} {P : α → β → Prop} (b0 : β) (h : ∀ x ∈ l, ∃ y, P x y) : ∃ f : Nat → β, ∀ (k : Nat) (x : α), l[k]? = some x → P x (f k) := by
  have h0 : ∀ k : Nat, ∃ y, ∀ x, l[k]? = some x → P x y := fun k => by
    cases hk : l[k]? with
    | none => exact ⟨b0, fun x hx => by cases hx⟩
    | some x =>
      obtain ⟨y, hy⟩ := h x (List.mem_of_getElem? hk)
      exact ⟨y, fun x2 hx => by cases hx; exact hy⟩
  exact ⟨fun k => Classical.choose (h0 k), fun k x hk => Classical.choose_spec (h0 k) x hk⟩
theorem arr_at {ty : FieldType} (hp : ∀ C, ty ≠ .object C) (h : (Cond.arrayClass ty).before args s = true) : ∃ c, ArrOfT s c ty ∧ va_RA s c ty := by
  obtain ⟨c, k, comp, h1, h2, h3⟩ := Cond.arrayClass_spec h
  refine ⟨c, fun n z => ⟨fun k h => (by cases h), k, h2, comp, h3⟩, ?_⟩
  cases ty <;> first | exact h1 | exact absurd rfl (hp _)
theorem arr_ob {C : String} (h : (Cond.arrayOver (.object C)).before args s = true) : ∃ c, ArrOfT s c (.object C) ∧ va_RA s c (.object C) := by
  obtain ⟨comp, c, k, h1, -, h2, h3, h4⟩ := Cond.arrayOver_spec h
  exact ⟨c, fun n z => ⟨fun k h => (by cases h), k, h2, comp, h3⟩, k, comp, h2, h3, h1, h4⟩
theorem kn_of {C : String} {T : u_T} {N : Nat} (h : ∃ (cC : ClassId) (iS : Nat → Nat), u_Kn s C T N cC iS) : ∃ p : ClassId × (Nat → Nat), u_Kn s C T N p.1 p.2 := by
  obtain ⟨a, b, h⟩ := h
  exact ⟨(a, b), h⟩
theorem kn_all (hts : ∀ w ∈ lw_tbl, w.before args s = true) : ∀ q ∈ vwCl, ∃ p : ClassId × (Nat → Nat), u_Kn s q.1 q.2.1 q.2.2 p.1 p.2 := List.forall_mem_cons.mpr ⟨kn_of (u_known (C := RJ0) (T := TJ0) (N := 4) (n := 4) (wl_ok hts) u_J0 (hts _ (tb_3 76 rfl))), List.forall_mem_cons.mpr ⟨kn_of (u_known (C := RJ4) (T := TJ4) (N := 4) (n := 4) (wl_ok hts) u_J4 (hts _ (tb_1 38 rfl))), List.forall_mem_cons.mpr ⟨kn_of (u_known (C := RJx00060) (T := TJx00060) (N := 6) (n := 6) (wl_ok hts) u_Jx00060 (hts _ (tb_3 227 rfl))), List.forall_mem_cons.mpr ⟨kn_of (u_known (C := RJx7c733) (T := TJx7c733) (N := 6) (n := 6) (wl_ok hts) u_Jx7c733 (hts _ (tb_2 180 rfl))), List.forall_mem_cons.mpr ⟨kn_of (u_known (C := RX0) (T := TX0) (N := 1) (n := 1) (wl_ok hts) u_X0 (hts _ (tb_1 83 rfl))), List.forall_mem_cons.mpr ⟨kn_of (u_known (C := RX1) (T := TX1) (N := 3) (n := 3) (wl_ok hts) u_X1 (hts _ (tb_2 4 rfl))), List.forall_mem_cons.mpr ⟨kn_of (u_known (C := RX2) (T := TX2) (N := 11) (n := 11) (wl_ok hts) u_X2 (hts _ (tb_1 77 rfl))), List.forall_mem_cons.mpr ⟨kn_of (u_known (C := RX3) (T := TX3) (N := 7) (n := 7) (wl_ok hts) u_X3 (hts _ (tb_1 97 rfl))), List.forall_mem_cons.mpr ⟨kn_of (u_known (C := RX4) (T := TX4) (N := 5) (n := 5) (wl_ok hts) u_X4 (hts _ (tb_1 71 rfl))), List.forall_mem_cons.mpr ⟨kn_of (u_known (C := RX6) (T := TX6) (N := 6) (n := 6) (wl_ok hts) u_X6 (hts _ (tb_1 191 rfl))), List.forall_mem_cons.mpr ⟨kn_of (u_known (C := RX7) (T := TX7) (N := 11) (n := 11) (wl_ok hts) u_X7 (hts _ (tb_1 30 rfl))), fun _ h => absurd h List.not_mem_nil⟩⟩⟩⟩⟩⟩⟩⟩⟩⟩⟩
theorem arr_all (hts : ∀ w ∈ lw_tbl, w.before args s = true) : ∀ ty ∈ ([.int, .byte, .boolean, .int, .int, .object "AccentHouse$Lodger", .object "AccentHouse$House"] : List FieldType), ∃ c, ArrOfT s c ty ∧ va_RA s c ty := List.forall_mem_cons.mpr ⟨arr_at (fun C h => by cases h) (hts _ (tb_1 94 rfl)), List.forall_mem_cons.mpr ⟨arr_at (fun C h => by cases h) (hts _ (tb_1 69 rfl)), List.forall_mem_cons.mpr ⟨arr_at (fun C h => by cases h) (hts _ (tb_3 181 rfl)), List.forall_mem_cons.mpr ⟨arr_at (fun C h => by cases h) (hts _ (tb_1 94 rfl)), List.forall_mem_cons.mpr ⟨arr_at (fun C h => by cases h) (hts _ (tb_1 94 rfl)), List.forall_mem_cons.mpr ⟨arr_ob (hts _ (tb_1 96 rfl)), List.forall_mem_cons.mpr ⟨arr_ob (hts _ (tb_2 10 rfl)), fun _ h => absurd h List.not_mem_nil⟩⟩⟩⟩⟩⟩⟩
/-- a part of a condition, by its place: 1 right, 0 left, lowest first -/
def pathC : Nat → Nat → Cond → Cond
  | 0, _, c => c
  | f + 1, n, c => if n ≤ 1 then c else match c with
    | .and x y => pathC f (n / 2) (if n % 2 = 1 then y else x)
    | c => c
theorem pathC_ok : ∀ (f n : Nat) (c : Cond), c.before args s = true → (pathC f n c).before args s = true := by
  intro f
  induction f with
  | zero => intro n c h; exact h
  | succ f ih =>
    intro n c h
    unfold pathC
    by_cases hn : n ≤ 1
    · rw [if_pos hn]; exact h
    · rw [if_neg hn]
      cases c with
      | and x y =>
        rw [Cond.before_and, Bool.and_eq_true] at h
        apply ih
        by_cases hz : n % 2 = 1
        · rw [if_pos hz]; exact h.2
        · rw [if_neg hz]; exact h.1
      | _ => exact h
def sP9 : List (List Nat) := [[7705, 2329, 5401, 7449], [2841, 5913, 7961, 2201, 5273, 7321, 2713, 5785, 7833, 2457, 5529, 7577, 5017, 7065, 6041, 8089, 2137, 5209, 7257, 2649, 5721, 7769, 2393, 5465, 7513, 2905, 5977, 8025, 2265, 5337, 7385, 2777, 5849, 7897, 2521, 5593, 7641, 5081, 7129, 6105, 8153, 2105, 5177, 7225, 2617, 5689, 7737, 2361, 5433, 7481, 2873, 5945, 7993, 2233, 5305, 7353, 2745, 5817, 7865, 2489, 5561, 7609, 5049, 7097, 6073, 8121, 2169, 5241, 7289, 2681, 5753, 7801, 2425, 5497, 7545, 2937, 6009, 8057, 2297, 5369, 7417, 2809, 5881, 7929, 2553, 5625, 7673, 5113, 7161, 6137, 8185, 2053, 5125, 7173, 2565, 5637, 7685, 2309, 5381, 7429, 2821, 5893, 7941, 2181, 5253, 7301, 2693, 5765, 7813, 2437, 5509, 7557, 4997, 7045, 6021, 8069, 2117, 5189, 7237, 2629, 5701, 7749, 2373, 5445, 7493, 2885, 5957, 8005, 2245, 5317, 7365, 2757, 5829, 7877, 2501, 5573, 7621, 5061, 7109, 6085, 8133, 2085, 5157, 7205, 2597, 5669, 7717], [2341, 5413, 7461, 2853, 5925, 7973, 2213, 5285, 7333], [2725, 5797, 7845, 2469, 5541, 7589, 5029, 7077, 6053, 8101, 2149, 5221], [7269, 2661, 5733, 7781, 2405, 5477, 7525, 2917, 5989, 8037], [2277, 5349, 7397, 2789, 5861, 7909, 2533, 5605, 7653, 5093, 7141, 6117, 8165, 2069, 5141, 7189, 2581, 5653, 7701, 2325, 5397, 7445, 2837, 5909, 7957, 2197, 5269, 7317, 2709, 5781, 7829], [2453, 5525, 7573, 5013, 7061, 6037, 8085], [2133, 5205, 7253, 2645, 5717, 7765, 2389, 5461, 7509, 2901, 5973, 8021, 2261, 5333], [7381, 2773, 5845, 7893, 2517, 5589, 7637, 5077, 7125, 6101, 8149, 2101, 5173, 7221, 2613, 5685], [7733, 2357, 5429, 7477, 2869], [5941, 7989, 2229, 5301, 7349, 2741, 5813, 7861, 2485, 5557, 7605, 5045, 7093, 6069, 8117, 2165, 5237, 7285, 2677, 5749, 7797, 2421, 5493, 7541, 2933, 6005, 8053, 2293, 5365, 7413], [2805, 5877, 7925, 2549, 5621, 7669, 5109], [7157, 6133, 8181, 2061, 5133, 7181, 2573, 5645], [7693, 2317, 5389, 7437, 2829, 5901, 7949, 2189], [7597, 5037, 7085, 6061, 8109, 2157, 5229, 7277, 2669, 5741, 7789, 2413, 5485, 7533, 2925, 5997, 8045, 2285, 5357, 7405, 2797, 5869, 7917, 2541, 5613, 7661, 5101, 7149], [6125, 8173, 2077, 5149, 7197, 2589, 5661, 7709, 2333, 5405, 7453, 2845, 5917, 7965, 2205, 5277, 7325, 2717, 5789, 7837, 2461, 5533, 7581, 5021, 7069, 6045, 8093, 2141, 5213, 7261, 2653, 5725, 7773], [2397, 5469, 7517, 2909, 5981, 8029, 2269, 5341, 7389, 2781, 5853, 7901, 2525, 5597, 7645, 5085, 7133, 6109, 8157, 2109, 5181, 7229, 2621, 5693, 7741], [7787, 2411, 5483, 7531, 2923, 5995, 8043, 2283, 5355, 7403, 2795, 5867, 7915, 2539, 5611, 7659, 5099, 7147, 6123, 8171, 2075, 5147, 7195, 2587, 5659, 7707], [2675, 5747, 7795, 2419, 5491, 7539, 2931, 6003, 8051, 2291, 5363, 7411, 2803, 5875, 7923, 2547, 5619, 7667, 5107, 7155, 6131, 8179, 2059, 5131, 7179, 2571], [5171, 7219, 2611, 5683, 7731, 2355, 5427, 7475, 2867, 5939, 7987, 2227, 5299, 7347, 2739, 5811, 7859, 2483, 5555, 7603, 5043, 7091, 6067, 8115, 2163, 5235, 7283], [8139, 2091, 5163, 7211, 2603, 5675, 7723, 2347, 5419, 7467, 2859, 5931, 7979, 2219, 5291, 7339, 2731, 5803, 7851, 2475, 5547, 7595, 5035, 7083, 6059, 8107, 2155, 5227, 7275, 2667, 5739], [2331, 5403, 7451, 2843, 5915, 7963, 2203, 5275, 7323, 2715, 5787, 7835, 2459, 5531, 7579, 5019, 7067, 6043, 8091, 2139, 5211, 7259, 2651, 5723, 7771, 2395, 5467, 7515, 2907, 5979, 8027], [2267, 5339, 7387, 2779, 5851, 7899, 2523, 5595, 7643, 5083, 7131, 6107, 8155, 2107, 5179, 7227, 2619, 5691, 7739, 2363, 5435, 7483, 2875, 5947, 7995, 2235, 5307, 7355, 2747, 5819, 7867, 2491], [8061, 2301, 5373, 7421, 2813, 5885, 7933, 2557, 5629, 7677, 5117, 7165, 6141, 8189, 2051, 5123, 7171, 2563, 5635, 7683, 2307, 5379, 7427, 2819, 5891, 7939, 2179, 5251, 7299, 2691, 5763], [7811, 2435, 5507, 7555, 4995, 7043, 6019, 8067, 2115, 5187, 7235, 2627, 5699, 7747, 2371, 5443, 7491, 2883, 5955, 8003, 2243, 5315, 7363, 2755, 5827, 7875, 2499, 5571, 7619, 5059, 7107, 6083, 8131, 2083, 5155, 7203, 2595], [5667, 7715, 2339, 5411, 7459, 2851, 5923, 7971, 2211, 5283, 7331, 2723, 5795, 7843, 2467, 5539, 7587, 5027, 7075, 6051, 8099, 2147, 5219, 7267, 2659, 5731, 7779, 2403], [5475, 7523, 2915, 5987, 8035, 2275, 5347, 7395, 2787, 5859, 7907, 2531, 5603, 7651, 5091, 7139, 6115, 8163, 2067, 5139, 7187], [2579, 5651, 7699, 2323, 5395, 7443, 2835, 5907, 7955, 2195, 5267, 7315, 2707, 5779, 7827, 2451, 5523, 7571, 5011, 7059, 6035, 8083, 2131, 5203, 7251, 2643, 5715, 7763, 2387, 5459], [7507, 2899, 5971, 8019], [5331, 7379, 2771, 5843], [5587, 7635, 5075, 7123], [5261, 7309, 2701, 5773, 7821, 2445, 5517, 7565, 5005, 7053, 6029, 8077, 2125, 5197, 7245, 2637, 5709, 7757, 2381, 5453, 7501, 2893, 5965, 8013, 2253], [5325, 7373, 2765, 5837, 7885, 2509, 5581, 7629, 5069, 7117, 6093, 8141, 2093, 5165, 7213, 2605, 5677, 7725, 2349, 5421, 7469, 2861, 5933, 7981, 2221, 5293, 7341, 2733, 5805, 7853, 2477, 5549], [2365, 5437, 7485, 2877, 5949, 7997, 2237, 5309, 7357, 2749, 5821, 7869, 2493, 5565, 7613, 5053, 7101, 6077, 8125, 2173, 5245, 7293, 2685, 5757, 7805, 2429, 5501, 7549, 2941, 6013], [5643, 7691, 2315, 5387, 7435, 2827, 5899, 7947, 2187, 5259], [7307, 2699, 5771, 7819, 2443, 5515, 7563, 5003, 7051, 6027, 8075, 2123, 5195], [7243, 2635, 5707, 7755, 2379, 5451, 7499, 2891, 5963, 8011, 2251, 5323], [7371, 2763, 5835, 7883, 2507, 5579, 7627, 5067, 7115, 6091]]
def sR9 : List Nat := [102, 263, 344, 375, 388, 426, 633, 703, 704, 705, 722, 760, 773, 778, 968, 977, 979, 1227, 1105, 1075, 1207, 1240, 1253, 1009, 1010, 1020, 1026, 1031, 1047, 1056, 1062, 921, 934, 993, 1124, 1138, 1140, 1141]
abbrev at9 (l : List Nat) (j : Nat) : Cond := pathC 24 (l.getD j 1) (Jvm.Cond.and given_1 narrow_1)
abbrev StrRow (q : String × Nat × String × List Int32) (l : List Nat) : Prop := at9 l 0 = (Cond.exactly (.string q.1 q.2.1) "java/lang/String") ∧ at9 l 1 = (Cond.eq (.field (.string q.1 q.2.1) "java/lang/String" "coder" "B") (.int 0)) ∧ at9 l 2 = (Cond.arrayOf (.field (.string q.1 q.2.1) "java/lang/String" "value" "[B") .byte) ∧ at9 l 3 = (Cond.eq (.length (.field (.string q.1 q.2.1) "java/lang/String" "value" "[B")) (.int (Int32.ofNat q.2.2.2.length))) ∧ ∀ j, j < q.2.2.2.length → at9 l (4 + j) = (Cond.eq (.elem (.field (.string q.1 q.2.1) "java/lang/String" "value" "[B") (.int (Int32.ofNat j))) (.int (q.2.2.2.getD j 0)))
set_option maxRecDepth 100000 in
theorem str_row0 : StrRow (gstrs.getD 0 ("", 0, "", [])) (sP9.getD 0 []) := by decide +kernel
set_option maxRecDepth 100000 in
theorem str_row1 : StrRow (gstrs.getD 1 ("", 0, "", [])) (sP9.getD 1 []) := by decide +kernel
set_option maxRecDepth 100000 in
theorem str_row2 : StrRow (gstrs.getD 2 ("", 0, "", [])) (sP9.getD 2 []) := by decide +kernel
set_option maxRecDepth 100000 in
theorem str_row3 : StrRow (gstrs.getD 3 ("", 0, "", [])) (sP9.getD 3 []) := by decide +kernel
set_option maxRecDepth 100000 in
theorem str_row4 : StrRow (gstrs.getD 4 ("", 0, "", [])) (sP9.getD 4 []) := by decide +kernel
set_option maxRecDepth 100000 in
theorem str_row5 : StrRow (gstrs.getD 5 ("", 0, "", [])) (sP9.getD 5 []) := by decide +kernel
set_option maxRecDepth 100000 in
theorem str_row6 : StrRow (gstrs.getD 6 ("", 0, "", [])) (sP9.getD 6 []) := by decide +kernel
set_option maxRecDepth 100000 in
theorem str_row7 : StrRow (gstrs.getD 7 ("", 0, "", [])) (sP9.getD 7 []) := by decide +kernel
set_option maxRecDepth 100000 in
theorem str_row8 : StrRow (gstrs.getD 8 ("", 0, "", [])) (sP9.getD 8 []) := by decide +kernel
set_option maxRecDepth 100000 in
theorem str_row9 : StrRow (gstrs.getD 9 ("", 0, "", [])) (sP9.getD 9 []) := by decide +kernel
set_option maxRecDepth 100000 in
theorem str_row10 : StrRow (gstrs.getD 10 ("", 0, "", [])) (sP9.getD 10 []) := by decide +kernel
set_option maxRecDepth 100000 in
theorem str_row11 : StrRow (gstrs.getD 11 ("", 0, "", [])) (sP9.getD 11 []) := by decide +kernel
set_option maxRecDepth 100000 in
theorem str_row12 : StrRow (gstrs.getD 12 ("", 0, "", [])) (sP9.getD 12 []) := by decide +kernel
set_option maxRecDepth 100000 in
theorem str_row13 : StrRow (gstrs.getD 13 ("", 0, "", [])) (sP9.getD 13 []) := by decide +kernel
set_option maxRecDepth 100000 in
theorem str_row14 : StrRow (gstrs.getD 14 ("", 0, "", [])) (sP9.getD 14 []) := by decide +kernel
set_option maxRecDepth 100000 in
theorem str_row15 : StrRow (gstrs.getD 15 ("", 0, "", [])) (sP9.getD 15 []) := by decide +kernel
set_option maxRecDepth 100000 in
theorem str_row16 : StrRow (gstrs.getD 16 ("", 0, "", [])) (sP9.getD 16 []) := by decide +kernel
set_option maxRecDepth 100000 in
theorem str_row17 : StrRow (gstrs.getD 17 ("", 0, "", [])) (sP9.getD 17 []) := by decide +kernel
set_option maxRecDepth 100000 in
theorem str_row18 : StrRow (gstrs.getD 18 ("", 0, "", [])) (sP9.getD 18 []) := by decide +kernel
set_option maxRecDepth 100000 in
theorem str_row19 : StrRow (gstrs.getD 19 ("", 0, "", [])) (sP9.getD 19 []) := by decide +kernel
set_option maxRecDepth 100000 in
theorem str_row20 : StrRow (gstrs.getD 20 ("", 0, "", [])) (sP9.getD 20 []) := by decide +kernel
set_option maxRecDepth 100000 in
theorem str_row21 : StrRow (gstrs.getD 21 ("", 0, "", [])) (sP9.getD 21 []) := by decide +kernel
set_option maxRecDepth 100000 in
theorem str_row22 : StrRow (gstrs.getD 22 ("", 0, "", [])) (sP9.getD 22 []) := by decide +kernel
set_option maxRecDepth 100000 in
theorem str_row23 : StrRow (gstrs.getD 23 ("", 0, "", [])) (sP9.getD 23 []) := by decide +kernel
set_option maxRecDepth 100000 in
theorem str_row24 : StrRow (gstrs.getD 24 ("", 0, "", [])) (sP9.getD 24 []) := by decide +kernel
set_option maxRecDepth 100000 in
theorem str_row25 : StrRow (gstrs.getD 25 ("", 0, "", [])) (sP9.getD 25 []) := by decide +kernel
set_option maxRecDepth 100000 in
theorem str_row26 : StrRow (gstrs.getD 26 ("", 0, "", [])) (sP9.getD 26 []) := by decide +kernel
set_option maxRecDepth 100000 in
theorem str_row27 : StrRow (gstrs.getD 27 ("", 0, "", [])) (sP9.getD 27 []) := by decide +kernel
set_option maxRecDepth 100000 in
theorem str_row28 : StrRow (gstrs.getD 28 ("", 0, "", [])) (sP9.getD 28 []) := by decide +kernel
set_option maxRecDepth 100000 in
theorem str_row29 : StrRow (gstrs.getD 29 ("", 0, "", [])) (sP9.getD 29 []) := by decide +kernel
set_option maxRecDepth 100000 in
theorem str_row30 : StrRow (gstrs.getD 30 ("", 0, "", [])) (sP9.getD 30 []) := by decide +kernel
set_option maxRecDepth 100000 in
theorem str_row31 : StrRow (gstrs.getD 31 ("", 0, "", [])) (sP9.getD 31 []) := by decide +kernel
set_option maxRecDepth 100000 in
theorem str_row32 : StrRow (gstrs.getD 32 ("", 0, "", [])) (sP9.getD 32 []) := by decide +kernel
set_option maxRecDepth 100000 in
theorem str_row33 : StrRow (gstrs.getD 33 ("", 0, "", [])) (sP9.getD 33 []) := by decide +kernel
set_option maxRecDepth 100000 in
theorem str_row34 : StrRow (gstrs.getD 34 ("", 0, "", [])) (sP9.getD 34 []) := by decide +kernel
set_option maxRecDepth 100000 in
theorem str_row35 : StrRow (gstrs.getD 35 ("", 0, "", [])) (sP9.getD 35 []) := by decide +kernel
set_option maxRecDepth 100000 in
theorem str_row36 : StrRow (gstrs.getD 36 ("", 0, "", [])) (sP9.getD 36 []) := by decide +kernel
set_option maxRecDepth 100000 in
theorem str_row37 : StrRow (gstrs.getD 37 ("", 0, "", [])) (sP9.getD 37 []) := by decide +kernel
theorem str_rows : ∀ i, i < 38 → StrRow (gstrs.getD i ("", 0, "", [])) (sP9.getD i [])
  | 0, _ => str_row0
  | 1, _ => str_row1
  | 2, _ => str_row2
  | 3, _ => str_row3
  | 4, _ => str_row4
  | 5, _ => str_row5
  | 6, _ => str_row6
  | 7, _ => str_row7
  | 8, _ => str_row8
  | 9, _ => str_row9
  | 10, _ => str_row10
  | 11, _ => str_row11
  | 12, _ => str_row12
  | 13, _ => str_row13
  | 14, _ => str_row14
  | 15, _ => str_row15
  | 16, _ => str_row16
  | 17, _ => str_row17
  | 18, _ => str_row18
  | 19, _ => str_row19
  | 20, _ => str_row20
  | 21, _ => str_row21
  | 22, _ => str_row22
  | 23, _ => str_row23
  | 24, _ => str_row24
  | 25, _ => str_row25
  | 26, _ => str_row26
  | 27, _ => str_row27
  | 28, _ => str_row28
  | 29, _ => str_row29
  | 30, _ => str_row30
  | 31, _ => str_row31
  | 32, _ => str_row32
  | 33, _ => str_row33
  | 34, _ => str_row34
  | 35, _ => str_row35
  | 36, _ => str_row36
  | 37, _ => str_row37
  | i + 38, h => absurd h (by omega)
set_option maxRecDepth 100000 in
theorem str_refs : ∀ i, i < 38 → tables_1[sR9.getD i 0]? = some (Cond.stringRef (gstrs.getD i ("", 0, "", [])).1 (gstrs.getD i ("", 0, "", [])).2.1 (gstrs.getD i ("", 0, "", [])).2.2.1) := by decide +kernel
theorem str_lens : ∀ i, i < 38 → (gstrs.getD i ("", 0, "", [])).2.2.2.length < 2 ^ 31 := by decide +kernel
abbrev StrAt (args : Array Value) (s : State) (A : Nat → Prop) (q : String × Nat × String × List Int32) (p : Nat × Nat) : Prop := vk_R q.1 q.2.1 q.2.2.1 p.1 s ∧ va_O "java/lang/String" p.1 A s s.heap ∧ va_OF "java/lang/String" "coder" "B" (.int 0) p.1 A s s.heap ∧ va_OF "java/lang/String" "value" "[B" (.ref p.2) p.1 A s s.heap ∧ va_T .byte p.2 q.2.2.2.length (fun j => .int (q.2.2.2.getD j 0)) A s s.heap
theorem str_at (hts : ∀ w ∈ lw_tbl, w.before args s = true) (hgv : (Jvm.Cond.and given_1 narrow_1).before args s = true) {A : Nat → Prop} (hA : ∀ a : Nat, a < s.heap.size → ¬ A a) : ∀ q ∈ gstrs, ∃ p : Nat × Nat, StrAt args s A q p := by
  intro q hq
  obtain ⟨i, hi⟩ := List.mem_iff_getElem?.mp hq
  have hi38 : i < 38 := (List.getElem?_eq_some_iff.mp hi).1
  have e : gstrs.getD i ("", 0, "", []) = q := by rw [List.getD_eq_getElem?_getD, hi]; rfl
  have h0 := str_rows i hi38
  have h1 := str_refs i hi38
  have h2 := str_lens i hi38
  rw [e] at h0 h1 h2
  obtain ⟨r1, r2, r3, r4, r5⟩ := h0
  have hs : ∀ (j : Nat) (c : Cond), at9 (sP9.getD i []) j = c → c.before args s = true := fun j c hc => hc ▸ pathC_ok _ _ _ hgv
  have hex := hs _ _ r1
  obtain ⟨a, c, cA, kA, q1, q2, q3, q4, q5, q6, -⟩ := Cond.exactly_spec (args := args) (first := s) (o := none) (s := s) (idx := []) hex
  obtain ⟨t, ht, hT⟩ := va_Tof (f := fun j => .int (q.2.2.2.getD j 0)) (A := A) h2 (hs _ _ r3) (va_eqt (hs _ _ r4)) (fun j hj => va_eqt (hs _ _ (r5 j hj))) hA
  exact ⟨(a, t), vk_R.of (hts _ (List.mem_append_right _ (List.mem_of_getElem? h1))) q1, va_Oof hex q1 hA, vk_OFof q1 (va_eqt (hs _ _ r2)) hA, vk_OFof q1 ht hA, hT⟩
theorem ref_at {t : Term} {c : String} (h : (Cond.exactly t c).before args s = true) : ∃ a : Nat, t.eval args s none [] s = some (.ref a) := by
  obtain ⟨a, -, -, -, q1, -⟩ := Cond.exactly_spec (args := args) (first := s) (o := none) (s := s) (idx := []) h
  exact ⟨a, q1⟩
def fF9 (t0 t1 t2 t3 t4 d5 d6 f7 f8 b L : Nat) : Nat → Nat
  | 0 => t0 | 1 => t1 | 2 => t2 | 3 => t3 | 4 => t4 | 5 => d5 | 6 => d6 | 7 => f7 | 8 => f8 | 9 => b | 10 => L | _ => 0
set_option maxRecDepth 100000 in
theorem dg_DigitOnes : ∀ j, j < 100 → fl9[32 + j]? = some (Cond.eq (.elem (.static "java/lang/Integer" "DigitOnes" "[B") (.int (Int32.ofNat j))) (.int (nI (48 + j % 10)))) := by decide +kernel
set_option maxRecDepth 100000 in
theorem dg_DigitTens : ∀ j, j < 100 → fl9[135 + j]? = some (Cond.eq (.elem (.static "java/lang/Integer" "DigitTens" "[B") (.int (Int32.ofNat j))) (.int (nI (48 + j / 10)))) := by decide +kernel
set_option maxRecDepth 100000 in
set_option maxHeartbeats 4000000 in
theorem env_start (l : Launch) (hflags : l.flags = flags0) (hts : ∀ w ∈ lw_tbl, w.before args s = true) (hgv : (Jvm.Cond.and given_1 narrow_1).before args s = true) {b L : Nat} {xs : Nat → Int32} (hX : va_X b L xs s s.heap) (hbl : b < s.heap.size) (hL : L ≤ 260) : ∃ Γ : Gm, Γ.1 = l ∧ gB Γ = s.heap.size ∧ gF Γ 9 = b ∧ Ev Γ s s.heap := by
  have hs : ∀ c ∈ fl9, c.before args s = true := flat_of_before _ hgv
  have hA : ∀ a : Nat, a < s.heap.size → ¬ (fun q : Nat => s.heap.size ≤ q) a := fun a h z => absurd z (Nat.not_le.mpr h)
  obtain ⟨kn, hkn⟩ := ch_list (0, fun _ => 0) (kn_all hts)
  obtain ⟨aC, hC⟩ := ch_list 0 (arr_all hts)
  obtain ⟨sd, hsd⟩ := ch_list (0, 0) (str_at hts hgv hA)
  obtain ⟨t0, ht0⟩ := ref_at (hs _ (List.mem_of_getElem? (i := 5) (by decide +kernel)) : (.exactly (.static "AccentHouse$Token" "END" "LAccentHouse$Token;") "AccentHouse$Token" : Cond).before args s = true)
  obtain ⟨t1, ht1⟩ := ref_at (hs _ (List.mem_of_getElem? (i := 14) (by decide +kernel)) : (.exactly (.static "AccentHouse$Token" "WORD" "LAccentHouse$Token;") "AccentHouse$Token" : Cond).before args s = true)
  obtain ⟨t2, ht2⟩ := ref_at (hs _ (List.mem_of_getElem? (i := 18) (by decide +kernel)) : (.exactly (.static "AccentHouse$Token" "NUMBER" "LAccentHouse$Token;") "AccentHouse$Token" : Cond).before args s = true)
  obtain ⟨t3, ht3⟩ := ref_at (hs _ (List.mem_of_getElem? (i := 11) (by decide +kernel)) : (.exactly (.static "AccentHouse$Token" "SEMICOLON" "LAccentHouse$Token;") "AccentHouse$Token" : Cond).before args s = true)
  obtain ⟨t4, ht4⟩ := ref_at (hs _ (List.mem_of_getElem? (i := 23) (by decide +kernel)) : (.exactly (.static "AccentHouse$Token" "WRONG" "LAccentHouse$Token;") "AccentHouse$Token" : Cond).before args s = true)
  have n01 : t0 ≠ t1 := va_neR (hs _ (List.mem_of_getElem? (i := 16) (by decide +kernel)) : (.not (.eq (.static "AccentHouse$Token" "END" "LAccentHouse$Token;") (.static "AccentHouse$Token" "WORD" "LAccentHouse$Token;")) : Cond).before args s = true) ht0 ht1
  have n02 : t0 ≠ t2 := va_neR (hs _ (List.mem_of_getElem? (i := 20) (by decide +kernel)) : (.not (.eq (.static "AccentHouse$Token" "END" "LAccentHouse$Token;") (.static "AccentHouse$Token" "NUMBER" "LAccentHouse$Token;")) : Cond).before args s = true) ht0 ht2
  have n03 : t0 ≠ t3 := va_neR (hs _ (List.mem_of_getElem? (i := 13) (by decide +kernel)) : (.not (.eq (.static "AccentHouse$Token" "END" "LAccentHouse$Token;") (.static "AccentHouse$Token" "SEMICOLON" "LAccentHouse$Token;")) : Cond).before args s = true) ht0 ht3
  have n04 : t0 ≠ t4 := va_neR (hs _ (List.mem_of_getElem? (i := 25) (by decide +kernel)) : (.not (.eq (.static "AccentHouse$Token" "END" "LAccentHouse$Token;") (.static "AccentHouse$Token" "WRONG" "LAccentHouse$Token;")) : Cond).before args s = true) ht0 ht4
  have n12 : t1 ≠ t2 := va_neR (hs _ (List.mem_of_getElem? (i := 22) (by decide +kernel)) : (.not (.eq (.static "AccentHouse$Token" "WORD" "LAccentHouse$Token;") (.static "AccentHouse$Token" "NUMBER" "LAccentHouse$Token;")) : Cond).before args s = true) ht1 ht2
  have n13 : t1 ≠ t3 := fun z => va_neR (hs _ (List.mem_of_getElem? (i := 17) (by decide +kernel)) : (.not (.eq (.static "AccentHouse$Token" "SEMICOLON" "LAccentHouse$Token;") (.static "AccentHouse$Token" "WORD" "LAccentHouse$Token;")) : Cond).before args s = true) ht3 ht1 z.symm
  have n14 : t1 ≠ t4 := va_neR (hs _ (List.mem_of_getElem? (i := 27) (by decide +kernel)) : (.not (.eq (.static "AccentHouse$Token" "WORD" "LAccentHouse$Token;") (.static "AccentHouse$Token" "WRONG" "LAccentHouse$Token;")) : Cond).before args s = true) ht1 ht4
  have n23 : t2 ≠ t3 := fun z => va_neR (hs _ (List.mem_of_getElem? (i := 21) (by decide +kernel)) : (.not (.eq (.static "AccentHouse$Token" "SEMICOLON" "LAccentHouse$Token;") (.static "AccentHouse$Token" "NUMBER" "LAccentHouse$Token;")) : Cond).before args s = true) ht3 ht2 z.symm
  have n24 : t2 ≠ t4 := va_neR (hs _ (List.mem_of_getElem? (i := 28) (by decide +kernel)) : (.not (.eq (.static "AccentHouse$Token" "NUMBER" "LAccentHouse$Token;") (.static "AccentHouse$Token" "WRONG" "LAccentHouse$Token;")) : Cond).before args s = true) ht2 ht4
  have n34 : t3 ≠ t4 := va_neR (hs _ (List.mem_of_getElem? (i := 26) (by decide +kernel)) : (.not (.eq (.static "AccentHouse$Token" "SEMICOLON" "LAccentHouse$Token;") (.static "AccentHouse$Token" "WRONG" "LAccentHouse$Token;")) : Cond).before args s = true) ht3 ht4
  obtain ⟨d5, hd5, hT5⟩ := va_Tof (N := 100) (f := gOnes) (A := fun q : Nat => s.heap.size ≤ q) (by decide) (hs _ (List.mem_of_getElem? (i := 30) (by decide +kernel)) : (.arrayOf (.static "java/lang/Integer" "DigitOnes" "[B") .byte : Cond).before args s = true) (va_eqt (hs _ (List.mem_of_getElem? (i := 31) (by decide +kernel)) : (.eq (.length (.static "java/lang/Integer" "DigitOnes" "[B")) (.int 100) : Cond).before args s = true)) (fun j hj => va_eqt (hs _ (List.mem_of_getElem? (dg_DigitOnes j hj)))) hA
  obtain ⟨d6, hd6, hT6⟩ := va_Tof (N := 100) (f := gTens) (A := fun q : Nat => s.heap.size ≤ q) (by decide) (hs _ (List.mem_of_getElem? (i := 133) (by decide +kernel)) : (.arrayOf (.static "java/lang/Integer" "DigitTens" "[B") .byte : Cond).before args s = true) (va_eqt (hs _ (List.mem_of_getElem? (i := 134) (by decide +kernel)) : (.eq (.length (.static "java/lang/Integer" "DigitTens" "[B")) (.int 100) : Cond).before args s = true)) (fun j hj => va_eqt (hs _ (List.mem_of_getElem? (dg_DigitTens j hj)))) hA
  have hsio := va_Zqof (A := fun q : Nat => s.heap.size ≤ q) (hts _ (tb_2 48 rfl)) (hts _ (tb_1 15 rfl)) (hs _ (List.mem_of_getElem? (i := 7) (by decide +kernel)) : (.isRef (.static "jdk/internal/util/Preconditions" "SIOOBE_FORMATTER" "Ljava/util/function/BiFunction;") : Cond).before args s = true) hA
  have h78 : ∃ f7 f8 : Nat, va_Z "jdk/internal/util/Preconditions" "SIOOBE_FORMATTER" "Ljava/util/function/BiFunction;" (if f7 = 0 then .null else .ref f8) (fun q : Nat => s.heap.size ≤ q) s s.heap := by
    rcases hsio with h | ⟨t, h⟩
    · exact ⟨0, 0, h⟩
    · exact ⟨1, t, h⟩
  obtain ⟨f7, f8, hz78⟩ := h78
  have z0 : va_Z "AccentHouse$Token" "END" "LAccentHouse$Token;" (.ref t0) (fun q : Nat => s.heap.size ≤ q) s s.heap := va_Zref (hts _ (tb_1 199 rfl)) (hts _ (tb_1 12 rfl)) ht0 hA
  have z1 : va_Z "AccentHouse$Token" "WORD" "LAccentHouse$Token;" (.ref t1) (fun q : Nat => s.heap.size ≤ q) s s.heap := va_Zref (hts _ (tb_2 89 rfl)) (hts _ (tb_1 12 rfl)) ht1 hA
  have z2 : va_Z "AccentHouse$Token" "NUMBER" "LAccentHouse$Token;" (.ref t2) (fun q : Nat => s.heap.size ≤ q) s s.heap := va_Zref (hts _ (tb_2 91 rfl)) (hts _ (tb_1 12 rfl)) ht2 hA
  have z3 : va_Z "AccentHouse$Token" "SEMICOLON" "LAccentHouse$Token;" (.ref t3) (fun q : Nat => s.heap.size ≤ q) s s.heap := va_Zref (hts _ (tb_2 83 rfl)) (hts _ (tb_1 12 rfl)) ht3 hA
  have z4 : va_Z "AccentHouse$Token" "WRONG" "LAccentHouse$Token;" (.ref t4) (fun q : Nat => s.heap.size ≤ q) s s.heap := va_Zref (hts _ (tb_2 96 rfl)) (hts _ (tb_1 12 rfl)) ht4 hA
  have z5 : va_Z "java/lang/String" "COMPACT_STRINGS" "Z" (.int 1) (fun q : Nat => s.heap.size ≤ q) s s.heap := va_Zof (hts _ (tb_1 47 rfl)) (hts _ (tb_1 4 rfl)) (va_eqt (hs _ (List.mem_of_getElem? (i := 4) (by decide +kernel)) : (.eq (.static "java/lang/String" "COMPACT_STRINGS" "Z") (.int 1) : Cond).before args s = true)) hA
  have z6 : va_Z "java/lang/Integer" "DigitOnes" "[B" (.ref d5) (fun q : Nat => s.heap.size ≤ q) s s.heap := va_Zref (hts _ (tb_3 60 rfl)) (hts _ (tb_1 25 rfl)) hd5 hA
  have z7 : va_Z "java/lang/Integer" "DigitTens" "[B" (.ref d6) (fun q : Nat => s.heap.size ≤ q) s s.heap := va_Zref (hts _ (tb_3 62 rfl)) (hts _ (tb_1 25 rfl)) hd6 hA
  have z8 : va_Z "jdk/internal/util/Preconditions" "SIOOBE_FORMATTER" "Ljava/util/function/BiFunction;" (if f7 = 0 then .null else .ref f8) (fun q : Nat => s.heap.size ≤ q) s s.heap := hz78
  refine ⟨(l, (fun k => (kn k).1, fun k => (kn k).2), s.heap.size, aC, fF9 t0 t1 t2 t3 t4 d5 d6 f7 f8 b L, fun i => (sd i).1, fun i => (sd i).2, xs), rfl, rfl, rfl, ?_⟩
  refine ⟨?_, ⟨fun k q hq => hkn k q hq, ?_⟩, ?_, ⟨?_, ?_⟩, ?_, ⟨?_, ?_, ?_⟩, ⟨hT5, hT6⟩, ⟨?_, ?_⟩, Nat.le_refl _, ?_, ⟨hX, hbl, Nat.not_le.mpr hbl, hL⟩⟩
  · show l.stackTraces = false
    unfold Launch.stackTraces; rw [hflags]; decide +kernel
  · intro k q hq
    match k, hq with
    | 0, hq => cases hq; exact hC 0 (.int) rfl
    | 1, hq => cases hq; exact hC 1 (.byte) rfl
    | 2, hq => cases hq; exact hC 2 (.boolean) rfl
    | 3, hq => cases hq; exact hC 3 (.int) rfl
    | 4, hq => cases hq; exact hC 4 (.int) rfl
    | 5, hq => cases hq; exact hC 5 (.object "AccentHouse$Lodger") rfl
    | 6, hq => cases hq; exact hC 6 (.object "AccentHouse$House") rfl
    | k + 7, hq => exact absurd hq (by simp [gtys])
  · exact List.forall_mem_cons.mpr ⟨z0, List.forall_mem_cons.mpr ⟨z1, List.forall_mem_cons.mpr ⟨z2, List.forall_mem_cons.mpr ⟨z3, List.forall_mem_cons.mpr ⟨z4, List.forall_mem_cons.mpr ⟨z5, List.forall_mem_cons.mpr ⟨z6, List.forall_mem_cons.mpr ⟨z7, List.forall_mem_cons.mpr ⟨z8, fun _ h => absurd h List.not_mem_nil⟩⟩⟩⟩⟩⟩⟩⟩⟩
  · exact vx_Zqof (hts _ (tb_3 134 rfl)) (hts _ (tb_1 17 rfl)) (hs _ (List.mem_of_getElem? (i := 235) (by decide +kernel))) hA
  · exact vx_Zqof (hts _ (tb_3 136 rfl)) (hts _ (tb_1 17 rfl)) (hs _ (List.mem_of_getElem? (i := 236) (by decide +kernel))) hA
  · exact fun i q hi => ⟨(hsd i q hi).1, (hsd i q hi).2⟩
  · exact List.forall_mem_cons.mpr ⟨va_Nw.of rfl (hts _ (tb_1 84 rfl)), List.forall_mem_cons.mpr ⟨va_Nw.of rfl (hts _ (tb_1 98 rfl)), List.forall_mem_cons.mpr ⟨va_Nw.of rfl (hts _ (tb_1 104 rfl)), fun _ h => absurd h List.not_mem_nil⟩⟩⟩
  · exact List.forall_mem_cons.mpr ⟨va_Nw.of rfl (hts _ (tb_4 194 rfl)), List.forall_mem_cons.mpr ⟨va_Nw.of rfl (hts _ (tb_3 109 rfl)), List.forall_mem_cons.mpr ⟨va_Nw.of rfl (hts _ (tb_4 207 rfl)), List.forall_mem_cons.mpr ⟨va_Nw.of rfl (hts _ (tb_3 111 rfl)), List.forall_mem_cons.mpr ⟨va_Nw.of rfl (hts _ (tb_3 113 rfl)), List.forall_mem_cons.mpr ⟨va_Nw.of rfl (hts _ (tb_3 115 rfl)), fun _ h => absurd h List.not_mem_nil⟩⟩⟩⟩⟩⟩
  · exact List.forall_mem_cons.mpr ⟨va_Nc.of (hs _ (List.mem_of_getElem? (i := 247) (by decide +kernel)) : (.not (.castable "java/lang/IllegalArgumentException" "java/lang/IndexOutOfBoundsException") : Cond).before args s = true), List.forall_mem_cons.mpr ⟨va_Nc.of (hs _ (List.mem_of_getElem? (i := 248) (by decide +kernel)) : (.not (.castable "java/lang/IllegalStateException" "java/lang/IndexOutOfBoundsException") : Cond).before args s = true), List.forall_mem_cons.mpr ⟨va_Nc.of (hs _ (List.mem_of_getElem? (i := 261) (by decide +kernel)) : (.not (.castable "java/lang/IllegalStateException" "java/lang/IllegalArgumentException") : Cond).before args s = true), fun _ h => absurd h List.not_mem_nil⟩⟩⟩
  · exact va_AO.of (hts _ (tb_1 96 rfl))
  · exact va_AO.of (hts _ (tb_2 10 rfl))
  · intro i j hi hj hz
    have hi5 : i = 0 ∨ i = 1 ∨ i = 2 ∨ i = 3 ∨ i = 4 := by omega
    have hj5 : j = 0 ∨ j = 1 ∨ j = 2 ∨ j = 3 ∨ j = 4 := by omega
    rcases hi5 with rfl | rfl | rfl | rfl | rfl <;> rcases hj5 with rfl | rfl | rfl | rfl | rfl <;> first | rfl | exact absurd (show t0 = t1 from hz) n01 | exact absurd (show t0 = t1 from Eq.symm hz) n01 | exact absurd (show t0 = t2 from hz) n02 | exact absurd (show t0 = t2 from Eq.symm hz) n02 | exact absurd (show t0 = t3 from hz) n03 | exact absurd (show t0 = t3 from Eq.symm hz) n03 | exact absurd (show t0 = t4 from hz) n04 | exact absurd (show t0 = t4 from Eq.symm hz) n04 | exact absurd (show t1 = t2 from hz) n12 | exact absurd (show t1 = t2 from Eq.symm hz) n12 | exact absurd (show t1 = t3 from hz) n13 | exact absurd (show t1 = t3 from Eq.symm hz) n13 | exact absurd (show t1 = t4 from hz) n14 | exact absurd (show t1 = t4 from Eq.symm hz) n14 | exact absurd (show t2 = t3 from hz) n23 | exact absurd (show t2 = t3 from Eq.symm hz) n23 | exact absurd (show t2 = t4 from hz) n24 | exact absurd (show t2 = t4 from Eq.symm hz) n24 | exact absurd (show t3 = t4 from hz) n34 | exact absurd (show t3 = t4 from Eq.symm hz) n34
end GENV
