section GLINK
theorem uws_of {C : String} {T : u_T} {N : Nat} (h : ∀ k, k < N → u_lay C T k ∈ wl) : ∀ w ∈ u_ws C T N, w ∈ wl := fun w hw => by
  obtain ⟨k, hk, rfl⟩ := List.mem_map.mp hw
  exact h k (List.mem_range.mp hk)
theorem u_J0 : ∀ w ∈ u_ws RJ0 TJ0 4, w ∈ wl := uws_of (lt_s (lt_s (lt_s (lt_s lt_0 (wl_3 194 rfl rfl)) (wl_3 196 rfl rfl)) (wl_3 198 rfl rfl)) (wl_3 200 rfl rfl))
theorem w_J0_0 : Fw 0 0 (.array .byte) true := ⟨RJ0, TJ0, 4, rfl, rfl, rfl, by decide +kernel, ⟨tyJ0, tyJ0_ok⟩, nmJ0⟩
theorem w_J0_1 : Fw 0 1 .byte true := ⟨RJ0, TJ0, 4, rfl, rfl, rfl, by decide +kernel, ⟨tyJ0, tyJ0_ok⟩, nmJ0⟩
theorem w_J0_2 : Fw 0 2 .int false := ⟨RJ0, TJ0, 4, rfl, rfl, rfl, by decide +kernel, ⟨tyJ0, tyJ0_ok⟩, nmJ0⟩
theorem w_J0_3 : Fw 0 3 .boolean false := ⟨RJ0, TJ0, 4, rfl, rfl, rfl, by decide +kernel, ⟨tyJ0, tyJ0_ok⟩, nmJ0⟩
theorem u_J4 : ∀ w ∈ u_ws RJ4 TJ4 4, w ∈ wl := uws_of (lt_s (lt_s (lt_s (lt_s lt_0 (wl_1 60 rfl rfl)) (wl_1 62 rfl rfl)) (wl_1 64 rfl rfl)) (wl_1 66 rfl rfl))
-- w_J4_0: inherited
-- w_J4_1: inherited
-- w_J4_2: inherited
-- w_J4_3: inherited
theorem u_Jx00060 : ∀ w ∈ u_ws RJx00060 TJx00060 6, w ∈ wl := uws_of (lt_s (lt_s (lt_s (lt_s (lt_s (lt_s lt_0 (wl_3 232 rfl rfl)) (wl_3 233 rfl rfl)) (wl_3 234 rfl rfl)) (wl_3 235 rfl rfl)) (wl_3 236 rfl rfl)) (wl_4 7 rfl rfl))
-- w_Jx00060_0: inherited
-- w_Jx00060_1: inherited
-- w_Jx00060_2: inherited
-- w_Jx00060_3: inherited
-- w_Jx00060_4: inherited
-- w_Jx00060_5: inherited
theorem u_Jx7c733 : ∀ w ∈ u_ws RJx7c733 TJx7c733 6, w ∈ wl := uws_of (lt_s (lt_s (lt_s (lt_s (lt_s (lt_s lt_0 (wl_3 207 rfl rfl)) (wl_3 208 rfl rfl)) (wl_3 209 rfl rfl)) (wl_3 210 rfl rfl)) (wl_3 211 rfl rfl)) (wl_3 212 rfl rfl))
-- w_Jx7c733_0: inherited
-- w_Jx7c733_1: inherited
-- w_Jx7c733_2: inherited
-- w_Jx7c733_3: inherited
-- w_Jx7c733_4: inherited
-- w_Jx7c733_5: inherited
theorem u_X0 : ∀ w ∈ u_ws RX0 TX0 1, w ∈ wl := uws_of (lt_s lt_0 (wl_1 91 rfl rfl))
theorem w_X0_0 : Fw 4 0 (.array .int) true := ⟨RX0, TX0, 1, rfl, rfl, rfl, by decide +kernel, ⟨tyX0, tyX0_ok⟩, nmX0⟩
theorem u_X1 : ∀ w ∈ u_ws RX1 TX1 3, w ∈ wl := uws_of (lt_s (lt_s (lt_s lt_0 (wl_2 16 rfl rfl)) (wl_2 18 rfl rfl)) (wl_2 20 rfl rfl))
theorem w_X1_0 : Fw 5 0 (.array (.object "AccentHouse$House")) true := ⟨RX1, TX1, 3, rfl, rfl, rfl, by decide +kernel, ⟨tyX1, tyX1_ok⟩, nmX1⟩
theorem w_X1_1 : Fw 5 1 .int false := ⟨RX1, TX1, 3, rfl, rfl, rfl, by decide +kernel, ⟨tyX1, tyX1_ok⟩, nmX1⟩
theorem w_X1_2 : Fw 5 2 .int false := ⟨RX1, TX1, 3, rfl, rfl, rfl, by decide +kernel, ⟨tyX1, tyX1_ok⟩, nmX1⟩
theorem u_X2 : ∀ w ∈ u_ws RX2 TX2 11, w ∈ wl := uws_of (lt_s (lt_s (lt_s (lt_s (lt_s (lt_s (lt_s (lt_s (lt_s (lt_s (lt_s lt_0 (wl_1 167 rfl rfl)) (wl_1 169 rfl rfl)) (wl_1 171 rfl rfl)) (wl_1 173 rfl rfl)) (wl_1 175 rfl rfl)) (wl_1 177 rfl rfl)) (wl_1 179 rfl rfl)) (wl_1 181 rfl rfl)) (wl_1 183 rfl rfl)) (wl_1 185 rfl rfl)) (wl_1 187 rfl rfl))
theorem w_X2_0 : Fw 6 0 .int false := ⟨RX2, TX2, 11, rfl, rfl, rfl, by decide +kernel, ⟨tyX2, tyX2_ok⟩, nmX2⟩
theorem w_X2_1 : Fw 6 1 .int false := ⟨RX2, TX2, 11, rfl, rfl, rfl, by decide +kernel, ⟨tyX2, tyX2_ok⟩, nmX2⟩
theorem w_X2_2 : Fw 6 2 .int false := ⟨RX2, TX2, 11, rfl, rfl, rfl, by decide +kernel, ⟨tyX2, tyX2_ok⟩, nmX2⟩
theorem w_X2_3 : Fw 6 3 .int false := ⟨RX2, TX2, 11, rfl, rfl, rfl, by decide +kernel, ⟨tyX2, tyX2_ok⟩, nmX2⟩
theorem w_X2_4 : Fw 6 4 .int false := ⟨RX2, TX2, 11, rfl, rfl, rfl, by decide +kernel, ⟨tyX2, tyX2_ok⟩, nmX2⟩
theorem w_X2_5 : Fw 6 5 .int false := ⟨RX2, TX2, 11, rfl, rfl, rfl, by decide +kernel, ⟨tyX2, tyX2_ok⟩, nmX2⟩
theorem w_X2_6 : Fw 6 6 .int false := ⟨RX2, TX2, 11, rfl, rfl, rfl, by decide +kernel, ⟨tyX2, tyX2_ok⟩, nmX2⟩
theorem w_X2_7 : Fw 6 7 .int false := ⟨RX2, TX2, 11, rfl, rfl, rfl, by decide +kernel, ⟨tyX2, tyX2_ok⟩, nmX2⟩
theorem w_X2_8 : Fw 6 8 (.object "AccentHouse$Accent") true := ⟨RX2, TX2, 11, rfl, rfl, rfl, by decide +kernel, ⟨tyX2, tyX2_ok⟩, nmX2⟩
theorem w_X2_9 : Fw 6 9 (.array (.object "AccentHouse$Lodger")) true := ⟨RX2, TX2, 11, rfl, rfl, rfl, by decide +kernel, ⟨tyX2, tyX2_ok⟩, nmX2⟩
theorem w_X2_10 : Fw 6 10 (.object "AccentHouse$Accent") true := ⟨RX2, TX2, 11, rfl, rfl, rfl, by decide +kernel, ⟨tyX2, tyX2_ok⟩, nmX2⟩
theorem u_X3 : ∀ w ∈ u_ws RX3 TX3 7, w ∈ wl := uws_of (lt_s (lt_s (lt_s (lt_s (lt_s (lt_s (lt_s lt_0 (wl_1 127 rfl rfl)) (wl_1 129 rfl rfl)) (wl_1 131 rfl rfl)) (wl_1 133 rfl rfl)) (wl_1 135 rfl rfl)) (wl_1 137 rfl rfl)) (wl_1 139 rfl rfl))
theorem w_X3_0 : Fw 7 0 (.object "java/lang/String") false := ⟨RX3, TX3, 7, rfl, rfl, rfl, by decide +kernel, ⟨tyX3, tyX3_ok⟩, nmX3⟩
theorem w_X3_1 : Fw 7 1 .int false := ⟨RX3, TX3, 7, rfl, rfl, rfl, by decide +kernel, ⟨tyX3, tyX3_ok⟩, nmX3⟩
theorem w_X3_2 : Fw 7 2 .int false := ⟨RX3, TX3, 7, rfl, rfl, rfl, by decide +kernel, ⟨tyX3, tyX3_ok⟩, nmX3⟩
theorem w_X3_3 : Fw 7 3 .int false := ⟨RX3, TX3, 7, rfl, rfl, rfl, by decide +kernel, ⟨tyX3, tyX3_ok⟩, nmX3⟩
theorem w_X3_4 : Fw 7 4 .int false := ⟨RX3, TX3, 7, rfl, rfl, rfl, by decide +kernel, ⟨tyX3, tyX3_ok⟩, nmX3⟩
theorem w_X3_5 : Fw 7 5 .int false := ⟨RX3, TX3, 7, rfl, rfl, rfl, by decide +kernel, ⟨tyX3, tyX3_ok⟩, nmX3⟩
theorem w_X3_6 : Fw 7 6 (.object "AccentHouse$Accent") true := ⟨RX3, TX3, 7, rfl, rfl, rfl, by decide +kernel, ⟨tyX3, tyX3_ok⟩, nmX3⟩
theorem u_X4 : ∀ w ∈ u_ws RX4 TX4 5, w ∈ wl := uws_of (lt_s (lt_s (lt_s (lt_s (lt_s lt_0 (wl_1 230 rfl rfl)) (wl_1 232 rfl rfl)) (wl_1 234 rfl rfl)) (wl_1 236 rfl rfl)) (wl_1 238 rfl rfl))
theorem w_X4_0 : Fw 8 0 (.array .byte) true := ⟨RX4, TX4, 5, rfl, rfl, rfl, by decide +kernel, ⟨tyX4, tyX4_ok⟩, nmX4⟩
theorem w_X4_1 : Fw 8 1 (.object "AccentHouse$Tokens") true := ⟨RX4, TX4, 5, rfl, rfl, rfl, by decide +kernel, ⟨tyX4, tyX4_ok⟩, nmX4⟩
theorem w_X4_2 : Fw 8 2 (.object "AccentHouse$House") true := ⟨RX4, TX4, 5, rfl, rfl, rfl, by decide +kernel, ⟨tyX4, tyX4_ok⟩, nmX4⟩
theorem w_X4_3 : Fw 8 3 .int false := ⟨RX4, TX4, 5, rfl, rfl, rfl, by decide +kernel, ⟨tyX4, tyX4_ok⟩, nmX4⟩
theorem w_X4_4 : Fw 8 4 .int false := ⟨RX4, TX4, 5, rfl, rfl, rfl, by decide +kernel, ⟨tyX4, tyX4_ok⟩, nmX4⟩
theorem u_X6 : ∀ w ∈ u_ws RX6 TX6 6, w ∈ wl := uws_of (lt_s (lt_s (lt_s (lt_s (lt_s (lt_s lt_0 (wl_1 209 rfl rfl)) (wl_1 211 rfl rfl)) (wl_1 213 rfl rfl)) (wl_1 215 rfl rfl)) (wl_1 217 rfl rfl)) (wl_1 219 rfl rfl))
theorem w_X6_0 : Fw 9 0 (.array .byte) true := ⟨RX6, TX6, 6, rfl, rfl, rfl, by decide +kernel, ⟨tyX6, tyX6_ok⟩, nmX6⟩
theorem w_X6_1 : Fw 9 1 (.object "java/lang/StringBuilder") true := ⟨RX6, TX6, 6, rfl, rfl, rfl, by decide +kernel, ⟨tyX6, tyX6_ok⟩, nmX6⟩
theorem w_X6_2 : Fw 9 2 .int false := ⟨RX6, TX6, 6, rfl, rfl, rfl, by decide +kernel, ⟨tyX6, tyX6_ok⟩, nmX6⟩
theorem w_X6_3 : Fw 9 3 (.object "AccentHouse$Token") false := ⟨RX6, TX6, 6, rfl, rfl, rfl, by decide +kernel, ⟨tyX6, tyX6_ok⟩, nmX6⟩
theorem w_X6_4 : Fw 9 4 .int false := ⟨RX6, TX6, 6, rfl, rfl, rfl, by decide +kernel, ⟨tyX6, tyX6_ok⟩, nmX6⟩
theorem w_X6_5 : Fw 9 5 .int false := ⟨RX6, TX6, 6, rfl, rfl, rfl, by decide +kernel, ⟨tyX6, tyX6_ok⟩, nmX6⟩
theorem u_X7 : ∀ w ∈ u_ws RX7 TX7 11, w ∈ wl := uws_of (lt_s (lt_s (lt_s (lt_s (lt_s (lt_s (lt_s (lt_s (lt_s (lt_s (lt_s lt_0 (wl_4 149 rfl rfl)) (wl_4 151 rfl rfl)) (wl_4 153 rfl rfl)) (wl_4 155 rfl rfl)) (wl_4 157 rfl rfl)) (wl_4 159 rfl rfl)) (wl_4 161 rfl rfl)) (wl_4 163 rfl rfl)) (wl_4 165 rfl rfl)) (wl_4 167 rfl rfl)) (wl_4 169 rfl rfl))
theorem w_X7_0 : Fw 10 0 (.array .byte) true := ⟨RX7, TX7, 11, rfl, rfl, rfl, by decide +kernel, ⟨tyX7, tyX7_ok⟩, nmX7⟩
theorem w_X7_1 : Fw 10 1 .int false := ⟨RX7, TX7, 11, rfl, rfl, rfl, by decide +kernel, ⟨tyX7, tyX7_ok⟩, nmX7⟩
theorem w_X7_2 : Fw 10 2 (.object "java/lang/StringBuilder") true := ⟨RX7, TX7, 11, rfl, rfl, rfl, by decide +kernel, ⟨tyX7, tyX7_ok⟩, nmX7⟩
theorem w_X7_3 : Fw 10 3 (.object "AccentHouse$Parser") true := ⟨RX7, TX7, 11, rfl, rfl, rfl, by decide +kernel, ⟨tyX7, tyX7_ok⟩, nmX7⟩
theorem w_X7_4 : Fw 10 4 .int false := ⟨RX7, TX7, 11, rfl, rfl, rfl, by decide +kernel, ⟨tyX7, tyX7_ok⟩, nmX7⟩
theorem w_X7_5 : Fw 10 5 .int false := ⟨RX7, TX7, 11, rfl, rfl, rfl, by decide +kernel, ⟨tyX7, tyX7_ok⟩, nmX7⟩
theorem w_X7_6 : Fw 10 6 (.object "AccentHouse$House") true := ⟨RX7, TX7, 11, rfl, rfl, rfl, by decide +kernel, ⟨tyX7, tyX7_ok⟩, nmX7⟩
theorem w_X7_7 : Fw 10 7 (.object "AccentHouse$House") true := ⟨RX7, TX7, 11, rfl, rfl, rfl, by decide +kernel, ⟨tyX7, tyX7_ok⟩, nmX7⟩
theorem w_X7_8 : Fw 10 8 (.object "AccentHouse$History") true := ⟨RX7, TX7, 11, rfl, rfl, rfl, by decide +kernel, ⟨tyX7, tyX7_ok⟩, nmX7⟩
theorem w_X7_9 : Fw 10 9 (.array (.object "AccentHouse$House")) true := ⟨RX7, TX7, 11, rfl, rfl, rfl, by decide +kernel, ⟨tyX7, tyX7_ok⟩, nmX7⟩
theorem w_X7_10 : Fw 10 10 (.array .boolean) true := ⟨RX7, TX7, 11, rfl, rfl, rfl, by decide +kernel, ⟨tyX7, tyX7_ok⟩, nmX7⟩
theorem f_X7_9 : Fl RX7 9 10 0 := Fl.of (ref := "AccentHouse") (C := RX7) (T := TX7) (N := 11) rfl (by decide) (wl_4 138 rfl rfl) u_X7 rfl
theorem f_X7_16 : Fl RX7 16 10 2 := Fl.of (ref := "AccentHouse") (C := RX7) (T := TX7) (N := 11) rfl (by decide) (wl_4 140 rfl rfl) u_X7 rfl
theorem f_X7_25 : Fl RX7 25 10 3 := Fl.of (ref := "AccentHouse") (C := RX7) (T := TX7) (N := 11) rfl (by decide) (wl_4 141 rfl rfl) u_X7 rfl
theorem f_X7_29 : Fl RX7 29 10 5 := Fl.of (ref := "AccentHouse") (C := RX7) (T := TX7) (N := 11) rfl (by decide) (wl_4 143 rfl rfl) u_X7 rfl
theorem f_X7_36 : Fl RX7 36 10 6 := Fl.of (ref := "AccentHouse") (C := RX7) (T := TX7) (N := 11) rfl (by decide) (wl_4 144 rfl rfl) u_X7 rfl
theorem f_X7_40 : Fl RX7 40 10 7 := Fl.of (ref := "AccentHouse") (C := RX7) (T := TX7) (N := 11) rfl (by decide) (wl_4 145 rfl rfl) u_X7 rfl
theorem f_X7_46 : Fl RX7 46 10 8 := Fl.of (ref := "AccentHouse") (C := RX7) (T := TX7) (N := 11) rfl (by decide) (wl_4 146 rfl rfl) u_X7 rfl
theorem f_X7_50 : Fl RX7 50 10 9 := Fl.of (ref := "AccentHouse") (C := RX7) (T := TX7) (N := 11) rfl (by decide) (wl_4 147 rfl rfl) u_X7 rfl
theorem f_X7_54 : Fl RX7 54 10 10 := Fl.of (ref := "AccentHouse") (C := RX7) (T := TX7) (N := 11) rfl (by decide) (wl_4 148 rfl rfl) u_X7 rfl
theorem f_X7_74 : Fl RX7 74 8 2 := Fl.of (ref := "AccentHouse$Parser") (C := RX4) (T := TX4) (N := 5) rfl (by decide) (wl_1 225 rfl rfl) u_X4 rfl
theorem f_X7_79 : Fl RX7 79 10 1 := Fl.of (ref := "AccentHouse") (C := RX7) (T := TX7) (N := 11) rfl (by decide) (wl_4 139 rfl rfl) u_X7 rfl
theorem f_X7_97 : Fl RX7 97 8 3 := Fl.of (ref := "AccentHouse$Parser") (C := RX4) (T := TX4) (N := 5) rfl (by decide) (wl_1 227 rfl rfl) u_X4 rfl
theorem f_X7_100 : Fl RX7 100 10 4 := Fl.of (ref := "AccentHouse") (C := RX7) (T := TX7) (N := 11) rfl (by decide) (wl_4 142 rfl rfl) u_X7 rfl
theorem f_X7_103 : Fl RX7 103 8 4 := Fl.of (ref := "AccentHouse$Parser") (C := RX4) (T := TX4) (N := 5) rfl (by decide) (wl_1 229 rfl rfl) u_X4 rfl
theorem f_X7_114 : Fl RX7 114 6 7 := Fl.of (ref := "AccentHouse$House") (C := RX2) (T := TX2) (N := 11) rfl (by decide) (wl_1 158 rfl rfl) u_X2 rfl
theorem f_X7_117 : Fl RX7 117 6 0 := Fl.of (ref := "AccentHouse$House") (C := RX2) (T := TX2) (N := 11) rfl (by decide) (wl_1 143 rfl rfl) u_X2 rfl
theorem f_X7_120 : Fl RX7 120 6 1 := Fl.of (ref := "AccentHouse$House") (C := RX2) (T := TX2) (N := 11) rfl (by decide) (wl_1 145 rfl rfl) u_X2 rfl
theorem f_X7_123 : Fl RX7 123 6 2 := Fl.of (ref := "AccentHouse$House") (C := RX2) (T := TX2) (N := 11) rfl (by decide) (wl_1 147 rfl rfl) u_X2 rfl
theorem f_X7_136 : Fl RX7 136 6 8 := Fl.of (ref := "AccentHouse$House") (C := RX2) (T := TX2) (N := 11) rfl (by decide) (wl_1 161 rfl rfl) u_X2 rfl
theorem f_X7_140 : Fl RX7 140 4 0 := Fl.of (ref := "AccentHouse$Accent") (C := RX0) (T := TX0) (N := 1) rfl (by decide) (wl_1 89 rfl rfl) u_X0 rfl
theorem f_X7_146 : Fl RX7 146 6 3 := Fl.of (ref := "AccentHouse$House") (C := RX2) (T := TX2) (N := 11) rfl (by decide) (wl_1 149 rfl rfl) u_X2 rfl
theorem f_X7_149 : Fl RX7 149 5 2 := Fl.of (ref := "AccentHouse$History") (C := RX1) (T := TX1) (N := 3) rfl (by decide) (wl_2 15 rfl rfl) u_X1 rfl
theorem f_X7_156 : Fl RX7 156 7 1 := Fl.of (ref := "AccentHouse$Lodger") (C := RX3) (T := TX3) (N := 7) rfl (by decide) (wl_1 111 rfl rfl) u_X3 rfl
theorem f_X7_161 : Fl RX7 161 7 2 := Fl.of (ref := "AccentHouse$Lodger") (C := RX3) (T := TX3) (N := 7) rfl (by decide) (wl_1 114 rfl rfl) u_X3 rfl
theorem f_X7_164 : Fl RX7 164 7 6 := Fl.of (ref := "AccentHouse$Lodger") (C := RX3) (T := TX3) (N := 7) rfl (by decide) (wl_1 126 rfl rfl) u_X3 rfl
theorem f_X7_167 : Fl RX7 167 7 3 := Fl.of (ref := "AccentHouse$Lodger") (C := RX3) (T := TX3) (N := 7) rfl (by decide) (wl_1 117 rfl rfl) u_X3 rfl
theorem f_X7_170 : Fl RX7 170 7 4 := Fl.of (ref := "AccentHouse$Lodger") (C := RX3) (T := TX3) (N := 7) rfl (by decide) (wl_1 120 rfl rfl) u_X3 rfl
theorem f_X7_173 : Fl RX7 173 7 5 := Fl.of (ref := "AccentHouse$Lodger") (C := RX3) (T := TX3) (N := 7) rfl (by decide) (wl_1 123 rfl rfl) u_X3 rfl
theorem f_X7_176 : Fl RX7 176 7 0 := Fl.of (ref := "AccentHouse$Lodger") (C := RX3) (T := TX3) (N := 7) rfl (by decide) (wl_1 107 rfl rfl) u_X3 rfl
theorem f_X7_208 : Fl RX7 208 6 9 := Fl.of (ref := "AccentHouse$House") (C := RX2) (T := TX2) (N := 11) rfl (by decide) (wl_1 164 rfl rfl) u_X2 rfl
theorem f_X7_218 : Fl RX7 218 6 10 := Fl.of (ref := "AccentHouse$House") (C := RX2) (T := TX2) (N := 11) rfl (by decide) (wl_1 166 rfl rfl) u_X2 rfl
theorem f_X7_249 : Fl RX7 249 6 4 := Fl.of (ref := "AccentHouse$House") (C := RX2) (T := TX2) (N := 11) rfl (by decide) (wl_1 151 rfl rfl) u_X2 rfl
theorem f_X7_252 : Fl RX7 252 6 5 := Fl.of (ref := "AccentHouse$House") (C := RX2) (T := TX2) (N := 11) rfl (by decide) (wl_1 153 rfl rfl) u_X2 rfl
theorem f_X7_255 : Fl RX7 255 6 6 := Fl.of (ref := "AccentHouse$House") (C := RX2) (T := TX2) (N := 11) rfl (by decide) (wl_1 155 rfl rfl) u_X2 rfl
theorem f_X0_9 : Fl RX0 9 4 0 := Fl.of (ref := "AccentHouse$Accent") (C := RX0) (T := TX0) (N := 1) rfl (by decide) (wl_1 88 rfl rfl) u_X0 rfl
theorem f_X1_11 : Fl RX1 11 5 0 := Fl.of (ref := "AccentHouse$History") (C := RX1) (T := TX1) (N := 3) rfl (by decide) (wl_2 12 rfl rfl) u_X1 rfl
theorem f_X1_18 : Fl RX1 18 5 1 := Fl.of (ref := "AccentHouse$History") (C := RX1) (T := TX1) (N := 3) rfl (by decide) (wl_2 13 rfl rfl) u_X1 rfl
theorem f_X1_22 : Fl RX1 22 5 2 := Fl.of (ref := "AccentHouse$History") (C := RX1) (T := TX1) (N := 3) rfl (by decide) (wl_2 14 rfl rfl) u_X1 rfl
theorem f_X2_12 : Fl RX2 12 6 8 := Fl.of (ref := "AccentHouse$House") (C := RX2) (T := TX2) (N := 11) rfl (by decide) (wl_1 159 rfl rfl) u_X2 rfl
theorem f_X2_20 : Fl RX2 20 6 9 := Fl.of (ref := "AccentHouse$House") (C := RX2) (T := TX2) (N := 11) rfl (by decide) (wl_1 162 rfl rfl) u_X2 rfl
theorem f_X2_24 : Fl RX2 24 6 10 := Fl.of (ref := "AccentHouse$House") (C := RX2) (T := TX2) (N := 11) rfl (by decide) (wl_1 165 rfl rfl) u_X2 rfl
theorem f_X2_28 : Fl RX2 28 6 0 := Fl.of (ref := "AccentHouse$House") (C := RX2) (T := TX2) (N := 11) rfl (by decide) (wl_1 142 rfl rfl) u_X2 rfl
theorem f_X2_32 : Fl RX2 32 6 1 := Fl.of (ref := "AccentHouse$House") (C := RX2) (T := TX2) (N := 11) rfl (by decide) (wl_1 144 rfl rfl) u_X2 rfl
theorem f_X2_35 : Fl RX2 35 6 2 := Fl.of (ref := "AccentHouse$House") (C := RX2) (T := TX2) (N := 11) rfl (by decide) (wl_1 146 rfl rfl) u_X2 rfl
theorem f_X2_38 : Fl RX2 38 6 3 := Fl.of (ref := "AccentHouse$House") (C := RX2) (T := TX2) (N := 11) rfl (by decide) (wl_1 148 rfl rfl) u_X2 rfl
theorem f_X2_41 : Fl RX2 41 6 4 := Fl.of (ref := "AccentHouse$House") (C := RX2) (T := TX2) (N := 11) rfl (by decide) (wl_1 150 rfl rfl) u_X2 rfl
theorem f_X2_44 : Fl RX2 44 6 5 := Fl.of (ref := "AccentHouse$House") (C := RX2) (T := TX2) (N := 11) rfl (by decide) (wl_1 152 rfl rfl) u_X2 rfl
theorem f_X2_47 : Fl RX2 47 6 6 := Fl.of (ref := "AccentHouse$House") (C := RX2) (T := TX2) (N := 11) rfl (by decide) (wl_1 154 rfl rfl) u_X2 rfl
theorem f_X2_50 : Fl RX2 50 6 7 := Fl.of (ref := "AccentHouse$House") (C := RX2) (T := TX2) (N := 11) rfl (by decide) (wl_1 156 rfl rfl) u_X2 rfl
theorem f_X2_60 : Fl RX2 60 7 1 := Fl.of (ref := "AccentHouse$Lodger") (C := RX3) (T := TX3) (N := 7) rfl (by decide) (wl_1 109 rfl rfl) u_X3 rfl
theorem f_X2_89 : Fl RX2 89 7 0 := Fl.of (ref := "AccentHouse$Lodger") (C := RX3) (T := TX3) (N := 7) rfl (by decide) (wl_1 106 rfl rfl) u_X3 rfl
theorem f_X2_93 : Fl RX2 93 7 6 := Fl.of (ref := "AccentHouse$Lodger") (C := RX3) (T := TX3) (N := 7) rfl (by decide) (wl_1 125 rfl rfl) u_X3 rfl
theorem f_X2_96 : Fl RX2 96 4 0 := Fl.of (ref := "AccentHouse$Accent") (C := RX0) (T := TX0) (N := 1) rfl (by decide) (wl_1 90 rfl rfl) u_X0 rfl
theorem f_X2_104 : Fl RX2 104 7 2 := Fl.of (ref := "AccentHouse$Lodger") (C := RX3) (T := TX3) (N := 7) rfl (by decide) (wl_1 113 rfl rfl) u_X3 rfl
theorem f_X2_115 : Fl RX2 115 7 3 := Fl.of (ref := "AccentHouse$Lodger") (C := RX3) (T := TX3) (N := 7) rfl (by decide) (wl_1 116 rfl rfl) u_X3 rfl
theorem f_X2_118 : Fl RX2 118 7 4 := Fl.of (ref := "AccentHouse$Lodger") (C := RX3) (T := TX3) (N := 7) rfl (by decide) (wl_1 119 rfl rfl) u_X3 rfl
theorem f_X2_121 : Fl RX2 121 7 5 := Fl.of (ref := "AccentHouse$Lodger") (C := RX3) (T := TX3) (N := 7) rfl (by decide) (wl_1 122 rfl rfl) u_X3 rfl
theorem f_X3_9 : Fl RX3 9 7 0 := Fl.of (ref := "AccentHouse$Lodger") (C := RX3) (T := TX3) (N := 7) rfl (by decide) (wl_1 105 rfl rfl) u_X3 rfl
theorem f_X3_18 : Fl RX3 18 7 6 := Fl.of (ref := "AccentHouse$Lodger") (C := RX3) (T := TX3) (N := 7) rfl (by decide) (wl_1 124 rfl rfl) u_X3 rfl
theorem f_X3_22 : Fl RX3 22 7 1 := Fl.of (ref := "AccentHouse$Lodger") (C := RX3) (T := TX3) (N := 7) rfl (by decide) (wl_1 108 rfl rfl) u_X3 rfl
theorem f_X3_26 : Fl RX3 26 7 2 := Fl.of (ref := "AccentHouse$Lodger") (C := RX3) (T := TX3) (N := 7) rfl (by decide) (wl_1 112 rfl rfl) u_X3 rfl
theorem f_X3_29 : Fl RX3 29 7 3 := Fl.of (ref := "AccentHouse$Lodger") (C := RX3) (T := TX3) (N := 7) rfl (by decide) (wl_1 115 rfl rfl) u_X3 rfl
theorem f_X3_32 : Fl RX3 32 7 4 := Fl.of (ref := "AccentHouse$Lodger") (C := RX3) (T := TX3) (N := 7) rfl (by decide) (wl_1 118 rfl rfl) u_X3 rfl
theorem f_X3_35 : Fl RX3 35 7 5 := Fl.of (ref := "AccentHouse$Lodger") (C := RX3) (T := TX3) (N := 7) rfl (by decide) (wl_1 121 rfl rfl) u_X3 rfl
theorem f_X4_12 : Fl RX4 12 8 2 := Fl.of (ref := "AccentHouse$Parser") (C := RX4) (T := TX4) (N := 5) rfl (by decide) (wl_1 224 rfl rfl) u_X4 rfl
theorem f_X4_18 : Fl RX4 18 8 4 := Fl.of (ref := "AccentHouse$Parser") (C := RX4) (T := TX4) (N := 5) rfl (by decide) (wl_1 228 rfl rfl) u_X4 rfl
theorem f_X4_22 : Fl RX4 22 8 0 := Fl.of (ref := "AccentHouse$Parser") (C := RX4) (T := TX4) (N := 5) rfl (by decide) (wl_1 222 rfl rfl) u_X4 rfl
theorem f_X4_31 : Fl RX4 31 8 1 := Fl.of (ref := "AccentHouse$Parser") (C := RX4) (T := TX4) (N := 5) rfl (by decide) (wl_1 223 rfl rfl) u_X4 rfl
theorem f_X4_35 : Fl RX4 35 8 3 := Fl.of (ref := "AccentHouse$Parser") (C := RX4) (T := TX4) (N := 5) rfl (by decide) (wl_1 226 rfl rfl) u_X4 rfl
theorem f_X4_45 : Fl RX4 45 9 3 := Fl.of (ref := "AccentHouse$Tokens") (C := RX6) (T := TX6) (N := 6) rfl (by decide) (wl_1 204 rfl rfl) u_X6 rfl
theorem f_X4_81 : Fl RX4 81 9 4 := Fl.of (ref := "AccentHouse$Tokens") (C := RX6) (T := TX6) (N := 6) rfl (by decide) (wl_1 205 rfl rfl) u_X6 rfl
theorem f_X4_105 : Fl RX4 105 6 8 := Fl.of (ref := "AccentHouse$House") (C := RX2) (T := TX2) (N := 11) rfl (by decide) (wl_1 160 rfl rfl) u_X2 rfl
theorem f_X4_117 : Fl RX4 117 6 7 := Fl.of (ref := "AccentHouse$House") (C := RX2) (T := TX2) (N := 11) rfl (by decide) (wl_1 157 rfl rfl) u_X2 rfl
theorem f_X4_124 : Fl RX4 124 9 5 := Fl.of (ref := "AccentHouse$Tokens") (C := RX6) (T := TX6) (N := 6) rfl (by decide) (wl_1 208 rfl rfl) u_X6 rfl
theorem f_X4_151 : Fl RX4 151 7 1 := Fl.of (ref := "AccentHouse$Lodger") (C := RX3) (T := TX3) (N := 7) rfl (by decide) (wl_1 110 rfl rfl) u_X3 rfl
theorem f_X4_165 : Fl RX4 165 6 9 := Fl.of (ref := "AccentHouse$House") (C := RX2) (T := TX2) (N := 11) rfl (by decide) (wl_1 163 rfl rfl) u_X2 rfl
theorem f_X6_10 : Fl RX6 10 9 1 := Fl.of (ref := "AccentHouse$Tokens") (C := RX6) (T := TX6) (N := 6) rfl (by decide) (wl_1 201 rfl rfl) u_X6 rfl
theorem f_X6_22 : Fl RX6 22 9 3 := Fl.of (ref := "AccentHouse$Tokens") (C := RX6) (T := TX6) (N := 6) rfl (by decide) (wl_1 203 rfl rfl) u_X6 rfl
theorem f_X6_25 : Fl RX6 25 9 0 := Fl.of (ref := "AccentHouse$Tokens") (C := RX6) (T := TX6) (N := 6) rfl (by decide) (wl_1 200 rfl rfl) u_X6 rfl
theorem f_X6_35 : Fl RX6 35 9 2 := Fl.of (ref := "AccentHouse$Tokens") (C := RX6) (T := TX6) (N := 6) rfl (by decide) (wl_1 202 rfl rfl) u_X6 rfl
theorem f_X6_42 : Fl RX6 42 9 5 := Fl.of (ref := "AccentHouse$Tokens") (C := RX6) (T := TX6) (N := 6) rfl (by decide) (wl_1 207 rfl rfl) u_X6 rfl
theorem f_X6_54 : Fl RX6 54 9 4 := Fl.of (ref := "AccentHouse$Tokens") (C := RX6) (T := TX6) (N := 6) rfl (by decide) (wl_1 206 rfl rfl) u_X6 rfl
theorem f_J0_9 : Fl RJ0 9 0 0 := Fl.of (ref := "java/lang/String") (C := RJ0) (T := TJ0) (N := 4) rfl (by decide) (wl_3 192 rfl rfl) u_J0 rfl
theorem f_J0_15 : Fl RJ0 15 0 1 := Fl.of (ref := "java/lang/String") (C := RJ0) (T := TJ0) (N := 4) rfl (by decide) (wl_3 193 rfl rfl) u_J0 rfl
abbrev MX7_init : Mr := (RX7, yX7_init, cX7_init, 2, none)
theorem k_X7_init : Cd MX7_init ∈ wl := wl_1 33 rfl rfl
theorem n_X7_init : nMH MX7_init 0 := ⟨⟨by decide +kernel, by decide +kernel⟩, by decide +kernel, by decide⟩
abbrev MJ4_init_da8c8 : Mr := (RJ4, yJ4_init_da8c8, cJ4_init_da8c8, 1, none)
theorem k_J4_init_da8c8 : Cd MJ4_init_da8c8 ∈ wl := wl_1 41 rfl rfl
theorem n_J4_init_da8c8 : nMH MJ4_init_da8c8 0 := ⟨⟨by decide +kernel, by decide +kernel⟩, by decide +kernel, by decide⟩
abbrev MJ5_init_d00df : Mr := (RJ5, yJ5_init_d00df, cJ5_init_d00df, 2, none)
theorem k_J5_init_d00df : Cd MJ5_init_d00df ∈ wl := wl_1 44 rfl rfl
theorem n_J5_init_d00df : nMH MJ5_init_d00df 1 := ⟨⟨by decide +kernel, by decide +kernel⟩, by decide +kernel, by decide⟩
abbrev MJ2_newBytesFor_77867 : Mr := (RJ2, yJ2_newBytesFor_77867, cJ2_newBytesFor_77867, 1, some (.array .byte))
theorem k_J2_newBytesFor_77867 : Cd MJ2_newBytesFor_77867 ∈ wl := wl_1 50 rfl rfl
theorem n_J2_newBytesFor_77867 : nMH MJ2_newBytesFor_77867 1 := ⟨⟨by decide +kernel, by decide +kernel⟩, by decide +kernel, by decide⟩
abbrev MJ2_newBytesLength_0f7a4 : Mr := (RJ2, yJ2_newBytesLength_0f7a4, cJ2_newBytesLength_0f7a4, 1, some .int)
theorem k_J2_newBytesLength_0f7a4 : Cd MJ2_newBytesLength_0f7a4 ∈ wl := wl_1 53 rfl rfl
theorem n_J2_newBytesLength_0f7a4 : nMH MJ2_newBytesLength_0f7a4 1 := ⟨⟨by decide +kernel, by decide +kernel⟩, by decide +kernel, by decide⟩
abbrev MX4_init : Mr := (RX4, yX4_init, cX4_init, 2, none)
theorem k_X4_init : Cd MX4_init ∈ wl := wl_1 74 rfl rfl
theorem n_X4_init : nMH MX4_init 1 := ⟨⟨by decide +kernel, by decide +kernel⟩, by decide +kernel, by decide⟩
abbrev MX2_init : Mr := (RX2, yX2_init, cX2_init, 2, none)
theorem k_X2_init : Cd MX2_init ∈ wl := wl_1 80 rfl rfl
theorem n_X2_init : nMH MX2_init 0 := ⟨⟨by decide +kernel, by decide +kernel⟩, by decide +kernel, by decide⟩
abbrev MX0_init : Mr := (RX0, yX0_init, cX0_init, 1, none)
theorem k_X0_init : Cd MX0_init ∈ wl := wl_1 86 rfl rfl
theorem n_X0_init : nMH MX0_init 0 := ⟨⟨by decide +kernel, by decide +kernel⟩, by decide +kernel, by decide⟩
abbrev MX3_init : Mr := (RX3, yX3_init, cX3_init, 1, none)
theorem k_X3_init : Cd MX3_init ∈ wl := wl_1 100 rfl rfl
theorem n_X3_init : nMH MX3_init 0 := ⟨⟨by decide +kernel, by decide +kernel⟩, by decide +kernel, by decide⟩
abbrev MX6_init : Mr := (RX6, yX6_init, cX6_init, 2, none)
theorem k_X6_init : Cd MX6_init ∈ wl := wl_1 194 rfl rfl
theorem n_X6_init : nMH MX6_init 1 := ⟨⟨by decide +kernel, by decide +kernel⟩, by decide +kernel, by decide⟩
abbrev MX1_init : Mr := (RX1, yX1_init, cX1_init, 2, none)
theorem k_X1_init : Cd MX1_init ∈ wl := wl_2 7 rfl rfl
theorem n_X1_init : nMH MX1_init 0 := ⟨⟨by decide +kernel, by decide +kernel⟩, by decide +kernel, by decide⟩
abbrev MJ0_length_8abf5 : Mr := (RJ0, yJ0_length_8abf5, cJ0_length_8abf5, 1, some .int)
theorem k_J0_length_8abf5 : Cd MJ0_length_8abf5 ∈ wl := wl_2 27 rfl rfl
theorem n_J0_length_8abf5 : nMH MJ0_length_8abf5 0 := ⟨⟨by decide +kernel, by decide +kernel⟩, by decide +kernel, by decide⟩
abbrev MJ0_coder_7d493 : Mr := (RJ0, yJ0_coder_7d493, cJ0_coder_7d493, 1, some .byte)
theorem k_J0_coder_7d493 : Cd MJ0_coder_7d493 ∈ wl := wl_2 31 rfl rfl
theorem n_J0_coder_7d493 : nMH MJ0_coder_7d493 0 := ⟨⟨by decide +kernel, by decide +kernel⟩, by decide +kernel, by decide⟩
abbrev MJ0_charAt_5068e : Mr := (RJ0, yJ0_charAt_5068e, cJ0_charAt_5068e, 2, some .char)
theorem k_J0_charAt_5068e : Cd MJ0_charAt_5068e ∈ wl := wl_2 36 rfl rfl
theorem n_J0_charAt_5068e : nMH MJ0_charAt_5068e 1 := ⟨⟨by decide +kernel, by decide +kernel⟩, by decide +kernel, by decide⟩
abbrev MJ0_isLatin1_aae02 : Mr := (RJ0, yJ0_isLatin1_aae02, cJ0_isLatin1_aae02, 1, some .boolean)
theorem k_J0_isLatin1_aae02 : Cd MJ0_isLatin1_aae02 ∈ wl := wl_2 40 rfl rfl
theorem n_J0_isLatin1_aae02 : nMH MJ0_isLatin1_aae02 0 := ⟨⟨by decide +kernel, by decide +kernel⟩, by decide +kernel, by decide⟩
abbrev MJ1_charAt_3b067 : Mr := (RJ1, yJ1_charAt_3b067, cJ1_charAt_3b067, 2, some .char)
theorem k_J1_charAt_3b067 : Cd MJ1_charAt_3b067 ∈ wl := wl_2 43 rfl rfl
theorem n_J1_charAt_3b067 : nMH MJ1_charAt_3b067 2 := ⟨⟨by decide +kernel, by decide +kernel⟩, by decide +kernel, by decide⟩
abbrev MJ0_checkIndex_df160 : Mr := (RJ0, yJ0_checkIndex_df160, cJ0_checkIndex_df160, 2, none)
theorem k_J0_checkIndex_df160 : Cd MJ0_checkIndex_df160 ∈ wl := wl_2 46 rfl rfl
theorem n_J0_checkIndex_df160 : nMH MJ0_checkIndex_df160 2 := ⟨⟨by decide +kernel, by decide +kernel⟩, by decide +kernel, by decide⟩
abbrev MJ3_checkIndex_8e157 : Mr := (RJ3, yJ3_checkIndex_8e157, cJ3_checkIndex_8e157, 3, some .int)
theorem k_J3_checkIndex_8e157 : Cd MJ3_checkIndex_8e157 ∈ wl := wl_2 51 rfl rfl
theorem n_J3_checkIndex_8e157 : nMH MJ3_checkIndex_8e157 3 := ⟨⟨by decide +kernel, by decide +kernel⟩, by decide +kernel, by decide⟩
abbrev MJ2_charAt_3b067 : Mr := (RJ2, yJ2_charAt_3b067, cJ2_charAt_3b067, 2, some .char)
theorem k_J2_charAt_3b067 : Cd MJ2_charAt_3b067 ∈ wl := wl_2 54 rfl rfl
theorem n_J2_charAt_3b067 : nMH MJ2_charAt_3b067 2 := ⟨⟨by decide +kernel, by decide +kernel⟩, by decide +kernel, by decide⟩
abbrev MJ2_checkIndex_2214a : Mr := (RJ2, yJ2_checkIndex_2214a, cJ2_checkIndex_2214a, 2, none)
theorem k_J2_checkIndex_2214a : Cd MJ2_checkIndex_2214a ∈ wl := wl_2 57 rfl rfl
theorem n_J2_checkIndex_2214a : nMH MJ2_checkIndex_2214a 2 := ⟨⟨by decide +kernel, by decide +kernel⟩, by decide +kernel, by decide⟩
abbrev MJ2_length_9d52b : Mr := (RJ2, yJ2_length_9d52b, cJ2_length_9d52b, 1, some .int)
theorem k_J2_length_9d52b : Cd MJ2_length_9d52b ∈ wl := wl_2 60 rfl rfl
theorem n_J2_length_9d52b : nMH MJ2_length_9d52b 1 := ⟨⟨by decide +kernel, by decide +kernel⟩, by decide +kernel, by decide⟩
abbrev MJ2_getChar_3b067 : Mr := (RJ2, yJ2_getChar_3b067, cJ2_getChar_3b067, 2, some .char)
theorem k_J2_getChar_3b067 : Cd MJ2_getChar_3b067 ∈ wl := wl_2 64 rfl rfl
theorem n_J2_getChar_3b067 : nMH MJ2_getChar_3b067 2 := ⟨⟨by decide +kernel, by decide +kernel⟩, by decide +kernel, by decide⟩
abbrev MX4_read : Mr := (RX4, yX4_read, cX4_read, 3, none)
theorem k_X4_read : Cd MX4_read ∈ wl := wl_2 74 rfl rfl
theorem n_X4_read : nMH MX4_read 1 := ⟨⟨by decide +kernel, by decide +kernel⟩, by decide +kernel, by decide⟩
abbrev MX6_restart : Mr := (RX6, yX6_restart, cX6_restart, 2, none)
theorem k_X6_restart : Cd MX6_restart ∈ wl := wl_2 78 rfl rfl
theorem n_X6_restart : nMH MX6_restart 1 := ⟨⟨by decide +kernel, by decide +kernel⟩, by decide +kernel, by decide⟩
abbrev MJ9_min_7cf53 : Mr := (RJ9, yJ9_min_7cf53, cJ9_min_7cf53, 2, some .int)
theorem k_J9_min_7cf53 : Cd MJ9_min_7cf53 ∈ wl := wl_2 81 rfl rfl
theorem n_J9_min_7cf53 : nMH MJ9_min_7cf53 2 := ⟨⟨by decide +kernel, by decide +kernel⟩, by decide +kernel, by decide⟩
abbrev MX6_step : Mr := (RX6, yX6_step, cX6_step, 3, none)
theorem k_X6_step : Cd MX6_step ∈ wl := wl_2 87 rfl rfl
theorem n_X6_step : nMH MX6_step 0 := ⟨⟨by decide +kernel, by decide +kernel⟩, by decide +kernel, by decide⟩
abbrev MX6_isLetter : Mr := (RX6, yX6_isLetter, cX6_isLetter, 1, some .boolean)
theorem k_X6_isLetter : Cd MX6_isLetter ∈ wl := wl_2 94 rfl rfl
theorem n_X6_isLetter : nMH MX6_isLetter 1 := ⟨⟨by decide +kernel, by decide +kernel⟩, by decide +kernel, by decide⟩
abbrev MX6_isDigit : Mr := (RX6, yX6_isDigit, cX6_isDigit, 1, some .boolean)
theorem k_X6_isDigit : Cd MX6_isDigit ∈ wl := wl_2 99 rfl rfl
theorem n_X6_isDigit : nMH MX6_isDigit 1 := ⟨⟨by decide +kernel, by decide +kernel⟩, by decide +kernel, by decide⟩
abbrev MX4_readHeader : Mr := (RX4, yX4_readHeader, cX4_readHeader, 3, none)
theorem k_X4_readHeader : Cd MX4_readHeader ∈ wl := wl_2 103 rfl rfl
theorem n_X4_readHeader : nMH MX4_readHeader 0 := ⟨⟨by decide +kernel, by decide +kernel⟩, by decide +kernel, by decide⟩
abbrev MX4_expectWord : Mr := (RX4, yX4_expectWord, cX4_expectWord, 2, none)
theorem k_X4_expectWord : Cd MX4_expectWord ∈ wl := wl_2 108 rfl rfl
theorem n_X4_expectWord : nMH MX4_expectWord 1 := ⟨⟨by decide +kernel, by decide +kernel⟩, by decide +kernel, by decide⟩
abbrev MX6_isWord : Mr := (RX6, yX6_isWord, cX6_isWord, 3, some .boolean)
theorem k_X6_isWord : Cd MX6_isWord ∈ wl := wl_2 112 rfl rfl
theorem n_X6_isWord : nMH MX6_isWord 1 := ⟨⟨by decide +kernel, by decide +kernel⟩, by decide +kernel, by decide⟩
abbrev MX6_size : Mr := (RX6, yX6_size, cX6_size, 1, some .int)
theorem k_X6_size : Cd MX6_size ∈ wl := wl_2 116 rfl rfl
theorem n_X6_size : nMH MX6_size 0 := ⟨⟨by decide +kernel, by decide +kernel⟩, by decide +kernel, by decide⟩
abbrev MX4_fail : Mr := (RX4, yX4_fail, cX4_fail, 3, none)
theorem k_X4_fail : Cd MX4_fail ∈ wl := wl_2 123 rfl rfl
theorem n_X4_fail : nMH MX4_fail 2 := ⟨⟨by decide +kernel, by decide +kernel⟩, by decide +kernel, by decide⟩
abbrev MX4_readNumber : Mr := (RX4, yX4_readNumber, cX4_readNumber, 4, some .int)
theorem k_X4_readNumber : Cd MX4_readNumber ∈ wl := wl_2 127 rfl rfl
theorem n_X4_readNumber : nMH MX4_readNumber 2 := ⟨⟨by decide +kernel, by decide +kernel⟩, by decide +kernel, by decide⟩
abbrev MX6_value : Mr := (RX6, yX6_value, cX6_value, 3, some .int)
theorem k_X6_value : Cd MX6_value ∈ wl := wl_2 133 rfl rfl
theorem n_X6_value : nMH MX6_value 0 := ⟨⟨by decide +kernel, by decide +kernel⟩, by decide +kernel, by decide⟩
abbrev MX2_open : Mr := (RX2, yX2_open, cX2_open, 3, none)
theorem k_X2_open : Cd MX2_open ∈ wl := wl_2 139 rfl rfl
theorem n_X2_open : nMH MX2_open 2 := ⟨⟨by decide +kernel, by decide +kernel⟩, by decide +kernel, by decide⟩
abbrev MX4_readAccent : Mr := (RX4, yX4_readAccent, cX4_readAccent, 3, some .int)
theorem k_X4_readAccent : Cd MX4_readAccent ∈ wl := wl_2 143 rfl rfl
theorem n_X4_readAccent : nMH MX4_readAccent 0 := ⟨⟨by decide +kernel, by decide +kernel⟩, by decide +kernel, by decide⟩
abbrev MX0_setDigits : Mr := (RX0, yX0_setDigits, cX0_setDigits, 4, none)
theorem k_X0_setDigits : Cd MX0_setDigits ∈ wl := wl_2 147 rfl rfl
theorem n_X0_setDigits : nMH MX0_setDigits 1 := ⟨⟨by decide +kernel, by decide +kernel⟩, by decide +kernel, by decide⟩
abbrev MX4_readLodger : Mr := (RX4, yX4_readLodger, cX4_readLodger, 5, none)
theorem k_X4_readLodger : Cd MX4_readLodger ∈ wl := wl_2 152 rfl rfl
theorem n_X4_readLodger : nMH MX4_readLodger 0 := ⟨⟨by decide +kernel, by decide +kernel⟩, by decide +kernel, by decide⟩
abbrev MX4_isAtName : Mr := (RX4, yX4_isAtName, cX4_isAtName, 1, some .boolean)
theorem k_X4_isAtName : Cd MX4_isAtName ∈ wl := wl_2 156 rfl rfl
theorem n_X4_isAtName : nMH MX4_isAtName 0 := ⟨⟨by decide +kernel, by decide +kernel⟩, by decide +kernel, by decide⟩
abbrev MX2_numberOf : Mr := (RX2, yX2_numberOf, cX2_numberOf, 5, some .int)
theorem k_X2_numberOf : Cd MX2_numberOf ∈ wl := wl_2 161 rfl rfl
theorem n_X2_numberOf : nMH MX2_numberOf 3 := ⟨⟨by decide +kernel, by decide +kernel⟩, by decide +kernel, by decide⟩
abbrev MX3_isNamed : Mr := (RX3, yX3_isNamed, cX3_isNamed, 5, some .boolean)
theorem k_X3_isNamed : Cd MX3_isNamed ∈ wl := wl_2 165 rfl rfl
theorem n_X3_isNamed : nMH MX3_isNamed 3 := ⟨⟨by decide +kernel, by decide +kernel⟩, by decide +kernel, by decide⟩
abbrev MX6_word : Mr := (RX6, yX6_word, cX6_word, 2, some (.object "java/lang/String"))
theorem k_X6_word : Cd MX6_word ∈ wl := wl_2 171 rfl rfl
theorem n_X6_word : nMH MX6_word 0 := ⟨⟨by decide +kernel, by decide +kernel⟩, by decide +kernel, by decide⟩
abbrev MJ4_setLength_d00df : Mr := (RJ4, yJ4_setLength_d00df, cJ4_setLength_d00df, 2, none)
theorem k_J4_setLength_d00df : Cd MJ4_setLength_d00df ∈ wl := wl_2 175 rfl rfl
theorem n_J4_setLength_d00df : nMH MJ4_setLength_d00df 1 := ⟨⟨by decide +kernel, by decide +kernel⟩, by decide +kernel, by decide⟩
abbrev MJ5_setLength_d00df : Mr := (RJ5, yJ5_setLength_d00df, cJ5_setLength_d00df, 2, none)
theorem k_J5_setLength_d00df : Cd MJ5_setLength_d00df ∈ wl := wl_2 178 rfl rfl
theorem n_J5_setLength_d00df : nMH MJ5_setLength_d00df 1 := ⟨⟨by decide +kernel, by decide +kernel⟩, by decide +kernel, by decide⟩
abbrev MJx7c733_init_d00df : Mr := (RJx7c733, yJx7c733_init_d00df, cJx7c733_init_d00df, 2, none)
theorem k_Jx7c733_init_d00df : Cd MJx7c733_init_d00df ∈ wl := wl_2 183 rfl rfl
theorem n_Jx7c733_init_d00df : nMH MJx7c733_init_d00df 1 := ⟨⟨by decide +kernel, by decide +kernel⟩, by decide +kernel, by decide⟩
abbrev MJ4_append_15ec4 : Mr := (RJ4, yJ4_append_15ec4, cJ4_append_15ec4, 2, some (.object "java/lang/StringBuilder"))
theorem k_J4_append_15ec4 : Cd MJ4_append_15ec4 ∈ wl := wl_2 190 rfl rfl
theorem n_J4_append_15ec4 : nMH MJ4_append_15ec4 1 := ⟨⟨by decide +kernel, by decide +kernel⟩, by decide +kernel, by decide⟩
abbrev MJ5_append_cf1ce : Mr := (RJ5, yJ5_append_cf1ce, cJ5_append_cf1ce, 3, some (.object "java/lang/AbstractStringBuilder"))
theorem k_J5_append_cf1ce : Cd MJ5_append_cf1ce ∈ wl := wl_2 193 rfl rfl
theorem n_J5_append_cf1ce : nMH MJ5_append_cf1ce 1 := ⟨⟨by decide +kernel, by decide +kernel⟩, by decide +kernel, by decide⟩
abbrev MJ5_appendNull_278bc : Mr := (RJ5, yJ5_appendNull_278bc, cJ5_appendNull_278bc, 3, some (.object "java/lang/AbstractStringBuilder"))
theorem k_J5_appendNull_278bc : Cd MJ5_appendNull_278bc ∈ wl := wl_2 197 rfl rfl
theorem n_J5_appendNull_278bc : nMH MJ5_appendNull_278bc 0 := ⟨⟨by decide +kernel, by decide +kernel⟩, by decide +kernel, by decide⟩
abbrev MJ5_ensureCapacityInternal_d00df : Mr := (RJ5, yJ5_ensureCapacityInternal_d00df, cJ5_ensureCapacityInternal_d00df, 3, none)
theorem k_J5_ensureCapacityInternal_d00df : Cd MJ5_ensureCapacityInternal_d00df ∈ wl := wl_2 201 rfl rfl
theorem n_J5_ensureCapacityInternal_d00df : nMH MJ5_ensureCapacityInternal_d00df 1 := ⟨⟨by decide +kernel, by decide +kernel⟩, by decide +kernel, by decide⟩
abbrev MJ5_newCapacity_0f7a4 : Mr := (RJ5, yJ5_newCapacity_0f7a4, cJ5_newCapacity_0f7a4, 6, some .int)
theorem k_J5_newCapacity_0f7a4 : Cd MJ5_newCapacity_0f7a4 ∈ wl := wl_2 205 rfl rfl
theorem n_J5_newCapacity_0f7a4 : nMH MJ5_newCapacity_0f7a4 1 := ⟨⟨by decide +kernel, by decide +kernel⟩, by decide +kernel, by decide⟩
abbrev MJ8_newLength_cabcc : Mr := (RJ8, yJ8_newLength_cabcc, cJ8_newLength_cabcc, 4, some .int)
theorem k_J8_newLength_cabcc : Cd MJ8_newLength_cabcc ∈ wl := wl_2 208 rfl rfl
theorem n_J8_newLength_cabcc : nMH MJ8_newLength_cabcc 3 := ⟨⟨by decide +kernel, by decide +kernel⟩, by decide +kernel, by decide⟩
abbrev MJ9_max_7cf53 : Mr := (RJ9, yJ9_max_7cf53, cJ9_max_7cf53, 2, some .int)
theorem k_J9_max_7cf53 : Cd MJ9_max_7cf53 ∈ wl := wl_2 211 rfl rfl
theorem n_J9_max_7cf53 : nMH MJ9_max_7cf53 2 := ⟨⟨by decide +kernel, by decide +kernel⟩, by decide +kernel, by decide⟩
abbrev MJ8_hugeLength_7cf53 : Mr := (RJ8, yJ8_hugeLength_7cf53, cJ8_hugeLength_7cf53, 3, some .int)
theorem k_J8_hugeLength_7cf53 : Cd MJ8_hugeLength_7cf53 ∈ wl := wl_2 215 rfl rfl
theorem n_J8_hugeLength_7cf53 : nMH MJ8_hugeLength_7cf53 2 := ⟨⟨by decide +kernel, by decide +kernel⟩, by decide +kernel, by decide⟩
abbrev MJ7_copyOf_9075b : Mr := (RJ7, yJ7_copyOf_9075b, cJ7_copyOf_9075b, 3, some (.array .byte))
theorem k_J7_copyOf_9075b : Cd MJ7_copyOf_9075b ∈ wl := wl_2 219 rfl rfl
theorem n_J7_copyOf_9075b : nMH MJ7_copyOf_9075b 2 := ⟨⟨by decide +kernel, by decide +kernel⟩, by decide +kernel, by decide⟩
abbrev MJ5_isLatin1_aae02 : Mr := (RJ5, yJ5_isLatin1_aae02, cJ5_isLatin1_aae02, 1, some .boolean)
theorem k_J5_isLatin1_aae02 : Cd MJ5_isLatin1_aae02 ∈ wl := wl_2 235 rfl rfl
theorem n_J5_isLatin1_aae02 : nMH MJ5_isLatin1_aae02 0 := ⟨⟨by decide +kernel, by decide +kernel⟩, by decide +kernel, by decide⟩
abbrev MJ2_putCharsAt_cd4e5 : Mr := (RJ2, yJ2_putCharsAt_cd4e5, cJ2_putCharsAt_cd4e5, 7, some .int)
theorem k_J2_putCharsAt_cd4e5 : Cd MJ2_putCharsAt_cd4e5 ∈ wl := wl_2 238 rfl rfl
theorem n_J2_putCharsAt_cd4e5 : nMH MJ2_putCharsAt_cd4e5 6 := ⟨⟨by decide +kernel, by decide +kernel⟩, by decide +kernel, by decide⟩
abbrev MJ2_checkBoundsBeginEnd_d044e : Mr := (RJ2, yJ2_checkBoundsBeginEnd_d044e, cJ2_checkBoundsBeginEnd_d044e, 3, none)
theorem k_J2_checkBoundsBeginEnd_d044e : Cd MJ2_checkBoundsBeginEnd_d044e ∈ wl := wl_3 1 rfl rfl
theorem n_J2_checkBoundsBeginEnd_d044e : nMH MJ2_checkBoundsBeginEnd_d044e 3 := ⟨⟨by decide +kernel, by decide +kernel⟩, by decide +kernel, by decide⟩
abbrev MJ0_checkBoundsBeginEnd_23922 : Mr := (RJ0, yJ0_checkBoundsBeginEnd_23922, cJ0_checkBoundsBeginEnd_23922, 3, none)
theorem k_J0_checkBoundsBeginEnd_23922 : Cd MJ0_checkBoundsBeginEnd_23922 ∈ wl := wl_3 4 rfl rfl
theorem n_J0_checkBoundsBeginEnd_23922 : nMH MJ0_checkBoundsBeginEnd_23922 3 := ⟨⟨by decide +kernel, by decide +kernel⟩, by decide +kernel, by decide⟩
abbrev MJ3_checkFromToIndex_8c36e : Mr := (RJ3, yJ3_checkFromToIndex_8c36e, cJ3_checkFromToIndex_8c36e, 4, some .int)
theorem k_J3_checkFromToIndex_8c36e : Cd MJ3_checkFromToIndex_8c36e ∈ wl := wl_3 7 rfl rfl
theorem n_J3_checkFromToIndex_8c36e : nMH MJ3_checkFromToIndex_8c36e 4 := ⟨⟨by decide +kernel, by decide +kernel⟩, by decide +kernel, by decide⟩
abbrev MJ2_putChar_b72d1 : Mr := (RJ2, yJ2_putChar_b72d1, cJ2_putChar_b72d1, 3, none)
theorem k_J2_putChar_b72d1 : Cd MJ2_putChar_b72d1 ∈ wl := wl_3 10 rfl rfl
theorem n_J2_putChar_b72d1 : nMH MJ2_putChar_b72d1 3 := ⟨⟨by decide +kernel, by decide +kernel⟩, by decide +kernel, by decide⟩
abbrev MJ5_putStringAt_47b60 : Mr := (RJ5, yJ5_putStringAt_47b60, cJ5_putStringAt_47b60, 3, none)
theorem k_J5_putStringAt_47b60 : Cd MJ5_putStringAt_47b60 ∈ wl := wl_3 15 rfl rfl
theorem n_J5_putStringAt_47b60 : nMH MJ5_putStringAt_47b60 2 := ⟨⟨by decide +kernel, by decide +kernel⟩, by decide +kernel, by decide⟩
abbrev MJ5_inflateIfNeededFor_a7421 : Mr := (RJ5, yJ5_inflateIfNeededFor_a7421, cJ5_inflateIfNeededFor_a7421, 2, none)
theorem k_J5_inflateIfNeededFor_a7421 : Cd MJ5_inflateIfNeededFor_a7421 ∈ wl := wl_3 19 rfl rfl
theorem n_J5_inflateIfNeededFor_a7421 : nMH MJ5_inflateIfNeededFor_a7421 1 := ⟨⟨by decide +kernel, by decide +kernel⟩, by decide +kernel, by decide⟩
abbrev MJ5_inflate_da8c8 : Mr := (RJ5, yJ5_inflate_da8c8, cJ5_inflate_da8c8, 2, none)
theorem k_J5_inflate_da8c8 : Cd MJ5_inflate_da8c8 ∈ wl := wl_3 24 rfl rfl
theorem n_J5_inflate_da8c8 : nMH MJ5_inflate_da8c8 0 := ⟨⟨by decide +kernel, by decide +kernel⟩, by decide +kernel, by decide⟩
abbrev MJ1_inflate_0e8fd : Mr := (RJ1, yJ1_inflate_0e8fd, cJ1_inflate_0e8fd, 5, none)
theorem k_J1_inflate_0e8fd : Cd MJ1_inflate_0e8fd ∈ wl := wl_3 27 rfl rfl
theorem n_J1_inflate_0e8fd : nMH MJ1_inflate_0e8fd 5 := ⟨⟨by decide +kernel, by decide +kernel⟩, by decide +kernel, by decide⟩
abbrev MJ2_inflate_0e8fd : Mr := (RJ2, yJ2_inflate_0e8fd, cJ2_inflate_0e8fd, 6, none)
theorem k_J2_inflate_0e8fd : Cd MJ2_inflate_0e8fd ∈ wl := wl_3 30 rfl rfl
theorem n_J2_inflate_0e8fd : nMH MJ2_inflate_0e8fd 5 := ⟨⟨by decide +kernel, by decide +kernel⟩, by decide +kernel, by decide⟩
abbrev MJ2_checkBoundsOffCount_d044e : Mr := (RJ2, yJ2_checkBoundsOffCount_d044e, cJ2_checkBoundsOffCount_d044e, 3, none)
theorem k_J2_checkBoundsOffCount_d044e : Cd MJ2_checkBoundsOffCount_d044e ∈ wl := wl_3 33 rfl rfl
theorem n_J2_checkBoundsOffCount_d044e : nMH MJ2_checkBoundsOffCount_d044e 3 := ⟨⟨by decide +kernel, by decide +kernel⟩, by decide +kernel, by decide⟩
abbrev MJ0_checkBoundsOffCount_cabcc : Mr := (RJ0, yJ0_checkBoundsOffCount_cabcc, cJ0_checkBoundsOffCount_cabcc, 3, some .int)
theorem k_J0_checkBoundsOffCount_cabcc : Cd MJ0_checkBoundsOffCount_cabcc ∈ wl := wl_3 36 rfl rfl
theorem n_J0_checkBoundsOffCount_cabcc : nMH MJ0_checkBoundsOffCount_cabcc 3 := ⟨⟨by decide +kernel, by decide +kernel⟩, by decide +kernel, by decide⟩
abbrev MJ3_checkFromIndexSize_8c36e : Mr := (RJ3, yJ3_checkFromIndexSize_8c36e, cJ3_checkFromIndexSize_8c36e, 4, some .int)
theorem k_J3_checkFromIndexSize_8c36e : Cd MJ3_checkFromIndexSize_8c36e ∈ wl := wl_3 39 rfl rfl
theorem n_J3_checkFromIndexSize_8c36e : nMH MJ3_checkFromIndexSize_8c36e 4 := ⟨⟨by decide +kernel, by decide +kernel⟩, by decide +kernel, by decide⟩
abbrev MJ0_getBytes_840e7 : Mr := (RJ0, yJ0_getBytes_840e7, cJ0_getBytes_840e7, 4, none)
theorem k_J0_getBytes_840e7 : Cd MJ0_getBytes_840e7 ∈ wl := wl_3 43 rfl rfl
theorem n_J0_getBytes_840e7 : nMH MJ0_getBytes_840e7 3 := ⟨⟨by decide +kernel, by decide +kernel⟩, by decide +kernel, by decide⟩
abbrev MJ4_append_bf812 : Mr := (RJ4, yJ4_append_bf812, cJ4_append_bf812, 2, some (.object "java/lang/StringBuilder"))
theorem k_J4_append_bf812 : Cd MJ4_append_bf812 ∈ wl := wl_3 49 rfl rfl
theorem n_J4_append_bf812 : nMH MJ4_append_bf812 1 := ⟨⟨by decide +kernel, by decide +kernel⟩, by decide +kernel, by decide⟩
abbrev MJ5_append_c97b9 : Mr := (RJ5, yJ5_append_c97b9, cJ5_append_c97b9, 4, some (.object "java/lang/AbstractStringBuilder"))
theorem k_J5_append_c97b9 : Cd MJ5_append_c97b9 ∈ wl := wl_3 52 rfl rfl
theorem n_J5_append_c97b9 : nMH MJ5_append_c97b9 1 := ⟨⟨by decide +kernel, by decide +kernel⟩, by decide +kernel, by decide⟩
abbrev MJ6_stringSize_0f7a4 : Mr := (RJ6, yJ6_stringSize_0f7a4, cJ6_stringSize_0f7a4, 4, some .int)
theorem k_J6_stringSize_0f7a4 : Cd MJ6_stringSize_0f7a4 ∈ wl := wl_3 55 rfl rfl
theorem n_J6_stringSize_0f7a4 : nMH MJ6_stringSize_0f7a4 1 := ⟨⟨by decide +kernel, by decide +kernel⟩, by decide +kernel, by decide⟩
abbrev MJ6_getChars_ba4f3 : Mr := (RJ6, yJ6_getChars_ba4f3, cJ6_getChars_ba4f3, 7, some .int)
theorem k_J6_getChars_ba4f3 : Cd MJ6_getChars_ba4f3 ∈ wl := wl_3 58 rfl rfl
theorem n_J6_getChars_ba4f3 : nMH MJ6_getChars_ba4f3 3 := ⟨⟨by decide +kernel, by decide +kernel⟩, by decide +kernel, by decide⟩
abbrev MJ2_getChars_46870 : Mr := (RJ2, yJ2_getChars_46870, cJ2_getChars_46870, 5, some .int)
theorem k_J2_getChars_46870 : Cd MJ2_getChars_46870 ∈ wl := wl_3 65 rfl rfl
theorem n_J2_getChars_46870 : nMH MJ2_getChars_46870 4 := ⟨⟨by decide +kernel, by decide +kernel⟩, by decide +kernel, by decide⟩
abbrev MJ2_getChars_ba4f3 : Mr := (RJ2, yJ2_getChars_ba4f3, cJ2_getChars_ba4f3, 7, some .int)
theorem k_J2_getChars_ba4f3 : Cd MJ2_getChars_ba4f3 ∈ wl := wl_3 68 rfl rfl
theorem n_J2_getChars_ba4f3 : nMH MJ2_getChars_ba4f3 3 := ⟨⟨by decide +kernel, by decide +kernel⟩, by decide +kernel, by decide⟩
abbrev MJ4_toString_0e30d : Mr := (RJ4, yJ4_toString_0e30d, cJ4_toString_0e30d, 1, some (.object "java/lang/String"))
theorem k_J4_toString_0e30d : Cd MJ4_toString_0e30d ∈ wl := wl_3 74 rfl rfl
theorem n_J4_toString_0e30d : nMH MJ4_toString_0e30d 0 := ⟨⟨by decide +kernel, by decide +kernel⟩, by decide +kernel, by decide⟩
abbrev MJ0_init_81219 : Mr := (RJ0, yJ0_init_81219, cJ0_init_81219, 2, none)
theorem k_J0_init_81219 : Cd MJ0_init_81219 ∈ wl := wl_3 79 rfl rfl
theorem n_J0_init_81219 : nMH MJ0_init_81219 1 := ⟨⟨by decide +kernel, by decide +kernel⟩, by decide +kernel, by decide⟩
abbrev MJ0_init_db425 : Mr := (RJ0, yJ0_init_db425, cJ0_init_db425, 5, none)
theorem k_J0_init_db425 : Cd MJ0_init_db425 ∈ wl := wl_3 82 rfl rfl
theorem n_J0_init_db425 : nMH MJ0_init_db425 2 := ⟨⟨by decide +kernel, by decide +kernel⟩, by decide +kernel, by decide⟩
abbrev MJ5_getValue_6d5f1 : Mr := (RJ5, yJ5_getValue_6d5f1, cJ5_getValue_6d5f1, 1, some (.array .byte))
theorem k_J5_getValue_6d5f1 : Cd MJ5_getValue_6d5f1 ∈ wl := wl_3 88 rfl rfl
theorem n_J5_getValue_6d5f1 : nMH MJ5_getValue_6d5f1 0 := ⟨⟨by decide +kernel, by decide +kernel⟩, by decide +kernel, by decide⟩
abbrev MJ4_length_8abf5 : Mr := (RJ4, yJ4_length_8abf5, cJ4_length_8abf5, 1, some .int)
theorem k_J4_length_8abf5 : Cd MJ4_length_8abf5 ∈ wl := wl_3 94 rfl rfl
theorem n_J4_length_8abf5 : nMH MJ4_length_8abf5 0 := ⟨⟨by decide +kernel, by decide +kernel⟩, by decide +kernel, by decide⟩
abbrev MJ5_length_8abf5 : Mr := (RJ5, yJ5_length_8abf5, cJ5_length_8abf5, 1, some .int)
theorem k_J5_length_8abf5 : Cd MJ5_length_8abf5 ∈ wl := wl_3 96 rfl rfl
theorem n_J5_length_8abf5 : nMH MJ5_length_8abf5 0 := ⟨⟨by decide +kernel, by decide +kernel⟩, by decide +kernel, by decide⟩
abbrev MJ7_copyOfRange_39247 : Mr := (RJ7, yJ7_copyOfRange_39247, cJ7_copyOfRange_39247, 3, some (.array .byte))
theorem k_J7_copyOfRange_39247 : Cd MJ7_copyOfRange_39247 ∈ wl := wl_3 100 rfl rfl
theorem n_J7_copyOfRange_39247 : nMH MJ7_copyOfRange_39247 3 := ⟨⟨by decide +kernel, by decide +kernel⟩, by decide +kernel, by decide⟩
abbrev MJ7_copyOfRangeByte_39247 : Mr := (RJ7, yJ7_copyOfRangeByte_39247, cJ7_copyOfRangeByte_39247, 5, some (.array .byte))
theorem k_J7_copyOfRangeByte_39247 : Cd MJ7_copyOfRangeByte_39247 ∈ wl := wl_3 103 rfl rfl
theorem n_J7_copyOfRangeByte_39247 : nMH MJ7_copyOfRangeByte_39247 3 := ⟨⟨by decide +kernel, by decide +kernel⟩, by decide +kernel, by decide⟩
abbrev MJ7_checkLength_df160 : Mr := (RJ7, yJ7_checkLength_df160, cJ7_checkLength_df160, 2, none)
theorem k_J7_checkLength_df160 : Cd MJ7_checkLength_df160 ∈ wl := wl_3 106 rfl rfl
theorem n_J7_checkLength_df160 : nMH MJ7_checkLength_df160 2 := ⟨⟨by decide +kernel, by decide +kernel⟩, by decide +kernel, by decide⟩
abbrev MJ2_compress_39247 : Mr := (RJ2, yJ2_compress_39247, cJ2_compress_39247, 6, some (.array .byte))
theorem k_J2_compress_39247 : Cd MJ2_compress_39247 ∈ wl := wl_3 184 rfl rfl
theorem n_J2_compress_39247 : nMH MJ2_compress_39247 3 := ⟨⟨by decide +kernel, by decide +kernel⟩, by decide +kernel, by decide⟩
abbrev MJ2_compress_5af95 : Mr := (RJ2, yJ2_compress_5af95, cJ2_compress_5af95, 7, some .int)
theorem k_J2_compress_5af95 : Cd MJ2_compress_5af95 ∈ wl := wl_3 187 rfl rfl
theorem n_J2_compress_5af95 : nMH MJ2_compress_5af95 5 := ⟨⟨by decide +kernel, by decide +kernel⟩, by decide +kernel, by decide⟩
abbrev MJ2_coderFromArrayLen_85cad : Mr := (RJ2, yJ2_coderFromArrayLen_85cad, cJ2_coderFromArrayLen_85cad, 2, some .byte)
theorem k_J2_coderFromArrayLen_85cad : Cd MJ2_coderFromArrayLen_85cad ∈ wl := wl_3 191 rfl rfl
theorem n_J2_coderFromArrayLen_85cad : nMH MJ2_coderFromArrayLen_85cad 2 := ⟨⟨by decide +kernel, by decide +kernel⟩, by decide +kernel, by decide⟩
abbrev MJ1_fillNull_b72d1 : Mr := (RJ1, yJ1_fillNull_b72d1, cJ1_fillNull_b72d1, 3, none)
theorem k_J1_fillNull_b72d1 : Cd MJ1_fillNull_b72d1 ∈ wl := wl_3 216 rfl rfl
theorem n_J1_fillNull_b72d1 : nMH MJ1_fillNull_b72d1 3 := ⟨⟨by decide +kernel, by decide +kernel⟩, by decide +kernel, by decide⟩
abbrev MJ7_fill_eb02e : Mr := (RJ7, yJ7_fill_eb02e, cJ7_fill_eb02e, 5, none)
theorem k_J7_fill_eb02e : Cd MJ7_fill_eb02e ∈ wl := wl_3 219 rfl rfl
theorem n_J7_fill_eb02e : nMH MJ7_fill_eb02e 4 := ⟨⟨by decide +kernel, by decide +kernel⟩, by decide +kernel, by decide⟩
abbrev MJ7_rangeCheck_23922 : Mr := (RJ7, yJ7_rangeCheck_23922, cJ7_rangeCheck_23922, 3, none)
theorem k_J7_rangeCheck_23922 : Cd MJ7_rangeCheck_23922 ∈ wl := wl_3 222 rfl rfl
theorem n_J7_rangeCheck_23922 : nMH MJ7_rangeCheck_23922 3 := ⟨⟨by decide +kernel, by decide +kernel⟩, by decide +kernel, by decide⟩
abbrev MJx00060_init_d00df : Mr := (RJx00060, yJx00060_init_d00df, cJx00060_init_d00df, 2, none)
theorem k_Jx00060_init_d00df : Cd MJx00060_init_d00df ∈ wl := wl_3 239 rfl rfl
theorem n_Jx00060_init_d00df : nMH MJx00060_init_d00df 1 := ⟨⟨by decide +kernel, by decide +kernel⟩, by decide +kernel, by decide⟩
abbrev MJ2_fillNull_b72d1 : Mr := (RJ2, yJ2_fillNull_b72d1, cJ2_fillNull_b72d1, 3, none)
theorem k_J2_fillNull_b72d1 : Cd MJ2_fillNull_b72d1 ∈ wl := wl_4 11 rfl rfl
theorem n_J2_fillNull_b72d1 : nMH MJ2_fillNull_b72d1 3 := ⟨⟨by decide +kernel, by decide +kernel⟩, by decide +kernel, by decide⟩
abbrev MJ4_append_cf468 : Mr := (RJ4, yJ4_append_cf468, cJ4_append_cf468, 2, some (.object "java/lang/StringBuilder"))
theorem k_J4_append_cf468 : Cd MJ4_append_cf468 ∈ wl := wl_4 16 rfl rfl
theorem n_J4_append_cf468 : nMH MJ4_append_cf468 1 := ⟨⟨by decide +kernel, by decide +kernel⟩, by decide +kernel, by decide⟩
abbrev MJ5_append_3fe6f : Mr := (RJ5, yJ5_append_3fe6f, cJ5_append_3fe6f, 2, some (.object "java/lang/AbstractStringBuilder"))
theorem k_J5_append_3fe6f : Cd MJ5_append_3fe6f ∈ wl := wl_4 19 rfl rfl
theorem n_J5_append_3fe6f : nMH MJ5_append_3fe6f 1 := ⟨⟨by decide +kernel, by decide +kernel⟩, by decide +kernel, by decide⟩
abbrev MJ1_canEncode_fc78d : Mr := (RJ1, yJ1_canEncode_fc78d, cJ1_canEncode_fc78d, 1, some .boolean)
theorem k_J1_canEncode_fc78d : Cd MJ1_canEncode_fc78d ∈ wl := wl_4 22 rfl rfl
theorem n_J1_canEncode_fc78d : nMH MJ1_canEncode_fc78d 1 := ⟨⟨by decide +kernel, by decide +kernel⟩, by decide +kernel, by decide⟩
abbrev MJ2_putCharSB_b72d1 : Mr := (RJ2, yJ2_putCharSB_b72d1, cJ2_putCharSB_b72d1, 3, none)
theorem k_J2_putCharSB_b72d1 : Cd MJ2_putCharSB_b72d1 ∈ wl := wl_4 25 rfl rfl
theorem n_J2_putCharSB_b72d1 : nMH MJ2_putCharSB_b72d1 3 := ⟨⟨by decide +kernel, by decide +kernel⟩, by decide +kernel, by decide⟩
abbrev MX4_readFloor : Mr := (RX4, yX4_readFloor, cX4_readFloor, 4, some .int)
theorem k_X4_readFloor : Cd MX4_readFloor ∈ wl := wl_4 30 rfl rfl
theorem n_X4_readFloor : nMH MX4_readFloor 1 := ⟨⟨by decide +kernel, by decide +kernel⟩, by decide +kernel, by decide⟩
abbrev MX2_isFullFor : Mr := (RX2, yX2_isFullFor, cX2_isFullFor, 5, some .boolean)
theorem k_X2_isFullFor : Cd MX2_isFullFor ∈ wl := wl_4 34 rfl rfl
theorem n_X2_isFullFor : nMH MX2_isFullFor 2 := ⟨⟨by decide +kernel, by decide +kernel⟩, by decide +kernel, by decide⟩
abbrev MX2_receive : Mr := (RX2, yX2_receive, cX2_receive, 6, some .int)
theorem k_X2_receive : Cd MX2_receive ∈ wl := wl_4 38 rfl rfl
theorem n_X2_receive : nMH MX2_receive 4 := ⟨⟨by decide +kernel, by decide +kernel⟩, by decide +kernel, by decide⟩
abbrev MX4_readPay : Mr := (RX4, yX4_readPay, cX4_readPay, 3, none)
theorem k_X4_readPay : Cd MX4_readPay ∈ wl := wl_4 44 rfl rfl
theorem n_X4_readPay : nMH MX4_readPay 0 := ⟨⟨by decide +kernel, by decide +kernel⟩, by decide +kernel, by decide⟩
abbrev MX4_readKnownName : Mr := (RX4, yX4_readKnownName, cX4_readKnownName, 2, some (.object "AccentHouse$Lodger"))
theorem k_X4_readKnownName : Cd MX4_readKnownName ∈ wl := wl_4 48 rfl rfl
theorem n_X4_readKnownName : nMH MX4_readKnownName 0 := ⟨⟨by decide +kernel, by decide +kernel⟩, by decide +kernel, by decide⟩
abbrev MX2_takePayment : Mr := (RX2, yX2_takePayment, cX2_takePayment, 3, none)
theorem k_X2_takePayment : Cd MX2_takePayment ∈ wl := wl_4 52 rfl rfl
theorem n_X2_takePayment : nMH MX2_takePayment 2 := ⟨⟨by decide +kernel, by decide +kernel⟩, by decide +kernel, by decide⟩
abbrev MX4_readMove : Mr := (RX4, yX4_readMove, cX4_readMove, 3, none)
theorem k_X4_readMove : Cd MX4_readMove ∈ wl := wl_4 57 rfl rfl
theorem n_X4_readMove : nMH MX4_readMove 0 := ⟨⟨by decide +kernel, by decide +kernel⟩, by decide +kernel, by decide⟩
abbrev MX4_readDays : Mr := (RX4, yX4_readDays, cX4_readDays, 3, none)
theorem k_X4_readDays : Cd MX4_readDays ∈ wl := wl_4 62 rfl rfl
theorem n_X4_readDays : nMH MX4_readDays 0 := ⟨⟨by decide +kernel, by decide +kernel⟩, by decide +kernel, by decide⟩
abbrev MX2_passDay : Mr := (RX2, yX2_passDay, cX2_passDay, 2, none)
theorem k_X2_passDay : Cd MX2_passDay ∈ wl := wl_4 66 rfl rfl
theorem n_X2_passDay : nMH MX2_passDay 0 := ⟨⟨by decide +kernel, by decide +kernel⟩, by decide +kernel, by decide⟩
abbrev MX2_collectRent : Mr := (RX2, yX2_collectRent, cX2_collectRent, 3, none)
theorem k_X2_collectRent : Cd MX2_collectRent ∈ wl := wl_4 70 rfl rfl
theorem n_X2_collectRent : nMH MX2_collectRent 0 := ⟨⟨by decide +kernel, by decide +kernel⟩, by decide +kernel, by decide⟩
abbrev MX2_dailyRent : Mr := (RX2, yX2_dailyRent, cX2_dailyRent, 2, some .int)
theorem k_X2_dailyRent : Cd MX2_dailyRent ∈ wl := wl_4 74 rfl rfl
theorem n_X2_dailyRent : nMH MX2_dailyRent 1 := ⟨⟨by decide +kernel, by decide +kernel⟩, by decide +kernel, by decide⟩
abbrev MX2_giveLessons : Mr := (RX2, yX2_giveLessons, cX2_giveLessons, 2, none)
theorem k_X2_giveLessons : Cd MX2_giveLessons ∈ wl := wl_4 78 rfl rfl
theorem n_X2_giveLessons : nMH MX2_giveLessons 0 := ⟨⟨by decide +kernel, by decide +kernel⟩, by decide +kernel, by decide⟩
abbrev MX0_approach : Mr := (RX0, yX0_approach, cX0_approach, 3, some .boolean)
theorem k_X0_approach : Cd MX0_approach ∈ wl := wl_4 82 rfl rfl
theorem n_X0_approach : nMH MX0_approach 1 := ⟨⟨by decide +kernel, by decide +kernel⟩, by decide +kernel, by decide⟩
abbrev MX0_farthestVowel : Mr := (RX0, yX0_farthestVowel, cX0_farthestVowel, 7, some .int)
theorem k_X0_farthestVowel : Cd MX0_farthestVowel ∈ wl := wl_4 86 rfl rfl
theorem n_X0_farthestVowel : nMH MX0_farthestVowel 1 := ⟨⟨by decide +kernel, by decide +kernel⟩, by decide +kernel, by decide⟩
abbrev MX2_serveDinner : Mr := (RX2, yX2_serveDinner, cX2_serveDinner, 3, none)
theorem k_X2_serveDinner : Cd MX2_serveDinner ∈ wl := wl_4 90 rfl rfl
theorem n_X2_serveDinner : nMH MX2_serveDinner 1 := ⟨⟨by decide +kernel, by decide +kernel⟩, by decide +kernel, by decide⟩
abbrev MX2_crowdOn : Mr := (RX2, yX2_crowdOn, cX2_crowdOn, 4, some .int)
theorem k_X2_crowdOn : Cd MX2_crowdOn ∈ wl := wl_4 94 rfl rfl
theorem n_X2_crowdOn : nMH MX2_crowdOn 1 := ⟨⟨by decide +kernel, by decide +kernel⟩, by decide +kernel, by decide⟩
abbrev MX2_computeAverage : Mr := (RX2, yX2_computeAverage, cX2_computeAverage, 3, none)
theorem k_X2_computeAverage : Cd MX2_computeAverage ∈ wl := wl_4 98 rfl rfl
theorem n_X2_computeAverage : nMH MX2_computeAverage 1 := ⟨⟨by decide +kernel, by decide +kernel⟩, by decide +kernel, by decide⟩
abbrev MX2_averagePosition : Mr := (RX2, yX2_averagePosition, cX2_averagePosition, 6, some .int)
theorem k_X2_averagePosition : Cd MX2_averagePosition ∈ wl := wl_4 102 rfl rfl
theorem n_X2_averagePosition : nMH MX2_averagePosition 2 := ⟨⟨by decide +kernel, by decide +kernel⟩, by decide +kernel, by decide⟩
abbrev MX2_inspect : Mr := (RX2, yX2_inspect, cX2_inspect, 2, none)
theorem k_X2_inspect : Cd MX2_inspect ∈ wl := wl_4 106 rfl rfl
theorem n_X2_inspect : nMH MX2_inspect 0 := ⟨⟨by decide +kernel, by decide +kernel⟩, by decide +kernel, by decide⟩
abbrev MX2_mustLeave : Mr := (RX2, yX2_mustLeave, cX2_mustLeave, 2, some .boolean)
theorem k_X2_mustLeave : Cd MX2_mustLeave ∈ wl := wl_4 110 rfl rfl
theorem n_X2_mustLeave : nMH MX2_mustLeave 1 := ⟨⟨by decide +kernel, by decide +kernel⟩, by decide +kernel, by decide⟩
abbrev MX0_distanceTo : Mr := (RX0, yX0_distanceTo, cX0_distanceTo, 5, some .int)
theorem k_X0_distanceTo : Cd MX0_distanceTo ∈ wl := wl_4 114 rfl rfl
theorem n_X0_distanceTo : nMH MX0_distanceTo 1 := ⟨⟨by decide +kernel, by decide +kernel⟩, by decide +kernel, by decide⟩
abbrev MX0_rhymesWith : Mr := (RX0, yX0_rhymesWith, cX0_rhymesWith, 4, some .boolean)
theorem k_X0_rhymesWith : Cd MX0_rhymesWith ∈ wl := wl_4 118 rfl rfl
theorem n_X0_rhymesWith : nMH MX0_rhymesWith 1 := ⟨⟨by decide +kernel, by decide +kernel⟩, by decide +kernel, by decide⟩
abbrev MX2_dismiss : Mr := (RX2, yX2_dismiss, cX2_dismiss, 4, none)
theorem k_X2_dismiss : Cd MX2_dismiss ∈ wl := wl_4 122 rfl rfl
theorem n_X2_dismiss : nMH MX2_dismiss 1 := ⟨⟨by decide +kernel, by decide +kernel⟩, by decide +kernel, by decide⟩
abbrev MX2_copyFrom : Mr := (RX2, yX2_copyFrom, cX2_copyFrom, 3, none)
theorem k_X2_copyFrom : Cd MX2_copyFrom ∈ wl := wl_4 127 rfl rfl
theorem n_X2_copyFrom : nMH MX2_copyFrom 1 := ⟨⟨by decide +kernel, by decide +kernel⟩, by decide +kernel, by decide⟩
abbrev MX0_copyFrom : Mr := (RX0, yX0_copyFrom, cX0_copyFrom, 2, none)
theorem k_X0_copyFrom : Cd MX0_copyFrom ∈ wl := wl_4 131 rfl rfl
theorem n_X0_copyFrom : nMH MX0_copyFrom 1 := ⟨⟨by decide +kernel, by decide +kernel⟩, by decide +kernel, by decide⟩
abbrev MX3_copyFrom : Mr := (RX3, yX3_copyFrom, cX3_copyFrom, 2, none)
theorem k_X3_copyFrom : Cd MX3_copyFrom ∈ wl := wl_4 136 rfl rfl
theorem n_X3_copyFrom : nMH MX3_copyFrom 1 := ⟨⟨by decide +kernel, by decide +kernel⟩, by decide +kernel, by decide⟩
abbrev MX7_day : Mr := (RX7, yX7_day, cX7_day, 1, some .int)
theorem k_X7_day : Cd MX7_day ∈ wl := wl_4 175 rfl rfl
theorem n_X7_day : nMH MX7_day 0 := ⟨⟨by decide +kernel, by decide +kernel⟩, by decide +kernel, by decide⟩
abbrev MX7_lodgerCount : Mr := (RX7, yX7_lodgerCount, cX7_lodgerCount, 1, some .int)
theorem k_X7_lodgerCount : Cd MX7_lodgerCount ∈ wl := wl_4 179 rfl rfl
theorem n_X7_lodgerCount : nMH MX7_lodgerCount 0 := ⟨⟨by decide +kernel, by decide +kernel⟩, by decide +kernel, by decide⟩
abbrev MX7_undoCount : Mr := (RX7, yX7_undoCount, cX7_undoCount, 1, some .int)
theorem k_X7_undoCount : Cd MX7_undoCount ∈ wl := wl_4 183 rfl rfl
theorem n_X7_undoCount : nMH MX7_undoCount 0 := ⟨⟨by decide +kernel, by decide +kernel⟩, by decide +kernel, by decide⟩
abbrev MX7_restore : Mr := (RX7, yX7_restore, cX7_restore, 2, some .int)
theorem k_X7_restore : Cd MX7_restore ∈ wl := wl_4 187 rfl rfl
theorem n_X7_restore : nMH MX7_restore 1 := ⟨⟨by decide +kernel, by decide +kernel⟩, by decide +kernel, by decide⟩
abbrev MX7_requireSlot : Mr := (RX7, yX7_requireSlot, cX7_requireSlot, 2, none)
theorem k_X7_requireSlot : Cd MX7_requireSlot ∈ wl := wl_4 191 rfl rfl
theorem n_X7_requireSlot : nMH MX7_requireSlot 1 := ⟨⟨by decide +kernel, by decide +kernel⟩, by decide +kernel, by decide⟩
abbrev MX1_remember : Mr := (RX1, yX1_remember, cX1_remember, 2, none)
theorem k_X1_remember : Cd MX1_remember ∈ wl := wl_4 224 rfl rfl
theorem n_X1_remember : nMH MX1_remember 1 := ⟨⟨by decide +kernel, by decide +kernel⟩, by decide +kernel, by decide⟩
abbrev MX7_save : Mr := (RX7, yX7_save, cX7_save, 2, some .int)
theorem k_X7_save : Cd MX7_save ∈ wl := wl_4 229 rfl rfl
theorem n_X7_save : nMH MX7_save 1 := ⟨⟨by decide +kernel, by decide +kernel⟩, by decide +kernel, by decide⟩
abbrev ML_next : Mr := (RL, yL_next, cL_next, 1, some .int)
theorem k_L_next : Cd ML_next ∈ wl := wl_4 232 rfl rfl
theorem n_L_next : nMH ML_next 1 := ⟨⟨by decide +kernel, by decide +kernel⟩, by decide +kernel, by decide⟩
abbrev ML_type : Mr := (RL, yL_type, cL_type, 6, some .int)
theorem k_L_type : Cd ML_type ∈ wl := wl_5 1 rfl rfl
theorem n_L_type : nMH ML_type 2 := ⟨⟨by decide +kernel, by decide +kernel⟩, by decide +kernel, by decide⟩
abbrev MX7_append : Mr := (RX7, yX7_append, cX7_append, 6, some .int)
theorem k_X7_append : Cd MX7_append ∈ wl := wl_5 7 rfl rfl
theorem n_X7_append : nMH MX7_append 5 := ⟨⟨by decide +kernel, by decide +kernel⟩, by decide +kernel, by decide⟩
abbrev MX7_appendWord : Mr := (RX7, yX7_appendWord, cX7_appendWord, 3, none)
theorem k_X7_appendWord : Cd MX7_appendWord ∈ wl := wl_5 12 rfl rfl
theorem n_X7_appendWord : nMH MX7_appendWord 1 := ⟨⟨by decide +kernel, by decide +kernel⟩, by decide +kernel, by decide⟩
abbrev MX7_load : Mr := (RX7, yX7_load, cX7_load, 3, some .int)
theorem k_X7_load : Cd MX7_load ∈ wl := wl_5 16 rfl rfl
theorem n_X7_load : nMH MX7_load 1 := ⟨⟨by decide +kernel, by decide +kernel⟩, by decide +kernel, by decide⟩
abbrev MX1_clear : Mr := (RX1, yX1_clear, cX1_clear, 1, none)
theorem k_X1_clear : Cd MX1_clear ∈ wl := wl_5 24 rfl rfl
theorem n_X1_clear : nMH MX1_clear 0 := ⟨⟨by decide +kernel, by decide +kernel⟩, by decide +kernel, by decide⟩
abbrev MX7_undo : Mr := (RX7, yX7_undo, cX7_undo, 1, some .int)
theorem k_X7_undo : Cd MX7_undo ∈ wl := wl_5 32 rfl rfl
theorem n_X7_undo : nMH MX7_undo 0 := ⟨⟨by decide +kernel, by decide +kernel⟩, by decide +kernel, by decide⟩
abbrev MX1_takeBack : Mr := (RX1, yX1_takeBack, cX1_takeBack, 2, none)
theorem k_X1_takeBack : Cd MX1_takeBack ∈ wl := wl_5 37 rfl rfl
theorem n_X1_takeBack : nMH MX1_takeBack 1 := ⟨⟨by decide +kernel, by decide +kernel⟩, by decide +kernel, by decide⟩
abbrev MX7_advance : Mr := (RX7, yX7_advance, cX7_advance, 4, some .int)
theorem k_X7_advance : Cd MX7_advance ∈ wl := wl_5 44 rfl rfl
theorem n_X7_advance : nMH MX7_advance 1 := ⟨⟨by decide +kernel, by decide +kernel⟩, by decide +kernel, by decide⟩
abbrev MX7_requireRange : Mr := (RX7, yX7_requireRange, cX7_requireRange, 4, none)
theorem k_X7_requireRange : Cd MX7_requireRange ∈ wl := wl_5 48 rfl rfl
theorem n_X7_requireRange : nMH MX7_requireRange 3 := ⟨⟨by decide +kernel, by decide +kernel⟩, by decide +kernel, by decide⟩
abbrev MX7_moveIn : Mr := (RX7, yX7_moveIn, cX7_moveIn, 4, some .int)
theorem k_X7_moveIn : Cd MX7_moveIn ∈ wl := wl_5 58 rfl rfl
theorem n_X7_moveIn : nMH MX7_moveIn 3 := ⟨⟨by decide +kernel, by decide +kernel⟩, by decide +kernel, by decide⟩
abbrev MX7_requirePlace : Mr := (RX7, yX7_requirePlace, cX7_requirePlace, 3, none)
theorem k_X7_requirePlace : Cd MX7_requirePlace ∈ wl := wl_5 64 rfl rfl
theorem n_X7_requirePlace : nMH MX7_requirePlace 2 := ⟨⟨by decide +kernel, by decide +kernel⟩, by decide +kernel, by decide⟩
abbrev MX2_unusedLetter : Mr := (RX2, yX2_unusedLetter, cX2_unusedLetter, 2, some (.object "java/lang/String"))
theorem k_X2_unusedLetter : Cd MX2_unusedLetter ∈ wl := wl_5 70 rfl rfl
theorem n_X2_unusedLetter : nMH MX2_unusedLetter 0 := ⟨⟨by decide +kernel, by decide +kernel⟩, by decide +kernel, by decide⟩
abbrev MX2_hasLetterName : Mr := (RX2, yX2_hasLetterName, cX2_hasLetterName, 4, some .boolean)
theorem k_X2_hasLetterName : Cd MX2_hasLetterName ∈ wl := wl_5 77 rfl rfl
theorem n_X2_hasLetterName : nMH MX2_hasLetterName 1 := ⟨⟨by decide +kernel, by decide +kernel⟩, by decide +kernel, by decide⟩
abbrev MJ0_substring_37a41 : Mr := (RJ0, yJ0_substring_37a41, cJ0_substring_37a41, 5, some (.object "java/lang/String"))
theorem k_J0_substring_37a41 : Cd MJ0_substring_37a41 ∈ wl := wl_5 81 rfl rfl
theorem n_J0_substring_37a41 : nMH MJ0_substring_37a41 2 := ⟨⟨by decide +kernel, by decide +kernel⟩, by decide +kernel, by decide⟩
abbrev MJ1_newString_b4f7a : Mr := (RJ1, yJ1_newString_b4f7a, cJ1_newString_b4f7a, 3, some (.object "java/lang/String"))
theorem k_J1_newString_b4f7a : Cd MJ1_newString_b4f7a ∈ wl := wl_5 86 rfl rfl
theorem n_J1_newString_b4f7a : nMH MJ1_newString_b4f7a 3 := ⟨⟨by decide +kernel, by decide +kernel⟩, by decide +kernel, by decide⟩
abbrev MJ0_init_031fb : Mr := (RJ0, yJ0_init_031fb, cJ0_init_031fb, 3, none)
theorem k_J0_init_031fb : Cd MJ0_init_031fb ∈ wl := wl_5 92 rfl rfl
theorem n_J0_init_031fb : nMH MJ0_init_031fb 2 := ⟨⟨by decide +kernel, by decide +kernel⟩, by decide +kernel, by decide⟩
abbrev MJ2_newString_b4f7a : Mr := (RJ2, yJ2_newString_b4f7a, cJ2_newString_b4f7a, 5, some (.object "java/lang/String"))
theorem k_J2_newString_b4f7a : Cd MJ2_newString_b4f7a ∈ wl := wl_5 95 rfl rfl
theorem n_J2_newString_b4f7a : nMH MJ2_newString_b4f7a 3 := ⟨⟨by decide +kernel, by decide +kernel⟩, by decide +kernel, by decide⟩
abbrev MX7_moveOut : Mr := (RX7, yX7_moveOut, cX7_moveOut, 3, some .int)
theorem k_X7_moveOut : Cd MX7_moveOut ∈ wl := wl_5 110 rfl rfl
theorem n_X7_moveOut : nMH MX7_moveOut 1 := ⟨⟨by decide +kernel, by decide +kernel⟩, by decide +kernel, by decide⟩
abbrev MX7_requireLodger : Mr := (RX7, yX7_requireLodger, cX7_requireLodger, 2, some (.object "AccentHouse$Lodger"))
theorem k_X7_requireLodger : Cd MX7_requireLodger ∈ wl := wl_5 114 rfl rfl
theorem n_X7_requireLodger : nMH MX7_requireLodger 1 := ⟨⟨by decide +kernel, by decide +kernel⟩, by decide +kernel, by decide⟩
abbrev MX7_moveTo : Mr := (RX7, yX7_moveTo, cX7_moveTo, 5, some .int)
theorem k_X7_moveTo : Cd MX7_moveTo ∈ wl := wl_5 123 rfl rfl
theorem n_X7_moveTo : nMH MX7_moveTo 2 := ⟨⟨by decide +kernel, by decide +kernel⟩, by decide +kernel, by decide⟩
abbrev MX7_pay : Mr := (RX7, yX7_pay, cX7_pay, 4, some .int)
theorem k_X7_pay : Cd MX7_pay ∈ wl := wl_5 130 rfl rfl
theorem n_X7_pay : nMH MX7_pay 2 := ⟨⟨by decide +kernel, by decide +kernel⟩, by decide +kernel, by decide⟩
abbrev MX7_setLandladyVowel : Mr := (RX7, yX7_setLandladyVowel, cX7_setLandladyVowel, 4, some .int)
theorem k_X7_setLandladyVowel : Cd MX7_setLandladyVowel ∈ wl := wl_5 140 rfl rfl
theorem n_X7_setLandladyVowel : nMH MX7_setLandladyVowel 2 := ⟨⟨by decide +kernel, by decide +kernel⟩, by decide +kernel, by decide⟩
abbrev MX7_requireVowel : Mr := (RX7, yX7_requireVowel, cX7_requireVowel, 2, none)
theorem k_X7_requireVowel : Cd MX7_requireVowel ∈ wl := wl_5 144 rfl rfl
theorem n_X7_requireVowel : nMH MX7_requireVowel 1 := ⟨⟨by decide +kernel, by decide +kernel⟩, by decide +kernel, by decide⟩
abbrev MX7_setTolerance : Mr := (RX7, yX7_setTolerance, cX7_setTolerance, 3, some .int)
theorem k_X7_setTolerance : Cd MX7_setTolerance ∈ wl := wl_5 152 rfl rfl
theorem n_X7_setTolerance : nMH MX7_setTolerance 1 := ⟨⟨by decide +kernel, by decide +kernel⟩, by decide +kernel, by decide⟩
abbrev MX7_setBaseRent : Mr := (RX7, yX7_setBaseRent, cX7_setBaseRent, 3, some .int)
theorem k_X7_setBaseRent : Cd MX7_setBaseRent ∈ wl := wl_5 159 rfl rfl
theorem n_X7_setBaseRent : nMH MX7_setBaseRent 1 := ⟨⟨by decide +kernel, by decide +kernel⟩, by decide +kernel, by decide⟩
abbrev ML_house : Mr := (RL, yL_house, cL_house, 6, some (.object "java/lang/String"))
theorem k_L_house : Cd ML_house ∈ wl := wl_5 162 rfl rfl
theorem n_L_house : nMH ML_house 2 := ⟨⟨by decide +kernel, by decide +kernel⟩, by decide +kernel, by decide⟩
abbrev MJ4_init_a7421 : Mr := (RJ4, yJ4_init_a7421, cJ4_init_a7421, 2, none)
theorem k_J4_init_a7421 : Cd MJ4_init_a7421 ∈ wl := wl_5 167 rfl rfl
theorem n_J4_init_a7421 : nMH MJ4_init_a7421 1 := ⟨⟨by decide +kernel, by decide +kernel⟩, by decide +kernel, by decide⟩
abbrev MJ5_init_a7421 : Mr := (RJ5, yJ5_init_a7421, cJ5_init_a7421, 5, none)
theorem k_J5_init_a7421 : Cd MJ5_init_a7421 ∈ wl := wl_5 170 rfl rfl
theorem n_J5_init_a7421 : nMH MJ5_init_a7421 1 := ⟨⟨by decide +kernel, by decide +kernel⟩, by decide +kernel, by decide⟩
abbrev MJ4_append_cf1ce : Mr := (RJ4, yJ4_append_cf1ce, cJ4_append_cf1ce, 2, some (.object "java/lang/AbstractStringBuilder"))
theorem k_J4_append_cf1ce : Cd MJ4_append_cf1ce ∈ wl := wl_5 174 rfl rfl
theorem n_J4_append_cf1ce : nMH MJ4_append_cf1ce 1 := ⟨⟨by decide +kernel, by decide +kernel⟩, by decide +kernel, by decide⟩
abbrev ML_sum : Mr := (RL, yL_sum, cL_sum, 5, some .long)
theorem k_L_sum : Cd ML_sum ∈ wl := wl_5 185 rfl rfl
theorem n_L_sum : nMH ML_sum 1 := ⟨⟨by decide +kernel, by decide +kernel⟩, by decide +kernel, by decide⟩
abbrev MX7_baseRent : Mr := (RX7, yX7_baseRent, cX7_baseRent, 1, some .int)
theorem k_X7_baseRent : Cd MX7_baseRent ∈ wl := wl_5 190 rfl rfl
theorem n_X7_baseRent : nMH MX7_baseRent 0 := ⟨⟨by decide +kernel, by decide +kernel⟩, by decide +kernel, by decide⟩
abbrev MX7_tolerance : Mr := (RX7, yX7_tolerance, cX7_tolerance, 1, some .int)
theorem k_X7_tolerance : Cd MX7_tolerance ∈ wl := wl_5 194 rfl rfl
theorem n_X7_tolerance : nMH MX7_tolerance 0 := ⟨⟨by decide +kernel, by decide +kernel⟩, by decide +kernel, by decide⟩
abbrev MX7_evictions : Mr := (RX7, yX7_evictions, cX7_evictions, 1, some .int)
theorem k_X7_evictions : Cd MX7_evictions ∈ wl := wl_5 198 rfl rfl
theorem n_X7_evictions : nMH MX7_evictions 0 := ⟨⟨by decide +kernel, by decide +kernel⟩, by decide +kernel, by decide⟩
abbrev MX7_totalPaid : Mr := (RX7, yX7_totalPaid, cX7_totalPaid, 1, some .int)
theorem k_X7_totalPaid : Cd MX7_totalPaid ∈ wl := wl_5 202 rfl rfl
theorem n_X7_totalPaid : nMH MX7_totalPaid 0 := ⟨⟨by decide +kernel, by decide +kernel⟩, by decide +kernel, by decide⟩
abbrev MX7_totalCharged : Mr := (RX7, yX7_totalCharged, cX7_totalCharged, 1, some .int)
theorem k_X7_totalCharged : Cd MX7_totalCharged ∈ wl := wl_5 206 rfl rfl
theorem n_X7_totalCharged : nMH MX7_totalCharged 0 := ⟨⟨by decide +kernel, by decide +kernel⟩, by decide +kernel, by decide⟩
abbrev MX7_settled : Mr := (RX7, yX7_settled, cX7_settled, 1, some .int)
theorem k_X7_settled : Cd MX7_settled ∈ wl := wl_5 210 rfl rfl
theorem n_X7_settled : nMH MX7_settled 0 := ⟨⟨by decide +kernel, by decide +kernel⟩, by decide +kernel, by decide⟩
abbrev MX7_landladyVowel : Mr := (RX7, yX7_landladyVowel, cX7_landladyVowel, 2, some .int)
theorem k_X7_landladyVowel : Cd MX7_landladyVowel ∈ wl := wl_5 214 rfl rfl
theorem n_X7_landladyVowel : nMH MX7_landladyVowel 1 := ⟨⟨by decide +kernel, by decide +kernel⟩, by decide +kernel, by decide⟩
abbrev MX7_floorOf : Mr := (RX7, yX7_floorOf, cX7_floorOf, 2, some .int)
theorem k_X7_floorOf : Cd MX7_floorOf ∈ wl := wl_5 218 rfl rfl
theorem n_X7_floorOf : nMH MX7_floorOf 1 := ⟨⟨by decide +kernel, by decide +kernel⟩, by decide +kernel, by decide⟩
abbrev MX7_balanceOf : Mr := (RX7, yX7_balanceOf, cX7_balanceOf, 2, some .int)
theorem k_X7_balanceOf : Cd MX7_balanceOf ∈ wl := wl_5 222 rfl rfl
theorem n_X7_balanceOf : nMH MX7_balanceOf 1 := ⟨⟨by decide +kernel, by decide +kernel⟩, by decide +kernel, by decide⟩
abbrev MX7_lessonsOf : Mr := (RX7, yX7_lessonsOf, cX7_lessonsOf, 2, some .int)
theorem k_X7_lessonsOf : Cd MX7_lessonsOf ∈ wl := wl_5 226 rfl rfl
theorem n_X7_lessonsOf : nMH MX7_lessonsOf 1 := ⟨⟨by decide +kernel, by decide +kernel⟩, by decide +kernel, by decide⟩
abbrev MX7_slipsOf : Mr := (RX7, yX7_slipsOf, cX7_slipsOf, 2, some .int)
theorem k_X7_slipsOf : Cd MX7_slipsOf ∈ wl := wl_5 230 rfl rfl
theorem n_X7_slipsOf : nMH MX7_slipsOf 1 := ⟨⟨by decide +kernel, by decide +kernel⟩, by decide +kernel, by decide⟩
abbrev MX7_daysStayed : Mr := (RX7, yX7_daysStayed, cX7_daysStayed, 2, some .int)
theorem k_X7_daysStayed : Cd MX7_daysStayed ∈ wl := wl_5 234 rfl rfl
theorem n_X7_daysStayed : nMH MX7_daysStayed 1 := ⟨⟨by decide +kernel, by decide +kernel⟩, by decide +kernel, by decide⟩
abbrev MX7_nameLength : Mr := (RX7, yX7_nameLength, cX7_nameLength, 2, some .int)
theorem k_X7_nameLength : Cd MX7_nameLength ∈ wl := wl_5 238 rfl rfl
theorem n_X7_nameLength : nMH MX7_nameLength 1 := ⟨⟨by decide +kernel, by decide +kernel⟩, by decide +kernel, by decide⟩
abbrev MX7_vowelOf : Mr := (RX7, yX7_vowelOf, cX7_vowelOf, 4, some .int)
theorem k_X7_vowelOf : Cd MX7_vowelOf ∈ wl := wl_6 2 rfl rfl
theorem n_X7_vowelOf : nMH MX7_vowelOf 2 := ⟨⟨by decide +kernel, by decide +kernel⟩, by decide +kernel, by decide⟩
abbrev MX7_nameLetter : Mr := (RX7, yX7_nameLetter, cX7_nameLetter, 4, some .char)
theorem k_X7_nameLetter : Cd MX7_nameLetter ∈ wl := wl_6 6 rfl rfl
theorem n_X7_nameLetter : nMH MX7_nameLetter 2 := ⟨⟨by decide +kernel, by decide +kernel⟩, by decide +kernel, by decide⟩
abbrev ML_floors : Mr := (RL, yL_floors, cL_floors, 9, some .boolean)
theorem k_L_floors : Cd ML_floors ∈ wl := wl_6 10 rfl rfl
theorem n_L_floors : nMH ML_floors 1 := ⟨⟨by decide +kernel, by decide +kernel⟩, by decide +kernel, by decide⟩
abbrev MX7_ledgerDifference : Mr := (RX7, yX7_ledgerDifference, cX7_ledgerDifference, 3, some .int)
theorem k_X7_ledgerDifference : Cd MX7_ledgerDifference ∈ wl := wl_6 14 rfl rfl
theorem n_X7_ledgerDifference : nMH MX7_ledgerDifference 0 := ⟨⟨by decide +kernel, by decide +kernel⟩, by decide +kernel, by decide⟩
abbrev MX7_daysToInspection : Mr := (RX7, yX7_daysToInspection, cX7_daysToInspection, 1, some .int)
theorem k_X7_daysToInspection : Cd MX7_daysToInspection ∈ wl := wl_6 18 rfl rfl
theorem n_X7_daysToInspection : nMH MX7_daysToInspection 0 := ⟨⟨by decide +kernel, by decide +kernel⟩, by decide +kernel, by decide⟩
abbrev MX7_lodgersOn : Mr := (RX7, yX7_lodgersOn, cX7_lodgersOn, 2, some .int)
theorem k_X7_lodgersOn : Cd MX7_lodgersOn ∈ wl := wl_6 22 rfl rfl
theorem n_X7_lodgersOn : nMH MX7_lodgersOn 1 := ⟨⟨by decide +kernel, by decide +kernel⟩, by decide +kernel, by decide⟩
abbrev MX7_requireFloor : Mr := (RX7, yX7_requireFloor, cX7_requireFloor, 2, none)
theorem k_X7_requireFloor : Cd MX7_requireFloor ∈ wl := wl_6 26 rfl rfl
theorem n_X7_requireFloor : nMH MX7_requireFloor 1 := ⟨⟨by decide +kernel, by decide +kernel⟩, by decide +kernel, by decide⟩
abbrev MX7_lodgerOn : Mr := (RX7, yX7_lodgerOn, cX7_lodgerOn, 4, some .int)
theorem k_X7_lodgerOn : Cd MX7_lodgerOn ∈ wl := wl_6 35 rfl rfl
theorem n_X7_lodgerOn : nMH MX7_lodgerOn 2 := ⟨⟨by decide +kernel, by decide +kernel⟩, by decide +kernel, by decide⟩
abbrev MX2_numberAt : Mr := (RX2, yX2_numberAt, cX2_numberAt, 5, some .int)
theorem k_X2_numberAt : Cd MX2_numberAt ∈ wl := wl_6 39 rfl rfl
theorem n_X2_numberAt : nMH MX2_numberAt 2 := ⟨⟨by decide +kernel, by decide +kernel⟩, by decide +kernel, by decide⟩
abbrev MX7_rentOf : Mr := (RX7, yX7_rentOf, cX7_rentOf, 2, some .int)
theorem k_X7_rentOf : Cd MX7_rentOf ∈ wl := wl_6 44 rfl rfl
theorem n_X7_rentOf : nMH MX7_rentOf 1 := ⟨⟨by decide +kernel, by decide +kernel⟩, by decide +kernel, by decide⟩
abbrev MX7_averageVowel : Mr := (RX7, yX7_averageVowel, cX7_averageVowel, 3, some .int)
theorem k_X7_averageVowel : Cd MX7_averageVowel ∈ wl := wl_6 52 rfl rfl
theorem n_X7_averageVowel : nMH MX7_averageVowel 2 := ⟨⟨by decide +kernel, by decide +kernel⟩, by decide +kernel, by decide⟩
abbrev MJ9_abs_0f7a4 : Mr := (RJ9, yJ9_abs_0f7a4, cJ9_abs_0f7a4, 1, some .int)
theorem k_J9_abs_0f7a4 : Cd MJ9_abs_0f7a4 ∈ wl := wl_6 57 rfl rfl
theorem n_J9_abs_0f7a4 : nMH MJ9_abs_0f7a4 1 := ⟨⟨by decide +kernel, by decide +kernel⟩, by decide +kernel, by decide⟩
abbrev MX7_slipVowel : Mr := (RX7, yX7_slipVowel, cX7_slipVowel, 3, some .int)
theorem k_X7_slipVowel : Cd MX7_slipVowel ∈ wl := wl_6 62 rfl rfl
theorem n_X7_slipVowel : nMH MX7_slipVowel 1 := ⟨⟨by decide +kernel, by decide +kernel⟩, by decide +kernel, by decide⟩
abbrev ML_accents : Mr := (RL, yL_accents, cL_accents, 17, some .boolean)
theorem k_L_accents : Cd ML_accents ∈ wl := wl_6 67 rfl rfl
theorem n_L_accents : nMH ML_accents 1 := ⟨⟨by decide +kernel, by decide +kernel⟩, by decide +kernel, by decide⟩
abbrev MX7_distance : Mr := (RX7, yX7_distance, cX7_distance, 5, some .int)
theorem k_X7_distance : Cd MX7_distance ∈ wl := wl_6 71 rfl rfl
theorem n_X7_distance : nMH MX7_distance 2 := ⟨⟨by decide +kernel, by decide +kernel⟩, by decide +kernel, by decide⟩
abbrev MX7_rhymes : Mr := (RX7, yX7_rhymes, cX7_rhymes, 5, some .boolean)
theorem k_X7_rhymes : Cd MX7_rhymes ∈ wl := wl_6 76 rfl rfl
theorem n_X7_rhymes : nMH MX7_rhymes 2 := ⟨⟨by decide +kernel, by decide +kernel⟩, by decide +kernel, by decide⟩
abbrev MX7_distanceToLandlady : Mr := (RX7, yX7_distanceToLandlady, cX7_distanceToLandlady, 2, some .int)
theorem k_X7_distanceToLandlady : Cd MX7_distanceToLandlady ∈ wl := wl_6 81 rfl rfl
theorem n_X7_distanceToLandlady : nMH MX7_distanceToLandlady 1 := ⟨⟨by decide +kernel, by decide +kernel⟩, by decide +kernel, by decide⟩
abbrev MX7_rhymesWithLandlady : Mr := (RX7, yX7_rhymesWithLandlady, cX7_rhymesWithLandlady, 2, some .boolean)
theorem k_X7_rhymesWithLandlady : Cd MX7_rhymesWithLandlady ∈ wl := wl_6 85 rfl rfl
theorem n_X7_rhymesWithLandlady : nMH MX7_rhymesWithLandlady 1 := ⟨⟨by decide +kernel, by decide +kernel⟩, by decide +kernel, by decide⟩
abbrev MX7_lessonVowel : Mr := (RX7, yX7_lessonVowel, cX7_lessonVowel, 2, some .int)
theorem k_X7_lessonVowel : Cd MX7_lessonVowel ∈ wl := wl_6 89 rfl rfl
theorem n_X7_lessonVowel : nMH MX7_lessonVowel 1 := ⟨⟨by decide +kernel, by decide +kernel⟩, by decide +kernel, by decide⟩
abbrev MX7_rhymeCount : Mr := (RX7, yX7_rhymeCount, cX7_rhymeCount, 5, some .int)
theorem k_X7_rhymeCount : Cd MX7_rhymeCount ∈ wl := wl_6 93 rfl rfl
theorem n_X7_rhymeCount : nMH MX7_rhymeCount 1 := ⟨⟨by decide +kernel, by decide +kernel⟩, by decide +kernel, by decide⟩
abbrev MX7_closestTo : Mr := (RX7, yX7_closestTo, cX7_closestTo, 7, some .int)
theorem k_X7_closestTo : Cd MX7_closestTo ∈ wl := wl_6 97 rfl rfl
theorem n_X7_closestTo : nMH MX7_closestTo 1 := ⟨⟨by decide +kernel, by decide +kernel⟩, by decide +kernel, by decide⟩
abbrev MX7_mustGo : Mr := (RX7, yX7_mustGo, cX7_mustGo, 2, some .boolean)
theorem k_X7_mustGo : Cd MX7_mustGo ∈ wl := wl_6 101 rfl rfl
theorem n_X7_mustGo : nMH MX7_mustGo 1 := ⟨⟨by decide +kernel, by decide +kernel⟩, by decide +kernel, by decide⟩
abbrev MX7_balanceAfter : Mr := (RX7, yX7_balanceAfter, cX7_balanceAfter, 4, some .int)
theorem k_X7_balanceAfter : Cd MX7_balanceAfter ∈ wl := wl_6 106 rfl rfl
theorem n_X7_balanceAfter : nMH MX7_balanceAfter 2 := ⟨⟨by decide +kernel, by decide +kernel⟩, by decide +kernel, by decide⟩
abbrev MX7_startTrial : Mr := (RX7, yX7_startTrial, cX7_startTrial, 2, some (.object "AccentHouse$Lodger"))
theorem k_X7_startTrial : Cd MX7_startTrial ∈ wl := wl_6 110 rfl rfl
theorem n_X7_startTrial : nMH MX7_startTrial 1 := ⟨⟨by decide +kernel, by decide +kernel⟩, by decide +kernel, by decide⟩
abbrev MX7_runTrial : Mr := (RX7, yX7_runTrial, cX7_runTrial, 4, some .int)
theorem k_X7_runTrial : Cd MX7_runTrial ∈ wl := wl_6 114 rfl rfl
theorem n_X7_runTrial : nMH MX7_runTrial 2 := ⟨⟨by decide +kernel, by decide +kernel⟩, by decide +kernel, by decide⟩
abbrev MX2_houses : Mr := (RX2, yX2_houses, cX2_houses, 3, some .boolean)
theorem k_X2_houses : Cd MX2_houses ∈ wl := wl_6 118 rfl rfl
theorem n_X2_houses : nMH MX2_houses 1 := ⟨⟨by decide +kernel, by decide +kernel⟩, by decide +kernel, by decide⟩
abbrev MX7_distanceAfter : Mr := (RX7, yX7_distanceAfter, cX7_distanceAfter, 5, some .int)
theorem k_X7_distanceAfter : Cd MX7_distanceAfter ∈ wl := wl_6 122 rfl rfl
theorem n_X7_distanceAfter : nMH MX7_distanceAfter 2 := ⟨⟨by decide +kernel, by decide +kernel⟩, by decide +kernel, by decide⟩
abbrev MX7_meanDistance : Mr := (RX7, yX7_meanDistance, cX7_meanDistance, 3, some .double)
theorem k_X7_meanDistance : Cd MX7_meanDistance ∈ wl := wl_6 126 rfl rfl
theorem n_X7_meanDistance : nMH MX7_meanDistance 0 := ⟨⟨by decide +kernel, by decide +kernel⟩, by decide +kernel, by decide⟩
abbrev MX7_rhymingShare : Mr := (RX7, yX7_rhymingShare, cX7_rhymingShare, 3, some .float)
theorem k_X7_rhymingShare : Cd MX7_rhymingShare ∈ wl := wl_6 130 rfl rfl
theorem n_X7_rhymingShare : nMH MX7_rhymingShare 0 := ⟨⟨by decide +kernel, by decide +kernel⟩, by decide +kernel, by decide⟩
abbrev ML_saves : Mr := (RL, yL_saves, cL_saves, 7, some .boolean)
theorem k_L_saves : Cd ML_saves ∈ wl := wl_6 133 rfl rfl
theorem n_L_saves : nMH ML_saves 2 := ⟨⟨by decide +kernel, by decide +kernel⟩, by decide +kernel, by decide⟩
abbrev MX7_paymentToStay : Mr := (RX7, yX7_paymentToStay, cX7_paymentToStay, 7, some .int)
theorem k_X7_paymentToStay : Cd MX7_paymentToStay ∈ wl := wl_6 137 rfl rfl
theorem n_X7_paymentToStay : nMH MX7_paymentToStay 1 := ⟨⟨by decide +kernel, by decide +kernel⟩, by decide +kernel, by decide⟩
abbrev MX7_staysWith : Mr := (RX7, yX7_staysWith, cX7_staysWith, 4, some .boolean)
theorem k_X7_staysWith : Cd MX7_staysWith ∈ wl := wl_6 141 rfl rfl
theorem n_X7_staysWith : nMH MX7_staysWith 2 := ⟨⟨by decide +kernel, by decide +kernel⟩, by decide +kernel, by decide⟩
abbrev MX7_daysToEviction : Mr := (RX7, yX7_daysToEviction, cX7_daysToEviction, 2, some .int)
theorem k_X7_daysToEviction : Cd MX7_daysToEviction ∈ wl := wl_6 146 rfl rfl
theorem n_X7_daysToEviction : nMH MX7_daysToEviction 1 := ⟨⟨by decide +kernel, by decide +kernel⟩, by decide +kernel, by decide⟩
abbrev ML_act : Mr := (RL, yL_act, cL_act, 28, some .boolean)
theorem k_L_act : Cd ML_act ∈ wl := wl_6 149 rfl rfl
theorem n_L_act : nMH ML_act 2 := ⟨⟨by decide +kernel, by decide +kernel⟩, by decide +kernel, by decide⟩
theorem l_X7_15 : LkI RX7 15 MJ4_init_da8c8 0 := ⟨wl_1 39 rfl rfl, wl_1 40 rfl rfl, rfl, wl_1 3 rfl rfl, k_J4_init_da8c8, n_J4_init_da8c8, rfl⟩
theorem l_X7_22 : LkI RX7 22 MX4_init 1 := ⟨wl_1 72 rfl rfl, wl_1 73 rfl rfl, rfl, wl_1 6 rfl rfl, k_X4_init, n_X4_init, rfl⟩
theorem l_X7_35 : LkI RX7 35 MX2_init 0 := ⟨wl_2 2 rfl rfl, wl_1 79 rfl rfl, rfl, wl_1 7 rfl rfl, k_X2_init, n_X2_init, rfl⟩
theorem l_X7_45 : LkI RX7 45 MX1_init 0 := ⟨wl_2 5 rfl rfl, wl_2 6 rfl rfl, rfl, wl_1 13 rfl rfl, k_X1_init, n_X1_init, rfl⟩
theorem l_X7_60 : LkV RX7 60 MJ0_length_8abf5 0 := ⟨wl_2 24 rfl rfl, wl_2 25 rfl rfl, wl_2 26 rfl rfl, wl_1 4 rfl rfl, k_J0_length_8abf5, n_J0_length_8abf5⟩
theorem l_X7_66 : LkV RX7 66 MJ0_charAt_5068e 1 := ⟨wl_2 33 rfl rfl, wl_2 34 rfl rfl, wl_2 35 rfl rfl, wl_1 4 rfl rfl, k_J0_charAt_5068e, n_J0_charAt_5068e⟩
theorem l_X7_70 : LkV RX7 70 MX4_read 1 := ⟨wl_2 71 rfl rfl, wl_2 72 rfl rfl, wl_2 73 rfl rfl, wl_1 6 rfl rfl, k_X4_read, n_X4_read⟩
theorem l_X7_75 : LkV RX7 75 MX2_copyFrom 1 := ⟨wl_4 124 rfl rfl, wl_4 125 rfl rfl, wl_4 126 rfl rfl, wl_1 7 rfl rfl, k_X2_copyFrom, n_X2_copyFrom⟩
theorem l_X7_89 : LkV RX7 89 MX7_appendWord 1 := ⟨wl_5 9 rfl rfl, wl_5 11 rfl rfl, wl_inp 18 (by decide +kernel) rfl, wl_1 1 rfl rfl, k_X7_appendWord, n_X7_appendWord⟩
theorem l_X7_111 : LkV RX7 111 MX1_clear 0 := ⟨wl_5 21 rfl rfl, wl_5 22 rfl rfl, wl_5 23 rfl rfl, wl_1 13 rfl rfl, k_X1_clear, n_X1_clear⟩
theorem l_X7_126 : LkV RX7 126 MX7_requireFloor 1 := ⟨wl_6 23 rfl rfl, wl_6 25 rfl rfl, wl_inp 24 (by decide +kernel) rfl, wl_1 1 rfl rfl, k_X7_requireFloor, n_X7_requireFloor⟩
theorem l_X7_129 : LkV RX7 129 MX2_dailyRent 1 := ⟨wl_6 45 rfl rfl, wl_4 72 rfl rfl, wl_4 73 rfl rfl, wl_1 7 rfl rfl, k_X2_dailyRent, n_X2_dailyRent⟩
theorem l_X7_133 : LkV RX7 133 MX7_requireVowel 1 := ⟨wl_5 141 rfl rfl, wl_5 143 rfl rfl, wl_inp 23 (by decide +kernel) rfl, wl_1 1 rfl rfl, k_X7_requireVowel, n_X7_requireVowel⟩
theorem l_X7_152 : LkV RX7 152 MX7_requireLodger 1 := ⟨wl_5 111 rfl rfl, wl_5 113 rfl rfl, wl_inp 22 (by decide +kernel) rfl, wl_1 1 rfl rfl, k_X7_requireLodger, n_X7_requireLodger⟩
theorem l_X7_186 : LkV RX7 186 MX2_crowdOn 1 := ⟨wl_6 28 rfl rfl, wl_4 92 rfl rfl, wl_4 93 rfl rfl, wl_1 7 rfl rfl, k_X2_crowdOn, n_X2_crowdOn⟩
theorem l_X7_189 : LkV RX7 189 MX2_numberAt 2 := ⟨wl_6 36 rfl rfl, wl_6 37 rfl rfl, wl_6 38 rfl rfl, wl_1 7 rfl rfl, k_X2_numberAt, n_X2_numberAt⟩
theorem l_X7_197 : LkV RX7 197 MX2_averagePosition 2 := ⟨wl_6 54 rfl rfl, wl_4 100 rfl rfl, wl_4 101 rfl rfl, wl_1 7 rfl rfl, k_X2_averagePosition, n_X2_averagePosition⟩
theorem l_X7_200 : LkV RX7 200 MX0_distanceTo 1 := ⟨wl_6 72 rfl rfl, wl_4 112 rfl rfl, wl_4 113 rfl rfl, wl_1 8 rfl rfl, k_X0_distanceTo, n_X0_distanceTo⟩
theorem l_X7_204 : LkV RX7 204 MX0_rhymesWith 1 := ⟨wl_6 77 rfl rfl, wl_4 116 rfl rfl, wl_4 117 rfl rfl, wl_1 8 rfl rfl, k_X0_rhymesWith, n_X0_rhymesWith⟩
theorem l_X7_212 : LkV RX7 212 MX0_farthestVowel 1 := ⟨wl_6 64 rfl rfl, wl_4 84 rfl rfl, wl_4 85 rfl rfl, wl_1 8 rfl rfl, k_X0_farthestVowel, n_X0_farthestVowel⟩
theorem l_X7_215 : LkV RX7 215 MX2_computeAverage 1 := ⟨wl_6 63 rfl rfl, wl_4 96 rfl rfl, wl_4 97 rfl rfl, wl_1 7 rfl rfl, k_X2_computeAverage, n_X2_computeAverage⟩
theorem l_X7_221 : LkV RX7 221 MX2_mustLeave 1 := ⟨wl_6 102 rfl rfl, wl_4 108 rfl rfl, wl_4 109 rfl rfl, wl_1 7 rfl rfl, k_X2_mustLeave, n_X2_mustLeave⟩
theorem l_X7_225 : LkV RX7 225 MX7_requireRange 3 := ⟨wl_5 45 rfl rfl, wl_5 47 rfl rfl, wl_inp 19 (by decide +kernel) rfl, wl_1 1 rfl rfl, k_X7_requireRange, n_X7_requireRange⟩
theorem l_X7_229 : LkV RX7 229 MX7_startTrial 1 := ⟨wl_6 107 rfl rfl, wl_6 109 rfl rfl, wl_inp 25 (by decide +kernel) rfl, wl_1 1 rfl rfl, k_X7_startTrial, n_X7_startTrial⟩
theorem l_X7_232 : LkV RX7 232 MX7_runTrial 2 := ⟨wl_6 111 rfl rfl, wl_6 113 rfl rfl, wl_inp 26 (by decide +kernel) rfl, wl_1 1 rfl rfl, k_X7_runTrial, n_X7_runTrial⟩
theorem l_X7_236 : LkV RX7 236 MX7_staysWith 2 := ⟨wl_6 138 rfl rfl, wl_6 140 rfl rfl, wl_inp 27 (by decide +kernel) rfl, wl_1 1 rfl rfl, k_X7_staysWith, n_X7_staysWith⟩
theorem l_X7_240 : LkV RX7 240 MX7_daysToInspection 0 := ⟨wl_6 142 rfl rfl, wl_6 16 rfl rfl, wl_6 17 rfl rfl, wl_1 1 rfl rfl, k_X7_daysToInspection, n_X7_daysToInspection⟩
theorem l_X7_243 : LkV RX7 243 MX2_passDay 0 := ⟨wl_5 51 rfl rfl, wl_4 64 rfl rfl, wl_4 65 rfl rfl, wl_1 7 rfl rfl, k_X2_passDay, n_X2_passDay⟩
theorem l_X7_246 : LkV RX7 246 MX2_houses 1 := ⟨wl_6 115 rfl rfl, wl_6 116 rfl rfl, wl_6 117 rfl rfl, wl_1 7 rfl rfl, k_X2_houses, n_X2_houses⟩
theorem l_X7_260 : LkV RX7 260 MX1_remember 1 := ⟨wl_4 221 rfl rfl, wl_4 222 rfl rfl, wl_4 223 rfl rfl, wl_1 13 rfl rfl, k_X1_remember, n_X1_remember⟩
theorem l_X7_266 : LkV RX7 266 MX7_requirePlace 2 := ⟨wl_5 61 rfl rfl, wl_5 63 rfl rfl, wl_inp 20 (by decide +kernel) rfl, wl_1 1 rfl rfl, k_X7_requirePlace, n_X7_requirePlace⟩
theorem l_X7_270 : LkV RX7 270 MX2_unusedLetter 0 := ⟨wl_5 67 rfl rfl, wl_5 68 rfl rfl, wl_5 69 rfl rfl, wl_1 7 rfl rfl, k_X2_unusedLetter, n_X2_unusedLetter⟩
theorem l_X7_274 : LkV RX7 274 MX2_receive 4 := ⟨wl_5 103 rfl rfl, wl_4 36 rfl rfl, wl_4 37 rfl rfl, wl_1 7 rfl rfl, k_X2_receive, n_X2_receive⟩
theorem l_X7_278 : LkV RX7 278 MX2_dismiss 1 := ⟨wl_5 116 rfl rfl, wl_4 120 rfl rfl, wl_4 121 rfl rfl, wl_1 7 rfl rfl, k_X2_dismiss, n_X2_dismiss⟩
theorem l_X7_281 : LkV RX7 281 MX2_takePayment 2 := ⟨wl_5 131 rfl rfl, wl_4 50 rfl rfl, wl_4 51 rfl rfl, wl_1 7 rfl rfl, k_X2_takePayment, n_X2_takePayment⟩
theorem l_X7_285 : LkV RX7 285 MX7_requireSlot 1 := ⟨wl_4 188 rfl rfl, wl_4 190 rfl rfl, wl_inp 17 (by decide +kernel) rfl, wl_1 1 rfl rfl, k_X7_requireSlot, n_X7_requireSlot⟩
theorem l_X7_292 : LkV RX7 292 MX1_takeBack 1 := ⟨wl_5 34 rfl rfl, wl_5 35 rfl rfl, wl_5 36 rfl rfl, wl_1 13 rfl rfl, k_X1_takeBack, n_X1_takeBack⟩
theorem l_X7_322 : LkV RX7 322 MX2_isFullFor 2 := ⟨wl_5 65 rfl rfl, wl_4 32 rfl rfl, wl_4 33 rfl rfl, wl_1 7 rfl rfl, k_X2_isFullFor, n_X2_isFullFor⟩
theorem l_X0_21 : LkV RX0 21 MX0_farthestVowel 1 := ⟨wl_4 83 rfl rfl, wl_4 84 rfl rfl, wl_4 85 rfl rfl, wl_1 8 rfl rfl, k_X0_farthestVowel, n_X0_farthestVowel⟩
theorem l_X1_17 : LkI RX1 17 MX2_init 0 := ⟨wl_2 11 rfl rfl, wl_1 79 rfl rfl, rfl, wl_1 7 rfl rfl, k_X2_init, n_X2_init, rfl⟩
theorem l_X1_25 : LkV RX1 25 MX2_copyFrom 1 := ⟨wl_4 225 rfl rfl, wl_4 125 rfl rfl, wl_4 126 rfl rfl, wl_1 7 rfl rfl, k_X2_copyFrom, n_X2_copyFrom⟩
theorem l_X2_53 : LkV RX2 53 MX0_copyFrom 1 := ⟨wl_4 128 rfl rfl, wl_4 129 rfl rfl, wl_4 130 rfl rfl, wl_1 8 rfl rfl, k_X0_copyFrom, n_X0_copyFrom⟩
theorem l_X2_57 : LkV RX2 57 MX3_copyFrom 1 := ⟨wl_4 133 rfl rfl, wl_4 134 rfl rfl, wl_4 135 rfl rfl, wl_1 9 rfl rfl, k_X3_copyFrom, n_X3_copyFrom⟩
theorem l_X2_63 : LkV RX2 63 MX3_isNamed 3 := ⟨wl_2 162 rfl rfl, wl_2 163 rfl rfl, wl_2 164 rfl rfl, wl_1 9 rfl rfl, k_X3_isNamed, n_X3_isNamed⟩
theorem l_X2_69 : LkV RX2 69 MJ0_length_8abf5 0 := ⟨wl_5 72 rfl rfl, wl_2 25 rfl rfl, wl_2 26 rfl rfl, wl_1 4 rfl rfl, k_J0_length_8abf5, n_J0_length_8abf5⟩
theorem l_X2_75 : LkV RX2 75 MJ0_charAt_5068e 1 := ⟨wl_5 73 rfl rfl, wl_2 34 rfl rfl, wl_2 35 rfl rfl, wl_1 4 rfl rfl, k_J0_charAt_5068e, n_J0_charAt_5068e⟩
theorem l_X2_79 : LkV RX2 79 MX2_hasLetterName 1 := ⟨wl_5 74 rfl rfl, wl_5 76 rfl rfl, wl_inp 21 (by decide +kernel) rfl, wl_1 7 rfl rfl, k_X2_hasLetterName, n_X2_hasLetterName⟩
theorem l_X2_83 : LkV RX2 83 MJ0_substring_37a41 2 := ⟨wl_5 78 rfl rfl, wl_5 79 rfl rfl, wl_5 80 rfl rfl, wl_1 4 rfl rfl, k_J0_substring_37a41, n_J0_substring_37a41⟩
theorem l_X2_100 : LkV RX2 100 MX2_averagePosition 2 := ⟨wl_4 99 rfl rfl, wl_4 100 rfl rfl, wl_4 101 rfl rfl, wl_1 7 rfl rfl, k_X2_averagePosition, n_X2_averagePosition⟩
theorem l_X2_107 : LkV RX2 107 MX0_distanceTo 1 := ⟨wl_4 111 rfl rfl, wl_4 112 rfl rfl, wl_4 113 rfl rfl, wl_1 8 rfl rfl, k_X0_distanceTo, n_X0_distanceTo⟩
theorem l_X2_111 : LkV RX2 111 MX0_rhymesWith 1 := ⟨wl_4 115 rfl rfl, wl_4 116 rfl rfl, wl_4 117 rfl rfl, wl_1 8 rfl rfl, k_X0_rhymesWith, n_X0_rhymesWith⟩
theorem l_X2_124 : LkV RX2 124 MX0_setDigits 1 := ⟨wl_4 39 rfl rfl, wl_2 145 rfl rfl, wl_2 146 rfl rfl, wl_1 8 rfl rfl, k_X0_setDigits, n_X0_setDigits⟩
theorem l_X2_128 : LkV RX2 128 MX2_collectRent 0 := ⟨wl_4 67 rfl rfl, wl_4 69 rfl rfl, wl_inp 13 (by decide +kernel) rfl, wl_1 7 rfl rfl, k_X2_collectRent, n_X2_collectRent⟩
theorem l_X2_131 : LkV RX2 131 MX2_giveLessons 0 := ⟨wl_4 75 rfl rfl, wl_4 77 rfl rfl, wl_inp 14 (by decide +kernel) rfl, wl_1 7 rfl rfl, k_X2_giveLessons, n_X2_giveLessons⟩
theorem l_X2_134 : LkV RX2 134 MX2_serveDinner 1 := ⟨wl_4 87 rfl rfl, wl_4 89 rfl rfl, wl_inp 15 (by decide +kernel) rfl, wl_1 7 rfl rfl, k_X2_serveDinner, n_X2_serveDinner⟩
theorem l_X2_137 : LkV RX2 137 MX2_inspect 0 := ⟨wl_4 103 rfl rfl, wl_4 105 rfl rfl, wl_inp 16 (by decide +kernel) rfl, wl_1 7 rfl rfl, k_X2_inspect, n_X2_inspect⟩
theorem l_X2_140 : LkV RX2 140 MX2_dailyRent 1 := ⟨wl_4 71 rfl rfl, wl_4 72 rfl rfl, wl_4 73 rfl rfl, wl_1 7 rfl rfl, k_X2_dailyRent, n_X2_dailyRent⟩
theorem l_X2_144 : LkV RX2 144 MX0_approach 1 := ⟨wl_4 79 rfl rfl, wl_4 80 rfl rfl, wl_4 81 rfl rfl, wl_1 8 rfl rfl, k_X0_approach, n_X0_approach⟩
theorem l_X2_147 : LkV RX2 147 MX2_crowdOn 1 := ⟨wl_4 91 rfl rfl, wl_4 92 rfl rfl, wl_4 93 rfl rfl, wl_1 7 rfl rfl, k_X2_crowdOn, n_X2_crowdOn⟩
theorem l_X2_150 : LkV RX2 150 MX2_computeAverage 1 := ⟨wl_4 95 rfl rfl, wl_4 96 rfl rfl, wl_4 97 rfl rfl, wl_1 7 rfl rfl, k_X2_computeAverage, n_X2_computeAverage⟩
theorem l_X2_153 : LkV RX2 153 MX2_mustLeave 1 := ⟨wl_4 107 rfl rfl, wl_4 108 rfl rfl, wl_4 109 rfl rfl, wl_1 7 rfl rfl, k_X2_mustLeave, n_X2_mustLeave⟩
theorem l_X2_157 : LkV RX2 157 MX2_dismiss 1 := ⟨wl_4 119 rfl rfl, wl_4 120 rfl rfl, wl_4 121 rfl rfl, wl_1 7 rfl rfl, k_X2_dismiss, n_X2_dismiss⟩
theorem l_X3_38 : LkV RX3 38 MX0_copyFrom 1 := ⟨wl_4 137 rfl rfl, wl_4 129 rfl rfl, wl_4 130 rfl rfl, wl_1 8 rfl rfl, k_X0_copyFrom, n_X0_copyFrom⟩
theorem l_X3_42 : LkV RX3 42 MJ0_length_8abf5 0 := ⟨wl_2 166 rfl rfl, wl_2 25 rfl rfl, wl_2 26 rfl rfl, wl_1 4 rfl rfl, k_J0_length_8abf5, n_J0_length_8abf5⟩
theorem l_X3_48 : LkV RX3 48 MJ0_charAt_5068e 1 := ⟨wl_2 167 rfl rfl, wl_2 34 rfl rfl, wl_2 35 rfl rfl, wl_1 4 rfl rfl, k_J0_charAt_5068e, n_J0_charAt_5068e⟩
theorem l_X4_11 : LkI RX4 11 MX2_init 0 := ⟨wl_1 78 rfl rfl, wl_1 79 rfl rfl, rfl, wl_1 7 rfl rfl, k_X2_init, n_X2_init, rfl⟩
theorem l_X4_28 : LkI RX4 28 MX6_init 1 := ⟨wl_1 192 rfl rfl, wl_1 193 rfl rfl, rfl, wl_1 10 rfl rfl, k_X6_init, n_X6_init, rfl⟩
theorem l_X4_38 : LkV RX4 38 MX6_restart 1 := ⟨wl_2 75 rfl rfl, wl_2 76 rfl rfl, wl_2 77 rfl rfl, wl_1 10 rfl rfl, k_X6_restart, n_X6_restart⟩
theorem l_X4_42 : LkV RX4 42 MX4_readHeader 0 := ⟨wl_2 100 rfl rfl, wl_2 102 rfl rfl, wl_inp 0 (by decide +kernel) rfl, wl_1 6 rfl rfl, k_X4_readHeader, n_X4_readHeader⟩
theorem l_X4_54 : LkV RX4 54 MX6_step 0 := ⟨wl_2 119 rfl rfl, wl_2 85 rfl rfl, wl_2 86 rfl rfl, wl_1 10 rfl rfl, k_X6_step, n_X6_step⟩
theorem l_X4_59 : LkV RX4 59 MX6_isWord 1 := ⟨wl_2 109 rfl rfl, wl_2 110 rfl rfl, wl_2 111 rfl rfl, wl_1 10 rfl rfl, k_X6_isWord, n_X6_isWord⟩
theorem l_X4_63 : LkV RX4 63 MX4_readLodger 0 := ⟨wl_2 149 rfl rfl, wl_2 151 rfl rfl, wl_inp 5 (by decide +kernel) rfl, wl_1 6 rfl rfl, k_X4_readLodger, n_X4_readLodger⟩
theorem l_X4_68 : LkV RX4 68 MX4_readPay 0 := ⟨wl_4 41 rfl rfl, wl_4 43 rfl rfl, wl_inp 9 (by decide +kernel) rfl, wl_1 6 rfl rfl, k_X4_readPay, n_X4_readPay⟩
theorem l_X4_73 : LkV RX4 73 MX4_readMove 0 := ⟨wl_4 54 rfl rfl, wl_4 56 rfl rfl, wl_inp 11 (by decide +kernel) rfl, wl_1 6 rfl rfl, k_X4_readMove, n_X4_readMove⟩
theorem l_X4_78 : LkV RX4 78 MX4_readDays 0 := ⟨wl_4 59 rfl rfl, wl_4 61 rfl rfl, wl_inp 12 (by decide +kernel) rfl, wl_1 6 rfl rfl, k_X4_readDays, n_X4_readDays⟩
theorem l_X4_84 : LkV RX4 84 MX4_fail 2 := ⟨wl_2 120 rfl rfl, wl_2 122 rfl rfl, wl_inp 2 (by decide +kernel) rfl, wl_1 6 rfl rfl, k_X4_fail, n_X4_fail⟩
theorem l_X4_92 : LkV RX4 92 MX4_expectWord 1 := ⟨wl_2 105 rfl rfl, wl_2 107 rfl rfl, wl_inp 1 (by decide +kernel) rfl, wl_1 6 rfl rfl, k_X4_expectWord, n_X4_expectWord⟩
theorem l_X4_96 : LkV RX4 96 MX4_readNumber 2 := ⟨wl_2 124 rfl rfl, wl_2 126 rfl rfl, wl_inp 3 (by decide +kernel) rfl, wl_1 6 rfl rfl, k_X4_readNumber, n_X4_readNumber⟩
theorem l_X4_102 : LkV RX4 102 MX2_open 2 := ⟨wl_2 136 rfl rfl, wl_2 137 rfl rfl, wl_2 138 rfl rfl, wl_1 7 rfl rfl, k_X2_open, n_X2_open⟩
theorem l_X4_108 : LkV RX4 108 MX4_readAccent 0 := ⟨wl_2 140 rfl rfl, wl_2 142 rfl rfl, wl_inp 4 (by decide +kernel) rfl, wl_1 6 rfl rfl, k_X4_readAccent, n_X4_readAccent⟩
theorem l_X4_112 : LkV RX4 112 MX0_setDigits 1 := ⟨wl_2 144 rfl rfl, wl_2 145 rfl rfl, wl_2 146 rfl rfl, wl_1 8 rfl rfl, k_X0_setDigits, n_X0_setDigits⟩
theorem l_X4_120 : LkV RX4 120 MX4_isAtName 0 := ⟨wl_2 153 rfl rfl, wl_2 155 rfl rfl, wl_inp 6 (by decide +kernel) rfl, wl_1 6 rfl rfl, k_X4_isAtName, n_X4_isAtName⟩
theorem l_X4_127 : LkV RX4 127 MX2_numberOf 3 := ⟨wl_2 158 rfl rfl, wl_2 159 rfl rfl, wl_2 160 rfl rfl, wl_1 7 rfl rfl, k_X2_numberOf, n_X2_numberOf⟩
theorem l_X4_131 : LkV RX4 131 MX6_word 0 := ⟨wl_2 168 rfl rfl, wl_2 169 rfl rfl, wl_2 170 rfl rfl, wl_1 10 rfl rfl, k_X6_word, n_X6_word⟩
theorem l_X4_135 : LkV RX4 135 MX4_readFloor 1 := ⟨wl_4 27 rfl rfl, wl_4 29 rfl rfl, wl_inp 8 (by decide +kernel) rfl, wl_1 6 rfl rfl, k_X4_readFloor, n_X4_readFloor⟩
theorem l_X4_139 : LkV RX4 139 MX2_receive 4 := ⟨wl_4 35 rfl rfl, wl_4 36 rfl rfl, wl_4 37 rfl rfl, wl_1 7 rfl rfl, k_X2_receive, n_X2_receive⟩
theorem l_X4_143 : LkV RX4 143 MX4_readKnownName 0 := ⟨wl_4 45 rfl rfl, wl_4 47 rfl rfl, wl_inp 10 (by decide +kernel) rfl, wl_1 6 rfl rfl, k_X4_readKnownName, n_X4_readKnownName⟩
theorem l_X4_147 : LkV RX4 147 MX2_takePayment 2 := ⟨wl_4 49 rfl rfl, wl_4 50 rfl rfl, wl_4 51 rfl rfl, wl_1 7 rfl rfl, k_X2_takePayment, n_X2_takePayment⟩
theorem l_X4_156 : LkV RX4 156 MX2_passDay 0 := ⟨wl_4 63 rfl rfl, wl_4 64 rfl rfl, wl_4 65 rfl rfl, wl_1 7 rfl rfl, k_X2_passDay, n_X2_passDay⟩
theorem l_X4_162 : LkV RX4 162 MX6_size 0 := ⟨wl_2 129 rfl rfl, wl_2 114 rfl rfl, wl_2 115 rfl rfl, wl_1 10 rfl rfl, k_X6_size, n_X6_size⟩
theorem l_X4_172 : LkV RX4 172 MX6_value 0 := ⟨wl_2 130 rfl rfl, wl_2 131 rfl rfl, wl_2 132 rfl rfl, wl_1 10 rfl rfl, k_X6_value, n_X6_value⟩
theorem l_X4_175 : LkV RX4 175 MX2_isFullFor 2 := ⟨wl_4 31 rfl rfl, wl_4 32 rfl rfl, wl_4 33 rfl rfl, wl_1 7 rfl rfl, k_X2_isFullFor, n_X2_isFullFor⟩
theorem l_X6_9 : LkI RX6 9 MJ4_init_da8c8 0 := ⟨wl_1 197 rfl rfl, wl_1 40 rfl rfl, rfl, wl_1 3 rfl rfl, k_J4_init_da8c8, n_J4_init_da8c8, rfl⟩
theorem l_X6_29 : LkS RX6 29 MJ9_min_7cf53 2 := ⟨wl_2 79 rfl rfl, wl_2 80 rfl rfl, wl_1 16 rfl rfl, k_J9_min_7cf53, n_J9_min_7cf53⟩
theorem l_X6_45 : LkV RX6 45 MX6_step 0 := ⟨wl_2 84 rfl rfl, wl_2 85 rfl rfl, wl_2 86 rfl rfl, wl_1 10 rfl rfl, k_X6_step, n_X6_step⟩
theorem l_X6_57 : LkS RX6 57 MX6_isLetter 1 := ⟨wl_2 92 rfl rfl, wl_2 93 rfl rfl, wl_1 10 rfl rfl, k_X6_isLetter, n_X6_isLetter⟩
theorem l_X6_64 : LkS RX6 64 MX6_isDigit 1 := ⟨wl_2 97 rfl rfl, wl_2 98 rfl rfl, wl_1 10 rfl rfl, k_X6_isDigit, n_X6_isDigit⟩
theorem l_X6_67 : LkV RX6 67 MX6_size 0 := ⟨wl_2 113 rfl rfl, wl_2 114 rfl rfl, wl_2 115 rfl rfl, wl_1 10 rfl rfl, k_X6_size, n_X6_size⟩
theorem l_X6_71 : LkV RX6 71 MJ0_length_8abf5 0 := ⟨wl_2 117 rfl rfl, wl_2 25 rfl rfl, wl_2 26 rfl rfl, wl_1 4 rfl rfl, k_J0_length_8abf5, n_J0_length_8abf5⟩
theorem l_X6_75 : LkV RX6 75 MJ0_charAt_5068e 1 := ⟨wl_2 118 rfl rfl, wl_2 34 rfl rfl, wl_2 35 rfl rfl, wl_1 4 rfl rfl, k_J0_charAt_5068e, n_J0_charAt_5068e⟩
theorem l_X6_79 : LkV RX6 79 MJ4_setLength_d00df 1 := ⟨wl_2 172 rfl rfl, wl_2 173 rfl rfl, wl_2 174 rfl rfl, wl_1 3 rfl rfl, k_J4_setLength_d00df, n_J4_setLength_d00df⟩
theorem l_X6_83 : LkV RX6 83 MJ4_append_cf468 1 := ⟨wl_4 13 rfl rfl, wl_4 14 rfl rfl, wl_4 15 rfl rfl, wl_1 3 rfl rfl, k_J4_append_cf468, n_J4_append_cf468⟩
theorem l_X6_87 : LkV RX6 87 MJ4_toString_0e30d 0 := ⟨wl_4 26 rfl rfl, wl_3 72 rfl rfl, wl_3 73 rfl rfl, wl_1 3 rfl rfl, k_J4_toString_0e30d, n_J4_toString_0e30d⟩
theorem l_L_8 : LkV RL 8 MJ0_length_8abf5 0 := ⟨wl_5 2 rfl rfl, wl_2 25 rfl rfl, wl_2 26 rfl rfl, wl_1 4 rfl rfl, k_J0_length_8abf5, n_J0_length_8abf5⟩
theorem l_L_14 : LkV RL 14 MJ0_charAt_5068e 1 := ⟨wl_5 3 rfl rfl, wl_2 34 rfl rfl, wl_2 35 rfl rfl, wl_1 4 rfl rfl, k_J0_charAt_5068e, n_J0_charAt_5068e⟩
theorem l_L_18 : LkV RL 18 MX7_append 5 := ⟨wl_5 4 rfl rfl, wl_5 5 rfl rfl, wl_5 6 rfl rfl, wl_1 1 rfl rfl, k_X7_append, n_X7_append⟩
theorem l_L_24 : LkS RL 24 ML_type 2 := ⟨wl_4 239 rfl rfl, wl_5 0 rfl rfl, wl_1 0 rfl rfl, k_L_type, n_L_type⟩
theorem l_L_30 : LkV RL 30 MX7_load 1 := ⟨wl_5 13 rfl rfl, wl_5 14 rfl rfl, wl_5 15 rfl rfl, wl_1 1 rfl rfl, k_X7_load, n_X7_load⟩
theorem l_L_38 : LkV RL 38 MX7_undo 0 := ⟨wl_5 29 rfl rfl, wl_5 30 rfl rfl, wl_5 31 rfl rfl, wl_1 1 rfl rfl, k_X7_undo, n_X7_undo⟩
theorem l_L_43 : LkV RL 43 MX7_advance 1 := ⟨wl_5 41 rfl rfl, wl_5 42 rfl rfl, wl_5 43 rfl rfl, wl_1 1 rfl rfl, k_X7_advance, n_X7_advance⟩
theorem l_L_46 : LkV RL 46 MX7_moveIn 3 := ⟨wl_5 55 rfl rfl, wl_5 56 rfl rfl, wl_5 57 rfl rfl, wl_1 1 rfl rfl, k_X7_moveIn, n_X7_moveIn⟩
theorem l_L_50 : LkV RL 50 MX7_moveOut 1 := ⟨wl_5 107 rfl rfl, wl_5 108 rfl rfl, wl_5 109 rfl rfl, wl_1 1 rfl rfl, k_X7_moveOut, n_X7_moveOut⟩
theorem l_L_53 : LkV RL 53 MX7_moveTo 2 := ⟨wl_5 120 rfl rfl, wl_5 121 rfl rfl, wl_5 122 rfl rfl, wl_1 1 rfl rfl, k_X7_moveTo, n_X7_moveTo⟩
theorem l_L_57 : LkV RL 57 MX7_pay 2 := ⟨wl_5 127 rfl rfl, wl_5 128 rfl rfl, wl_5 129 rfl rfl, wl_1 1 rfl rfl, k_X7_pay, n_X7_pay⟩
theorem l_L_62 : LkV RL 62 MX7_setLandladyVowel 2 := ⟨wl_5 137 rfl rfl, wl_5 138 rfl rfl, wl_5 139 rfl rfl, wl_1 1 rfl rfl, k_X7_setLandladyVowel, n_X7_setLandladyVowel⟩
theorem l_L_65 : LkV RL 65 MX7_setTolerance 1 := ⟨wl_5 149 rfl rfl, wl_5 150 rfl rfl, wl_5 151 rfl rfl, wl_1 1 rfl rfl, k_X7_setTolerance, n_X7_setTolerance⟩
theorem l_L_68 : LkV RL 68 MX7_setBaseRent 1 := ⟨wl_5 156 rfl rfl, wl_5 157 rfl rfl, wl_5 158 rfl rfl, wl_1 1 rfl rfl, k_X7_setBaseRent, n_X7_setBaseRent⟩
theorem l_L_71 : LkV RL 71 MX7_lodgerOn 2 := ⟨wl_6 32 rfl rfl, wl_6 33 rfl rfl, wl_6 34 rfl rfl, wl_1 1 rfl rfl, k_X7_lodgerOn, n_X7_lodgerOn⟩
theorem l_L_74 : LkV RL 74 MX7_averageVowel 2 := ⟨wl_6 49 rfl rfl, wl_6 50 rfl rfl, wl_6 51 rfl rfl, wl_1 1 rfl rfl, k_X7_averageVowel, n_X7_averageVowel⟩
theorem l_L_81 : LkI RL 81 MJ4_init_a7421 1 := ⟨wl_5 165 rfl rfl, wl_5 166 rfl rfl, rfl, wl_1 3 rfl rfl, k_J4_init_a7421, n_J4_init_a7421, rfl⟩
theorem l_L_84 : LkS RL 84 ML_next 1 := ⟨wl_4 230 rfl rfl, wl_4 231 rfl rfl, wl_1 0 rfl rfl, k_L_next, n_L_next⟩
theorem l_L_88 : LkV RL 88 MJ4_append_bf812 1 := ⟨wl_5 176 rfl rfl, wl_3 47 rfl rfl, wl_3 48 rfl rfl, wl_1 3 rfl rfl, k_J4_append_bf812, n_J4_append_bf812⟩
theorem l_L_91 : LkV RL 91 MJ4_append_cf468 1 := ⟨wl_5 177 rfl rfl, wl_4 14 rfl rfl, wl_4 15 rfl rfl, wl_1 3 rfl rfl, k_J4_append_cf468, n_J4_append_cf468⟩
theorem l_L_96 : LkV RL 96 MJ4_append_15ec4 1 := ⟨wl_5 179 rfl rfl, wl_2 188 rfl rfl, wl_2 189 rfl rfl, wl_1 3 rfl rfl, k_J4_append_15ec4, n_J4_append_15ec4⟩
theorem l_L_103 : LkV RL 103 MJ4_toString_0e30d 0 := ⟨wl_5 182 rfl rfl, wl_3 72 rfl rfl, wl_3 73 rfl rfl, wl_1 3 rfl rfl, k_J4_toString_0e30d, n_J4_toString_0e30d⟩
theorem l_L_109 : LkV RL 109 MX7_day 0 := ⟨wl_4 172 rfl rfl, wl_4 173 rfl rfl, wl_4 174 rfl rfl, wl_1 1 rfl rfl, k_X7_day, n_X7_day⟩
theorem l_L_112 : LkV RL 112 MX7_baseRent 0 := ⟨wl_5 187 rfl rfl, wl_5 188 rfl rfl, wl_5 189 rfl rfl, wl_1 1 rfl rfl, k_X7_baseRent, n_X7_baseRent⟩
theorem l_L_115 : LkV RL 115 MX7_tolerance 0 := ⟨wl_5 191 rfl rfl, wl_5 192 rfl rfl, wl_5 193 rfl rfl, wl_1 1 rfl rfl, k_X7_tolerance, n_X7_tolerance⟩
theorem l_L_118 : LkV RL 118 MX7_evictions 0 := ⟨wl_5 195 rfl rfl, wl_5 196 rfl rfl, wl_5 197 rfl rfl, wl_1 1 rfl rfl, k_X7_evictions, n_X7_evictions⟩
theorem l_L_121 : LkV RL 121 MX7_totalPaid 0 := ⟨wl_5 199 rfl rfl, wl_5 200 rfl rfl, wl_5 201 rfl rfl, wl_1 1 rfl rfl, k_X7_totalPaid, n_X7_totalPaid⟩
theorem l_L_124 : LkV RL 124 MX7_totalCharged 0 := ⟨wl_5 203 rfl rfl, wl_5 204 rfl rfl, wl_5 205 rfl rfl, wl_1 1 rfl rfl, k_X7_totalCharged, n_X7_totalCharged⟩
theorem l_L_127 : LkV RL 127 MX7_settled 0 := ⟨wl_5 207 rfl rfl, wl_5 208 rfl rfl, wl_5 209 rfl rfl, wl_1 1 rfl rfl, k_X7_settled, n_X7_settled⟩
theorem l_L_130 : LkV RL 130 MX7_landladyVowel 1 := ⟨wl_5 211 rfl rfl, wl_5 212 rfl rfl, wl_5 213 rfl rfl, wl_1 1 rfl rfl, k_X7_landladyVowel, n_X7_landladyVowel⟩
theorem l_L_133 : LkV RL 133 MX7_lodgerCount 0 := ⟨wl_4 176 rfl rfl, wl_4 177 rfl rfl, wl_4 178 rfl rfl, wl_1 1 rfl rfl, k_X7_lodgerCount, n_X7_lodgerCount⟩
theorem l_L_136 : LkV RL 136 MX7_floorOf 1 := ⟨wl_5 215 rfl rfl, wl_5 216 rfl rfl, wl_5 217 rfl rfl, wl_1 1 rfl rfl, k_X7_floorOf, n_X7_floorOf⟩
theorem l_L_139 : LkV RL 139 MX7_balanceOf 1 := ⟨wl_5 219 rfl rfl, wl_5 220 rfl rfl, wl_5 221 rfl rfl, wl_1 1 rfl rfl, k_X7_balanceOf, n_X7_balanceOf⟩
theorem l_L_142 : LkV RL 142 MX7_lessonsOf 1 := ⟨wl_5 223 rfl rfl, wl_5 224 rfl rfl, wl_5 225 rfl rfl, wl_1 1 rfl rfl, k_X7_lessonsOf, n_X7_lessonsOf⟩
theorem l_L_145 : LkV RL 145 MX7_slipsOf 1 := ⟨wl_5 227 rfl rfl, wl_5 228 rfl rfl, wl_5 229 rfl rfl, wl_1 1 rfl rfl, k_X7_slipsOf, n_X7_slipsOf⟩
theorem l_L_148 : LkV RL 148 MX7_daysStayed 1 := ⟨wl_5 231 rfl rfl, wl_5 232 rfl rfl, wl_5 233 rfl rfl, wl_1 1 rfl rfl, k_X7_daysStayed, n_X7_daysStayed⟩
theorem l_L_151 : LkV RL 151 MX7_nameLength 1 := ⟨wl_5 235 rfl rfl, wl_5 236 rfl rfl, wl_5 237 rfl rfl, wl_1 1 rfl rfl, k_X7_nameLength, n_X7_nameLength⟩
theorem l_L_154 : LkV RL 154 MX7_vowelOf 2 := ⟨wl_5 239 rfl rfl, wl_6 0 rfl rfl, wl_6 1 rfl rfl, wl_1 1 rfl rfl, k_X7_vowelOf, n_X7_vowelOf⟩
theorem l_L_157 : LkV RL 157 MX7_nameLetter 2 := ⟨wl_6 3 rfl rfl, wl_6 4 rfl rfl, wl_6 5 rfl rfl, wl_1 1 rfl rfl, k_X7_nameLetter, n_X7_nameLetter⟩
theorem l_L_161 : LkV RL 161 MX7_ledgerDifference 0 := ⟨wl_6 11 rfl rfl, wl_6 12 rfl rfl, wl_6 13 rfl rfl, wl_1 1 rfl rfl, k_X7_ledgerDifference, n_X7_ledgerDifference⟩
theorem l_L_164 : LkV RL 164 MX7_daysToInspection 0 := ⟨wl_6 15 rfl rfl, wl_6 16 rfl rfl, wl_6 17 rfl rfl, wl_1 1 rfl rfl, k_X7_daysToInspection, n_X7_daysToInspection⟩
theorem l_L_167 : LkV RL 167 MX7_lodgersOn 1 := ⟨wl_6 19 rfl rfl, wl_6 20 rfl rfl, wl_6 21 rfl rfl, wl_1 1 rfl rfl, k_X7_lodgersOn, n_X7_lodgersOn⟩
theorem l_L_174 : LkV RL 174 MX7_rentOf 1 := ⟨wl_6 41 rfl rfl, wl_6 42 rfl rfl, wl_6 43 rfl rfl, wl_1 1 rfl rfl, k_X7_rentOf, n_X7_rentOf⟩
theorem l_L_180 : LkS RL 180 MJ9_abs_0f7a4 1 := ⟨wl_6 55 rfl rfl, wl_6 56 rfl rfl, wl_1 16 rfl rfl, k_J9_abs_0f7a4, n_J9_abs_0f7a4⟩
theorem l_L_185 : LkS RL 185 MJ9_max_7cf53 2 := ⟨wl_6 58 rfl rfl, wl_2 210 rfl rfl, wl_1 16 rfl rfl, k_J9_max_7cf53, n_J9_max_7cf53⟩
theorem l_L_188 : LkV RL 188 MX7_slipVowel 1 := ⟨wl_6 59 rfl rfl, wl_6 60 rfl rfl, wl_6 61 rfl rfl, wl_1 1 rfl rfl, k_X7_slipVowel, n_X7_slipVowel⟩
theorem l_L_191 : LkV RL 191 MX7_distance 2 := ⟨wl_6 68 rfl rfl, wl_6 69 rfl rfl, wl_6 70 rfl rfl, wl_1 1 rfl rfl, k_X7_distance, n_X7_distance⟩
theorem l_L_194 : LkV RL 194 MX7_rhymes 2 := ⟨wl_6 73 rfl rfl, wl_6 74 rfl rfl, wl_6 75 rfl rfl, wl_1 1 rfl rfl, k_X7_rhymes, n_X7_rhymes⟩
theorem l_L_198 : LkV RL 198 MX7_distanceToLandlady 1 := ⟨wl_6 78 rfl rfl, wl_6 79 rfl rfl, wl_6 80 rfl rfl, wl_1 1 rfl rfl, k_X7_distanceToLandlady, n_X7_distanceToLandlady⟩
theorem l_L_201 : LkV RL 201 MX7_rhymesWithLandlady 1 := ⟨wl_6 82 rfl rfl, wl_6 83 rfl rfl, wl_6 84 rfl rfl, wl_1 1 rfl rfl, k_X7_rhymesWithLandlady, n_X7_rhymesWithLandlady⟩
theorem l_L_205 : LkV RL 205 MX7_lessonVowel 1 := ⟨wl_6 86 rfl rfl, wl_6 87 rfl rfl, wl_6 88 rfl rfl, wl_1 1 rfl rfl, k_X7_lessonVowel, n_X7_lessonVowel⟩
theorem l_L_208 : LkV RL 208 MX7_rhymeCount 1 := ⟨wl_6 90 rfl rfl, wl_6 91 rfl rfl, wl_6 92 rfl rfl, wl_1 1 rfl rfl, k_X7_rhymeCount, n_X7_rhymeCount⟩
theorem l_L_211 : LkV RL 211 MX7_closestTo 1 := ⟨wl_6 94 rfl rfl, wl_6 95 rfl rfl, wl_6 96 rfl rfl, wl_1 1 rfl rfl, k_X7_closestTo, n_X7_closestTo⟩
theorem l_L_214 : LkV RL 214 MX7_mustGo 1 := ⟨wl_6 98 rfl rfl, wl_6 99 rfl rfl, wl_6 100 rfl rfl, wl_1 1 rfl rfl, k_X7_mustGo, n_X7_mustGo⟩
theorem l_L_217 : LkV RL 217 MX7_balanceAfter 2 := ⟨wl_6 103 rfl rfl, wl_6 104 rfl rfl, wl_6 105 rfl rfl, wl_1 1 rfl rfl, k_X7_balanceAfter, n_X7_balanceAfter⟩
theorem l_L_220 : LkV RL 220 MX7_distanceAfter 2 := ⟨wl_6 119 rfl rfl, wl_6 120 rfl rfl, wl_6 121 rfl rfl, wl_1 1 rfl rfl, k_X7_distanceAfter, n_X7_distanceAfter⟩
theorem l_L_223 : LkV RL 223 MX7_meanDistance 0 := ⟨wl_6 123 rfl rfl, wl_6 124 rfl rfl, wl_6 125 rfl rfl, wl_1 1 rfl rfl, k_X7_meanDistance, n_X7_meanDistance⟩
theorem l_L_227 : LkV RL 227 MX7_rhymingShare 0 := ⟨wl_6 127 rfl rfl, wl_6 128 rfl rfl, wl_6 129 rfl rfl, wl_1 1 rfl rfl, k_X7_rhymingShare, n_X7_rhymingShare⟩
theorem l_L_231 : LkV RL 231 MX7_paymentToStay 1 := ⟨wl_6 134 rfl rfl, wl_6 135 rfl rfl, wl_6 136 rfl rfl, wl_1 1 rfl rfl, k_X7_paymentToStay, n_X7_paymentToStay⟩
theorem l_L_234 : LkV RL 234 MX7_daysToEviction 1 := ⟨wl_6 143 rfl rfl, wl_6 144 rfl rfl, wl_6 145 rfl rfl, wl_1 1 rfl rfl, k_X7_daysToEviction, n_X7_daysToEviction⟩
theorem l_L_268 : LkI RL 268 MX7_init 0 := ⟨wl_1 31 rfl rfl, wl_1 32 rfl rfl, rfl, wl_1 1 rfl rfl, k_X7_init, n_X7_init, rfl⟩
theorem l_L_269 : LkS RL 269 ML_house 2 := ⟨wl_5 160 rfl rfl, wl_5 161 rfl rfl, wl_1 0 rfl rfl, k_L_house, n_L_house⟩
theorem l_L_275 : LkV RL 275 MX7_save 1 := ⟨wl_4 226 rfl rfl, wl_4 227 rfl rfl, wl_4 228 rfl rfl, wl_1 1 rfl rfl, k_X7_save, n_X7_save⟩
theorem l_L_278 : LkS RL 278 ML_sum 1 := ⟨wl_5 183 rfl rfl, wl_5 184 rfl rfl, wl_1 0 rfl rfl, k_L_sum, n_L_sum⟩
theorem l_L_282 : LkS RL 282 ML_act 2 := ⟨wl_6 147 rfl rfl, wl_6 148 rfl rfl, wl_1 0 rfl rfl, k_L_act, n_L_act⟩
theorem l_L_286 : LkS RL 286 ML_floors 1 := ⟨wl_6 8 rfl rfl, wl_6 9 rfl rfl, wl_1 0 rfl rfl, k_L_floors, n_L_floors⟩
theorem l_L_290 : LkS RL 290 ML_accents 1 := ⟨wl_6 65 rfl rfl, wl_6 66 rfl rfl, wl_1 0 rfl rfl, k_L_accents, n_L_accents⟩
theorem l_L_293 : LkS RL 293 ML_saves 2 := ⟨wl_6 131 rfl rfl, wl_6 132 rfl rfl, wl_1 0 rfl rfl, k_L_saves, n_L_saves⟩
theorem l_L_297 : LkV RL 297 MX7_undoCount 0 := ⟨wl_4 180 rfl rfl, wl_4 181 rfl rfl, wl_4 182 rfl rfl, wl_1 1 rfl rfl, k_X7_undoCount, n_X7_undoCount⟩
theorem l_L_300 : LkV RL 300 MX7_restore 1 := ⟨wl_4 184 rfl rfl, wl_4 185 rfl rfl, wl_4 186 rfl rfl, wl_1 1 rfl rfl, k_X7_restore, n_X7_restore⟩
theorem l_J5_26 : LkS RJ5 26 MJ2_newBytesFor_77867 1 := ⟨wl_1 48 rfl rfl, wl_1 49 rfl rfl, wl_1 5 rfl rfl, k_J2_newBytesFor_77867, n_J2_newBytesFor_77867⟩
theorem l_J5_32 : LkV RJ5 32 MJ0_length_8abf5 0 := ⟨wl_3 11 rfl rfl, wl_2 25 rfl rfl, wl_2 26 rfl rfl, wl_1 4 rfl rfl, k_J0_length_8abf5, n_J0_length_8abf5⟩
theorem l_J5_40 : LkV RJ5 40 MJ0_coder_7d493 0 := ⟨wl_3 20 rfl rfl, wl_2 29 rfl rfl, wl_2 30 rfl rfl, wl_1 4 rfl rfl, k_J0_coder_7d493, n_J0_coder_7d493⟩
theorem l_J5_108 : LkS RJ5 108 MJ7_copyOf_9075b 2 := ⟨wl_2 217 rfl rfl, wl_2 218 rfl rfl, wl_1 23 rfl rfl, k_J7_copyOf_9075b, n_J7_copyOf_9075b⟩
theorem l_J5_114 : LkS RJ5 114 MJ8_newLength_cabcc 3 := ⟨wl_2 206 rfl rfl, wl_2 207 rfl rfl, wl_1 22 rfl rfl, k_J8_newLength_cabcc, n_J8_newLength_cabcc⟩
theorem l_J5_125 : LkS RJ5 125 MJ1_inflate_0e8fd 5 := ⟨wl_3 25 rfl rfl, wl_3 26 rfl rfl, wl_1 14 rfl rfl, k_J1_inflate_0e8fd, n_J1_inflate_0e8fd⟩
theorem l_J5_131 : LkI RJ5 131 MJx7c733_init_d00df 1 := ⟨wl_2 181 rfl rfl, wl_2 182 rfl rfl, rfl, wl_1 21 rfl rfl, k_Jx7c733_init_d00df, n_Jx7c733_init_d00df, rfl⟩
theorem l_J5_133 : LkS RJ5 133 MJ1_fillNull_b72d1 3 := ⟨wl_3 214 rfl rfl, wl_3 215 rfl rfl, wl_1 14 rfl rfl, k_J1_fillNull_b72d1, n_J1_fillNull_b72d1⟩
theorem l_J5_137 : LkS RJ5 137 MJ2_fillNull_b72d1 3 := ⟨wl_4 9 rfl rfl, wl_4 10 rfl rfl, wl_1 5 rfl rfl, k_J2_fillNull_b72d1, n_J2_fillNull_b72d1⟩
theorem l_J5_191 : LkS RJ5 191 MJ1_canEncode_fc78d 1 := ⟨wl_4 20 rfl rfl, wl_4 21 rfl rfl, wl_1 14 rfl rfl, k_J1_canEncode_fc78d, n_J1_canEncode_fc78d⟩
theorem l_J5_197 : LkS RJ5 197 MJ2_putCharSB_b72d1 3 := ⟨wl_4 23 rfl rfl, wl_4 24 rfl rfl, wl_1 5 rfl rfl, k_J2_putCharSB_b72d1, n_J2_putCharSB_b72d1⟩
theorem l_J5_226 : LkS RJ5 226 MJ2_putCharsAt_cd4e5 6 := ⟨wl_2 236 rfl rfl, wl_2 237 rfl rfl, wl_1 5 rfl rfl, k_J2_putCharsAt_cd4e5, n_J2_putCharsAt_cd4e5⟩
theorem l_J5_245 : LkS RJ5 245 MJ6_stringSize_0f7a4 1 := ⟨wl_3 53 rfl rfl, wl_3 54 rfl rfl, wl_1 25 rfl rfl, k_J6_stringSize_0f7a4, n_J6_stringSize_0f7a4⟩
theorem l_J5_248 : LkS RJ5 248 MJ6_getChars_ba4f3 3 := ⟨wl_3 56 rfl rfl, wl_3 57 rfl rfl, wl_1 25 rfl rfl, k_J6_getChars_ba4f3, n_J6_getChars_ba4f3⟩
theorem l_J5_251 : LkS RJ5 251 MJ2_getChars_46870 4 := ⟨wl_3 63 rfl rfl, wl_3 64 rfl rfl, wl_1 5 rfl rfl, k_J2_getChars_46870, n_J2_getChars_46870⟩
theorem l_J5_399 : LkV RJ5 399 MJ0_getBytes_840e7 3 := ⟨wl_3 40 rfl rfl, wl_3 41 rfl rfl, wl_3 42 rfl rfl, wl_1 4 rfl rfl, k_J0_getBytes_840e7, n_J0_getBytes_840e7⟩
theorem l_Jx00060_12 : LkI RJx00060 12 MJ4_init_da8c8 0 := ⟨wl_4 1 rfl rfl, wl_1 40 rfl rfl, rfl, wl_1 3 rfl rfl, k_J4_init_da8c8, n_J4_init_da8c8, rfl⟩
theorem l_Jx00060_15 : LkV RJx00060 15 MJ4_append_15ec4 1 := ⟨wl_4 3 rfl rfl, wl_2 188 rfl rfl, wl_2 189 rfl rfl, wl_1 3 rfl rfl, k_J4_append_15ec4, n_J4_append_15ec4⟩
theorem l_Jx00060_19 : LkV RJx00060 19 MJ4_append_bf812 1 := ⟨wl_4 4 rfl rfl, wl_3 47 rfl rfl, wl_3 48 rfl rfl, wl_1 3 rfl rfl, k_J4_append_bf812, n_J4_append_bf812⟩
theorem l_Jx00060_22 : LkV RJx00060 22 MJ4_toString_0e30d 0 := ⟨wl_4 5 rfl rfl, wl_3 72 rfl rfl, wl_3 73 rfl rfl, wl_1 3 rfl rfl, k_J4_toString_0e30d, n_J4_toString_0e30d⟩
theorem l_J0_47 : LkS RJ0 47 MJ2_coderFromArrayLen_85cad 2 := ⟨wl_3 189 rfl rfl, wl_3 190 rfl rfl, wl_1 5 rfl rfl, k_J2_coderFromArrayLen_85cad, n_J2_coderFromArrayLen_85cad⟩
theorem l_J0_54 : LkS RJ0 54 MJ7_copyOfRange_39247 3 := ⟨wl_3 98 rfl rfl, wl_3 99 rfl rfl, wl_1 23 rfl rfl, k_J7_copyOfRange_39247, n_J7_copyOfRange_39247⟩
theorem l_J0_106 : LkS RJ0 106 MJ1_inflate_0e8fd 5 := ⟨wl_3 45 rfl rfl, wl_3 26 rfl rfl, wl_1 14 rfl rfl, k_J1_inflate_0e8fd, n_J1_inflate_0e8fd⟩
theorem l_J0_335 : LkV RJ0 335 MJ0_coder_7d493 0 := ⟨wl_2 28 rfl rfl, wl_2 29 rfl rfl, wl_2 30 rfl rfl, wl_1 4 rfl rfl, k_J0_coder_7d493, n_J0_coder_7d493⟩
theorem l_J0_489 : LkI RJ0 489 MJ0_init_db425 2 := ⟨wl_3 80 rfl rfl, wl_3 81 rfl rfl, rfl, wl_1 4 rfl rfl, k_J0_init_db425, n_J0_init_db425, rfl⟩
theorem l_J0_492 : LkV RJ0 492 MJ0_isLatin1_aae02 0 := ⟨wl_2 37 rfl rfl, wl_2 38 rfl rfl, wl_2 39 rfl rfl, wl_1 4 rfl rfl, k_J0_isLatin1_aae02, n_J0_isLatin1_aae02⟩
theorem l_J0_495 : LkS RJ0 495 MJ1_charAt_3b067 2 := ⟨wl_2 41 rfl rfl, wl_2 42 rfl rfl, wl_1 14 rfl rfl, k_J1_charAt_3b067, n_J1_charAt_3b067⟩
theorem l_J0_498 : LkS RJ0 498 MJ2_charAt_3b067 2 := ⟨wl_2 52 rfl rfl, wl_2 53 rfl rfl, wl_1 5 rfl rfl, k_J2_charAt_3b067, n_J2_charAt_3b067⟩
theorem l_J0_505 : LkV RJ0 505 MJ0_length_8abf5 0 := ⟨wl_5 82 rfl rfl, wl_2 25 rfl rfl, wl_2 26 rfl rfl, wl_1 4 rfl rfl, k_J0_length_8abf5, n_J0_length_8abf5⟩
theorem l_J0_521 : LkS RJ0 521 MJ0_checkBoundsBeginEnd_23922 3 := ⟨wl_5 83 rfl rfl, wl_3 3 rfl rfl, wl_1 4 rfl rfl, k_J0_checkBoundsBeginEnd_23922, n_J0_checkBoundsBeginEnd_23922⟩
theorem l_J0_685 : LkS RJ0 685 MJ1_newString_b4f7a 3 := ⟨wl_5 84 rfl rfl, wl_5 85 rfl rfl, wl_1 14 rfl rfl, k_J1_newString_b4f7a, n_J1_newString_b4f7a⟩
theorem l_J0_689 : LkS RJ0 689 MJ2_newString_b4f7a 3 := ⟨wl_5 93 rfl rfl, wl_5 94 rfl rfl, wl_1 5 rfl rfl, k_J2_newString_b4f7a, n_J2_newString_b4f7a⟩
theorem l_J0_1051 : LkS RJ0 1051 MJ2_compress_39247 3 := ⟨wl_3 182 rfl rfl, wl_3 183 rfl rfl, wl_1 5 rfl rfl, k_J2_compress_39247, n_J2_compress_39247⟩
theorem l_J0_1059 : LkS RJ0 1059 MJ3_checkIndex_8e157 3 := ⟨wl_2 49 rfl rfl, wl_2 50 rfl rfl, wl_1 15 rfl rfl, k_J3_checkIndex_8e157, n_J3_checkIndex_8e157⟩
theorem l_J0_1062 : LkS RJ0 1062 MJ3_checkFromToIndex_8c36e 4 := ⟨wl_3 5 rfl rfl, wl_3 6 rfl rfl, wl_1 15 rfl rfl, k_J3_checkFromToIndex_8c36e, n_J3_checkFromToIndex_8c36e⟩
theorem l_J0_1065 : LkS RJ0 1065 MJ3_checkFromIndexSize_8c36e 4 := ⟨wl_3 37 rfl rfl, wl_3 38 rfl rfl, wl_1 15 rfl rfl, k_J3_checkFromIndexSize_8c36e, n_J3_checkFromIndexSize_8c36e⟩
theorem l_J4_1 : LkI RJ4 1 MJ5_init_d00df 1 := ⟨wl_1 42 rfl rfl, wl_1 43 rfl rfl, rfl, wl_1 2 rfl rfl, k_J5_init_d00df, n_J5_init_d00df, rfl⟩
theorem l_J4_7 : LkI RJ4 7 MJ5_init_a7421 1 := ⟨wl_5 168 rfl rfl, wl_5 169 rfl rfl, rfl, wl_1 2 rfl rfl, k_J5_init_a7421, n_J5_init_a7421, rfl⟩
theorem l_J4_23 : LkV RJ4 23 MJ4_append_15ec4 1 := ⟨wl_5 175 rfl rfl, wl_2 188 rfl rfl, wl_2 189 rfl rfl, wl_1 3 rfl rfl, k_J4_append_15ec4, n_J4_append_15ec4⟩
theorem l_J4_137 : LkI RJ4 137 MJ0_init_81219 1 := ⟨wl_3 77 rfl rfl, wl_3 78 rfl rfl, rfl, wl_1 4 rfl rfl, k_J0_init_81219, n_J0_init_81219, rfl⟩
theorem l_Jx7c733_12 : LkI RJx7c733 12 MJ4_init_da8c8 0 := ⟨wl_2 185 rfl rfl, wl_1 40 rfl rfl, rfl, wl_1 3 rfl rfl, k_J4_init_da8c8, n_J4_init_da8c8, rfl⟩
theorem l_Jx7c733_15 : LkV RJx7c733 15 MJ4_append_15ec4 1 := ⟨wl_2 187 rfl rfl, wl_2 188 rfl rfl, wl_2 189 rfl rfl, wl_1 3 rfl rfl, k_J4_append_15ec4, n_J4_append_15ec4⟩
theorem l_Jx7c733_19 : LkV RJx7c733 19 MJ4_append_bf812 1 := ⟨wl_3 46 rfl rfl, wl_3 47 rfl rfl, wl_3 48 rfl rfl, wl_1 3 rfl rfl, k_J4_append_bf812, n_J4_append_bf812⟩
theorem l_Jx7c733_22 : LkV RJx7c733 22 MJ4_toString_0e30d 0 := ⟨wl_3 71 rfl rfl, wl_3 72 rfl rfl, wl_3 73 rfl rfl, wl_1 3 rfl rfl, k_J4_toString_0e30d, n_J4_toString_0e30d⟩
theorem l_J1_9 : LkS RJ1 9 MJ0_checkIndex_df160 2 := ⟨wl_2 44 rfl rfl, wl_2 45 rfl rfl, wl_1 4 rfl rfl, k_J0_checkIndex_df160, n_J0_checkIndex_df160⟩
theorem l_J1_112 : LkI RJ1 112 MJ0_init_031fb 2 := ⟨wl_5 90 rfl rfl, wl_5 91 rfl rfl, rfl, wl_1 4 rfl rfl, k_J0_init_031fb, n_J0_init_031fb, rfl⟩
theorem l_J1_232 : LkS RJ1 232 MJ7_copyOfRange_39247 3 := ⟨wl_5 89 rfl rfl, wl_3 99 rfl rfl, wl_1 23 rfl rfl, k_J7_copyOfRange_39247, n_J7_copyOfRange_39247⟩
theorem l_J1_236 : LkS RJ1 236 MJ7_fill_eb02e 4 := ⟨wl_3 217 rfl rfl, wl_3 218 rfl rfl, wl_1 23 rfl rfl, k_J7_fill_eb02e, n_J7_fill_eb02e⟩
theorem l_J1_240 : LkS RJ1 240 MJ2_inflate_0e8fd 5 := ⟨wl_3 28 rfl rfl, wl_3 29 rfl rfl, wl_1 5 rfl rfl, k_J2_inflate_0e8fd, n_J2_inflate_0e8fd⟩
theorem l_J2_11 : LkS RJ2 11 MJ2_newBytesLength_0f7a4 1 := ⟨wl_1 51 rfl rfl, wl_1 52 rfl rfl, wl_1 5 rfl rfl, k_J2_newBytesLength_0f7a4, n_J2_newBytesLength_0f7a4⟩
theorem l_J2_48 : LkS RJ2 48 MJ2_length_9d52b 1 := ⟨wl_2 58 rfl rfl, wl_2 59 rfl rfl, wl_1 5 rfl rfl, k_J2_length_9d52b, n_J2_length_9d52b⟩
theorem l_J2_67 : LkS RJ2 67 MJ2_checkIndex_2214a 2 := ⟨wl_2 55 rfl rfl, wl_2 56 rfl rfl, wl_1 5 rfl rfl, k_J2_checkIndex_2214a, n_J2_checkIndex_2214a⟩
theorem l_J2_71 : LkS RJ2 71 MJ2_getChar_3b067 2 := ⟨wl_2 62 rfl rfl, wl_2 63 rfl rfl, wl_1 5 rfl rfl, k_J2_getChar_3b067, n_J2_getChar_3b067⟩
theorem l_J2_96 : LkS RJ2 96 MJ2_checkBoundsBeginEnd_d044e 3 := ⟨wl_2 239 rfl rfl, wl_3 0 rfl rfl, wl_1 5 rfl rfl, k_J2_checkBoundsBeginEnd_d044e, n_J2_checkBoundsBeginEnd_d044e⟩
theorem l_J2_111 : LkS RJ2 111 MJ2_putChar_b72d1 3 := ⟨wl_3 8 rfl rfl, wl_3 9 rfl rfl, wl_1 5 rfl rfl, k_J2_putChar_b72d1, n_J2_putChar_b72d1⟩
theorem l_J2_123 : LkS RJ2 123 MJ2_compress_5af95 5 := ⟨wl_3 185 rfl rfl, wl_3 186 rfl rfl, wl_1 5 rfl rfl, k_J2_compress_5af95, n_J2_compress_5af95⟩
theorem l_J2_126 : LkS RJ2 126 MJ7_copyOfRange_39247 3 := ⟨wl_3 188 rfl rfl, wl_3 99 rfl rfl, wl_1 23 rfl rfl, k_J7_copyOfRange_39247, n_J7_copyOfRange_39247⟩
theorem l_J2_173 : LkS RJ2 173 MJ2_checkBoundsOffCount_d044e 3 := ⟨wl_3 31 rfl rfl, wl_3 32 rfl rfl, wl_1 5 rfl rfl, k_J2_checkBoundsOffCount_d044e, n_J2_checkBoundsOffCount_d044e⟩
theorem l_J2_241 : LkS RJ2 241 MJ0_checkBoundsBeginEnd_23922 3 := ⟨wl_3 2 rfl rfl, wl_3 3 rfl rfl, wl_1 4 rfl rfl, k_J0_checkBoundsBeginEnd_23922, n_J0_checkBoundsBeginEnd_23922⟩
theorem l_J2_257 : LkS RJ2 257 MJ2_compress_39247 3 := ⟨wl_5 98 rfl rfl, wl_3 183 rfl rfl, wl_1 5 rfl rfl, k_J2_compress_39247, n_J2_compress_39247⟩
theorem l_J2_259 : LkS RJ2 259 MJ2_coderFromArrayLen_85cad 2 := ⟨wl_5 99 rfl rfl, wl_3 190 rfl rfl, wl_1 5 rfl rfl, k_J2_coderFromArrayLen_85cad, n_J2_coderFromArrayLen_85cad⟩
theorem l_J2_263 : LkI RJ2 263 MJ0_init_031fb 2 := ⟨wl_5 101 rfl rfl, wl_5 91 rfl rfl, rfl, wl_1 4 rfl rfl, k_J0_init_031fb, n_J0_init_031fb, rfl⟩
theorem l_J2_380 : LkS RJ2 380 MJ7_fill_eb02e 4 := ⟨wl_4 12 rfl rfl, wl_3 218 rfl rfl, wl_1 23 rfl rfl, k_J7_fill_eb02e, n_J7_fill_eb02e⟩
theorem l_J2_393 : LkS RJ2 393 MJ2_getChars_ba4f3 3 := ⟨wl_3 66 rfl rfl, wl_3 67 rfl rfl, wl_1 5 rfl rfl, k_J2_getChars_ba4f3, n_J2_getChars_ba4f3⟩
theorem l_J2_414 : LkS RJ2 414 MJ0_checkIndex_df160 2 := ⟨wl_2 61 rfl rfl, wl_2 45 rfl rfl, wl_1 4 rfl rfl, k_J0_checkIndex_df160, n_J0_checkIndex_df160⟩
theorem l_J2_419 : LkS RJ2 419 MJ0_checkBoundsOffCount_cabcc 3 := ⟨wl_3 34 rfl rfl, wl_3 35 rfl rfl, wl_1 4 rfl rfl, k_J0_checkBoundsOffCount_cabcc, n_J0_checkBoundsOffCount_cabcc⟩
theorem l_J7_13 : LkS RJ7 13 MJ7_rangeCheck_23922 3 := ⟨wl_3 220 rfl rfl, wl_3 221 rfl rfl, wl_1 23 rfl rfl, k_J7_rangeCheck_23922, n_J7_rangeCheck_23922⟩
theorem l_J7_47 : LkI RJ7 47 MJ4_init_da8c8 0 := ⟨wl_3 151 rfl rfl, wl_1 40 rfl rfl, rfl, wl_1 3 rfl rfl, k_J4_init_da8c8, n_J4_init_da8c8, rfl⟩
theorem l_J7_50 : LkV RJ7 50 MJ4_append_15ec4 1 := ⟨wl_3 154 rfl rfl, wl_2 188 rfl rfl, wl_2 189 rfl rfl, wl_1 3 rfl rfl, k_J4_append_15ec4, n_J4_append_15ec4⟩
theorem l_J7_54 : LkV RJ7 54 MJ4_append_bf812 1 := ⟨wl_3 152 rfl rfl, wl_3 47 rfl rfl, wl_3 48 rfl rfl, wl_1 3 rfl rfl, k_J4_append_bf812, n_J4_append_bf812⟩
theorem l_J7_61 : LkV RJ7 61 MJ4_toString_0e30d 0 := ⟨wl_3 155 rfl rfl, wl_3 72 rfl rfl, wl_3 73 rfl rfl, wl_1 3 rfl rfl, k_J4_toString_0e30d, n_J4_toString_0e30d⟩
theorem l_J7_70 : LkI RJ7 70 MJx00060_init_d00df 1 := ⟨wl_3 237 rfl rfl, wl_3 238 rfl rfl, rfl, wl_1 27 rfl rfl, k_Jx00060_init_d00df, n_Jx00060_init_d00df, rfl⟩
theorem l_J7_304 : LkS RJ7 304 MJ9_min_7cf53 2 := ⟨wl_2 227 rfl rfl, wl_2 80 rfl rfl, wl_1 16 rfl rfl, k_J9_min_7cf53, n_J9_min_7cf53⟩
theorem l_J7_339 : LkS RJ7 339 MJ7_copyOfRangeByte_39247 3 := ⟨wl_3 101 rfl rfl, wl_3 102 rfl rfl, wl_1 23 rfl rfl, k_J7_copyOfRangeByte_39247, n_J7_copyOfRangeByte_39247⟩
theorem l_J7_343 : LkS RJ7 343 MJ7_checkLength_df160 2 := ⟨wl_3 104 rfl rfl, wl_3 105 rfl rfl, wl_1 23 rfl rfl, k_J7_checkLength_df160, n_J7_checkLength_df160⟩
theorem l_J8_194 : LkS RJ8 194 MJ9_max_7cf53 2 := ⟨wl_2 209 rfl rfl, wl_2 210 rfl rfl, wl_1 16 rfl rfl, k_J9_max_7cf53, n_J9_max_7cf53⟩
theorem l_J8_201 : LkS RJ8 201 MJ8_hugeLength_7cf53 2 := ⟨wl_2 213 rfl rfl, wl_2 214 rfl rfl, wl_1 22 rfl rfl, k_J8_hugeLength_7cf53, n_J8_hugeLength_7cf53⟩
end GLINK
