section GLINK
theorem uws_of {C : String} {T : u_T} {N : Nat} (h : ∀ k, k < N → u_lay C T k ∈ wl) : ∀ w ∈ u_ws C T N, w ∈ wl := fun w hw => by
  obtain ⟨k, hk, rfl⟩ := List.mem_map.mp hw
  exact h k (List.mem_range.mp hk)
theorem u_J0 : ∀ w ∈ u_ws RJ0 TJ0 4, w ∈ wl := uws_of (lt_s (lt_s (lt_s (lt_s lt_0 (wl_in 675 (by decide +kernel) rfl)) (wl_in 677 (by decide +kernel) rfl)) (wl_in 679 (by decide +kernel) rfl)) (wl_in 681 (by decide +kernel) rfl))
theorem w_J0_0 : Fw 0 0 (.array .byte) true := ⟨RJ0, TJ0, 4, rfl, rfl, rfl, by decide +kernel, ⟨tyJ0, tyJ0_ok⟩, nmJ0⟩
theorem w_J0_1 : Fw 0 1 .byte true := ⟨RJ0, TJ0, 4, rfl, rfl, rfl, by decide +kernel, ⟨tyJ0, tyJ0_ok⟩, nmJ0⟩
theorem w_J0_2 : Fw 0 2 .int false := ⟨RJ0, TJ0, 4, rfl, rfl, rfl, by decide +kernel, ⟨tyJ0, tyJ0_ok⟩, nmJ0⟩
theorem w_J0_3 : Fw 0 3 .boolean false := ⟨RJ0, TJ0, 4, rfl, rfl, rfl, by decide +kernel, ⟨tyJ0, tyJ0_ok⟩, nmJ0⟩
theorem u_J4 : ∀ w ∈ u_ws RJ4 TJ4 4, w ∈ wl := uws_of (lt_s (lt_s (lt_s (lt_s lt_0 (wl_in 61 (by decide +kernel) rfl)) (wl_in 63 (by decide +kernel) rfl)) (wl_in 65 (by decide +kernel) rfl)) (wl_in 67 (by decide +kernel) rfl))
-- w_J4_0: inherited
-- w_J4_1: inherited
-- w_J4_2: inherited
-- w_J4_3: inherited
theorem u_Jx00060 : ∀ w ∈ u_ws RJx00060 TJx00060 6, w ∈ wl := uws_of (lt_s (lt_s (lt_s (lt_s (lt_s (lt_s lt_0 (wl_in 713 (by decide +kernel) rfl)) (wl_in 714 (by decide +kernel) rfl)) (wl_in 715 (by decide +kernel) rfl)) (wl_in 716 (by decide +kernel) rfl)) (wl_in 717 (by decide +kernel) rfl)) (wl_in 728 (by decide +kernel) rfl))
-- w_Jx00060_0: inherited
-- w_Jx00060_1: inherited
-- w_Jx00060_2: inherited
-- w_Jx00060_3: inherited
-- w_Jx00060_4: inherited
-- w_Jx00060_5: inherited
theorem u_Jx7c733 : ∀ w ∈ u_ws RJx7c733 TJx7c733 6, w ∈ wl := uws_of (lt_s (lt_s (lt_s (lt_s (lt_s (lt_s lt_0 (wl_in 688 (by decide +kernel) rfl)) (wl_in 689 (by decide +kernel) rfl)) (wl_in 690 (by decide +kernel) rfl)) (wl_in 691 (by decide +kernel) rfl)) (wl_in 692 (by decide +kernel) rfl)) (wl_in 693 (by decide +kernel) rfl))
-- w_Jx7c733_0: inherited
-- w_Jx7c733_1: inherited
-- w_Jx7c733_2: inherited
-- w_Jx7c733_3: inherited
-- w_Jx7c733_4: inherited
-- w_Jx7c733_5: inherited
theorem u_X0 : ∀ w ∈ u_ws RX0 TX0 1, w ∈ wl := uws_of (lt_s lt_0 (wl_in 92 (by decide +kernel) rfl))
theorem w_X0_0 : Fw 4 0 (.array .int) true := ⟨RX0, TX0, 1, rfl, rfl, rfl, by decide +kernel, ⟨tyX0, tyX0_ok⟩, nmX0⟩
theorem u_X1 : ∀ w ∈ u_ws RX1 TX1 3, w ∈ wl := uws_of (lt_s (lt_s (lt_s lt_0 (wl_in 257 (by decide +kernel) rfl)) (wl_in 259 (by decide +kernel) rfl)) (wl_in 261 (by decide +kernel) rfl))
theorem w_X1_0 : Fw 5 0 (.array (.object "AccentHouse$House")) true := ⟨RX1, TX1, 3, rfl, rfl, rfl, by decide +kernel, ⟨tyX1, tyX1_ok⟩, nmX1⟩
theorem w_X1_1 : Fw 5 1 .int false := ⟨RX1, TX1, 3, rfl, rfl, rfl, by decide +kernel, ⟨tyX1, tyX1_ok⟩, nmX1⟩
theorem w_X1_2 : Fw 5 2 .int false := ⟨RX1, TX1, 3, rfl, rfl, rfl, by decide +kernel, ⟨tyX1, tyX1_ok⟩, nmX1⟩
theorem u_X2 : ∀ w ∈ u_ws RX2 TX2 11, w ∈ wl := uws_of (lt_s (lt_s (lt_s (lt_s (lt_s (lt_s (lt_s (lt_s (lt_s (lt_s (lt_s lt_0 (wl_in 168 (by decide +kernel) rfl)) (wl_in 170 (by decide +kernel) rfl)) (wl_in 172 (by decide +kernel) rfl)) (wl_in 174 (by decide +kernel) rfl)) (wl_in 176 (by decide +kernel) rfl)) (wl_in 178 (by decide +kernel) rfl)) (wl_in 180 (by decide +kernel) rfl)) (wl_in 182 (by decide +kernel) rfl)) (wl_in 184 (by decide +kernel) rfl)) (wl_in 186 (by decide +kernel) rfl)) (wl_in 188 (by decide +kernel) rfl))
theorem w_X2_0 : Fw 6 0 .int false := ⟨RX2, TX2, 11, rfl, rfl, rfl, by decide +kernel, ⟨tyX2, tyX2_ok⟩, nmX2⟩
theorem w_X2_1 : Fw 6 1 .int false := ⟨RX2, TX2, 11, rfl, rfl, rfl, by decide +kernel, ⟨tyX2, tyX2_ok⟩, nmX2⟩
theorem w_X2_2 : Fw 6 2 .int false := ⟨RX2, TX2, 11, rfl, rfl, rfl, by decide +kernel, ⟨tyX2, tyX2_ok⟩, nmX2⟩
theorem w_X2_3 : Fw 6 3 .int false := ⟨RX2, TX2, 11, rfl, rfl, rfl, by decide +kernel, ⟨tyX2, tyX2_ok⟩, nmX2⟩
theorem w_X2_4 : Fw 6 4 .int false := ⟨RX2, TX2, 11, rfl, rfl, rfl, by decide +kernel, ⟨tyX2, tyX2_ok⟩, nmX2⟩
theorem w_X2_5 : Fw 6 5 .int false := ⟨RX2, TX2, 11, rfl, rfl, rfl, by decide +kernel, ⟨tyX2, tyX2_ok⟩, nmX2⟩
theorem w_X2_6 : Fw 6 6 .int false := ⟨RX2, TX2, 11, rfl, rfl, rfl, by decide +kernel, ⟨tyX2, tyX2_ok⟩, nmX2⟩
theorem w_X2_7 : Fw 6 7 .int false := ⟨RX2, TX2, 11, rfl, rfl, rfl, by decide +kernel, ⟨tyX2, tyX2_ok⟩, nmX2⟩
theorem w_X2_8 : Fw 6 8 (.object "AccentHouse$Accent") true := ⟨RX2, TX2, 11, rfl, rfl, rfl, by decide +kernel, ⟨tyX2, tyX2_ok⟩, nmX2⟩
theorem w_X2_9 : Fw 6 9 (.array (.object "AccentHouse$Lodger")) true := ⟨RX2, TX2, 11, rfl, rfl, rfl, by decide +kernel, ⟨tyX2, tyX2_ok⟩, nmX2⟩
theorem w_X2_10 : Fw 6 10 (.object "AccentHouse$Accent") true := ⟨RX2, TX2, 11, rfl, rfl, rfl, by decide +kernel, ⟨tyX2, tyX2_ok⟩, nmX2⟩
theorem u_X3 : ∀ w ∈ u_ws RX3 TX3 7, w ∈ wl := uws_of (lt_s (lt_s (lt_s (lt_s (lt_s (lt_s (lt_s lt_0 (wl_in 128 (by decide +kernel) rfl)) (wl_in 130 (by decide +kernel) rfl)) (wl_in 132 (by decide +kernel) rfl)) (wl_in 134 (by decide +kernel) rfl)) (wl_in 136 (by decide +kernel) rfl)) (wl_in 138 (by decide +kernel) rfl)) (wl_in 140 (by decide +kernel) rfl))
theorem w_X3_0 : Fw 7 0 (.object "java/lang/String") false := ⟨RX3, TX3, 7, rfl, rfl, rfl, by decide +kernel, ⟨tyX3, tyX3_ok⟩, nmX3⟩
theorem w_X3_1 : Fw 7 1 .int false := ⟨RX3, TX3, 7, rfl, rfl, rfl, by decide +kernel, ⟨tyX3, tyX3_ok⟩, nmX3⟩
theorem w_X3_2 : Fw 7 2 .int false := ⟨RX3, TX3, 7, rfl, rfl, rfl, by decide +kernel, ⟨tyX3, tyX3_ok⟩, nmX3⟩
theorem w_X3_3 : Fw 7 3 .int false := ⟨RX3, TX3, 7, rfl, rfl, rfl, by decide +kernel, ⟨tyX3, tyX3_ok⟩, nmX3⟩
theorem w_X3_4 : Fw 7 4 .int false := ⟨RX3, TX3, 7, rfl, rfl, rfl, by decide +kernel, ⟨tyX3, tyX3_ok⟩, nmX3⟩
theorem w_X3_5 : Fw 7 5 .int false := ⟨RX3, TX3, 7, rfl, rfl, rfl, by decide +kernel, ⟨tyX3, tyX3_ok⟩, nmX3⟩
theorem w_X3_6 : Fw 7 6 (.object "AccentHouse$Accent") true := ⟨RX3, TX3, 7, rfl, rfl, rfl, by decide +kernel, ⟨tyX3, tyX3_ok⟩, nmX3⟩
theorem u_X4 : ∀ w ∈ u_ws RX4 TX4 5, w ∈ wl := uws_of (lt_s (lt_s (lt_s (lt_s (lt_s lt_0 (wl_in 231 (by decide +kernel) rfl)) (wl_in 233 (by decide +kernel) rfl)) (wl_in 235 (by decide +kernel) rfl)) (wl_in 237 (by decide +kernel) rfl)) (wl_in 239 (by decide +kernel) rfl))
theorem w_X4_0 : Fw 8 0 (.array .byte) true := ⟨RX4, TX4, 5, rfl, rfl, rfl, by decide +kernel, ⟨tyX4, tyX4_ok⟩, nmX4⟩
theorem w_X4_1 : Fw 8 1 (.object "AccentHouse$Tokens") true := ⟨RX4, TX4, 5, rfl, rfl, rfl, by decide +kernel, ⟨tyX4, tyX4_ok⟩, nmX4⟩
theorem w_X4_2 : Fw 8 2 (.object "AccentHouse$House") true := ⟨RX4, TX4, 5, rfl, rfl, rfl, by decide +kernel, ⟨tyX4, tyX4_ok⟩, nmX4⟩
theorem w_X4_3 : Fw 8 3 .int false := ⟨RX4, TX4, 5, rfl, rfl, rfl, by decide +kernel, ⟨tyX4, tyX4_ok⟩, nmX4⟩
theorem w_X4_4 : Fw 8 4 .int false := ⟨RX4, TX4, 5, rfl, rfl, rfl, by decide +kernel, ⟨tyX4, tyX4_ok⟩, nmX4⟩
theorem u_X6 : ∀ w ∈ u_ws RX6 TX6 6, w ∈ wl := uws_of (lt_s (lt_s (lt_s (lt_s (lt_s (lt_s lt_0 (wl_in 210 (by decide +kernel) rfl)) (wl_in 212 (by decide +kernel) rfl)) (wl_in 214 (by decide +kernel) rfl)) (wl_in 216 (by decide +kernel) rfl)) (wl_in 218 (by decide +kernel) rfl)) (wl_in 220 (by decide +kernel) rfl))
theorem w_X6_0 : Fw 9 0 (.array .byte) true := ⟨RX6, TX6, 6, rfl, rfl, rfl, by decide +kernel, ⟨tyX6, tyX6_ok⟩, nmX6⟩
theorem w_X6_1 : Fw 9 1 (.object "java/lang/StringBuilder") true := ⟨RX6, TX6, 6, rfl, rfl, rfl, by decide +kernel, ⟨tyX6, tyX6_ok⟩, nmX6⟩
theorem w_X6_2 : Fw 9 2 .int false := ⟨RX6, TX6, 6, rfl, rfl, rfl, by decide +kernel, ⟨tyX6, tyX6_ok⟩, nmX6⟩
theorem w_X6_3 : Fw 9 3 (.object "AccentHouse$Token") false := ⟨RX6, TX6, 6, rfl, rfl, rfl, by decide +kernel, ⟨tyX6, tyX6_ok⟩, nmX6⟩
theorem w_X6_4 : Fw 9 4 .int false := ⟨RX6, TX6, 6, rfl, rfl, rfl, by decide +kernel, ⟨tyX6, tyX6_ok⟩, nmX6⟩
theorem w_X6_5 : Fw 9 5 .int false := ⟨RX6, TX6, 6, rfl, rfl, rfl, by decide +kernel, ⟨tyX6, tyX6_ok⟩, nmX6⟩
theorem u_X7 : ∀ w ∈ u_ws RX7 TX7 11, w ∈ wl := uws_of (lt_s (lt_s (lt_s (lt_s (lt_s (lt_s (lt_s (lt_s (lt_s (lt_s (lt_s lt_0 (wl_in 870 (by decide +kernel) rfl)) (wl_in 872 (by decide +kernel) rfl)) (wl_in 874 (by decide +kernel) rfl)) (wl_in 876 (by decide +kernel) rfl)) (wl_in 878 (by decide +kernel) rfl)) (wl_in 880 (by decide +kernel) rfl)) (wl_in 882 (by decide +kernel) rfl)) (wl_in 884 (by decide +kernel) rfl)) (wl_in 886 (by decide +kernel) rfl)) (wl_in 888 (by decide +kernel) rfl)) (wl_in 890 (by decide +kernel) rfl))
theorem w_X7_0 : Fw 10 0 (.array .byte) true := ⟨RX7, TX7, 11, rfl, rfl, rfl, by decide +kernel, ⟨tyX7, tyX7_ok⟩, nmX7⟩
theorem w_X7_1 : Fw 10 1 .int false := ⟨RX7, TX7, 11, rfl, rfl, rfl, by decide +kernel, ⟨tyX7, tyX7_ok⟩, nmX7⟩
theorem w_X7_2 : Fw 10 2 (.object "java/lang/StringBuilder") true := ⟨RX7, TX7, 11, rfl, rfl, rfl, by decide +kernel, ⟨tyX7, tyX7_ok⟩, nmX7⟩
theorem w_X7_3 : Fw 10 3 (.object "AccentHouse$Parser") true := ⟨RX7, TX7, 11, rfl, rfl, rfl, by decide +kernel, ⟨tyX7, tyX7_ok⟩, nmX7⟩
theorem w_X7_4 : Fw 10 4 .int false := ⟨RX7, TX7, 11, rfl, rfl, rfl, by decide +kernel, ⟨tyX7, tyX7_ok⟩, nmX7⟩
theorem w_X7_5 : Fw 10 5 .int false := ⟨RX7, TX7, 11, rfl, rfl, rfl, by decide +kernel, ⟨tyX7, tyX7_ok⟩, nmX7⟩
theorem w_X7_6 : Fw 10 6 (.object "AccentHouse$House") true := ⟨RX7, TX7, 11, rfl, rfl, rfl, by decide +kernel, ⟨tyX7, tyX7_ok⟩, nmX7⟩
theorem w_X7_7 : Fw 10 7 (.object "AccentHouse$House") true := ⟨RX7, TX7, 11, rfl, rfl, rfl, by decide +kernel, ⟨tyX7, tyX7_ok⟩, nmX7⟩
theorem w_X7_8 : Fw 10 8 (.object "AccentHouse$History") true := ⟨RX7, TX7, 11, rfl, rfl, rfl, by decide +kernel, ⟨tyX7, tyX7_ok⟩, nmX7⟩
theorem w_X7_9 : Fw 10 9 (.array (.object "AccentHouse$House")) true := ⟨RX7, TX7, 11, rfl, rfl, rfl, by decide +kernel, ⟨tyX7, tyX7_ok⟩, nmX7⟩
theorem w_X7_10 : Fw 10 10 (.array .boolean) true := ⟨RX7, TX7, 11, rfl, rfl, rfl, by decide +kernel, ⟨tyX7, tyX7_ok⟩, nmX7⟩
theorem u_X8 : ∀ w ∈ u_ws RX8 TX8 26, w ∈ wl := uws_of (lt_s (lt_s (lt_s (lt_s (lt_s (lt_s (lt_s (lt_s (lt_s (lt_s (lt_s (lt_s (lt_s (lt_s (lt_s (lt_s (lt_s (lt_s (lt_s (lt_s (lt_s (lt_s (lt_s (lt_s (lt_s (lt_s lt_0 (wl_in 1541 (by decide +kernel) rfl)) (wl_in 1543 (by decide +kernel) rfl)) (wl_in 1545 (by decide +kernel) rfl)) (wl_in 1547 (by decide +kernel) rfl)) (wl_in 1549 (by decide +kernel) rfl)) (wl_in 1551 (by decide +kernel) rfl)) (wl_in 1553 (by decide +kernel) rfl)) (wl_in 1555 (by decide +kernel) rfl)) (wl_in 1557 (by decide +kernel) rfl)) (wl_in 1559 (by decide +kernel) rfl)) (wl_in 1561 (by decide +kernel) rfl)) (wl_in 1563 (by decide +kernel) rfl)) (wl_in 1565 (by decide +kernel) rfl)) (wl_in 1567 (by decide +kernel) rfl)) (wl_in 1569 (by decide +kernel) rfl)) (wl_in 1571 (by decide +kernel) rfl)) (wl_in 1573 (by decide +kernel) rfl)) (wl_in 1575 (by decide +kernel) rfl)) (wl_in 1577 (by decide +kernel) rfl)) (wl_in 1579 (by decide +kernel) rfl)) (wl_in 1581 (by decide +kernel) rfl)) (wl_in 1583 (by decide +kernel) rfl)) (wl_in 1585 (by decide +kernel) rfl)) (wl_in 1587 (by decide +kernel) rfl)) (wl_in 1589 (by decide +kernel) rfl)) (wl_in 1591 (by decide +kernel) rfl))
theorem w_X8_0 : Fw 11 0 (.array .int) true := ⟨RX8, TX8, 26, rfl, rfl, rfl, by decide +kernel, ⟨tyX8, tyX8_ok⟩, nmX8⟩
theorem w_X8_1 : Fw 11 1 (.array .int) true := ⟨RX8, TX8, 26, rfl, rfl, rfl, by decide +kernel, ⟨tyX8, tyX8_ok⟩, nmX8⟩
theorem w_X8_2 : Fw 11 2 .int false := ⟨RX8, TX8, 26, rfl, rfl, rfl, by decide +kernel, ⟨tyX8, tyX8_ok⟩, nmX8⟩
theorem w_X8_3 : Fw 11 3 (.array .int) true := ⟨RX8, TX8, 26, rfl, rfl, rfl, by decide +kernel, ⟨tyX8, tyX8_ok⟩, nmX8⟩
theorem w_X8_4 : Fw 11 4 (.array .int) true := ⟨RX8, TX8, 26, rfl, rfl, rfl, by decide +kernel, ⟨tyX8, tyX8_ok⟩, nmX8⟩
theorem w_X8_5 : Fw 11 5 (.array .int) true := ⟨RX8, TX8, 26, rfl, rfl, rfl, by decide +kernel, ⟨tyX8, tyX8_ok⟩, nmX8⟩
theorem w_X8_6 : Fw 11 6 .int false := ⟨RX8, TX8, 26, rfl, rfl, rfl, by decide +kernel, ⟨tyX8, tyX8_ok⟩, nmX8⟩
theorem w_X8_7 : Fw 11 7 (.array .int) true := ⟨RX8, TX8, 26, rfl, rfl, rfl, by decide +kernel, ⟨tyX8, tyX8_ok⟩, nmX8⟩
theorem w_X8_8 : Fw 11 8 .int false := ⟨RX8, TX8, 26, rfl, rfl, rfl, by decide +kernel, ⟨tyX8, tyX8_ok⟩, nmX8⟩
theorem w_X8_9 : Fw 11 9 (.array .int) true := ⟨RX8, TX8, 26, rfl, rfl, rfl, by decide +kernel, ⟨tyX8, tyX8_ok⟩, nmX8⟩
theorem w_X8_10 : Fw 11 10 (.array .int) true := ⟨RX8, TX8, 26, rfl, rfl, rfl, by decide +kernel, ⟨tyX8, tyX8_ok⟩, nmX8⟩
theorem w_X8_11 : Fw 11 11 .int false := ⟨RX8, TX8, 26, rfl, rfl, rfl, by decide +kernel, ⟨tyX8, tyX8_ok⟩, nmX8⟩
theorem w_X8_12 : Fw 11 12 .int false := ⟨RX8, TX8, 26, rfl, rfl, rfl, by decide +kernel, ⟨tyX8, tyX8_ok⟩, nmX8⟩
theorem w_X8_13 : Fw 11 13 (.array .byte) true := ⟨RX8, TX8, 26, rfl, rfl, rfl, by decide +kernel, ⟨tyX8, tyX8_ok⟩, nmX8⟩
theorem w_X8_14 : Fw 11 14 .int false := ⟨RX8, TX8, 26, rfl, rfl, rfl, by decide +kernel, ⟨tyX8, tyX8_ok⟩, nmX8⟩
theorem w_X8_15 : Fw 11 15 (.array .char) true := ⟨RX8, TX8, 26, rfl, rfl, rfl, by decide +kernel, ⟨tyX8, tyX8_ok⟩, nmX8⟩
theorem w_X8_16 : Fw 11 16 .int false := ⟨RX8, TX8, 26, rfl, rfl, rfl, by decide +kernel, ⟨tyX8, tyX8_ok⟩, nmX8⟩
theorem w_X8_17 : Fw 11 17 .int false := ⟨RX8, TX8, 26, rfl, rfl, rfl, by decide +kernel, ⟨tyX8, tyX8_ok⟩, nmX8⟩
theorem w_X8_18 : Fw 11 18 .int false := ⟨RX8, TX8, 26, rfl, rfl, rfl, by decide +kernel, ⟨tyX8, tyX8_ok⟩, nmX8⟩
theorem w_X8_19 : Fw 11 19 .int false := ⟨RX8, TX8, 26, rfl, rfl, rfl, by decide +kernel, ⟨tyX8, tyX8_ok⟩, nmX8⟩
theorem w_X8_20 : Fw 11 20 .int false := ⟨RX8, TX8, 26, rfl, rfl, rfl, by decide +kernel, ⟨tyX8, tyX8_ok⟩, nmX8⟩
theorem w_X8_21 : Fw 11 21 .int false := ⟨RX8, TX8, 26, rfl, rfl, rfl, by decide +kernel, ⟨tyX8, tyX8_ok⟩, nmX8⟩
theorem w_X8_22 : Fw 11 22 .int false := ⟨RX8, TX8, 26, rfl, rfl, rfl, by decide +kernel, ⟨tyX8, tyX8_ok⟩, nmX8⟩
theorem w_X8_23 : Fw 11 23 .int false := ⟨RX8, TX8, 26, rfl, rfl, rfl, by decide +kernel, ⟨tyX8, tyX8_ok⟩, nmX8⟩
theorem w_X8_24 : Fw 11 24 .int false := ⟨RX8, TX8, 26, rfl, rfl, rfl, by decide +kernel, ⟨tyX8, tyX8_ok⟩, nmX8⟩
theorem w_X8_25 : Fw 11 25 .int false := ⟨RX8, TX8, 26, rfl, rfl, rfl, by decide +kernel, ⟨tyX8, tyX8_ok⟩, nmX8⟩
theorem f_X7_9 : Fl RX7 9 10 0 := Fl.of (ref := "AccentHouse") (C := RX7) (T := TX7) (N := 11) rfl (by decide) (wl_in 859 (by decide +kernel) rfl) u_X7 rfl
theorem f_X7_16 : Fl RX7 16 10 2 := Fl.of (ref := "AccentHouse") (C := RX7) (T := TX7) (N := 11) rfl (by decide) (wl_in 861 (by decide +kernel) rfl) u_X7 rfl
theorem f_X7_25 : Fl RX7 25 10 3 := Fl.of (ref := "AccentHouse") (C := RX7) (T := TX7) (N := 11) rfl (by decide) (wl_in 862 (by decide +kernel) rfl) u_X7 rfl
theorem f_X7_29 : Fl RX7 29 10 5 := Fl.of (ref := "AccentHouse") (C := RX7) (T := TX7) (N := 11) rfl (by decide) (wl_in 864 (by decide +kernel) rfl) u_X7 rfl
theorem f_X7_36 : Fl RX7 36 10 6 := Fl.of (ref := "AccentHouse") (C := RX7) (T := TX7) (N := 11) rfl (by decide) (wl_in 865 (by decide +kernel) rfl) u_X7 rfl
theorem f_X7_40 : Fl RX7 40 10 7 := Fl.of (ref := "AccentHouse") (C := RX7) (T := TX7) (N := 11) rfl (by decide) (wl_in 866 (by decide +kernel) rfl) u_X7 rfl
theorem f_X7_46 : Fl RX7 46 10 8 := Fl.of (ref := "AccentHouse") (C := RX7) (T := TX7) (N := 11) rfl (by decide) (wl_in 867 (by decide +kernel) rfl) u_X7 rfl
theorem f_X7_50 : Fl RX7 50 10 9 := Fl.of (ref := "AccentHouse") (C := RX7) (T := TX7) (N := 11) rfl (by decide) (wl_in 868 (by decide +kernel) rfl) u_X7 rfl
theorem f_X7_54 : Fl RX7 54 10 10 := Fl.of (ref := "AccentHouse") (C := RX7) (T := TX7) (N := 11) rfl (by decide) (wl_in 869 (by decide +kernel) rfl) u_X7 rfl
theorem f_X7_74 : Fl RX7 74 8 2 := Fl.of (ref := "AccentHouse$Parser") (C := RX4) (T := TX4) (N := 5) rfl (by decide) (wl_in 226 (by decide +kernel) rfl) u_X4 rfl
theorem f_X7_79 : Fl RX7 79 10 1 := Fl.of (ref := "AccentHouse") (C := RX7) (T := TX7) (N := 11) rfl (by decide) (wl_in 860 (by decide +kernel) rfl) u_X7 rfl
theorem f_X7_97 : Fl RX7 97 8 3 := Fl.of (ref := "AccentHouse$Parser") (C := RX4) (T := TX4) (N := 5) rfl (by decide) (wl_in 228 (by decide +kernel) rfl) u_X4 rfl
theorem f_X7_100 : Fl RX7 100 10 4 := Fl.of (ref := "AccentHouse") (C := RX7) (T := TX7) (N := 11) rfl (by decide) (wl_in 863 (by decide +kernel) rfl) u_X7 rfl
theorem f_X7_103 : Fl RX7 103 8 4 := Fl.of (ref := "AccentHouse$Parser") (C := RX4) (T := TX4) (N := 5) rfl (by decide) (wl_in 230 (by decide +kernel) rfl) u_X4 rfl
theorem f_X7_114 : Fl RX7 114 6 7 := Fl.of (ref := "AccentHouse$House") (C := RX2) (T := TX2) (N := 11) rfl (by decide) (wl_in 159 (by decide +kernel) rfl) u_X2 rfl
theorem f_X7_117 : Fl RX7 117 6 0 := Fl.of (ref := "AccentHouse$House") (C := RX2) (T := TX2) (N := 11) rfl (by decide) (wl_in 144 (by decide +kernel) rfl) u_X2 rfl
theorem f_X7_120 : Fl RX7 120 6 1 := Fl.of (ref := "AccentHouse$House") (C := RX2) (T := TX2) (N := 11) rfl (by decide) (wl_in 146 (by decide +kernel) rfl) u_X2 rfl
theorem f_X7_123 : Fl RX7 123 6 2 := Fl.of (ref := "AccentHouse$House") (C := RX2) (T := TX2) (N := 11) rfl (by decide) (wl_in 148 (by decide +kernel) rfl) u_X2 rfl
theorem f_X7_136 : Fl RX7 136 6 8 := Fl.of (ref := "AccentHouse$House") (C := RX2) (T := TX2) (N := 11) rfl (by decide) (wl_in 162 (by decide +kernel) rfl) u_X2 rfl
theorem f_X7_140 : Fl RX7 140 4 0 := Fl.of (ref := "AccentHouse$Accent") (C := RX0) (T := TX0) (N := 1) rfl (by decide) (wl_in 90 (by decide +kernel) rfl) u_X0 rfl
theorem f_X7_146 : Fl RX7 146 6 3 := Fl.of (ref := "AccentHouse$House") (C := RX2) (T := TX2) (N := 11) rfl (by decide) (wl_in 150 (by decide +kernel) rfl) u_X2 rfl
theorem f_X7_149 : Fl RX7 149 5 2 := Fl.of (ref := "AccentHouse$History") (C := RX1) (T := TX1) (N := 3) rfl (by decide) (wl_in 256 (by decide +kernel) rfl) u_X1 rfl
theorem f_X7_156 : Fl RX7 156 7 1 := Fl.of (ref := "AccentHouse$Lodger") (C := RX3) (T := TX3) (N := 7) rfl (by decide) (wl_in 112 (by decide +kernel) rfl) u_X3 rfl
theorem f_X7_161 : Fl RX7 161 7 2 := Fl.of (ref := "AccentHouse$Lodger") (C := RX3) (T := TX3) (N := 7) rfl (by decide) (wl_in 115 (by decide +kernel) rfl) u_X3 rfl
theorem f_X7_164 : Fl RX7 164 7 6 := Fl.of (ref := "AccentHouse$Lodger") (C := RX3) (T := TX3) (N := 7) rfl (by decide) (wl_in 127 (by decide +kernel) rfl) u_X3 rfl
theorem f_X7_167 : Fl RX7 167 7 3 := Fl.of (ref := "AccentHouse$Lodger") (C := RX3) (T := TX3) (N := 7) rfl (by decide) (wl_in 118 (by decide +kernel) rfl) u_X3 rfl
theorem f_X7_170 : Fl RX7 170 7 4 := Fl.of (ref := "AccentHouse$Lodger") (C := RX3) (T := TX3) (N := 7) rfl (by decide) (wl_in 121 (by decide +kernel) rfl) u_X3 rfl
theorem f_X7_173 : Fl RX7 173 7 5 := Fl.of (ref := "AccentHouse$Lodger") (C := RX3) (T := TX3) (N := 7) rfl (by decide) (wl_in 124 (by decide +kernel) rfl) u_X3 rfl
theorem f_X7_176 : Fl RX7 176 7 0 := Fl.of (ref := "AccentHouse$Lodger") (C := RX3) (T := TX3) (N := 7) rfl (by decide) (wl_in 108 (by decide +kernel) rfl) u_X3 rfl
theorem f_X7_208 : Fl RX7 208 6 9 := Fl.of (ref := "AccentHouse$House") (C := RX2) (T := TX2) (N := 11) rfl (by decide) (wl_in 165 (by decide +kernel) rfl) u_X2 rfl
theorem f_X7_218 : Fl RX7 218 6 10 := Fl.of (ref := "AccentHouse$House") (C := RX2) (T := TX2) (N := 11) rfl (by decide) (wl_in 167 (by decide +kernel) rfl) u_X2 rfl
theorem f_X7_249 : Fl RX7 249 6 4 := Fl.of (ref := "AccentHouse$House") (C := RX2) (T := TX2) (N := 11) rfl (by decide) (wl_in 152 (by decide +kernel) rfl) u_X2 rfl
theorem f_X7_252 : Fl RX7 252 6 5 := Fl.of (ref := "AccentHouse$House") (C := RX2) (T := TX2) (N := 11) rfl (by decide) (wl_in 154 (by decide +kernel) rfl) u_X2 rfl
theorem f_X7_255 : Fl RX7 255 6 6 := Fl.of (ref := "AccentHouse$House") (C := RX2) (T := TX2) (N := 11) rfl (by decide) (wl_in 156 (by decide +kernel) rfl) u_X2 rfl
theorem f_X0_9 : Fl RX0 9 4 0 := Fl.of (ref := "AccentHouse$Accent") (C := RX0) (T := TX0) (N := 1) rfl (by decide) (wl_in 89 (by decide +kernel) rfl) u_X0 rfl
theorem f_X1_11 : Fl RX1 11 5 0 := Fl.of (ref := "AccentHouse$History") (C := RX1) (T := TX1) (N := 3) rfl (by decide) (wl_in 253 (by decide +kernel) rfl) u_X1 rfl
theorem f_X1_18 : Fl RX1 18 5 1 := Fl.of (ref := "AccentHouse$History") (C := RX1) (T := TX1) (N := 3) rfl (by decide) (wl_in 254 (by decide +kernel) rfl) u_X1 rfl
theorem f_X1_22 : Fl RX1 22 5 2 := Fl.of (ref := "AccentHouse$History") (C := RX1) (T := TX1) (N := 3) rfl (by decide) (wl_in 255 (by decide +kernel) rfl) u_X1 rfl
theorem f_X2_12 : Fl RX2 12 6 8 := Fl.of (ref := "AccentHouse$House") (C := RX2) (T := TX2) (N := 11) rfl (by decide) (wl_in 160 (by decide +kernel) rfl) u_X2 rfl
theorem f_X2_20 : Fl RX2 20 6 9 := Fl.of (ref := "AccentHouse$House") (C := RX2) (T := TX2) (N := 11) rfl (by decide) (wl_in 163 (by decide +kernel) rfl) u_X2 rfl
theorem f_X2_24 : Fl RX2 24 6 10 := Fl.of (ref := "AccentHouse$House") (C := RX2) (T := TX2) (N := 11) rfl (by decide) (wl_in 166 (by decide +kernel) rfl) u_X2 rfl
theorem f_X2_28 : Fl RX2 28 6 0 := Fl.of (ref := "AccentHouse$House") (C := RX2) (T := TX2) (N := 11) rfl (by decide) (wl_in 143 (by decide +kernel) rfl) u_X2 rfl
theorem f_X2_32 : Fl RX2 32 6 1 := Fl.of (ref := "AccentHouse$House") (C := RX2) (T := TX2) (N := 11) rfl (by decide) (wl_in 145 (by decide +kernel) rfl) u_X2 rfl
theorem f_X2_35 : Fl RX2 35 6 2 := Fl.of (ref := "AccentHouse$House") (C := RX2) (T := TX2) (N := 11) rfl (by decide) (wl_in 147 (by decide +kernel) rfl) u_X2 rfl
theorem f_X2_38 : Fl RX2 38 6 3 := Fl.of (ref := "AccentHouse$House") (C := RX2) (T := TX2) (N := 11) rfl (by decide) (wl_in 149 (by decide +kernel) rfl) u_X2 rfl
theorem f_X2_41 : Fl RX2 41 6 4 := Fl.of (ref := "AccentHouse$House") (C := RX2) (T := TX2) (N := 11) rfl (by decide) (wl_in 151 (by decide +kernel) rfl) u_X2 rfl
theorem f_X2_44 : Fl RX2 44 6 5 := Fl.of (ref := "AccentHouse$House") (C := RX2) (T := TX2) (N := 11) rfl (by decide) (wl_in 153 (by decide +kernel) rfl) u_X2 rfl
theorem f_X2_47 : Fl RX2 47 6 6 := Fl.of (ref := "AccentHouse$House") (C := RX2) (T := TX2) (N := 11) rfl (by decide) (wl_in 155 (by decide +kernel) rfl) u_X2 rfl
theorem f_X2_50 : Fl RX2 50 6 7 := Fl.of (ref := "AccentHouse$House") (C := RX2) (T := TX2) (N := 11) rfl (by decide) (wl_in 157 (by decide +kernel) rfl) u_X2 rfl
theorem f_X2_60 : Fl RX2 60 7 1 := Fl.of (ref := "AccentHouse$Lodger") (C := RX3) (T := TX3) (N := 7) rfl (by decide) (wl_in 110 (by decide +kernel) rfl) u_X3 rfl
theorem f_X2_89 : Fl RX2 89 7 0 := Fl.of (ref := "AccentHouse$Lodger") (C := RX3) (T := TX3) (N := 7) rfl (by decide) (wl_in 107 (by decide +kernel) rfl) u_X3 rfl
theorem f_X2_93 : Fl RX2 93 7 6 := Fl.of (ref := "AccentHouse$Lodger") (C := RX3) (T := TX3) (N := 7) rfl (by decide) (wl_in 126 (by decide +kernel) rfl) u_X3 rfl
theorem f_X2_96 : Fl RX2 96 4 0 := Fl.of (ref := "AccentHouse$Accent") (C := RX0) (T := TX0) (N := 1) rfl (by decide) (wl_in 91 (by decide +kernel) rfl) u_X0 rfl
theorem f_X2_104 : Fl RX2 104 7 2 := Fl.of (ref := "AccentHouse$Lodger") (C := RX3) (T := TX3) (N := 7) rfl (by decide) (wl_in 114 (by decide +kernel) rfl) u_X3 rfl
theorem f_X2_115 : Fl RX2 115 7 3 := Fl.of (ref := "AccentHouse$Lodger") (C := RX3) (T := TX3) (N := 7) rfl (by decide) (wl_in 117 (by decide +kernel) rfl) u_X3 rfl
theorem f_X2_118 : Fl RX2 118 7 4 := Fl.of (ref := "AccentHouse$Lodger") (C := RX3) (T := TX3) (N := 7) rfl (by decide) (wl_in 120 (by decide +kernel) rfl) u_X3 rfl
theorem f_X2_121 : Fl RX2 121 7 5 := Fl.of (ref := "AccentHouse$Lodger") (C := RX3) (T := TX3) (N := 7) rfl (by decide) (wl_in 123 (by decide +kernel) rfl) u_X3 rfl
theorem f_X3_9 : Fl RX3 9 7 0 := Fl.of (ref := "AccentHouse$Lodger") (C := RX3) (T := TX3) (N := 7) rfl (by decide) (wl_in 106 (by decide +kernel) rfl) u_X3 rfl
theorem f_X3_18 : Fl RX3 18 7 6 := Fl.of (ref := "AccentHouse$Lodger") (C := RX3) (T := TX3) (N := 7) rfl (by decide) (wl_in 125 (by decide +kernel) rfl) u_X3 rfl
theorem f_X3_22 : Fl RX3 22 7 1 := Fl.of (ref := "AccentHouse$Lodger") (C := RX3) (T := TX3) (N := 7) rfl (by decide) (wl_in 109 (by decide +kernel) rfl) u_X3 rfl
theorem f_X3_26 : Fl RX3 26 7 2 := Fl.of (ref := "AccentHouse$Lodger") (C := RX3) (T := TX3) (N := 7) rfl (by decide) (wl_in 113 (by decide +kernel) rfl) u_X3 rfl
theorem f_X3_29 : Fl RX3 29 7 3 := Fl.of (ref := "AccentHouse$Lodger") (C := RX3) (T := TX3) (N := 7) rfl (by decide) (wl_in 116 (by decide +kernel) rfl) u_X3 rfl
theorem f_X3_32 : Fl RX3 32 7 4 := Fl.of (ref := "AccentHouse$Lodger") (C := RX3) (T := TX3) (N := 7) rfl (by decide) (wl_in 119 (by decide +kernel) rfl) u_X3 rfl
theorem f_X3_35 : Fl RX3 35 7 5 := Fl.of (ref := "AccentHouse$Lodger") (C := RX3) (T := TX3) (N := 7) rfl (by decide) (wl_in 122 (by decide +kernel) rfl) u_X3 rfl
theorem f_X4_12 : Fl RX4 12 8 2 := Fl.of (ref := "AccentHouse$Parser") (C := RX4) (T := TX4) (N := 5) rfl (by decide) (wl_in 225 (by decide +kernel) rfl) u_X4 rfl
theorem f_X4_18 : Fl RX4 18 8 4 := Fl.of (ref := "AccentHouse$Parser") (C := RX4) (T := TX4) (N := 5) rfl (by decide) (wl_in 229 (by decide +kernel) rfl) u_X4 rfl
theorem f_X4_22 : Fl RX4 22 8 0 := Fl.of (ref := "AccentHouse$Parser") (C := RX4) (T := TX4) (N := 5) rfl (by decide) (wl_in 223 (by decide +kernel) rfl) u_X4 rfl
theorem f_X4_31 : Fl RX4 31 8 1 := Fl.of (ref := "AccentHouse$Parser") (C := RX4) (T := TX4) (N := 5) rfl (by decide) (wl_in 224 (by decide +kernel) rfl) u_X4 rfl
theorem f_X4_35 : Fl RX4 35 8 3 := Fl.of (ref := "AccentHouse$Parser") (C := RX4) (T := TX4) (N := 5) rfl (by decide) (wl_in 227 (by decide +kernel) rfl) u_X4 rfl
theorem f_X4_45 : Fl RX4 45 9 3 := Fl.of (ref := "AccentHouse$Tokens") (C := RX6) (T := TX6) (N := 6) rfl (by decide) (wl_in 205 (by decide +kernel) rfl) u_X6 rfl
theorem f_X4_81 : Fl RX4 81 9 4 := Fl.of (ref := "AccentHouse$Tokens") (C := RX6) (T := TX6) (N := 6) rfl (by decide) (wl_in 206 (by decide +kernel) rfl) u_X6 rfl
theorem f_X4_105 : Fl RX4 105 6 8 := Fl.of (ref := "AccentHouse$House") (C := RX2) (T := TX2) (N := 11) rfl (by decide) (wl_in 161 (by decide +kernel) rfl) u_X2 rfl
theorem f_X4_117 : Fl RX4 117 6 7 := Fl.of (ref := "AccentHouse$House") (C := RX2) (T := TX2) (N := 11) rfl (by decide) (wl_in 158 (by decide +kernel) rfl) u_X2 rfl
theorem f_X4_124 : Fl RX4 124 9 5 := Fl.of (ref := "AccentHouse$Tokens") (C := RX6) (T := TX6) (N := 6) rfl (by decide) (wl_in 209 (by decide +kernel) rfl) u_X6 rfl
theorem f_X4_151 : Fl RX4 151 7 1 := Fl.of (ref := "AccentHouse$Lodger") (C := RX3) (T := TX3) (N := 7) rfl (by decide) (wl_in 111 (by decide +kernel) rfl) u_X3 rfl
theorem f_X4_165 : Fl RX4 165 6 9 := Fl.of (ref := "AccentHouse$House") (C := RX2) (T := TX2) (N := 11) rfl (by decide) (wl_in 164 (by decide +kernel) rfl) u_X2 rfl
theorem f_X6_10 : Fl RX6 10 9 1 := Fl.of (ref := "AccentHouse$Tokens") (C := RX6) (T := TX6) (N := 6) rfl (by decide) (wl_in 202 (by decide +kernel) rfl) u_X6 rfl
theorem f_X6_22 : Fl RX6 22 9 3 := Fl.of (ref := "AccentHouse$Tokens") (C := RX6) (T := TX6) (N := 6) rfl (by decide) (wl_in 204 (by decide +kernel) rfl) u_X6 rfl
theorem f_X6_25 : Fl RX6 25 9 0 := Fl.of (ref := "AccentHouse$Tokens") (C := RX6) (T := TX6) (N := 6) rfl (by decide) (wl_in 201 (by decide +kernel) rfl) u_X6 rfl
theorem f_X6_35 : Fl RX6 35 9 2 := Fl.of (ref := "AccentHouse$Tokens") (C := RX6) (T := TX6) (N := 6) rfl (by decide) (wl_in 203 (by decide +kernel) rfl) u_X6 rfl
theorem f_X6_42 : Fl RX6 42 9 5 := Fl.of (ref := "AccentHouse$Tokens") (C := RX6) (T := TX6) (N := 6) rfl (by decide) (wl_in 208 (by decide +kernel) rfl) u_X6 rfl
theorem f_X6_54 : Fl RX6 54 9 4 := Fl.of (ref := "AccentHouse$Tokens") (C := RX6) (T := TX6) (N := 6) rfl (by decide) (wl_in 207 (by decide +kernel) rfl) u_X6 rfl
theorem f_X8_7 : Fl RX8 7 11 0 := Fl.of (ref := "AccentHouseModel") (C := RX8) (T := TX8) (N := 26) rfl (by decide) (wl_in 1515 (by decide +kernel) rfl) u_X8 rfl
theorem f_X8_16 : Fl RX8 16 11 1 := Fl.of (ref := "AccentHouseModel") (C := RX8) (T := TX8) (N := 26) rfl (by decide) (wl_in 1516 (by decide +kernel) rfl) u_X8 rfl
theorem f_X8_19 : Fl RX8 19 11 3 := Fl.of (ref := "AccentHouseModel") (C := RX8) (T := TX8) (N := 26) rfl (by decide) (wl_in 1518 (by decide +kernel) rfl) u_X8 rfl
theorem f_X8_22 : Fl RX8 22 11 4 := Fl.of (ref := "AccentHouseModel") (C := RX8) (T := TX8) (N := 26) rfl (by decide) (wl_in 1519 (by decide +kernel) rfl) u_X8 rfl
theorem f_X8_25 : Fl RX8 25 11 5 := Fl.of (ref := "AccentHouseModel") (C := RX8) (T := TX8) (N := 26) rfl (by decide) (wl_in 1520 (by decide +kernel) rfl) u_X8 rfl
theorem f_X8_28 : Fl RX8 28 11 7 := Fl.of (ref := "AccentHouseModel") (C := RX8) (T := TX8) (N := 26) rfl (by decide) (wl_in 1522 (by decide +kernel) rfl) u_X8 rfl
theorem f_X8_31 : Fl RX8 31 11 9 := Fl.of (ref := "AccentHouseModel") (C := RX8) (T := TX8) (N := 26) rfl (by decide) (wl_in 1524 (by decide +kernel) rfl) u_X8 rfl
theorem f_X8_34 : Fl RX8 34 11 10 := Fl.of (ref := "AccentHouseModel") (C := RX8) (T := TX8) (N := 26) rfl (by decide) (wl_in 1525 (by decide +kernel) rfl) u_X8 rfl
theorem f_X8_37 : Fl RX8 37 11 11 := Fl.of (ref := "AccentHouseModel") (C := RX8) (T := TX8) (N := 26) rfl (by decide) (wl_in 1526 (by decide +kernel) rfl) u_X8 rfl
theorem f_X8_41 : Fl RX8 41 11 13 := Fl.of (ref := "AccentHouseModel") (C := RX8) (T := TX8) (N := 26) rfl (by decide) (wl_in 1528 (by decide +kernel) rfl) u_X8 rfl
theorem f_X8_45 : Fl RX8 45 11 15 := Fl.of (ref := "AccentHouseModel") (C := RX8) (T := TX8) (N := 26) rfl (by decide) (wl_in 1530 (by decide +kernel) rfl) u_X8 rfl
theorem f_X8_49 : Fl RX8 49 11 18 := Fl.of (ref := "AccentHouseModel") (C := RX8) (T := TX8) (N := 26) rfl (by decide) (wl_in 1533 (by decide +kernel) rfl) u_X8 rfl
theorem f_X8_63 : Fl RX8 63 11 2 := Fl.of (ref := "AccentHouseModel") (C := RX8) (T := TX8) (N := 26) rfl (by decide) (wl_in 1517 (by decide +kernel) rfl) u_X8 rfl
theorem f_X8_70 : Fl RX8 70 11 12 := Fl.of (ref := "AccentHouseModel") (C := RX8) (T := TX8) (N := 26) rfl (by decide) (wl_in 1527 (by decide +kernel) rfl) u_X8 rfl
theorem f_X8_127 : Fl RX8 127 11 6 := Fl.of (ref := "AccentHouseModel") (C := RX8) (T := TX8) (N := 26) rfl (by decide) (wl_in 1521 (by decide +kernel) rfl) u_X8 rfl
theorem f_X8_130 : Fl RX8 130 11 20 := Fl.of (ref := "AccentHouseModel") (C := RX8) (T := TX8) (N := 26) rfl (by decide) (wl_in 1535 (by decide +kernel) rfl) u_X8 rfl
theorem f_X8_133 : Fl RX8 133 11 22 := Fl.of (ref := "AccentHouseModel") (C := RX8) (T := TX8) (N := 26) rfl (by decide) (wl_in 1537 (by decide +kernel) rfl) u_X8 rfl
theorem f_X8_136 : Fl RX8 136 11 21 := Fl.of (ref := "AccentHouseModel") (C := RX8) (T := TX8) (N := 26) rfl (by decide) (wl_in 1536 (by decide +kernel) rfl) u_X8 rfl
theorem f_X8_139 : Fl RX8 139 11 19 := Fl.of (ref := "AccentHouseModel") (C := RX8) (T := TX8) (N := 26) rfl (by decide) (wl_in 1534 (by decide +kernel) rfl) u_X8 rfl
theorem f_X8_148 : Fl RX8 148 11 23 := Fl.of (ref := "AccentHouseModel") (C := RX8) (T := TX8) (N := 26) rfl (by decide) (wl_in 1538 (by decide +kernel) rfl) u_X8 rfl
theorem f_X8_151 : Fl RX8 151 11 24 := Fl.of (ref := "AccentHouseModel") (C := RX8) (T := TX8) (N := 26) rfl (by decide) (wl_in 1539 (by decide +kernel) rfl) u_X8 rfl
theorem f_X8_154 : Fl RX8 154 11 25 := Fl.of (ref := "AccentHouseModel") (C := RX8) (T := TX8) (N := 26) rfl (by decide) (wl_in 1540 (by decide +kernel) rfl) u_X8 rfl
theorem f_X8_213 : Fl RX8 213 11 14 := Fl.of (ref := "AccentHouseModel") (C := RX8) (T := TX8) (N := 26) rfl (by decide) (wl_in 1529 (by decide +kernel) rfl) u_X8 rfl
theorem f_X8_231 : Fl RX8 231 11 17 := Fl.of (ref := "AccentHouseModel") (C := RX8) (T := TX8) (N := 26) rfl (by decide) (wl_in 1532 (by decide +kernel) rfl) u_X8 rfl
theorem f_X8_237 : Fl RX8 237 11 8 := Fl.of (ref := "AccentHouseModel") (C := RX8) (T := TX8) (N := 26) rfl (by decide) (wl_in 1523 (by decide +kernel) rfl) u_X8 rfl
theorem f_X8_289 : Fl RX8 289 11 16 := Fl.of (ref := "AccentHouseModel") (C := RX8) (T := TX8) (N := 26) rfl (by decide) (wl_in 1531 (by decide +kernel) rfl) u_X8 rfl
theorem f_J0_9 : Fl RJ0 9 0 0 := Fl.of (ref := "java/lang/String") (C := RJ0) (T := TJ0) (N := 4) rfl (by decide) (wl_in 673 (by decide +kernel) rfl) u_J0 rfl
theorem f_J0_15 : Fl RJ0 15 0 1 := Fl.of (ref := "java/lang/String") (C := RJ0) (T := TJ0) (N := 4) rfl (by decide) (wl_in 674 (by decide +kernel) rfl) u_J0 rfl
abbrev MX7_init : Mr := (RX7, yX7_init, cX7_init, 2, none)
theorem k_X7_init : Cd MX7_init ∈ wl := wl_in 34 (by decide +kernel) rfl
abbrev MJ4_init_da8c8 : Mr := (RJ4, yJ4_init_da8c8, cJ4_init_da8c8, 1, none)
theorem k_J4_init_da8c8 : Cd MJ4_init_da8c8 ∈ wl := wl_in 42 (by decide +kernel) rfl
abbrev MJ5_init_d00df : Mr := (RJ5, yJ5_init_d00df, cJ5_init_d00df, 2, none)
theorem k_J5_init_d00df : Cd MJ5_init_d00df ∈ wl := wl_in 45 (by decide +kernel) rfl
abbrev MJ2_newBytesFor_77867 : Mr := (RJ2, yJ2_newBytesFor_77867, cJ2_newBytesFor_77867, 1, some (.array .byte))
theorem k_J2_newBytesFor_77867 : Cd MJ2_newBytesFor_77867 ∈ wl := wl_in 51 (by decide +kernel) rfl
abbrev MJ2_newBytesLength_0f7a4 : Mr := (RJ2, yJ2_newBytesLength_0f7a4, cJ2_newBytesLength_0f7a4, 1, some .int)
theorem k_J2_newBytesLength_0f7a4 : Cd MJ2_newBytesLength_0f7a4 ∈ wl := wl_in 54 (by decide +kernel) rfl
abbrev MX4_init : Mr := (RX4, yX4_init, cX4_init, 2, none)
theorem k_X4_init : Cd MX4_init ∈ wl := wl_in 75 (by decide +kernel) rfl
abbrev MX2_init : Mr := (RX2, yX2_init, cX2_init, 2, none)
theorem k_X2_init : Cd MX2_init ∈ wl := wl_in 81 (by decide +kernel) rfl
abbrev MX0_init : Mr := (RX0, yX0_init, cX0_init, 1, none)
theorem k_X0_init : Cd MX0_init ∈ wl := wl_in 87 (by decide +kernel) rfl
abbrev MX3_init : Mr := (RX3, yX3_init, cX3_init, 1, none)
theorem k_X3_init : Cd MX3_init ∈ wl := wl_in 101 (by decide +kernel) rfl
abbrev MX6_init : Mr := (RX6, yX6_init, cX6_init, 2, none)
theorem k_X6_init : Cd MX6_init ∈ wl := wl_in 195 (by decide +kernel) rfl
abbrev MX1_init : Mr := (RX1, yX1_init, cX1_init, 2, none)
theorem k_X1_init : Cd MX1_init ∈ wl := wl_in 248 (by decide +kernel) rfl
abbrev MJ0_length_8abf5 : Mr := (RJ0, yJ0_length_8abf5, cJ0_length_8abf5, 1, some .int)
theorem k_J0_length_8abf5 : Cd MJ0_length_8abf5 ∈ wl := wl_in 268 (by decide +kernel) rfl
abbrev MJ0_coder_7d493 : Mr := (RJ0, yJ0_coder_7d493, cJ0_coder_7d493, 1, some .byte)
theorem k_J0_coder_7d493 : Cd MJ0_coder_7d493 ∈ wl := wl_in 272 (by decide +kernel) rfl
abbrev MJ0_charAt_5068e : Mr := (RJ0, yJ0_charAt_5068e, cJ0_charAt_5068e, 2, some .char)
theorem k_J0_charAt_5068e : Cd MJ0_charAt_5068e ∈ wl := wl_in 277 (by decide +kernel) rfl
abbrev MJ0_isLatin1_aae02 : Mr := (RJ0, yJ0_isLatin1_aae02, cJ0_isLatin1_aae02, 1, some .boolean)
theorem k_J0_isLatin1_aae02 : Cd MJ0_isLatin1_aae02 ∈ wl := wl_in 281 (by decide +kernel) rfl
abbrev MJ1_charAt_3b067 : Mr := (RJ1, yJ1_charAt_3b067, cJ1_charAt_3b067, 2, some .char)
theorem k_J1_charAt_3b067 : Cd MJ1_charAt_3b067 ∈ wl := wl_in 284 (by decide +kernel) rfl
abbrev MJ0_checkIndex_df160 : Mr := (RJ0, yJ0_checkIndex_df160, cJ0_checkIndex_df160, 2, none)
theorem k_J0_checkIndex_df160 : Cd MJ0_checkIndex_df160 ∈ wl := wl_in 287 (by decide +kernel) rfl
abbrev MJ3_checkIndex_8e157 : Mr := (RJ3, yJ3_checkIndex_8e157, cJ3_checkIndex_8e157, 3, some .int)
theorem k_J3_checkIndex_8e157 : Cd MJ3_checkIndex_8e157 ∈ wl := wl_in 292 (by decide +kernel) rfl
abbrev MJ2_charAt_3b067 : Mr := (RJ2, yJ2_charAt_3b067, cJ2_charAt_3b067, 2, some .char)
theorem k_J2_charAt_3b067 : Cd MJ2_charAt_3b067 ∈ wl := wl_in 295 (by decide +kernel) rfl
abbrev MJ2_checkIndex_2214a : Mr := (RJ2, yJ2_checkIndex_2214a, cJ2_checkIndex_2214a, 2, none)
theorem k_J2_checkIndex_2214a : Cd MJ2_checkIndex_2214a ∈ wl := wl_in 298 (by decide +kernel) rfl
abbrev MJ2_length_9d52b : Mr := (RJ2, yJ2_length_9d52b, cJ2_length_9d52b, 1, some .int)
theorem k_J2_length_9d52b : Cd MJ2_length_9d52b ∈ wl := wl_in 301 (by decide +kernel) rfl
abbrev MJ2_getChar_3b067 : Mr := (RJ2, yJ2_getChar_3b067, cJ2_getChar_3b067, 2, some .char)
theorem k_J2_getChar_3b067 : Cd MJ2_getChar_3b067 ∈ wl := wl_in 305 (by decide +kernel) rfl
abbrev MX4_read : Mr := (RX4, yX4_read, cX4_read, 3, none)
theorem k_X4_read : Cd MX4_read ∈ wl := wl_in 315 (by decide +kernel) rfl
abbrev MX6_restart : Mr := (RX6, yX6_restart, cX6_restart, 2, none)
theorem k_X6_restart : Cd MX6_restart ∈ wl := wl_in 319 (by decide +kernel) rfl
abbrev MJ9_min_7cf53 : Mr := (RJ9, yJ9_min_7cf53, cJ9_min_7cf53, 2, some .int)
theorem k_J9_min_7cf53 : Cd MJ9_min_7cf53 ∈ wl := wl_in 322 (by decide +kernel) rfl
abbrev MX6_step : Mr := (RX6, yX6_step, cX6_step, 3, none)
theorem k_X6_step : Cd MX6_step ∈ wl := wl_in 328 (by decide +kernel) rfl
abbrev MX6_isLetter : Mr := (RX6, yX6_isLetter, cX6_isLetter, 1, some .boolean)
theorem k_X6_isLetter : Cd MX6_isLetter ∈ wl := wl_in 335 (by decide +kernel) rfl
abbrev MX6_isDigit : Mr := (RX6, yX6_isDigit, cX6_isDigit, 1, some .boolean)
theorem k_X6_isDigit : Cd MX6_isDigit ∈ wl := wl_in 340 (by decide +kernel) rfl
abbrev MX4_readHeader : Mr := (RX4, yX4_readHeader, cX4_readHeader, 3, none)
theorem k_X4_readHeader : Cd MX4_readHeader ∈ wl := wl_in 344 (by decide +kernel) rfl
abbrev MX4_expectWord : Mr := (RX4, yX4_expectWord, cX4_expectWord, 2, none)
theorem k_X4_expectWord : Cd MX4_expectWord ∈ wl := wl_in 349 (by decide +kernel) rfl
abbrev MX6_isWord : Mr := (RX6, yX6_isWord, cX6_isWord, 3, some .boolean)
theorem k_X6_isWord : Cd MX6_isWord ∈ wl := wl_in 353 (by decide +kernel) rfl
abbrev MX6_size : Mr := (RX6, yX6_size, cX6_size, 1, some .int)
theorem k_X6_size : Cd MX6_size ∈ wl := wl_in 357 (by decide +kernel) rfl
abbrev MX4_fail : Mr := (RX4, yX4_fail, cX4_fail, 3, none)
theorem k_X4_fail : Cd MX4_fail ∈ wl := wl_in 364 (by decide +kernel) rfl
abbrev MX4_readNumber : Mr := (RX4, yX4_readNumber, cX4_readNumber, 4, some .int)
theorem k_X4_readNumber : Cd MX4_readNumber ∈ wl := wl_in 368 (by decide +kernel) rfl
abbrev MX6_value : Mr := (RX6, yX6_value, cX6_value, 3, some .int)
theorem k_X6_value : Cd MX6_value ∈ wl := wl_in 374 (by decide +kernel) rfl
abbrev MX2_open : Mr := (RX2, yX2_open, cX2_open, 3, none)
theorem k_X2_open : Cd MX2_open ∈ wl := wl_in 380 (by decide +kernel) rfl
abbrev MX4_readAccent : Mr := (RX4, yX4_readAccent, cX4_readAccent, 3, some .int)
theorem k_X4_readAccent : Cd MX4_readAccent ∈ wl := wl_in 384 (by decide +kernel) rfl
abbrev MX0_setDigits : Mr := (RX0, yX0_setDigits, cX0_setDigits, 4, none)
theorem k_X0_setDigits : Cd MX0_setDigits ∈ wl := wl_in 388 (by decide +kernel) rfl
abbrev MX4_readLodger : Mr := (RX4, yX4_readLodger, cX4_readLodger, 5, none)
theorem k_X4_readLodger : Cd MX4_readLodger ∈ wl := wl_in 393 (by decide +kernel) rfl
abbrev MX4_isAtName : Mr := (RX4, yX4_isAtName, cX4_isAtName, 1, some .boolean)
theorem k_X4_isAtName : Cd MX4_isAtName ∈ wl := wl_in 397 (by decide +kernel) rfl
abbrev MX2_numberOf : Mr := (RX2, yX2_numberOf, cX2_numberOf, 5, some .int)
theorem k_X2_numberOf : Cd MX2_numberOf ∈ wl := wl_in 402 (by decide +kernel) rfl
abbrev MX3_isNamed : Mr := (RX3, yX3_isNamed, cX3_isNamed, 5, some .boolean)
theorem k_X3_isNamed : Cd MX3_isNamed ∈ wl := wl_in 406 (by decide +kernel) rfl
abbrev MX6_word : Mr := (RX6, yX6_word, cX6_word, 2, some (.object "java/lang/String"))
theorem k_X6_word : Cd MX6_word ∈ wl := wl_in 412 (by decide +kernel) rfl
abbrev MJ4_setLength_d00df : Mr := (RJ4, yJ4_setLength_d00df, cJ4_setLength_d00df, 2, none)
theorem k_J4_setLength_d00df : Cd MJ4_setLength_d00df ∈ wl := wl_in 416 (by decide +kernel) rfl
abbrev MJ5_setLength_d00df : Mr := (RJ5, yJ5_setLength_d00df, cJ5_setLength_d00df, 2, none)
theorem k_J5_setLength_d00df : Cd MJ5_setLength_d00df ∈ wl := wl_in 419 (by decide +kernel) rfl
abbrev MJx7c733_init_d00df : Mr := (RJx7c733, yJx7c733_init_d00df, cJx7c733_init_d00df, 2, none)
theorem k_Jx7c733_init_d00df : Cd MJx7c733_init_d00df ∈ wl := wl_in 424 (by decide +kernel) rfl
abbrev MJ4_append_15ec4 : Mr := (RJ4, yJ4_append_15ec4, cJ4_append_15ec4, 2, some (.object "java/lang/StringBuilder"))
theorem k_J4_append_15ec4 : Cd MJ4_append_15ec4 ∈ wl := wl_in 431 (by decide +kernel) rfl
abbrev MJ5_append_cf1ce : Mr := (RJ5, yJ5_append_cf1ce, cJ5_append_cf1ce, 3, some (.object "java/lang/AbstractStringBuilder"))
theorem k_J5_append_cf1ce : Cd MJ5_append_cf1ce ∈ wl := wl_in 434 (by decide +kernel) rfl
abbrev MJ5_appendNull_278bc : Mr := (RJ5, yJ5_appendNull_278bc, cJ5_appendNull_278bc, 3, some (.object "java/lang/AbstractStringBuilder"))
theorem k_J5_appendNull_278bc : Cd MJ5_appendNull_278bc ∈ wl := wl_in 438 (by decide +kernel) rfl
abbrev MJ5_ensureCapacityInternal_d00df : Mr := (RJ5, yJ5_ensureCapacityInternal_d00df, cJ5_ensureCapacityInternal_d00df, 3, none)
theorem k_J5_ensureCapacityInternal_d00df : Cd MJ5_ensureCapacityInternal_d00df ∈ wl := wl_in 442 (by decide +kernel) rfl
abbrev MJ5_newCapacity_0f7a4 : Mr := (RJ5, yJ5_newCapacity_0f7a4, cJ5_newCapacity_0f7a4, 6, some .int)
theorem k_J5_newCapacity_0f7a4 : Cd MJ5_newCapacity_0f7a4 ∈ wl := wl_in 446 (by decide +kernel) rfl
abbrev MJ8_newLength_cabcc : Mr := (RJ8, yJ8_newLength_cabcc, cJ8_newLength_cabcc, 4, some .int)
theorem k_J8_newLength_cabcc : Cd MJ8_newLength_cabcc ∈ wl := wl_in 449 (by decide +kernel) rfl
abbrev MJ9_max_7cf53 : Mr := (RJ9, yJ9_max_7cf53, cJ9_max_7cf53, 2, some .int)
theorem k_J9_max_7cf53 : Cd MJ9_max_7cf53 ∈ wl := wl_in 452 (by decide +kernel) rfl
abbrev MJ8_hugeLength_7cf53 : Mr := (RJ8, yJ8_hugeLength_7cf53, cJ8_hugeLength_7cf53, 3, some .int)
theorem k_J8_hugeLength_7cf53 : Cd MJ8_hugeLength_7cf53 ∈ wl := wl_in 456 (by decide +kernel) rfl
abbrev MJ7_copyOf_9075b : Mr := (RJ7, yJ7_copyOf_9075b, cJ7_copyOf_9075b, 3, some (.array .byte))
theorem k_J7_copyOf_9075b : Cd MJ7_copyOf_9075b ∈ wl := wl_in 460 (by decide +kernel) rfl
abbrev MJ5_isLatin1_aae02 : Mr := (RJ5, yJ5_isLatin1_aae02, cJ5_isLatin1_aae02, 1, some .boolean)
theorem k_J5_isLatin1_aae02 : Cd MJ5_isLatin1_aae02 ∈ wl := wl_in 476 (by decide +kernel) rfl
abbrev MJ2_putCharsAt_cd4e5 : Mr := (RJ2, yJ2_putCharsAt_cd4e5, cJ2_putCharsAt_cd4e5, 7, some .int)
theorem k_J2_putCharsAt_cd4e5 : Cd MJ2_putCharsAt_cd4e5 ∈ wl := wl_in 479 (by decide +kernel) rfl
abbrev MJ2_checkBoundsBeginEnd_d044e : Mr := (RJ2, yJ2_checkBoundsBeginEnd_d044e, cJ2_checkBoundsBeginEnd_d044e, 3, none)
theorem k_J2_checkBoundsBeginEnd_d044e : Cd MJ2_checkBoundsBeginEnd_d044e ∈ wl := wl_in 482 (by decide +kernel) rfl
abbrev MJ0_checkBoundsBeginEnd_23922 : Mr := (RJ0, yJ0_checkBoundsBeginEnd_23922, cJ0_checkBoundsBeginEnd_23922, 3, none)
theorem k_J0_checkBoundsBeginEnd_23922 : Cd MJ0_checkBoundsBeginEnd_23922 ∈ wl := wl_in 485 (by decide +kernel) rfl
abbrev MJ3_checkFromToIndex_8c36e : Mr := (RJ3, yJ3_checkFromToIndex_8c36e, cJ3_checkFromToIndex_8c36e, 4, some .int)
theorem k_J3_checkFromToIndex_8c36e : Cd MJ3_checkFromToIndex_8c36e ∈ wl := wl_in 488 (by decide +kernel) rfl
abbrev MJ2_putChar_b72d1 : Mr := (RJ2, yJ2_putChar_b72d1, cJ2_putChar_b72d1, 3, none)
theorem k_J2_putChar_b72d1 : Cd MJ2_putChar_b72d1 ∈ wl := wl_in 491 (by decide +kernel) rfl
abbrev MJ5_putStringAt_47b60 : Mr := (RJ5, yJ5_putStringAt_47b60, cJ5_putStringAt_47b60, 3, none)
theorem k_J5_putStringAt_47b60 : Cd MJ5_putStringAt_47b60 ∈ wl := wl_in 496 (by decide +kernel) rfl
abbrev MJ5_inflateIfNeededFor_a7421 : Mr := (RJ5, yJ5_inflateIfNeededFor_a7421, cJ5_inflateIfNeededFor_a7421, 2, none)
theorem k_J5_inflateIfNeededFor_a7421 : Cd MJ5_inflateIfNeededFor_a7421 ∈ wl := wl_in 500 (by decide +kernel) rfl
abbrev MJ5_inflate_da8c8 : Mr := (RJ5, yJ5_inflate_da8c8, cJ5_inflate_da8c8, 2, none)
theorem k_J5_inflate_da8c8 : Cd MJ5_inflate_da8c8 ∈ wl := wl_in 505 (by decide +kernel) rfl
abbrev MJ1_inflate_0e8fd : Mr := (RJ1, yJ1_inflate_0e8fd, cJ1_inflate_0e8fd, 5, none)
theorem k_J1_inflate_0e8fd : Cd MJ1_inflate_0e8fd ∈ wl := wl_in 508 (by decide +kernel) rfl
abbrev MJ2_inflate_0e8fd : Mr := (RJ2, yJ2_inflate_0e8fd, cJ2_inflate_0e8fd, 6, none)
theorem k_J2_inflate_0e8fd : Cd MJ2_inflate_0e8fd ∈ wl := wl_in 511 (by decide +kernel) rfl
abbrev MJ2_checkBoundsOffCount_d044e : Mr := (RJ2, yJ2_checkBoundsOffCount_d044e, cJ2_checkBoundsOffCount_d044e, 3, none)
theorem k_J2_checkBoundsOffCount_d044e : Cd MJ2_checkBoundsOffCount_d044e ∈ wl := wl_in 514 (by decide +kernel) rfl
abbrev MJ0_checkBoundsOffCount_cabcc : Mr := (RJ0, yJ0_checkBoundsOffCount_cabcc, cJ0_checkBoundsOffCount_cabcc, 3, some .int)
theorem k_J0_checkBoundsOffCount_cabcc : Cd MJ0_checkBoundsOffCount_cabcc ∈ wl := wl_in 517 (by decide +kernel) rfl
abbrev MJ3_checkFromIndexSize_8c36e : Mr := (RJ3, yJ3_checkFromIndexSize_8c36e, cJ3_checkFromIndexSize_8c36e, 4, some .int)
theorem k_J3_checkFromIndexSize_8c36e : Cd MJ3_checkFromIndexSize_8c36e ∈ wl := wl_in 520 (by decide +kernel) rfl
abbrev MJ0_getBytes_840e7 : Mr := (RJ0, yJ0_getBytes_840e7, cJ0_getBytes_840e7, 4, none)
theorem k_J0_getBytes_840e7 : Cd MJ0_getBytes_840e7 ∈ wl := wl_in 524 (by decide +kernel) rfl
abbrev MJ4_append_bf812 : Mr := (RJ4, yJ4_append_bf812, cJ4_append_bf812, 2, some (.object "java/lang/StringBuilder"))
theorem k_J4_append_bf812 : Cd MJ4_append_bf812 ∈ wl := wl_in 530 (by decide +kernel) rfl
abbrev MJ5_append_c97b9 : Mr := (RJ5, yJ5_append_c97b9, cJ5_append_c97b9, 4, some (.object "java/lang/AbstractStringBuilder"))
theorem k_J5_append_c97b9 : Cd MJ5_append_c97b9 ∈ wl := wl_in 533 (by decide +kernel) rfl
abbrev MJ6_stringSize_0f7a4 : Mr := (RJ6, yJ6_stringSize_0f7a4, cJ6_stringSize_0f7a4, 4, some .int)
theorem k_J6_stringSize_0f7a4 : Cd MJ6_stringSize_0f7a4 ∈ wl := wl_in 536 (by decide +kernel) rfl
abbrev MJ6_getChars_ba4f3 : Mr := (RJ6, yJ6_getChars_ba4f3, cJ6_getChars_ba4f3, 7, some .int)
theorem k_J6_getChars_ba4f3 : Cd MJ6_getChars_ba4f3 ∈ wl := wl_in 539 (by decide +kernel) rfl
abbrev MJ2_getChars_46870 : Mr := (RJ2, yJ2_getChars_46870, cJ2_getChars_46870, 5, some .int)
theorem k_J2_getChars_46870 : Cd MJ2_getChars_46870 ∈ wl := wl_in 546 (by decide +kernel) rfl
abbrev MJ2_getChars_ba4f3 : Mr := (RJ2, yJ2_getChars_ba4f3, cJ2_getChars_ba4f3, 7, some .int)
theorem k_J2_getChars_ba4f3 : Cd MJ2_getChars_ba4f3 ∈ wl := wl_in 549 (by decide +kernel) rfl
abbrev MJ4_toString_0e30d : Mr := (RJ4, yJ4_toString_0e30d, cJ4_toString_0e30d, 1, some (.object "java/lang/String"))
theorem k_J4_toString_0e30d : Cd MJ4_toString_0e30d ∈ wl := wl_in 555 (by decide +kernel) rfl
abbrev MJ0_init_81219 : Mr := (RJ0, yJ0_init_81219, cJ0_init_81219, 2, none)
theorem k_J0_init_81219 : Cd MJ0_init_81219 ∈ wl := wl_in 560 (by decide +kernel) rfl
abbrev MJ0_init_db425 : Mr := (RJ0, yJ0_init_db425, cJ0_init_db425, 5, none)
theorem k_J0_init_db425 : Cd MJ0_init_db425 ∈ wl := wl_in 563 (by decide +kernel) rfl
abbrev MJ5_getValue_6d5f1 : Mr := (RJ5, yJ5_getValue_6d5f1, cJ5_getValue_6d5f1, 1, some (.array .byte))
theorem k_J5_getValue_6d5f1 : Cd MJ5_getValue_6d5f1 ∈ wl := wl_in 569 (by decide +kernel) rfl
abbrev MJ4_length_8abf5 : Mr := (RJ4, yJ4_length_8abf5, cJ4_length_8abf5, 1, some .int)
theorem k_J4_length_8abf5 : Cd MJ4_length_8abf5 ∈ wl := wl_in 575 (by decide +kernel) rfl
abbrev MJ5_length_8abf5 : Mr := (RJ5, yJ5_length_8abf5, cJ5_length_8abf5, 1, some .int)
theorem k_J5_length_8abf5 : Cd MJ5_length_8abf5 ∈ wl := wl_in 577 (by decide +kernel) rfl
abbrev MJ7_copyOfRange_39247 : Mr := (RJ7, yJ7_copyOfRange_39247, cJ7_copyOfRange_39247, 3, some (.array .byte))
theorem k_J7_copyOfRange_39247 : Cd MJ7_copyOfRange_39247 ∈ wl := wl_in 581 (by decide +kernel) rfl
abbrev MJ7_copyOfRangeByte_39247 : Mr := (RJ7, yJ7_copyOfRangeByte_39247, cJ7_copyOfRangeByte_39247, 5, some (.array .byte))
theorem k_J7_copyOfRangeByte_39247 : Cd MJ7_copyOfRangeByte_39247 ∈ wl := wl_in 584 (by decide +kernel) rfl
abbrev MJ7_checkLength_df160 : Mr := (RJ7, yJ7_checkLength_df160, cJ7_checkLength_df160, 2, none)
theorem k_J7_checkLength_df160 : Cd MJ7_checkLength_df160 ∈ wl := wl_in 587 (by decide +kernel) rfl
abbrev MJ2_compress_39247 : Mr := (RJ2, yJ2_compress_39247, cJ2_compress_39247, 6, some (.array .byte))
theorem k_J2_compress_39247 : Cd MJ2_compress_39247 ∈ wl := wl_in 665 (by decide +kernel) rfl
abbrev MJ2_compress_5af95 : Mr := (RJ2, yJ2_compress_5af95, cJ2_compress_5af95, 7, some .int)
theorem k_J2_compress_5af95 : Cd MJ2_compress_5af95 ∈ wl := wl_in 668 (by decide +kernel) rfl
abbrev MJ2_coderFromArrayLen_85cad : Mr := (RJ2, yJ2_coderFromArrayLen_85cad, cJ2_coderFromArrayLen_85cad, 2, some .byte)
theorem k_J2_coderFromArrayLen_85cad : Cd MJ2_coderFromArrayLen_85cad ∈ wl := wl_in 672 (by decide +kernel) rfl
abbrev MJ1_fillNull_b72d1 : Mr := (RJ1, yJ1_fillNull_b72d1, cJ1_fillNull_b72d1, 3, none)
theorem k_J1_fillNull_b72d1 : Cd MJ1_fillNull_b72d1 ∈ wl := wl_in 697 (by decide +kernel) rfl
abbrev MJ7_fill_eb02e : Mr := (RJ7, yJ7_fill_eb02e, cJ7_fill_eb02e, 5, none)
theorem k_J7_fill_eb02e : Cd MJ7_fill_eb02e ∈ wl := wl_in 700 (by decide +kernel) rfl
abbrev MJ7_rangeCheck_23922 : Mr := (RJ7, yJ7_rangeCheck_23922, cJ7_rangeCheck_23922, 3, none)
theorem k_J7_rangeCheck_23922 : Cd MJ7_rangeCheck_23922 ∈ wl := wl_in 703 (by decide +kernel) rfl
abbrev MJx00060_init_d00df : Mr := (RJx00060, yJx00060_init_d00df, cJx00060_init_d00df, 2, none)
theorem k_Jx00060_init_d00df : Cd MJx00060_init_d00df ∈ wl := wl_in 720 (by decide +kernel) rfl
abbrev MJ2_fillNull_b72d1 : Mr := (RJ2, yJ2_fillNull_b72d1, cJ2_fillNull_b72d1, 3, none)
theorem k_J2_fillNull_b72d1 : Cd MJ2_fillNull_b72d1 ∈ wl := wl_in 732 (by decide +kernel) rfl
abbrev MJ4_append_cf468 : Mr := (RJ4, yJ4_append_cf468, cJ4_append_cf468, 2, some (.object "java/lang/StringBuilder"))
theorem k_J4_append_cf468 : Cd MJ4_append_cf468 ∈ wl := wl_in 737 (by decide +kernel) rfl
abbrev MJ5_append_3fe6f : Mr := (RJ5, yJ5_append_3fe6f, cJ5_append_3fe6f, 2, some (.object "java/lang/AbstractStringBuilder"))
theorem k_J5_append_3fe6f : Cd MJ5_append_3fe6f ∈ wl := wl_in 740 (by decide +kernel) rfl
abbrev MJ1_canEncode_fc78d : Mr := (RJ1, yJ1_canEncode_fc78d, cJ1_canEncode_fc78d, 1, some .boolean)
theorem k_J1_canEncode_fc78d : Cd MJ1_canEncode_fc78d ∈ wl := wl_in 743 (by decide +kernel) rfl
abbrev MJ2_putCharSB_b72d1 : Mr := (RJ2, yJ2_putCharSB_b72d1, cJ2_putCharSB_b72d1, 3, none)
theorem k_J2_putCharSB_b72d1 : Cd MJ2_putCharSB_b72d1 ∈ wl := wl_in 746 (by decide +kernel) rfl
abbrev MX4_readFloor : Mr := (RX4, yX4_readFloor, cX4_readFloor, 4, some .int)
theorem k_X4_readFloor : Cd MX4_readFloor ∈ wl := wl_in 751 (by decide +kernel) rfl
abbrev MX2_isFullFor : Mr := (RX2, yX2_isFullFor, cX2_isFullFor, 5, some .boolean)
theorem k_X2_isFullFor : Cd MX2_isFullFor ∈ wl := wl_in 755 (by decide +kernel) rfl
abbrev MX2_receive : Mr := (RX2, yX2_receive, cX2_receive, 6, some .int)
theorem k_X2_receive : Cd MX2_receive ∈ wl := wl_in 759 (by decide +kernel) rfl
abbrev MX4_readPay : Mr := (RX4, yX4_readPay, cX4_readPay, 3, none)
theorem k_X4_readPay : Cd MX4_readPay ∈ wl := wl_in 765 (by decide +kernel) rfl
abbrev MX4_readKnownName : Mr := (RX4, yX4_readKnownName, cX4_readKnownName, 2, some (.object "AccentHouse$Lodger"))
theorem k_X4_readKnownName : Cd MX4_readKnownName ∈ wl := wl_in 769 (by decide +kernel) rfl
abbrev MX2_takePayment : Mr := (RX2, yX2_takePayment, cX2_takePayment, 3, none)
theorem k_X2_takePayment : Cd MX2_takePayment ∈ wl := wl_in 773 (by decide +kernel) rfl
abbrev MX4_readMove : Mr := (RX4, yX4_readMove, cX4_readMove, 3, none)
theorem k_X4_readMove : Cd MX4_readMove ∈ wl := wl_in 778 (by decide +kernel) rfl
abbrev MX4_readDays : Mr := (RX4, yX4_readDays, cX4_readDays, 3, none)
theorem k_X4_readDays : Cd MX4_readDays ∈ wl := wl_in 783 (by decide +kernel) rfl
abbrev MX2_passDay : Mr := (RX2, yX2_passDay, cX2_passDay, 2, none)
theorem k_X2_passDay : Cd MX2_passDay ∈ wl := wl_in 787 (by decide +kernel) rfl
abbrev MX2_collectRent : Mr := (RX2, yX2_collectRent, cX2_collectRent, 3, none)
theorem k_X2_collectRent : Cd MX2_collectRent ∈ wl := wl_in 791 (by decide +kernel) rfl
abbrev MX2_dailyRent : Mr := (RX2, yX2_dailyRent, cX2_dailyRent, 2, some .int)
theorem k_X2_dailyRent : Cd MX2_dailyRent ∈ wl := wl_in 795 (by decide +kernel) rfl
abbrev MX2_giveLessons : Mr := (RX2, yX2_giveLessons, cX2_giveLessons, 2, none)
theorem k_X2_giveLessons : Cd MX2_giveLessons ∈ wl := wl_in 799 (by decide +kernel) rfl
abbrev MX0_approach : Mr := (RX0, yX0_approach, cX0_approach, 3, some .boolean)
theorem k_X0_approach : Cd MX0_approach ∈ wl := wl_in 803 (by decide +kernel) rfl
abbrev MX0_farthestVowel : Mr := (RX0, yX0_farthestVowel, cX0_farthestVowel, 7, some .int)
theorem k_X0_farthestVowel : Cd MX0_farthestVowel ∈ wl := wl_in 807 (by decide +kernel) rfl
abbrev MX2_serveDinner : Mr := (RX2, yX2_serveDinner, cX2_serveDinner, 3, none)
theorem k_X2_serveDinner : Cd MX2_serveDinner ∈ wl := wl_in 811 (by decide +kernel) rfl
abbrev MX2_crowdOn : Mr := (RX2, yX2_crowdOn, cX2_crowdOn, 4, some .int)
theorem k_X2_crowdOn : Cd MX2_crowdOn ∈ wl := wl_in 815 (by decide +kernel) rfl
abbrev MX2_computeAverage : Mr := (RX2, yX2_computeAverage, cX2_computeAverage, 3, none)
theorem k_X2_computeAverage : Cd MX2_computeAverage ∈ wl := wl_in 819 (by decide +kernel) rfl
abbrev MX2_averagePosition : Mr := (RX2, yX2_averagePosition, cX2_averagePosition, 6, some .int)
theorem k_X2_averagePosition : Cd MX2_averagePosition ∈ wl := wl_in 823 (by decide +kernel) rfl
abbrev MX2_inspect : Mr := (RX2, yX2_inspect, cX2_inspect, 2, none)
theorem k_X2_inspect : Cd MX2_inspect ∈ wl := wl_in 827 (by decide +kernel) rfl
abbrev MX2_mustLeave : Mr := (RX2, yX2_mustLeave, cX2_mustLeave, 2, some .boolean)
theorem k_X2_mustLeave : Cd MX2_mustLeave ∈ wl := wl_in 831 (by decide +kernel) rfl
abbrev MX0_distanceTo : Mr := (RX0, yX0_distanceTo, cX0_distanceTo, 5, some .int)
theorem k_X0_distanceTo : Cd MX0_distanceTo ∈ wl := wl_in 835 (by decide +kernel) rfl
abbrev MX0_rhymesWith : Mr := (RX0, yX0_rhymesWith, cX0_rhymesWith, 4, some .boolean)
theorem k_X0_rhymesWith : Cd MX0_rhymesWith ∈ wl := wl_in 839 (by decide +kernel) rfl
abbrev MX2_dismiss : Mr := (RX2, yX2_dismiss, cX2_dismiss, 4, none)
theorem k_X2_dismiss : Cd MX2_dismiss ∈ wl := wl_in 843 (by decide +kernel) rfl
abbrev MX2_copyFrom : Mr := (RX2, yX2_copyFrom, cX2_copyFrom, 3, none)
theorem k_X2_copyFrom : Cd MX2_copyFrom ∈ wl := wl_in 848 (by decide +kernel) rfl
abbrev MX0_copyFrom : Mr := (RX0, yX0_copyFrom, cX0_copyFrom, 2, none)
theorem k_X0_copyFrom : Cd MX0_copyFrom ∈ wl := wl_in 852 (by decide +kernel) rfl
abbrev MX3_copyFrom : Mr := (RX3, yX3_copyFrom, cX3_copyFrom, 2, none)
theorem k_X3_copyFrom : Cd MX3_copyFrom ∈ wl := wl_in 857 (by decide +kernel) rfl
abbrev MX7_errorKind : Mr := (RX7, yX7_errorKind, cX7_errorKind, 1, some .int)
theorem k_X7_errorKind : Cd MX7_errorKind ∈ wl := wl_in 896 (by decide +kernel) rfl
abbrev MX7_errorOffset : Mr := (RX7, yX7_errorOffset, cX7_errorOffset, 1, some .int)
theorem k_X7_errorOffset : Cd MX7_errorOffset ∈ wl := wl_in 900 (by decide +kernel) rfl
abbrev MX7_day : Mr := (RX7, yX7_day, cX7_day, 1, some .int)
theorem k_X7_day : Cd MX7_day ∈ wl := wl_in 904 (by decide +kernel) rfl
abbrev MX7_lodgerCount : Mr := (RX7, yX7_lodgerCount, cX7_lodgerCount, 1, some .int)
theorem k_X7_lodgerCount : Cd MX7_lodgerCount ∈ wl := wl_in 908 (by decide +kernel) rfl
abbrev MX7_baseRent : Mr := (RX7, yX7_baseRent, cX7_baseRent, 1, some .int)
theorem k_X7_baseRent : Cd MX7_baseRent ∈ wl := wl_in 912 (by decide +kernel) rfl
abbrev MX7_tolerance : Mr := (RX7, yX7_tolerance, cX7_tolerance, 1, some .int)
theorem k_X7_tolerance : Cd MX7_tolerance ∈ wl := wl_in 916 (by decide +kernel) rfl
abbrev MX7_daysToInspection : Mr := (RX7, yX7_daysToInspection, cX7_daysToInspection, 1, some .int)
theorem k_X7_daysToInspection : Cd MX7_daysToInspection ∈ wl := wl_in 920 (by decide +kernel) rfl
abbrev MX7_evictions : Mr := (RX7, yX7_evictions, cX7_evictions, 1, some .int)
theorem k_X7_evictions : Cd MX7_evictions ∈ wl := wl_in 924 (by decide +kernel) rfl
abbrev MX7_undoCount : Mr := (RX7, yX7_undoCount, cX7_undoCount, 1, some .int)
theorem k_X7_undoCount : Cd MX7_undoCount ∈ wl := wl_in 928 (by decide +kernel) rfl
abbrev MX7_findByName : Mr := (RX7, yX7_findByName, cX7_findByName, 3, some .int)
theorem k_X7_findByName : Cd MX7_findByName ∈ wl := wl_in 932 (by decide +kernel) rfl
abbrev MX7_meanDistance : Mr := (RX7, yX7_meanDistance, cX7_meanDistance, 3, some .double)
theorem k_X7_meanDistance : Cd MX7_meanDistance ∈ wl := wl_in 937 (by decide +kernel) rfl
abbrev MX7_rhymingShare : Mr := (RX7, yX7_rhymingShare, cX7_rhymingShare, 3, some .float)
theorem k_X7_rhymingShare : Cd MX7_rhymingShare ∈ wl := wl_in 942 (by decide +kernel) rfl
abbrev MX7_totalPaid : Mr := (RX7, yX7_totalPaid, cX7_totalPaid, 1, some .int)
theorem k_X7_totalPaid : Cd MX7_totalPaid ∈ wl := wl_in 947 (by decide +kernel) rfl
abbrev MX7_totalCharged : Mr := (RX7, yX7_totalCharged, cX7_totalCharged, 1, some .int)
theorem k_X7_totalCharged : Cd MX7_totalCharged ∈ wl := wl_in 951 (by decide +kernel) rfl
abbrev MX7_settled : Mr := (RX7, yX7_settled, cX7_settled, 1, some .int)
theorem k_X7_settled : Cd MX7_settled ∈ wl := wl_in 955 (by decide +kernel) rfl
abbrev MX7_ledgerDifference : Mr := (RX7, yX7_ledgerDifference, cX7_ledgerDifference, 3, some .int)
theorem k_X7_ledgerDifference : Cd MX7_ledgerDifference ∈ wl := wl_in 959 (by decide +kernel) rfl
abbrev MX7_append : Mr := (RX7, yX7_append, cX7_append, 6, some .int)
theorem k_X7_append : Cd MX7_append ∈ wl := wl_in 967 (by decide +kernel) rfl
abbrev MX7_appendWord : Mr := (RX7, yX7_appendWord, cX7_appendWord, 3, none)
theorem k_X7_appendWord : Cd MX7_appendWord ∈ wl := wl_in 987 (by decide +kernel) rfl
abbrev MX7_load : Mr := (RX7, yX7_load, cX7_load, 3, some .int)
theorem k_X7_load : Cd MX7_load ∈ wl := wl_in 996 (by decide +kernel) rfl
abbrev MX1_clear : Mr := (RX1, yX1_clear, cX1_clear, 1, none)
theorem k_X1_clear : Cd MX1_clear ∈ wl := wl_in 1016 (by decide +kernel) rfl
abbrev MX7_rentOf : Mr := (RX7, yX7_rentOf, cX7_rentOf, 2, some .int)
theorem k_X7_rentOf : Cd MX7_rentOf ∈ wl := wl_in 1023 (by decide +kernel) rfl
abbrev MX7_requireFloor : Mr := (RX7, yX7_requireFloor, cX7_requireFloor, 2, none)
theorem k_X7_requireFloor : Cd MX7_requireFloor ∈ wl := wl_in 1027 (by decide +kernel) rfl
abbrev MX7_landladyVowel : Mr := (RX7, yX7_landladyVowel, cX7_landladyVowel, 2, some .int)
theorem k_X7_landladyVowel : Cd MX7_landladyVowel ∈ wl := wl_in 1036 (by decide +kernel) rfl
abbrev MX7_requireVowel : Mr := (RX7, yX7_requireVowel, cX7_requireVowel, 2, none)
theorem k_X7_requireVowel : Cd MX7_requireVowel ∈ wl := wl_in 1040 (by decide +kernel) rfl
abbrev MX7_floorOf : Mr := (RX7, yX7_floorOf, cX7_floorOf, 2, some .int)
theorem k_X7_floorOf : Cd MX7_floorOf ∈ wl := wl_in 1048 (by decide +kernel) rfl
abbrev MX7_requireLodger : Mr := (RX7, yX7_requireLodger, cX7_requireLodger, 2, some (.object "AccentHouse$Lodger"))
theorem k_X7_requireLodger : Cd MX7_requireLodger ∈ wl := wl_in 1052 (by decide +kernel) rfl
abbrev MX7_balanceOf : Mr := (RX7, yX7_balanceOf, cX7_balanceOf, 2, some .int)
theorem k_X7_balanceOf : Cd MX7_balanceOf ∈ wl := wl_in 1060 (by decide +kernel) rfl
abbrev MX7_vowelOf : Mr := (RX7, yX7_vowelOf, cX7_vowelOf, 4, some .int)
theorem k_X7_vowelOf : Cd MX7_vowelOf ∈ wl := wl_in 1067 (by decide +kernel) rfl
abbrev MX7_lessonsOf : Mr := (RX7, yX7_lessonsOf, cX7_lessonsOf, 2, some .int)
theorem k_X7_lessonsOf : Cd MX7_lessonsOf ∈ wl := wl_in 1074 (by decide +kernel) rfl
abbrev MX7_slipsOf : Mr := (RX7, yX7_slipsOf, cX7_slipsOf, 2, some .int)
theorem k_X7_slipsOf : Cd MX7_slipsOf ∈ wl := wl_in 1081 (by decide +kernel) rfl
abbrev MX7_daysStayed : Mr := (RX7, yX7_daysStayed, cX7_daysStayed, 2, some .int)
theorem k_X7_daysStayed : Cd MX7_daysStayed ∈ wl := wl_in 1088 (by decide +kernel) rfl
abbrev MX7_nameLength : Mr := (RX7, yX7_nameLength, cX7_nameLength, 2, some .int)
theorem k_X7_nameLength : Cd MX7_nameLength ∈ wl := wl_in 1095 (by decide +kernel) rfl
abbrev MX7_nameLetter : Mr := (RX7, yX7_nameLetter, cX7_nameLetter, 4, some .char)
theorem k_X7_nameLetter : Cd MX7_nameLetter ∈ wl := wl_in 1102 (by decide +kernel) rfl
abbrev MX7_lodgersOn : Mr := (RX7, yX7_lodgersOn, cX7_lodgersOn, 2, some .int)
theorem k_X7_lodgersOn : Cd MX7_lodgersOn ∈ wl := wl_in 1110 (by decide +kernel) rfl
abbrev MX7_lodgerOn : Mr := (RX7, yX7_lodgerOn, cX7_lodgerOn, 4, some .int)
theorem k_X7_lodgerOn : Cd MX7_lodgerOn ∈ wl := wl_in 1118 (by decide +kernel) rfl
abbrev MX2_numberAt : Mr := (RX2, yX2_numberAt, cX2_numberAt, 5, some .int)
theorem k_X2_numberAt : Cd MX2_numberAt ∈ wl := wl_in 1122 (by decide +kernel) rfl
abbrev MX7_averageVowel : Mr := (RX7, yX7_averageVowel, cX7_averageVowel, 3, some .int)
theorem k_X7_averageVowel : Cd MX7_averageVowel ∈ wl := wl_in 1130 (by decide +kernel) rfl
abbrev MX7_distanceToLandlady : Mr := (RX7, yX7_distanceToLandlady, cX7_distanceToLandlady, 2, some .int)
theorem k_X7_distanceToLandlady : Cd MX7_distanceToLandlady ∈ wl := wl_in 1139 (by decide +kernel) rfl
abbrev MX7_distance : Mr := (RX7, yX7_distance, cX7_distance, 5, some .int)
theorem k_X7_distance : Cd MX7_distance ∈ wl := wl_in 1146 (by decide +kernel) rfl
abbrev MX7_rhymes : Mr := (RX7, yX7_rhymes, cX7_rhymes, 5, some .boolean)
theorem k_X7_rhymes : Cd MX7_rhymes ∈ wl := wl_in 1153 (by decide +kernel) rfl
abbrev MX7_rhymesWithLandlady : Mr := (RX7, yX7_rhymesWithLandlady, cX7_rhymesWithLandlady, 2, some .boolean)
theorem k_X7_rhymesWithLandlady : Cd MX7_rhymesWithLandlady ∈ wl := wl_in 1160 (by decide +kernel) rfl
abbrev MX7_rhymeCount : Mr := (RX7, yX7_rhymeCount, cX7_rhymeCount, 5, some .int)
theorem k_X7_rhymeCount : Cd MX7_rhymeCount ∈ wl := wl_in 1167 (by decide +kernel) rfl
abbrev MX7_closestTo : Mr := (RX7, yX7_closestTo, cX7_closestTo, 7, some .int)
theorem k_X7_closestTo : Cd MX7_closestTo ∈ wl := wl_in 1174 (by decide +kernel) rfl
abbrev MX7_lessonVowel : Mr := (RX7, yX7_lessonVowel, cX7_lessonVowel, 2, some .int)
theorem k_X7_lessonVowel : Cd MX7_lessonVowel ∈ wl := wl_in 1181 (by decide +kernel) rfl
abbrev MX7_slipVowel : Mr := (RX7, yX7_slipVowel, cX7_slipVowel, 3, some .int)
theorem k_X7_slipVowel : Cd MX7_slipVowel ∈ wl := wl_in 1189 (by decide +kernel) rfl
abbrev MX7_mustGo : Mr := (RX7, yX7_mustGo, cX7_mustGo, 2, some .boolean)
theorem k_X7_mustGo : Cd MX7_mustGo ∈ wl := wl_in 1197 (by decide +kernel) rfl
abbrev MX7_balanceAfter : Mr := (RX7, yX7_balanceAfter, cX7_balanceAfter, 4, some .int)
theorem k_X7_balanceAfter : Cd MX7_balanceAfter ∈ wl := wl_in 1205 (by decide +kernel) rfl
abbrev MX7_requireRange : Mr := (RX7, yX7_requireRange, cX7_requireRange, 4, none)
theorem k_X7_requireRange : Cd MX7_requireRange ∈ wl := wl_in 1209 (by decide +kernel) rfl
abbrev MX7_startTrial : Mr := (RX7, yX7_startTrial, cX7_startTrial, 2, some (.object "AccentHouse$Lodger"))
theorem k_X7_startTrial : Cd MX7_startTrial ∈ wl := wl_in 1214 (by decide +kernel) rfl
abbrev MX7_runTrial : Mr := (RX7, yX7_runTrial, cX7_runTrial, 4, some .int)
theorem k_X7_runTrial : Cd MX7_runTrial ∈ wl := wl_in 1218 (by decide +kernel) rfl
abbrev MX2_houses : Mr := (RX2, yX2_houses, cX2_houses, 3, some .boolean)
theorem k_X2_houses : Cd MX2_houses ∈ wl := wl_in 1223 (by decide +kernel) rfl
abbrev MX7_distanceAfter : Mr := (RX7, yX7_distanceAfter, cX7_distanceAfter, 5, some .int)
theorem k_X7_distanceAfter : Cd MX7_distanceAfter ∈ wl := wl_in 1230 (by decide +kernel) rfl
abbrev MX7_daysToEviction : Mr := (RX7, yX7_daysToEviction, cX7_daysToEviction, 2, some .int)
theorem k_X7_daysToEviction : Cd MX7_daysToEviction ∈ wl := wl_in 1237 (by decide +kernel) rfl
abbrev MX7_paymentToStay : Mr := (RX7, yX7_paymentToStay, cX7_paymentToStay, 6, some .int)
theorem k_X7_paymentToStay : Cd MX7_paymentToStay ∈ wl := wl_in 1244 (by decide +kernel) rfl
abbrev MX7_staysWith : Mr := (RX7, yX7_staysWith, cX7_staysWith, 4, some .boolean)
theorem k_X7_staysWith : Cd MX7_staysWith ∈ wl := wl_in 1248 (by decide +kernel) rfl
abbrev MX7_advance : Mr := (RX7, yX7_advance, cX7_advance, 4, some .int)
theorem k_X7_advance : Cd MX7_advance ∈ wl := wl_in 1256 (by decide +kernel) rfl
abbrev MX1_remember : Mr := (RX1, yX1_remember, cX1_remember, 2, none)
theorem k_X1_remember : Cd MX1_remember ∈ wl := wl_in 1261 (by decide +kernel) rfl
abbrev MX7_moveIn : Mr := (RX7, yX7_moveIn, cX7_moveIn, 4, some .int)
theorem k_X7_moveIn : Cd MX7_moveIn ∈ wl := wl_in 1269 (by decide +kernel) rfl
abbrev MX7_requirePlace : Mr := (RX7, yX7_requirePlace, cX7_requirePlace, 3, none)
theorem k_X7_requirePlace : Cd MX7_requirePlace ∈ wl := wl_in 1275 (by decide +kernel) rfl
abbrev MX2_unusedLetter : Mr := (RX2, yX2_unusedLetter, cX2_unusedLetter, 2, some (.object "java/lang/String"))
theorem k_X2_unusedLetter : Cd MX2_unusedLetter ∈ wl := wl_in 1281 (by decide +kernel) rfl
abbrev MX2_hasLetterName : Mr := (RX2, yX2_hasLetterName, cX2_hasLetterName, 4, some .boolean)
theorem k_X2_hasLetterName : Cd MX2_hasLetterName ∈ wl := wl_in 1288 (by decide +kernel) rfl
abbrev MJ0_substring_37a41 : Mr := (RJ0, yJ0_substring_37a41, cJ0_substring_37a41, 5, some (.object "java/lang/String"))
theorem k_J0_substring_37a41 : Cd MJ0_substring_37a41 ∈ wl := wl_in 1292 (by decide +kernel) rfl
abbrev MJ1_newString_b4f7a : Mr := (RJ1, yJ1_newString_b4f7a, cJ1_newString_b4f7a, 3, some (.object "java/lang/String"))
theorem k_J1_newString_b4f7a : Cd MJ1_newString_b4f7a ∈ wl := wl_in 1297 (by decide +kernel) rfl
abbrev MJ0_init_031fb : Mr := (RJ0, yJ0_init_031fb, cJ0_init_031fb, 3, none)
theorem k_J0_init_031fb : Cd MJ0_init_031fb ∈ wl := wl_in 1303 (by decide +kernel) rfl
abbrev MJ2_newString_b4f7a : Mr := (RJ2, yJ2_newString_b4f7a, cJ2_newString_b4f7a, 5, some (.object "java/lang/String"))
theorem k_J2_newString_b4f7a : Cd MJ2_newString_b4f7a ∈ wl := wl_in 1306 (by decide +kernel) rfl
abbrev MX7_moveOut : Mr := (RX7, yX7_moveOut, cX7_moveOut, 3, some .int)
theorem k_X7_moveOut : Cd MX7_moveOut ∈ wl := wl_in 1321 (by decide +kernel) rfl
abbrev MX7_moveTo : Mr := (RX7, yX7_moveTo, cX7_moveTo, 5, some .int)
theorem k_X7_moveTo : Cd MX7_moveTo ∈ wl := wl_in 1329 (by decide +kernel) rfl
abbrev MX7_pay : Mr := (RX7, yX7_pay, cX7_pay, 4, some .int)
theorem k_X7_pay : Cd MX7_pay ∈ wl := wl_in 1336 (by decide +kernel) rfl
abbrev MX7_setLandladyVowel : Mr := (RX7, yX7_setLandladyVowel, cX7_setLandladyVowel, 4, some .int)
theorem k_X7_setLandladyVowel : Cd MX7_setLandladyVowel ∈ wl := wl_in 1344 (by decide +kernel) rfl
abbrev MX7_setTolerance : Mr := (RX7, yX7_setTolerance, cX7_setTolerance, 3, some .int)
theorem k_X7_setTolerance : Cd MX7_setTolerance ∈ wl := wl_in 1351 (by decide +kernel) rfl
abbrev MX7_setBaseRent : Mr := (RX7, yX7_setBaseRent, cX7_setBaseRent, 3, some .int)
theorem k_X7_setBaseRent : Cd MX7_setBaseRent ∈ wl := wl_in 1358 (by decide +kernel) rfl
abbrev MX7_restore : Mr := (RX7, yX7_restore, cX7_restore, 2, some .int)
theorem k_X7_restore : Cd MX7_restore ∈ wl := wl_in 1365 (by decide +kernel) rfl
abbrev MX7_requireSlot : Mr := (RX7, yX7_requireSlot, cX7_requireSlot, 2, none)
theorem k_X7_requireSlot : Cd MX7_requireSlot ∈ wl := wl_in 1369 (by decide +kernel) rfl
abbrev MX7_undo : Mr := (RX7, yX7_undo, cX7_undo, 1, some .int)
theorem k_X7_undo : Cd MX7_undo ∈ wl := wl_in 1378 (by decide +kernel) rfl
abbrev MX1_takeBack : Mr := (RX1, yX1_takeBack, cX1_takeBack, 2, none)
theorem k_X1_takeBack : Cd MX1_takeBack ∈ wl := wl_in 1383 (by decide +kernel) rfl
abbrev MX7_save : Mr := (RX7, yX7_save, cX7_save, 2, some .int)
theorem k_X7_save : Cd MX7_save ∈ wl := wl_in 1390 (by decide +kernel) rfl
abbrev MX7_writeLodger : Mr := (RX7, yX7_writeLodger, cX7_writeLodger, 4, some .int)
theorem k_X7_writeLodger : Cd MX7_writeLodger ∈ wl := wl_in 1397 (by decide +kernel) rfl
abbrev MX7_writeFloor : Mr := (RX7, yX7_writeFloor, cX7_writeFloor, 3, some .int)
theorem k_X7_writeFloor : Cd MX7_writeFloor ∈ wl := wl_in 1409 (by decide +kernel) rfl
abbrev MX7_outputCharacter : Mr := (RX7, yX7_outputCharacter, cX7_outputCharacter, 2, some .char)
theorem k_X7_outputCharacter : Cd MX7_outputCharacter ∈ wl := wl_in 1416 (by decide +kernel) rfl
abbrev MJ4_charAt_5068e : Mr := (RJ4, yJ4_charAt_5068e, cJ4_charAt_5068e, 2, some .char)
theorem k_J4_charAt_5068e : Cd MJ4_charAt_5068e ∈ wl := wl_in 1421 (by decide +kernel) rfl
abbrev MJ5_charAt_5068e : Mr := (RJ5, yJ5_charAt_5068e, cJ5_charAt_5068e, 5, some .char)
theorem k_J5_charAt_5068e : Cd MJ5_charAt_5068e ∈ wl := wl_in 1424 (by decide +kernel) rfl
abbrev MX8_init : Mr := (RX8, yX8_init, cX8_init, 3, none)
theorem k_X8_init : Cd MX8_init ∈ wl := wl_in 1432 (by decide +kernel) rfl
abbrev MX8_comes : Mr := (RX8, yX8_comes, cX8_comes, 7, none)
theorem k_X8_comes : Cd MX8_comes ∈ wl := wl_in 1440 (by decide +kernel) rfl
abbrev MX8_l : Mr := (RX8, yX8_l, cX8_l, 1, some .int)
theorem k_X8_l : Cd MX8_l ∈ wl := wl_in 1443 (by decide +kernel) rfl
abbrev MX8_passesDay : Mr := (RX8, yX8_passesDay, cX8_passesDay, 2, none)
theorem k_X8_passesDay : Cd MX8_passesDay ∈ wl := wl_in 1447 (by decide +kernel) rfl
abbrev MX8_charges : Mr := (RX8, yX8_charges, cX8_charges, 3, none)
theorem k_X8_charges : Cd MX8_charges ∈ wl := wl_in 1451 (by decide +kernel) rfl
abbrev MX8_rentAt : Mr := (RX8, yX8_rentAt, cX8_rentAt, 2, some .int)
theorem k_X8_rentAt : Cd MX8_rentAt ∈ wl := wl_in 1455 (by decide +kernel) rfl
abbrev MX8_teaches : Mr := (RX8, yX8_teaches, cX8_teaches, 3, none)
theorem k_X8_teaches : Cd MX8_teaches ∈ wl := wl_in 1459 (by decide +kernel) rfl
abbrev MX8_lessonFor : Mr := (RX8, yX8_lessonFor, cX8_lessonFor, 6, some .int)
theorem k_X8_lessonFor : Cd MX8_lessonFor ∈ wl := wl_in 1463 (by decide +kernel) rfl
abbrev MX8_at : Mr := (RX8, yX8_at, cX8_at, 3, some .int)
theorem k_X8_at : Cd MX8_at ∈ wl := wl_in 1467 (by decide +kernel) rfl
abbrev MX8_without : Mr := (RX8, yX8_without, cX8_without, 1, some .int)
theorem k_X8_without : Cd MX8_without ∈ wl := wl_in 1470 (by decide +kernel) rfl
abbrev MX8_moves : Mr := (RX8, yX8_moves, cX8_moves, 5, none)
theorem k_X8_moves : Cd MX8_moves ∈ wl := wl_in 1474 (by decide +kernel) rfl
abbrev MX8_averagesNow : Mr := (RX8, yX8_averagesNow, cX8_averagesNow, 3, none)
theorem k_X8_averagesNow : Cd MX8_averagesNow ∈ wl := wl_in 1478 (by decide +kernel) rfl
abbrev MX8_livingOn : Mr := (RX8, yX8_livingOn, cX8_livingOn, 5, some .int)
theorem k_X8_livingOn : Cd MX8_livingOn ∈ wl := wl_in 1482 (by decide +kernel) rfl
abbrev MX8_averageAt : Mr := (RX8, yX8_averageAt, cX8_averageAt, 7, some .int)
theorem k_X8_averageAt : Cd MX8_averageAt ∈ wl := wl_in 1486 (by decide +kernel) rfl
abbrev MX8_dines : Mr := (RX8, yX8_dines, cX8_dines, 3, none)
theorem k_X8_dines : Cd MX8_dines ∈ wl := wl_in 1490 (by decide +kernel) rfl
abbrev MX8_slipFor : Mr := (RX8, yX8_slipFor, cX8_slipFor, 7, some .int)
theorem k_X8_slipFor : Cd MX8_slipFor ∈ wl := wl_in 1494 (by decide +kernel) rfl
abbrev MX8_inspects : Mr := (RX8, yX8_inspects, cX8_inspects, 2, none)
theorem k_X8_inspects : Cd MX8_inspects ∈ wl := wl_in 1498 (by decide +kernel) rfl
abbrev MX8_hasToGo : Mr := (RX8, yX8_hasToGo, cX8_hasToGo, 2, some .boolean)
theorem k_X8_hasToGo : Cd MX8_hasToGo ∈ wl := wl_in 1502 (by decide +kernel) rfl
abbrev MX8_toLandlady : Mr := (RX8, yX8_toLandlady, cX8_toLandlady, 4, some .int)
theorem k_X8_toLandlady : Cd MX8_toLandlady ∈ wl := wl_in 1506 (by decide +kernel) rfl
abbrev MX8_rhymesHer : Mr := (RX8, yX8_rhymesHer, cX8_rhymesHer, 4, some .boolean)
theorem k_X8_rhymesHer : Cd MX8_rhymesHer ∈ wl := wl_in 1510 (by decide +kernel) rfl
abbrev MX8_goes : Mr := (RX8, yX8_goes, cX8_goes, 4, none)
theorem k_X8_goes : Cd MX8_goes ∈ wl := wl_in 1514 (by decide +kernel) rfl
abbrev MX8_thrown : Mr := (RX8, yX8_thrown, cX8_thrown, 1, some .int)
theorem k_X8_thrown : Cd MX8_thrown ∈ wl := wl_in 1598 (by decide +kernel) rfl
abbrev MX8_append : Mr := (RX8, yX8_append, cX8_append, 6, some .int)
theorem k_X8_append : Cd MX8_append ∈ wl := wl_in 1602 (by decide +kernel) rfl
abbrev MX8_refuse : Mr := (RX8, yX8_refuse, cX8_refuse, 2, some .int)
theorem k_X8_refuse : Cd MX8_refuse ∈ wl := wl_in 1606 (by decide +kernel) rfl
abbrev MX8_feeds : Mr := (RX8, yX8_feeds, cX8_feeds, 2, none)
theorem k_X8_feeds : Cd MX8_feeds ∈ wl := wl_in 1610 (by decide +kernel) rfl
abbrev MX8_told : Mr := (RX8, yX8_told, cX8_told, 2, some .int)
theorem k_X8_told : Cd MX8_told ∈ wl := wl_in 1614 (by decide +kernel) rfl
abbrev MX8_load : Mr := (RX8, yX8_load, cX8_load, 2, some .int)
theorem k_X8_load : Cd MX8_load ∈ wl := wl_in 1618 (by decide +kernel) rfl
abbrev MX8_in : Mr := (RX8, yX8_in, cX8_in, 3, some .boolean)
theorem k_X8_in : Cd MX8_in ∈ wl := wl_in 1621 (by decide +kernel) rfl
abbrev MX8_putsAside : Mr := (RX8, yX8_putsAside, cX8_putsAside, 2, none)
theorem k_X8_putsAside : Cd MX8_putsAside ∈ wl := wl_in 1625 (by decide +kernel) rfl
abbrev MX8_readsText : Mr := (RX8, yX8_readsText, cX8_readsText, 3, none)
theorem k_X8_readsText : Cd MX8_readsText ∈ wl := wl_in 1629 (by decide +kernel) rfl
abbrev MX8_next : Mr := (RX8, yX8_next, cX8_next, 3, none)
theorem k_X8_next : Cd MX8_next ∈ wl := wl_in 1633 (by decide +kernel) rfl
abbrev MX8_isLetter : Mr := (RX8, yX8_isLetter, cX8_isLetter, 1, some .boolean)
theorem k_X8_isLetter : Cd MX8_isLetter ∈ wl := wl_in 1636 (by decide +kernel) rfl
abbrev MX8_isDigit : Mr := (RX8, yX8_isDigit, cX8_isDigit, 1, some .boolean)
theorem k_X8_isDigit : Cd MX8_isDigit ∈ wl := wl_in 1639 (by decide +kernel) rfl
abbrev MX8_takesWord : Mr := (RX8, yX8_takesWord, cX8_takesWord, 2, none)
theorem k_X8_takesWord : Cd MX8_takesWord ∈ wl := wl_in 1643 (by decide +kernel) rfl
abbrev MX8_isKey : Mr := (RX8, yX8_isKey, cX8_isKey, 4, some .boolean)
theorem k_X8_isKey : Cd MX8_isKey ∈ wl := wl_in 1647 (by decide +kernel) rfl
abbrev MX8_errs : Mr := (RX8, yX8_errs, cX8_errs, 2, none)
theorem k_X8_errs : Cd MX8_errs ∈ wl := wl_in 1651 (by decide +kernel) rfl
abbrev MX8_goesOn : Mr := (RX8, yX8_goesOn, cX8_goesOn, 1, none)
theorem k_X8_goesOn : Cd MX8_goesOn ∈ wl := wl_in 1655 (by decide +kernel) rfl
abbrev MX8_takesNumber : Mr := (RX8, yX8_takesNumber, cX8_takesNumber, 4, some .int)
theorem k_X8_takesNumber : Cd MX8_takesNumber ∈ wl := wl_in 1659 (by decide +kernel) rfl
abbrev MX8_here : Mr := (RX8, yX8_here, cX8_here, 3, some .int)
theorem k_X8_here : Cd MX8_here ∈ wl := wl_in 1663 (by decide +kernel) rfl
abbrev MX8_takesSemicolon : Mr := (RX8, yX8_takesSemicolon, cX8_takesSemicolon, 1, none)
theorem k_X8_takesSemicolon : Cd MX8_takesSemicolon ∈ wl := wl_in 1667 (by decide +kernel) rfl
abbrev MX8_readsLine : Mr := (RX8, yX8_readsLine, cX8_readsLine, 2, none)
theorem k_X8_readsLine : Cd MX8_readsLine ∈ wl := wl_in 1671 (by decide +kernel) rfl
abbrev MX8_readsLodger : Mr := (RX8, yX8_readsLodger, cX8_readsLodger, 7, none)
theorem k_X8_readsLodger : Cd MX8_readsLodger ∈ wl := wl_in 1675 (by decide +kernel) rfl
abbrev MX8_isName : Mr := (RX8, yX8_isName, cX8_isName, 1, none)
theorem k_X8_isName : Cd MX8_isName ∈ wl := wl_in 1679 (by decide +kernel) rfl
abbrev MX8_lodgerNamed : Mr := (RX8, yX8_lodgerNamed, cX8_lodgerNamed, 6, some .int)
theorem k_X8_lodgerNamed : Cd MX8_lodgerNamed ∈ wl := wl_in 1683 (by decide +kernel) rfl
abbrev MX8_takesAccent : Mr := (RX8, yX8_takesAccent, cX8_takesAccent, 3, some .int)
theorem k_X8_takesAccent : Cd MX8_takesAccent ∈ wl := wl_in 1687 (by decide +kernel) rfl
abbrev MX8_readsPay : Mr := (RX8, yX8_readsPay, cX8_readsPay, 3, none)
theorem k_X8_readsPay : Cd MX8_readsPay ∈ wl := wl_in 1691 (by decide +kernel) rfl
abbrev MX8_takesLodger : Mr := (RX8, yX8_takesLodger, cX8_takesLodger, 2, some .int)
theorem k_X8_takesLodger : Cd MX8_takesLodger ∈ wl := wl_in 1695 (by decide +kernel) rfl
abbrev MX8_pays : Mr := (RX8, yX8_pays, cX8_pays, 3, none)
theorem k_X8_pays : Cd MX8_pays ∈ wl := wl_in 1699 (by decide +kernel) rfl
abbrev MX8_readsMove : Mr := (RX8, yX8_readsMove, cX8_readsMove, 3, none)
theorem k_X8_readsMove : Cd MX8_readsMove ∈ wl := wl_in 1703 (by decide +kernel) rfl
abbrev MX8_passes : Mr := (RX8, yX8_passes, cX8_passes, 3, none)
theorem k_X8_passes : Cd MX8_passes ∈ wl := wl_in 1707 (by decide +kernel) rfl
abbrev MX8_putsBack : Mr := (RX8, yX8_putsBack, cX8_putsBack, 2, none)
theorem k_X8_putsBack : Cd MX8_putsBack ∈ wl := wl_in 1711 (by decide +kernel) rfl
abbrev MX8_errorKind : Mr := (RX8, yX8_errorKind, cX8_errorKind, 1, some .int)
theorem k_X8_errorKind : Cd MX8_errorKind ∈ wl := wl_in 1715 (by decide +kernel) rfl
abbrev MX8_errorOffset : Mr := (RX8, yX8_errorOffset, cX8_errorOffset, 1, some .int)
theorem k_X8_errorOffset : Cd MX8_errorOffset ∈ wl := wl_in 1719 (by decide +kernel) rfl
abbrev MX8_day : Mr := (RX8, yX8_day, cX8_day, 1, some .int)
theorem k_X8_day : Cd MX8_day ∈ wl := wl_in 1723 (by decide +kernel) rfl
abbrev MX8_lodgerCount : Mr := (RX8, yX8_lodgerCount, cX8_lodgerCount, 1, some .int)
theorem k_X8_lodgerCount : Cd MX8_lodgerCount ∈ wl := wl_in 1727 (by decide +kernel) rfl
abbrev MX8_baseRent : Mr := (RX8, yX8_baseRent, cX8_baseRent, 1, some .int)
theorem k_X8_baseRent : Cd MX8_baseRent ∈ wl := wl_in 1731 (by decide +kernel) rfl
abbrev MX8_tolerance : Mr := (RX8, yX8_tolerance, cX8_tolerance, 1, some .int)
theorem k_X8_tolerance : Cd MX8_tolerance ∈ wl := wl_in 1735 (by decide +kernel) rfl
abbrev MX8_rentOf : Mr := (RX8, yX8_rentOf, cX8_rentOf, 2, some .int)
theorem k_X8_rentOf : Cd MX8_rentOf ∈ wl := wl_in 1739 (by decide +kernel) rfl
abbrev MX8_isFloor : Mr := (RX8, yX8_isFloor, cX8_isFloor, 1, some .boolean)
theorem k_X8_isFloor : Cd MX8_isFloor ∈ wl := wl_in 1742 (by decide +kernel) rfl
abbrev MX8_landladyVowel : Mr := (RX8, yX8_landladyVowel, cX8_landladyVowel, 2, some .int)
theorem k_X8_landladyVowel : Cd MX8_landladyVowel ∈ wl := wl_in 1746 (by decide +kernel) rfl
abbrev MX8_isVowel : Mr := (RX8, yX8_isVowel, cX8_isVowel, 1, some .boolean)
theorem k_X8_isVowel : Cd MX8_isVowel ∈ wl := wl_in 1749 (by decide +kernel) rfl
abbrev MX8_daysToInspection : Mr := (RX8, yX8_daysToInspection, cX8_daysToInspection, 1, some .int)
theorem k_X8_daysToInspection : Cd MX8_daysToInspection ∈ wl := wl_in 1753 (by decide +kernel) rfl
abbrev MX8_daysLeft : Mr := (RX8, yX8_daysLeft, cX8_daysLeft, 1, some .int)
theorem k_X8_daysLeft : Cd MX8_daysLeft ∈ wl := wl_in 1757 (by decide +kernel) rfl
abbrev MX8_evictions : Mr := (RX8, yX8_evictions, cX8_evictions, 1, some .int)
theorem k_X8_evictions : Cd MX8_evictions ∈ wl := wl_in 1761 (by decide +kernel) rfl
abbrev MX8_undoCount : Mr := (RX8, yX8_undoCount, cX8_undoCount, 1, some .int)
theorem k_X8_undoCount : Cd MX8_undoCount ∈ wl := wl_in 1765 (by decide +kernel) rfl
abbrev MX8_floorOf : Mr := (RX8, yX8_floorOf, cX8_floorOf, 2, some .int)
theorem k_X8_floorOf : Cd MX8_floorOf ∈ wl := wl_in 1769 (by decide +kernel) rfl
abbrev MX8_ofLodger : Mr := (RX8, yX8_ofLodger, cX8_ofLodger, 3, some .int)
theorem k_X8_ofLodger : Cd MX8_ofLodger ∈ wl := wl_in 1773 (by decide +kernel) rfl
abbrev MX8_isLodger : Mr := (RX8, yX8_isLodger, cX8_isLodger, 2, some .boolean)
theorem k_X8_isLodger : Cd MX8_isLodger ∈ wl := wl_in 1777 (by decide +kernel) rfl
abbrev MX8_balanceOf : Mr := (RX8, yX8_balanceOf, cX8_balanceOf, 2, some .int)
theorem k_X8_balanceOf : Cd MX8_balanceOf ∈ wl := wl_in 1781 (by decide +kernel) rfl
abbrev MX8_vowelOf : Mr := (RX8, yX8_vowelOf, cX8_vowelOf, 3, some .int)
theorem k_X8_vowelOf : Cd MX8_vowelOf ∈ wl := wl_in 1785 (by decide +kernel) rfl
abbrev MX8_lessonsOf : Mr := (RX8, yX8_lessonsOf, cX8_lessonsOf, 2, some .int)
theorem k_X8_lessonsOf : Cd MX8_lessonsOf ∈ wl := wl_in 1789 (by decide +kernel) rfl
abbrev MX8_slipsOf : Mr := (RX8, yX8_slipsOf, cX8_slipsOf, 2, some .int)
theorem k_X8_slipsOf : Cd MX8_slipsOf ∈ wl := wl_in 1793 (by decide +kernel) rfl
abbrev MX8_daysStayed : Mr := (RX8, yX8_daysStayed, cX8_daysStayed, 2, some .int)
theorem k_X8_daysStayed : Cd MX8_daysStayed ∈ wl := wl_in 1797 (by decide +kernel) rfl
abbrev MX8_nameLength : Mr := (RX8, yX8_nameLength, cX8_nameLength, 2, some .int)
theorem k_X8_nameLength : Cd MX8_nameLength ∈ wl := wl_in 1801 (by decide +kernel) rfl
abbrev MX8_lettersOf : Mr := (RX8, yX8_lettersOf, cX8_lettersOf, 3, some .int)
theorem k_X8_lettersOf : Cd MX8_lettersOf ∈ wl := wl_in 1805 (by decide +kernel) rfl
abbrev MX8_nameLetter : Mr := (RX8, yX8_nameLetter, cX8_nameLetter, 3, some .char)
theorem k_X8_nameLetter : Cd MX8_nameLetter ∈ wl := wl_in 1809 (by decide +kernel) rfl
abbrev MX8_findByName : Mr := (RX8, yX8_findByName, cX8_findByName, 3, some .int)
theorem k_X8_findByName : Cd MX8_findByName ∈ wl := wl_in 1813 (by decide +kernel) rfl
abbrev MX8_lodgersOn : Mr := (RX8, yX8_lodgersOn, cX8_lodgersOn, 2, some .int)
theorem k_X8_lodgersOn : Cd MX8_lodgersOn ∈ wl := wl_in 1817 (by decide +kernel) rfl
abbrev MX8_lodgerOn : Mr := (RX8, yX8_lodgerOn, cX8_lodgerOn, 5, some .int)
theorem k_X8_lodgerOn : Cd MX8_lodgerOn ∈ wl := wl_in 1821 (by decide +kernel) rfl
abbrev MX8_averageVowel : Mr := (RX8, yX8_averageVowel, cX8_averageVowel, 3, some .int)
theorem k_X8_averageVowel : Cd MX8_averageVowel ∈ wl := wl_in 1825 (by decide +kernel) rfl
abbrev MX8_distanceToLandlady : Mr := (RX8, yX8_distanceToLandlady, cX8_distanceToLandlady, 2, some .int)
theorem k_X8_distanceToLandlady : Cd MX8_distanceToLandlady ∈ wl := wl_in 1829 (by decide +kernel) rfl
abbrev MX8_distance : Mr := (RX8, yX8_distance, cX8_distance, 3, some .int)
theorem k_X8_distance : Cd MX8_distance ∈ wl := wl_in 1833 (by decide +kernel) rfl
abbrev MX8_between : Mr := (RX8, yX8_between, cX8_between, 5, some .int)
theorem k_X8_between : Cd MX8_between ∈ wl := wl_in 1837 (by decide +kernel) rfl
abbrev MX8_rhymes : Mr := (RX8, yX8_rhymes, cX8_rhymes, 3, some .boolean)
theorem k_X8_rhymes : Cd MX8_rhymes ∈ wl := wl_in 1841 (by decide +kernel) rfl
abbrev MX8_rhyme : Mr := (RX8, yX8_rhyme, cX8_rhyme, 5, some .boolean)
theorem k_X8_rhyme : Cd MX8_rhyme ∈ wl := wl_in 1845 (by decide +kernel) rfl
abbrev MX8_says : Mr := (RX8, yX8_says, cX8_says, 2, some .boolean)
theorem k_X8_says : Cd MX8_says ∈ wl := wl_in 1849 (by decide +kernel) rfl
abbrev MX8_refuses : Mr := (RX8, yX8_refuses, cX8_refuses, 1, some .boolean)
theorem k_X8_refuses : Cd MX8_refuses ∈ wl := wl_in 1853 (by decide +kernel) rfl
abbrev MX8_rhymesWithLandlady : Mr := (RX8, yX8_rhymesWithLandlady, cX8_rhymesWithLandlady, 2, some .boolean)
theorem k_X8_rhymesWithLandlady : Cd MX8_rhymesWithLandlady ∈ wl := wl_in 1857 (by decide +kernel) rfl
abbrev MX8_rhymeCount : Mr := (RX8, yX8_rhymeCount, cX8_rhymeCount, 4, some .int)
theorem k_X8_rhymeCount : Cd MX8_rhymeCount ∈ wl := wl_in 1861 (by decide +kernel) rfl
abbrev MX8_closestTo : Mr := (RX8, yX8_closestTo, cX8_closestTo, 4, some .int)
theorem k_X8_closestTo : Cd MX8_closestTo ∈ wl := wl_in 1865 (by decide +kernel) rfl
abbrev MX8_lessonVowel : Mr := (RX8, yX8_lessonVowel, cX8_lessonVowel, 2, some .int)
theorem k_X8_lessonVowel : Cd MX8_lessonVowel ∈ wl := wl_in 1869 (by decide +kernel) rfl
abbrev MX8_slipVowel : Mr := (RX8, yX8_slipVowel, cX8_slipVowel, 2, some .int)
theorem k_X8_slipVowel : Cd MX8_slipVowel ∈ wl := wl_in 1873 (by decide +kernel) rfl
abbrev MX8_mustGo : Mr := (RX8, yX8_mustGo, cX8_mustGo, 2, some .boolean)
theorem k_X8_mustGo : Cd MX8_mustGo ∈ wl := wl_in 1877 (by decide +kernel) rfl
abbrev MX8_meanDistance : Mr := (RX8, yX8_meanDistance, cX8_meanDistance, 3, some .double)
theorem k_X8_meanDistance : Cd MX8_meanDistance ∈ wl := wl_in 1881 (by decide +kernel) rfl
abbrev MX8_rhymingShare : Mr := (RX8, yX8_rhymingShare, cX8_rhymingShare, 3, some .float)
theorem k_X8_rhymingShare : Cd MX8_rhymingShare ∈ wl := wl_in 1885 (by decide +kernel) rfl
abbrev MX8_balanceAfter : Mr := (RX8, yX8_balanceAfter, cX8_balanceAfter, 4, some .int)
theorem k_X8_balanceAfter : Cd MX8_balanceAfter ∈ wl := wl_in 1889 (by decide +kernel) rfl
abbrev MX8_tracks : Mr := (RX8, yX8_tracks, cX8_tracks, 2, none)
theorem k_X8_tracks : Cd MX8_tracks ∈ wl := wl_in 1893 (by decide +kernel) rfl
abbrev MX8_distanceAfter : Mr := (RX8, yX8_distanceAfter, cX8_distanceAfter, 4, some .int)
theorem k_X8_distanceAfter : Cd MX8_distanceAfter ∈ wl := wl_in 1897 (by decide +kernel) rfl
abbrev MX8_daysToEviction : Mr := (RX8, yX8_daysToEviction, cX8_daysToEviction, 4, some .int)
theorem k_X8_daysToEviction : Cd MX8_daysToEviction ∈ wl := wl_in 1901 (by decide +kernel) rfl
abbrev MX8_paymentToStay : Mr := (RX8, yX8_paymentToStay, cX8_paymentToStay, 6, some .int)
theorem k_X8_paymentToStay : Cd MX8_paymentToStay ∈ wl := wl_in 1905 (by decide +kernel) rfl
abbrev MX8_staysWith : Mr := (RX8, yX8_staysWith, cX8_staysWith, 5, some .boolean)
theorem k_X8_staysWith : Cd MX8_staysWith ∈ wl := wl_in 1909 (by decide +kernel) rfl
abbrev MX8_totalPaid : Mr := (RX8, yX8_totalPaid, cX8_totalPaid, 1, some .int)
theorem k_X8_totalPaid : Cd MX8_totalPaid ∈ wl := wl_in 1913 (by decide +kernel) rfl
abbrev MX8_totalCharged : Mr := (RX8, yX8_totalCharged, cX8_totalCharged, 1, some .int)
theorem k_X8_totalCharged : Cd MX8_totalCharged ∈ wl := wl_in 1917 (by decide +kernel) rfl
abbrev MX8_settled : Mr := (RX8, yX8_settled, cX8_settled, 1, some .int)
theorem k_X8_settled : Cd MX8_settled ∈ wl := wl_in 1921 (by decide +kernel) rfl
abbrev MX8_ledgerDifference : Mr := (RX8, yX8_ledgerDifference, cX8_ledgerDifference, 3, some .int)
theorem k_X8_ledgerDifference : Cd MX8_ledgerDifference ∈ wl := wl_in 1925 (by decide +kernel) rfl
abbrev MX8_advance : Mr := (RX8, yX8_advance, cX8_advance, 3, some .int)
theorem k_X8_advance : Cd MX8_advance ∈ wl := wl_in 1929 (by decide +kernel) rfl
abbrev MX8_remembers : Mr := (RX8, yX8_remembers, cX8_remembers, 2, none)
theorem k_X8_remembers : Cd MX8_remembers ∈ wl := wl_in 1933 (by decide +kernel) rfl
abbrev MX8_moveIn : Mr := (RX8, yX8_moveIn, cX8_moveIn, 5, some .int)
theorem k_X8_moveIn : Cd MX8_moveIn ∈ wl := wl_in 1937 (by decide +kernel) rfl
abbrev MX8_isTakenLetter : Mr := (RX8, yX8_isTakenLetter, cX8_isTakenLetter, 3, some .boolean)
theorem k_X8_isTakenLetter : Cd MX8_isTakenLetter ∈ wl := wl_in 1942 (by decide +kernel) rfl
abbrev MX8_moveOut : Mr := (RX8, yX8_moveOut, cX8_moveOut, 3, some .int)
theorem k_X8_moveOut : Cd MX8_moveOut ∈ wl := wl_in 1946 (by decide +kernel) rfl
abbrev MX8_moveTo : Mr := (RX8, yX8_moveTo, cX8_moveTo, 3, some .int)
theorem k_X8_moveTo : Cd MX8_moveTo ∈ wl := wl_in 1950 (by decide +kernel) rfl
abbrev MX8_sets : Mr := (RX8, yX8_sets, cX8_sets, 4, some .int)
theorem k_X8_sets : Cd MX8_sets ∈ wl := wl_in 1954 (by decide +kernel) rfl
abbrev MX8_pay : Mr := (RX8, yX8_pay, cX8_pay, 3, some .int)
theorem k_X8_pay : Cd MX8_pay ∈ wl := wl_in 1958 (by decide +kernel) rfl
abbrev MX8_setLandladyVowel : Mr := (RX8, yX8_setLandladyVowel, cX8_setLandladyVowel, 3, some .int)
theorem k_X8_setLandladyVowel : Cd MX8_setLandladyVowel ∈ wl := wl_in 1962 (by decide +kernel) rfl
abbrev MX8_setTolerance : Mr := (RX8, yX8_setTolerance, cX8_setTolerance, 2, some .int)
theorem k_X8_setTolerance : Cd MX8_setTolerance ∈ wl := wl_in 1966 (by decide +kernel) rfl
abbrev MX8_setBaseRent : Mr := (RX8, yX8_setBaseRent, cX8_setBaseRent, 2, some .int)
theorem k_X8_setBaseRent : Cd MX8_setBaseRent ∈ wl := wl_in 1970 (by decide +kernel) rfl
abbrev MX8_restore : Mr := (RX8, yX8_restore, cX8_restore, 3, some .int)
theorem k_X8_restore : Cd MX8_restore ∈ wl := wl_in 1974 (by decide +kernel) rfl
abbrev MX8_undo : Mr := (RX8, yX8_undo, cX8_undo, 2, some .int)
theorem k_X8_undo : Cd MX8_undo ∈ wl := wl_in 1978 (by decide +kernel) rfl
abbrev MX8_save : Mr := (RX8, yX8_save, cX8_save, 3, some .int)
theorem k_X8_save : Cd MX8_save ∈ wl := wl_in 1982 (by decide +kernel) rfl
abbrev MX8_writeLodger : Mr := (RX8, yX8_writeLodger, cX8_writeLodger, 3, some .int)
theorem k_X8_writeLodger : Cd MX8_writeLodger ∈ wl := wl_in 1986 (by decide +kernel) rfl
abbrev MX8_writesName : Mr := (RX8, yX8_writesName, cX8_writesName, 3, none)
theorem k_X8_writesName : Cd MX8_writesName ∈ wl := wl_in 1990 (by decide +kernel) rfl
abbrev MX8_writes : Mr := (RX8, yX8_writes, cX8_writes, 2, none)
theorem k_X8_writes : Cd MX8_writes ∈ wl := wl_in 1994 (by decide +kernel) rfl
abbrev MX8_writesNumber : Mr := (RX8, yX8_writesNumber, cX8_writesNumber, 4, none)
theorem k_X8_writesNumber : Cd MX8_writesNumber ∈ wl := wl_in 1998 (by decide +kernel) rfl
abbrev MX8_writeFloor : Mr := (RX8, yX8_writeFloor, cX8_writeFloor, 3, some .int)
theorem k_X8_writeFloor : Cd MX8_writeFloor ∈ wl := wl_in 2002 (by decide +kernel) rfl
abbrev MX8_outputCharacter : Mr := (RX8, yX8_outputCharacter, cX8_outputCharacter, 2, some .char)
theorem k_X8_outputCharacter : Cd MX8_outputCharacter ∈ wl := wl_in 2006 (by decide +kernel) rfl
theorem l_X7_15 : LkI RX7 15 MJ4_init_da8c8 0 := ⟨wl_in 40 (by decide +kernel) rfl, wl_in 41 (by decide +kernel) rfl, rfl, wl_in 3 (by decide +kernel) rfl, k_J4_init_da8c8, ⟨⟨by decide +kernel, by decide +kernel⟩, by decide +kernel, by decide⟩, rfl⟩
theorem l_X7_22 : LkI RX7 22 MX4_init 1 := ⟨wl_in 73 (by decide +kernel) rfl, wl_in 74 (by decide +kernel) rfl, rfl, wl_in 6 (by decide +kernel) rfl, k_X4_init, ⟨⟨by decide +kernel, by decide +kernel⟩, by decide +kernel, by decide⟩, rfl⟩
theorem l_X7_35 : LkI RX7 35 MX2_init 0 := ⟨wl_in 243 (by decide +kernel) rfl, wl_in 80 (by decide +kernel) rfl, rfl, wl_in 7 (by decide +kernel) rfl, k_X2_init, ⟨⟨by decide +kernel, by decide +kernel⟩, by decide +kernel, by decide⟩, rfl⟩
theorem l_X7_45 : LkI RX7 45 MX1_init 0 := ⟨wl_in 246 (by decide +kernel) rfl, wl_in 247 (by decide +kernel) rfl, rfl, wl_in 13 (by decide +kernel) rfl, k_X1_init, ⟨⟨by decide +kernel, by decide +kernel⟩, by decide +kernel, by decide⟩, rfl⟩
theorem l_X7_60 : LkV RX7 60 MJ0_length_8abf5 0 := ⟨wl_in 265 (by decide +kernel) rfl, wl_in 266 (by decide +kernel) rfl, wl_in 267 (by decide +kernel) rfl, wl_in 4 (by decide +kernel) rfl, k_J0_length_8abf5, ⟨⟨by decide +kernel, by decide +kernel⟩, by decide +kernel, by decide⟩⟩
theorem l_X7_66 : LkV RX7 66 MJ0_charAt_5068e 1 := ⟨wl_in 274 (by decide +kernel) rfl, wl_in 275 (by decide +kernel) rfl, wl_in 276 (by decide +kernel) rfl, wl_in 4 (by decide +kernel) rfl, k_J0_charAt_5068e, ⟨⟨by decide +kernel, by decide +kernel⟩, by decide +kernel, by decide⟩⟩
theorem l_X7_70 : LkV RX7 70 MX4_read 1 := ⟨wl_in 312 (by decide +kernel) rfl, wl_in 313 (by decide +kernel) rfl, wl_in 314 (by decide +kernel) rfl, wl_in 6 (by decide +kernel) rfl, k_X4_read, ⟨⟨by decide +kernel, by decide +kernel⟩, by decide +kernel, by decide⟩⟩
theorem l_X7_75 : LkV RX7 75 MX2_copyFrom 1 := ⟨wl_in 845 (by decide +kernel) rfl, wl_in 846 (by decide +kernel) rfl, wl_in 847 (by decide +kernel) rfl, wl_in 7 (by decide +kernel) rfl, k_X2_copyFrom, ⟨⟨by decide +kernel, by decide +kernel⟩, by decide +kernel, by decide⟩⟩
theorem l_X7_89 : LkV RX7 89 MX7_appendWord 1 := ⟨wl_in 984 (by decide +kernel) rfl, wl_in 986 (by decide +kernel) rfl, wl_inp 17 (by decide +kernel) rfl, wl_in 1 (by decide +kernel) rfl, k_X7_appendWord, ⟨⟨by decide +kernel, by decide +kernel⟩, by decide +kernel, by decide⟩⟩
theorem l_X7_111 : LkV RX7 111 MX1_clear 0 := ⟨wl_in 1013 (by decide +kernel) rfl, wl_in 1014 (by decide +kernel) rfl, wl_in 1015 (by decide +kernel) rfl, wl_in 13 (by decide +kernel) rfl, k_X1_clear, ⟨⟨by decide +kernel, by decide +kernel⟩, by decide +kernel, by decide⟩⟩
theorem l_X7_126 : LkV RX7 126 MX7_requireFloor 1 := ⟨wl_in 1024 (by decide +kernel) rfl, wl_in 1026 (by decide +kernel) rfl, wl_inp 18 (by decide +kernel) rfl, wl_in 1 (by decide +kernel) rfl, k_X7_requireFloor, ⟨⟨by decide +kernel, by decide +kernel⟩, by decide +kernel, by decide⟩⟩
theorem l_X7_129 : LkV RX7 129 MX2_dailyRent 1 := ⟨wl_in 1029 (by decide +kernel) rfl, wl_in 793 (by decide +kernel) rfl, wl_in 794 (by decide +kernel) rfl, wl_in 7 (by decide +kernel) rfl, k_X2_dailyRent, ⟨⟨by decide +kernel, by decide +kernel⟩, by decide +kernel, by decide⟩⟩
theorem l_X7_133 : LkV RX7 133 MX7_requireVowel 1 := ⟨wl_in 1037 (by decide +kernel) rfl, wl_in 1039 (by decide +kernel) rfl, wl_inp 19 (by decide +kernel) rfl, wl_in 1 (by decide +kernel) rfl, k_X7_requireVowel, ⟨⟨by decide +kernel, by decide +kernel⟩, by decide +kernel, by decide⟩⟩
theorem l_X7_152 : LkV RX7 152 MX7_requireLodger 1 := ⟨wl_in 1049 (by decide +kernel) rfl, wl_in 1051 (by decide +kernel) rfl, wl_inp 20 (by decide +kernel) rfl, wl_in 1 (by decide +kernel) rfl, k_X7_requireLodger, ⟨⟨by decide +kernel, by decide +kernel⟩, by decide +kernel, by decide⟩⟩
theorem l_X7_182 : LkV RX7 182 MX2_numberOf 3 := ⟨wl_in 933 (by decide +kernel) rfl, wl_in 400 (by decide +kernel) rfl, wl_in 401 (by decide +kernel) rfl, wl_in 7 (by decide +kernel) rfl, k_X2_numberOf, ⟨⟨by decide +kernel, by decide +kernel⟩, by decide +kernel, by decide⟩⟩
theorem l_X7_186 : LkV RX7 186 MX2_crowdOn 1 := ⟨wl_in 1111 (by decide +kernel) rfl, wl_in 813 (by decide +kernel) rfl, wl_in 814 (by decide +kernel) rfl, wl_in 7 (by decide +kernel) rfl, k_X2_crowdOn, ⟨⟨by decide +kernel, by decide +kernel⟩, by decide +kernel, by decide⟩⟩
theorem l_X7_189 : LkV RX7 189 MX2_numberAt 2 := ⟨wl_in 1119 (by decide +kernel) rfl, wl_in 1120 (by decide +kernel) rfl, wl_in 1121 (by decide +kernel) rfl, wl_in 7 (by decide +kernel) rfl, k_X2_numberAt, ⟨⟨by decide +kernel, by decide +kernel⟩, by decide +kernel, by decide⟩⟩
theorem l_X7_197 : LkV RX7 197 MX2_averagePosition 2 := ⟨wl_in 1132 (by decide +kernel) rfl, wl_in 821 (by decide +kernel) rfl, wl_in 822 (by decide +kernel) rfl, wl_in 7 (by decide +kernel) rfl, k_X2_averagePosition, ⟨⟨by decide +kernel, by decide +kernel⟩, by decide +kernel, by decide⟩⟩
theorem l_X7_200 : LkV RX7 200 MX0_distanceTo 1 := ⟨wl_in 938 (by decide +kernel) rfl, wl_in 833 (by decide +kernel) rfl, wl_in 834 (by decide +kernel) rfl, wl_in 8 (by decide +kernel) rfl, k_X0_distanceTo, ⟨⟨by decide +kernel, by decide +kernel⟩, by decide +kernel, by decide⟩⟩
theorem l_X7_204 : LkV RX7 204 MX0_rhymesWith 1 := ⟨wl_in 943 (by decide +kernel) rfl, wl_in 837 (by decide +kernel) rfl, wl_in 838 (by decide +kernel) rfl, wl_in 8 (by decide +kernel) rfl, k_X0_rhymesWith, ⟨⟨by decide +kernel, by decide +kernel⟩, by decide +kernel, by decide⟩⟩
theorem l_X7_212 : LkV RX7 212 MX0_farthestVowel 1 := ⟨wl_in 1182 (by decide +kernel) rfl, wl_in 805 (by decide +kernel) rfl, wl_in 806 (by decide +kernel) rfl, wl_in 8 (by decide +kernel) rfl, k_X0_farthestVowel, ⟨⟨by decide +kernel, by decide +kernel⟩, by decide +kernel, by decide⟩⟩
theorem l_X7_215 : LkV RX7 215 MX2_computeAverage 1 := ⟨wl_in 1190 (by decide +kernel) rfl, wl_in 817 (by decide +kernel) rfl, wl_in 818 (by decide +kernel) rfl, wl_in 7 (by decide +kernel) rfl, k_X2_computeAverage, ⟨⟨by decide +kernel, by decide +kernel⟩, by decide +kernel, by decide⟩⟩
theorem l_X7_221 : LkV RX7 221 MX2_mustLeave 1 := ⟨wl_in 1198 (by decide +kernel) rfl, wl_in 829 (by decide +kernel) rfl, wl_in 830 (by decide +kernel) rfl, wl_in 7 (by decide +kernel) rfl, k_X2_mustLeave, ⟨⟨by decide +kernel, by decide +kernel⟩, by decide +kernel, by decide⟩⟩
theorem l_X7_225 : LkV RX7 225 MX7_requireRange 3 := ⟨wl_in 1206 (by decide +kernel) rfl, wl_in 1208 (by decide +kernel) rfl, wl_inp 21 (by decide +kernel) rfl, wl_in 1 (by decide +kernel) rfl, k_X7_requireRange, ⟨⟨by decide +kernel, by decide +kernel⟩, by decide +kernel, by decide⟩⟩
theorem l_X7_229 : LkV RX7 229 MX7_startTrial 1 := ⟨wl_in 1211 (by decide +kernel) rfl, wl_in 1213 (by decide +kernel) rfl, wl_inp 22 (by decide +kernel) rfl, wl_in 1 (by decide +kernel) rfl, k_X7_startTrial, ⟨⟨by decide +kernel, by decide +kernel⟩, by decide +kernel, by decide⟩⟩
theorem l_X7_232 : LkV RX7 232 MX7_runTrial 2 := ⟨wl_in 1215 (by decide +kernel) rfl, wl_in 1217 (by decide +kernel) rfl, wl_inp 23 (by decide +kernel) rfl, wl_in 1 (by decide +kernel) rfl, k_X7_runTrial, ⟨⟨by decide +kernel, by decide +kernel⟩, by decide +kernel, by decide⟩⟩
theorem l_X7_236 : LkV RX7 236 MX7_staysWith 2 := ⟨wl_in 1245 (by decide +kernel) rfl, wl_in 1247 (by decide +kernel) rfl, wl_inp 24 (by decide +kernel) rfl, wl_in 1 (by decide +kernel) rfl, k_X7_staysWith, ⟨⟨by decide +kernel, by decide +kernel⟩, by decide +kernel, by decide⟩⟩
theorem l_X7_240 : LkV RX7 240 MX7_daysToInspection 0 := ⟨wl_in 1249 (by decide +kernel) rfl, wl_in 918 (by decide +kernel) rfl, wl_in 919 (by decide +kernel) rfl, wl_in 1 (by decide +kernel) rfl, k_X7_daysToInspection, ⟨⟨by decide +kernel, by decide +kernel⟩, by decide +kernel, by decide⟩⟩
theorem l_X7_243 : LkV RX7 243 MX2_passDay 0 := ⟨wl_in 1219 (by decide +kernel) rfl, wl_in 785 (by decide +kernel) rfl, wl_in 786 (by decide +kernel) rfl, wl_in 7 (by decide +kernel) rfl, k_X2_passDay, ⟨⟨by decide +kernel, by decide +kernel⟩, by decide +kernel, by decide⟩⟩
theorem l_X7_246 : LkV RX7 246 MX2_houses 1 := ⟨wl_in 1220 (by decide +kernel) rfl, wl_in 1221 (by decide +kernel) rfl, wl_in 1222 (by decide +kernel) rfl, wl_in 7 (by decide +kernel) rfl, k_X2_houses, ⟨⟨by decide +kernel, by decide +kernel⟩, by decide +kernel, by decide⟩⟩
theorem l_X7_260 : LkV RX7 260 MX1_remember 1 := ⟨wl_in 1258 (by decide +kernel) rfl, wl_in 1259 (by decide +kernel) rfl, wl_in 1260 (by decide +kernel) rfl, wl_in 13 (by decide +kernel) rfl, k_X1_remember, ⟨⟨by decide +kernel, by decide +kernel⟩, by decide +kernel, by decide⟩⟩
theorem l_X7_266 : LkV RX7 266 MX7_requirePlace 2 := ⟨wl_in 1272 (by decide +kernel) rfl, wl_in 1274 (by decide +kernel) rfl, wl_inp 25 (by decide +kernel) rfl, wl_in 1 (by decide +kernel) rfl, k_X7_requirePlace, ⟨⟨by decide +kernel, by decide +kernel⟩, by decide +kernel, by decide⟩⟩
theorem l_X7_270 : LkV RX7 270 MX2_unusedLetter 0 := ⟨wl_in 1278 (by decide +kernel) rfl, wl_in 1279 (by decide +kernel) rfl, wl_in 1280 (by decide +kernel) rfl, wl_in 7 (by decide +kernel) rfl, k_X2_unusedLetter, ⟨⟨by decide +kernel, by decide +kernel⟩, by decide +kernel, by decide⟩⟩
theorem l_X7_274 : LkV RX7 274 MX2_receive 4 := ⟨wl_in 1314 (by decide +kernel) rfl, wl_in 757 (by decide +kernel) rfl, wl_in 758 (by decide +kernel) rfl, wl_in 7 (by decide +kernel) rfl, k_X2_receive, ⟨⟨by decide +kernel, by decide +kernel⟩, by decide +kernel, by decide⟩⟩
theorem l_X7_278 : LkV RX7 278 MX2_dismiss 1 := ⟨wl_in 1322 (by decide +kernel) rfl, wl_in 841 (by decide +kernel) rfl, wl_in 842 (by decide +kernel) rfl, wl_in 7 (by decide +kernel) rfl, k_X2_dismiss, ⟨⟨by decide +kernel, by decide +kernel⟩, by decide +kernel, by decide⟩⟩
theorem l_X7_281 : LkV RX7 281 MX2_takePayment 2 := ⟨wl_in 1337 (by decide +kernel) rfl, wl_in 771 (by decide +kernel) rfl, wl_in 772 (by decide +kernel) rfl, wl_in 7 (by decide +kernel) rfl, k_X2_takePayment, ⟨⟨by decide +kernel, by decide +kernel⟩, by decide +kernel, by decide⟩⟩
theorem l_X7_285 : LkV RX7 285 MX7_requireSlot 1 := ⟨wl_in 1366 (by decide +kernel) rfl, wl_in 1368 (by decide +kernel) rfl, wl_inp 27 (by decide +kernel) rfl, wl_in 1 (by decide +kernel) rfl, k_X7_requireSlot, ⟨⟨by decide +kernel, by decide +kernel⟩, by decide +kernel, by decide⟩⟩
theorem l_X7_292 : LkV RX7 292 MX1_takeBack 1 := ⟨wl_in 1380 (by decide +kernel) rfl, wl_in 1381 (by decide +kernel) rfl, wl_in 1382 (by decide +kernel) rfl, wl_in 13 (by decide +kernel) rfl, k_X1_takeBack, ⟨⟨by decide +kernel, by decide +kernel⟩, by decide +kernel, by decide⟩⟩
theorem l_X7_295 : LkV RX7 295 MJ4_setLength_d00df 1 := ⟨wl_in 1398 (by decide +kernel) rfl, wl_in 414 (by decide +kernel) rfl, wl_in 415 (by decide +kernel) rfl, wl_in 3 (by decide +kernel) rfl, k_J4_setLength_d00df, ⟨⟨by decide +kernel, by decide +kernel⟩, by decide +kernel, by decide⟩⟩
theorem l_X7_298 : LkV RX7 298 MJ4_append_15ec4 1 := ⟨wl_in 1399 (by decide +kernel) rfl, wl_in 429 (by decide +kernel) rfl, wl_in 430 (by decide +kernel) rfl, wl_in 3 (by decide +kernel) rfl, k_J4_append_15ec4, ⟨⟨by decide +kernel, by decide +kernel⟩, by decide +kernel, by decide⟩⟩
theorem l_X7_302 : LkV RX7 302 MJ4_append_cf468 1 := ⟨wl_in 1400 (by decide +kernel) rfl, wl_in 735 (by decide +kernel) rfl, wl_in 736 (by decide +kernel) rfl, wl_in 3 (by decide +kernel) rfl, k_J4_append_cf468, ⟨⟨by decide +kernel, by decide +kernel⟩, by decide +kernel, by decide⟩⟩
theorem l_X7_305 : LkV RX7 305 MJ4_append_bf812 1 := ⟨wl_in 1401 (by decide +kernel) rfl, wl_in 528 (by decide +kernel) rfl, wl_in 529 (by decide +kernel) rfl, wl_in 3 (by decide +kernel) rfl, k_J4_append_bf812, ⟨⟨by decide +kernel, by decide +kernel⟩, by decide +kernel, by decide⟩⟩
theorem l_X7_308 : LkV RX7 308 MJ4_length_8abf5 0 := ⟨wl_in 1402 (by decide +kernel) rfl, wl_in 574 (by decide +kernel) rfl, wl_in 2019 (by decide +kernel) rfl, wl_in 3 (by decide +kernel) rfl, k_J4_length_8abf5, ⟨⟨by decide +kernel, by decide +kernel⟩, by decide +kernel, by decide⟩⟩
theorem l_X7_311 : LkV RX7 311 MJ4_charAt_5068e 1 := ⟨wl_in 1418 (by decide +kernel) rfl, wl_in 1419 (by decide +kernel) rfl, wl_in 1420 (by decide +kernel) rfl, wl_in 3 (by decide +kernel) rfl, k_J4_charAt_5068e, ⟨⟨by decide +kernel, by decide +kernel⟩, by decide +kernel, by decide⟩⟩
theorem l_X7_322 : LkV RX7 322 MX2_isFullFor 2 := ⟨wl_in 1276 (by decide +kernel) rfl, wl_in 753 (by decide +kernel) rfl, wl_in 754 (by decide +kernel) rfl, wl_in 7 (by decide +kernel) rfl, k_X2_isFullFor, ⟨⟨by decide +kernel, by decide +kernel⟩, by decide +kernel, by decide⟩⟩
theorem l_X0_21 : LkV RX0 21 MX0_farthestVowel 1 := ⟨wl_in 804 (by decide +kernel) rfl, wl_in 805 (by decide +kernel) rfl, wl_in 806 (by decide +kernel) rfl, wl_in 8 (by decide +kernel) rfl, k_X0_farthestVowel, ⟨⟨by decide +kernel, by decide +kernel⟩, by decide +kernel, by decide⟩⟩
theorem l_X1_17 : LkI RX1 17 MX2_init 0 := ⟨wl_in 252 (by decide +kernel) rfl, wl_in 80 (by decide +kernel) rfl, rfl, wl_in 7 (by decide +kernel) rfl, k_X2_init, ⟨⟨by decide +kernel, by decide +kernel⟩, by decide +kernel, by decide⟩, rfl⟩
theorem l_X1_25 : LkV RX1 25 MX2_copyFrom 1 := ⟨wl_in 1262 (by decide +kernel) rfl, wl_in 846 (by decide +kernel) rfl, wl_in 847 (by decide +kernel) rfl, wl_in 7 (by decide +kernel) rfl, k_X2_copyFrom, ⟨⟨by decide +kernel, by decide +kernel⟩, by decide +kernel, by decide⟩⟩
theorem l_X2_53 : LkV RX2 53 MX0_copyFrom 1 := ⟨wl_in 849 (by decide +kernel) rfl, wl_in 850 (by decide +kernel) rfl, wl_in 851 (by decide +kernel) rfl, wl_in 8 (by decide +kernel) rfl, k_X0_copyFrom, ⟨⟨by decide +kernel, by decide +kernel⟩, by decide +kernel, by decide⟩⟩
theorem l_X2_57 : LkV RX2 57 MX3_copyFrom 1 := ⟨wl_in 854 (by decide +kernel) rfl, wl_in 855 (by decide +kernel) rfl, wl_in 856 (by decide +kernel) rfl, wl_in 9 (by decide +kernel) rfl, k_X3_copyFrom, ⟨⟨by decide +kernel, by decide +kernel⟩, by decide +kernel, by decide⟩⟩
theorem l_X2_63 : LkV RX2 63 MX3_isNamed 3 := ⟨wl_in 403 (by decide +kernel) rfl, wl_in 404 (by decide +kernel) rfl, wl_in 405 (by decide +kernel) rfl, wl_in 9 (by decide +kernel) rfl, k_X3_isNamed, ⟨⟨by decide +kernel, by decide +kernel⟩, by decide +kernel, by decide⟩⟩
theorem l_X2_69 : LkV RX2 69 MJ0_length_8abf5 0 := ⟨wl_in 1283 (by decide +kernel) rfl, wl_in 266 (by decide +kernel) rfl, wl_in 267 (by decide +kernel) rfl, wl_in 4 (by decide +kernel) rfl, k_J0_length_8abf5, ⟨⟨by decide +kernel, by decide +kernel⟩, by decide +kernel, by decide⟩⟩
theorem l_X2_75 : LkV RX2 75 MJ0_charAt_5068e 1 := ⟨wl_in 1284 (by decide +kernel) rfl, wl_in 275 (by decide +kernel) rfl, wl_in 276 (by decide +kernel) rfl, wl_in 4 (by decide +kernel) rfl, k_J0_charAt_5068e, ⟨⟨by decide +kernel, by decide +kernel⟩, by decide +kernel, by decide⟩⟩
theorem l_X2_79 : LkV RX2 79 MX2_hasLetterName 1 := ⟨wl_in 1285 (by decide +kernel) rfl, wl_in 1287 (by decide +kernel) rfl, wl_inp 26 (by decide +kernel) rfl, wl_in 7 (by decide +kernel) rfl, k_X2_hasLetterName, ⟨⟨by decide +kernel, by decide +kernel⟩, by decide +kernel, by decide⟩⟩
theorem l_X2_83 : LkV RX2 83 MJ0_substring_37a41 2 := ⟨wl_in 1289 (by decide +kernel) rfl, wl_in 1290 (by decide +kernel) rfl, wl_in 1291 (by decide +kernel) rfl, wl_in 4 (by decide +kernel) rfl, k_J0_substring_37a41, ⟨⟨by decide +kernel, by decide +kernel⟩, by decide +kernel, by decide⟩⟩
theorem l_X2_100 : LkV RX2 100 MX2_averagePosition 2 := ⟨wl_in 820 (by decide +kernel) rfl, wl_in 821 (by decide +kernel) rfl, wl_in 822 (by decide +kernel) rfl, wl_in 7 (by decide +kernel) rfl, k_X2_averagePosition, ⟨⟨by decide +kernel, by decide +kernel⟩, by decide +kernel, by decide⟩⟩
theorem l_X2_107 : LkV RX2 107 MX0_distanceTo 1 := ⟨wl_in 832 (by decide +kernel) rfl, wl_in 833 (by decide +kernel) rfl, wl_in 834 (by decide +kernel) rfl, wl_in 8 (by decide +kernel) rfl, k_X0_distanceTo, ⟨⟨by decide +kernel, by decide +kernel⟩, by decide +kernel, by decide⟩⟩
theorem l_X2_111 : LkV RX2 111 MX0_rhymesWith 1 := ⟨wl_in 836 (by decide +kernel) rfl, wl_in 837 (by decide +kernel) rfl, wl_in 838 (by decide +kernel) rfl, wl_in 8 (by decide +kernel) rfl, k_X0_rhymesWith, ⟨⟨by decide +kernel, by decide +kernel⟩, by decide +kernel, by decide⟩⟩
theorem l_X2_124 : LkV RX2 124 MX0_setDigits 1 := ⟨wl_in 760 (by decide +kernel) rfl, wl_in 386 (by decide +kernel) rfl, wl_in 387 (by decide +kernel) rfl, wl_in 8 (by decide +kernel) rfl, k_X0_setDigits, ⟨⟨by decide +kernel, by decide +kernel⟩, by decide +kernel, by decide⟩⟩
theorem l_X2_128 : LkV RX2 128 MX2_collectRent 0 := ⟨wl_in 788 (by decide +kernel) rfl, wl_in 790 (by decide +kernel) rfl, wl_inp 13 (by decide +kernel) rfl, wl_in 7 (by decide +kernel) rfl, k_X2_collectRent, ⟨⟨by decide +kernel, by decide +kernel⟩, by decide +kernel, by decide⟩⟩
theorem l_X2_131 : LkV RX2 131 MX2_giveLessons 0 := ⟨wl_in 796 (by decide +kernel) rfl, wl_in 798 (by decide +kernel) rfl, wl_inp 14 (by decide +kernel) rfl, wl_in 7 (by decide +kernel) rfl, k_X2_giveLessons, ⟨⟨by decide +kernel, by decide +kernel⟩, by decide +kernel, by decide⟩⟩
theorem l_X2_134 : LkV RX2 134 MX2_serveDinner 1 := ⟨wl_in 808 (by decide +kernel) rfl, wl_in 810 (by decide +kernel) rfl, wl_inp 15 (by decide +kernel) rfl, wl_in 7 (by decide +kernel) rfl, k_X2_serveDinner, ⟨⟨by decide +kernel, by decide +kernel⟩, by decide +kernel, by decide⟩⟩
theorem l_X2_137 : LkV RX2 137 MX2_inspect 0 := ⟨wl_in 824 (by decide +kernel) rfl, wl_in 826 (by decide +kernel) rfl, wl_inp 16 (by decide +kernel) rfl, wl_in 7 (by decide +kernel) rfl, k_X2_inspect, ⟨⟨by decide +kernel, by decide +kernel⟩, by decide +kernel, by decide⟩⟩
theorem l_X2_140 : LkV RX2 140 MX2_dailyRent 1 := ⟨wl_in 792 (by decide +kernel) rfl, wl_in 793 (by decide +kernel) rfl, wl_in 794 (by decide +kernel) rfl, wl_in 7 (by decide +kernel) rfl, k_X2_dailyRent, ⟨⟨by decide +kernel, by decide +kernel⟩, by decide +kernel, by decide⟩⟩
theorem l_X2_144 : LkV RX2 144 MX0_approach 1 := ⟨wl_in 800 (by decide +kernel) rfl, wl_in 801 (by decide +kernel) rfl, wl_in 802 (by decide +kernel) rfl, wl_in 8 (by decide +kernel) rfl, k_X0_approach, ⟨⟨by decide +kernel, by decide +kernel⟩, by decide +kernel, by decide⟩⟩
theorem l_X2_147 : LkV RX2 147 MX2_crowdOn 1 := ⟨wl_in 812 (by decide +kernel) rfl, wl_in 813 (by decide +kernel) rfl, wl_in 814 (by decide +kernel) rfl, wl_in 7 (by decide +kernel) rfl, k_X2_crowdOn, ⟨⟨by decide +kernel, by decide +kernel⟩, by decide +kernel, by decide⟩⟩
theorem l_X2_150 : LkV RX2 150 MX2_computeAverage 1 := ⟨wl_in 816 (by decide +kernel) rfl, wl_in 817 (by decide +kernel) rfl, wl_in 818 (by decide +kernel) rfl, wl_in 7 (by decide +kernel) rfl, k_X2_computeAverage, ⟨⟨by decide +kernel, by decide +kernel⟩, by decide +kernel, by decide⟩⟩
theorem l_X2_153 : LkV RX2 153 MX2_mustLeave 1 := ⟨wl_in 828 (by decide +kernel) rfl, wl_in 829 (by decide +kernel) rfl, wl_in 830 (by decide +kernel) rfl, wl_in 7 (by decide +kernel) rfl, k_X2_mustLeave, ⟨⟨by decide +kernel, by decide +kernel⟩, by decide +kernel, by decide⟩⟩
theorem l_X2_157 : LkV RX2 157 MX2_dismiss 1 := ⟨wl_in 840 (by decide +kernel) rfl, wl_in 841 (by decide +kernel) rfl, wl_in 842 (by decide +kernel) rfl, wl_in 7 (by decide +kernel) rfl, k_X2_dismiss, ⟨⟨by decide +kernel, by decide +kernel⟩, by decide +kernel, by decide⟩⟩
theorem l_X3_38 : LkV RX3 38 MX0_copyFrom 1 := ⟨wl_in 858 (by decide +kernel) rfl, wl_in 850 (by decide +kernel) rfl, wl_in 851 (by decide +kernel) rfl, wl_in 8 (by decide +kernel) rfl, k_X0_copyFrom, ⟨⟨by decide +kernel, by decide +kernel⟩, by decide +kernel, by decide⟩⟩
theorem l_X3_42 : LkV RX3 42 MJ0_length_8abf5 0 := ⟨wl_in 407 (by decide +kernel) rfl, wl_in 266 (by decide +kernel) rfl, wl_in 267 (by decide +kernel) rfl, wl_in 4 (by decide +kernel) rfl, k_J0_length_8abf5, ⟨⟨by decide +kernel, by decide +kernel⟩, by decide +kernel, by decide⟩⟩
theorem l_X3_48 : LkV RX3 48 MJ0_charAt_5068e 1 := ⟨wl_in 408 (by decide +kernel) rfl, wl_in 275 (by decide +kernel) rfl, wl_in 276 (by decide +kernel) rfl, wl_in 4 (by decide +kernel) rfl, k_J0_charAt_5068e, ⟨⟨by decide +kernel, by decide +kernel⟩, by decide +kernel, by decide⟩⟩
theorem l_X4_11 : LkI RX4 11 MX2_init 0 := ⟨wl_in 79 (by decide +kernel) rfl, wl_in 80 (by decide +kernel) rfl, rfl, wl_in 7 (by decide +kernel) rfl, k_X2_init, ⟨⟨by decide +kernel, by decide +kernel⟩, by decide +kernel, by decide⟩, rfl⟩
theorem l_X4_28 : LkI RX4 28 MX6_init 1 := ⟨wl_in 193 (by decide +kernel) rfl, wl_in 194 (by decide +kernel) rfl, rfl, wl_in 10 (by decide +kernel) rfl, k_X6_init, ⟨⟨by decide +kernel, by decide +kernel⟩, by decide +kernel, by decide⟩, rfl⟩
theorem l_X4_38 : LkV RX4 38 MX6_restart 1 := ⟨wl_in 316 (by decide +kernel) rfl, wl_in 317 (by decide +kernel) rfl, wl_in 318 (by decide +kernel) rfl, wl_in 10 (by decide +kernel) rfl, k_X6_restart, ⟨⟨by decide +kernel, by decide +kernel⟩, by decide +kernel, by decide⟩⟩
theorem l_X4_42 : LkV RX4 42 MX4_readHeader 0 := ⟨wl_in 341 (by decide +kernel) rfl, wl_in 343 (by decide +kernel) rfl, wl_inp 0 (by decide +kernel) rfl, wl_in 6 (by decide +kernel) rfl, k_X4_readHeader, ⟨⟨by decide +kernel, by decide +kernel⟩, by decide +kernel, by decide⟩⟩
theorem l_X4_54 : LkV RX4 54 MX6_step 0 := ⟨wl_in 360 (by decide +kernel) rfl, wl_in 326 (by decide +kernel) rfl, wl_in 327 (by decide +kernel) rfl, wl_in 10 (by decide +kernel) rfl, k_X6_step, ⟨⟨by decide +kernel, by decide +kernel⟩, by decide +kernel, by decide⟩⟩
theorem l_X4_59 : LkV RX4 59 MX6_isWord 1 := ⟨wl_in 350 (by decide +kernel) rfl, wl_in 351 (by decide +kernel) rfl, wl_in 352 (by decide +kernel) rfl, wl_in 10 (by decide +kernel) rfl, k_X6_isWord, ⟨⟨by decide +kernel, by decide +kernel⟩, by decide +kernel, by decide⟩⟩
theorem l_X4_63 : LkV RX4 63 MX4_readLodger 0 := ⟨wl_in 390 (by decide +kernel) rfl, wl_in 392 (by decide +kernel) rfl, wl_inp 5 (by decide +kernel) rfl, wl_in 6 (by decide +kernel) rfl, k_X4_readLodger, ⟨⟨by decide +kernel, by decide +kernel⟩, by decide +kernel, by decide⟩⟩
theorem l_X4_68 : LkV RX4 68 MX4_readPay 0 := ⟨wl_in 762 (by decide +kernel) rfl, wl_in 764 (by decide +kernel) rfl, wl_inp 9 (by decide +kernel) rfl, wl_in 6 (by decide +kernel) rfl, k_X4_readPay, ⟨⟨by decide +kernel, by decide +kernel⟩, by decide +kernel, by decide⟩⟩
theorem l_X4_73 : LkV RX4 73 MX4_readMove 0 := ⟨wl_in 775 (by decide +kernel) rfl, wl_in 777 (by decide +kernel) rfl, wl_inp 11 (by decide +kernel) rfl, wl_in 6 (by decide +kernel) rfl, k_X4_readMove, ⟨⟨by decide +kernel, by decide +kernel⟩, by decide +kernel, by decide⟩⟩
theorem l_X4_78 : LkV RX4 78 MX4_readDays 0 := ⟨wl_in 780 (by decide +kernel) rfl, wl_in 782 (by decide +kernel) rfl, wl_inp 12 (by decide +kernel) rfl, wl_in 6 (by decide +kernel) rfl, k_X4_readDays, ⟨⟨by decide +kernel, by decide +kernel⟩, by decide +kernel, by decide⟩⟩
theorem l_X4_84 : LkV RX4 84 MX4_fail 2 := ⟨wl_in 361 (by decide +kernel) rfl, wl_in 363 (by decide +kernel) rfl, wl_inp 2 (by decide +kernel) rfl, wl_in 6 (by decide +kernel) rfl, k_X4_fail, ⟨⟨by decide +kernel, by decide +kernel⟩, by decide +kernel, by decide⟩⟩
theorem l_X4_92 : LkV RX4 92 MX4_expectWord 1 := ⟨wl_in 346 (by decide +kernel) rfl, wl_in 348 (by decide +kernel) rfl, wl_inp 1 (by decide +kernel) rfl, wl_in 6 (by decide +kernel) rfl, k_X4_expectWord, ⟨⟨by decide +kernel, by decide +kernel⟩, by decide +kernel, by decide⟩⟩
theorem l_X4_96 : LkV RX4 96 MX4_readNumber 2 := ⟨wl_in 365 (by decide +kernel) rfl, wl_in 367 (by decide +kernel) rfl, wl_inp 3 (by decide +kernel) rfl, wl_in 6 (by decide +kernel) rfl, k_X4_readNumber, ⟨⟨by decide +kernel, by decide +kernel⟩, by decide +kernel, by decide⟩⟩
theorem l_X4_102 : LkV RX4 102 MX2_open 2 := ⟨wl_in 377 (by decide +kernel) rfl, wl_in 378 (by decide +kernel) rfl, wl_in 379 (by decide +kernel) rfl, wl_in 7 (by decide +kernel) rfl, k_X2_open, ⟨⟨by decide +kernel, by decide +kernel⟩, by decide +kernel, by decide⟩⟩
theorem l_X4_108 : LkV RX4 108 MX4_readAccent 0 := ⟨wl_in 381 (by decide +kernel) rfl, wl_in 383 (by decide +kernel) rfl, wl_inp 4 (by decide +kernel) rfl, wl_in 6 (by decide +kernel) rfl, k_X4_readAccent, ⟨⟨by decide +kernel, by decide +kernel⟩, by decide +kernel, by decide⟩⟩
theorem l_X4_112 : LkV RX4 112 MX0_setDigits 1 := ⟨wl_in 385 (by decide +kernel) rfl, wl_in 386 (by decide +kernel) rfl, wl_in 387 (by decide +kernel) rfl, wl_in 8 (by decide +kernel) rfl, k_X0_setDigits, ⟨⟨by decide +kernel, by decide +kernel⟩, by decide +kernel, by decide⟩⟩
theorem l_X4_120 : LkV RX4 120 MX4_isAtName 0 := ⟨wl_in 394 (by decide +kernel) rfl, wl_in 396 (by decide +kernel) rfl, wl_inp 6 (by decide +kernel) rfl, wl_in 6 (by decide +kernel) rfl, k_X4_isAtName, ⟨⟨by decide +kernel, by decide +kernel⟩, by decide +kernel, by decide⟩⟩
theorem l_X4_127 : LkV RX4 127 MX2_numberOf 3 := ⟨wl_in 399 (by decide +kernel) rfl, wl_in 400 (by decide +kernel) rfl, wl_in 401 (by decide +kernel) rfl, wl_in 7 (by decide +kernel) rfl, k_X2_numberOf, ⟨⟨by decide +kernel, by decide +kernel⟩, by decide +kernel, by decide⟩⟩
theorem l_X4_131 : LkV RX4 131 MX6_word 0 := ⟨wl_in 409 (by decide +kernel) rfl, wl_in 410 (by decide +kernel) rfl, wl_in 411 (by decide +kernel) rfl, wl_in 10 (by decide +kernel) rfl, k_X6_word, ⟨⟨by decide +kernel, by decide +kernel⟩, by decide +kernel, by decide⟩⟩
theorem l_X4_135 : LkV RX4 135 MX4_readFloor 1 := ⟨wl_in 748 (by decide +kernel) rfl, wl_in 750 (by decide +kernel) rfl, wl_inp 8 (by decide +kernel) rfl, wl_in 6 (by decide +kernel) rfl, k_X4_readFloor, ⟨⟨by decide +kernel, by decide +kernel⟩, by decide +kernel, by decide⟩⟩
theorem l_X4_139 : LkV RX4 139 MX2_receive 4 := ⟨wl_in 756 (by decide +kernel) rfl, wl_in 757 (by decide +kernel) rfl, wl_in 758 (by decide +kernel) rfl, wl_in 7 (by decide +kernel) rfl, k_X2_receive, ⟨⟨by decide +kernel, by decide +kernel⟩, by decide +kernel, by decide⟩⟩
theorem l_X4_143 : LkV RX4 143 MX4_readKnownName 0 := ⟨wl_in 766 (by decide +kernel) rfl, wl_in 768 (by decide +kernel) rfl, wl_inp 10 (by decide +kernel) rfl, wl_in 6 (by decide +kernel) rfl, k_X4_readKnownName, ⟨⟨by decide +kernel, by decide +kernel⟩, by decide +kernel, by decide⟩⟩
theorem l_X4_147 : LkV RX4 147 MX2_takePayment 2 := ⟨wl_in 770 (by decide +kernel) rfl, wl_in 771 (by decide +kernel) rfl, wl_in 772 (by decide +kernel) rfl, wl_in 7 (by decide +kernel) rfl, k_X2_takePayment, ⟨⟨by decide +kernel, by decide +kernel⟩, by decide +kernel, by decide⟩⟩
theorem l_X4_156 : LkV RX4 156 MX2_passDay 0 := ⟨wl_in 784 (by decide +kernel) rfl, wl_in 785 (by decide +kernel) rfl, wl_in 786 (by decide +kernel) rfl, wl_in 7 (by decide +kernel) rfl, k_X2_passDay, ⟨⟨by decide +kernel, by decide +kernel⟩, by decide +kernel, by decide⟩⟩
theorem l_X4_162 : LkV RX4 162 MX6_size 0 := ⟨wl_in 370 (by decide +kernel) rfl, wl_in 355 (by decide +kernel) rfl, wl_in 356 (by decide +kernel) rfl, wl_in 10 (by decide +kernel) rfl, k_X6_size, ⟨⟨by decide +kernel, by decide +kernel⟩, by decide +kernel, by decide⟩⟩
theorem l_X4_172 : LkV RX4 172 MX6_value 0 := ⟨wl_in 371 (by decide +kernel) rfl, wl_in 372 (by decide +kernel) rfl, wl_in 373 (by decide +kernel) rfl, wl_in 10 (by decide +kernel) rfl, k_X6_value, ⟨⟨by decide +kernel, by decide +kernel⟩, by decide +kernel, by decide⟩⟩
theorem l_X4_175 : LkV RX4 175 MX2_isFullFor 2 := ⟨wl_in 752 (by decide +kernel) rfl, wl_in 753 (by decide +kernel) rfl, wl_in 754 (by decide +kernel) rfl, wl_in 7 (by decide +kernel) rfl, k_X2_isFullFor, ⟨⟨by decide +kernel, by decide +kernel⟩, by decide +kernel, by decide⟩⟩
theorem l_X6_9 : LkI RX6 9 MJ4_init_da8c8 0 := ⟨wl_in 198 (by decide +kernel) rfl, wl_in 41 (by decide +kernel) rfl, rfl, wl_in 3 (by decide +kernel) rfl, k_J4_init_da8c8, ⟨⟨by decide +kernel, by decide +kernel⟩, by decide +kernel, by decide⟩, rfl⟩
theorem l_X6_29 : LkS RX6 29 MJ9_min_7cf53 2 := ⟨wl_in 320 (by decide +kernel) rfl, wl_in 321 (by decide +kernel) rfl, wl_in 16 (by decide +kernel) rfl, k_J9_min_7cf53, ⟨⟨by decide +kernel, by decide +kernel⟩, by decide +kernel, by decide⟩⟩
theorem l_X6_45 : LkV RX6 45 MX6_step 0 := ⟨wl_in 325 (by decide +kernel) rfl, wl_in 326 (by decide +kernel) rfl, wl_in 327 (by decide +kernel) rfl, wl_in 10 (by decide +kernel) rfl, k_X6_step, ⟨⟨by decide +kernel, by decide +kernel⟩, by decide +kernel, by decide⟩⟩
theorem l_X6_57 : LkS RX6 57 MX6_isLetter 1 := ⟨wl_in 333 (by decide +kernel) rfl, wl_in 334 (by decide +kernel) rfl, wl_in 10 (by decide +kernel) rfl, k_X6_isLetter, ⟨⟨by decide +kernel, by decide +kernel⟩, by decide +kernel, by decide⟩⟩
theorem l_X6_64 : LkS RX6 64 MX6_isDigit 1 := ⟨wl_in 338 (by decide +kernel) rfl, wl_in 339 (by decide +kernel) rfl, wl_in 10 (by decide +kernel) rfl, k_X6_isDigit, ⟨⟨by decide +kernel, by decide +kernel⟩, by decide +kernel, by decide⟩⟩
theorem l_X6_67 : LkV RX6 67 MX6_size 0 := ⟨wl_in 354 (by decide +kernel) rfl, wl_in 355 (by decide +kernel) rfl, wl_in 356 (by decide +kernel) rfl, wl_in 10 (by decide +kernel) rfl, k_X6_size, ⟨⟨by decide +kernel, by decide +kernel⟩, by decide +kernel, by decide⟩⟩
theorem l_X6_71 : LkV RX6 71 MJ0_length_8abf5 0 := ⟨wl_in 358 (by decide +kernel) rfl, wl_in 266 (by decide +kernel) rfl, wl_in 267 (by decide +kernel) rfl, wl_in 4 (by decide +kernel) rfl, k_J0_length_8abf5, ⟨⟨by decide +kernel, by decide +kernel⟩, by decide +kernel, by decide⟩⟩
theorem l_X6_75 : LkV RX6 75 MJ0_charAt_5068e 1 := ⟨wl_in 359 (by decide +kernel) rfl, wl_in 275 (by decide +kernel) rfl, wl_in 276 (by decide +kernel) rfl, wl_in 4 (by decide +kernel) rfl, k_J0_charAt_5068e, ⟨⟨by decide +kernel, by decide +kernel⟩, by decide +kernel, by decide⟩⟩
theorem l_X6_79 : LkV RX6 79 MJ4_setLength_d00df 1 := ⟨wl_in 413 (by decide +kernel) rfl, wl_in 414 (by decide +kernel) rfl, wl_in 415 (by decide +kernel) rfl, wl_in 3 (by decide +kernel) rfl, k_J4_setLength_d00df, ⟨⟨by decide +kernel, by decide +kernel⟩, by decide +kernel, by decide⟩⟩
theorem l_X6_83 : LkV RX6 83 MJ4_append_cf468 1 := ⟨wl_in 734 (by decide +kernel) rfl, wl_in 735 (by decide +kernel) rfl, wl_in 736 (by decide +kernel) rfl, wl_in 3 (by decide +kernel) rfl, k_J4_append_cf468, ⟨⟨by decide +kernel, by decide +kernel⟩, by decide +kernel, by decide⟩⟩
theorem l_X6_87 : LkV RX6 87 MJ4_toString_0e30d 0 := ⟨wl_in 747 (by decide +kernel) rfl, wl_in 553 (by decide +kernel) rfl, wl_in 554 (by decide +kernel) rfl, wl_in 3 (by decide +kernel) rfl, k_J4_toString_0e30d, ⟨⟨by decide +kernel, by decide +kernel⟩, by decide +kernel, by decide⟩⟩
theorem l_L_7 : LkV RL 7 MX7_append 5 := ⟨wl_in 964 (by decide +kernel) rfl, wl_in 965 (by decide +kernel) rfl, wl_in 966 (by decide +kernel) rfl, wl_in 1 (by decide +kernel) rfl, k_X7_append, ⟨⟨by decide +kernel, by decide +kernel⟩, by decide +kernel, by decide⟩⟩
theorem l_L_15 : LkV RL 15 MX7_load 1 := ⟨wl_in 993 (by decide +kernel) rfl, wl_in 994 (by decide +kernel) rfl, wl_in 995 (by decide +kernel) rfl, wl_in 1 (by decide +kernel) rfl, k_X7_load, ⟨⟨by decide +kernel, by decide +kernel⟩, by decide +kernel, by decide⟩⟩
theorem l_L_23 : LkV RL 23 MX7_rentOf 1 := ⟨wl_in 1020 (by decide +kernel) rfl, wl_in 1021 (by decide +kernel) rfl, wl_in 1022 (by decide +kernel) rfl, wl_in 1 (by decide +kernel) rfl, k_X7_rentOf, ⟨⟨by decide +kernel, by decide +kernel⟩, by decide +kernel, by decide⟩⟩
theorem l_L_26 : LkV RL 26 MX7_landladyVowel 1 := ⟨wl_in 1033 (by decide +kernel) rfl, wl_in 1034 (by decide +kernel) rfl, wl_in 1035 (by decide +kernel) rfl, wl_in 1 (by decide +kernel) rfl, k_X7_landladyVowel, ⟨⟨by decide +kernel, by decide +kernel⟩, by decide +kernel, by decide⟩⟩
theorem l_L_29 : LkV RL 29 MX7_floorOf 1 := ⟨wl_in 1045 (by decide +kernel) rfl, wl_in 1046 (by decide +kernel) rfl, wl_in 1047 (by decide +kernel) rfl, wl_in 1 (by decide +kernel) rfl, k_X7_floorOf, ⟨⟨by decide +kernel, by decide +kernel⟩, by decide +kernel, by decide⟩⟩
theorem l_L_32 : LkV RL 32 MX7_balanceOf 1 := ⟨wl_in 1057 (by decide +kernel) rfl, wl_in 1058 (by decide +kernel) rfl, wl_in 1059 (by decide +kernel) rfl, wl_in 1 (by decide +kernel) rfl, k_X7_balanceOf, ⟨⟨by decide +kernel, by decide +kernel⟩, by decide +kernel, by decide⟩⟩
theorem l_L_35 : LkV RL 35 MX7_vowelOf 2 := ⟨wl_in 1064 (by decide +kernel) rfl, wl_in 1065 (by decide +kernel) rfl, wl_in 1066 (by decide +kernel) rfl, wl_in 1 (by decide +kernel) rfl, k_X7_vowelOf, ⟨⟨by decide +kernel, by decide +kernel⟩, by decide +kernel, by decide⟩⟩
theorem l_L_39 : LkV RL 39 MX7_lessonsOf 1 := ⟨wl_in 1071 (by decide +kernel) rfl, wl_in 1072 (by decide +kernel) rfl, wl_in 1073 (by decide +kernel) rfl, wl_in 1 (by decide +kernel) rfl, k_X7_lessonsOf, ⟨⟨by decide +kernel, by decide +kernel⟩, by decide +kernel, by decide⟩⟩
theorem l_L_42 : LkV RL 42 MX7_slipsOf 1 := ⟨wl_in 1078 (by decide +kernel) rfl, wl_in 1079 (by decide +kernel) rfl, wl_in 1080 (by decide +kernel) rfl, wl_in 1 (by decide +kernel) rfl, k_X7_slipsOf, ⟨⟨by decide +kernel, by decide +kernel⟩, by decide +kernel, by decide⟩⟩
theorem l_L_45 : LkV RL 45 MX7_daysStayed 1 := ⟨wl_in 1085 (by decide +kernel) rfl, wl_in 1086 (by decide +kernel) rfl, wl_in 1087 (by decide +kernel) rfl, wl_in 1 (by decide +kernel) rfl, k_X7_daysStayed, ⟨⟨by decide +kernel, by decide +kernel⟩, by decide +kernel, by decide⟩⟩
theorem l_L_48 : LkV RL 48 MX7_nameLength 1 := ⟨wl_in 1092 (by decide +kernel) rfl, wl_in 1093 (by decide +kernel) rfl, wl_in 1094 (by decide +kernel) rfl, wl_in 1 (by decide +kernel) rfl, k_X7_nameLength, ⟨⟨by decide +kernel, by decide +kernel⟩, by decide +kernel, by decide⟩⟩
theorem l_L_51 : LkV RL 51 MX7_nameLetter 2 := ⟨wl_in 1099 (by decide +kernel) rfl, wl_in 1100 (by decide +kernel) rfl, wl_in 1101 (by decide +kernel) rfl, wl_in 1 (by decide +kernel) rfl, k_X7_nameLetter, ⟨⟨by decide +kernel, by decide +kernel⟩, by decide +kernel, by decide⟩⟩
theorem l_L_55 : LkV RL 55 MX7_lodgersOn 1 := ⟨wl_in 1107 (by decide +kernel) rfl, wl_in 1108 (by decide +kernel) rfl, wl_in 1109 (by decide +kernel) rfl, wl_in 1 (by decide +kernel) rfl, k_X7_lodgersOn, ⟨⟨by decide +kernel, by decide +kernel⟩, by decide +kernel, by decide⟩⟩
theorem l_L_58 : LkV RL 58 MX7_lodgerOn 2 := ⟨wl_in 1115 (by decide +kernel) rfl, wl_in 1116 (by decide +kernel) rfl, wl_in 1117 (by decide +kernel) rfl, wl_in 1 (by decide +kernel) rfl, k_X7_lodgerOn, ⟨⟨by decide +kernel, by decide +kernel⟩, by decide +kernel, by decide⟩⟩
theorem l_L_61 : LkV RL 61 MX7_averageVowel 2 := ⟨wl_in 1127 (by decide +kernel) rfl, wl_in 1128 (by decide +kernel) rfl, wl_in 1129 (by decide +kernel) rfl, wl_in 1 (by decide +kernel) rfl, k_X7_averageVowel, ⟨⟨by decide +kernel, by decide +kernel⟩, by decide +kernel, by decide⟩⟩
theorem l_L_64 : LkV RL 64 MX7_distanceToLandlady 1 := ⟨wl_in 1136 (by decide +kernel) rfl, wl_in 1137 (by decide +kernel) rfl, wl_in 1138 (by decide +kernel) rfl, wl_in 1 (by decide +kernel) rfl, k_X7_distanceToLandlady, ⟨⟨by decide +kernel, by decide +kernel⟩, by decide +kernel, by decide⟩⟩
theorem l_L_67 : LkV RL 67 MX7_distance 2 := ⟨wl_in 1143 (by decide +kernel) rfl, wl_in 1144 (by decide +kernel) rfl, wl_in 1145 (by decide +kernel) rfl, wl_in 1 (by decide +kernel) rfl, k_X7_distance, ⟨⟨by decide +kernel, by decide +kernel⟩, by decide +kernel, by decide⟩⟩
theorem l_L_70 : LkV RL 70 MX7_rhymes 2 := ⟨wl_in 1150 (by decide +kernel) rfl, wl_in 1151 (by decide +kernel) rfl, wl_in 1152 (by decide +kernel) rfl, wl_in 1 (by decide +kernel) rfl, k_X7_rhymes, ⟨⟨by decide +kernel, by decide +kernel⟩, by decide +kernel, by decide⟩⟩
theorem l_L_74 : LkV RL 74 MX7_rhymesWithLandlady 1 := ⟨wl_in 1157 (by decide +kernel) rfl, wl_in 1158 (by decide +kernel) rfl, wl_in 1159 (by decide +kernel) rfl, wl_in 1 (by decide +kernel) rfl, k_X7_rhymesWithLandlady, ⟨⟨by decide +kernel, by decide +kernel⟩, by decide +kernel, by decide⟩⟩
theorem l_L_78 : LkV RL 78 MX7_rhymeCount 1 := ⟨wl_in 1164 (by decide +kernel) rfl, wl_in 1165 (by decide +kernel) rfl, wl_in 1166 (by decide +kernel) rfl, wl_in 1 (by decide +kernel) rfl, k_X7_rhymeCount, ⟨⟨by decide +kernel, by decide +kernel⟩, by decide +kernel, by decide⟩⟩
theorem l_L_81 : LkV RL 81 MX7_closestTo 1 := ⟨wl_in 1171 (by decide +kernel) rfl, wl_in 1172 (by decide +kernel) rfl, wl_in 1173 (by decide +kernel) rfl, wl_in 1 (by decide +kernel) rfl, k_X7_closestTo, ⟨⟨by decide +kernel, by decide +kernel⟩, by decide +kernel, by decide⟩⟩
theorem l_L_84 : LkV RL 84 MX7_lessonVowel 1 := ⟨wl_in 1178 (by decide +kernel) rfl, wl_in 1179 (by decide +kernel) rfl, wl_in 1180 (by decide +kernel) rfl, wl_in 1 (by decide +kernel) rfl, k_X7_lessonVowel, ⟨⟨by decide +kernel, by decide +kernel⟩, by decide +kernel, by decide⟩⟩
theorem l_L_87 : LkV RL 87 MX7_slipVowel 1 := ⟨wl_in 1186 (by decide +kernel) rfl, wl_in 1187 (by decide +kernel) rfl, wl_in 1188 (by decide +kernel) rfl, wl_in 1 (by decide +kernel) rfl, k_X7_slipVowel, ⟨⟨by decide +kernel, by decide +kernel⟩, by decide +kernel, by decide⟩⟩
theorem l_L_90 : LkV RL 90 MX7_mustGo 1 := ⟨wl_in 1194 (by decide +kernel) rfl, wl_in 1195 (by decide +kernel) rfl, wl_in 1196 (by decide +kernel) rfl, wl_in 1 (by decide +kernel) rfl, k_X7_mustGo, ⟨⟨by decide +kernel, by decide +kernel⟩, by decide +kernel, by decide⟩⟩
theorem l_L_93 : LkV RL 93 MX7_balanceAfter 2 := ⟨wl_in 1202 (by decide +kernel) rfl, wl_in 1203 (by decide +kernel) rfl, wl_in 1204 (by decide +kernel) rfl, wl_in 1 (by decide +kernel) rfl, k_X7_balanceAfter, ⟨⟨by decide +kernel, by decide +kernel⟩, by decide +kernel, by decide⟩⟩
theorem l_L_96 : LkV RL 96 MX7_distanceAfter 2 := ⟨wl_in 1227 (by decide +kernel) rfl, wl_in 1228 (by decide +kernel) rfl, wl_in 1229 (by decide +kernel) rfl, wl_in 1 (by decide +kernel) rfl, k_X7_distanceAfter, ⟨⟨by decide +kernel, by decide +kernel⟩, by decide +kernel, by decide⟩⟩
theorem l_L_99 : LkV RL 99 MX7_daysToEviction 1 := ⟨wl_in 1234 (by decide +kernel) rfl, wl_in 1235 (by decide +kernel) rfl, wl_in 1236 (by decide +kernel) rfl, wl_in 1 (by decide +kernel) rfl, k_X7_daysToEviction, ⟨⟨by decide +kernel, by decide +kernel⟩, by decide +kernel, by decide⟩⟩
theorem l_L_102 : LkV RL 102 MX7_paymentToStay 1 := ⟨wl_in 1241 (by decide +kernel) rfl, wl_in 1242 (by decide +kernel) rfl, wl_in 1243 (by decide +kernel) rfl, wl_in 1 (by decide +kernel) rfl, k_X7_paymentToStay, ⟨⟨by decide +kernel, by decide +kernel⟩, by decide +kernel, by decide⟩⟩
theorem l_L_105 : LkV RL 105 MX7_advance 1 := ⟨wl_in 1253 (by decide +kernel) rfl, wl_in 1254 (by decide +kernel) rfl, wl_in 1255 (by decide +kernel) rfl, wl_in 1 (by decide +kernel) rfl, k_X7_advance, ⟨⟨by decide +kernel, by decide +kernel⟩, by decide +kernel, by decide⟩⟩
theorem l_L_108 : LkV RL 108 MX7_moveIn 3 := ⟨wl_in 1266 (by decide +kernel) rfl, wl_in 1267 (by decide +kernel) rfl, wl_in 1268 (by decide +kernel) rfl, wl_in 1 (by decide +kernel) rfl, k_X7_moveIn, ⟨⟨by decide +kernel, by decide +kernel⟩, by decide +kernel, by decide⟩⟩
theorem l_L_112 : LkV RL 112 MX7_moveOut 1 := ⟨wl_in 1318 (by decide +kernel) rfl, wl_in 1319 (by decide +kernel) rfl, wl_in 1320 (by decide +kernel) rfl, wl_in 1 (by decide +kernel) rfl, k_X7_moveOut, ⟨⟨by decide +kernel, by decide +kernel⟩, by decide +kernel, by decide⟩⟩
theorem l_L_115 : LkV RL 115 MX7_moveTo 2 := ⟨wl_in 1326 (by decide +kernel) rfl, wl_in 1327 (by decide +kernel) rfl, wl_in 1328 (by decide +kernel) rfl, wl_in 1 (by decide +kernel) rfl, k_X7_moveTo, ⟨⟨by decide +kernel, by decide +kernel⟩, by decide +kernel, by decide⟩⟩
theorem l_L_118 : LkV RL 118 MX7_pay 2 := ⟨wl_in 1333 (by decide +kernel) rfl, wl_in 1334 (by decide +kernel) rfl, wl_in 1335 (by decide +kernel) rfl, wl_in 1 (by decide +kernel) rfl, k_X7_pay, ⟨⟨by decide +kernel, by decide +kernel⟩, by decide +kernel, by decide⟩⟩
theorem l_L_121 : LkV RL 121 MX7_setLandladyVowel 2 := ⟨wl_in 1341 (by decide +kernel) rfl, wl_in 1342 (by decide +kernel) rfl, wl_in 1343 (by decide +kernel) rfl, wl_in 1 (by decide +kernel) rfl, k_X7_setLandladyVowel, ⟨⟨by decide +kernel, by decide +kernel⟩, by decide +kernel, by decide⟩⟩
theorem l_L_124 : LkV RL 124 MX7_setTolerance 1 := ⟨wl_in 1348 (by decide +kernel) rfl, wl_in 1349 (by decide +kernel) rfl, wl_in 1350 (by decide +kernel) rfl, wl_in 1 (by decide +kernel) rfl, k_X7_setTolerance, ⟨⟨by decide +kernel, by decide +kernel⟩, by decide +kernel, by decide⟩⟩
theorem l_L_127 : LkV RL 127 MX7_setBaseRent 1 := ⟨wl_in 1355 (by decide +kernel) rfl, wl_in 1356 (by decide +kernel) rfl, wl_in 1357 (by decide +kernel) rfl, wl_in 1 (by decide +kernel) rfl, k_X7_setBaseRent, ⟨⟨by decide +kernel, by decide +kernel⟩, by decide +kernel, by decide⟩⟩
theorem l_L_130 : LkV RL 130 MX7_restore 1 := ⟨wl_in 1362 (by decide +kernel) rfl, wl_in 1363 (by decide +kernel) rfl, wl_in 1364 (by decide +kernel) rfl, wl_in 1 (by decide +kernel) rfl, k_X7_restore, ⟨⟨by decide +kernel, by decide +kernel⟩, by decide +kernel, by decide⟩⟩
theorem l_L_133 : LkV RL 133 MX7_undo 0 := ⟨wl_in 1375 (by decide +kernel) rfl, wl_in 1376 (by decide +kernel) rfl, wl_in 1377 (by decide +kernel) rfl, wl_in 1 (by decide +kernel) rfl, k_X7_undo, ⟨⟨by decide +kernel, by decide +kernel⟩, by decide +kernel, by decide⟩⟩
theorem l_L_137 : LkV RL 137 MX7_save 1 := ⟨wl_in 1387 (by decide +kernel) rfl, wl_in 1388 (by decide +kernel) rfl, wl_in 1389 (by decide +kernel) rfl, wl_in 1 (by decide +kernel) rfl, k_X7_save, ⟨⟨by decide +kernel, by decide +kernel⟩, by decide +kernel, by decide⟩⟩
theorem l_L_140 : LkV RL 140 MX7_writeLodger 1 := ⟨wl_in 1394 (by decide +kernel) rfl, wl_in 1395 (by decide +kernel) rfl, wl_in 1396 (by decide +kernel) rfl, wl_in 1 (by decide +kernel) rfl, k_X7_writeLodger, ⟨⟨by decide +kernel, by decide +kernel⟩, by decide +kernel, by decide⟩⟩
theorem l_L_143 : LkV RL 143 MX7_writeFloor 1 := ⟨wl_in 1406 (by decide +kernel) rfl, wl_in 1407 (by decide +kernel) rfl, wl_in 1408 (by decide +kernel) rfl, wl_in 1 (by decide +kernel) rfl, k_X7_writeFloor, ⟨⟨by decide +kernel, by decide +kernel⟩, by decide +kernel, by decide⟩⟩
theorem l_L_146 : LkV RL 146 MX7_outputCharacter 1 := ⟨wl_in 1413 (by decide +kernel) rfl, wl_in 1414 (by decide +kernel) rfl, wl_in 1415 (by decide +kernel) rfl, wl_in 1 (by decide +kernel) rfl, k_X7_outputCharacter, ⟨⟨by decide +kernel, by decide +kernel⟩, by decide +kernel, by decide⟩⟩
theorem l_L_150 : LkI RL 150 MX7_init 0 := ⟨wl_in 32 (by decide +kernel) rfl, wl_in 33 (by decide +kernel) rfl, rfl, wl_in 1 (by decide +kernel) rfl, k_X7_init, ⟨⟨by decide +kernel, by decide +kernel⟩, by decide +kernel, by decide⟩, rfl⟩
theorem l_L_153 : LkI RL 153 MX8_init 0 := ⟨wl_in 1430 (by decide +kernel) rfl, wl_in 1431 (by decide +kernel) rfl, rfl, wl_in 28 (by decide +kernel) rfl, k_X8_init, ⟨⟨by decide +kernel, by decide +kernel⟩, by decide +kernel, by decide⟩, rfl⟩
theorem l_L_159 : LkV RL 159 MX8_append 5 := ⟨wl_in 1599 (by decide +kernel) rfl, wl_in 1600 (by decide +kernel) rfl, wl_in 1601 (by decide +kernel) rfl, wl_in 28 (by decide +kernel) rfl, k_X8_append, ⟨⟨by decide +kernel, by decide +kernel⟩, by decide +kernel, by decide⟩⟩
theorem l_L_160 : LkV RL 160 MX8_thrown 0 := ⟨wl_in 1595 (by decide +kernel) rfl, wl_in 1596 (by decide +kernel) rfl, wl_in 1597 (by decide +kernel) rfl, wl_in 28 (by decide +kernel) rfl, k_X8_thrown, ⟨⟨by decide +kernel, by decide +kernel⟩, by decide +kernel, by decide⟩⟩
theorem l_L_166 : LkV RL 166 MX8_load 1 := ⟨wl_in 1615 (by decide +kernel) rfl, wl_in 1616 (by decide +kernel) rfl, wl_in 1617 (by decide +kernel) rfl, wl_in 28 (by decide +kernel) rfl, k_X8_load, ⟨⟨by decide +kernel, by decide +kernel⟩, by decide +kernel, by decide⟩⟩
theorem l_L_167 : LkV RL 167 MX7_errorKind 0 := ⟨wl_in 893 (by decide +kernel) rfl, wl_in 894 (by decide +kernel) rfl, wl_in 895 (by decide +kernel) rfl, wl_in 1 (by decide +kernel) rfl, k_X7_errorKind, ⟨⟨by decide +kernel, by decide +kernel⟩, by decide +kernel, by decide⟩⟩
theorem l_L_170 : LkV RL 170 MX8_errorKind 0 := ⟨wl_in 1712 (by decide +kernel) rfl, wl_in 1713 (by decide +kernel) rfl, wl_in 1714 (by decide +kernel) rfl, wl_in 28 (by decide +kernel) rfl, k_X8_errorKind, ⟨⟨by decide +kernel, by decide +kernel⟩, by decide +kernel, by decide⟩⟩
theorem l_L_171 : LkV RL 171 MX7_errorOffset 0 := ⟨wl_in 897 (by decide +kernel) rfl, wl_in 898 (by decide +kernel) rfl, wl_in 899 (by decide +kernel) rfl, wl_in 1 (by decide +kernel) rfl, k_X7_errorOffset, ⟨⟨by decide +kernel, by decide +kernel⟩, by decide +kernel, by decide⟩⟩
theorem l_L_174 : LkV RL 174 MX8_errorOffset 0 := ⟨wl_in 1716 (by decide +kernel) rfl, wl_in 1717 (by decide +kernel) rfl, wl_in 1718 (by decide +kernel) rfl, wl_in 28 (by decide +kernel) rfl, k_X8_errorOffset, ⟨⟨by decide +kernel, by decide +kernel⟩, by decide +kernel, by decide⟩⟩
theorem l_L_175 : LkV RL 175 MX7_day 0 := ⟨wl_in 901 (by decide +kernel) rfl, wl_in 902 (by decide +kernel) rfl, wl_in 903 (by decide +kernel) rfl, wl_in 1 (by decide +kernel) rfl, k_X7_day, ⟨⟨by decide +kernel, by decide +kernel⟩, by decide +kernel, by decide⟩⟩
theorem l_L_178 : LkV RL 178 MX8_day 0 := ⟨wl_in 1720 (by decide +kernel) rfl, wl_in 1721 (by decide +kernel) rfl, wl_in 1722 (by decide +kernel) rfl, wl_in 28 (by decide +kernel) rfl, k_X8_day, ⟨⟨by decide +kernel, by decide +kernel⟩, by decide +kernel, by decide⟩⟩
theorem l_L_179 : LkV RL 179 MX7_lodgerCount 0 := ⟨wl_in 905 (by decide +kernel) rfl, wl_in 906 (by decide +kernel) rfl, wl_in 907 (by decide +kernel) rfl, wl_in 1 (by decide +kernel) rfl, k_X7_lodgerCount, ⟨⟨by decide +kernel, by decide +kernel⟩, by decide +kernel, by decide⟩⟩
theorem l_L_182 : LkV RL 182 MX8_lodgerCount 0 := ⟨wl_in 1724 (by decide +kernel) rfl, wl_in 1725 (by decide +kernel) rfl, wl_in 1726 (by decide +kernel) rfl, wl_in 28 (by decide +kernel) rfl, k_X8_lodgerCount, ⟨⟨by decide +kernel, by decide +kernel⟩, by decide +kernel, by decide⟩⟩
theorem l_L_183 : LkV RL 183 MX7_baseRent 0 := ⟨wl_in 909 (by decide +kernel) rfl, wl_in 910 (by decide +kernel) rfl, wl_in 911 (by decide +kernel) rfl, wl_in 1 (by decide +kernel) rfl, k_X7_baseRent, ⟨⟨by decide +kernel, by decide +kernel⟩, by decide +kernel, by decide⟩⟩
theorem l_L_186 : LkV RL 186 MX8_baseRent 0 := ⟨wl_in 1728 (by decide +kernel) rfl, wl_in 1729 (by decide +kernel) rfl, wl_in 1730 (by decide +kernel) rfl, wl_in 28 (by decide +kernel) rfl, k_X8_baseRent, ⟨⟨by decide +kernel, by decide +kernel⟩, by decide +kernel, by decide⟩⟩
theorem l_L_187 : LkV RL 187 MX7_tolerance 0 := ⟨wl_in 913 (by decide +kernel) rfl, wl_in 914 (by decide +kernel) rfl, wl_in 915 (by decide +kernel) rfl, wl_in 1 (by decide +kernel) rfl, k_X7_tolerance, ⟨⟨by decide +kernel, by decide +kernel⟩, by decide +kernel, by decide⟩⟩
theorem l_L_190 : LkV RL 190 MX8_tolerance 0 := ⟨wl_in 1732 (by decide +kernel) rfl, wl_in 1733 (by decide +kernel) rfl, wl_in 1734 (by decide +kernel) rfl, wl_in 28 (by decide +kernel) rfl, k_X8_tolerance, ⟨⟨by decide +kernel, by decide +kernel⟩, by decide +kernel, by decide⟩⟩
theorem l_L_193 : LkV RL 193 MX8_rentOf 1 := ⟨wl_in 1736 (by decide +kernel) rfl, wl_in 1737 (by decide +kernel) rfl, wl_in 1738 (by decide +kernel) rfl, wl_in 28 (by decide +kernel) rfl, k_X8_rentOf, ⟨⟨by decide +kernel, by decide +kernel⟩, by decide +kernel, by decide⟩⟩
theorem l_L_196 : LkV RL 196 MX8_landladyVowel 1 := ⟨wl_in 1743 (by decide +kernel) rfl, wl_in 1744 (by decide +kernel) rfl, wl_in 1745 (by decide +kernel) rfl, wl_in 28 (by decide +kernel) rfl, k_X8_landladyVowel, ⟨⟨by decide +kernel, by decide +kernel⟩, by decide +kernel, by decide⟩⟩
theorem l_L_197 : LkV RL 197 MX7_daysToInspection 0 := ⟨wl_in 917 (by decide +kernel) rfl, wl_in 918 (by decide +kernel) rfl, wl_in 919 (by decide +kernel) rfl, wl_in 1 (by decide +kernel) rfl, k_X7_daysToInspection, ⟨⟨by decide +kernel, by decide +kernel⟩, by decide +kernel, by decide⟩⟩
theorem l_L_200 : LkV RL 200 MX8_daysToInspection 0 := ⟨wl_in 1750 (by decide +kernel) rfl, wl_in 1751 (by decide +kernel) rfl, wl_in 1752 (by decide +kernel) rfl, wl_in 28 (by decide +kernel) rfl, k_X8_daysToInspection, ⟨⟨by decide +kernel, by decide +kernel⟩, by decide +kernel, by decide⟩⟩
theorem l_L_201 : LkV RL 201 MX7_evictions 0 := ⟨wl_in 921 (by decide +kernel) rfl, wl_in 922 (by decide +kernel) rfl, wl_in 923 (by decide +kernel) rfl, wl_in 1 (by decide +kernel) rfl, k_X7_evictions, ⟨⟨by decide +kernel, by decide +kernel⟩, by decide +kernel, by decide⟩⟩
theorem l_L_204 : LkV RL 204 MX8_evictions 0 := ⟨wl_in 1758 (by decide +kernel) rfl, wl_in 1759 (by decide +kernel) rfl, wl_in 1760 (by decide +kernel) rfl, wl_in 28 (by decide +kernel) rfl, k_X8_evictions, ⟨⟨by decide +kernel, by decide +kernel⟩, by decide +kernel, by decide⟩⟩
theorem l_L_205 : LkV RL 205 MX7_undoCount 0 := ⟨wl_in 925 (by decide +kernel) rfl, wl_in 926 (by decide +kernel) rfl, wl_in 927 (by decide +kernel) rfl, wl_in 1 (by decide +kernel) rfl, k_X7_undoCount, ⟨⟨by decide +kernel, by decide +kernel⟩, by decide +kernel, by decide⟩⟩
theorem l_L_208 : LkV RL 208 MX8_undoCount 0 := ⟨wl_in 1762 (by decide +kernel) rfl, wl_in 1763 (by decide +kernel) rfl, wl_in 1764 (by decide +kernel) rfl, wl_in 28 (by decide +kernel) rfl, k_X8_undoCount, ⟨⟨by decide +kernel, by decide +kernel⟩, by decide +kernel, by decide⟩⟩
theorem l_L_211 : LkV RL 211 MX8_floorOf 1 := ⟨wl_in 1766 (by decide +kernel) rfl, wl_in 1767 (by decide +kernel) rfl, wl_in 1768 (by decide +kernel) rfl, wl_in 28 (by decide +kernel) rfl, k_X8_floorOf, ⟨⟨by decide +kernel, by decide +kernel⟩, by decide +kernel, by decide⟩⟩
theorem l_L_214 : LkV RL 214 MX8_balanceOf 1 := ⟨wl_in 1778 (by decide +kernel) rfl, wl_in 1779 (by decide +kernel) rfl, wl_in 1780 (by decide +kernel) rfl, wl_in 28 (by decide +kernel) rfl, k_X8_balanceOf, ⟨⟨by decide +kernel, by decide +kernel⟩, by decide +kernel, by decide⟩⟩
theorem l_L_218 : LkV RL 218 MX8_vowelOf 2 := ⟨wl_in 1782 (by decide +kernel) rfl, wl_in 1783 (by decide +kernel) rfl, wl_in 1784 (by decide +kernel) rfl, wl_in 28 (by decide +kernel) rfl, k_X8_vowelOf, ⟨⟨by decide +kernel, by decide +kernel⟩, by decide +kernel, by decide⟩⟩
theorem l_L_221 : LkV RL 221 MX8_lessonsOf 1 := ⟨wl_in 1786 (by decide +kernel) rfl, wl_in 1787 (by decide +kernel) rfl, wl_in 1788 (by decide +kernel) rfl, wl_in 28 (by decide +kernel) rfl, k_X8_lessonsOf, ⟨⟨by decide +kernel, by decide +kernel⟩, by decide +kernel, by decide⟩⟩
theorem l_L_224 : LkV RL 224 MX8_slipsOf 1 := ⟨wl_in 1790 (by decide +kernel) rfl, wl_in 1791 (by decide +kernel) rfl, wl_in 1792 (by decide +kernel) rfl, wl_in 28 (by decide +kernel) rfl, k_X8_slipsOf, ⟨⟨by decide +kernel, by decide +kernel⟩, by decide +kernel, by decide⟩⟩
theorem l_L_227 : LkV RL 227 MX8_daysStayed 1 := ⟨wl_in 1794 (by decide +kernel) rfl, wl_in 1795 (by decide +kernel) rfl, wl_in 1796 (by decide +kernel) rfl, wl_in 28 (by decide +kernel) rfl, k_X8_daysStayed, ⟨⟨by decide +kernel, by decide +kernel⟩, by decide +kernel, by decide⟩⟩
theorem l_L_230 : LkV RL 230 MX8_nameLength 1 := ⟨wl_in 1798 (by decide +kernel) rfl, wl_in 1799 (by decide +kernel) rfl, wl_in 1800 (by decide +kernel) rfl, wl_in 28 (by decide +kernel) rfl, k_X8_nameLength, ⟨⟨by decide +kernel, by decide +kernel⟩, by decide +kernel, by decide⟩⟩
theorem l_L_233 : LkV RL 233 MX8_nameLetter 2 := ⟨wl_in 1806 (by decide +kernel) rfl, wl_in 1807 (by decide +kernel) rfl, wl_in 1808 (by decide +kernel) rfl, wl_in 28 (by decide +kernel) rfl, k_X8_nameLetter, ⟨⟨by decide +kernel, by decide +kernel⟩, by decide +kernel, by decide⟩⟩
theorem l_L_234 : LkV RL 234 MX7_findByName 0 := ⟨wl_in 929 (by decide +kernel) rfl, wl_in 930 (by decide +kernel) rfl, wl_in 931 (by decide +kernel) rfl, wl_in 1 (by decide +kernel) rfl, k_X7_findByName, ⟨⟨by decide +kernel, by decide +kernel⟩, by decide +kernel, by decide⟩⟩
theorem l_L_237 : LkV RL 237 MX8_findByName 0 := ⟨wl_in 1810 (by decide +kernel) rfl, wl_in 1811 (by decide +kernel) rfl, wl_in 1812 (by decide +kernel) rfl, wl_in 28 (by decide +kernel) rfl, k_X8_findByName, ⟨⟨by decide +kernel, by decide +kernel⟩, by decide +kernel, by decide⟩⟩
theorem l_L_240 : LkV RL 240 MX8_lodgersOn 1 := ⟨wl_in 1814 (by decide +kernel) rfl, wl_in 1815 (by decide +kernel) rfl, wl_in 1816 (by decide +kernel) rfl, wl_in 28 (by decide +kernel) rfl, k_X8_lodgersOn, ⟨⟨by decide +kernel, by decide +kernel⟩, by decide +kernel, by decide⟩⟩
theorem l_L_243 : LkV RL 243 MX8_lodgerOn 2 := ⟨wl_in 1818 (by decide +kernel) rfl, wl_in 1819 (by decide +kernel) rfl, wl_in 1820 (by decide +kernel) rfl, wl_in 28 (by decide +kernel) rfl, k_X8_lodgerOn, ⟨⟨by decide +kernel, by decide +kernel⟩, by decide +kernel, by decide⟩⟩
theorem l_L_246 : LkV RL 246 MX8_averageVowel 2 := ⟨wl_in 1822 (by decide +kernel) rfl, wl_in 1823 (by decide +kernel) rfl, wl_in 1824 (by decide +kernel) rfl, wl_in 28 (by decide +kernel) rfl, k_X8_averageVowel, ⟨⟨by decide +kernel, by decide +kernel⟩, by decide +kernel, by decide⟩⟩
theorem l_L_249 : LkV RL 249 MX8_distanceToLandlady 1 := ⟨wl_in 1826 (by decide +kernel) rfl, wl_in 1827 (by decide +kernel) rfl, wl_in 1828 (by decide +kernel) rfl, wl_in 28 (by decide +kernel) rfl, k_X8_distanceToLandlady, ⟨⟨by decide +kernel, by decide +kernel⟩, by decide +kernel, by decide⟩⟩
theorem l_L_252 : LkV RL 252 MX8_distance 2 := ⟨wl_in 1830 (by decide +kernel) rfl, wl_in 1831 (by decide +kernel) rfl, wl_in 1832 (by decide +kernel) rfl, wl_in 28 (by decide +kernel) rfl, k_X8_distance, ⟨⟨by decide +kernel, by decide +kernel⟩, by decide +kernel, by decide⟩⟩
theorem l_L_255 : LkV RL 255 MX8_rhymes 2 := ⟨wl_in 1838 (by decide +kernel) rfl, wl_in 1839 (by decide +kernel) rfl, wl_in 1840 (by decide +kernel) rfl, wl_in 28 (by decide +kernel) rfl, k_X8_rhymes, ⟨⟨by decide +kernel, by decide +kernel⟩, by decide +kernel, by decide⟩⟩
theorem l_L_258 : LkV RL 258 MX8_rhymesWithLandlady 1 := ⟨wl_in 1854 (by decide +kernel) rfl, wl_in 1855 (by decide +kernel) rfl, wl_in 1856 (by decide +kernel) rfl, wl_in 28 (by decide +kernel) rfl, k_X8_rhymesWithLandlady, ⟨⟨by decide +kernel, by decide +kernel⟩, by decide +kernel, by decide⟩⟩
theorem l_L_261 : LkV RL 261 MX8_rhymeCount 1 := ⟨wl_in 1858 (by decide +kernel) rfl, wl_in 1859 (by decide +kernel) rfl, wl_in 1860 (by decide +kernel) rfl, wl_in 28 (by decide +kernel) rfl, k_X8_rhymeCount, ⟨⟨by decide +kernel, by decide +kernel⟩, by decide +kernel, by decide⟩⟩
theorem l_L_264 : LkV RL 264 MX8_closestTo 1 := ⟨wl_in 1862 (by decide +kernel) rfl, wl_in 1863 (by decide +kernel) rfl, wl_in 1864 (by decide +kernel) rfl, wl_in 28 (by decide +kernel) rfl, k_X8_closestTo, ⟨⟨by decide +kernel, by decide +kernel⟩, by decide +kernel, by decide⟩⟩
theorem l_L_267 : LkV RL 267 MX8_lessonVowel 1 := ⟨wl_in 1866 (by decide +kernel) rfl, wl_in 1867 (by decide +kernel) rfl, wl_in 1868 (by decide +kernel) rfl, wl_in 28 (by decide +kernel) rfl, k_X8_lessonVowel, ⟨⟨by decide +kernel, by decide +kernel⟩, by decide +kernel, by decide⟩⟩
theorem l_L_270 : LkV RL 270 MX8_slipVowel 1 := ⟨wl_in 1870 (by decide +kernel) rfl, wl_in 1871 (by decide +kernel) rfl, wl_in 1872 (by decide +kernel) rfl, wl_in 28 (by decide +kernel) rfl, k_X8_slipVowel, ⟨⟨by decide +kernel, by decide +kernel⟩, by decide +kernel, by decide⟩⟩
theorem l_L_273 : LkV RL 273 MX8_mustGo 1 := ⟨wl_in 1874 (by decide +kernel) rfl, wl_in 1875 (by decide +kernel) rfl, wl_in 1876 (by decide +kernel) rfl, wl_in 28 (by decide +kernel) rfl, k_X8_mustGo, ⟨⟨by decide +kernel, by decide +kernel⟩, by decide +kernel, by decide⟩⟩
theorem l_L_274 : LkV RL 274 MX7_meanDistance 0 := ⟨wl_in 934 (by decide +kernel) rfl, wl_in 935 (by decide +kernel) rfl, wl_in 936 (by decide +kernel) rfl, wl_in 1 (by decide +kernel) rfl, k_X7_meanDistance, ⟨⟨by decide +kernel, by decide +kernel⟩, by decide +kernel, by decide⟩⟩
theorem l_L_278 : LkV RL 278 MX8_meanDistance 0 := ⟨wl_in 1878 (by decide +kernel) rfl, wl_in 1879 (by decide +kernel) rfl, wl_in 1880 (by decide +kernel) rfl, wl_in 28 (by decide +kernel) rfl, k_X8_meanDistance, ⟨⟨by decide +kernel, by decide +kernel⟩, by decide +kernel, by decide⟩⟩
theorem l_L_279 : LkV RL 279 MX7_rhymingShare 0 := ⟨wl_in 939 (by decide +kernel) rfl, wl_in 940 (by decide +kernel) rfl, wl_in 941 (by decide +kernel) rfl, wl_in 1 (by decide +kernel) rfl, k_X7_rhymingShare, ⟨⟨by decide +kernel, by decide +kernel⟩, by decide +kernel, by decide⟩⟩
theorem l_L_283 : LkV RL 283 MX8_rhymingShare 0 := ⟨wl_in 1882 (by decide +kernel) rfl, wl_in 1883 (by decide +kernel) rfl, wl_in 1884 (by decide +kernel) rfl, wl_in 28 (by decide +kernel) rfl, k_X8_rhymingShare, ⟨⟨by decide +kernel, by decide +kernel⟩, by decide +kernel, by decide⟩⟩
theorem l_L_286 : LkV RL 286 MX8_balanceAfter 2 := ⟨wl_in 1886 (by decide +kernel) rfl, wl_in 1887 (by decide +kernel) rfl, wl_in 1888 (by decide +kernel) rfl, wl_in 28 (by decide +kernel) rfl, k_X8_balanceAfter, ⟨⟨by decide +kernel, by decide +kernel⟩, by decide +kernel, by decide⟩⟩
theorem l_L_289 : LkV RL 289 MX8_distanceAfter 2 := ⟨wl_in 1894 (by decide +kernel) rfl, wl_in 1895 (by decide +kernel) rfl, wl_in 1896 (by decide +kernel) rfl, wl_in 28 (by decide +kernel) rfl, k_X8_distanceAfter, ⟨⟨by decide +kernel, by decide +kernel⟩, by decide +kernel, by decide⟩⟩
theorem l_L_292 : LkV RL 292 MX8_daysToEviction 1 := ⟨wl_in 1898 (by decide +kernel) rfl, wl_in 1899 (by decide +kernel) rfl, wl_in 1900 (by decide +kernel) rfl, wl_in 28 (by decide +kernel) rfl, k_X8_daysToEviction, ⟨⟨by decide +kernel, by decide +kernel⟩, by decide +kernel, by decide⟩⟩
theorem l_L_295 : LkV RL 295 MX8_paymentToStay 1 := ⟨wl_in 1902 (by decide +kernel) rfl, wl_in 1903 (by decide +kernel) rfl, wl_in 1904 (by decide +kernel) rfl, wl_in 28 (by decide +kernel) rfl, k_X8_paymentToStay, ⟨⟨by decide +kernel, by decide +kernel⟩, by decide +kernel, by decide⟩⟩
theorem l_L_296 : LkV RL 296 MX7_totalPaid 0 := ⟨wl_in 944 (by decide +kernel) rfl, wl_in 945 (by decide +kernel) rfl, wl_in 946 (by decide +kernel) rfl, wl_in 1 (by decide +kernel) rfl, k_X7_totalPaid, ⟨⟨by decide +kernel, by decide +kernel⟩, by decide +kernel, by decide⟩⟩
theorem l_L_299 : LkV RL 299 MX8_totalPaid 0 := ⟨wl_in 1910 (by decide +kernel) rfl, wl_in 1911 (by decide +kernel) rfl, wl_in 1912 (by decide +kernel) rfl, wl_in 28 (by decide +kernel) rfl, k_X8_totalPaid, ⟨⟨by decide +kernel, by decide +kernel⟩, by decide +kernel, by decide⟩⟩
theorem l_L_300 : LkV RL 300 MX7_totalCharged 0 := ⟨wl_in 948 (by decide +kernel) rfl, wl_in 949 (by decide +kernel) rfl, wl_in 950 (by decide +kernel) rfl, wl_in 1 (by decide +kernel) rfl, k_X7_totalCharged, ⟨⟨by decide +kernel, by decide +kernel⟩, by decide +kernel, by decide⟩⟩
theorem l_L_303 : LkV RL 303 MX8_totalCharged 0 := ⟨wl_in 1914 (by decide +kernel) rfl, wl_in 1915 (by decide +kernel) rfl, wl_in 1916 (by decide +kernel) rfl, wl_in 28 (by decide +kernel) rfl, k_X8_totalCharged, ⟨⟨by decide +kernel, by decide +kernel⟩, by decide +kernel, by decide⟩⟩
theorem l_L_304 : LkV RL 304 MX7_settled 0 := ⟨wl_in 952 (by decide +kernel) rfl, wl_in 953 (by decide +kernel) rfl, wl_in 954 (by decide +kernel) rfl, wl_in 1 (by decide +kernel) rfl, k_X7_settled, ⟨⟨by decide +kernel, by decide +kernel⟩, by decide +kernel, by decide⟩⟩
theorem l_L_307 : LkV RL 307 MX8_settled 0 := ⟨wl_in 1918 (by decide +kernel) rfl, wl_in 1919 (by decide +kernel) rfl, wl_in 1920 (by decide +kernel) rfl, wl_in 28 (by decide +kernel) rfl, k_X8_settled, ⟨⟨by decide +kernel, by decide +kernel⟩, by decide +kernel, by decide⟩⟩
theorem l_L_308 : LkV RL 308 MX7_ledgerDifference 0 := ⟨wl_in 956 (by decide +kernel) rfl, wl_in 957 (by decide +kernel) rfl, wl_in 958 (by decide +kernel) rfl, wl_in 1 (by decide +kernel) rfl, k_X7_ledgerDifference, ⟨⟨by decide +kernel, by decide +kernel⟩, by decide +kernel, by decide⟩⟩
theorem l_L_311 : LkV RL 311 MX8_ledgerDifference 0 := ⟨wl_in 1922 (by decide +kernel) rfl, wl_in 1923 (by decide +kernel) rfl, wl_in 1924 (by decide +kernel) rfl, wl_in 28 (by decide +kernel) rfl, k_X8_ledgerDifference, ⟨⟨by decide +kernel, by decide +kernel⟩, by decide +kernel, by decide⟩⟩
theorem l_L_314 : LkV RL 314 MX8_advance 1 := ⟨wl_in 1926 (by decide +kernel) rfl, wl_in 1927 (by decide +kernel) rfl, wl_in 1928 (by decide +kernel) rfl, wl_in 28 (by decide +kernel) rfl, k_X8_advance, ⟨⟨by decide +kernel, by decide +kernel⟩, by decide +kernel, by decide⟩⟩
theorem l_L_318 : LkV RL 318 MX8_moveIn 3 := ⟨wl_in 1934 (by decide +kernel) rfl, wl_in 1935 (by decide +kernel) rfl, wl_in 1936 (by decide +kernel) rfl, wl_in 28 (by decide +kernel) rfl, k_X8_moveIn, ⟨⟨by decide +kernel, by decide +kernel⟩, by decide +kernel, by decide⟩⟩
theorem l_L_321 : LkV RL 321 MX8_moveOut 1 := ⟨wl_in 1943 (by decide +kernel) rfl, wl_in 1944 (by decide +kernel) rfl, wl_in 1945 (by decide +kernel) rfl, wl_in 28 (by decide +kernel) rfl, k_X8_moveOut, ⟨⟨by decide +kernel, by decide +kernel⟩, by decide +kernel, by decide⟩⟩
theorem l_L_324 : LkV RL 324 MX8_moveTo 2 := ⟨wl_in 1947 (by decide +kernel) rfl, wl_in 1948 (by decide +kernel) rfl, wl_in 1949 (by decide +kernel) rfl, wl_in 28 (by decide +kernel) rfl, k_X8_moveTo, ⟨⟨by decide +kernel, by decide +kernel⟩, by decide +kernel, by decide⟩⟩
theorem l_L_327 : LkV RL 327 MX8_pay 2 := ⟨wl_in 1955 (by decide +kernel) rfl, wl_in 1956 (by decide +kernel) rfl, wl_in 1957 (by decide +kernel) rfl, wl_in 28 (by decide +kernel) rfl, k_X8_pay, ⟨⟨by decide +kernel, by decide +kernel⟩, by decide +kernel, by decide⟩⟩
theorem l_L_330 : LkV RL 330 MX8_setLandladyVowel 2 := ⟨wl_in 1959 (by decide +kernel) rfl, wl_in 1960 (by decide +kernel) rfl, wl_in 1961 (by decide +kernel) rfl, wl_in 28 (by decide +kernel) rfl, k_X8_setLandladyVowel, ⟨⟨by decide +kernel, by decide +kernel⟩, by decide +kernel, by decide⟩⟩
theorem l_L_333 : LkV RL 333 MX8_setTolerance 1 := ⟨wl_in 1963 (by decide +kernel) rfl, wl_in 1964 (by decide +kernel) rfl, wl_in 1965 (by decide +kernel) rfl, wl_in 28 (by decide +kernel) rfl, k_X8_setTolerance, ⟨⟨by decide +kernel, by decide +kernel⟩, by decide +kernel, by decide⟩⟩
theorem l_L_336 : LkV RL 336 MX8_setBaseRent 1 := ⟨wl_in 1967 (by decide +kernel) rfl, wl_in 1968 (by decide +kernel) rfl, wl_in 1969 (by decide +kernel) rfl, wl_in 28 (by decide +kernel) rfl, k_X8_setBaseRent, ⟨⟨by decide +kernel, by decide +kernel⟩, by decide +kernel, by decide⟩⟩
theorem l_L_339 : LkV RL 339 MX8_restore 1 := ⟨wl_in 1971 (by decide +kernel) rfl, wl_in 1972 (by decide +kernel) rfl, wl_in 1973 (by decide +kernel) rfl, wl_in 28 (by decide +kernel) rfl, k_X8_restore, ⟨⟨by decide +kernel, by decide +kernel⟩, by decide +kernel, by decide⟩⟩
theorem l_L_343 : LkV RL 343 MX8_undo 0 := ⟨wl_in 1975 (by decide +kernel) rfl, wl_in 1976 (by decide +kernel) rfl, wl_in 1977 (by decide +kernel) rfl, wl_in 28 (by decide +kernel) rfl, k_X8_undo, ⟨⟨by decide +kernel, by decide +kernel⟩, by decide +kernel, by decide⟩⟩
theorem l_L_346 : LkV RL 346 MX8_save 1 := ⟨wl_in 1979 (by decide +kernel) rfl, wl_in 1980 (by decide +kernel) rfl, wl_in 1981 (by decide +kernel) rfl, wl_in 28 (by decide +kernel) rfl, k_X8_save, ⟨⟨by decide +kernel, by decide +kernel⟩, by decide +kernel, by decide⟩⟩
theorem l_L_349 : LkV RL 349 MX8_writeLodger 1 := ⟨wl_in 1983 (by decide +kernel) rfl, wl_in 1984 (by decide +kernel) rfl, wl_in 1985 (by decide +kernel) rfl, wl_in 28 (by decide +kernel) rfl, k_X8_writeLodger, ⟨⟨by decide +kernel, by decide +kernel⟩, by decide +kernel, by decide⟩⟩
theorem l_L_352 : LkV RL 352 MX8_writeFloor 1 := ⟨wl_in 1999 (by decide +kernel) rfl, wl_in 2000 (by decide +kernel) rfl, wl_in 2001 (by decide +kernel) rfl, wl_in 28 (by decide +kernel) rfl, k_X8_writeFloor, ⟨⟨by decide +kernel, by decide +kernel⟩, by decide +kernel, by decide⟩⟩
theorem l_L_355 : LkV RL 355 MX8_outputCharacter 1 := ⟨wl_in 2003 (by decide +kernel) rfl, wl_in 2004 (by decide +kernel) rfl, wl_in 2005 (by decide +kernel) rfl, wl_in 28 (by decide +kernel) rfl, k_X8_outputCharacter, ⟨⟨by decide +kernel, by decide +kernel⟩, by decide +kernel, by decide⟩⟩
theorem l_X8_52 : LkV RX8 52 MX8_comes 3 := ⟨wl_in 1437 (by decide +kernel) rfl, wl_in 1439 (by decide +kernel) rfl, wl_inp 28 (by decide +kernel) rfl, wl_in 28 (by decide +kernel) rfl, k_X8_comes, ⟨⟨by decide +kernel, by decide +kernel⟩, by decide +kernel, by decide⟩⟩
theorem l_X8_56 : LkS RX8 56 MX8_l 1 := ⟨wl_in 1441 (by decide +kernel) rfl, wl_in 1442 (by decide +kernel) rfl, wl_in 28 (by decide +kernel) rfl, k_X8_l, ⟨⟨by decide +kernel, by decide +kernel⟩, by decide +kernel, by decide⟩⟩
theorem l_X8_60 : LkV RX8 60 MX8_passesDay 0 := ⟨wl_in 1444 (by decide +kernel) rfl, wl_in 1446 (by decide +kernel) rfl, wl_inp 29 (by decide +kernel) rfl, wl_in 28 (by decide +kernel) rfl, k_X8_passesDay, ⟨⟨by decide +kernel, by decide +kernel⟩, by decide +kernel, by decide⟩⟩
theorem l_X8_66 : LkS RX8 66 MX8_in 3 := ⟨wl_in 1619 (by decide +kernel) rfl, wl_in 1620 (by decide +kernel) rfl, wl_in 28 (by decide +kernel) rfl, k_X8_in, ⟨⟨by decide +kernel, by decide +kernel⟩, by decide +kernel, by decide⟩⟩
theorem l_X8_73 : LkV RX8 73 MX8_at 2 := ⟨wl_in 1464 (by decide +kernel) rfl, wl_in 1466 (by decide +kernel) rfl, wl_inp 34 (by decide +kernel) rfl, wl_in 28 (by decide +kernel) rfl, k_X8_at, ⟨⟨by decide +kernel, by decide +kernel⟩, by decide +kernel, by decide⟩⟩
theorem l_X8_77 : LkS RX8 77 MX8_without 1 := ⟨wl_in 1468 (by decide +kernel) rfl, wl_in 1469 (by decide +kernel) rfl, wl_in 28 (by decide +kernel) rfl, k_X8_without, ⟨⟨by decide +kernel, by decide +kernel⟩, by decide +kernel, by decide⟩⟩
theorem l_X8_80 : LkV RX8 80 MX8_livingOn 2 := ⟨wl_in 1479 (by decide +kernel) rfl, wl_in 1481 (by decide +kernel) rfl, wl_inp 37 (by decide +kernel) rfl, wl_in 28 (by decide +kernel) rfl, k_X8_livingOn, ⟨⟨by decide +kernel, by decide +kernel⟩, by decide +kernel, by decide⟩⟩
theorem l_X8_83 : LkV RX8 83 MX8_averageAt 2 := ⟨wl_in 1483 (by decide +kernel) rfl, wl_in 1485 (by decide +kernel) rfl, wl_inp 38 (by decide +kernel) rfl, wl_in 28 (by decide +kernel) rfl, k_X8_averageAt, ⟨⟨by decide +kernel, by decide +kernel⟩, by decide +kernel, by decide⟩⟩
theorem l_X8_86 : LkV RX8 86 MX8_toLandlady 1 := ⟨wl_in 1503 (by decide +kernel) rfl, wl_in 1505 (by decide +kernel) rfl, wl_inp 43 (by decide +kernel) rfl, wl_in 28 (by decide +kernel) rfl, k_X8_toLandlady, ⟨⟨by decide +kernel, by decide +kernel⟩, by decide +kernel, by decide⟩⟩
theorem l_X8_89 : LkV RX8 89 MX8_rhymesHer 1 := ⟨wl_in 1507 (by decide +kernel) rfl, wl_in 1509 (by decide +kernel) rfl, wl_inp 44 (by decide +kernel) rfl, wl_in 28 (by decide +kernel) rfl, k_X8_rhymesHer, ⟨⟨by decide +kernel, by decide +kernel⟩, by decide +kernel, by decide⟩⟩
theorem l_X8_93 : LkV RX8 93 MX8_rentAt 1 := ⟨wl_in 1452 (by decide +kernel) rfl, wl_in 1454 (by decide +kernel) rfl, wl_inp 31 (by decide +kernel) rfl, wl_in 28 (by decide +kernel) rfl, k_X8_rentAt, ⟨⟨by decide +kernel, by decide +kernel⟩, by decide +kernel, by decide⟩⟩
theorem l_X8_96 : LkV RX8 96 MX8_lessonFor 1 := ⟨wl_in 1460 (by decide +kernel) rfl, wl_in 1462 (by decide +kernel) rfl, wl_inp 33 (by decide +kernel) rfl, wl_in 28 (by decide +kernel) rfl, k_X8_lessonFor, ⟨⟨by decide +kernel, by decide +kernel⟩, by decide +kernel, by decide⟩⟩
theorem l_X8_99 : LkV RX8 99 MX8_moves 3 := ⟨wl_in 1471 (by decide +kernel) rfl, wl_in 1473 (by decide +kernel) rfl, wl_inp 35 (by decide +kernel) rfl, wl_in 28 (by decide +kernel) rfl, k_X8_moves, ⟨⟨by decide +kernel, by decide +kernel⟩, by decide +kernel, by decide⟩⟩
theorem l_X8_102 : LkV RX8 102 MX8_slipFor 1 := ⟨wl_in 1491 (by decide +kernel) rfl, wl_in 1493 (by decide +kernel) rfl, wl_inp 40 (by decide +kernel) rfl, wl_in 28 (by decide +kernel) rfl, k_X8_slipFor, ⟨⟨by decide +kernel, by decide +kernel⟩, by decide +kernel, by decide⟩⟩
theorem l_X8_105 : LkV RX8 105 MX8_hasToGo 1 := ⟨wl_in 1499 (by decide +kernel) rfl, wl_in 1501 (by decide +kernel) rfl, wl_inp 42 (by decide +kernel) rfl, wl_in 28 (by decide +kernel) rfl, k_X8_hasToGo, ⟨⟨by decide +kernel, by decide +kernel⟩, by decide +kernel, by decide⟩⟩
theorem l_X8_108 : LkV RX8 108 MX8_goes 1 := ⟨wl_in 1511 (by decide +kernel) rfl, wl_in 1513 (by decide +kernel) rfl, wl_inp 45 (by decide +kernel) rfl, wl_in 28 (by decide +kernel) rfl, k_X8_goes, ⟨⟨by decide +kernel, by decide +kernel⟩, by decide +kernel, by decide⟩⟩
theorem l_X8_112 : LkV RX8 112 MX8_charges 1 := ⟨wl_in 1448 (by decide +kernel) rfl, wl_in 1450 (by decide +kernel) rfl, wl_inp 30 (by decide +kernel) rfl, wl_in 28 (by decide +kernel) rfl, k_X8_charges, ⟨⟨by decide +kernel, by decide +kernel⟩, by decide +kernel, by decide⟩⟩
theorem l_X8_115 : LkV RX8 115 MX8_teaches 1 := ⟨wl_in 1456 (by decide +kernel) rfl, wl_in 1458 (by decide +kernel) rfl, wl_inp 32 (by decide +kernel) rfl, wl_in 28 (by decide +kernel) rfl, k_X8_teaches, ⟨⟨by decide +kernel, by decide +kernel⟩, by decide +kernel, by decide⟩⟩
theorem l_X8_118 : LkV RX8 118 MX8_averagesNow 0 := ⟨wl_in 1475 (by decide +kernel) rfl, wl_in 1477 (by decide +kernel) rfl, wl_inp 36 (by decide +kernel) rfl, wl_in 28 (by decide +kernel) rfl, k_X8_averagesNow, ⟨⟨by decide +kernel, by decide +kernel⟩, by decide +kernel, by decide⟩⟩
theorem l_X8_121 : LkV RX8 121 MX8_dines 1 := ⟨wl_in 1487 (by decide +kernel) rfl, wl_in 1489 (by decide +kernel) rfl, wl_inp 39 (by decide +kernel) rfl, wl_in 28 (by decide +kernel) rfl, k_X8_dines, ⟨⟨by decide +kernel, by decide +kernel⟩, by decide +kernel, by decide⟩⟩
theorem l_X8_124 : LkV RX8 124 MX8_inspects 0 := ⟨wl_in 1495 (by decide +kernel) rfl, wl_in 1497 (by decide +kernel) rfl, wl_inp 41 (by decide +kernel) rfl, wl_in 28 (by decide +kernel) rfl, k_X8_inspects, ⟨⟨by decide +kernel, by decide +kernel⟩, by decide +kernel, by decide⟩⟩
theorem l_X8_142 : LkS RX8 142 MX8_isLetter 1 := ⟨wl_in 1634 (by decide +kernel) rfl, wl_in 1635 (by decide +kernel) rfl, wl_in 28 (by decide +kernel) rfl, k_X8_isLetter, ⟨⟨by decide +kernel, by decide +kernel⟩, by decide +kernel, by decide⟩⟩
theorem l_X8_145 : LkS RX8 145 MX8_isDigit 1 := ⟨wl_in 1637 (by decide +kernel) rfl, wl_in 1638 (by decide +kernel) rfl, wl_in 28 (by decide +kernel) rfl, k_X8_isDigit, ⟨⟨by decide +kernel, by decide +kernel⟩, by decide +kernel, by decide⟩⟩
theorem l_X8_157 : LkV RX8 157 MX8_next 0 := ⟨wl_in 1630 (by decide +kernel) rfl, wl_in 1632 (by decide +kernel) rfl, wl_inp 51 (by decide +kernel) rfl, wl_in 28 (by decide +kernel) rfl, k_X8_next, ⟨⟨by decide +kernel, by decide +kernel⟩, by decide +kernel, by decide⟩⟩
theorem l_X8_160 : LkV RX8 160 MX8_errs 1 := ⟨wl_in 1648 (by decide +kernel) rfl, wl_in 1650 (by decide +kernel) rfl, wl_inp 54 (by decide +kernel) rfl, wl_in 28 (by decide +kernel) rfl, k_X8_errs, ⟨⟨by decide +kernel, by decide +kernel⟩, by decide +kernel, by decide⟩⟩
theorem l_X8_163 : LkV RX8 163 MX8_here 2 := ⟨wl_in 1660 (by decide +kernel) rfl, wl_in 1662 (by decide +kernel) rfl, wl_inp 57 (by decide +kernel) rfl, wl_in 28 (by decide +kernel) rfl, k_X8_here, ⟨⟨by decide +kernel, by decide +kernel⟩, by decide +kernel, by decide⟩⟩
theorem l_X8_166 : LkV RX8 166 MX8_goesOn 0 := ⟨wl_in 1652 (by decide +kernel) rfl, wl_in 1654 (by decide +kernel) rfl, wl_inp 55 (by decide +kernel) rfl, wl_in 28 (by decide +kernel) rfl, k_X8_goesOn, ⟨⟨by decide +kernel, by decide +kernel⟩, by decide +kernel, by decide⟩⟩
theorem l_X8_169 : LkV RX8 169 MX8_isKey 1 := ⟨wl_in 1644 (by decide +kernel) rfl, wl_in 1646 (by decide +kernel) rfl, wl_inp 53 (by decide +kernel) rfl, wl_in 28 (by decide +kernel) rfl, k_X8_isKey, ⟨⟨by decide +kernel, by decide +kernel⟩, by decide +kernel, by decide⟩⟩
theorem l_X8_172 : LkV RX8 172 MX8_takesNumber 2 := ⟨wl_in 1656 (by decide +kernel) rfl, wl_in 1658 (by decide +kernel) rfl, wl_inp 56 (by decide +kernel) rfl, wl_in 28 (by decide +kernel) rfl, k_X8_takesNumber, ⟨⟨by decide +kernel, by decide +kernel⟩, by decide +kernel, by decide⟩⟩
theorem l_X8_175 : LkV RX8 175 MX8_isName 0 := ⟨wl_in 1676 (by decide +kernel) rfl, wl_in 1678 (by decide +kernel) rfl, wl_inp 61 (by decide +kernel) rfl, wl_in 28 (by decide +kernel) rfl, k_X8_isName, ⟨⟨by decide +kernel, by decide +kernel⟩, by decide +kernel, by decide⟩⟩
theorem l_X8_178 : LkV RX8 178 MX8_lodgerNamed 2 := ⟨wl_in 1680 (by decide +kernel) rfl, wl_in 1682 (by decide +kernel) rfl, wl_inp 62 (by decide +kernel) rfl, wl_in 28 (by decide +kernel) rfl, k_X8_lodgerNamed, ⟨⟨by decide +kernel, by decide +kernel⟩, by decide +kernel, by decide⟩⟩
theorem l_X8_181 : LkV RX8 181 MX8_takesAccent 0 := ⟨wl_in 1684 (by decide +kernel) rfl, wl_in 1686 (by decide +kernel) rfl, wl_inp 63 (by decide +kernel) rfl, wl_in 28 (by decide +kernel) rfl, k_X8_takesAccent, ⟨⟨by decide +kernel, by decide +kernel⟩, by decide +kernel, by decide⟩⟩
theorem l_X8_185 : LkV RX8 185 MX8_takesLodger 0 := ⟨wl_in 1692 (by decide +kernel) rfl, wl_in 1694 (by decide +kernel) rfl, wl_inp 65 (by decide +kernel) rfl, wl_in 28 (by decide +kernel) rfl, k_X8_takesLodger, ⟨⟨by decide +kernel, by decide +kernel⟩, by decide +kernel, by decide⟩⟩
theorem l_X8_188 : LkV RX8 188 MX8_pays 2 := ⟨wl_in 1696 (by decide +kernel) rfl, wl_in 1698 (by decide +kernel) rfl, wl_inp 66 (by decide +kernel) rfl, wl_in 28 (by decide +kernel) rfl, k_X8_pays, ⟨⟨by decide +kernel, by decide +kernel⟩, by decide +kernel, by decide⟩⟩
theorem l_X8_192 : LkV RX8 192 MX8_readsLodger 0 := ⟨wl_in 1672 (by decide +kernel) rfl, wl_in 1674 (by decide +kernel) rfl, wl_inp 60 (by decide +kernel) rfl, wl_in 28 (by decide +kernel) rfl, k_X8_readsLodger, ⟨⟨by decide +kernel, by decide +kernel⟩, by decide +kernel, by decide⟩⟩
theorem l_X8_195 : LkV RX8 195 MX8_readsPay 0 := ⟨wl_in 1688 (by decide +kernel) rfl, wl_in 1690 (by decide +kernel) rfl, wl_inp 64 (by decide +kernel) rfl, wl_in 28 (by decide +kernel) rfl, k_X8_readsPay, ⟨⟨by decide +kernel, by decide +kernel⟩, by decide +kernel, by decide⟩⟩
theorem l_X8_198 : LkV RX8 198 MX8_readsMove 0 := ⟨wl_in 1700 (by decide +kernel) rfl, wl_in 1702 (by decide +kernel) rfl, wl_inp 67 (by decide +kernel) rfl, wl_in 28 (by decide +kernel) rfl, k_X8_readsMove, ⟨⟨by decide +kernel, by decide +kernel⟩, by decide +kernel, by decide⟩⟩
theorem l_X8_201 : LkV RX8 201 MX8_passes 1 := ⟨wl_in 1704 (by decide +kernel) rfl, wl_in 1706 (by decide +kernel) rfl, wl_inp 68 (by decide +kernel) rfl, wl_in 28 (by decide +kernel) rfl, k_X8_passes, ⟨⟨by decide +kernel, by decide +kernel⟩, by decide +kernel, by decide⟩⟩
theorem l_X8_204 : LkV RX8 204 MX8_takesWord 1 := ⟨wl_in 1640 (by decide +kernel) rfl, wl_in 1642 (by decide +kernel) rfl, wl_inp 52 (by decide +kernel) rfl, wl_in 28 (by decide +kernel) rfl, k_X8_takesWord, ⟨⟨by decide +kernel, by decide +kernel⟩, by decide +kernel, by decide⟩⟩
theorem l_X8_207 : LkV RX8 207 MX8_takesSemicolon 0 := ⟨wl_in 1664 (by decide +kernel) rfl, wl_in 1666 (by decide +kernel) rfl, wl_inp 58 (by decide +kernel) rfl, wl_in 28 (by decide +kernel) rfl, k_X8_takesSemicolon, ⟨⟨by decide +kernel, by decide +kernel⟩, by decide +kernel, by decide⟩⟩
theorem l_X8_210 : LkV RX8 210 MX8_readsLine 0 := ⟨wl_in 1668 (by decide +kernel) rfl, wl_in 1670 (by decide +kernel) rfl, wl_inp 59 (by decide +kernel) rfl, wl_in 28 (by decide +kernel) rfl, k_X8_readsLine, ⟨⟨by decide +kernel, by decide +kernel⟩, by decide +kernel, by decide⟩⟩
theorem l_X8_216 : LkV RX8 216 MX8_refuse 1 := ⟨wl_in 1603 (by decide +kernel) rfl, wl_in 1605 (by decide +kernel) rfl, wl_inp 46 (by decide +kernel) rfl, wl_in 28 (by decide +kernel) rfl, k_X8_refuse, ⟨⟨by decide +kernel, by decide +kernel⟩, by decide +kernel, by decide⟩⟩
theorem l_X8_219 : LkV RX8 219 MX8_feeds 1 := ⟨wl_in 1607 (by decide +kernel) rfl, wl_in 1609 (by decide +kernel) rfl, wl_inp 47 (by decide +kernel) rfl, wl_in 28 (by decide +kernel) rfl, k_X8_feeds, ⟨⟨by decide +kernel, by decide +kernel⟩, by decide +kernel, by decide⟩⟩
theorem l_X8_222 : LkV RX8 222 MX8_told 1 := ⟨wl_in 1611 (by decide +kernel) rfl, wl_in 1613 (by decide +kernel) rfl, wl_inp 48 (by decide +kernel) rfl, wl_in 28 (by decide +kernel) rfl, k_X8_told, ⟨⟨by decide +kernel, by decide +kernel⟩, by decide +kernel, by decide⟩⟩
theorem l_X8_225 : LkV RX8 225 MX8_putsAside 0 := ⟨wl_in 1622 (by decide +kernel) rfl, wl_in 1624 (by decide +kernel) rfl, wl_inp 49 (by decide +kernel) rfl, wl_in 28 (by decide +kernel) rfl, k_X8_putsAside, ⟨⟨by decide +kernel, by decide +kernel⟩, by decide +kernel, by decide⟩⟩
theorem l_X8_228 : LkV RX8 228 MX8_readsText 1 := ⟨wl_in 1626 (by decide +kernel) rfl, wl_in 1628 (by decide +kernel) rfl, wl_inp 50 (by decide +kernel) rfl, wl_in 28 (by decide +kernel) rfl, k_X8_readsText, ⟨⟨by decide +kernel, by decide +kernel⟩, by decide +kernel, by decide⟩⟩
theorem l_X8_234 : LkV RX8 234 MX8_putsBack 0 := ⟨wl_in 1708 (by decide +kernel) rfl, wl_in 1710 (by decide +kernel) rfl, wl_inp 69 (by decide +kernel) rfl, wl_in 28 (by decide +kernel) rfl, k_X8_putsBack, ⟨⟨by decide +kernel, by decide +kernel⟩, by decide +kernel, by decide⟩⟩
theorem l_X8_240 : LkS RX8 240 MX8_isFloor 1 := ⟨wl_in 1740 (by decide +kernel) rfl, wl_in 1741 (by decide +kernel) rfl, wl_in 28 (by decide +kernel) rfl, k_X8_isFloor, ⟨⟨by decide +kernel, by decide +kernel⟩, by decide +kernel, by decide⟩⟩
theorem l_X8_243 : LkS RX8 243 MX8_isVowel 1 := ⟨wl_in 1747 (by decide +kernel) rfl, wl_in 1748 (by decide +kernel) rfl, wl_in 28 (by decide +kernel) rfl, k_X8_isVowel, ⟨⟨by decide +kernel, by decide +kernel⟩, by decide +kernel, by decide⟩⟩
theorem l_X8_246 : LkV RX8 246 MX8_daysLeft 0 := ⟨wl_in 1754 (by decide +kernel) rfl, wl_in 1756 (by decide +kernel) rfl, wl_inp 70 (by decide +kernel) rfl, wl_in 28 (by decide +kernel) rfl, k_X8_daysLeft, ⟨⟨by decide +kernel, by decide +kernel⟩, by decide +kernel, by decide⟩⟩
theorem l_X8_249 : LkV RX8 249 MX8_isLodger 1 := ⟨wl_in 1774 (by decide +kernel) rfl, wl_in 1776 (by decide +kernel) rfl, wl_inp 72 (by decide +kernel) rfl, wl_in 28 (by decide +kernel) rfl, k_X8_isLodger, ⟨⟨by decide +kernel, by decide +kernel⟩, by decide +kernel, by decide⟩⟩
theorem l_X8_252 : LkV RX8 252 MX8_ofLodger 2 := ⟨wl_in 1770 (by decide +kernel) rfl, wl_in 1772 (by decide +kernel) rfl, wl_inp 71 (by decide +kernel) rfl, wl_in 28 (by decide +kernel) rfl, k_X8_ofLodger, ⟨⟨by decide +kernel, by decide +kernel⟩, by decide +kernel, by decide⟩⟩
theorem l_X8_255 : LkV RX8 255 MX8_lettersOf 1 := ⟨wl_in 1802 (by decide +kernel) rfl, wl_in 1804 (by decide +kernel) rfl, wl_inp 73 (by decide +kernel) rfl, wl_in 28 (by decide +kernel) rfl, k_X8_lettersOf, ⟨⟨by decide +kernel, by decide +kernel⟩, by decide +kernel, by decide⟩⟩
theorem l_X8_258 : LkV RX8 258 MX8_between 2 := ⟨wl_in 1834 (by decide +kernel) rfl, wl_in 1836 (by decide +kernel) rfl, wl_inp 74 (by decide +kernel) rfl, wl_in 28 (by decide +kernel) rfl, k_X8_between, ⟨⟨by decide +kernel, by decide +kernel⟩, by decide +kernel, by decide⟩⟩
theorem l_X8_261 : LkV RX8 261 MX8_rhyme 2 := ⟨wl_in 1842 (by decide +kernel) rfl, wl_in 1844 (by decide +kernel) rfl, wl_inp 75 (by decide +kernel) rfl, wl_in 28 (by decide +kernel) rfl, k_X8_rhyme, ⟨⟨by decide +kernel, by decide +kernel⟩, by decide +kernel, by decide⟩⟩
theorem l_X8_265 : LkV RX8 265 MX8_says 1 := ⟨wl_in 1846 (by decide +kernel) rfl, wl_in 1848 (by decide +kernel) rfl, wl_inp 76 (by decide +kernel) rfl, wl_in 28 (by decide +kernel) rfl, k_X8_says, ⟨⟨by decide +kernel, by decide +kernel⟩, by decide +kernel, by decide⟩⟩
theorem l_X8_269 : LkV RX8 269 MX8_refuses 0 := ⟨wl_in 1850 (by decide +kernel) rfl, wl_in 1852 (by decide +kernel) rfl, wl_inp 77 (by decide +kernel) rfl, wl_in 28 (by decide +kernel) rfl, k_X8_refuses, ⟨⟨by decide +kernel, by decide +kernel⟩, by decide +kernel, by decide⟩⟩
theorem l_X8_273 : LkV RX8 273 MX8_tracks 1 := ⟨wl_in 1890 (by decide +kernel) rfl, wl_in 1892 (by decide +kernel) rfl, wl_inp 78 (by decide +kernel) rfl, wl_in 28 (by decide +kernel) rfl, k_X8_tracks, ⟨⟨by decide +kernel, by decide +kernel⟩, by decide +kernel, by decide⟩⟩
theorem l_X8_276 : LkV RX8 276 MX8_staysWith 2 := ⟨wl_in 1906 (by decide +kernel) rfl, wl_in 1908 (by decide +kernel) rfl, wl_inp 79 (by decide +kernel) rfl, wl_in 28 (by decide +kernel) rfl, k_X8_staysWith, ⟨⟨by decide +kernel, by decide +kernel⟩, by decide +kernel, by decide⟩⟩
theorem l_X8_279 : LkV RX8 279 MX8_remembers 0 := ⟨wl_in 1930 (by decide +kernel) rfl, wl_in 1932 (by decide +kernel) rfl, wl_inp 80 (by decide +kernel) rfl, wl_in 28 (by decide +kernel) rfl, k_X8_remembers, ⟨⟨by decide +kernel, by decide +kernel⟩, by decide +kernel, by decide⟩⟩
theorem l_X8_283 : LkV RX8 283 MX8_isTakenLetter 1 := ⟨wl_in 1939 (by decide +kernel) rfl, wl_in 1941 (by decide +kernel) rfl, wl_inp 81 (by decide +kernel) rfl, wl_in 28 (by decide +kernel) rfl, k_X8_isTakenLetter, ⟨⟨by decide +kernel, by decide +kernel⟩, by decide +kernel, by decide⟩⟩
theorem l_X8_286 : LkV RX8 286 MX8_sets 2 := ⟨wl_in 1951 (by decide +kernel) rfl, wl_in 1953 (by decide +kernel) rfl, wl_inp 82 (by decide +kernel) rfl, wl_in 28 (by decide +kernel) rfl, k_X8_sets, ⟨⟨by decide +kernel, by decide +kernel⟩, by decide +kernel, by decide⟩⟩
theorem l_X8_292 : LkV RX8 292 MX8_writes 1 := ⟨wl_in 1991 (by decide +kernel) rfl, wl_in 1993 (by decide +kernel) rfl, wl_inp 84 (by decide +kernel) rfl, wl_in 28 (by decide +kernel) rfl, k_X8_writes, ⟨⟨by decide +kernel, by decide +kernel⟩, by decide +kernel, by decide⟩⟩
theorem l_X8_295 : LkV RX8 295 MX8_writesName 1 := ⟨wl_in 1987 (by decide +kernel) rfl, wl_in 1989 (by decide +kernel) rfl, wl_inp 83 (by decide +kernel) rfl, wl_in 28 (by decide +kernel) rfl, k_X8_writesName, ⟨⟨by decide +kernel, by decide +kernel⟩, by decide +kernel, by decide⟩⟩
theorem l_X8_298 : LkV RX8 298 MX8_writesNumber 1 := ⟨wl_in 1995 (by decide +kernel) rfl, wl_in 1997 (by decide +kernel) rfl, wl_inp 85 (by decide +kernel) rfl, wl_in 28 (by decide +kernel) rfl, k_X8_writesNumber, ⟨⟨by decide +kernel, by decide +kernel⟩, by decide +kernel, by decide⟩⟩
theorem l_J5_26 : LkS RJ5 26 MJ2_newBytesFor_77867 1 := ⟨wl_in 49 (by decide +kernel) rfl, wl_in 50 (by decide +kernel) rfl, wl_in 5 (by decide +kernel) rfl, k_J2_newBytesFor_77867, ⟨⟨by decide +kernel, by decide +kernel⟩, by decide +kernel, by decide⟩⟩
theorem l_J5_32 : LkV RJ5 32 MJ0_length_8abf5 0 := ⟨wl_in 492 (by decide +kernel) rfl, wl_in 266 (by decide +kernel) rfl, wl_in 267 (by decide +kernel) rfl, wl_in 4 (by decide +kernel) rfl, k_J0_length_8abf5, ⟨⟨by decide +kernel, by decide +kernel⟩, by decide +kernel, by decide⟩⟩
theorem l_J5_40 : LkV RJ5 40 MJ0_coder_7d493 0 := ⟨wl_in 501 (by decide +kernel) rfl, wl_in 270 (by decide +kernel) rfl, wl_in 271 (by decide +kernel) rfl, wl_in 4 (by decide +kernel) rfl, k_J0_coder_7d493, ⟨⟨by decide +kernel, by decide +kernel⟩, by decide +kernel, by decide⟩⟩
theorem l_J5_108 : LkS RJ5 108 MJ7_copyOf_9075b 2 := ⟨wl_in 458 (by decide +kernel) rfl, wl_in 459 (by decide +kernel) rfl, wl_in 23 (by decide +kernel) rfl, k_J7_copyOf_9075b, ⟨⟨by decide +kernel, by decide +kernel⟩, by decide +kernel, by decide⟩⟩
theorem l_J5_114 : LkS RJ5 114 MJ8_newLength_cabcc 3 := ⟨wl_in 447 (by decide +kernel) rfl, wl_in 448 (by decide +kernel) rfl, wl_in 22 (by decide +kernel) rfl, k_J8_newLength_cabcc, ⟨⟨by decide +kernel, by decide +kernel⟩, by decide +kernel, by decide⟩⟩
theorem l_J5_125 : LkS RJ5 125 MJ1_inflate_0e8fd 5 := ⟨wl_in 506 (by decide +kernel) rfl, wl_in 507 (by decide +kernel) rfl, wl_in 14 (by decide +kernel) rfl, k_J1_inflate_0e8fd, ⟨⟨by decide +kernel, by decide +kernel⟩, by decide +kernel, by decide⟩⟩
theorem l_J5_131 : LkI RJ5 131 MJx7c733_init_d00df 1 := ⟨wl_in 422 (by decide +kernel) rfl, wl_in 423 (by decide +kernel) rfl, rfl, wl_in 21 (by decide +kernel) rfl, k_Jx7c733_init_d00df, ⟨⟨by decide +kernel, by decide +kernel⟩, by decide +kernel, by decide⟩, rfl⟩
theorem l_J5_133 : LkS RJ5 133 MJ1_fillNull_b72d1 3 := ⟨wl_in 695 (by decide +kernel) rfl, wl_in 696 (by decide +kernel) rfl, wl_in 14 (by decide +kernel) rfl, k_J1_fillNull_b72d1, ⟨⟨by decide +kernel, by decide +kernel⟩, by decide +kernel, by decide⟩⟩
theorem l_J5_137 : LkS RJ5 137 MJ2_fillNull_b72d1 3 := ⟨wl_in 730 (by decide +kernel) rfl, wl_in 731 (by decide +kernel) rfl, wl_in 5 (by decide +kernel) rfl, k_J2_fillNull_b72d1, ⟨⟨by decide +kernel, by decide +kernel⟩, by decide +kernel, by decide⟩⟩
theorem l_J5_138 : LkS RJ5 138 MJ9_min_7cf53 2 := ⟨wl_in 1425 (by decide +kernel) rfl, wl_in 321 (by decide +kernel) rfl, wl_in 16 (by decide +kernel) rfl, k_J9_min_7cf53, ⟨⟨by decide +kernel, by decide +kernel⟩, by decide +kernel, by decide⟩⟩
theorem l_J5_144 : LkS RJ5 144 MJ0_checkIndex_df160 2 := ⟨wl_in 1426 (by decide +kernel) rfl, wl_in 286 (by decide +kernel) rfl, wl_in 4 (by decide +kernel) rfl, k_J0_checkIndex_df160, ⟨⟨by decide +kernel, by decide +kernel⟩, by decide +kernel, by decide⟩⟩
theorem l_J5_148 : LkS RJ5 148 MJ2_getChar_3b067 2 := ⟨wl_in 1427 (by decide +kernel) rfl, wl_in 304 (by decide +kernel) rfl, wl_in 5 (by decide +kernel) rfl, k_J2_getChar_3b067, ⟨⟨by decide +kernel, by decide +kernel⟩, by decide +kernel, by decide⟩⟩
theorem l_J5_191 : LkS RJ5 191 MJ1_canEncode_fc78d 1 := ⟨wl_in 741 (by decide +kernel) rfl, wl_in 742 (by decide +kernel) rfl, wl_in 14 (by decide +kernel) rfl, k_J1_canEncode_fc78d, ⟨⟨by decide +kernel, by decide +kernel⟩, by decide +kernel, by decide⟩⟩
theorem l_J5_197 : LkS RJ5 197 MJ2_putCharSB_b72d1 3 := ⟨wl_in 744 (by decide +kernel) rfl, wl_in 745 (by decide +kernel) rfl, wl_in 5 (by decide +kernel) rfl, k_J2_putCharSB_b72d1, ⟨⟨by decide +kernel, by decide +kernel⟩, by decide +kernel, by decide⟩⟩
theorem l_J5_226 : LkS RJ5 226 MJ2_putCharsAt_cd4e5 6 := ⟨wl_in 477 (by decide +kernel) rfl, wl_in 478 (by decide +kernel) rfl, wl_in 5 (by decide +kernel) rfl, k_J2_putCharsAt_cd4e5, ⟨⟨by decide +kernel, by decide +kernel⟩, by decide +kernel, by decide⟩⟩
theorem l_J5_245 : LkS RJ5 245 MJ6_stringSize_0f7a4 1 := ⟨wl_in 534 (by decide +kernel) rfl, wl_in 535 (by decide +kernel) rfl, wl_in 25 (by decide +kernel) rfl, k_J6_stringSize_0f7a4, ⟨⟨by decide +kernel, by decide +kernel⟩, by decide +kernel, by decide⟩⟩
theorem l_J5_248 : LkS RJ5 248 MJ6_getChars_ba4f3 3 := ⟨wl_in 537 (by decide +kernel) rfl, wl_in 538 (by decide +kernel) rfl, wl_in 25 (by decide +kernel) rfl, k_J6_getChars_ba4f3, ⟨⟨by decide +kernel, by decide +kernel⟩, by decide +kernel, by decide⟩⟩
theorem l_J5_251 : LkS RJ5 251 MJ2_getChars_46870 4 := ⟨wl_in 544 (by decide +kernel) rfl, wl_in 545 (by decide +kernel) rfl, wl_in 5 (by decide +kernel) rfl, k_J2_getChars_46870, ⟨⟨by decide +kernel, by decide +kernel⟩, by decide +kernel, by decide⟩⟩
theorem l_J5_399 : LkV RJ5 399 MJ0_getBytes_840e7 3 := ⟨wl_in 521 (by decide +kernel) rfl, wl_in 522 (by decide +kernel) rfl, wl_in 523 (by decide +kernel) rfl, wl_in 4 (by decide +kernel) rfl, k_J0_getBytes_840e7, ⟨⟨by decide +kernel, by decide +kernel⟩, by decide +kernel, by decide⟩⟩
theorem l_Jx00060_12 : LkI RJx00060 12 MJ4_init_da8c8 0 := ⟨wl_in 722 (by decide +kernel) rfl, wl_in 41 (by decide +kernel) rfl, rfl, wl_in 3 (by decide +kernel) rfl, k_J4_init_da8c8, ⟨⟨by decide +kernel, by decide +kernel⟩, by decide +kernel, by decide⟩, rfl⟩
theorem l_Jx00060_15 : LkV RJx00060 15 MJ4_append_15ec4 1 := ⟨wl_in 724 (by decide +kernel) rfl, wl_in 429 (by decide +kernel) rfl, wl_in 430 (by decide +kernel) rfl, wl_in 3 (by decide +kernel) rfl, k_J4_append_15ec4, ⟨⟨by decide +kernel, by decide +kernel⟩, by decide +kernel, by decide⟩⟩
theorem l_Jx00060_19 : LkV RJx00060 19 MJ4_append_bf812 1 := ⟨wl_in 725 (by decide +kernel) rfl, wl_in 528 (by decide +kernel) rfl, wl_in 529 (by decide +kernel) rfl, wl_in 3 (by decide +kernel) rfl, k_J4_append_bf812, ⟨⟨by decide +kernel, by decide +kernel⟩, by decide +kernel, by decide⟩⟩
theorem l_Jx00060_22 : LkV RJx00060 22 MJ4_toString_0e30d 0 := ⟨wl_in 726 (by decide +kernel) rfl, wl_in 553 (by decide +kernel) rfl, wl_in 554 (by decide +kernel) rfl, wl_in 3 (by decide +kernel) rfl, k_J4_toString_0e30d, ⟨⟨by decide +kernel, by decide +kernel⟩, by decide +kernel, by decide⟩⟩
theorem l_J0_47 : LkS RJ0 47 MJ2_coderFromArrayLen_85cad 2 := ⟨wl_in 670 (by decide +kernel) rfl, wl_in 671 (by decide +kernel) rfl, wl_in 5 (by decide +kernel) rfl, k_J2_coderFromArrayLen_85cad, ⟨⟨by decide +kernel, by decide +kernel⟩, by decide +kernel, by decide⟩⟩
theorem l_J0_54 : LkS RJ0 54 MJ7_copyOfRange_39247 3 := ⟨wl_in 579 (by decide +kernel) rfl, wl_in 580 (by decide +kernel) rfl, wl_in 23 (by decide +kernel) rfl, k_J7_copyOfRange_39247, ⟨⟨by decide +kernel, by decide +kernel⟩, by decide +kernel, by decide⟩⟩
theorem l_J0_106 : LkS RJ0 106 MJ1_inflate_0e8fd 5 := ⟨wl_in 526 (by decide +kernel) rfl, wl_in 507 (by decide +kernel) rfl, wl_in 14 (by decide +kernel) rfl, k_J1_inflate_0e8fd, ⟨⟨by decide +kernel, by decide +kernel⟩, by decide +kernel, by decide⟩⟩
theorem l_J0_335 : LkV RJ0 335 MJ0_coder_7d493 0 := ⟨wl_in 269 (by decide +kernel) rfl, wl_in 270 (by decide +kernel) rfl, wl_in 271 (by decide +kernel) rfl, wl_in 4 (by decide +kernel) rfl, k_J0_coder_7d493, ⟨⟨by decide +kernel, by decide +kernel⟩, by decide +kernel, by decide⟩⟩
theorem l_J0_489 : LkI RJ0 489 MJ0_init_db425 2 := ⟨wl_in 561 (by decide +kernel) rfl, wl_in 562 (by decide +kernel) rfl, rfl, wl_in 4 (by decide +kernel) rfl, k_J0_init_db425, ⟨⟨by decide +kernel, by decide +kernel⟩, by decide +kernel, by decide⟩, rfl⟩
theorem l_J0_492 : LkV RJ0 492 MJ0_isLatin1_aae02 0 := ⟨wl_in 278 (by decide +kernel) rfl, wl_in 279 (by decide +kernel) rfl, wl_in 280 (by decide +kernel) rfl, wl_in 4 (by decide +kernel) rfl, k_J0_isLatin1_aae02, ⟨⟨by decide +kernel, by decide +kernel⟩, by decide +kernel, by decide⟩⟩
theorem l_J0_495 : LkS RJ0 495 MJ1_charAt_3b067 2 := ⟨wl_in 282 (by decide +kernel) rfl, wl_in 283 (by decide +kernel) rfl, wl_in 14 (by decide +kernel) rfl, k_J1_charAt_3b067, ⟨⟨by decide +kernel, by decide +kernel⟩, by decide +kernel, by decide⟩⟩
theorem l_J0_498 : LkS RJ0 498 MJ2_charAt_3b067 2 := ⟨wl_in 293 (by decide +kernel) rfl, wl_in 294 (by decide +kernel) rfl, wl_in 5 (by decide +kernel) rfl, k_J2_charAt_3b067, ⟨⟨by decide +kernel, by decide +kernel⟩, by decide +kernel, by decide⟩⟩
theorem l_J0_505 : LkV RJ0 505 MJ0_length_8abf5 0 := ⟨wl_in 1293 (by decide +kernel) rfl, wl_in 266 (by decide +kernel) rfl, wl_in 267 (by decide +kernel) rfl, wl_in 4 (by decide +kernel) rfl, k_J0_length_8abf5, ⟨⟨by decide +kernel, by decide +kernel⟩, by decide +kernel, by decide⟩⟩
theorem l_J0_521 : LkS RJ0 521 MJ0_checkBoundsBeginEnd_23922 3 := ⟨wl_in 1294 (by decide +kernel) rfl, wl_in 484 (by decide +kernel) rfl, wl_in 4 (by decide +kernel) rfl, k_J0_checkBoundsBeginEnd_23922, ⟨⟨by decide +kernel, by decide +kernel⟩, by decide +kernel, by decide⟩⟩
theorem l_J0_685 : LkS RJ0 685 MJ1_newString_b4f7a 3 := ⟨wl_in 1295 (by decide +kernel) rfl, wl_in 1296 (by decide +kernel) rfl, wl_in 14 (by decide +kernel) rfl, k_J1_newString_b4f7a, ⟨⟨by decide +kernel, by decide +kernel⟩, by decide +kernel, by decide⟩⟩
theorem l_J0_689 : LkS RJ0 689 MJ2_newString_b4f7a 3 := ⟨wl_in 1304 (by decide +kernel) rfl, wl_in 1305 (by decide +kernel) rfl, wl_in 5 (by decide +kernel) rfl, k_J2_newString_b4f7a, ⟨⟨by decide +kernel, by decide +kernel⟩, by decide +kernel, by decide⟩⟩
theorem l_J0_1051 : LkS RJ0 1051 MJ2_compress_39247 3 := ⟨wl_in 663 (by decide +kernel) rfl, wl_in 664 (by decide +kernel) rfl, wl_in 5 (by decide +kernel) rfl, k_J2_compress_39247, ⟨⟨by decide +kernel, by decide +kernel⟩, by decide +kernel, by decide⟩⟩
theorem l_J0_1059 : LkS RJ0 1059 MJ3_checkIndex_8e157 3 := ⟨wl_in 290 (by decide +kernel) rfl, wl_in 291 (by decide +kernel) rfl, wl_in 15 (by decide +kernel) rfl, k_J3_checkIndex_8e157, ⟨⟨by decide +kernel, by decide +kernel⟩, by decide +kernel, by decide⟩⟩
theorem l_J0_1062 : LkS RJ0 1062 MJ3_checkFromToIndex_8c36e 4 := ⟨wl_in 486 (by decide +kernel) rfl, wl_in 487 (by decide +kernel) rfl, wl_in 15 (by decide +kernel) rfl, k_J3_checkFromToIndex_8c36e, ⟨⟨by decide +kernel, by decide +kernel⟩, by decide +kernel, by decide⟩⟩
theorem l_J0_1065 : LkS RJ0 1065 MJ3_checkFromIndexSize_8c36e 4 := ⟨wl_in 518 (by decide +kernel) rfl, wl_in 519 (by decide +kernel) rfl, wl_in 15 (by decide +kernel) rfl, k_J3_checkFromIndexSize_8c36e, ⟨⟨by decide +kernel, by decide +kernel⟩, by decide +kernel, by decide⟩⟩
theorem l_J4_1 : LkI RJ4 1 MJ5_init_d00df 1 := ⟨wl_in 43 (by decide +kernel) rfl, wl_in 44 (by decide +kernel) rfl, rfl, wl_in 2 (by decide +kernel) rfl, k_J5_init_d00df, ⟨⟨by decide +kernel, by decide +kernel⟩, by decide +kernel, by decide⟩, rfl⟩
theorem l_J4_137 : LkI RJ4 137 MJ0_init_81219 1 := ⟨wl_in 558 (by decide +kernel) rfl, wl_in 559 (by decide +kernel) rfl, rfl, wl_in 4 (by decide +kernel) rfl, k_J0_init_81219, ⟨⟨by decide +kernel, by decide +kernel⟩, by decide +kernel, by decide⟩, rfl⟩
theorem l_Jx7c733_12 : LkI RJx7c733 12 MJ4_init_da8c8 0 := ⟨wl_in 426 (by decide +kernel) rfl, wl_in 41 (by decide +kernel) rfl, rfl, wl_in 3 (by decide +kernel) rfl, k_J4_init_da8c8, ⟨⟨by decide +kernel, by decide +kernel⟩, by decide +kernel, by decide⟩, rfl⟩
theorem l_Jx7c733_15 : LkV RJx7c733 15 MJ4_append_15ec4 1 := ⟨wl_in 428 (by decide +kernel) rfl, wl_in 429 (by decide +kernel) rfl, wl_in 430 (by decide +kernel) rfl, wl_in 3 (by decide +kernel) rfl, k_J4_append_15ec4, ⟨⟨by decide +kernel, by decide +kernel⟩, by decide +kernel, by decide⟩⟩
theorem l_Jx7c733_19 : LkV RJx7c733 19 MJ4_append_bf812 1 := ⟨wl_in 527 (by decide +kernel) rfl, wl_in 528 (by decide +kernel) rfl, wl_in 529 (by decide +kernel) rfl, wl_in 3 (by decide +kernel) rfl, k_J4_append_bf812, ⟨⟨by decide +kernel, by decide +kernel⟩, by decide +kernel, by decide⟩⟩
theorem l_Jx7c733_22 : LkV RJx7c733 22 MJ4_toString_0e30d 0 := ⟨wl_in 552 (by decide +kernel) rfl, wl_in 553 (by decide +kernel) rfl, wl_in 554 (by decide +kernel) rfl, wl_in 3 (by decide +kernel) rfl, k_J4_toString_0e30d, ⟨⟨by decide +kernel, by decide +kernel⟩, by decide +kernel, by decide⟩⟩
theorem l_J1_9 : LkS RJ1 9 MJ0_checkIndex_df160 2 := ⟨wl_in 285 (by decide +kernel) rfl, wl_in 286 (by decide +kernel) rfl, wl_in 4 (by decide +kernel) rfl, k_J0_checkIndex_df160, ⟨⟨by decide +kernel, by decide +kernel⟩, by decide +kernel, by decide⟩⟩
theorem l_J1_112 : LkI RJ1 112 MJ0_init_031fb 2 := ⟨wl_in 1301 (by decide +kernel) rfl, wl_in 1302 (by decide +kernel) rfl, rfl, wl_in 4 (by decide +kernel) rfl, k_J0_init_031fb, ⟨⟨by decide +kernel, by decide +kernel⟩, by decide +kernel, by decide⟩, rfl⟩
theorem l_J1_232 : LkS RJ1 232 MJ7_copyOfRange_39247 3 := ⟨wl_in 1300 (by decide +kernel) rfl, wl_in 580 (by decide +kernel) rfl, wl_in 23 (by decide +kernel) rfl, k_J7_copyOfRange_39247, ⟨⟨by decide +kernel, by decide +kernel⟩, by decide +kernel, by decide⟩⟩
theorem l_J1_236 : LkS RJ1 236 MJ7_fill_eb02e 4 := ⟨wl_in 698 (by decide +kernel) rfl, wl_in 699 (by decide +kernel) rfl, wl_in 23 (by decide +kernel) rfl, k_J7_fill_eb02e, ⟨⟨by decide +kernel, by decide +kernel⟩, by decide +kernel, by decide⟩⟩
theorem l_J1_240 : LkS RJ1 240 MJ2_inflate_0e8fd 5 := ⟨wl_in 509 (by decide +kernel) rfl, wl_in 510 (by decide +kernel) rfl, wl_in 5 (by decide +kernel) rfl, k_J2_inflate_0e8fd, ⟨⟨by decide +kernel, by decide +kernel⟩, by decide +kernel, by decide⟩⟩
theorem l_J2_11 : LkS RJ2 11 MJ2_newBytesLength_0f7a4 1 := ⟨wl_in 52 (by decide +kernel) rfl, wl_in 53 (by decide +kernel) rfl, wl_in 5 (by decide +kernel) rfl, k_J2_newBytesLength_0f7a4, ⟨⟨by decide +kernel, by decide +kernel⟩, by decide +kernel, by decide⟩⟩
theorem l_J2_48 : LkS RJ2 48 MJ2_length_9d52b 1 := ⟨wl_in 299 (by decide +kernel) rfl, wl_in 300 (by decide +kernel) rfl, wl_in 5 (by decide +kernel) rfl, k_J2_length_9d52b, ⟨⟨by decide +kernel, by decide +kernel⟩, by decide +kernel, by decide⟩⟩
theorem l_J2_67 : LkS RJ2 67 MJ2_checkIndex_2214a 2 := ⟨wl_in 296 (by decide +kernel) rfl, wl_in 297 (by decide +kernel) rfl, wl_in 5 (by decide +kernel) rfl, k_J2_checkIndex_2214a, ⟨⟨by decide +kernel, by decide +kernel⟩, by decide +kernel, by decide⟩⟩
theorem l_J2_71 : LkS RJ2 71 MJ2_getChar_3b067 2 := ⟨wl_in 303 (by decide +kernel) rfl, wl_in 304 (by decide +kernel) rfl, wl_in 5 (by decide +kernel) rfl, k_J2_getChar_3b067, ⟨⟨by decide +kernel, by decide +kernel⟩, by decide +kernel, by decide⟩⟩
theorem l_J2_96 : LkS RJ2 96 MJ2_checkBoundsBeginEnd_d044e 3 := ⟨wl_in 480 (by decide +kernel) rfl, wl_in 481 (by decide +kernel) rfl, wl_in 5 (by decide +kernel) rfl, k_J2_checkBoundsBeginEnd_d044e, ⟨⟨by decide +kernel, by decide +kernel⟩, by decide +kernel, by decide⟩⟩
theorem l_J2_111 : LkS RJ2 111 MJ2_putChar_b72d1 3 := ⟨wl_in 489 (by decide +kernel) rfl, wl_in 490 (by decide +kernel) rfl, wl_in 5 (by decide +kernel) rfl, k_J2_putChar_b72d1, ⟨⟨by decide +kernel, by decide +kernel⟩, by decide +kernel, by decide⟩⟩
theorem l_J2_123 : LkS RJ2 123 MJ2_compress_5af95 5 := ⟨wl_in 666 (by decide +kernel) rfl, wl_in 667 (by decide +kernel) rfl, wl_in 5 (by decide +kernel) rfl, k_J2_compress_5af95, ⟨⟨by decide +kernel, by decide +kernel⟩, by decide +kernel, by decide⟩⟩
theorem l_J2_126 : LkS RJ2 126 MJ7_copyOfRange_39247 3 := ⟨wl_in 669 (by decide +kernel) rfl, wl_in 580 (by decide +kernel) rfl, wl_in 23 (by decide +kernel) rfl, k_J7_copyOfRange_39247, ⟨⟨by decide +kernel, by decide +kernel⟩, by decide +kernel, by decide⟩⟩
theorem l_J2_173 : LkS RJ2 173 MJ2_checkBoundsOffCount_d044e 3 := ⟨wl_in 512 (by decide +kernel) rfl, wl_in 513 (by decide +kernel) rfl, wl_in 5 (by decide +kernel) rfl, k_J2_checkBoundsOffCount_d044e, ⟨⟨by decide +kernel, by decide +kernel⟩, by decide +kernel, by decide⟩⟩
theorem l_J2_241 : LkS RJ2 241 MJ0_checkBoundsBeginEnd_23922 3 := ⟨wl_in 483 (by decide +kernel) rfl, wl_in 484 (by decide +kernel) rfl, wl_in 4 (by decide +kernel) rfl, k_J0_checkBoundsBeginEnd_23922, ⟨⟨by decide +kernel, by decide +kernel⟩, by decide +kernel, by decide⟩⟩
theorem l_J2_257 : LkS RJ2 257 MJ2_compress_39247 3 := ⟨wl_in 1309 (by decide +kernel) rfl, wl_in 664 (by decide +kernel) rfl, wl_in 5 (by decide +kernel) rfl, k_J2_compress_39247, ⟨⟨by decide +kernel, by decide +kernel⟩, by decide +kernel, by decide⟩⟩
theorem l_J2_259 : LkS RJ2 259 MJ2_coderFromArrayLen_85cad 2 := ⟨wl_in 1310 (by decide +kernel) rfl, wl_in 671 (by decide +kernel) rfl, wl_in 5 (by decide +kernel) rfl, k_J2_coderFromArrayLen_85cad, ⟨⟨by decide +kernel, by decide +kernel⟩, by decide +kernel, by decide⟩⟩
theorem l_J2_263 : LkI RJ2 263 MJ0_init_031fb 2 := ⟨wl_in 1312 (by decide +kernel) rfl, wl_in 1302 (by decide +kernel) rfl, rfl, wl_in 4 (by decide +kernel) rfl, k_J0_init_031fb, ⟨⟨by decide +kernel, by decide +kernel⟩, by decide +kernel, by decide⟩, rfl⟩
theorem l_J2_380 : LkS RJ2 380 MJ7_fill_eb02e 4 := ⟨wl_in 733 (by decide +kernel) rfl, wl_in 699 (by decide +kernel) rfl, wl_in 23 (by decide +kernel) rfl, k_J7_fill_eb02e, ⟨⟨by decide +kernel, by decide +kernel⟩, by decide +kernel, by decide⟩⟩
theorem l_J2_393 : LkS RJ2 393 MJ2_getChars_ba4f3 3 := ⟨wl_in 547 (by decide +kernel) rfl, wl_in 548 (by decide +kernel) rfl, wl_in 5 (by decide +kernel) rfl, k_J2_getChars_ba4f3, ⟨⟨by decide +kernel, by decide +kernel⟩, by decide +kernel, by decide⟩⟩
theorem l_J2_414 : LkS RJ2 414 MJ0_checkIndex_df160 2 := ⟨wl_in 302 (by decide +kernel) rfl, wl_in 286 (by decide +kernel) rfl, wl_in 4 (by decide +kernel) rfl, k_J0_checkIndex_df160, ⟨⟨by decide +kernel, by decide +kernel⟩, by decide +kernel, by decide⟩⟩
theorem l_J2_419 : LkS RJ2 419 MJ0_checkBoundsOffCount_cabcc 3 := ⟨wl_in 515 (by decide +kernel) rfl, wl_in 516 (by decide +kernel) rfl, wl_in 4 (by decide +kernel) rfl, k_J0_checkBoundsOffCount_cabcc, ⟨⟨by decide +kernel, by decide +kernel⟩, by decide +kernel, by decide⟩⟩
theorem l_J7_13 : LkS RJ7 13 MJ7_rangeCheck_23922 3 := ⟨wl_in 701 (by decide +kernel) rfl, wl_in 702 (by decide +kernel) rfl, wl_in 23 (by decide +kernel) rfl, k_J7_rangeCheck_23922, ⟨⟨by decide +kernel, by decide +kernel⟩, by decide +kernel, by decide⟩⟩
theorem l_J7_47 : LkI RJ7 47 MJ4_init_da8c8 0 := ⟨wl_in 632 (by decide +kernel) rfl, wl_in 41 (by decide +kernel) rfl, rfl, wl_in 3 (by decide +kernel) rfl, k_J4_init_da8c8, ⟨⟨by decide +kernel, by decide +kernel⟩, by decide +kernel, by decide⟩, rfl⟩
theorem l_J7_50 : LkV RJ7 50 MJ4_append_15ec4 1 := ⟨wl_in 635 (by decide +kernel) rfl, wl_in 429 (by decide +kernel) rfl, wl_in 430 (by decide +kernel) rfl, wl_in 3 (by decide +kernel) rfl, k_J4_append_15ec4, ⟨⟨by decide +kernel, by decide +kernel⟩, by decide +kernel, by decide⟩⟩
theorem l_J7_54 : LkV RJ7 54 MJ4_append_bf812 1 := ⟨wl_in 633 (by decide +kernel) rfl, wl_in 528 (by decide +kernel) rfl, wl_in 529 (by decide +kernel) rfl, wl_in 3 (by decide +kernel) rfl, k_J4_append_bf812, ⟨⟨by decide +kernel, by decide +kernel⟩, by decide +kernel, by decide⟩⟩
theorem l_J7_61 : LkV RJ7 61 MJ4_toString_0e30d 0 := ⟨wl_in 636 (by decide +kernel) rfl, wl_in 553 (by decide +kernel) rfl, wl_in 554 (by decide +kernel) rfl, wl_in 3 (by decide +kernel) rfl, k_J4_toString_0e30d, ⟨⟨by decide +kernel, by decide +kernel⟩, by decide +kernel, by decide⟩⟩
theorem l_J7_70 : LkI RJ7 70 MJx00060_init_d00df 1 := ⟨wl_in 718 (by decide +kernel) rfl, wl_in 719 (by decide +kernel) rfl, rfl, wl_in 27 (by decide +kernel) rfl, k_Jx00060_init_d00df, ⟨⟨by decide +kernel, by decide +kernel⟩, by decide +kernel, by decide⟩, rfl⟩
theorem l_J7_304 : LkS RJ7 304 MJ9_min_7cf53 2 := ⟨wl_in 468 (by decide +kernel) rfl, wl_in 321 (by decide +kernel) rfl, wl_in 16 (by decide +kernel) rfl, k_J9_min_7cf53, ⟨⟨by decide +kernel, by decide +kernel⟩, by decide +kernel, by decide⟩⟩
theorem l_J7_339 : LkS RJ7 339 MJ7_copyOfRangeByte_39247 3 := ⟨wl_in 582 (by decide +kernel) rfl, wl_in 583 (by decide +kernel) rfl, wl_in 23 (by decide +kernel) rfl, k_J7_copyOfRangeByte_39247, ⟨⟨by decide +kernel, by decide +kernel⟩, by decide +kernel, by decide⟩⟩
theorem l_J7_343 : LkS RJ7 343 MJ7_checkLength_df160 2 := ⟨wl_in 585 (by decide +kernel) rfl, wl_in 586 (by decide +kernel) rfl, wl_in 23 (by decide +kernel) rfl, k_J7_checkLength_df160, ⟨⟨by decide +kernel, by decide +kernel⟩, by decide +kernel, by decide⟩⟩
theorem l_J8_194 : LkS RJ8 194 MJ9_max_7cf53 2 := ⟨wl_in 450 (by decide +kernel) rfl, wl_in 451 (by decide +kernel) rfl, wl_in 16 (by decide +kernel) rfl, k_J9_max_7cf53, ⟨⟨by decide +kernel, by decide +kernel⟩, by decide +kernel, by decide⟩⟩
theorem l_J8_201 : LkS RJ8 201 MJ8_hugeLength_7cf53 2 := ⟨wl_in 454 (by decide +kernel) rfl, wl_in 455 (by decide +kernel) rfl, wl_in 22 (by decide +kernel) rfl, k_J8_hugeLength_7cf53, ⟨⟨by decide +kernel, by decide +kernel⟩, by decide +kernel, by decide⟩⟩
end GLINK
