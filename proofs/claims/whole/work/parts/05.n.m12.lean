section GM12
set_option maxRecDepth 100000 in
set_option maxHeartbeats 4000000 in
theorem r_init {Γ : Gm} {mo n : Nat} {F : Hp} {I : Nat → Int32} {A : Nat → Nat → Int32} (hA : A 1 = fsF) (h11 : I 11 = -1) : G Γ 7 MX8_init (fun v E1 n1 => v = none ∧ n1 = n ∧ ∃ A2, Sc A A2 ∧ E1 = MW Γ mo F I A2 (dayM (iniL 4) I 4).1) X0 495 [(0, .ref mo)] [] (MW Γ mo F I A (fun _ => nI 0)) n 0 0 := by
  refine G.sub (lv2 := [(0, _)]) [0] rfl ?_
  refine m_get 0 rfl f_X8_19 rfl dX8_init_495 dX8_init_496 ?_
  refine gn_ic 0 (by decide) dX8_init_499 ?_
  refine gn_ic 5 (by decide) dX8_init_500 ?_
  refine gn_iast MW_3 (by omega) (by decide) MW_s3 dX8_init_501 ?_
  refine m_get 0 rfl f_X8_19 rfl dX8_init_502 dX8_init_503 ?_
  refine gn_ic 1 (by decide) dX8_init_506 ?_
  refine gn_bp 6 (by decide) dX8_init_507 ?_
  refine gn_iast MW_3 (by omega) (by decide) MW_s3 dX8_init_509 ?_
  refine gn_ic 0 (by decide) dX8_init_510 ?_
  refine g_istore_n (lv2 := [(1, _), (0, _)]) (by decide) rfl dX8_init_511 ?_
  have L512 : ∀ (m512 i512 : Nat), i512 + m512 = 5 → G Γ 7 MX8_init (fun v E1 n1 => v = none ∧ n1 = n ∧ ∃ A2, Sc A A2 ∧ E1 = MW Γ mo F I A2 (dayM (iniL 4) I 4).1) X0 512 [(0, .ref mo), (1, .int (nI i512))] [] (MW Γ mo F I A (iniH i512)) n 0 0 := by
    intro m512
    induction m512 with
    | zero =>
      intro i512 hi512
      refine g_iload_n 1 rfl dX8_init_512 ?_
      refine gn_ic 5 (by decide) dX8_init_513 ?_
      refine gn_icmp_ge (by omega) (by omega) (tgt := 532) (by decide) dX8_init_514 (fun cc1 => ?_) (fun cc1 => ?_)
      · -- t 532
        obtain rfl : i512 = 5 := by omega
        refine gn_ic 0 (by decide) dX8_init_532 ?_
        refine g_istore_n (lv2 := [(1, _), (0, _)]) (by decide) rfl dX8_init_533 ?_
        have L534 : ∀ (m534 i534 : Nat), i534 + m534 = 4 → G Γ 7 MX8_init (fun v E1 n1 => v = none ∧ n1 = n ∧ ∃ A2, Sc A A2 ∧ E1 = MW Γ mo F I A2 (dayM (iniL 4) I 4).1) X0 534 [(0, .ref mo), (1, .int (nI i534))] [] (MW Γ mo F I A (iniL i534)) n 0 0 := by
          intro m534
          induction m534 with
          | zero =>
            intro i534 hi534
            refine g_iload_n 1 rfl dX8_init_534 ?_
            refine gn_ic 4 (by decide) dX8_init_535 ?_
            refine gn_icmp_ge (by omega) (by omega) (tgt := 620) (by decide) dX8_init_536 (fun cc2 => ?_) (fun cc2 => ?_)
            · -- t 620
              obtain rfl : i534 = 4 := by omega
              refine g_aload_n 0 rfl dX8_init_620 ?_
              refine gx_V0 (c_X8_passesDay (iniL_ok 4 (by decide))) l_X8_60 rfl m_rcv (Nat.le_of_ble_eq_true rfl) (Nat.le_of_ble_eq_true rfl) rfl dX8_init_621 (fun _ _ _ z => z.1) (fun E1 n1 z => ?_)
              obtain ⟨-, rfl, A2, hS2, rfl⟩ := z
              rw [dayM_I h11 (by decide)]
              exact g_vret ⟨rfl, rfl, A2, hS2, rfl⟩ rfl dX8_init_624
            · -- f 539
              exfalso; omega
          | succ m534 ih534 =>
            intro i534 hi534
            refine g_iload_n 1 rfl dX8_init_534 ?_
            refine gn_ic 4 (by decide) dX8_init_535 ?_
            refine gn_icmp_ge (by omega) (by omega) (tgt := 620) (by decide) dX8_init_536 (fun cc3 => ?_) (fun cc3 => ?_)
            · -- t 620
              exfalso; omega
            · -- f 539
              refine g_aload_n 0 rfl dX8_init_539 ?_
              refine m_get 0 rfl f_X8_16 rfl dX8_init_540 dX8_init_541 ?_
              refine gn_bp 6 (by decide) dX8_init_544 ?_
              refine g_iload_n 1 rfl dX8_init_546 ?_
              refine gn_imul dX8_init_547 ?_
              refine gn_ic 3 (by decide) dX8_init_548 ?_
              refine gn_iadd dX8_init_549 ?_
              refine gn_iald MW_2 (by omega) (by decide) dX8_init_550 ?_
              refine m_get 0 rfl f_X8_16 rfl dX8_init_551 dX8_init_552 ?_
              refine gn_bp 6 (by decide) dX8_init_555 ?_
              refine g_iload_n 1 rfl dX8_init_557 ?_
              refine gn_imul dX8_init_558 ?_
              refine gn_ic 4 (by decide) dX8_init_559 ?_
              refine gn_iadd dX8_init_560 ?_
              refine gn_iald MW_2 (by omega) (by decide) dX8_init_561 ?_
              refine m_get 0 rfl f_X8_16 rfl dX8_init_562 dX8_init_563 ?_
              refine gn_bp 6 (by decide) dX8_init_566 ?_
              refine g_iload_n 1 rfl dX8_init_568 ?_
              refine gn_imul dX8_init_569 ?_
              refine gn_ic 5 (by decide) dX8_init_570 ?_
              refine gn_iadd dX8_init_571 ?_
              refine gn_iald MW_2 (by omega) (by decide) dX8_init_572 ?_
              refine g_top (y := nI (fsL.getD (6 * i534 + 5) 0)) (by rw [hA]; rfl) ?_
              refine gu_V (c_X8_comes (c := i534) (iniL_7 i534) (by omega) (fs_ac i534 (by omega))) l_X8_52 rfl m_rcv (Nat.le_of_ble_eq_true rfl) (Nat.le_of_ble_eq_true rfl) rfl dX8_init_573 ?_
              refine gn_ic 0 (by decide) dX8_init_576 ?_
              refine g_istore_n (lv2 := [(2, _), (0, _), (1, _)]) (by decide) rfl dX8_init_577 ?_
              have L578 : ∀ (m578 i578 : Nat), i578 + m578 = 3 → G Γ 7 MX8_init (fun v E1 n1 => v = none ∧ n1 = n ∧ ∃ A2, Sc A A2 ∧ E1 = MW Γ mo F I A2 (dayM (iniL 4) I 4).1) X0 578 [(0, .ref mo), (1, .int (nI i534)), (2, .int (nI i578))] [] (MW Γ mo F I A (nmF (comF (iniL i534) (fsF (6 * i534 + 3)) (fsF (6 * i534 + 4)) (fsL.getD (6 * i534 + 5) 0) i534) fsF (13 + 16 * i534 + 10) (6 * i534) i578)) n 0 0 := by
                intro m578
                induction m578 with
                | zero =>
                  intro i578 hi578
                  refine g_iload_n 2 rfl dX8_init_578 ?_
                  refine gn_ic 3 (by decide) dX8_init_579 ?_
                  refine gn_icmp_ge (by omega) (by omega) (tgt := 614) (by decide) dX8_init_580 (fun cc4 => ?_) (fun cc4 => ?_)
                  · -- t 614
                    obtain rfl : i578 = 3 := by omega
                    refine gn_inc (lv2 := [(1, _), (0, _), (2, _)]) 1 rfl (by decide) rfl dX8_init_614 ?_
                    refine g_goto (tgt := 534) (by decide) dX8_init_617 ?_
                    refine G.sub [1, 0] rfl ?_
                    exact ih534 (i534 + 1) (by omega)
                  · -- f 583
                    exfalso; omega
                | succ m578 ih578 =>
                  intro i578 hi578
                  refine g_iload_n 2 rfl dX8_init_578 ?_
                  refine gn_ic 3 (by decide) dX8_init_579 ?_
                  refine gn_icmp_ge (by omega) (by omega) (tgt := 614) (by decide) dX8_init_580 (fun cc5 => ?_) (fun cc5 => ?_)
                  · -- t 614
                    exfalso; omega
                  · -- f 583
                    refine m_get 0 rfl f_X8_19 rfl dX8_init_583 dX8_init_584 ?_
                    refine g_iload_n 1 rfl dX8_init_587 ?_
                    refine gv_S (c_X8_l ) l_X8_56 rfl (Nat.le_of_ble_eq_true rfl) (Nat.le_of_ble_eq_true rfl) rfl dX8_init_588 ?_
                    refine gn_bp 10 (by decide) dX8_init_591 ?_
                    refine gn_iadd dX8_init_593 ?_
                    refine g_iload_n 2 rfl dX8_init_594 ?_
                    refine gn_iadd dX8_init_595 ?_
                    refine m_get 0 rfl f_X8_16 rfl dX8_init_596 dX8_init_597 ?_
                    refine gn_bp 6 (by decide) dX8_init_600 ?_
                    refine g_iload_n 1 rfl dX8_init_602 ?_
                    refine gn_imul dX8_init_603 ?_
                    refine g_iload_n 2 rfl dX8_init_604 ?_
                    refine gn_iadd dX8_init_605 ?_
                    refine gn_iald MW_2 (by omega) (by decide) dX8_init_606 ?_
                    refine gn_iast (E2 := MW Γ mo F I A (nmF (comF (iniL i534) (fsF (6 * i534 + 3)) (fsF (6 * i534 + 4)) (fsL.getD (6 * i534 + 5) 0) i534) fsF (13 + 16 * i534 + 10) (6 * i534) (i578 + 1))) MW_3 (by omega) (by decide) (by rw [MW_s3, hA]; rfl) dX8_init_607 ?_
                    refine gn_inc (lv2 := [(2, _), (0, _), (1, _)]) 2 rfl (by decide) rfl dX8_init_608 ?_
                    refine g_goto (tgt := 578) (by decide) dX8_init_611 ?_
                    refine G.sub [1, 2, 0] rfl ?_
                    exact ih578 (i578 + 1) (by omega)
              refine G.sub [1, 2, 0] rfl ?_
              rw [hA]
              exact L578 _ 0 (Nat.zero_add _)
        refine G.sub [1, 0] rfl ?_
        exact L534 _ 0 (Nat.zero_add _)
      · -- f 517
        exfalso; omega
    | succ m512 ih512 =>
      intro i512 hi512
      refine g_iload_n 1 rfl dX8_init_512 ?_
      refine gn_ic 5 (by decide) dX8_init_513 ?_
      refine gn_icmp_ge (by omega) (by omega) (tgt := 532) (by decide) dX8_init_514 (fun cc6 => ?_) (fun cc6 => ?_)
      · -- t 532
        exfalso; omega
      · -- f 517
        refine m_get 0 rfl f_X8_19 rfl dX8_init_517 dX8_init_518 ?_
        refine gn_ic 2 (by decide) dX8_init_521 ?_
        refine g_iload_n 1 rfl dX8_init_522 ?_
        refine gn_iadd dX8_init_523 ?_
        refine gn_ic 4 (by decide) dX8_init_524 ?_
        refine gn_iast MW_3 (by omega) (by decide) MW_s3 dX8_init_525 ?_
        refine gn_inc (lv2 := [(1, _), (0, _)]) 1 rfl (by decide) rfl dX8_init_526 ?_
        refine g_goto (tgt := 512) (by decide) dX8_init_529 ?_
        refine G.sub [1, 0] rfl ?_
        exact ih512 (i512 + 1) (by omega)
  refine G.sub [1, 0] rfl ?_
  exact L512 _ 0 (Nat.zero_add _)
def moObj0 : List Value := [.null, .null, .int (nI 0), .null, .null, .null, .int (nI 0), .null, .int (nI 0), .null, .null, .int (nI 0), .int (nI 0), .null, .int (nI 0), .null, .int (nI 0), .int (nI 0), .int (nI 0), .int (nI 0), .int (nI 0), .int (nI 0), .int (nI 0), .int (nI 0), .int (nI 0), .int (nI 0)]
set_option maxRecDepth 100000 in
set_option maxHeartbeats 8000000 in
theorem c_X8_init {Γ : Gm} {mo : Nat} {F : Hp} (h0 : F mo = some (.inr (11, moObj0))) : Ct Γ 7 MX8_init 10 3632 [.ref mo] F (mo + 1) (fun v E1 n1 => v = none ∧ n1 = mo + 11 ∧ ∃ A2, Sc iniA A2 ∧ E1 = MW Γ mo F iniI A2 (dayM (iniL 4) iniI 4).1) X0 := by
  refine Ct.of (by decide +kernel) rfl (Nat.le_of_ble_eq_true rfl) ?_
  refine G.sub (lv2 := [(0, _)]) [0] rfl ?_
  refine g_world (rW_1 h0).symm ?_
  refine g_aload_n 0 rfl dX8_init_0 ?_
  refine g_objInit (wl_6 233 rfl rfl) (wl_1 36 rfl rfl) (wl_1 37 rfl rfl) (by decide) (by decide) dX8_init_1 ?_
  refine g_aload_n 0 rfl dX8_init_4 ?_
  refine gn_bp 48 (by decide) dX8_init_5 ?_
  refine gn_newi (wl_1 95 rfl rfl) (by decide) dX8_init_7 (fun hB => ?_)
  refine g_world (E2 := rW mo F [.inr (11, [.null, .null, .int (nI 0), .null, .null, .null, .int (nI 0), .null, .int (nI 0), .null, .null, .int (nI 0), .int (nI 0), .null, .int (nI 0), .null, .int (nI 0), .int (nI 0), .int (nI 0), .int (nI 0), .int (nI 0), .int (nI 0), .int (nI 0), .int (nI 0), .int (nI 0), .int (nI 0)]), .inl (gA Γ 0, 48, .inl (lsF [0, 0, 0, 0, 0, 0, 0, 0, 0, 0, 0, 0, 0, 0, 0, 0, 0, 0, 0, 0, 0, 0, 0, 0, 0, 0, 0, 0, 0, 0, 0, 0, 0, 0, 0, 0, 0, 0, 0, 0, 0, 0, 0, 0, 0, 0, 0, 0]))]) (Eq.trans (rW_new (by rfl)) (by rw [lsF_0 (N := 48)]; rfl)) ?_
  refine g_dup rfl dX8_init_9 ?_
  refine gn_ic 0 (by decide) dX8_init_10 ?_
  refine gn_bp 104 (by decide) dX8_init_11 ?_
  refine gn_iast (E2 := rW mo F [.inr (11, [.null, .null, .int (nI 0), .null, .null, .null, .int (nI 0), .null, .int (nI 0), .null, .null, .int (nI 0), .int (nI 0), .null, .int (nI 0), .null, .int (nI 0), .int (nI 0), .int (nI 0), .int (nI 0), .int (nI 0), .int (nI 0), .int (nI 0), .int (nI 0), .int (nI 0), .int (nI 0)]), .inl (gA Γ 0, 48, .inl (lsF [104, 0, 0, 0, 0, 0, 0, 0, 0, 0, 0, 0, 0, 0, 0, 0, 0, 0, 0, 0, 0, 0, 0, 0, 0, 0, 0, 0, 0, 0, 0, 0, 0, 0, 0, 0, 0, 0, 0, 0, 0, 0, 0, 0, 0, 0, 0, 0]))]) (rW_at (i := 1) rfl rfl) (by decide) (by decide) (by rw [rW_set (i := 1) rfl (Nat.le_of_ble_eq_true rfl), lsF_u (by decide)]; rfl) dX8_init_13 ?_
  refine g_dup rfl dX8_init_14 ?_
  refine gn_ic 1 (by decide) dX8_init_15 ?_
  refine gn_bp 111 (by decide) dX8_init_16 ?_
  refine gn_iast (E2 := rW mo F [.inr (11, [.null, .null, .int (nI 0), .null, .null, .null, .int (nI 0), .null, .int (nI 0), .null, .null, .int (nI 0), .int (nI 0), .null, .int (nI 0), .null, .int (nI 0), .int (nI 0), .int (nI 0), .int (nI 0), .int (nI 0), .int (nI 0), .int (nI 0), .int (nI 0), .int (nI 0), .int (nI 0)]), .inl (gA Γ 0, 48, .inl (lsF [104, 111, 0, 0, 0, 0, 0, 0, 0, 0, 0, 0, 0, 0, 0, 0, 0, 0, 0, 0, 0, 0, 0, 0, 0, 0, 0, 0, 0, 0, 0, 0, 0, 0, 0, 0, 0, 0, 0, 0, 0, 0, 0, 0, 0, 0, 0, 0]))]) (rW_at (i := 1) rfl rfl) (by decide) (by decide) (by rw [rW_set (i := 1) rfl (Nat.le_of_ble_eq_true rfl), lsF_u (by decide)]; rfl) dX8_init_18 ?_
  refine g_dup rfl dX8_init_19 ?_
  refine gn_ic 2 (by decide) dX8_init_20 ?_
  refine gn_bp 117 (by decide) dX8_init_21 ?_
  refine gn_iast (E2 := rW mo F [.inr (11, [.null, .null, .int (nI 0), .null, .null, .null, .int (nI 0), .null, .int (nI 0), .null, .null, .int (nI 0), .int (nI 0), .null, .int (nI 0), .null, .int (nI 0), .int (nI 0), .int (nI 0), .int (nI 0), .int (nI 0), .int (nI 0), .int (nI 0), .int (nI 0), .int (nI 0), .int (nI 0)]), .inl (gA Γ 0, 48, .inl (lsF [104, 111, 117, 0, 0, 0, 0, 0, 0, 0, 0, 0, 0, 0, 0, 0, 0, 0, 0, 0, 0, 0, 0, 0, 0, 0, 0, 0, 0, 0, 0, 0, 0, 0, 0, 0, 0, 0, 0, 0, 0, 0, 0, 0, 0, 0, 0, 0]))]) (rW_at (i := 1) rfl rfl) (by decide) (by decide) (by rw [rW_set (i := 1) rfl (Nat.le_of_ble_eq_true rfl), lsF_u (by decide)]; rfl) dX8_init_23 ?_
  refine g_dup rfl dX8_init_24 ?_
  refine gn_ic 3 (by decide) dX8_init_25 ?_
  refine gn_bp 115 (by decide) dX8_init_26 ?_
  refine gn_iast (E2 := rW mo F [.inr (11, [.null, .null, .int (nI 0), .null, .null, .null, .int (nI 0), .null, .int (nI 0), .null, .null, .int (nI 0), .int (nI 0), .null, .int (nI 0), .null, .int (nI 0), .int (nI 0), .int (nI 0), .int (nI 0), .int (nI 0), .int (nI 0), .int (nI 0), .int (nI 0), .int (nI 0), .int (nI 0)]), .inl (gA Γ 0, 48, .inl (lsF [104, 111, 117, 115, 0, 0, 0, 0, 0, 0, 0, 0, 0, 0, 0, 0, 0, 0, 0, 0, 0, 0, 0, 0, 0, 0, 0, 0, 0, 0, 0, 0, 0, 0, 0, 0, 0, 0, 0, 0, 0, 0, 0, 0, 0, 0, 0, 0]))]) (rW_at (i := 1) rfl rfl) (by decide) (by decide) (by rw [rW_set (i := 1) rfl (Nat.le_of_ble_eq_true rfl), lsF_u (by decide)]; rfl) dX8_init_28 ?_
  refine g_dup rfl dX8_init_29 ?_
  refine gn_ic 4 (by decide) dX8_init_30 ?_
  refine gn_bp 101 (by decide) dX8_init_31 ?_
  refine gn_iast (E2 := rW mo F [.inr (11, [.null, .null, .int (nI 0), .null, .null, .null, .int (nI 0), .null, .int (nI 0), .null, .null, .int (nI 0), .int (nI 0), .null, .int (nI 0), .null, .int (nI 0), .int (nI 0), .int (nI 0), .int (nI 0), .int (nI 0), .int (nI 0), .int (nI 0), .int (nI 0), .int (nI 0), .int (nI 0)]), .inl (gA Γ 0, 48, .inl (lsF [104, 111, 117, 115, 101, 0, 0, 0, 0, 0, 0, 0, 0, 0, 0, 0, 0, 0, 0, 0, 0, 0, 0, 0, 0, 0, 0, 0, 0, 0, 0, 0, 0, 0, 0, 0, 0, 0, 0, 0, 0, 0, 0, 0, 0, 0, 0, 0]))]) (rW_at (i := 1) rfl rfl) (by decide) (by decide) (by rw [rW_set (i := 1) rfl (Nat.le_of_ble_eq_true rfl), lsF_u (by decide)]; rfl) dX8_init_33 ?_
  refine g_dup rfl dX8_init_34 ?_
  refine gn_ic 5 (by decide) dX8_init_35 ?_
  refine gn_ic 0 (by decide) dX8_init_36 ?_
  refine gn_iast (E2 := rW mo F [.inr (11, [.null, .null, .int (nI 0), .null, .null, .null, .int (nI 0), .null, .int (nI 0), .null, .null, .int (nI 0), .int (nI 0), .null, .int (nI 0), .null, .int (nI 0), .int (nI 0), .int (nI 0), .int (nI 0), .int (nI 0), .int (nI 0), .int (nI 0), .int (nI 0), .int (nI 0), .int (nI 0)]), .inl (gA Γ 0, 48, .inl (lsF [104, 111, 117, 115, 101, 0, 0, 0, 0, 0, 0, 0, 0, 0, 0, 0, 0, 0, 0, 0, 0, 0, 0, 0, 0, 0, 0, 0, 0, 0, 0, 0, 0, 0, 0, 0, 0, 0, 0, 0, 0, 0, 0, 0, 0, 0, 0, 0]))]) (rW_at (i := 1) rfl rfl) (by decide) (by decide) (by rw [rW_set (i := 1) rfl (Nat.le_of_ble_eq_true rfl), lsF_u (by decide)]; rfl) dX8_init_37 ?_
  refine g_dup rfl dX8_init_38 ?_
  refine gn_bp 6 (by decide) dX8_init_39 ?_
  refine gn_ic 0 (by decide) dX8_init_41 ?_
  refine gn_iast (E2 := rW mo F [.inr (11, [.null, .null, .int (nI 0), .null, .null, .null, .int (nI 0), .null, .int (nI 0), .null, .null, .int (nI 0), .int (nI 0), .null, .int (nI 0), .null, .int (nI 0), .int (nI 0), .int (nI 0), .int (nI 0), .int (nI 0), .int (nI 0), .int (nI 0), .int (nI 0), .int (nI 0), .int (nI 0)]), .inl (gA Γ 0, 48, .inl (lsF [104, 111, 117, 115, 101, 0, 0, 0, 0, 0, 0, 0, 0, 0, 0, 0, 0, 0, 0, 0, 0, 0, 0, 0, 0, 0, 0, 0, 0, 0, 0, 0, 0, 0, 0, 0, 0, 0, 0, 0, 0, 0, 0, 0, 0, 0, 0, 0]))]) (rW_at (i := 1) rfl rfl) (by decide) (by decide) (by rw [rW_set (i := 1) rfl (Nat.le_of_ble_eq_true rfl), lsF_u (by decide)]; rfl) dX8_init_42 ?_
  refine g_dup rfl dX8_init_43 ?_
  refine gn_bp 7 (by decide) dX8_init_44 ?_
  refine gn_ic 0 (by decide) dX8_init_46 ?_
  refine gn_iast (E2 := rW mo F [.inr (11, [.null, .null, .int (nI 0), .null, .null, .null, .int (nI 0), .null, .int (nI 0), .null, .null, .int (nI 0), .int (nI 0), .null, .int (nI 0), .null, .int (nI 0), .int (nI 0), .int (nI 0), .int (nI 0), .int (nI 0), .int (nI 0), .int (nI 0), .int (nI 0), .int (nI 0), .int (nI 0)]), .inl (gA Γ 0, 48, .inl (lsF [104, 111, 117, 115, 101, 0, 0, 0, 0, 0, 0, 0, 0, 0, 0, 0, 0, 0, 0, 0, 0, 0, 0, 0, 0, 0, 0, 0, 0, 0, 0, 0, 0, 0, 0, 0, 0, 0, 0, 0, 0, 0, 0, 0, 0, 0, 0, 0]))]) (rW_at (i := 1) rfl rfl) (by decide) (by decide) (by rw [rW_set (i := 1) rfl (Nat.le_of_ble_eq_true rfl), lsF_u (by decide)]; rfl) dX8_init_47 ?_
  refine g_dup rfl dX8_init_48 ?_
  refine gn_bp 8 (by decide) dX8_init_49 ?_
  refine gn_bp 108 (by decide) dX8_init_51 ?_
  refine gn_iast (E2 := rW mo F [.inr (11, [.null, .null, .int (nI 0), .null, .null, .null, .int (nI 0), .null, .int (nI 0), .null, .null, .int (nI 0), .int (nI 0), .null, .int (nI 0), .null, .int (nI 0), .int (nI 0), .int (nI 0), .int (nI 0), .int (nI 0), .int (nI 0), .int (nI 0), .int (nI 0), .int (nI 0), .int (nI 0)]), .inl (gA Γ 0, 48, .inl (lsF [104, 111, 117, 115, 101, 0, 0, 0, 108, 0, 0, 0, 0, 0, 0, 0, 0, 0, 0, 0, 0, 0, 0, 0, 0, 0, 0, 0, 0, 0, 0, 0, 0, 0, 0, 0, 0, 0, 0, 0, 0, 0, 0, 0, 0, 0, 0, 0]))]) (rW_at (i := 1) rfl rfl) (by decide) (by decide) (by rw [rW_set (i := 1) rfl (Nat.le_of_ble_eq_true rfl), lsF_u (by decide)]; rfl) dX8_init_53 ?_
  refine g_dup rfl dX8_init_54 ?_
  refine gn_bp 9 (by decide) dX8_init_55 ?_
  refine gn_bp 97 (by decide) dX8_init_57 ?_
  refine gn_iast (E2 := rW mo F [.inr (11, [.null, .null, .int (nI 0), .null, .null, .null, .int (nI 0), .null, .int (nI 0), .null, .null, .int (nI 0), .int (nI 0), .null, .int (nI 0), .null, .int (nI 0), .int (nI 0), .int (nI 0), .int (nI 0), .int (nI 0), .int (nI 0), .int (nI 0), .int (nI 0), .int (nI 0), .int (nI 0)]), .inl (gA Γ 0, 48, .inl (lsF [104, 111, 117, 115, 101, 0, 0, 0, 108, 97, 0, 0, 0, 0, 0, 0, 0, 0, 0, 0, 0, 0, 0, 0, 0, 0, 0, 0, 0, 0, 0, 0, 0, 0, 0, 0, 0, 0, 0, 0, 0, 0, 0, 0, 0, 0, 0, 0]))]) (rW_at (i := 1) rfl rfl) (by decide) (by decide) (by rw [rW_set (i := 1) rfl (Nat.le_of_ble_eq_true rfl), lsF_u (by decide)]; rfl) dX8_init_59 ?_
  refine g_dup rfl dX8_init_60 ?_
  refine gn_bp 10 (by decide) dX8_init_61 ?_
  refine gn_bp 110 (by decide) dX8_init_63 ?_
  refine gn_iast (E2 := rW mo F [.inr (11, [.null, .null, .int (nI 0), .null, .null, .null, .int (nI 0), .null, .int (nI 0), .null, .null, .int (nI 0), .int (nI 0), .null, .int (nI 0), .null, .int (nI 0), .int (nI 0), .int (nI 0), .int (nI 0), .int (nI 0), .int (nI 0), .int (nI 0), .int (nI 0), .int (nI 0), .int (nI 0)]), .inl (gA Γ 0, 48, .inl (lsF [104, 111, 117, 115, 101, 0, 0, 0, 108, 97, 110, 0, 0, 0, 0, 0, 0, 0, 0, 0, 0, 0, 0, 0, 0, 0, 0, 0, 0, 0, 0, 0, 0, 0, 0, 0, 0, 0, 0, 0, 0, 0, 0, 0, 0, 0, 0, 0]))]) (rW_at (i := 1) rfl rfl) (by decide) (by decide) (by rw [rW_set (i := 1) rfl (Nat.le_of_ble_eq_true rfl), lsF_u (by decide)]; rfl) dX8_init_65 ?_
  refine g_dup rfl dX8_init_66 ?_
  refine gn_bp 11 (by decide) dX8_init_67 ?_
  refine gn_bp 100 (by decide) dX8_init_69 ?_
  refine gn_iast (E2 := rW mo F [.inr (11, [.null, .null, .int (nI 0), .null, .null, .null, .int (nI 0), .null, .int (nI 0), .null, .null, .int (nI 0), .int (nI 0), .null, .int (nI 0), .null, .int (nI 0), .int (nI 0), .int (nI 0), .int (nI 0), .int (nI 0), .int (nI 0), .int (nI 0), .int (nI 0), .int (nI 0), .int (nI 0)]), .inl (gA Γ 0, 48, .inl (lsF [104, 111, 117, 115, 101, 0, 0, 0, 108, 97, 110, 100, 0, 0, 0, 0, 0, 0, 0, 0, 0, 0, 0, 0, 0, 0, 0, 0, 0, 0, 0, 0, 0, 0, 0, 0, 0, 0, 0, 0, 0, 0, 0, 0, 0, 0, 0, 0]))]) (rW_at (i := 1) rfl rfl) (by decide) (by decide) (by rw [rW_set (i := 1) rfl (Nat.le_of_ble_eq_true rfl), lsF_u (by decide)]; rfl) dX8_init_71 ?_
  refine g_dup rfl dX8_init_72 ?_
  refine gn_bp 12 (by decide) dX8_init_73 ?_
  refine gn_bp 108 (by decide) dX8_init_75 ?_
  refine gn_iast (E2 := rW mo F [.inr (11, [.null, .null, .int (nI 0), .null, .null, .null, .int (nI 0), .null, .int (nI 0), .null, .null, .int (nI 0), .int (nI 0), .null, .int (nI 0), .null, .int (nI 0), .int (nI 0), .int (nI 0), .int (nI 0), .int (nI 0), .int (nI 0), .int (nI 0), .int (nI 0), .int (nI 0), .int (nI 0)]), .inl (gA Γ 0, 48, .inl (lsF [104, 111, 117, 115, 101, 0, 0, 0, 108, 97, 110, 100, 108, 0, 0, 0, 0, 0, 0, 0, 0, 0, 0, 0, 0, 0, 0, 0, 0, 0, 0, 0, 0, 0, 0, 0, 0, 0, 0, 0, 0, 0, 0, 0, 0, 0, 0, 0]))]) (rW_at (i := 1) rfl rfl) (by decide) (by decide) (by rw [rW_set (i := 1) rfl (Nat.le_of_ble_eq_true rfl), lsF_u (by decide)]; rfl) dX8_init_77 ?_
  refine g_dup rfl dX8_init_78 ?_
  refine gn_bp 13 (by decide) dX8_init_79 ?_
  refine gn_bp 97 (by decide) dX8_init_81 ?_
  refine gn_iast (E2 := rW mo F [.inr (11, [.null, .null, .int (nI 0), .null, .null, .null, .int (nI 0), .null, .int (nI 0), .null, .null, .int (nI 0), .int (nI 0), .null, .int (nI 0), .null, .int (nI 0), .int (nI 0), .int (nI 0), .int (nI 0), .int (nI 0), .int (nI 0), .int (nI 0), .int (nI 0), .int (nI 0), .int (nI 0)]), .inl (gA Γ 0, 48, .inl (lsF [104, 111, 117, 115, 101, 0, 0, 0, 108, 97, 110, 100, 108, 97, 0, 0, 0, 0, 0, 0, 0, 0, 0, 0, 0, 0, 0, 0, 0, 0, 0, 0, 0, 0, 0, 0, 0, 0, 0, 0, 0, 0, 0, 0, 0, 0, 0, 0]))]) (rW_at (i := 1) rfl rfl) (by decide) (by decide) (by rw [rW_set (i := 1) rfl (Nat.le_of_ble_eq_true rfl), lsF_u (by decide)]; rfl) dX8_init_83 ?_
  refine g_dup rfl dX8_init_84 ?_
  refine gn_bp 14 (by decide) dX8_init_85 ?_
  refine gn_bp 100 (by decide) dX8_init_87 ?_
  refine gn_iast (E2 := rW mo F [.inr (11, [.null, .null, .int (nI 0), .null, .null, .null, .int (nI 0), .null, .int (nI 0), .null, .null, .int (nI 0), .int (nI 0), .null, .int (nI 0), .null, .int (nI 0), .int (nI 0), .int (nI 0), .int (nI 0), .int (nI 0), .int (nI 0), .int (nI 0), .int (nI 0), .int (nI 0), .int (nI 0)]), .inl (gA Γ 0, 48, .inl (lsF [104, 111, 117, 115, 101, 0, 0, 0, 108, 97, 110, 100, 108, 97, 100, 0, 0, 0, 0, 0, 0, 0, 0, 0, 0, 0, 0, 0, 0, 0, 0, 0, 0, 0, 0, 0, 0, 0, 0, 0, 0, 0, 0, 0, 0, 0, 0, 0]))]) (rW_at (i := 1) rfl rfl) (by decide) (by decide) (by rw [rW_set (i := 1) rfl (Nat.le_of_ble_eq_true rfl), lsF_u (by decide)]; rfl) dX8_init_89 ?_
  refine g_dup rfl dX8_init_90 ?_
  refine gn_bp 15 (by decide) dX8_init_91 ?_
  refine gn_bp 121 (by decide) dX8_init_93 ?_
  refine gn_iast (E2 := rW mo F [.inr (11, [.null, .null, .int (nI 0), .null, .null, .null, .int (nI 0), .null, .int (nI 0), .null, .null, .int (nI 0), .int (nI 0), .null, .int (nI 0), .null, .int (nI 0), .int (nI 0), .int (nI 0), .int (nI 0), .int (nI 0), .int (nI 0), .int (nI 0), .int (nI 0), .int (nI 0), .int (nI 0)]), .inl (gA Γ 0, 48, .inl (lsF [104, 111, 117, 115, 101, 0, 0, 0, 108, 97, 110, 100, 108, 97, 100, 121, 0, 0, 0, 0, 0, 0, 0, 0, 0, 0, 0, 0, 0, 0, 0, 0, 0, 0, 0, 0, 0, 0, 0, 0, 0, 0, 0, 0, 0, 0, 0, 0]))]) (rW_at (i := 1) rfl rfl) (by decide) (by decide) (by rw [rW_set (i := 1) rfl (Nat.le_of_ble_eq_true rfl), lsF_u (by decide)]; rfl) dX8_init_95 ?_
  refine g_dup rfl dX8_init_96 ?_
  refine gn_bp 16 (by decide) dX8_init_97 ?_
  refine gn_bp 108 (by decide) dX8_init_99 ?_
  refine gn_iast (E2 := rW mo F [.inr (11, [.null, .null, .int (nI 0), .null, .null, .null, .int (nI 0), .null, .int (nI 0), .null, .null, .int (nI 0), .int (nI 0), .null, .int (nI 0), .null, .int (nI 0), .int (nI 0), .int (nI 0), .int (nI 0), .int (nI 0), .int (nI 0), .int (nI 0), .int (nI 0), .int (nI 0), .int (nI 0)]), .inl (gA Γ 0, 48, .inl (lsF [104, 111, 117, 115, 101, 0, 0, 0, 108, 97, 110, 100, 108, 97, 100, 121, 108, 0, 0, 0, 0, 0, 0, 0, 0, 0, 0, 0, 0, 0, 0, 0, 0, 0, 0, 0, 0, 0, 0, 0, 0, 0, 0, 0, 0, 0, 0, 0]))]) (rW_at (i := 1) rfl rfl) (by decide) (by decide) (by rw [rW_set (i := 1) rfl (Nat.le_of_ble_eq_true rfl), lsF_u (by decide)]; rfl) dX8_init_101 ?_
  refine g_dup rfl dX8_init_102 ?_
  refine gn_bp 17 (by decide) dX8_init_103 ?_
  refine gn_bp 111 (by decide) dX8_init_105 ?_
  refine gn_iast (E2 := rW mo F [.inr (11, [.null, .null, .int (nI 0), .null, .null, .null, .int (nI 0), .null, .int (nI 0), .null, .null, .int (nI 0), .int (nI 0), .null, .int (nI 0), .null, .int (nI 0), .int (nI 0), .int (nI 0), .int (nI 0), .int (nI 0), .int (nI 0), .int (nI 0), .int (nI 0), .int (nI 0), .int (nI 0)]), .inl (gA Γ 0, 48, .inl (lsF [104, 111, 117, 115, 101, 0, 0, 0, 108, 97, 110, 100, 108, 97, 100, 121, 108, 111, 0, 0, 0, 0, 0, 0, 0, 0, 0, 0, 0, 0, 0, 0, 0, 0, 0, 0, 0, 0, 0, 0, 0, 0, 0, 0, 0, 0, 0, 0]))]) (rW_at (i := 1) rfl rfl) (by decide) (by decide) (by rw [rW_set (i := 1) rfl (Nat.le_of_ble_eq_true rfl), lsF_u (by decide)]; rfl) dX8_init_107 ?_
  refine g_dup rfl dX8_init_108 ?_
  refine gn_bp 18 (by decide) dX8_init_109 ?_
  refine gn_bp 100 (by decide) dX8_init_111 ?_
  refine gn_iast (E2 := rW mo F [.inr (11, [.null, .null, .int (nI 0), .null, .null, .null, .int (nI 0), .null, .int (nI 0), .null, .null, .int (nI 0), .int (nI 0), .null, .int (nI 0), .null, .int (nI 0), .int (nI 0), .int (nI 0), .int (nI 0), .int (nI 0), .int (nI 0), .int (nI 0), .int (nI 0), .int (nI 0), .int (nI 0)]), .inl (gA Γ 0, 48, .inl (lsF [104, 111, 117, 115, 101, 0, 0, 0, 108, 97, 110, 100, 108, 97, 100, 121, 108, 111, 100, 0, 0, 0, 0, 0, 0, 0, 0, 0, 0, 0, 0, 0, 0, 0, 0, 0, 0, 0, 0, 0, 0, 0, 0, 0, 0, 0, 0, 0]))]) (rW_at (i := 1) rfl rfl) (by decide) (by decide) (by rw [rW_set (i := 1) rfl (Nat.le_of_ble_eq_true rfl), lsF_u (by decide)]; rfl) dX8_init_113 ?_
  refine g_dup rfl dX8_init_114 ?_
  refine gn_bp 19 (by decide) dX8_init_115 ?_
  refine gn_bp 103 (by decide) dX8_init_117 ?_
  refine gn_iast (E2 := rW mo F [.inr (11, [.null, .null, .int (nI 0), .null, .null, .null, .int (nI 0), .null, .int (nI 0), .null, .null, .int (nI 0), .int (nI 0), .null, .int (nI 0), .null, .int (nI 0), .int (nI 0), .int (nI 0), .int (nI 0), .int (nI 0), .int (nI 0), .int (nI 0), .int (nI 0), .int (nI 0), .int (nI 0)]), .inl (gA Γ 0, 48, .inl (lsF [104, 111, 117, 115, 101, 0, 0, 0, 108, 97, 110, 100, 108, 97, 100, 121, 108, 111, 100, 103, 0, 0, 0, 0, 0, 0, 0, 0, 0, 0, 0, 0, 0, 0, 0, 0, 0, 0, 0, 0, 0, 0, 0, 0, 0, 0, 0, 0]))]) (rW_at (i := 1) rfl rfl) (by decide) (by decide) (by rw [rW_set (i := 1) rfl (Nat.le_of_ble_eq_true rfl), lsF_u (by decide)]; rfl) dX8_init_119 ?_
  refine g_dup rfl dX8_init_120 ?_
  refine gn_bp 20 (by decide) dX8_init_121 ?_
  refine gn_bp 101 (by decide) dX8_init_123 ?_
  refine gn_iast (E2 := rW mo F [.inr (11, [.null, .null, .int (nI 0), .null, .null, .null, .int (nI 0), .null, .int (nI 0), .null, .null, .int (nI 0), .int (nI 0), .null, .int (nI 0), .null, .int (nI 0), .int (nI 0), .int (nI 0), .int (nI 0), .int (nI 0), .int (nI 0), .int (nI 0), .int (nI 0), .int (nI 0), .int (nI 0)]), .inl (gA Γ 0, 48, .inl (lsF [104, 111, 117, 115, 101, 0, 0, 0, 108, 97, 110, 100, 108, 97, 100, 121, 108, 111, 100, 103, 101, 0, 0, 0, 0, 0, 0, 0, 0, 0, 0, 0, 0, 0, 0, 0, 0, 0, 0, 0, 0, 0, 0, 0, 0, 0, 0, 0]))]) (rW_at (i := 1) rfl rfl) (by decide) (by decide) (by rw [rW_set (i := 1) rfl (Nat.le_of_ble_eq_true rfl), lsF_u (by decide)]; rfl) dX8_init_125 ?_
  refine g_dup rfl dX8_init_126 ?_
  refine gn_bp 21 (by decide) dX8_init_127 ?_
  refine gn_bp 114 (by decide) dX8_init_129 ?_
  refine gn_iast (E2 := rW mo F [.inr (11, [.null, .null, .int (nI 0), .null, .null, .null, .int (nI 0), .null, .int (nI 0), .null, .null, .int (nI 0), .int (nI 0), .null, .int (nI 0), .null, .int (nI 0), .int (nI 0), .int (nI 0), .int (nI 0), .int (nI 0), .int (nI 0), .int (nI 0), .int (nI 0), .int (nI 0), .int (nI 0)]), .inl (gA Γ 0, 48, .inl (lsF [104, 111, 117, 115, 101, 0, 0, 0, 108, 97, 110, 100, 108, 97, 100, 121, 108, 111, 100, 103, 101, 114, 0, 0, 0, 0, 0, 0, 0, 0, 0, 0, 0, 0, 0, 0, 0, 0, 0, 0, 0, 0, 0, 0, 0, 0, 0, 0]))]) (rW_at (i := 1) rfl rfl) (by decide) (by decide) (by rw [rW_set (i := 1) rfl (Nat.le_of_ble_eq_true rfl), lsF_u (by decide)]; rfl) dX8_init_131 ?_
  refine g_dup rfl dX8_init_132 ?_
  refine gn_bp 22 (by decide) dX8_init_133 ?_
  refine gn_ic 0 (by decide) dX8_init_135 ?_
  refine gn_iast (E2 := rW mo F [.inr (11, [.null, .null, .int (nI 0), .null, .null, .null, .int (nI 0), .null, .int (nI 0), .null, .null, .int (nI 0), .int (nI 0), .null, .int (nI 0), .null, .int (nI 0), .int (nI 0), .int (nI 0), .int (nI 0), .int (nI 0), .int (nI 0), .int (nI 0), .int (nI 0), .int (nI 0), .int (nI 0)]), .inl (gA Γ 0, 48, .inl (lsF [104, 111, 117, 115, 101, 0, 0, 0, 108, 97, 110, 100, 108, 97, 100, 121, 108, 111, 100, 103, 101, 114, 0, 0, 0, 0, 0, 0, 0, 0, 0, 0, 0, 0, 0, 0, 0, 0, 0, 0, 0, 0, 0, 0, 0, 0, 0, 0]))]) (rW_at (i := 1) rfl rfl) (by decide) (by decide) (by rw [rW_set (i := 1) rfl (Nat.le_of_ble_eq_true rfl), lsF_u (by decide)]; rfl) dX8_init_136 ?_
  refine g_dup rfl dX8_init_137 ?_
  refine gn_bp 23 (by decide) dX8_init_138 ?_
  refine gn_ic 0 (by decide) dX8_init_140 ?_
  refine gn_iast (E2 := rW mo F [.inr (11, [.null, .null, .int (nI 0), .null, .null, .null, .int (nI 0), .null, .int (nI 0), .null, .null, .int (nI 0), .int (nI 0), .null, .int (nI 0), .null, .int (nI 0), .int (nI 0), .int (nI 0), .int (nI 0), .int (nI 0), .int (nI 0), .int (nI 0), .int (nI 0), .int (nI 0), .int (nI 0)]), .inl (gA Γ 0, 48, .inl (lsF [104, 111, 117, 115, 101, 0, 0, 0, 108, 97, 110, 100, 108, 97, 100, 121, 108, 111, 100, 103, 101, 114, 0, 0, 0, 0, 0, 0, 0, 0, 0, 0, 0, 0, 0, 0, 0, 0, 0, 0, 0, 0, 0, 0, 0, 0, 0, 0]))]) (rW_at (i := 1) rfl rfl) (by decide) (by decide) (by rw [rW_set (i := 1) rfl (Nat.le_of_ble_eq_true rfl), lsF_u (by decide)]; rfl) dX8_init_141 ?_
  refine g_dup rfl dX8_init_142 ?_
  refine gn_bp 24 (by decide) dX8_init_143 ?_
  refine gn_bp 112 (by decide) dX8_init_145 ?_
  refine gn_iast (E2 := rW mo F [.inr (11, [.null, .null, .int (nI 0), .null, .null, .null, .int (nI 0), .null, .int (nI 0), .null, .null, .int (nI 0), .int (nI 0), .null, .int (nI 0), .null, .int (nI 0), .int (nI 0), .int (nI 0), .int (nI 0), .int (nI 0), .int (nI 0), .int (nI 0), .int (nI 0), .int (nI 0), .int (nI 0)]), .inl (gA Γ 0, 48, .inl (lsF [104, 111, 117, 115, 101, 0, 0, 0, 108, 97, 110, 100, 108, 97, 100, 121, 108, 111, 100, 103, 101, 114, 0, 0, 112, 0, 0, 0, 0, 0, 0, 0, 0, 0, 0, 0, 0, 0, 0, 0, 0, 0, 0, 0, 0, 0, 0, 0]))]) (rW_at (i := 1) rfl rfl) (by decide) (by decide) (by rw [rW_set (i := 1) rfl (Nat.le_of_ble_eq_true rfl), lsF_u (by decide)]; rfl) dX8_init_147 ?_
  refine g_dup rfl dX8_init_148 ?_
  refine gn_bp 25 (by decide) dX8_init_149 ?_
  refine gn_bp 97 (by decide) dX8_init_151 ?_
  refine gn_iast (E2 := rW mo F [.inr (11, [.null, .null, .int (nI 0), .null, .null, .null, .int (nI 0), .null, .int (nI 0), .null, .null, .int (nI 0), .int (nI 0), .null, .int (nI 0), .null, .int (nI 0), .int (nI 0), .int (nI 0), .int (nI 0), .int (nI 0), .int (nI 0), .int (nI 0), .int (nI 0), .int (nI 0), .int (nI 0)]), .inl (gA Γ 0, 48, .inl (lsF [104, 111, 117, 115, 101, 0, 0, 0, 108, 97, 110, 100, 108, 97, 100, 121, 108, 111, 100, 103, 101, 114, 0, 0, 112, 97, 0, 0, 0, 0, 0, 0, 0, 0, 0, 0, 0, 0, 0, 0, 0, 0, 0, 0, 0, 0, 0, 0]))]) (rW_at (i := 1) rfl rfl) (by decide) (by decide) (by rw [rW_set (i := 1) rfl (Nat.le_of_ble_eq_true rfl), lsF_u (by decide)]; rfl) dX8_init_153 ?_
  refine g_dup rfl dX8_init_154 ?_
  refine gn_bp 26 (by decide) dX8_init_155 ?_
  refine gn_bp 121 (by decide) dX8_init_157 ?_
  refine gn_iast (E2 := rW mo F [.inr (11, [.null, .null, .int (nI 0), .null, .null, .null, .int (nI 0), .null, .int (nI 0), .null, .null, .int (nI 0), .int (nI 0), .null, .int (nI 0), .null, .int (nI 0), .int (nI 0), .int (nI 0), .int (nI 0), .int (nI 0), .int (nI 0), .int (nI 0), .int (nI 0), .int (nI 0), .int (nI 0)]), .inl (gA Γ 0, 48, .inl (lsF [104, 111, 117, 115, 101, 0, 0, 0, 108, 97, 110, 100, 108, 97, 100, 121, 108, 111, 100, 103, 101, 114, 0, 0, 112, 97, 121, 0, 0, 0, 0, 0, 0, 0, 0, 0, 0, 0, 0, 0, 0, 0, 0, 0, 0, 0, 0, 0]))]) (rW_at (i := 1) rfl rfl) (by decide) (by decide) (by rw [rW_set (i := 1) rfl (Nat.le_of_ble_eq_true rfl), lsF_u (by decide)]; rfl) dX8_init_159 ?_
  refine g_dup rfl dX8_init_160 ?_
  refine gn_bp 27 (by decide) dX8_init_161 ?_
  refine gn_ic 0 (by decide) dX8_init_163 ?_
  refine gn_iast (E2 := rW mo F [.inr (11, [.null, .null, .int (nI 0), .null, .null, .null, .int (nI 0), .null, .int (nI 0), .null, .null, .int (nI 0), .int (nI 0), .null, .int (nI 0), .null, .int (nI 0), .int (nI 0), .int (nI 0), .int (nI 0), .int (nI 0), .int (nI 0), .int (nI 0), .int (nI 0), .int (nI 0), .int (nI 0)]), .inl (gA Γ 0, 48, .inl (lsF [104, 111, 117, 115, 101, 0, 0, 0, 108, 97, 110, 100, 108, 97, 100, 121, 108, 111, 100, 103, 101, 114, 0, 0, 112, 97, 121, 0, 0, 0, 0, 0, 0, 0, 0, 0, 0, 0, 0, 0, 0, 0, 0, 0, 0, 0, 0, 0]))]) (rW_at (i := 1) rfl rfl) (by decide) (by decide) (by rw [rW_set (i := 1) rfl (Nat.le_of_ble_eq_true rfl), lsF_u (by decide)]; rfl) dX8_init_164 ?_
  refine g_dup rfl dX8_init_165 ?_
  refine gn_bp 28 (by decide) dX8_init_166 ?_
  refine gn_ic 0 (by decide) dX8_init_168 ?_
  refine gn_iast (E2 := rW mo F [.inr (11, [.null, .null, .int (nI 0), .null, .null, .null, .int (nI 0), .null, .int (nI 0), .null, .null, .int (nI 0), .int (nI 0), .null, .int (nI 0), .null, .int (nI 0), .int (nI 0), .int (nI 0), .int (nI 0), .int (nI 0), .int (nI 0), .int (nI 0), .int (nI 0), .int (nI 0), .int (nI 0)]), .inl (gA Γ 0, 48, .inl (lsF [104, 111, 117, 115, 101, 0, 0, 0, 108, 97, 110, 100, 108, 97, 100, 121, 108, 111, 100, 103, 101, 114, 0, 0, 112, 97, 121, 0, 0, 0, 0, 0, 0, 0, 0, 0, 0, 0, 0, 0, 0, 0, 0, 0, 0, 0, 0, 0]))]) (rW_at (i := 1) rfl rfl) (by decide) (by decide) (by rw [rW_set (i := 1) rfl (Nat.le_of_ble_eq_true rfl), lsF_u (by decide)]; rfl) dX8_init_169 ?_
  refine g_dup rfl dX8_init_170 ?_
  refine gn_bp 29 (by decide) dX8_init_171 ?_
  refine gn_ic 0 (by decide) dX8_init_173 ?_
  refine gn_iast (E2 := rW mo F [.inr (11, [.null, .null, .int (nI 0), .null, .null, .null, .int (nI 0), .null, .int (nI 0), .null, .null, .int (nI 0), .int (nI 0), .null, .int (nI 0), .null, .int (nI 0), .int (nI 0), .int (nI 0), .int (nI 0), .int (nI 0), .int (nI 0), .int (nI 0), .int (nI 0), .int (nI 0), .int (nI 0)]), .inl (gA Γ 0, 48, .inl (lsF [104, 111, 117, 115, 101, 0, 0, 0, 108, 97, 110, 100, 108, 97, 100, 121, 108, 111, 100, 103, 101, 114, 0, 0, 112, 97, 121, 0, 0, 0, 0, 0, 0, 0, 0, 0, 0, 0, 0, 0, 0, 0, 0, 0, 0, 0, 0, 0]))]) (rW_at (i := 1) rfl rfl) (by decide) (by decide) (by rw [rW_set (i := 1) rfl (Nat.le_of_ble_eq_true rfl), lsF_u (by decide)]; rfl) dX8_init_174 ?_
  refine g_dup rfl dX8_init_175 ?_
  refine gn_bp 30 (by decide) dX8_init_176 ?_
  refine gn_ic 0 (by decide) dX8_init_178 ?_
  refine gn_iast (E2 := rW mo F [.inr (11, [.null, .null, .int (nI 0), .null, .null, .null, .int (nI 0), .null, .int (nI 0), .null, .null, .int (nI 0), .int (nI 0), .null, .int (nI 0), .null, .int (nI 0), .int (nI 0), .int (nI 0), .int (nI 0), .int (nI 0), .int (nI 0), .int (nI 0), .int (nI 0), .int (nI 0), .int (nI 0)]), .inl (gA Γ 0, 48, .inl (lsF [104, 111, 117, 115, 101, 0, 0, 0, 108, 97, 110, 100, 108, 97, 100, 121, 108, 111, 100, 103, 101, 114, 0, 0, 112, 97, 121, 0, 0, 0, 0, 0, 0, 0, 0, 0, 0, 0, 0, 0, 0, 0, 0, 0, 0, 0, 0, 0]))]) (rW_at (i := 1) rfl rfl) (by decide) (by decide) (by rw [rW_set (i := 1) rfl (Nat.le_of_ble_eq_true rfl), lsF_u (by decide)]; rfl) dX8_init_179 ?_
  refine g_dup rfl dX8_init_180 ?_
  refine gn_bp 31 (by decide) dX8_init_181 ?_
  refine gn_ic 0 (by decide) dX8_init_183 ?_
  refine gn_iast (E2 := rW mo F [.inr (11, [.null, .null, .int (nI 0), .null, .null, .null, .int (nI 0), .null, .int (nI 0), .null, .null, .int (nI 0), .int (nI 0), .null, .int (nI 0), .null, .int (nI 0), .int (nI 0), .int (nI 0), .int (nI 0), .int (nI 0), .int (nI 0), .int (nI 0), .int (nI 0), .int (nI 0), .int (nI 0)]), .inl (gA Γ 0, 48, .inl (lsF [104, 111, 117, 115, 101, 0, 0, 0, 108, 97, 110, 100, 108, 97, 100, 121, 108, 111, 100, 103, 101, 114, 0, 0, 112, 97, 121, 0, 0, 0, 0, 0, 0, 0, 0, 0, 0, 0, 0, 0, 0, 0, 0, 0, 0, 0, 0, 0]))]) (rW_at (i := 1) rfl rfl) (by decide) (by decide) (by rw [rW_set (i := 1) rfl (Nat.le_of_ble_eq_true rfl), lsF_u (by decide)]; rfl) dX8_init_184 ?_
  refine g_dup rfl dX8_init_185 ?_
  refine gn_bp 32 (by decide) dX8_init_186 ?_
  refine gn_bp 109 (by decide) dX8_init_188 ?_
  refine gn_iast (E2 := rW mo F [.inr (11, [.null, .null, .int (nI 0), .null, .null, .null, .int (nI 0), .null, .int (nI 0), .null, .null, .int (nI 0), .int (nI 0), .null, .int (nI 0), .null, .int (nI 0), .int (nI 0), .int (nI 0), .int (nI 0), .int (nI 0), .int (nI 0), .int (nI 0), .int (nI 0), .int (nI 0), .int (nI 0)]), .inl (gA Γ 0, 48, .inl (lsF [104, 111, 117, 115, 101, 0, 0, 0, 108, 97, 110, 100, 108, 97, 100, 121, 108, 111, 100, 103, 101, 114, 0, 0, 112, 97, 121, 0, 0, 0, 0, 0, 109, 0, 0, 0, 0, 0, 0, 0, 0, 0, 0, 0, 0, 0, 0, 0]))]) (rW_at (i := 1) rfl rfl) (by decide) (by decide) (by rw [rW_set (i := 1) rfl (Nat.le_of_ble_eq_true rfl), lsF_u (by decide)]; rfl) dX8_init_190 ?_
  refine g_dup rfl dX8_init_191 ?_
  refine gn_bp 33 (by decide) dX8_init_192 ?_
  refine gn_bp 111 (by decide) dX8_init_194 ?_
  refine gn_iast (E2 := rW mo F [.inr (11, [.null, .null, .int (nI 0), .null, .null, .null, .int (nI 0), .null, .int (nI 0), .null, .null, .int (nI 0), .int (nI 0), .null, .int (nI 0), .null, .int (nI 0), .int (nI 0), .int (nI 0), .int (nI 0), .int (nI 0), .int (nI 0), .int (nI 0), .int (nI 0), .int (nI 0), .int (nI 0)]), .inl (gA Γ 0, 48, .inl (lsF [104, 111, 117, 115, 101, 0, 0, 0, 108, 97, 110, 100, 108, 97, 100, 121, 108, 111, 100, 103, 101, 114, 0, 0, 112, 97, 121, 0, 0, 0, 0, 0, 109, 111, 0, 0, 0, 0, 0, 0, 0, 0, 0, 0, 0, 0, 0, 0]))]) (rW_at (i := 1) rfl rfl) (by decide) (by decide) (by rw [rW_set (i := 1) rfl (Nat.le_of_ble_eq_true rfl), lsF_u (by decide)]; rfl) dX8_init_196 ?_
  refine g_dup rfl dX8_init_197 ?_
  refine gn_bp 34 (by decide) dX8_init_198 ?_
  refine gn_bp 118 (by decide) dX8_init_200 ?_
  refine gn_iast (E2 := rW mo F [.inr (11, [.null, .null, .int (nI 0), .null, .null, .null, .int (nI 0), .null, .int (nI 0), .null, .null, .int (nI 0), .int (nI 0), .null, .int (nI 0), .null, .int (nI 0), .int (nI 0), .int (nI 0), .int (nI 0), .int (nI 0), .int (nI 0), .int (nI 0), .int (nI 0), .int (nI 0), .int (nI 0)]), .inl (gA Γ 0, 48, .inl (lsF [104, 111, 117, 115, 101, 0, 0, 0, 108, 97, 110, 100, 108, 97, 100, 121, 108, 111, 100, 103, 101, 114, 0, 0, 112, 97, 121, 0, 0, 0, 0, 0, 109, 111, 118, 0, 0, 0, 0, 0, 0, 0, 0, 0, 0, 0, 0, 0]))]) (rW_at (i := 1) rfl rfl) (by decide) (by decide) (by rw [rW_set (i := 1) rfl (Nat.le_of_ble_eq_true rfl), lsF_u (by decide)]; rfl) dX8_init_202 ?_
  refine g_dup rfl dX8_init_203 ?_
  refine gn_bp 35 (by decide) dX8_init_204 ?_
  refine gn_bp 101 (by decide) dX8_init_206 ?_
  refine gn_iast (E2 := rW mo F [.inr (11, [.null, .null, .int (nI 0), .null, .null, .null, .int (nI 0), .null, .int (nI 0), .null, .null, .int (nI 0), .int (nI 0), .null, .int (nI 0), .null, .int (nI 0), .int (nI 0), .int (nI 0), .int (nI 0), .int (nI 0), .int (nI 0), .int (nI 0), .int (nI 0), .int (nI 0), .int (nI 0)]), .inl (gA Γ 0, 48, .inl (lsF [104, 111, 117, 115, 101, 0, 0, 0, 108, 97, 110, 100, 108, 97, 100, 121, 108, 111, 100, 103, 101, 114, 0, 0, 112, 97, 121, 0, 0, 0, 0, 0, 109, 111, 118, 101, 0, 0, 0, 0, 0, 0, 0, 0, 0, 0, 0, 0]))]) (rW_at (i := 1) rfl rfl) (by decide) (by decide) (by rw [rW_set (i := 1) rfl (Nat.le_of_ble_eq_true rfl), lsF_u (by decide)]; rfl) dX8_init_208 ?_
  refine g_dup rfl dX8_init_209 ?_
  refine gn_bp 36 (by decide) dX8_init_210 ?_
  refine gn_ic 0 (by decide) dX8_init_212 ?_
  refine gn_iast (E2 := rW mo F [.inr (11, [.null, .null, .int (nI 0), .null, .null, .null, .int (nI 0), .null, .int (nI 0), .null, .null, .int (nI 0), .int (nI 0), .null, .int (nI 0), .null, .int (nI 0), .int (nI 0), .int (nI 0), .int (nI 0), .int (nI 0), .int (nI 0), .int (nI 0), .int (nI 0), .int (nI 0), .int (nI 0)]), .inl (gA Γ 0, 48, .inl (lsF [104, 111, 117, 115, 101, 0, 0, 0, 108, 97, 110, 100, 108, 97, 100, 121, 108, 111, 100, 103, 101, 114, 0, 0, 112, 97, 121, 0, 0, 0, 0, 0, 109, 111, 118, 101, 0, 0, 0, 0, 0, 0, 0, 0, 0, 0, 0, 0]))]) (rW_at (i := 1) rfl rfl) (by decide) (by decide) (by rw [rW_set (i := 1) rfl (Nat.le_of_ble_eq_true rfl), lsF_u (by decide)]; rfl) dX8_init_213 ?_
  refine g_dup rfl dX8_init_214 ?_
  refine gn_bp 37 (by decide) dX8_init_215 ?_
  refine gn_ic 0 (by decide) dX8_init_217 ?_
  refine gn_iast (E2 := rW mo F [.inr (11, [.null, .null, .int (nI 0), .null, .null, .null, .int (nI 0), .null, .int (nI 0), .null, .null, .int (nI 0), .int (nI 0), .null, .int (nI 0), .null, .int (nI 0), .int (nI 0), .int (nI 0), .int (nI 0), .int (nI 0), .int (nI 0), .int (nI 0), .int (nI 0), .int (nI 0), .int (nI 0)]), .inl (gA Γ 0, 48, .inl (lsF [104, 111, 117, 115, 101, 0, 0, 0, 108, 97, 110, 100, 108, 97, 100, 121, 108, 111, 100, 103, 101, 114, 0, 0, 112, 97, 121, 0, 0, 0, 0, 0, 109, 111, 118, 101, 0, 0, 0, 0, 0, 0, 0, 0, 0, 0, 0, 0]))]) (rW_at (i := 1) rfl rfl) (by decide) (by decide) (by rw [rW_set (i := 1) rfl (Nat.le_of_ble_eq_true rfl), lsF_u (by decide)]; rfl) dX8_init_218 ?_
  refine g_dup rfl dX8_init_219 ?_
  refine gn_bp 38 (by decide) dX8_init_220 ?_
  refine gn_ic 0 (by decide) dX8_init_222 ?_
  refine gn_iast (E2 := rW mo F [.inr (11, [.null, .null, .int (nI 0), .null, .null, .null, .int (nI 0), .null, .int (nI 0), .null, .null, .int (nI 0), .int (nI 0), .null, .int (nI 0), .null, .int (nI 0), .int (nI 0), .int (nI 0), .int (nI 0), .int (nI 0), .int (nI 0), .int (nI 0), .int (nI 0), .int (nI 0), .int (nI 0)]), .inl (gA Γ 0, 48, .inl (lsF [104, 111, 117, 115, 101, 0, 0, 0, 108, 97, 110, 100, 108, 97, 100, 121, 108, 111, 100, 103, 101, 114, 0, 0, 112, 97, 121, 0, 0, 0, 0, 0, 109, 111, 118, 101, 0, 0, 0, 0, 0, 0, 0, 0, 0, 0, 0, 0]))]) (rW_at (i := 1) rfl rfl) (by decide) (by decide) (by rw [rW_set (i := 1) rfl (Nat.le_of_ble_eq_true rfl), lsF_u (by decide)]; rfl) dX8_init_223 ?_
  refine g_dup rfl dX8_init_224 ?_
  refine gn_bp 39 (by decide) dX8_init_225 ?_
  refine gn_ic 0 (by decide) dX8_init_227 ?_
  refine gn_iast (E2 := rW mo F [.inr (11, [.null, .null, .int (nI 0), .null, .null, .null, .int (nI 0), .null, .int (nI 0), .null, .null, .int (nI 0), .int (nI 0), .null, .int (nI 0), .null, .int (nI 0), .int (nI 0), .int (nI 0), .int (nI 0), .int (nI 0), .int (nI 0), .int (nI 0), .int (nI 0), .int (nI 0), .int (nI 0)]), .inl (gA Γ 0, 48, .inl (lsF [104, 111, 117, 115, 101, 0, 0, 0, 108, 97, 110, 100, 108, 97, 100, 121, 108, 111, 100, 103, 101, 114, 0, 0, 112, 97, 121, 0, 0, 0, 0, 0, 109, 111, 118, 101, 0, 0, 0, 0, 0, 0, 0, 0, 0, 0, 0, 0]))]) (rW_at (i := 1) rfl rfl) (by decide) (by decide) (by rw [rW_set (i := 1) rfl (Nat.le_of_ble_eq_true rfl), lsF_u (by decide)]; rfl) dX8_init_228 ?_
  refine g_dup rfl dX8_init_229 ?_
  refine gn_bp 40 (by decide) dX8_init_230 ?_
  refine gn_bp 100 (by decide) dX8_init_232 ?_
  refine gn_iast (E2 := rW mo F [.inr (11, [.null, .null, .int (nI 0), .null, .null, .null, .int (nI 0), .null, .int (nI 0), .null, .null, .int (nI 0), .int (nI 0), .null, .int (nI 0), .null, .int (nI 0), .int (nI 0), .int (nI 0), .int (nI 0), .int (nI 0), .int (nI 0), .int (nI 0), .int (nI 0), .int (nI 0), .int (nI 0)]), .inl (gA Γ 0, 48, .inl (lsF [104, 111, 117, 115, 101, 0, 0, 0, 108, 97, 110, 100, 108, 97, 100, 121, 108, 111, 100, 103, 101, 114, 0, 0, 112, 97, 121, 0, 0, 0, 0, 0, 109, 111, 118, 101, 0, 0, 0, 0, 100, 0, 0, 0, 0, 0, 0, 0]))]) (rW_at (i := 1) rfl rfl) (by decide) (by decide) (by rw [rW_set (i := 1) rfl (Nat.le_of_ble_eq_true rfl), lsF_u (by decide)]; rfl) dX8_init_234 ?_
  refine g_dup rfl dX8_init_235 ?_
  refine gn_bp 41 (by decide) dX8_init_236 ?_
  refine gn_bp 97 (by decide) dX8_init_238 ?_
  refine gn_iast (E2 := rW mo F [.inr (11, [.null, .null, .int (nI 0), .null, .null, .null, .int (nI 0), .null, .int (nI 0), .null, .null, .int (nI 0), .int (nI 0), .null, .int (nI 0), .null, .int (nI 0), .int (nI 0), .int (nI 0), .int (nI 0), .int (nI 0), .int (nI 0), .int (nI 0), .int (nI 0), .int (nI 0), .int (nI 0)]), .inl (gA Γ 0, 48, .inl (lsF [104, 111, 117, 115, 101, 0, 0, 0, 108, 97, 110, 100, 108, 97, 100, 121, 108, 111, 100, 103, 101, 114, 0, 0, 112, 97, 121, 0, 0, 0, 0, 0, 109, 111, 118, 101, 0, 0, 0, 0, 100, 97, 0, 0, 0, 0, 0, 0]))]) (rW_at (i := 1) rfl rfl) (by decide) (by decide) (by rw [rW_set (i := 1) rfl (Nat.le_of_ble_eq_true rfl), lsF_u (by decide)]; rfl) dX8_init_240 ?_
  refine g_dup rfl dX8_init_241 ?_
  refine gn_bp 42 (by decide) dX8_init_242 ?_
  refine gn_bp 121 (by decide) dX8_init_244 ?_
  refine gn_iast (E2 := rW mo F [.inr (11, [.null, .null, .int (nI 0), .null, .null, .null, .int (nI 0), .null, .int (nI 0), .null, .null, .int (nI 0), .int (nI 0), .null, .int (nI 0), .null, .int (nI 0), .int (nI 0), .int (nI 0), .int (nI 0), .int (nI 0), .int (nI 0), .int (nI 0), .int (nI 0), .int (nI 0), .int (nI 0)]), .inl (gA Γ 0, 48, .inl (lsF [104, 111, 117, 115, 101, 0, 0, 0, 108, 97, 110, 100, 108, 97, 100, 121, 108, 111, 100, 103, 101, 114, 0, 0, 112, 97, 121, 0, 0, 0, 0, 0, 109, 111, 118, 101, 0, 0, 0, 0, 100, 97, 121, 0, 0, 0, 0, 0]))]) (rW_at (i := 1) rfl rfl) (by decide) (by decide) (by rw [rW_set (i := 1) rfl (Nat.le_of_ble_eq_true rfl), lsF_u (by decide)]; rfl) dX8_init_246 ?_
  refine g_dup rfl dX8_init_247 ?_
  refine gn_bp 43 (by decide) dX8_init_248 ?_
  refine gn_bp 115 (by decide) dX8_init_250 ?_
  refine gn_iast (E2 := rW mo F [.inr (11, [.null, .null, .int (nI 0), .null, .null, .null, .int (nI 0), .null, .int (nI 0), .null, .null, .int (nI 0), .int (nI 0), .null, .int (nI 0), .null, .int (nI 0), .int (nI 0), .int (nI 0), .int (nI 0), .int (nI 0), .int (nI 0), .int (nI 0), .int (nI 0), .int (nI 0), .int (nI 0)]), .inl (gA Γ 0, 48, .inl (lsF [104, 111, 117, 115, 101, 0, 0, 0, 108, 97, 110, 100, 108, 97, 100, 121, 108, 111, 100, 103, 101, 114, 0, 0, 112, 97, 121, 0, 0, 0, 0, 0, 109, 111, 118, 101, 0, 0, 0, 0, 100, 97, 121, 115, 0, 0, 0, 0]))]) (rW_at (i := 1) rfl rfl) (by decide) (by decide) (by rw [rW_set (i := 1) rfl (Nat.le_of_ble_eq_true rfl), lsF_u (by decide)]; rfl) dX8_init_252 ?_
  refine g_dup rfl dX8_init_253 ?_
  refine gn_bp 44 (by decide) dX8_init_254 ?_
  refine gn_ic 0 (by decide) dX8_init_256 ?_
  refine gn_iast (E2 := rW mo F [.inr (11, [.null, .null, .int (nI 0), .null, .null, .null, .int (nI 0), .null, .int (nI 0), .null, .null, .int (nI 0), .int (nI 0), .null, .int (nI 0), .null, .int (nI 0), .int (nI 0), .int (nI 0), .int (nI 0), .int (nI 0), .int (nI 0), .int (nI 0), .int (nI 0), .int (nI 0), .int (nI 0)]), .inl (gA Γ 0, 48, .inl (lsF [104, 111, 117, 115, 101, 0, 0, 0, 108, 97, 110, 100, 108, 97, 100, 121, 108, 111, 100, 103, 101, 114, 0, 0, 112, 97, 121, 0, 0, 0, 0, 0, 109, 111, 118, 101, 0, 0, 0, 0, 100, 97, 121, 115, 0, 0, 0, 0]))]) (rW_at (i := 1) rfl rfl) (by decide) (by decide) (by rw [rW_set (i := 1) rfl (Nat.le_of_ble_eq_true rfl), lsF_u (by decide)]; rfl) dX8_init_257 ?_
  refine g_dup rfl dX8_init_258 ?_
  refine gn_bp 45 (by decide) dX8_init_259 ?_
  refine gn_ic 0 (by decide) dX8_init_261 ?_
  refine gn_iast (E2 := rW mo F [.inr (11, [.null, .null, .int (nI 0), .null, .null, .null, .int (nI 0), .null, .int (nI 0), .null, .null, .int (nI 0), .int (nI 0), .null, .int (nI 0), .null, .int (nI 0), .int (nI 0), .int (nI 0), .int (nI 0), .int (nI 0), .int (nI 0), .int (nI 0), .int (nI 0), .int (nI 0), .int (nI 0)]), .inl (gA Γ 0, 48, .inl (lsF [104, 111, 117, 115, 101, 0, 0, 0, 108, 97, 110, 100, 108, 97, 100, 121, 108, 111, 100, 103, 101, 114, 0, 0, 112, 97, 121, 0, 0, 0, 0, 0, 109, 111, 118, 101, 0, 0, 0, 0, 100, 97, 121, 115, 0, 0, 0, 0]))]) (rW_at (i := 1) rfl rfl) (by decide) (by decide) (by rw [rW_set (i := 1) rfl (Nat.le_of_ble_eq_true rfl), lsF_u (by decide)]; rfl) dX8_init_262 ?_
  refine g_dup rfl dX8_init_263 ?_
  refine gn_bp 46 (by decide) dX8_init_264 ?_
  refine gn_ic 0 (by decide) dX8_init_266 ?_
  refine gn_iast (E2 := rW mo F [.inr (11, [.null, .null, .int (nI 0), .null, .null, .null, .int (nI 0), .null, .int (nI 0), .null, .null, .int (nI 0), .int (nI 0), .null, .int (nI 0), .null, .int (nI 0), .int (nI 0), .int (nI 0), .int (nI 0), .int (nI 0), .int (nI 0), .int (nI 0), .int (nI 0), .int (nI 0), .int (nI 0)]), .inl (gA Γ 0, 48, .inl (lsF [104, 111, 117, 115, 101, 0, 0, 0, 108, 97, 110, 100, 108, 97, 100, 121, 108, 111, 100, 103, 101, 114, 0, 0, 112, 97, 121, 0, 0, 0, 0, 0, 109, 111, 118, 101, 0, 0, 0, 0, 100, 97, 121, 115, 0, 0, 0, 0]))]) (rW_at (i := 1) rfl rfl) (by decide) (by decide) (by rw [rW_set (i := 1) rfl (Nat.le_of_ble_eq_true rfl), lsF_u (by decide)]; rfl) dX8_init_267 ?_
  refine g_dup rfl dX8_init_268 ?_
  refine gn_bp 47 (by decide) dX8_init_269 ?_
  refine gn_ic 0 (by decide) dX8_init_271 ?_
  refine gn_iast (E2 := rW mo F [.inr (11, [.null, .null, .int (nI 0), .null, .null, .null, .int (nI 0), .null, .int (nI 0), .null, .null, .int (nI 0), .int (nI 0), .null, .int (nI 0), .null, .int (nI 0), .int (nI 0), .int (nI 0), .int (nI 0), .int (nI 0), .int (nI 0), .int (nI 0), .int (nI 0), .int (nI 0), .int (nI 0)]), .inl (gA Γ 0, 48, .inl (lsF [104, 111, 117, 115, 101, 0, 0, 0, 108, 97, 110, 100, 108, 97, 100, 121, 108, 111, 100, 103, 101, 114, 0, 0, 112, 97, 121, 0, 0, 0, 0, 0, 109, 111, 118, 101, 0, 0, 0, 0, 100, 97, 121, 115, 0, 0, 0, 0]))]) (rW_at (i := 1) rfl rfl) (by decide) (by decide) (by rw [rW_set (i := 1) rfl (Nat.le_of_ble_eq_true rfl), lsF_u (by decide)]; rfl) dX8_init_272 ?_
  refine g_putF f_X8_7 w_X8_0 ⟨_, _, rfl⟩ rfl (rW_at (i := 0) rfl rfl) (Nat.le_of_ble_eq_true rfl) rfl rfl rfl dX8_init_273 ?_
  refine g_world (E2 := rW mo F [.inr (11, [.ref (mo + 1), .null, .int (nI 0), .null, .null, .null, .int (nI 0), .null, .int (nI 0), .null, .null, .int (nI 0), .int (nI 0), .null, .int (nI 0), .null, .int (nI 0), .int (nI 0), .int (nI 0), .int (nI 0), .int (nI 0), .int (nI 0), .int (nI 0), .int (nI 0), .int (nI 0), .int (nI 0)]), .inl (gA Γ 0, 48, .inl (lsF [104, 111, 117, 115, 101, 0, 0, 0, 108, 97, 110, 100, 108, 97, 100, 121, 108, 111, 100, 103, 101, 114, 0, 0, 112, 97, 121, 0, 0, 0, 0, 0, 109, 111, 118, 101, 0, 0, 0, 0, 100, 97, 121, 115, 0, 0, 0, 0]))]) (Eq.trans (rW_set (i := 0) (by rfl) (Nat.le_of_ble_eq_true rfl)) (by rfl)) ?_
  refine g_aload_n 0 rfl dX8_init_276 ?_
  refine gn_bp 24 (by decide) dX8_init_277 ?_
  refine gn_newi (wl_1 95 rfl rfl) (by decide) dX8_init_279 (fun hB => ?_)
  refine g_world (E2 := rW mo F [.inr (11, [.ref (mo + 1), .null, .int (nI 0), .null, .null, .null, .int (nI 0), .null, .int (nI 0), .null, .null, .int (nI 0), .int (nI 0), .null, .int (nI 0), .null, .int (nI 0), .int (nI 0), .int (nI 0), .int (nI 0), .int (nI 0), .int (nI 0), .int (nI 0), .int (nI 0), .int (nI 0), .int (nI 0)]), .inl (gA Γ 0, 48, .inl (lsF [104, 111, 117, 115, 101, 0, 0, 0, 108, 97, 110, 100, 108, 97, 100, 121, 108, 111, 100, 103, 101, 114, 0, 0, 112, 97, 121, 0, 0, 0, 0, 0, 109, 111, 118, 101, 0, 0, 0, 0, 100, 97, 121, 115, 0, 0, 0, 0])), .inl (gA Γ 0, 24, .inl (lsF [0, 0, 0, 0, 0, 0, 0, 0, 0, 0, 0, 0, 0, 0, 0, 0, 0, 0, 0, 0, 0, 0, 0, 0]))]) (Eq.trans (rW_new (by rfl)) (by rw [lsF_0 (N := 24)]; rfl)) ?_
  refine g_dup rfl dX8_init_281 ?_
  refine gn_ic 0 (by decide) dX8_init_282 ?_
  refine gn_bp 97 (by decide) dX8_init_283 ?_
  refine gn_iast (E2 := rW mo F [.inr (11, [.ref (mo + 1), .null, .int (nI 0), .null, .null, .null, .int (nI 0), .null, .int (nI 0), .null, .null, .int (nI 0), .int (nI 0), .null, .int (nI 0), .null, .int (nI 0), .int (nI 0), .int (nI 0), .int (nI 0), .int (nI 0), .int (nI 0), .int (nI 0), .int (nI 0), .int (nI 0), .int (nI 0)]), .inl (gA Γ 0, 48, .inl (lsF [104, 111, 117, 115, 101, 0, 0, 0, 108, 97, 110, 100, 108, 97, 100, 121, 108, 111, 100, 103, 101, 114, 0, 0, 112, 97, 121, 0, 0, 0, 0, 0, 109, 111, 118, 101, 0, 0, 0, 0, 100, 97, 121, 115, 0, 0, 0, 0])), .inl (gA Γ 0, 24, .inl (lsF [97, 0, 0, 0, 0, 0, 0, 0, 0, 0, 0, 0, 0, 0, 0, 0, 0, 0, 0, 0, 0, 0, 0, 0]))]) (rW_at (i := 2) rfl rfl) (by decide) (by decide) (by rw [rW_set (i := 2) rfl (Nat.le_of_ble_eq_true rfl), lsF_u (by decide)]; rfl) dX8_init_285 ?_
  refine g_dup rfl dX8_init_286 ?_
  refine gn_ic 1 (by decide) dX8_init_287 ?_
  refine gn_bp 110 (by decide) dX8_init_288 ?_
  refine gn_iast (E2 := rW mo F [.inr (11, [.ref (mo + 1), .null, .int (nI 0), .null, .null, .null, .int (nI 0), .null, .int (nI 0), .null, .null, .int (nI 0), .int (nI 0), .null, .int (nI 0), .null, .int (nI 0), .int (nI 0), .int (nI 0), .int (nI 0), .int (nI 0), .int (nI 0), .int (nI 0), .int (nI 0), .int (nI 0), .int (nI 0)]), .inl (gA Γ 0, 48, .inl (lsF [104, 111, 117, 115, 101, 0, 0, 0, 108, 97, 110, 100, 108, 97, 100, 121, 108, 111, 100, 103, 101, 114, 0, 0, 112, 97, 121, 0, 0, 0, 0, 0, 109, 111, 118, 101, 0, 0, 0, 0, 100, 97, 121, 115, 0, 0, 0, 0])), .inl (gA Γ 0, 24, .inl (lsF [97, 110, 0, 0, 0, 0, 0, 0, 0, 0, 0, 0, 0, 0, 0, 0, 0, 0, 0, 0, 0, 0, 0, 0]))]) (rW_at (i := 2) rfl rfl) (by decide) (by decide) (by rw [rW_set (i := 2) rfl (Nat.le_of_ble_eq_true rfl), lsF_u (by decide)]; rfl) dX8_init_290 ?_
  refine g_dup rfl dX8_init_291 ?_
  refine gn_ic 2 (by decide) dX8_init_292 ?_
  refine gn_bp 110 (by decide) dX8_init_293 ?_
  refine gn_iast (E2 := rW mo F [.inr (11, [.ref (mo + 1), .null, .int (nI 0), .null, .null, .null, .int (nI 0), .null, .int (nI 0), .null, .null, .int (nI 0), .int (nI 0), .null, .int (nI 0), .null, .int (nI 0), .int (nI 0), .int (nI 0), .int (nI 0), .int (nI 0), .int (nI 0), .int (nI 0), .int (nI 0), .int (nI 0), .int (nI 0)]), .inl (gA Γ 0, 48, .inl (lsF [104, 111, 117, 115, 101, 0, 0, 0, 108, 97, 110, 100, 108, 97, 100, 121, 108, 111, 100, 103, 101, 114, 0, 0, 112, 97, 121, 0, 0, 0, 0, 0, 109, 111, 118, 101, 0, 0, 0, 0, 100, 97, 121, 115, 0, 0, 0, 0])), .inl (gA Γ 0, 24, .inl (lsF [97, 110, 110, 0, 0, 0, 0, 0, 0, 0, 0, 0, 0, 0, 0, 0, 0, 0, 0, 0, 0, 0, 0, 0]))]) (rW_at (i := 2) rfl rfl) (by decide) (by decide) (by rw [rW_set (i := 2) rfl (Nat.le_of_ble_eq_true rfl), lsF_u (by decide)]; rfl) dX8_init_295 ?_
  refine g_dup rfl dX8_init_296 ?_
  refine gn_ic 3 (by decide) dX8_init_297 ?_
  refine gn_ic 0 (by decide) dX8_init_298 ?_
  refine gn_iast (E2 := rW mo F [.inr (11, [.ref (mo + 1), .null, .int (nI 0), .null, .null, .null, .int (nI 0), .null, .int (nI 0), .null, .null, .int (nI 0), .int (nI 0), .null, .int (nI 0), .null, .int (nI 0), .int (nI 0), .int (nI 0), .int (nI 0), .int (nI 0), .int (nI 0), .int (nI 0), .int (nI 0), .int (nI 0), .int (nI 0)]), .inl (gA Γ 0, 48, .inl (lsF [104, 111, 117, 115, 101, 0, 0, 0, 108, 97, 110, 100, 108, 97, 100, 121, 108, 111, 100, 103, 101, 114, 0, 0, 112, 97, 121, 0, 0, 0, 0, 0, 109, 111, 118, 101, 0, 0, 0, 0, 100, 97, 121, 115, 0, 0, 0, 0])), .inl (gA Γ 0, 24, .inl (lsF [97, 110, 110, 0, 0, 0, 0, 0, 0, 0, 0, 0, 0, 0, 0, 0, 0, 0, 0, 0, 0, 0, 0, 0]))]) (rW_at (i := 2) rfl rfl) (by decide) (by decide) (by rw [rW_set (i := 2) rfl (Nat.le_of_ble_eq_true rfl), lsF_u (by decide)]; rfl) dX8_init_299 ?_
  refine g_dup rfl dX8_init_300 ?_
  refine gn_ic 4 (by decide) dX8_init_301 ?_
  refine gn_bp 20 (by decide) dX8_init_302 ?_
  refine gn_iast (E2 := rW mo F [.inr (11, [.ref (mo + 1), .null, .int (nI 0), .null, .null, .null, .int (nI 0), .null, .int (nI 0), .null, .null, .int (nI 0), .int (nI 0), .null, .int (nI 0), .null, .int (nI 0), .int (nI 0), .int (nI 0), .int (nI 0), .int (nI 0), .int (nI 0), .int (nI 0), .int (nI 0), .int (nI 0), .int (nI 0)]), .inl (gA Γ 0, 48, .inl (lsF [104, 111, 117, 115, 101, 0, 0, 0, 108, 97, 110, 100, 108, 97, 100, 121, 108, 111, 100, 103, 101, 114, 0, 0, 112, 97, 121, 0, 0, 0, 0, 0, 109, 111, 118, 101, 0, 0, 0, 0, 100, 97, 121, 115, 0, 0, 0, 0])), .inl (gA Γ 0, 24, .inl (lsF [97, 110, 110, 0, 20, 0, 0, 0, 0, 0, 0, 0, 0, 0, 0, 0, 0, 0, 0, 0, 0, 0, 0, 0]))]) (rW_at (i := 2) rfl rfl) (by decide) (by decide) (by rw [rW_set (i := 2) rfl (Nat.le_of_ble_eq_true rfl), lsF_u (by decide)]; rfl) dX8_init_304 ?_
  refine g_dup rfl dX8_init_305 ?_
  refine gn_ic 5 (by decide) dX8_init_306 ?_
  refine gn_ldc (a := 44446) (wl_6 234 rfl rfl) dX8_init_307 ?_
  refine gn_iast (E2 := rW mo F [.inr (11, [.ref (mo + 1), .null, .int (nI 0), .null, .null, .null, .int (nI 0), .null, .int (nI 0), .null, .null, .int (nI 0), .int (nI 0), .null, .int (nI 0), .null, .int (nI 0), .int (nI 0), .int (nI 0), .int (nI 0), .int (nI 0), .int (nI 0), .int (nI 0), .int (nI 0), .int (nI 0), .int (nI 0)]), .inl (gA Γ 0, 48, .inl (lsF [104, 111, 117, 115, 101, 0, 0, 0, 108, 97, 110, 100, 108, 97, 100, 121, 108, 111, 100, 103, 101, 114, 0, 0, 112, 97, 121, 0, 0, 0, 0, 0, 109, 111, 118, 101, 0, 0, 0, 0, 100, 97, 121, 115, 0, 0, 0, 0])), .inl (gA Γ 0, 24, .inl (lsF [97, 110, 110, 0, 20, 44446, 0, 0, 0, 0, 0, 0, 0, 0, 0, 0, 0, 0, 0, 0, 0, 0, 0, 0]))]) (rW_at (i := 2) rfl rfl) (by decide) (by decide) (by rw [rW_set (i := 2) rfl (Nat.le_of_ble_eq_true rfl), lsF_u (by decide)]; rfl) dX8_init_309 ?_
  refine g_dup rfl dX8_init_310 ?_
  refine gn_bp 6 (by decide) dX8_init_311 ?_
  refine gn_bp 98 (by decide) dX8_init_313 ?_
  refine gn_iast (E2 := rW mo F [.inr (11, [.ref (mo + 1), .null, .int (nI 0), .null, .null, .null, .int (nI 0), .null, .int (nI 0), .null, .null, .int (nI 0), .int (nI 0), .null, .int (nI 0), .null, .int (nI 0), .int (nI 0), .int (nI 0), .int (nI 0), .int (nI 0), .int (nI 0), .int (nI 0), .int (nI 0), .int (nI 0), .int (nI 0)]), .inl (gA Γ 0, 48, .inl (lsF [104, 111, 117, 115, 101, 0, 0, 0, 108, 97, 110, 100, 108, 97, 100, 121, 108, 111, 100, 103, 101, 114, 0, 0, 112, 97, 121, 0, 0, 0, 0, 0, 109, 111, 118, 101, 0, 0, 0, 0, 100, 97, 121, 115, 0, 0, 0, 0])), .inl (gA Γ 0, 24, .inl (lsF [97, 110, 110, 0, 20, 44446, 98, 0, 0, 0, 0, 0, 0, 0, 0, 0, 0, 0, 0, 0, 0, 0, 0, 0]))]) (rW_at (i := 2) rfl rfl) (by decide) (by decide) (by rw [rW_set (i := 2) rfl (Nat.le_of_ble_eq_true rfl), lsF_u (by decide)]; rfl) dX8_init_315 ?_
  refine g_dup rfl dX8_init_316 ?_
  refine gn_bp 7 (by decide) dX8_init_317 ?_
  refine gn_bp 111 (by decide) dX8_init_319 ?_
  refine gn_iast (E2 := rW mo F [.inr (11, [.ref (mo + 1), .null, .int (nI 0), .null, .null, .null, .int (nI 0), .null, .int (nI 0), .null, .null, .int (nI 0), .int (nI 0), .null, .int (nI 0), .null, .int (nI 0), .int (nI 0), .int (nI 0), .int (nI 0), .int (nI 0), .int (nI 0), .int (nI 0), .int (nI 0), .int (nI 0), .int (nI 0)]), .inl (gA Γ 0, 48, .inl (lsF [104, 111, 117, 115, 101, 0, 0, 0, 108, 97, 110, 100, 108, 97, 100, 121, 108, 111, 100, 103, 101, 114, 0, 0, 112, 97, 121, 0, 0, 0, 0, 0, 109, 111, 118, 101, 0, 0, 0, 0, 100, 97, 121, 115, 0, 0, 0, 0])), .inl (gA Γ 0, 24, .inl (lsF [97, 110, 110, 0, 20, 44446, 98, 111, 0, 0, 0, 0, 0, 0, 0, 0, 0, 0, 0, 0, 0, 0, 0, 0]))]) (rW_at (i := 2) rfl rfl) (by decide) (by decide) (by rw [rW_set (i := 2) rfl (Nat.le_of_ble_eq_true rfl), lsF_u (by decide)]; rfl) dX8_init_321 ?_
  refine g_dup rfl dX8_init_322 ?_
  refine gn_bp 8 (by decide) dX8_init_323 ?_
  refine gn_bp 98 (by decide) dX8_init_325 ?_
  refine gn_iast (E2 := rW mo F [.inr (11, [.ref (mo + 1), .null, .int (nI 0), .null, .null, .null, .int (nI 0), .null, .int (nI 0), .null, .null, .int (nI 0), .int (nI 0), .null, .int (nI 0), .null, .int (nI 0), .int (nI 0), .int (nI 0), .int (nI 0), .int (nI 0), .int (nI 0), .int (nI 0), .int (nI 0), .int (nI 0), .int (nI 0)]), .inl (gA Γ 0, 48, .inl (lsF [104, 111, 117, 115, 101, 0, 0, 0, 108, 97, 110, 100, 108, 97, 100, 121, 108, 111, 100, 103, 101, 114, 0, 0, 112, 97, 121, 0, 0, 0, 0, 0, 109, 111, 118, 101, 0, 0, 0, 0, 100, 97, 121, 115, 0, 0, 0, 0])), .inl (gA Γ 0, 24, .inl (lsF [97, 110, 110, 0, 20, 44446, 98, 111, 98, 0, 0, 0, 0, 0, 0, 0, 0, 0, 0, 0, 0, 0, 0, 0]))]) (rW_at (i := 2) rfl rfl) (by decide) (by decide) (by rw [rW_set (i := 2) rfl (Nat.le_of_ble_eq_true rfl), lsF_u (by decide)]; rfl) dX8_init_327 ?_
  refine g_dup rfl dX8_init_328 ?_
  refine gn_bp 9 (by decide) dX8_init_329 ?_
  refine gn_ic 0 (by decide) dX8_init_331 ?_
  refine gn_iast (E2 := rW mo F [.inr (11, [.ref (mo + 1), .null, .int (nI 0), .null, .null, .null, .int (nI 0), .null, .int (nI 0), .null, .null, .int (nI 0), .int (nI 0), .null, .int (nI 0), .null, .int (nI 0), .int (nI 0), .int (nI 0), .int (nI 0), .int (nI 0), .int (nI 0), .int (nI 0), .int (nI 0), .int (nI 0), .int (nI 0)]), .inl (gA Γ 0, 48, .inl (lsF [104, 111, 117, 115, 101, 0, 0, 0, 108, 97, 110, 100, 108, 97, 100, 121, 108, 111, 100, 103, 101, 114, 0, 0, 112, 97, 121, 0, 0, 0, 0, 0, 109, 111, 118, 101, 0, 0, 0, 0, 100, 97, 121, 115, 0, 0, 0, 0])), .inl (gA Γ 0, 24, .inl (lsF [97, 110, 110, 0, 20, 44446, 98, 111, 98, 0, 0, 0, 0, 0, 0, 0, 0, 0, 0, 0, 0, 0, 0, 0]))]) (rW_at (i := 2) rfl rfl) (by decide) (by decide) (by rw [rW_set (i := 2) rfl (Nat.le_of_ble_eq_true rfl), lsF_u (by decide)]; rfl) dX8_init_332 ?_
  refine g_dup rfl dX8_init_333 ?_
  refine gn_bp 10 (by decide) dX8_init_334 ?_
  refine gn_ic 3 (by decide) dX8_init_336 ?_
  refine gn_iast (E2 := rW mo F [.inr (11, [.ref (mo + 1), .null, .int (nI 0), .null, .null, .null, .int (nI 0), .null, .int (nI 0), .null, .null, .int (nI 0), .int (nI 0), .null, .int (nI 0), .null, .int (nI 0), .int (nI 0), .int (nI 0), .int (nI 0), .int (nI 0), .int (nI 0), .int (nI 0), .int (nI 0), .int (nI 0), .int (nI 0)]), .inl (gA Γ 0, 48, .inl (lsF [104, 111, 117, 115, 101, 0, 0, 0, 108, 97, 110, 100, 108, 97, 100, 121, 108, 111, 100, 103, 101, 114, 0, 0, 112, 97, 121, 0, 0, 0, 0, 0, 109, 111, 118, 101, 0, 0, 0, 0, 100, 97, 121, 115, 0, 0, 0, 0])), .inl (gA Γ 0, 24, .inl (lsF [97, 110, 110, 0, 20, 44446, 98, 111, 98, 0, 3, 0, 0, 0, 0, 0, 0, 0, 0, 0, 0, 0, 0, 0]))]) (rW_at (i := 2) rfl rfl) (by decide) (by decide) (by rw [rW_set (i := 2) rfl (Nat.le_of_ble_eq_true rfl), lsF_u (by decide)]; rfl) dX8_init_337 ?_
  refine g_dup rfl dX8_init_338 ?_
  refine gn_bp 11 (by decide) dX8_init_339 ?_
  refine gn_sp 4444 (by decide) dX8_init_341 ?_
  refine gn_iast (E2 := rW mo F [.inr (11, [.ref (mo + 1), .null, .int (nI 0), .null, .null, .null, .int (nI 0), .null, .int (nI 0), .null, .null, .int (nI 0), .int (nI 0), .null, .int (nI 0), .null, .int (nI 0), .int (nI 0), .int (nI 0), .int (nI 0), .int (nI 0), .int (nI 0), .int (nI 0), .int (nI 0), .int (nI 0), .int (nI 0)]), .inl (gA Γ 0, 48, .inl (lsF [104, 111, 117, 115, 101, 0, 0, 0, 108, 97, 110, 100, 108, 97, 100, 121, 108, 111, 100, 103, 101, 114, 0, 0, 112, 97, 121, 0, 0, 0, 0, 0, 109, 111, 118, 101, 0, 0, 0, 0, 100, 97, 121, 115, 0, 0, 0, 0])), .inl (gA Γ 0, 24, .inl (lsF [97, 110, 110, 0, 20, 44446, 98, 111, 98, 0, 3, 4444, 0, 0, 0, 0, 0, 0, 0, 0, 0, 0, 0, 0]))]) (rW_at (i := 2) rfl rfl) (by decide) (by decide) (by rw [rW_set (i := 2) rfl (Nat.le_of_ble_eq_true rfl), lsF_u (by decide)]; rfl) dX8_init_344 ?_
  refine g_dup rfl dX8_init_345 ?_
  refine gn_bp 12 (by decide) dX8_init_346 ?_
  refine gn_bp 99 (by decide) dX8_init_348 ?_
  refine gn_iast (E2 := rW mo F [.inr (11, [.ref (mo + 1), .null, .int (nI 0), .null, .null, .null, .int (nI 0), .null, .int (nI 0), .null, .null, .int (nI 0), .int (nI 0), .null, .int (nI 0), .null, .int (nI 0), .int (nI 0), .int (nI 0), .int (nI 0), .int (nI 0), .int (nI 0), .int (nI 0), .int (nI 0), .int (nI 0), .int (nI 0)]), .inl (gA Γ 0, 48, .inl (lsF [104, 111, 117, 115, 101, 0, 0, 0, 108, 97, 110, 100, 108, 97, 100, 121, 108, 111, 100, 103, 101, 114, 0, 0, 112, 97, 121, 0, 0, 0, 0, 0, 109, 111, 118, 101, 0, 0, 0, 0, 100, 97, 121, 115, 0, 0, 0, 0])), .inl (gA Γ 0, 24, .inl (lsF [97, 110, 110, 0, 20, 44446, 98, 111, 98, 0, 3, 4444, 99, 0, 0, 0, 0, 0, 0, 0, 0, 0, 0, 0]))]) (rW_at (i := 2) rfl rfl) (by decide) (by decide) (by rw [rW_set (i := 2) rfl (Nat.le_of_ble_eq_true rfl), lsF_u (by decide)]; rfl) dX8_init_350 ?_
  refine g_dup rfl dX8_init_351 ?_
  refine gn_bp 13 (by decide) dX8_init_352 ?_
  refine gn_bp 105 (by decide) dX8_init_354 ?_
  refine gn_iast (E2 := rW mo F [.inr (11, [.ref (mo + 1), .null, .int (nI 0), .null, .null, .null, .int (nI 0), .null, .int (nI 0), .null, .null, .int (nI 0), .int (nI 0), .null, .int (nI 0), .null, .int (nI 0), .int (nI 0), .int (nI 0), .int (nI 0), .int (nI 0), .int (nI 0), .int (nI 0), .int (nI 0), .int (nI 0), .int (nI 0)]), .inl (gA Γ 0, 48, .inl (lsF [104, 111, 117, 115, 101, 0, 0, 0, 108, 97, 110, 100, 108, 97, 100, 121, 108, 111, 100, 103, 101, 114, 0, 0, 112, 97, 121, 0, 0, 0, 0, 0, 109, 111, 118, 101, 0, 0, 0, 0, 100, 97, 121, 115, 0, 0, 0, 0])), .inl (gA Γ 0, 24, .inl (lsF [97, 110, 110, 0, 20, 44446, 98, 111, 98, 0, 3, 4444, 99, 105, 0, 0, 0, 0, 0, 0, 0, 0, 0, 0]))]) (rW_at (i := 2) rfl rfl) (by decide) (by decide) (by rw [rW_set (i := 2) rfl (Nat.le_of_ble_eq_true rfl), lsF_u (by decide)]; rfl) dX8_init_356 ?_
  refine g_dup rfl dX8_init_357 ?_
  refine gn_bp 14 (by decide) dX8_init_358 ?_
  refine gn_bp 100 (by decide) dX8_init_360 ?_
  refine gn_iast (E2 := rW mo F [.inr (11, [.ref (mo + 1), .null, .int (nI 0), .null, .null, .null, .int (nI 0), .null, .int (nI 0), .null, .null, .int (nI 0), .int (nI 0), .null, .int (nI 0), .null, .int (nI 0), .int (nI 0), .int (nI 0), .int (nI 0), .int (nI 0), .int (nI 0), .int (nI 0), .int (nI 0), .int (nI 0), .int (nI 0)]), .inl (gA Γ 0, 48, .inl (lsF [104, 111, 117, 115, 101, 0, 0, 0, 108, 97, 110, 100, 108, 97, 100, 121, 108, 111, 100, 103, 101, 114, 0, 0, 112, 97, 121, 0, 0, 0, 0, 0, 109, 111, 118, 101, 0, 0, 0, 0, 100, 97, 121, 115, 0, 0, 0, 0])), .inl (gA Γ 0, 24, .inl (lsF [97, 110, 110, 0, 20, 44446, 98, 111, 98, 0, 3, 4444, 99, 105, 100, 0, 0, 0, 0, 0, 0, 0, 0, 0]))]) (rW_at (i := 2) rfl rfl) (by decide) (by decide) (by rw [rW_set (i := 2) rfl (Nat.le_of_ble_eq_true rfl), lsF_u (by decide)]; rfl) dX8_init_362 ?_
  refine g_dup rfl dX8_init_363 ?_
  refine gn_bp 15 (by decide) dX8_init_364 ?_
  refine gn_ic 1 (by decide) dX8_init_366 ?_
  refine gn_iast (E2 := rW mo F [.inr (11, [.ref (mo + 1), .null, .int (nI 0), .null, .null, .null, .int (nI 0), .null, .int (nI 0), .null, .null, .int (nI 0), .int (nI 0), .null, .int (nI 0), .null, .int (nI 0), .int (nI 0), .int (nI 0), .int (nI 0), .int (nI 0), .int (nI 0), .int (nI 0), .int (nI 0), .int (nI 0), .int (nI 0)]), .inl (gA Γ 0, 48, .inl (lsF [104, 111, 117, 115, 101, 0, 0, 0, 108, 97, 110, 100, 108, 97, 100, 121, 108, 111, 100, 103, 101, 114, 0, 0, 112, 97, 121, 0, 0, 0, 0, 0, 109, 111, 118, 101, 0, 0, 0, 0, 100, 97, 121, 115, 0, 0, 0, 0])), .inl (gA Γ 0, 24, .inl (lsF [97, 110, 110, 0, 20, 44446, 98, 111, 98, 0, 3, 4444, 99, 105, 100, 1, 0, 0, 0, 0, 0, 0, 0, 0]))]) (rW_at (i := 2) rfl rfl) (by decide) (by decide) (by rw [rW_set (i := 2) rfl (Nat.le_of_ble_eq_true rfl), lsF_u (by decide)]; rfl) dX8_init_367 ?_
  refine g_dup rfl dX8_init_368 ?_
  refine gn_bp 16 (by decide) dX8_init_369 ?_
  refine gn_ic 0 (by decide) dX8_init_371 ?_
  refine gn_iast (E2 := rW mo F [.inr (11, [.ref (mo + 1), .null, .int (nI 0), .null, .null, .null, .int (nI 0), .null, .int (nI 0), .null, .null, .int (nI 0), .int (nI 0), .null, .int (nI 0), .null, .int (nI 0), .int (nI 0), .int (nI 0), .int (nI 0), .int (nI 0), .int (nI 0), .int (nI 0), .int (nI 0), .int (nI 0), .int (nI 0)]), .inl (gA Γ 0, 48, .inl (lsF [104, 111, 117, 115, 101, 0, 0, 0, 108, 97, 110, 100, 108, 97, 100, 121, 108, 111, 100, 103, 101, 114, 0, 0, 112, 97, 121, 0, 0, 0, 0, 0, 109, 111, 118, 101, 0, 0, 0, 0, 100, 97, 121, 115, 0, 0, 0, 0])), .inl (gA Γ 0, 24, .inl (lsF [97, 110, 110, 0, 20, 44446, 98, 111, 98, 0, 3, 4444, 99, 105, 100, 1, 0, 0, 0, 0, 0, 0, 0, 0]))]) (rW_at (i := 2) rfl rfl) (by decide) (by decide) (by rw [rW_set (i := 2) rfl (Nat.le_of_ble_eq_true rfl), lsF_u (by decide)]; rfl) dX8_init_372 ?_
  refine g_dup rfl dX8_init_373 ?_
  refine gn_bp 17 (by decide) dX8_init_374 ?_
  refine gn_ldc (a := 99004) (wl_6 235 rfl rfl) dX8_init_376 ?_
  refine gn_iast (E2 := rW mo F [.inr (11, [.ref (mo + 1), .null, .int (nI 0), .null, .null, .null, .int (nI 0), .null, .int (nI 0), .null, .null, .int (nI 0), .int (nI 0), .null, .int (nI 0), .null, .int (nI 0), .int (nI 0), .int (nI 0), .int (nI 0), .int (nI 0), .int (nI 0), .int (nI 0), .int (nI 0), .int (nI 0), .int (nI 0)]), .inl (gA Γ 0, 48, .inl (lsF [104, 111, 117, 115, 101, 0, 0, 0, 108, 97, 110, 100, 108, 97, 100, 121, 108, 111, 100, 103, 101, 114, 0, 0, 112, 97, 121, 0, 0, 0, 0, 0, 109, 111, 118, 101, 0, 0, 0, 0, 100, 97, 121, 115, 0, 0, 0, 0])), .inl (gA Γ 0, 24, .inl (lsF [97, 110, 110, 0, 20, 44446, 98, 111, 98, 0, 3, 4444, 99, 105, 100, 1, 0, 99004, 0, 0, 0, 0, 0, 0]))]) (rW_at (i := 2) rfl rfl) (by decide) (by decide) (by rw [rW_set (i := 2) rfl (Nat.le_of_ble_eq_true rfl), lsF_u (by decide)]; rfl) dX8_init_378 ?_
  refine g_dup rfl dX8_init_379 ?_
  refine gn_bp 18 (by decide) dX8_init_380 ?_
  refine gn_bp 100 (by decide) dX8_init_382 ?_
  refine gn_iast (E2 := rW mo F [.inr (11, [.ref (mo + 1), .null, .int (nI 0), .null, .null, .null, .int (nI 0), .null, .int (nI 0), .null, .null, .int (nI 0), .int (nI 0), .null, .int (nI 0), .null, .int (nI 0), .int (nI 0), .int (nI 0), .int (nI 0), .int (nI 0), .int (nI 0), .int (nI 0), .int (nI 0), .int (nI 0), .int (nI 0)]), .inl (gA Γ 0, 48, .inl (lsF [104, 111, 117, 115, 101, 0, 0, 0, 108, 97, 110, 100, 108, 97, 100, 121, 108, 111, 100, 103, 101, 114, 0, 0, 112, 97, 121, 0, 0, 0, 0, 0, 109, 111, 118, 101, 0, 0, 0, 0, 100, 97, 121, 115, 0, 0, 0, 0])), .inl (gA Γ 0, 24, .inl (lsF [97, 110, 110, 0, 20, 44446, 98, 111, 98, 0, 3, 4444, 99, 105, 100, 1, 0, 99004, 100, 0, 0, 0, 0, 0]))]) (rW_at (i := 2) rfl rfl) (by decide) (by decide) (by rw [rW_set (i := 2) rfl (Nat.le_of_ble_eq_true rfl), lsF_u (by decide)]; rfl) dX8_init_384 ?_
  refine g_dup rfl dX8_init_385 ?_
  refine gn_bp 19 (by decide) dX8_init_386 ?_
  refine gn_bp 111 (by decide) dX8_init_388 ?_
  refine gn_iast (E2 := rW mo F [.inr (11, [.ref (mo + 1), .null, .int (nI 0), .null, .null, .null, .int (nI 0), .null, .int (nI 0), .null, .null, .int (nI 0), .int (nI 0), .null, .int (nI 0), .null, .int (nI 0), .int (nI 0), .int (nI 0), .int (nI 0), .int (nI 0), .int (nI 0), .int (nI 0), .int (nI 0), .int (nI 0), .int (nI 0)]), .inl (gA Γ 0, 48, .inl (lsF [104, 111, 117, 115, 101, 0, 0, 0, 108, 97, 110, 100, 108, 97, 100, 121, 108, 111, 100, 103, 101, 114, 0, 0, 112, 97, 121, 0, 0, 0, 0, 0, 109, 111, 118, 101, 0, 0, 0, 0, 100, 97, 121, 115, 0, 0, 0, 0])), .inl (gA Γ 0, 24, .inl (lsF [97, 110, 110, 0, 20, 44446, 98, 111, 98, 0, 3, 4444, 99, 105, 100, 1, 0, 99004, 100, 111, 0, 0, 0, 0]))]) (rW_at (i := 2) rfl rfl) (by decide) (by decide) (by rw [rW_set (i := 2) rfl (Nat.le_of_ble_eq_true rfl), lsF_u (by decide)]; rfl) dX8_init_390 ?_
  refine g_dup rfl dX8_init_391 ?_
  refine gn_bp 20 (by decide) dX8_init_392 ?_
  refine gn_bp 116 (by decide) dX8_init_394 ?_
  refine gn_iast (E2 := rW mo F [.inr (11, [.ref (mo + 1), .null, .int (nI 0), .null, .null, .null, .int (nI 0), .null, .int (nI 0), .null, .null, .int (nI 0), .int (nI 0), .null, .int (nI 0), .null, .int (nI 0), .int (nI 0), .int (nI 0), .int (nI 0), .int (nI 0), .int (nI 0), .int (nI 0), .int (nI 0), .int (nI 0), .int (nI 0)]), .inl (gA Γ 0, 48, .inl (lsF [104, 111, 117, 115, 101, 0, 0, 0, 108, 97, 110, 100, 108, 97, 100, 121, 108, 111, 100, 103, 101, 114, 0, 0, 112, 97, 121, 0, 0, 0, 0, 0, 109, 111, 118, 101, 0, 0, 0, 0, 100, 97, 121, 115, 0, 0, 0, 0])), .inl (gA Γ 0, 24, .inl (lsF [97, 110, 110, 0, 20, 44446, 98, 111, 98, 0, 3, 4444, 99, 105, 100, 1, 0, 99004, 100, 111, 116, 0, 0, 0]))]) (rW_at (i := 2) rfl rfl) (by decide) (by decide) (by rw [rW_set (i := 2) rfl (Nat.le_of_ble_eq_true rfl), lsF_u (by decide)]; rfl) dX8_init_396 ?_
  refine g_dup rfl dX8_init_397 ?_
  refine gn_bp 21 (by decide) dX8_init_398 ?_
  refine gn_ic 1 (by decide) dX8_init_400 ?_
  refine gn_iast (E2 := rW mo F [.inr (11, [.ref (mo + 1), .null, .int (nI 0), .null, .null, .null, .int (nI 0), .null, .int (nI 0), .null, .null, .int (nI 0), .int (nI 0), .null, .int (nI 0), .null, .int (nI 0), .int (nI 0), .int (nI 0), .int (nI 0), .int (nI 0), .int (nI 0), .int (nI 0), .int (nI 0), .int (nI 0), .int (nI 0)]), .inl (gA Γ 0, 48, .inl (lsF [104, 111, 117, 115, 101, 0, 0, 0, 108, 97, 110, 100, 108, 97, 100, 121, 108, 111, 100, 103, 101, 114, 0, 0, 112, 97, 121, 0, 0, 0, 0, 0, 109, 111, 118, 101, 0, 0, 0, 0, 100, 97, 121, 115, 0, 0, 0, 0])), .inl (gA Γ 0, 24, .inl (lsF [97, 110, 110, 0, 20, 44446, 98, 111, 98, 0, 3, 4444, 99, 105, 100, 1, 0, 99004, 100, 111, 116, 1, 0, 0]))]) (rW_at (i := 2) rfl rfl) (by decide) (by decide) (by rw [rW_set (i := 2) rfl (Nat.le_of_ble_eq_true rfl), lsF_u (by decide)]; rfl) dX8_init_401 ?_
  refine g_dup rfl dX8_init_402 ?_
  refine gn_bp 22 (by decide) dX8_init_403 ?_
  refine gn_bp 40 (by decide) dX8_init_405 ?_
  refine gn_iast (E2 := rW mo F [.inr (11, [.ref (mo + 1), .null, .int (nI 0), .null, .null, .null, .int (nI 0), .null, .int (nI 0), .null, .null, .int (nI 0), .int (nI 0), .null, .int (nI 0), .null, .int (nI 0), .int (nI 0), .int (nI 0), .int (nI 0), .int (nI 0), .int (nI 0), .int (nI 0), .int (nI 0), .int (nI 0), .int (nI 0)]), .inl (gA Γ 0, 48, .inl (lsF [104, 111, 117, 115, 101, 0, 0, 0, 108, 97, 110, 100, 108, 97, 100, 121, 108, 111, 100, 103, 101, 114, 0, 0, 112, 97, 121, 0, 0, 0, 0, 0, 109, 111, 118, 101, 0, 0, 0, 0, 100, 97, 121, 115, 0, 0, 0, 0])), .inl (gA Γ 0, 24, .inl (lsF [97, 110, 110, 0, 20, 44446, 98, 111, 98, 0, 3, 4444, 99, 105, 100, 1, 0, 99004, 100, 111, 116, 1, 40, 0]))]) (rW_at (i := 2) rfl rfl) (by decide) (by decide) (by rw [rW_set (i := 2) rfl (Nat.le_of_ble_eq_true rfl), lsF_u (by decide)]; rfl) dX8_init_407 ?_
  refine g_dup rfl dX8_init_408 ?_
  refine gn_bp 23 (by decide) dX8_init_409 ?_
  refine gn_ldc (a := 98014) (wl_6 236 rfl rfl) dX8_init_411 ?_
  refine gn_iast (E2 := rW mo F [.inr (11, [.ref (mo + 1), .null, .int (nI 0), .null, .null, .null, .int (nI 0), .null, .int (nI 0), .null, .null, .int (nI 0), .int (nI 0), .null, .int (nI 0), .null, .int (nI 0), .int (nI 0), .int (nI 0), .int (nI 0), .int (nI 0), .int (nI 0), .int (nI 0), .int (nI 0), .int (nI 0), .int (nI 0)]), .inl (gA Γ 0, 48, .inl (lsF [104, 111, 117, 115, 101, 0, 0, 0, 108, 97, 110, 100, 108, 97, 100, 121, 108, 111, 100, 103, 101, 114, 0, 0, 112, 97, 121, 0, 0, 0, 0, 0, 109, 111, 118, 101, 0, 0, 0, 0, 100, 97, 121, 115, 0, 0, 0, 0])), .inl (gA Γ 0, 24, .inl (lsF [97, 110, 110, 0, 20, 44446, 98, 111, 98, 0, 3, 4444, 99, 105, 100, 1, 0, 99004, 100, 111, 116, 1, 40, 98014]))]) (rW_at (i := 2) rfl rfl) (by decide) (by decide) (by rw [rW_set (i := 2) rfl (Nat.le_of_ble_eq_true rfl), lsF_u (by decide)]; rfl) dX8_init_413 ?_
  refine g_putF f_X8_16 w_X8_1 ⟨_, _, rfl⟩ rfl (rW_at (i := 0) rfl rfl) (Nat.le_of_ble_eq_true rfl) rfl rfl rfl dX8_init_414 ?_
  refine g_world (E2 := rW mo F [.inr (11, [.ref (mo + 1), .ref (mo + 2), .int (nI 0), .null, .null, .null, .int (nI 0), .null, .int (nI 0), .null, .null, .int (nI 0), .int (nI 0), .null, .int (nI 0), .null, .int (nI 0), .int (nI 0), .int (nI 0), .int (nI 0), .int (nI 0), .int (nI 0), .int (nI 0), .int (nI 0), .int (nI 0), .int (nI 0)]), .inl (gA Γ 0, 48, .inl (lsF [104, 111, 117, 115, 101, 0, 0, 0, 108, 97, 110, 100, 108, 97, 100, 121, 108, 111, 100, 103, 101, 114, 0, 0, 112, 97, 121, 0, 0, 0, 0, 0, 109, 111, 118, 101, 0, 0, 0, 0, 100, 97, 121, 115, 0, 0, 0, 0])), .inl (gA Γ 0, 24, .inl (lsF [97, 110, 110, 0, 20, 44446, 98, 111, 98, 0, 3, 4444, 99, 105, 100, 1, 0, 99004, 100, 111, 116, 1, 40, 98014]))]) (Eq.trans (rW_set (i := 0) (by rfl) (Nat.le_of_ble_eq_true rfl)) (by rfl)) ?_
  refine g_aload_n 0 rfl dX8_init_417 ?_
  refine gn_sp 205 (by decide) dX8_init_418 ?_
  refine gn_newi (wl_1 95 rfl rfl) (by decide) dX8_init_421 (fun hB => ?_)
  refine g_world (E2 := rW mo F [.inr (11, [.ref (mo + 1), .ref (mo + 2), .int (nI 0), .null, .null, .null, .int (nI 0), .null, .int (nI 0), .null, .null, .int (nI 0), .int (nI 0), .null, .int (nI 0), .null, .int (nI 0), .int (nI 0), .int (nI 0), .int (nI 0), .int (nI 0), .int (nI 0), .int (nI 0), .int (nI 0), .int (nI 0), .int (nI 0)]), .inl (gA Γ 0, 48, .inl (lsF [104, 111, 117, 115, 101, 0, 0, 0, 108, 97, 110, 100, 108, 97, 100, 121, 108, 111, 100, 103, 101, 114, 0, 0, 112, 97, 121, 0, 0, 0, 0, 0, 109, 111, 118, 101, 0, 0, 0, 0, 100, 97, 121, 115, 0, 0, 0, 0])), .inl (gA Γ 0, 24, .inl (lsF [97, 110, 110, 0, 20, 44446, 98, 111, 98, 0, 3, 4444, 99, 105, 100, 1, 0, 99004, 100, 111, 116, 1, 40, 98014])), .inl (gA Γ 0, 205, .inl (fun _ => nI 0))]) (Eq.trans (rW_new (by rfl)) (by rfl)) ?_
  refine g_putF f_X8_19 w_X8_3 ⟨_, _, rfl⟩ rfl (rW_at (i := 0) rfl rfl) (Nat.le_of_ble_eq_true rfl) rfl rfl rfl dX8_init_423 ?_
  refine g_world (E2 := rW mo F [.inr (11, [.ref (mo + 1), .ref (mo + 2), .int (nI 0), .ref (mo + 3), .null, .null, .int (nI 0), .null, .int (nI 0), .null, .null, .int (nI 0), .int (nI 0), .null, .int (nI 0), .null, .int (nI 0), .int (nI 0), .int (nI 0), .int (nI 0), .int (nI 0), .int (nI 0), .int (nI 0), .int (nI 0), .int (nI 0), .int (nI 0)]), .inl (gA Γ 0, 48, .inl (lsF [104, 111, 117, 115, 101, 0, 0, 0, 108, 97, 110, 100, 108, 97, 100, 121, 108, 111, 100, 103, 101, 114, 0, 0, 112, 97, 121, 0, 0, 0, 0, 0, 109, 111, 118, 101, 0, 0, 0, 0, 100, 97, 121, 115, 0, 0, 0, 0])), .inl (gA Γ 0, 24, .inl (lsF [97, 110, 110, 0, 20, 44446, 98, 111, 98, 0, 3, 4444, 99, 105, 100, 1, 0, 99004, 100, 111, 116, 1, 40, 98014])), .inl (gA Γ 0, 205, .inl (fun _ => nI 0))]) (Eq.trans (rW_set (i := 0) (by rfl) (Nat.le_of_ble_eq_true rfl)) (by rfl)) ?_
  refine g_aload_n 0 rfl dX8_init_426 ?_
  refine gn_sp 205 (by decide) dX8_init_427 ?_
  refine gn_newi (wl_1 95 rfl rfl) (by decide) dX8_init_430 (fun hB => ?_)
  refine g_world (E2 := rW mo F [.inr (11, [.ref (mo + 1), .ref (mo + 2), .int (nI 0), .ref (mo + 3), .null, .null, .int (nI 0), .null, .int (nI 0), .null, .null, .int (nI 0), .int (nI 0), .null, .int (nI 0), .null, .int (nI 0), .int (nI 0), .int (nI 0), .int (nI 0), .int (nI 0), .int (nI 0), .int (nI 0), .int (nI 0), .int (nI 0), .int (nI 0)]), .inl (gA Γ 0, 48, .inl (lsF [104, 111, 117, 115, 101, 0, 0, 0, 108, 97, 110, 100, 108, 97, 100, 121, 108, 111, 100, 103, 101, 114, 0, 0, 112, 97, 121, 0, 0, 0, 0, 0, 109, 111, 118, 101, 0, 0, 0, 0, 100, 97, 121, 115, 0, 0, 0, 0])), .inl (gA Γ 0, 24, .inl (lsF [97, 110, 110, 0, 20, 44446, 98, 111, 98, 0, 3, 4444, 99, 105, 100, 1, 0, 99004, 100, 111, 116, 1, 40, 98014])), .inl (gA Γ 0, 205, .inl (fun _ => nI 0)), .inl (gA Γ 0, 205, .inl (fun _ => nI 0))]) (Eq.trans (rW_new (by rfl)) (by rfl)) ?_
  refine g_putF f_X8_22 w_X8_4 ⟨_, _, rfl⟩ rfl (rW_at (i := 0) rfl rfl) (Nat.le_of_ble_eq_true rfl) rfl rfl rfl dX8_init_432 ?_
  refine g_world (E2 := rW mo F [.inr (11, [.ref (mo + 1), .ref (mo + 2), .int (nI 0), .ref (mo + 3), .ref (mo + 4), .null, .int (nI 0), .null, .int (nI 0), .null, .null, .int (nI 0), .int (nI 0), .null, .int (nI 0), .null, .int (nI 0), .int (nI 0), .int (nI 0), .int (nI 0), .int (nI 0), .int (nI 0), .int (nI 0), .int (nI 0), .int (nI 0), .int (nI 0)]), .inl (gA Γ 0, 48, .inl (lsF [104, 111, 117, 115, 101, 0, 0, 0, 108, 97, 110, 100, 108, 97, 100, 121, 108, 111, 100, 103, 101, 114, 0, 0, 112, 97, 121, 0, 0, 0, 0, 0, 109, 111, 118, 101, 0, 0, 0, 0, 100, 97, 121, 115, 0, 0, 0, 0])), .inl (gA Γ 0, 24, .inl (lsF [97, 110, 110, 0, 20, 44446, 98, 111, 98, 0, 3, 4444, 99, 105, 100, 1, 0, 99004, 100, 111, 116, 1, 40, 98014])), .inl (gA Γ 0, 205, .inl (fun _ => nI 0)), .inl (gA Γ 0, 205, .inl (fun _ => nI 0))]) (Eq.trans (rW_set (i := 0) (by rfl) (Nat.le_of_ble_eq_true rfl)) (by rfl)) ?_
  refine g_aload_n 0 rfl dX8_init_435 ?_
  refine gn_sp 2050 (by decide) dX8_init_436 ?_
  refine gn_newi (wl_1 95 rfl rfl) (by decide) dX8_init_439 (fun hB => ?_)
  refine g_world (E2 := rW mo F [.inr (11, [.ref (mo + 1), .ref (mo + 2), .int (nI 0), .ref (mo + 3), .ref (mo + 4), .null, .int (nI 0), .null, .int (nI 0), .null, .null, .int (nI 0), .int (nI 0), .null, .int (nI 0), .null, .int (nI 0), .int (nI 0), .int (nI 0), .int (nI 0), .int (nI 0), .int (nI 0), .int (nI 0), .int (nI 0), .int (nI 0), .int (nI 0)]), .inl (gA Γ 0, 48, .inl (lsF [104, 111, 117, 115, 101, 0, 0, 0, 108, 97, 110, 100, 108, 97, 100, 121, 108, 111, 100, 103, 101, 114, 0, 0, 112, 97, 121, 0, 0, 0, 0, 0, 109, 111, 118, 101, 0, 0, 0, 0, 100, 97, 121, 115, 0, 0, 0, 0])), .inl (gA Γ 0, 24, .inl (lsF [97, 110, 110, 0, 20, 44446, 98, 111, 98, 0, 3, 4444, 99, 105, 100, 1, 0, 99004, 100, 111, 116, 1, 40, 98014])), .inl (gA Γ 0, 205, .inl (fun _ => nI 0)), .inl (gA Γ 0, 205, .inl (fun _ => nI 0)), .inl (gA Γ 0, 2050, .inl (fun _ => nI 0))]) (Eq.trans (rW_new (by rfl)) (by rfl)) ?_
  refine g_putF f_X8_25 w_X8_5 ⟨_, _, rfl⟩ rfl (rW_at (i := 0) rfl rfl) (Nat.le_of_ble_eq_true rfl) rfl rfl rfl dX8_init_441 ?_
  refine g_world (E2 := rW mo F [.inr (11, [.ref (mo + 1), .ref (mo + 2), .int (nI 0), .ref (mo + 3), .ref (mo + 4), .ref (mo + 5), .int (nI 0), .null, .int (nI 0), .null, .null, .int (nI 0), .int (nI 0), .null, .int (nI 0), .null, .int (nI 0), .int (nI 0), .int (nI 0), .int (nI 0), .int (nI 0), .int (nI 0), .int (nI 0), .int (nI 0), .int (nI 0), .int (nI 0)]), .inl (gA Γ 0, 48, .inl (lsF [104, 111, 117, 115, 101, 0, 0, 0, 108, 97, 110, 100, 108, 97, 100, 121, 108, 111, 100, 103, 101, 114, 0, 0, 112, 97, 121, 0, 0, 0, 0, 0, 109, 111, 118, 101, 0, 0, 0, 0, 100, 97, 121, 115, 0, 0, 0, 0])), .inl (gA Γ 0, 24, .inl (lsF [97, 110, 110, 0, 20, 44446, 98, 111, 98, 0, 3, 4444, 99, 105, 100, 1, 0, 99004, 100, 111, 116, 1, 40, 98014])), .inl (gA Γ 0, 205, .inl (fun _ => nI 0)), .inl (gA Γ 0, 205, .inl (fun _ => nI 0)), .inl (gA Γ 0, 2050, .inl (fun _ => nI 0))]) (Eq.trans (rW_set (i := 0) (by rfl) (Nat.le_of_ble_eq_true rfl)) (by rfl)) ?_
  refine g_aload_n 0 rfl dX8_init_444 ?_
  refine gn_sp 410 (by decide) dX8_init_445 ?_
  refine gn_newi (wl_1 95 rfl rfl) (by decide) dX8_init_448 (fun hB => ?_)
  refine g_world (E2 := rW mo F [.inr (11, [.ref (mo + 1), .ref (mo + 2), .int (nI 0), .ref (mo + 3), .ref (mo + 4), .ref (mo + 5), .int (nI 0), .null, .int (nI 0), .null, .null, .int (nI 0), .int (nI 0), .null, .int (nI 0), .null, .int (nI 0), .int (nI 0), .int (nI 0), .int (nI 0), .int (nI 0), .int (nI 0), .int (nI 0), .int (nI 0), .int (nI 0), .int (nI 0)]), .inl (gA Γ 0, 48, .inl (lsF [104, 111, 117, 115, 101, 0, 0, 0, 108, 97, 110, 100, 108, 97, 100, 121, 108, 111, 100, 103, 101, 114, 0, 0, 112, 97, 121, 0, 0, 0, 0, 0, 109, 111, 118, 101, 0, 0, 0, 0, 100, 97, 121, 115, 0, 0, 0, 0])), .inl (gA Γ 0, 24, .inl (lsF [97, 110, 110, 0, 20, 44446, 98, 111, 98, 0, 3, 4444, 99, 105, 100, 1, 0, 99004, 100, 111, 116, 1, 40, 98014])), .inl (gA Γ 0, 205, .inl (fun _ => nI 0)), .inl (gA Γ 0, 205, .inl (fun _ => nI 0)), .inl (gA Γ 0, 2050, .inl (fun _ => nI 0)), .inl (gA Γ 0, 410, .inl (fun _ => nI 0))]) (Eq.trans (rW_new (by rfl)) (by rfl)) ?_
  refine g_putF f_X8_28 w_X8_7 ⟨_, _, rfl⟩ rfl (rW_at (i := 0) rfl rfl) (Nat.le_of_ble_eq_true rfl) rfl rfl rfl dX8_init_450 ?_
  refine g_world (E2 := rW mo F [.inr (11, [.ref (mo + 1), .ref (mo + 2), .int (nI 0), .ref (mo + 3), .ref (mo + 4), .ref (mo + 5), .int (nI 0), .ref (mo + 6), .int (nI 0), .null, .null, .int (nI 0), .int (nI 0), .null, .int (nI 0), .null, .int (nI 0), .int (nI 0), .int (nI 0), .int (nI 0), .int (nI 0), .int (nI 0), .int (nI 0), .int (nI 0), .int (nI 0), .int (nI 0)]), .inl (gA Γ 0, 48, .inl (lsF [104, 111, 117, 115, 101, 0, 0, 0, 108, 97, 110, 100, 108, 97, 100, 121, 108, 111, 100, 103, 101, 114, 0, 0, 112, 97, 121, 0, 0, 0, 0, 0, 109, 111, 118, 101, 0, 0, 0, 0, 100, 97, 121, 115, 0, 0, 0, 0])), .inl (gA Γ 0, 24, .inl (lsF [97, 110, 110, 0, 20, 44446, 98, 111, 98, 0, 3, 4444, 99, 105, 100, 1, 0, 99004, 100, 111, 116, 1, 40, 98014])), .inl (gA Γ 0, 205, .inl (fun _ => nI 0)), .inl (gA Γ 0, 205, .inl (fun _ => nI 0)), .inl (gA Γ 0, 2050, .inl (fun _ => nI 0)), .inl (gA Γ 0, 410, .inl (fun _ => nI 0))]) (Eq.trans (rW_set (i := 0) (by rfl) (Nat.le_of_ble_eq_true rfl)) (by rfl)) ?_
  refine g_aload_n 0 rfl dX8_init_453 ?_
  refine gn_bp 25 (by decide) dX8_init_454 ?_
  refine gn_newi (wl_1 95 rfl rfl) (by decide) dX8_init_456 (fun hB => ?_)
  refine g_world (E2 := rW mo F [.inr (11, [.ref (mo + 1), .ref (mo + 2), .int (nI 0), .ref (mo + 3), .ref (mo + 4), .ref (mo + 5), .int (nI 0), .ref (mo + 6), .int (nI 0), .null, .null, .int (nI 0), .int (nI 0), .null, .int (nI 0), .null, .int (nI 0), .int (nI 0), .int (nI 0), .int (nI 0), .int (nI 0), .int (nI 0), .int (nI 0), .int (nI 0), .int (nI 0), .int (nI 0)]), .inl (gA Γ 0, 48, .inl (lsF [104, 111, 117, 115, 101, 0, 0, 0, 108, 97, 110, 100, 108, 97, 100, 121, 108, 111, 100, 103, 101, 114, 0, 0, 112, 97, 121, 0, 0, 0, 0, 0, 109, 111, 118, 101, 0, 0, 0, 0, 100, 97, 121, 115, 0, 0, 0, 0])), .inl (gA Γ 0, 24, .inl (lsF [97, 110, 110, 0, 20, 44446, 98, 111, 98, 0, 3, 4444, 99, 105, 100, 1, 0, 99004, 100, 111, 116, 1, 40, 98014])), .inl (gA Γ 0, 205, .inl (fun _ => nI 0)), .inl (gA Γ 0, 205, .inl (fun _ => nI 0)), .inl (gA Γ 0, 2050, .inl (fun _ => nI 0)), .inl (gA Γ 0, 410, .inl (fun _ => nI 0)), .inl (gA Γ 0, 25, .inl (fun _ => nI 0))]) (Eq.trans (rW_new (by rfl)) (by rfl)) ?_
  refine g_putF f_X8_31 w_X8_9 ⟨_, _, rfl⟩ rfl (rW_at (i := 0) rfl rfl) (Nat.le_of_ble_eq_true rfl) rfl rfl rfl dX8_init_458 ?_
  refine g_world (E2 := rW mo F [.inr (11, [.ref (mo + 1), .ref (mo + 2), .int (nI 0), .ref (mo + 3), .ref (mo + 4), .ref (mo + 5), .int (nI 0), .ref (mo + 6), .int (nI 0), .ref (mo + 7), .null, .int (nI 0), .int (nI 0), .null, .int (nI 0), .null, .int (nI 0), .int (nI 0), .int (nI 0), .int (nI 0), .int (nI 0), .int (nI 0), .int (nI 0), .int (nI 0), .int (nI 0), .int (nI 0)]), .inl (gA Γ 0, 48, .inl (lsF [104, 111, 117, 115, 101, 0, 0, 0, 108, 97, 110, 100, 108, 97, 100, 121, 108, 111, 100, 103, 101, 114, 0, 0, 112, 97, 121, 0, 0, 0, 0, 0, 109, 111, 118, 101, 0, 0, 0, 0, 100, 97, 121, 115, 0, 0, 0, 0])), .inl (gA Γ 0, 24, .inl (lsF [97, 110, 110, 0, 20, 44446, 98, 111, 98, 0, 3, 4444, 99, 105, 100, 1, 0, 99004, 100, 111, 116, 1, 40, 98014])), .inl (gA Γ 0, 205, .inl (fun _ => nI 0)), .inl (gA Γ 0, 205, .inl (fun _ => nI 0)), .inl (gA Γ 0, 2050, .inl (fun _ => nI 0)), .inl (gA Γ 0, 410, .inl (fun _ => nI 0)), .inl (gA Γ 0, 25, .inl (fun _ => nI 0))]) (Eq.trans (rW_set (i := 0) (by rfl) (Nat.le_of_ble_eq_true rfl)) (by rfl)) ?_
  refine g_aload_n 0 rfl dX8_init_461 ?_
  refine gn_ic 5 (by decide) dX8_init_462 ?_
  refine gn_newi (wl_1 95 rfl rfl) (by decide) dX8_init_463 (fun hB => ?_)
  refine g_world (E2 := rW mo F [.inr (11, [.ref (mo + 1), .ref (mo + 2), .int (nI 0), .ref (mo + 3), .ref (mo + 4), .ref (mo + 5), .int (nI 0), .ref (mo + 6), .int (nI 0), .ref (mo + 7), .null, .int (nI 0), .int (nI 0), .null, .int (nI 0), .null, .int (nI 0), .int (nI 0), .int (nI 0), .int (nI 0), .int (nI 0), .int (nI 0), .int (nI 0), .int (nI 0), .int (nI 0), .int (nI 0)]), .inl (gA Γ 0, 48, .inl (lsF [104, 111, 117, 115, 101, 0, 0, 0, 108, 97, 110, 100, 108, 97, 100, 121, 108, 111, 100, 103, 101, 114, 0, 0, 112, 97, 121, 0, 0, 0, 0, 0, 109, 111, 118, 101, 0, 0, 0, 0, 100, 97, 121, 115, 0, 0, 0, 0])), .inl (gA Γ 0, 24, .inl (lsF [97, 110, 110, 0, 20, 44446, 98, 111, 98, 0, 3, 4444, 99, 105, 100, 1, 0, 99004, 100, 111, 116, 1, 40, 98014])), .inl (gA Γ 0, 205, .inl (fun _ => nI 0)), .inl (gA Γ 0, 205, .inl (fun _ => nI 0)), .inl (gA Γ 0, 2050, .inl (fun _ => nI 0)), .inl (gA Γ 0, 410, .inl (fun _ => nI 0)), .inl (gA Γ 0, 25, .inl (fun _ => nI 0)), .inl (gA Γ 0, 5, .inl (fun _ => nI 0))]) (Eq.trans (rW_new (by rfl)) (by rfl)) ?_
  refine g_putF f_X8_34 w_X8_10 ⟨_, _, rfl⟩ rfl (rW_at (i := 0) rfl rfl) (Nat.le_of_ble_eq_true rfl) rfl rfl rfl dX8_init_465 ?_
  refine g_world (E2 := rW mo F [.inr (11, [.ref (mo + 1), .ref (mo + 2), .int (nI 0), .ref (mo + 3), .ref (mo + 4), .ref (mo + 5), .int (nI 0), .ref (mo + 6), .int (nI 0), .ref (mo + 7), .ref (mo + 8), .int (nI 0), .int (nI 0), .null, .int (nI 0), .null, .int (nI 0), .int (nI 0), .int (nI 0), .int (nI 0), .int (nI 0), .int (nI 0), .int (nI 0), .int (nI 0), .int (nI 0), .int (nI 0)]), .inl (gA Γ 0, 48, .inl (lsF [104, 111, 117, 115, 101, 0, 0, 0, 108, 97, 110, 100, 108, 97, 100, 121, 108, 111, 100, 103, 101, 114, 0, 0, 112, 97, 121, 0, 0, 0, 0, 0, 109, 111, 118, 101, 0, 0, 0, 0, 100, 97, 121, 115, 0, 0, 0, 0])), .inl (gA Γ 0, 24, .inl (lsF [97, 110, 110, 0, 20, 44446, 98, 111, 98, 0, 3, 4444, 99, 105, 100, 1, 0, 99004, 100, 111, 116, 1, 40, 98014])), .inl (gA Γ 0, 205, .inl (fun _ => nI 0)), .inl (gA Γ 0, 205, .inl (fun _ => nI 0)), .inl (gA Γ 0, 2050, .inl (fun _ => nI 0)), .inl (gA Γ 0, 410, .inl (fun _ => nI 0)), .inl (gA Γ 0, 25, .inl (fun _ => nI 0)), .inl (gA Γ 0, 5, .inl (fun _ => nI 0))]) (Eq.trans (rW_set (i := 0) (by rfl) (Nat.le_of_ble_eq_true rfl)) (by rfl)) ?_
  refine g_aload_n 0 rfl dX8_init_468 ?_
  refine g_iconst (v := -1) dX8_init_469 (by decide) ?_
  refine g_put f_X8_37 w_X8_11 (rW_at (i := 0) rfl rfl) (Nat.le_of_ble_eq_true rfl) rfl rfl rfl dX8_init_470 ?_
  refine g_world (E2 := rW mo F [.inr (11, [.ref (mo + 1), .ref (mo + 2), .int (nI 0), .ref (mo + 3), .ref (mo + 4), .ref (mo + 5), .int (nI 0), .ref (mo + 6), .int (nI 0), .ref (mo + 7), .ref (mo + 8), .int (-1), .int (nI 0), .null, .int (nI 0), .null, .int (nI 0), .int (nI 0), .int (nI 0), .int (nI 0), .int (nI 0), .int (nI 0), .int (nI 0), .int (nI 0), .int (nI 0), .int (nI 0)]), .inl (gA Γ 0, 48, .inl (lsF [104, 111, 117, 115, 101, 0, 0, 0, 108, 97, 110, 100, 108, 97, 100, 121, 108, 111, 100, 103, 101, 114, 0, 0, 112, 97, 121, 0, 0, 0, 0, 0, 109, 111, 118, 101, 0, 0, 0, 0, 100, 97, 121, 115, 0, 0, 0, 0])), .inl (gA Γ 0, 24, .inl (lsF [97, 110, 110, 0, 20, 44446, 98, 111, 98, 0, 3, 4444, 99, 105, 100, 1, 0, 99004, 100, 111, 116, 1, 40, 98014])), .inl (gA Γ 0, 205, .inl (fun _ => nI 0)), .inl (gA Γ 0, 205, .inl (fun _ => nI 0)), .inl (gA Γ 0, 2050, .inl (fun _ => nI 0)), .inl (gA Γ 0, 410, .inl (fun _ => nI 0)), .inl (gA Γ 0, 25, .inl (fun _ => nI 0)), .inl (gA Γ 0, 5, .inl (fun _ => nI 0))]) (Eq.trans (rW_set (i := 0) (by rfl) (Nat.le_of_ble_eq_true rfl)) (by rfl)) ?_
  refine g_aload_n 0 rfl dX8_init_473 ?_
  refine gn_sp 600 (by decide) dX8_init_474 ?_
  refine gn_newb (wl_1 70 rfl rfl) (by decide) dX8_init_477 (fun hB => ?_)
  refine g_world (E2 := rW mo F [.inr (11, [.ref (mo + 1), .ref (mo + 2), .int (nI 0), .ref (mo + 3), .ref (mo + 4), .ref (mo + 5), .int (nI 0), .ref (mo + 6), .int (nI 0), .ref (mo + 7), .ref (mo + 8), .int (-1), .int (nI 0), .null, .int (nI 0), .null, .int (nI 0), .int (nI 0), .int (nI 0), .int (nI 0), .int (nI 0), .int (nI 0), .int (nI 0), .int (nI 0), .int (nI 0), .int (nI 0)]), .inl (gA Γ 0, 48, .inl (lsF [104, 111, 117, 115, 101, 0, 0, 0, 108, 97, 110, 100, 108, 97, 100, 121, 108, 111, 100, 103, 101, 114, 0, 0, 112, 97, 121, 0, 0, 0, 0, 0, 109, 111, 118, 101, 0, 0, 0, 0, 100, 97, 121, 115, 0, 0, 0, 0])), .inl (gA Γ 0, 24, .inl (lsF [97, 110, 110, 0, 20, 44446, 98, 111, 98, 0, 3, 4444, 99, 105, 100, 1, 0, 99004, 100, 111, 116, 1, 40, 98014])), .inl (gA Γ 0, 205, .inl (fun _ => nI 0)), .inl (gA Γ 0, 205, .inl (fun _ => nI 0)), .inl (gA Γ 0, 2050, .inl (fun _ => nI 0)), .inl (gA Γ 0, 410, .inl (fun _ => nI 0)), .inl (gA Γ 0, 25, .inl (fun _ => nI 0)), .inl (gA Γ 0, 5, .inl (fun _ => nI 0)), .inl (gA Γ 1, 600, .inl (fun _ => nI 0))]) (Eq.trans (rW_new (by rfl)) (by rfl)) ?_
  refine g_putF f_X8_41 w_X8_13 ⟨_, _, rfl⟩ rfl (rW_at (i := 0) rfl rfl) (Nat.le_of_ble_eq_true rfl) rfl rfl rfl dX8_init_479 ?_
  refine g_world (E2 := rW mo F [.inr (11, [.ref (mo + 1), .ref (mo + 2), .int (nI 0), .ref (mo + 3), .ref (mo + 4), .ref (mo + 5), .int (nI 0), .ref (mo + 6), .int (nI 0), .ref (mo + 7), .ref (mo + 8), .int (-1), .int (nI 0), .ref (mo + 9), .int (nI 0), .null, .int (nI 0), .int (nI 0), .int (nI 0), .int (nI 0), .int (nI 0), .int (nI 0), .int (nI 0), .int (nI 0), .int (nI 0), .int (nI 0)]), .inl (gA Γ 0, 48, .inl (lsF [104, 111, 117, 115, 101, 0, 0, 0, 108, 97, 110, 100, 108, 97, 100, 121, 108, 111, 100, 103, 101, 114, 0, 0, 112, 97, 121, 0, 0, 0, 0, 0, 109, 111, 118, 101, 0, 0, 0, 0, 100, 97, 121, 115, 0, 0, 0, 0])), .inl (gA Γ 0, 24, .inl (lsF [97, 110, 110, 0, 20, 44446, 98, 111, 98, 0, 3, 4444, 99, 105, 100, 1, 0, 99004, 100, 111, 116, 1, 40, 98014])), .inl (gA Γ 0, 205, .inl (fun _ => nI 0)), .inl (gA Γ 0, 205, .inl (fun _ => nI 0)), .inl (gA Γ 0, 2050, .inl (fun _ => nI 0)), .inl (gA Γ 0, 410, .inl (fun _ => nI 0)), .inl (gA Γ 0, 25, .inl (fun _ => nI 0)), .inl (gA Γ 0, 5, .inl (fun _ => nI 0)), .inl (gA Γ 1, 600, .inl (fun _ => nI 0))]) (Eq.trans (rW_set (i := 0) (by rfl) (Nat.le_of_ble_eq_true rfl)) (by rfl)) ?_
  refine g_aload_n 0 rfl dX8_init_482 ?_
  refine gn_bp 60 (by decide) dX8_init_483 ?_
  refine gn_newc (wl_7 154 rfl rfl) (by decide) dX8_init_485 (fun hB => ?_)
  refine g_world (E2 := rW mo F [.inr (11, [.ref (mo + 1), .ref (mo + 2), .int (nI 0), .ref (mo + 3), .ref (mo + 4), .ref (mo + 5), .int (nI 0), .ref (mo + 6), .int (nI 0), .ref (mo + 7), .ref (mo + 8), .int (-1), .int (nI 0), .ref (mo + 9), .int (nI 0), .null, .int (nI 0), .int (nI 0), .int (nI 0), .int (nI 0), .int (nI 0), .int (nI 0), .int (nI 0), .int (nI 0), .int (nI 0), .int (nI 0)]), .inl (gA Γ 0, 48, .inl (lsF [104, 111, 117, 115, 101, 0, 0, 0, 108, 97, 110, 100, 108, 97, 100, 121, 108, 111, 100, 103, 101, 114, 0, 0, 112, 97, 121, 0, 0, 0, 0, 0, 109, 111, 118, 101, 0, 0, 0, 0, 100, 97, 121, 115, 0, 0, 0, 0])), .inl (gA Γ 0, 24, .inl (lsF [97, 110, 110, 0, 20, 44446, 98, 111, 98, 0, 3, 4444, 99, 105, 100, 1, 0, 99004, 100, 111, 116, 1, 40, 98014])), .inl (gA Γ 0, 205, .inl (fun _ => nI 0)), .inl (gA Γ 0, 205, .inl (fun _ => nI 0)), .inl (gA Γ 0, 2050, .inl (fun _ => nI 0)), .inl (gA Γ 0, 410, .inl (fun _ => nI 0)), .inl (gA Γ 0, 25, .inl (fun _ => nI 0)), .inl (gA Γ 0, 5, .inl (fun _ => nI 0)), .inl (gA Γ 1, 600, .inl (fun _ => nI 0)), .inl (gA Γ 4, 60, .inl (fun _ => nI 0))]) (Eq.trans (rW_new (by rfl)) (by rfl)) ?_
  refine g_putF f_X8_45 w_X8_15 ⟨_, _, rfl⟩ rfl (rW_at (i := 0) rfl rfl) (Nat.le_of_ble_eq_true rfl) rfl rfl rfl dX8_init_487 ?_
  refine g_world (E2 := rW mo F [.inr (11, [.ref (mo + 1), .ref (mo + 2), .int (nI 0), .ref (mo + 3), .ref (mo + 4), .ref (mo + 5), .int (nI 0), .ref (mo + 6), .int (nI 0), .ref (mo + 7), .ref (mo + 8), .int (-1), .int (nI 0), .ref (mo + 9), .int (nI 0), .ref (mo + 10), .int (nI 0), .int (nI 0), .int (nI 0), .int (nI 0), .int (nI 0), .int (nI 0), .int (nI 0), .int (nI 0), .int (nI 0), .int (nI 0)]), .inl (gA Γ 0, 48, .inl (lsF [104, 111, 117, 115, 101, 0, 0, 0, 108, 97, 110, 100, 108, 97, 100, 121, 108, 111, 100, 103, 101, 114, 0, 0, 112, 97, 121, 0, 0, 0, 0, 0, 109, 111, 118, 101, 0, 0, 0, 0, 100, 97, 121, 115, 0, 0, 0, 0])), .inl (gA Γ 0, 24, .inl (lsF [97, 110, 110, 0, 20, 44446, 98, 111, 98, 0, 3, 4444, 99, 105, 100, 1, 0, 99004, 100, 111, 116, 1, 40, 98014])), .inl (gA Γ 0, 205, .inl (fun _ => nI 0)), .inl (gA Γ 0, 205, .inl (fun _ => nI 0)), .inl (gA Γ 0, 2050, .inl (fun _ => nI 0)), .inl (gA Γ 0, 410, .inl (fun _ => nI 0)), .inl (gA Γ 0, 25, .inl (fun _ => nI 0)), .inl (gA Γ 0, 5, .inl (fun _ => nI 0)), .inl (gA Γ 1, 600, .inl (fun _ => nI 0)), .inl (gA Γ 4, 60, .inl (fun _ => nI 0))]) (Eq.trans (rW_set (i := 0) (by rfl) (Nat.le_of_ble_eq_true rfl)) (by rfl)) ?_
  refine g_aload_n 0 rfl dX8_init_490 ?_
  refine g_iconst (v := -1) dX8_init_491 (by decide) ?_
  refine g_put f_X8_49 w_X8_18 (rW_at (i := 0) rfl rfl) (Nat.le_of_ble_eq_true rfl) rfl rfl rfl dX8_init_492 ?_
  refine g_world (E2 := rW mo F [.inr (11, [.ref (mo + 1), .ref (mo + 2), .int (nI 0), .ref (mo + 3), .ref (mo + 4), .ref (mo + 5), .int (nI 0), .ref (mo + 6), .int (nI 0), .ref (mo + 7), .ref (mo + 8), .int (-1), .int (nI 0), .ref (mo + 9), .int (nI 0), .ref (mo + 10), .int (nI 0), .int (nI 0), .int (-1), .int (nI 0), .int (nI 0), .int (nI 0), .int (nI 0), .int (nI 0), .int (nI 0), .int (nI 0)]), .inl (gA Γ 0, 48, .inl (lsF [104, 111, 117, 115, 101, 0, 0, 0, 108, 97, 110, 100, 108, 97, 100, 121, 108, 111, 100, 103, 101, 114, 0, 0, 112, 97, 121, 0, 0, 0, 0, 0, 109, 111, 118, 101, 0, 0, 0, 0, 100, 97, 121, 115, 0, 0, 0, 0])), .inl (gA Γ 0, 24, .inl (lsF [97, 110, 110, 0, 20, 44446, 98, 111, 98, 0, 3, 4444, 99, 105, 100, 1, 0, 99004, 100, 111, 116, 1, 40, 98014])), .inl (gA Γ 0, 205, .inl (fun _ => nI 0)), .inl (gA Γ 0, 205, .inl (fun _ => nI 0)), .inl (gA Γ 0, 2050, .inl (fun _ => nI 0)), .inl (gA Γ 0, 410, .inl (fun _ => nI 0)), .inl (gA Γ 0, 25, .inl (fun _ => nI 0)), .inl (gA Γ 0, 5, .inl (fun _ => nI 0)), .inl (gA Γ 1, 600, .inl (fun _ => nI 0)), .inl (gA Γ 4, 60, .inl (fun _ => nI 0))]) (Eq.trans (rW_set (i := 0) (by rfl) (Nat.le_of_ble_eq_true rfl)) (by rfl)) ?_
  refine g_world (E2 := MW Γ mo F iniI iniA (fun _ => nI 0)) (Eq.trans (by rfl) MW_rW) ?_
  exact G.mono (Nat.zero_le _) (Nat.zero_le _) (G.weak (G.mono (Nat.zero_le _) (Nat.zero_le _) (r_init (I := iniI) rfl rfl)) (fun v E1 n1 z => z) (fun _ _ _ z => z))
end GM12
