section GCASE2
variable {Γ : Gm} {t ab mo n k0 kc ks : Nat} {E : Hp}
set_option maxRecDepth 100000 in
set_option maxHeartbeats 1000000 in
theorem q_rhymeCount (h0 : IVo Γ ab mo k0 t E n) (ht : t ≤ 600) (hL : 6 * t + 6 ≤ gF Γ 10) (K : KL Γ ab mo t kc ks) : G Γ 15 ML_law Pl X0 1616 (lvL Γ ab mo t) [] E n (kc + 330) (ks + 10200) := by
  refine g_aload_n 1 rfl dL_law_1616 ?_
  refine g_aload_n 0 rfl dL_law_1617 ?_
  refine g_iload 4 rfl dL_law_1618 ?_
  refine gn_ic 1 (by decide) dL_law_1620 ?_
  refine gn_iadd dL_law_1621 ?_
  refine g_sld (by omega) dL_law_1622 ?_
  refine g_aload_n 3 rfl dL_law_1623 ?_
  refine g_invSH (w_rhymeCount h0 (o_rhymeCount h0)) l_L_259 rfl (Nat.le_of_ble_eq_true rfl) (Nat.le_of_ble_eq_true rfl) rfl dL_law_1624 (fun _ _ _ z => z.elim) (fun r E1 n1 z => ?_)
  obtain ⟨k, x, g, rfl, hk3, hg, hx, ⟨fs, hfs⟩, d8, hd8, hc⟩ := z
  refine g_istore (lv2 := [(5, _), (0, _), (1, _), (2, _), (3, _), (4, _)]) (by decide) rfl dL_law_1627 ?_
  refine g_aload_n 3 rfl dL_law_1629 ?_
  refine g_aload_n 1 rfl dL_law_1630 ?_
  refine g_iload 5 rfl dL_law_1631 ?_
  refine gn_ic 1 (by decide) dL_law_1633 ?_
  refine gn_iadd dL_law_1634 ?_
  refine g_sld (by omega) dL_law_1635 ?_
  refine gw_V hc l_L_261 rfl (Rcv.of hfs rfl) (by omega) (Nat.le_of_ble_eq_true rfl) rfl dL_law_1636 (fun _ _ _ z => z) (fun r E2 n2 z => ?_)
  obtain ⟨rfl, hg2, ⟨b, rfl, hb⟩, h1⟩ := z
  refine g_istore (lv2 := [(6, _), (5, _), (0, _), (1, _), (2, _), (3, _), (4, _)]) (by decide) rfl dL_law_1639 ?_
  refine g_aload_n 4 rfl dL_law_1641 ?_
  obtain ⟨S, q, I, A, f, -, i2, -, -, -, i6⟩ := id h1
  refine g_world i2 ?_
  refine gv_V c_X8_thrown l_L_160 rfl m_rcv (Nat.le_of_ble_eq_true rfl) (Nat.le_of_ble_eq_true rfl) rfl dL_law_1642 ?_
  refine g_world i2.symm ?_
  refine g_iload 1 rfl dL_law_1645 ?_
  refine g_icmp_eq (tgt := 1652) (by decide) dL_law_1647 (fun _ => ?_) (fun c => absurd i6 c)
  refine g_iload 1 rfl dL_law_1652 ?_
  refine g_if_ne (tgt := 1669) (by decide) dL_law_1654 (fun _ => ?_) (fun c => ?_)
  · skip
    refine g_goto (tgt := 3119) (by decide) dL_law_1669 ?_
    exact G.sub [2, 3, 4, 5, 6] rfl (K _ _ _ h1)
  · obtain rfl := nI_0k hk3 c
    have hb := hb rfl
    have hx := hx rfl
    refine g_aload_n 5 rfl dL_law_1657 ?_
    refine gn_ic 0 (by decide) dL_law_1658 ?_
    refine g_lald (N := 1) (f := g) hg2 (vp_in_nI (by decide) (by decide)) dL_law_1659 ?_
    refine g_iload 0 rfl dL_law_1660 ?_
    refine g_i2l dL_law_1662 ?_
    refine g_lcmp dL_law_1663 ?_
    refine g_if_eq (tgt := 1669) (by decide) dL_law_1664 (fun _ => ?_) (fun c => absurd (cmp_I hx hb) c)
    refine g_goto (tgt := 3119) (by decide) dL_law_1669 ?_
    exact G.sub [2, 3, 4, 5, 6] rfl (K _ _ _ h1)
set_option maxRecDepth 100000 in
set_option maxHeartbeats 1000000 in
theorem q_closestTo (h0 : IVo Γ ab mo k0 t E n) (ht : t ≤ 600) (hL : 6 * t + 6 ≤ gF Γ 10) (K : KL Γ ab mo t kc ks) : G Γ 15 ML_law Pl X0 1672 (lvL Γ ab mo t) [] E n (kc + 330) (ks + 10200) := by
  refine g_aload_n 1 rfl dL_law_1672 ?_
  refine g_aload_n 0 rfl dL_law_1673 ?_
  refine g_iload 4 rfl dL_law_1674 ?_
  refine gn_ic 1 (by decide) dL_law_1676 ?_
  refine gn_iadd dL_law_1677 ?_
  refine g_sld (by omega) dL_law_1678 ?_
  refine g_aload_n 3 rfl dL_law_1679 ?_
  refine g_invSH (w_closestTo h0 (o_closestTo h0)) l_L_262 rfl (Nat.le_of_ble_eq_true rfl) (Nat.le_of_ble_eq_true rfl) rfl dL_law_1680 (fun _ _ _ z => z.elim) (fun r E1 n1 z => ?_)
  obtain ⟨k, x, g, rfl, hk3, hg, hx, ⟨fs, hfs⟩, d8, hd8, hc⟩ := z
  refine g_istore (lv2 := [(5, _), (0, _), (1, _), (2, _), (3, _), (4, _)]) (by decide) rfl dL_law_1683 ?_
  refine g_aload_n 3 rfl dL_law_1685 ?_
  refine g_aload_n 1 rfl dL_law_1686 ?_
  refine g_iload 5 rfl dL_law_1687 ?_
  refine gn_ic 1 (by decide) dL_law_1689 ?_
  refine gn_iadd dL_law_1690 ?_
  refine g_sld (by omega) dL_law_1691 ?_
  refine gw_V hc l_L_264 rfl (Rcv.of hfs rfl) (by omega) (Nat.le_of_ble_eq_true rfl) rfl dL_law_1692 (fun _ _ _ z => z) (fun r E2 n2 z => ?_)
  obtain ⟨rfl, hg2, ⟨b, rfl, hb⟩, h1⟩ := z
  refine g_istore (lv2 := [(6, _), (5, _), (0, _), (1, _), (2, _), (3, _), (4, _)]) (by decide) rfl dL_law_1695 ?_
  refine g_aload_n 4 rfl dL_law_1697 ?_
  obtain ⟨S, q, I, A, f, -, i2, -, -, -, i6⟩ := id h1
  refine g_world i2 ?_
  refine gv_V c_X8_thrown l_L_160 rfl m_rcv (Nat.le_of_ble_eq_true rfl) (Nat.le_of_ble_eq_true rfl) rfl dL_law_1698 ?_
  refine g_world i2.symm ?_
  refine g_iload 1 rfl dL_law_1701 ?_
  refine g_icmp_eq (tgt := 1708) (by decide) dL_law_1703 (fun _ => ?_) (fun c => absurd i6 c)
  refine g_iload 1 rfl dL_law_1708 ?_
  refine g_if_ne (tgt := 1725) (by decide) dL_law_1710 (fun _ => ?_) (fun c => ?_)
  · skip
    refine g_goto (tgt := 3119) (by decide) dL_law_1725 ?_
    exact G.sub [2, 3, 4, 5, 6] rfl (K _ _ _ h1)
  · obtain rfl := nI_0k hk3 c
    have hb := hb rfl
    have hx := hx rfl
    refine g_aload_n 5 rfl dL_law_1713 ?_
    refine gn_ic 0 (by decide) dL_law_1714 ?_
    refine g_lald (N := 1) (f := g) hg2 (vp_in_nI (by decide) (by decide)) dL_law_1715 ?_
    refine g_iload 0 rfl dL_law_1716 ?_
    refine g_i2l dL_law_1718 ?_
    refine g_lcmp dL_law_1719 ?_
    refine g_if_eq (tgt := 1725) (by decide) dL_law_1720 (fun _ => ?_) (fun c => absurd (cmp_I hx hb) c)
    refine g_goto (tgt := 3119) (by decide) dL_law_1725 ?_
    exact G.sub [2, 3, 4, 5, 6] rfl (K _ _ _ h1)
set_option maxRecDepth 100000 in
set_option maxHeartbeats 1000000 in
theorem q_lessonVowel (h0 : IVo Γ ab mo k0 t E n) (ht : t ≤ 600) (hL : 6 * t + 6 ≤ gF Γ 10) (K : KL Γ ab mo t kc ks) : G Γ 15 ML_law Pl X0 1728 (lvL Γ ab mo t) [] E n (kc + 330) (ks + 10200) := by
  refine g_aload_n 1 rfl dL_law_1728 ?_
  refine g_aload_n 0 rfl dL_law_1729 ?_
  refine g_iload 4 rfl dL_law_1730 ?_
  refine gn_ic 1 (by decide) dL_law_1732 ?_
  refine gn_iadd dL_law_1733 ?_
  refine g_sld (by omega) dL_law_1734 ?_
  refine g_aload_n 3 rfl dL_law_1735 ?_
  refine g_invSH (w_lessonVowel h0 (o_lessonVowel h0)) l_L_265 rfl (Nat.le_of_ble_eq_true rfl) (Nat.le_of_ble_eq_true rfl) rfl dL_law_1736 (fun _ _ _ z => z.elim) (fun r E1 n1 z => ?_)
  obtain ⟨k, x, g, rfl, hk3, hg, hx, ⟨fs, hfs⟩, d8, hd8, hc⟩ := z
  refine g_istore (lv2 := [(5, _), (0, _), (1, _), (2, _), (3, _), (4, _)]) (by decide) rfl dL_law_1739 ?_
  refine g_aload_n 3 rfl dL_law_1741 ?_
  refine g_aload_n 1 rfl dL_law_1742 ?_
  refine g_iload 5 rfl dL_law_1743 ?_
  refine gn_ic 1 (by decide) dL_law_1745 ?_
  refine gn_iadd dL_law_1746 ?_
  refine g_sld (by omega) dL_law_1747 ?_
  refine gw_V hc l_L_267 rfl (Rcv.of hfs rfl) (by omega) (Nat.le_of_ble_eq_true rfl) rfl dL_law_1748 (fun _ _ _ z => z) (fun r E2 n2 z => ?_)
  obtain ⟨rfl, hg2, ⟨b, rfl, hb⟩, h1⟩ := z
  refine g_istore (lv2 := [(6, _), (5, _), (0, _), (1, _), (2, _), (3, _), (4, _)]) (by decide) rfl dL_law_1751 ?_
  refine g_aload_n 4 rfl dL_law_1753 ?_
  obtain ⟨S, q, I, A, f, -, i2, -, -, -, i6⟩ := id h1
  refine g_world i2 ?_
  refine gv_V c_X8_thrown l_L_160 rfl m_rcv (Nat.le_of_ble_eq_true rfl) (Nat.le_of_ble_eq_true rfl) rfl dL_law_1754 ?_
  refine g_world i2.symm ?_
  refine g_iload 1 rfl dL_law_1757 ?_
  refine g_icmp_eq (tgt := 1764) (by decide) dL_law_1759 (fun _ => ?_) (fun c => absurd i6 c)
  refine g_iload 1 rfl dL_law_1764 ?_
  refine g_if_ne (tgt := 1781) (by decide) dL_law_1766 (fun _ => ?_) (fun c => ?_)
  · skip
    refine g_goto (tgt := 3119) (by decide) dL_law_1781 ?_
    exact G.sub [2, 3, 4, 5, 6] rfl (K _ _ _ h1)
  · obtain rfl := nI_0k hk3 c
    have hb := hb rfl
    have hx := hx rfl
    refine g_aload_n 5 rfl dL_law_1769 ?_
    refine gn_ic 0 (by decide) dL_law_1770 ?_
    refine g_lald (N := 1) (f := g) hg2 (vp_in_nI (by decide) (by decide)) dL_law_1771 ?_
    refine g_iload 0 rfl dL_law_1772 ?_
    refine g_i2l dL_law_1774 ?_
    refine g_lcmp dL_law_1775 ?_
    refine g_if_eq (tgt := 1781) (by decide) dL_law_1776 (fun _ => ?_) (fun c => absurd (cmp_I hx hb) c)
    refine g_goto (tgt := 3119) (by decide) dL_law_1781 ?_
    exact G.sub [2, 3, 4, 5, 6] rfl (K _ _ _ h1)
set_option maxRecDepth 100000 in
set_option maxHeartbeats 1000000 in
theorem q_slipVowel (h0 : IVo Γ ab mo k0 t E n) (ht : t ≤ 600) (hL : 6 * t + 6 ≤ gF Γ 10) (K : KL Γ ab mo t kc ks) : G Γ 15 ML_law Pl X0 1784 (lvL Γ ab mo t) [] E n (kc + 330) (ks + 10200) := by
  refine g_aload_n 1 rfl dL_law_1784 ?_
  refine g_aload_n 0 rfl dL_law_1785 ?_
  refine g_iload 4 rfl dL_law_1786 ?_
  refine gn_ic 1 (by decide) dL_law_1788 ?_
  refine gn_iadd dL_law_1789 ?_
  refine g_sld (by omega) dL_law_1790 ?_
  refine g_aload_n 3 rfl dL_law_1791 ?_
  refine g_invSH (w_slipVowel h0 (o_slipVowel h0)) l_L_268 rfl (Nat.le_of_ble_eq_true rfl) (Nat.le_of_ble_eq_true rfl) rfl dL_law_1792 (fun _ _ _ z => z.elim) (fun r E1 n1 z => ?_)
  obtain ⟨k, x, g, rfl, hk3, hg, hx, ⟨fs, hfs⟩, d8, hd8, hc⟩ := z
  refine g_istore (lv2 := [(5, _), (0, _), (1, _), (2, _), (3, _), (4, _)]) (by decide) rfl dL_law_1795 ?_
  refine g_aload_n 3 rfl dL_law_1797 ?_
  refine g_aload_n 1 rfl dL_law_1798 ?_
  refine g_iload 5 rfl dL_law_1799 ?_
  refine gn_ic 1 (by decide) dL_law_1801 ?_
  refine gn_iadd dL_law_1802 ?_
  refine g_sld (by omega) dL_law_1803 ?_
  refine gw_V hc l_L_270 rfl (Rcv.of hfs rfl) (by omega) (Nat.le_of_ble_eq_true rfl) rfl dL_law_1804 (fun _ _ _ z => z) (fun r E2 n2 z => ?_)
  obtain ⟨rfl, hg2, ⟨b, rfl, hb⟩, h1⟩ := z
  refine g_istore (lv2 := [(6, _), (5, _), (0, _), (1, _), (2, _), (3, _), (4, _)]) (by decide) rfl dL_law_1807 ?_
  refine g_aload_n 4 rfl dL_law_1809 ?_
  obtain ⟨S, q, I, A, f, -, i2, -, -, -, i6⟩ := id h1
  refine g_world i2 ?_
  refine gv_V c_X8_thrown l_L_160 rfl m_rcv (Nat.le_of_ble_eq_true rfl) (Nat.le_of_ble_eq_true rfl) rfl dL_law_1810 ?_
  refine g_world i2.symm ?_
  refine g_iload 1 rfl dL_law_1813 ?_
  refine g_icmp_eq (tgt := 1820) (by decide) dL_law_1815 (fun _ => ?_) (fun c => absurd i6 c)
  refine g_iload 1 rfl dL_law_1820 ?_
  refine g_if_ne (tgt := 1837) (by decide) dL_law_1822 (fun _ => ?_) (fun c => ?_)
  · skip
    refine g_goto (tgt := 3119) (by decide) dL_law_1837 ?_
    exact G.sub [2, 3, 4, 5, 6] rfl (K _ _ _ h1)
  · obtain rfl := nI_0k hk3 c
    have hb := hb rfl
    have hx := hx rfl
    refine g_aload_n 5 rfl dL_law_1825 ?_
    refine gn_ic 0 (by decide) dL_law_1826 ?_
    refine g_lald (N := 1) (f := g) hg2 (vp_in_nI (by decide) (by decide)) dL_law_1827 ?_
    refine g_iload 0 rfl dL_law_1828 ?_
    refine g_i2l dL_law_1830 ?_
    refine g_lcmp dL_law_1831 ?_
    refine g_if_eq (tgt := 1837) (by decide) dL_law_1832 (fun _ => ?_) (fun c => absurd (cmp_I hx hb) c)
    refine g_goto (tgt := 3119) (by decide) dL_law_1837 ?_
    exact G.sub [2, 3, 4, 5, 6] rfl (K _ _ _ h1)
set_option maxRecDepth 100000 in
set_option maxHeartbeats 1000000 in
theorem q_mustGo (h0 : IVo Γ ab mo k0 t E n) (ht : t ≤ 600) (hL : 6 * t + 6 ≤ gF Γ 10) (K : KL Γ ab mo t kc ks) : G Γ 15 ML_law Pl X0 1840 (lvL Γ ab mo t) [] E n (kc + 330) (ks + 10200) := by
  refine g_aload_n 1 rfl dL_law_1840 ?_
  refine g_aload_n 0 rfl dL_law_1841 ?_
  refine g_iload 4 rfl dL_law_1842 ?_
  refine gn_ic 1 (by decide) dL_law_1844 ?_
  refine gn_iadd dL_law_1845 ?_
  refine g_sld (by omega) dL_law_1846 ?_
  refine g_aload_n 3 rfl dL_law_1847 ?_
  refine g_invSH (w_mustGo h0 (o_mustGo h0)) l_L_271 rfl (Nat.le_of_ble_eq_true rfl) (Nat.le_of_ble_eq_true rfl) rfl dL_law_1848 (fun _ _ _ z => z.elim) (fun r E1 n1 z => ?_)
  obtain ⟨k, x, g, rfl, hk3, hg, hx, ⟨fs, hfs⟩, d8, hd8, hc⟩ := z
  refine g_istore (lv2 := [(5, _), (0, _), (1, _), (2, _), (3, _), (4, _)]) (by decide) rfl dL_law_1851 ?_
  refine g_aload_n 3 rfl dL_law_1853 ?_
  refine g_aload_n 1 rfl dL_law_1854 ?_
  refine g_iload 5 rfl dL_law_1855 ?_
  refine gn_ic 1 (by decide) dL_law_1857 ?_
  refine gn_iadd dL_law_1858 ?_
  refine g_sld (by omega) dL_law_1859 ?_
  refine gw_V hc l_L_273 rfl (Rcv.of hfs rfl) (by omega) (Nat.le_of_ble_eq_true rfl) rfl dL_law_1860 (fun _ _ _ z => z) (fun r E2 n2 z => ?_)
  obtain ⟨rfl, hg2, ⟨b, rfl, hb⟩, h1⟩ := z
  refine g_istore (lv2 := [(6, _), (5, _), (0, _), (1, _), (2, _), (3, _), (4, _)]) (by decide) rfl dL_law_1863 ?_
  refine g_aload_n 4 rfl dL_law_1865 ?_
  obtain ⟨S, q, I, A, f, -, i2, -, -, -, i6⟩ := id h1
  refine g_world i2 ?_
  refine gv_V c_X8_thrown l_L_160 rfl m_rcv (Nat.le_of_ble_eq_true rfl) (Nat.le_of_ble_eq_true rfl) rfl dL_law_1866 ?_
  refine g_world i2.symm ?_
  refine g_iload 1 rfl dL_law_1869 ?_
  refine g_icmp_eq (tgt := 1876) (by decide) dL_law_1871 (fun _ => ?_) (fun c => absurd i6 c)
  refine g_iload 1 rfl dL_law_1876 ?_
  refine g_if_ne (tgt := 1900) (by decide) dL_law_1878 (fun _ => ?_) (fun c => ?_)
  · skip
    refine g_goto (tgt := 3119) (by decide) dL_law_1900 ?_
    exact G.sub [2, 3, 4, 5, 6] rfl (K _ _ _ h1)
  · obtain rfl := nI_0k hk3 c
    have hb := hb rfl
    have hx := hx rfl
    refine g_aload_n 5 rfl dL_law_1881 ?_
    refine gn_ic 0 (by decide) dL_law_1882 ?_
    refine g_lald (N := 1) (f := g) hg2 (vp_in_nI (by decide) (by decide)) dL_law_1883 ?_
    refine g_iload 0 rfl dL_law_1884 ?_
    refine g_if_eq (tgt := 1893) (by decide) dL_law_1886 (fun c0 => ?_) (fun c0 => ?_)
    · refine g_lconst (v := 0) dL_law_1893 (by decide) ?_
      refine g_lcmp dL_law_1894 ?_
      refine g_if_eq (tgt := 1900) (by decide) dL_law_1895 (fun _ => ?_) (fun c => absurd (cmp_B0 hx hb c0) c)
      refine g_goto (tgt := 3119) (by decide) dL_law_1900 ?_
      exact G.sub [2, 3, 4, 5, 6] rfl (K _ _ _ h1)
    · refine g_lconst (v := 1) dL_law_1889 (by decide) ?_
      refine g_goto (tgt := 1894) (by decide) dL_law_1890 ?_
      refine g_lcmp dL_law_1894 ?_
      refine g_if_eq (tgt := 1900) (by decide) dL_law_1895 (fun _ => ?_) (fun c => absurd (cmp_B1 hx hb c0) c)
      refine g_goto (tgt := 3119) (by decide) dL_law_1900 ?_
      exact G.sub [2, 3, 4, 5, 6] rfl (K _ _ _ h1)
set_option maxRecDepth 100000 in
set_option maxHeartbeats 1000000 in
theorem q_meanDistance (h0 : IVo Γ ab mo k0 t E n) (ht : t ≤ 600) (hL : 6 * t + 6 ≤ gF Γ 10) (K : KL Γ ab mo t kc ks) : G Γ 15 ML_law Pl X0 1903 (lvL Γ ab mo t) [] E n (kc + 330) (ks + 10200) := by
  obtain ⟨d7, x, q1, hx, hc7⟩ := o_meanDistance h0
  refine G.mono (kc2 := kc + 0) (ks2 := ks + 0) (by omega) (by omega) ?_
  refine g_aload_n 1 rfl dL_law_1903 ?_
  refine gw_V hc7 l_L_274 rfl h0.rc (by omega) (Nat.le_of_ble_eq_true rfl) rfl dL_law_1904 (fun y E1 n1 z => z) (fun r E1 n1 z => ?_)
  obtain ⟨rfl, hp⟩ := z
  refine g_dstore (lv2 := [(5, _), (0, _), (1, _), (2, _), (3, _), (4, _)]) (by decide) rfl dL_law_1907 ?_
  refine g_aload_n 3 rfl dL_law_1909 ?_
  obtain ⟨⟨g, hg⟩, ⟨fs, hfs⟩, h3⟩ := hp
  obtain ⟨d8, hd8, hc⟩ := h3 g n1 (Nat.le_refl _)
  rw [hset_id hg] at hc
  refine gw_V hc l_L_278 rfl (Rcv.of hfs rfl) (by omega) (Nat.le_of_ble_eq_true rfl) rfl dL_law_1910 (fun _ _ _ z => z) (fun r E2 n2 z => ?_)
  obtain ⟨rfl, hg2, hv, h1⟩ := z
  obtain rfl := hv
  refine g_dstore (lv2 := [(7, _), (5, _), (0, _), (1, _), (2, _), (3, _), (4, _)]) (by decide) rfl dL_law_1913 ?_
  refine g_dload 1 rfl dL_law_1915 ?_
  refine g_dload 0 rfl dL_law_1917 ?_
  refine g_dcmp dL_law_1919 ?_
  refine g_if_eq (tgt := 1941) (by decide) dL_law_1920 (fun _ => ?_) (fun c => absurd (oDcmp hx) c)
  refine g_goto (tgt := 3119) (by decide) dL_law_1941 ?_
  exact G.sub [2, 3, 4, 5, 6] rfl (K _ _ _ h1)
set_option maxRecDepth 100000 in
set_option maxHeartbeats 1000000 in
theorem q_rhymingShare (h0 : IVo Γ ab mo k0 t E n) (ht : t ≤ 600) (hL : 6 * t + 6 ≤ gF Γ 10) (K : KL Γ ab mo t kc ks) : G Γ 15 ML_law Pl X0 1944 (lvL Γ ab mo t) [] E n (kc + 330) (ks + 10200) := by
  obtain ⟨d7, x, q1, hx, hc7⟩ := o_rhymingShare h0
  refine G.mono (kc2 := kc + 0) (ks2 := ks + 0) (by omega) (by omega) ?_
  refine g_aload_n 1 rfl dL_law_1944 ?_
  refine gw_V hc7 l_L_279 rfl h0.rc (by omega) (Nat.le_of_ble_eq_true rfl) rfl dL_law_1945 (fun y E1 n1 z => z) (fun r E1 n1 z => ?_)
  obtain ⟨rfl, hp⟩ := z
  refine g_f2d hx.2.1 dL_law_1948 ?_
  refine g_dstore (lv2 := [(5, _), (0, _), (1, _), (2, _), (3, _), (4, _)]) (by decide) rfl dL_law_1949 ?_
  refine g_aload_n 3 rfl dL_law_1951 ?_
  obtain ⟨⟨g, hg⟩, ⟨fs, hfs⟩, h3⟩ := hp
  obtain ⟨d8, hd8, hc⟩ := h3 g n1 (Nat.le_refl _)
  rw [hset_id hg] at hc
  refine gw_V hc l_L_283 rfl (Rcv.of hfs rfl) (by omega) (Nat.le_of_ble_eq_true rfl) rfl dL_law_1952 (fun _ _ _ z => z) (fun r E2 n2 z => ?_)
  obtain ⟨rfl, hg2, hv, h1⟩ := z
  obtain rfl := hv
  refine g_f2d hx.2.1 dL_law_1955 ?_
  refine g_dstore (lv2 := [(7, _), (5, _), (0, _), (1, _), (2, _), (3, _), (4, _)]) (by decide) rfl dL_law_1956 ?_
  refine g_dload 1 rfl dL_law_1958 ?_
  refine g_dload 0 rfl dL_law_1960 ?_
  refine g_dcmp dL_law_1962 ?_
  refine g_if_eq (tgt := 1984) (by decide) dL_law_1963 (fun _ => ?_) (fun c => absurd (oDcmp hx.2) c)
  refine g_goto (tgt := 3119) (by decide) dL_law_1984 ?_
  exact G.sub [2, 3, 4, 5, 6] rfl (K _ _ _ h1)
set_option maxRecDepth 100000 in
set_option maxHeartbeats 1000000 in
theorem q_balanceAfter (h0 : IVo Γ ab mo k0 t E n) (ht : t ≤ 600) (hL : 6 * t + 6 ≤ gF Γ 10) (K : KL Γ ab mo t kc ks) : G Γ 15 ML_law Pl X0 1987 (lvL Γ ab mo t) [] E n (kc + 330) (ks + 10200) := by
  refine g_aload_n 1 rfl dL_law_1987 ?_
  refine g_aload_n 0 rfl dL_law_1988 ?_
  refine g_iload 4 rfl dL_law_1989 ?_
  refine gn_ic 1 (by decide) dL_law_1991 ?_
  refine gn_iadd dL_law_1992 ?_
  refine g_sld (by omega) dL_law_1993 ?_
  refine g_aload_n 0 rfl dL_law_1994 ?_
  refine g_iload 4 rfl dL_law_1995 ?_
  refine gn_ic 2 (by decide) dL_law_1997 ?_
  refine gn_iadd dL_law_1998 ?_
  refine g_sld (by omega) dL_law_1999 ?_
  refine g_aload_n 3 rfl dL_law_2000 ?_
  refine g_invSH (w_balanceAfter h0 (o_balanceAfter h0)) l_L_284 rfl (Nat.le_of_ble_eq_true rfl) (Nat.le_of_ble_eq_true rfl) rfl dL_law_2001 (fun _ _ _ z => z.elim) (fun r E1 n1 z => ?_)
  obtain ⟨k, x, g, rfl, hk3, hg, hx, ⟨fs, hfs⟩, d8, hd8, hc⟩ := z
  refine g_istore (lv2 := [(5, _), (0, _), (1, _), (2, _), (3, _), (4, _)]) (by decide) rfl dL_law_2004 ?_
  refine g_aload_n 3 rfl dL_law_2006 ?_
  refine g_aload_n 1 rfl dL_law_2007 ?_
  refine g_iload 5 rfl dL_law_2008 ?_
  refine gn_ic 1 (by decide) dL_law_2010 ?_
  refine gn_iadd dL_law_2011 ?_
  refine g_sld (by omega) dL_law_2012 ?_
  refine g_aload_n 1 rfl dL_law_2013 ?_
  refine g_iload 5 rfl dL_law_2014 ?_
  refine gn_ic 2 (by decide) dL_law_2016 ?_
  refine gn_iadd dL_law_2017 ?_
  refine g_sld (by omega) dL_law_2018 ?_
  refine gw_V hc l_L_286 rfl (Rcv.of hfs rfl) (by omega) (Nat.le_of_ble_eq_true rfl) rfl dL_law_2019 (fun _ _ _ z => z) (fun r E2 n2 z => ?_)
  obtain ⟨rfl, hg2, ⟨b, rfl, hb⟩, h1⟩ := z
  refine g_istore (lv2 := [(6, _), (5, _), (0, _), (1, _), (2, _), (3, _), (4, _)]) (by decide) rfl dL_law_2022 ?_
  refine g_aload_n 4 rfl dL_law_2024 ?_
  obtain ⟨S, q, I, A, f, -, i2, -, -, -, i6⟩ := id h1
  refine g_world i2 ?_
  refine gv_V c_X8_thrown l_L_160 rfl m_rcv (Nat.le_of_ble_eq_true rfl) (Nat.le_of_ble_eq_true rfl) rfl dL_law_2025 ?_
  refine g_world i2.symm ?_
  refine g_iload 1 rfl dL_law_2028 ?_
  refine g_icmp_eq (tgt := 2035) (by decide) dL_law_2030 (fun _ => ?_) (fun c => absurd i6 c)
  refine g_iload 1 rfl dL_law_2035 ?_
  refine g_if_ne (tgt := 2052) (by decide) dL_law_2037 (fun _ => ?_) (fun c => ?_)
  · skip
    refine g_goto (tgt := 3119) (by decide) dL_law_2052 ?_
    exact G.sub [2, 3, 4, 5, 6] rfl (K _ _ _ h1)
  · obtain rfl := nI_0k hk3 c
    have hb := hb rfl
    have hx := hx rfl
    refine g_aload_n 5 rfl dL_law_2040 ?_
    refine gn_ic 0 (by decide) dL_law_2041 ?_
    refine g_lald (N := 1) (f := g) hg2 (vp_in_nI (by decide) (by decide)) dL_law_2042 ?_
    refine g_iload 0 rfl dL_law_2043 ?_
    refine g_i2l dL_law_2045 ?_
    refine g_lcmp dL_law_2046 ?_
    refine g_if_eq (tgt := 2052) (by decide) dL_law_2047 (fun _ => ?_) (fun c => absurd (cmp_I hx hb) c)
    refine g_goto (tgt := 3119) (by decide) dL_law_2052 ?_
    exact G.sub [2, 3, 4, 5, 6] rfl (K _ _ _ h1)
set_option maxRecDepth 100000 in
set_option maxHeartbeats 1000000 in
theorem q_distanceAfter (h0 : IVo Γ ab mo k0 t E n) (ht : t ≤ 600) (hL : 6 * t + 6 ≤ gF Γ 10) (K : KL Γ ab mo t kc ks) : G Γ 15 ML_law Pl X0 2055 (lvL Γ ab mo t) [] E n (kc + 330) (ks + 10200) := by
  refine g_aload_n 1 rfl dL_law_2055 ?_
  refine g_aload_n 0 rfl dL_law_2056 ?_
  refine g_iload 4 rfl dL_law_2057 ?_
  refine gn_ic 1 (by decide) dL_law_2059 ?_
  refine gn_iadd dL_law_2060 ?_
  refine g_sld (by omega) dL_law_2061 ?_
  refine g_aload_n 0 rfl dL_law_2062 ?_
  refine g_iload 4 rfl dL_law_2063 ?_
  refine gn_ic 2 (by decide) dL_law_2065 ?_
  refine gn_iadd dL_law_2066 ?_
  refine g_sld (by omega) dL_law_2067 ?_
  refine g_aload_n 3 rfl dL_law_2068 ?_
  refine g_invSH (w_distanceAfter h0 (o_distanceAfter h0)) l_L_287 rfl (Nat.le_of_ble_eq_true rfl) (Nat.le_of_ble_eq_true rfl) rfl dL_law_2069 (fun _ _ _ z => z.elim) (fun r E1 n1 z => ?_)
  obtain ⟨k, x, g, rfl, hk3, hg, hx, ⟨fs, hfs⟩, d8, hd8, hc⟩ := z
  refine g_istore (lv2 := [(5, _), (0, _), (1, _), (2, _), (3, _), (4, _)]) (by decide) rfl dL_law_2072 ?_
  refine g_aload_n 3 rfl dL_law_2074 ?_
  refine g_aload_n 1 rfl dL_law_2075 ?_
  refine g_iload 5 rfl dL_law_2076 ?_
  refine gn_ic 1 (by decide) dL_law_2078 ?_
  refine gn_iadd dL_law_2079 ?_
  refine g_sld (by omega) dL_law_2080 ?_
  refine g_aload_n 1 rfl dL_law_2081 ?_
  refine g_iload 5 rfl dL_law_2082 ?_
  refine gn_ic 2 (by decide) dL_law_2084 ?_
  refine gn_iadd dL_law_2085 ?_
  refine g_sld (by omega) dL_law_2086 ?_
  refine gw_V hc l_L_289 rfl (Rcv.of hfs rfl) (by omega) (Nat.le_of_ble_eq_true rfl) rfl dL_law_2087 (fun _ _ _ z => z) (fun r E2 n2 z => ?_)
  obtain ⟨rfl, hg2, ⟨b, rfl, hb⟩, h1⟩ := z
  refine g_istore (lv2 := [(6, _), (5, _), (0, _), (1, _), (2, _), (3, _), (4, _)]) (by decide) rfl dL_law_2090 ?_
  refine g_aload_n 4 rfl dL_law_2092 ?_
  obtain ⟨S, q, I, A, f, -, i2, -, -, -, i6⟩ := id h1
  refine g_world i2 ?_
  refine gv_V c_X8_thrown l_L_160 rfl m_rcv (Nat.le_of_ble_eq_true rfl) (Nat.le_of_ble_eq_true rfl) rfl dL_law_2093 ?_
  refine g_world i2.symm ?_
  refine g_iload 1 rfl dL_law_2096 ?_
  refine g_icmp_eq (tgt := 2103) (by decide) dL_law_2098 (fun _ => ?_) (fun c => absurd i6 c)
  refine g_iload 1 rfl dL_law_2103 ?_
  refine g_if_ne (tgt := 2120) (by decide) dL_law_2105 (fun _ => ?_) (fun c => ?_)
  · skip
    refine g_goto (tgt := 3119) (by decide) dL_law_2120 ?_
    exact G.sub [2, 3, 4, 5, 6] rfl (K _ _ _ h1)
  · obtain rfl := nI_0k hk3 c
    have hb := hb rfl
    have hx := hx rfl
    refine g_aload_n 5 rfl dL_law_2108 ?_
    refine gn_ic 0 (by decide) dL_law_2109 ?_
    refine g_lald (N := 1) (f := g) hg2 (vp_in_nI (by decide) (by decide)) dL_law_2110 ?_
    refine g_iload 0 rfl dL_law_2111 ?_
    refine g_i2l dL_law_2113 ?_
    refine g_lcmp dL_law_2114 ?_
    refine g_if_eq (tgt := 2120) (by decide) dL_law_2115 (fun _ => ?_) (fun c => absurd (cmp_I hx hb) c)
    refine g_goto (tgt := 3119) (by decide) dL_law_2120 ?_
    exact G.sub [2, 3, 4, 5, 6] rfl (K _ _ _ h1)
set_option maxRecDepth 100000 in
set_option maxHeartbeats 1000000 in
theorem q_daysToEviction (h0 : IVo Γ ab mo k0 t E n) (ht : t ≤ 600) (hL : 6 * t + 6 ≤ gF Γ 10) (K : KL Γ ab mo t kc ks) : G Γ 15 ML_law Pl X0 2123 (lvL Γ ab mo t) [] E n (kc + 330) (ks + 10200) := by
  refine g_aload_n 1 rfl dL_law_2123 ?_
  refine g_aload_n 0 rfl dL_law_2124 ?_
  refine g_iload 4 rfl dL_law_2125 ?_
  refine gn_ic 1 (by decide) dL_law_2127 ?_
  refine gn_iadd dL_law_2128 ?_
  refine g_sld (by omega) dL_law_2129 ?_
  refine g_aload_n 3 rfl dL_law_2130 ?_
  refine g_invSH (w_daysToEviction h0 (o_daysToEviction h0)) l_L_290 rfl (Nat.le_of_ble_eq_true rfl) (Nat.le_of_ble_eq_true rfl) rfl dL_law_2131 (fun _ _ _ z => z.elim) (fun r E1 n1 z => ?_)
  obtain ⟨k, x, g, rfl, hk3, hg, hx, ⟨fs, hfs⟩, d8, hd8, hc⟩ := z
  refine g_istore (lv2 := [(5, _), (0, _), (1, _), (2, _), (3, _), (4, _)]) (by decide) rfl dL_law_2134 ?_
  refine g_aload_n 3 rfl dL_law_2136 ?_
  refine g_aload_n 1 rfl dL_law_2137 ?_
  refine g_iload 5 rfl dL_law_2138 ?_
  refine gn_ic 1 (by decide) dL_law_2140 ?_
  refine gn_iadd dL_law_2141 ?_
  refine g_sld (by omega) dL_law_2142 ?_
  refine gw_V hc l_L_292 rfl (Rcv.of hfs rfl) (by omega) (Nat.le_of_ble_eq_true rfl) rfl dL_law_2143 (fun _ _ _ z => z) (fun r E2 n2 z => ?_)
  obtain ⟨rfl, hg2, ⟨b, rfl, hb⟩, h1⟩ := z
  refine g_istore (lv2 := [(6, _), (5, _), (0, _), (1, _), (2, _), (3, _), (4, _)]) (by decide) rfl dL_law_2146 ?_
  refine g_aload_n 4 rfl dL_law_2148 ?_
  obtain ⟨S, q, I, A, f, -, i2, -, -, -, i6⟩ := id h1
  refine g_world i2 ?_
  refine gv_V c_X8_thrown l_L_160 rfl m_rcv (Nat.le_of_ble_eq_true rfl) (Nat.le_of_ble_eq_true rfl) rfl dL_law_2149 ?_
  refine g_world i2.symm ?_
  refine g_iload 1 rfl dL_law_2152 ?_
  refine g_icmp_eq (tgt := 2159) (by decide) dL_law_2154 (fun _ => ?_) (fun c => absurd i6 c)
  refine g_iload 1 rfl dL_law_2159 ?_
  refine g_if_ne (tgt := 2176) (by decide) dL_law_2161 (fun _ => ?_) (fun c => ?_)
  · skip
    refine g_goto (tgt := 3119) (by decide) dL_law_2176 ?_
    exact G.sub [2, 3, 4, 5, 6] rfl (K _ _ _ h1)
  · obtain rfl := nI_0k hk3 c
    have hb := hb rfl
    have hx := hx rfl
    refine g_aload_n 5 rfl dL_law_2164 ?_
    refine gn_ic 0 (by decide) dL_law_2165 ?_
    refine g_lald (N := 1) (f := g) hg2 (vp_in_nI (by decide) (by decide)) dL_law_2166 ?_
    refine g_iload 0 rfl dL_law_2167 ?_
    refine g_i2l dL_law_2169 ?_
    refine g_lcmp dL_law_2170 ?_
    refine g_if_eq (tgt := 2176) (by decide) dL_law_2171 (fun _ => ?_) (fun c => absurd (cmp_I hx hb) c)
    refine g_goto (tgt := 3119) (by decide) dL_law_2176 ?_
    exact G.sub [2, 3, 4, 5, 6] rfl (K _ _ _ h1)
set_option maxRecDepth 100000 in
set_option maxHeartbeats 1000000 in
theorem q_paymentToStay (h0 : IVo Γ ab mo k0 t E n) (ht : t ≤ 600) (hL : 6 * t + 6 ≤ gF Γ 10) (K : KL Γ ab mo t kc ks) : G Γ 15 ML_law Pl X0 2179 (lvL Γ ab mo t) [] E n (kc + 330) (ks + 10200) := by
  refine g_aload_n 1 rfl dL_law_2179 ?_
  refine g_aload_n 0 rfl dL_law_2180 ?_
  refine g_iload 4 rfl dL_law_2181 ?_
  refine gn_ic 1 (by decide) dL_law_2183 ?_
  refine gn_iadd dL_law_2184 ?_
  refine g_sld (by omega) dL_law_2185 ?_
  refine g_aload_n 3 rfl dL_law_2186 ?_
  refine g_invSH (w_paymentToStay h0 (o_paymentToStay (ht := ht) h0)) l_L_293 rfl (Nat.le_of_ble_eq_true rfl) (Nat.le_of_ble_eq_true rfl) rfl dL_law_2187 (fun _ _ _ z => z.elim) (fun r E1 n1 z => ?_)
  obtain ⟨k, x, g, rfl, hk3, hg, hx, ⟨fs, hfs⟩, d8, hd8, hc⟩ := z
  refine g_istore (lv2 := [(5, _), (0, _), (1, _), (2, _), (3, _), (4, _)]) (by decide) rfl dL_law_2190 ?_
  refine g_aload_n 3 rfl dL_law_2192 ?_
  refine g_aload_n 1 rfl dL_law_2193 ?_
  refine g_iload 5 rfl dL_law_2194 ?_
  refine gn_ic 1 (by decide) dL_law_2196 ?_
  refine gn_iadd dL_law_2197 ?_
  refine g_sld (by omega) dL_law_2198 ?_
  refine gw_V hc l_L_295 rfl (Rcv.of hfs rfl) (by omega) (Nat.le_of_ble_eq_true rfl) rfl dL_law_2199 (fun _ _ _ z => z) (fun r E2 n2 z => ?_)
  obtain ⟨rfl, hg2, ⟨b, rfl, hb⟩, h1⟩ := z
  refine g_istore (lv2 := [(6, _), (5, _), (0, _), (1, _), (2, _), (3, _), (4, _)]) (by decide) rfl dL_law_2202 ?_
  refine g_aload_n 4 rfl dL_law_2204 ?_
  obtain ⟨S, q, I, A, f, -, i2, -, -, -, i6⟩ := id h1
  refine g_world i2 ?_
  refine gv_V c_X8_thrown l_L_160 rfl m_rcv (Nat.le_of_ble_eq_true rfl) (Nat.le_of_ble_eq_true rfl) rfl dL_law_2205 ?_
  refine g_world i2.symm ?_
  refine g_iload 1 rfl dL_law_2208 ?_
  refine g_icmp_eq (tgt := 2215) (by decide) dL_law_2210 (fun _ => ?_) (fun c => absurd i6 c)
  refine g_iload 1 rfl dL_law_2215 ?_
  refine g_if_ne (tgt := 2232) (by decide) dL_law_2217 (fun _ => ?_) (fun c => ?_)
  · skip
    refine g_goto (tgt := 3119) (by decide) dL_law_2232 ?_
    exact G.sub [2, 3, 4, 5, 6] rfl (K _ _ _ h1)
  · obtain rfl := nI_0k hk3 c
    have hb := hb rfl
    have hx := hx rfl
    refine g_aload_n 5 rfl dL_law_2220 ?_
    refine gn_ic 0 (by decide) dL_law_2221 ?_
    refine g_lald (N := 1) (f := g) hg2 (vp_in_nI (by decide) (by decide)) dL_law_2222 ?_
    refine g_iload 0 rfl dL_law_2223 ?_
    refine g_i2l dL_law_2225 ?_
    refine g_lcmp dL_law_2226 ?_
    refine g_if_eq (tgt := 2232) (by decide) dL_law_2227 (fun _ => ?_) (fun c => absurd (cmp_I hx hb) c)
    refine g_goto (tgt := 3119) (by decide) dL_law_2232 ?_
    exact G.sub [2, 3, 4, 5, 6] rfl (K _ _ _ h1)
set_option maxRecDepth 100000 in
set_option maxHeartbeats 1000000 in
theorem q_totalPaid (h0 : IVo Γ ab mo k0 t E n) (ht : t ≤ 600) (hL : 6 * t + 6 ≤ gF Γ 10) (K : KL Γ ab mo t kc ks) : G Γ 15 ML_law Pl X0 2235 (lvL Γ ab mo t) [] E n (kc + 330) (ks + 10200) := by
  obtain ⟨d7, mc, ms, q1, q2, q3, hc7⟩ := o_totalPaid h0
  refine G.mono (kc2 := kc + mc) (ks2 := ks + ms) (by omega) (by omega) ?_
  refine g_aload_n 1 rfl dL_law_2235 ?_
  refine gw_V hc7 l_L_296 rfl h0.rc (by omega) (Nat.le_of_ble_eq_true rfl) rfl dL_law_2236 (fun y E1 n1 z => by obtain ⟨j, hj, -⟩ := z; exact absurd hj (by simp)) (fun r E1 n1 z => ?_)
  obtain ⟨x, rfl, hp⟩ := z
  refine g_aload_n 2 rfl dL_law_2239 ?_
  obtain ⟨⟨g, hg⟩, ⟨fs, hfs⟩, h3⟩ := hp
  obtain ⟨d8, hd8, hc⟩ := h3 g n1 (Nat.le_refl _)
  rw [hset_id hg] at hc
  refine gw_V hc l_L_299 rfl (Rcv.of hfs rfl) (by omega) (Nat.le_of_ble_eq_true rfl) rfl dL_law_2240 (fun _ _ _ z => z) (fun r E2 n2 z => ?_)
  obtain ⟨rfl, hg2, ⟨b, rfl, hb⟩, h1⟩ := z
  refine g_icmp_eq (tgt := 3119) (by decide) dL_law_2243 (fun _ => ?_) (fun c => absurd (hb rfl).symm c)
  exact K _ _ _ h1
set_option maxRecDepth 100000 in
set_option maxHeartbeats 1000000 in
theorem q_totalCharged (h0 : IVo Γ ab mo k0 t E n) (ht : t ≤ 600) (hL : 6 * t + 6 ≤ gF Γ 10) (K : KL Γ ab mo t kc ks) : G Γ 15 ML_law Pl X0 2248 (lvL Γ ab mo t) [] E n (kc + 330) (ks + 10200) := by
  obtain ⟨d7, mc, ms, q1, q2, q3, hc7⟩ := o_totalCharged h0
  refine G.mono (kc2 := kc + mc) (ks2 := ks + ms) (by omega) (by omega) ?_
  refine g_aload_n 1 rfl dL_law_2248 ?_
  refine gw_V hc7 l_L_300 rfl h0.rc (by omega) (Nat.le_of_ble_eq_true rfl) rfl dL_law_2249 (fun y E1 n1 z => by obtain ⟨j, hj, -⟩ := z; exact absurd hj (by simp)) (fun r E1 n1 z => ?_)
  obtain ⟨x, rfl, hp⟩ := z
  refine g_aload_n 2 rfl dL_law_2252 ?_
  obtain ⟨⟨g, hg⟩, ⟨fs, hfs⟩, h3⟩ := hp
  obtain ⟨d8, hd8, hc⟩ := h3 g n1 (Nat.le_refl _)
  rw [hset_id hg] at hc
  refine gw_V hc l_L_303 rfl (Rcv.of hfs rfl) (by omega) (Nat.le_of_ble_eq_true rfl) rfl dL_law_2253 (fun _ _ _ z => z) (fun r E2 n2 z => ?_)
  obtain ⟨rfl, hg2, ⟨b, rfl, hb⟩, h1⟩ := z
  refine g_icmp_eq (tgt := 3119) (by decide) dL_law_2256 (fun _ => ?_) (fun c => absurd (hb rfl).symm c)
  exact K _ _ _ h1
set_option maxRecDepth 100000 in
set_option maxHeartbeats 1000000 in
theorem q_settled (h0 : IVo Γ ab mo k0 t E n) (ht : t ≤ 600) (hL : 6 * t + 6 ≤ gF Γ 10) (K : KL Γ ab mo t kc ks) : G Γ 15 ML_law Pl X0 2261 (lvL Γ ab mo t) [] E n (kc + 330) (ks + 10200) := by
  obtain ⟨d7, mc, ms, q1, q2, q3, hc7⟩ := o_settled h0
  refine G.mono (kc2 := kc + mc) (ks2 := ks + ms) (by omega) (by omega) ?_
  refine g_aload_n 1 rfl dL_law_2261 ?_
  refine gw_V hc7 l_L_304 rfl h0.rc (by omega) (Nat.le_of_ble_eq_true rfl) rfl dL_law_2262 (fun y E1 n1 z => by obtain ⟨j, hj, -⟩ := z; exact absurd hj (by simp)) (fun r E1 n1 z => ?_)
  obtain ⟨x, rfl, hp⟩ := z
  refine g_aload_n 2 rfl dL_law_2265 ?_
  obtain ⟨⟨g, hg⟩, ⟨fs, hfs⟩, h3⟩ := hp
  obtain ⟨d8, hd8, hc⟩ := h3 g n1 (Nat.le_refl _)
  rw [hset_id hg] at hc
  refine gw_V hc l_L_307 rfl (Rcv.of hfs rfl) (by omega) (Nat.le_of_ble_eq_true rfl) rfl dL_law_2266 (fun _ _ _ z => z) (fun r E2 n2 z => ?_)
  obtain ⟨rfl, hg2, ⟨b, rfl, hb⟩, h1⟩ := z
  refine g_icmp_eq (tgt := 3119) (by decide) dL_law_2269 (fun _ => ?_) (fun c => absurd (hb rfl).symm c)
  exact K _ _ _ h1
set_option maxRecDepth 100000 in
set_option maxHeartbeats 1000000 in
theorem q_ledgerDifference (h0 : IVo Γ ab mo k0 t E n) (ht : t ≤ 600) (hL : 6 * t + 6 ≤ gF Γ 10) (K : KL Γ ab mo t kc ks) : G Γ 15 ML_law Pl X0 2274 (lvL Γ ab mo t) [] E n (kc + 330) (ks + 10200) := by
  obtain ⟨d7, mc, ms, q1, q2, q3, hc7⟩ := o_ledgerDifference h0
  refine G.mono (kc2 := kc + mc) (ks2 := ks + ms) (by omega) (by omega) ?_
  refine g_aload_n 1 rfl dL_law_2274 ?_
  refine gw_V hc7 l_L_308 rfl h0.rc (by omega) (Nat.le_of_ble_eq_true rfl) rfl dL_law_2275 (fun y E1 n1 z => by obtain ⟨j, hj, -⟩ := z; exact absurd hj (by simp)) (fun r E1 n1 z => ?_)
  obtain ⟨x, rfl, hp⟩ := z
  refine g_aload_n 2 rfl dL_law_2278 ?_
  obtain ⟨⟨g, hg⟩, ⟨fs, hfs⟩, h3⟩ := hp
  obtain ⟨d8, hd8, hc⟩ := h3 g n1 (Nat.le_refl _)
  rw [hset_id hg] at hc
  refine gw_V hc l_L_311 rfl (Rcv.of hfs rfl) (by omega) (Nat.le_of_ble_eq_true rfl) rfl dL_law_2279 (fun _ _ _ z => z) (fun r E2 n2 z => ?_)
  obtain ⟨rfl, hg2, ⟨b, rfl, hb⟩, h1⟩ := z
  refine g_icmp_eq (tgt := 3119) (by decide) dL_law_2282 (fun _ => ?_) (fun c => absurd (hb rfl).symm c)
  exact K _ _ _ h1
set_option maxRecDepth 100000 in
set_option maxHeartbeats 1000000 in
theorem q_advance (h0 : IVo Γ ab mo k0 t E n) (ht : t ≤ 600) (hL : 6 * t + 6 ≤ gF Γ 10) (K : KL Γ ab mo t kc ks) : G Γ 15 ML_law Pl X0 2287 (lvL Γ ab mo t) [] E n (kc + 330) (ks + 10200) := by
  refine g_aload_n 1 rfl dL_law_2287 ?_
  refine g_aload_n 0 rfl dL_law_2288 ?_
  refine g_iload 4 rfl dL_law_2289 ?_
  refine gn_ic 1 (by decide) dL_law_2291 ?_
  refine gn_iadd dL_law_2292 ?_
  refine g_sld (by omega) dL_law_2293 ?_
  refine g_aload_n 3 rfl dL_law_2294 ?_
  refine g_invSH (w_advance h0 (o_advance (ht := ht) h0)) l_L_312 rfl (Nat.le_of_ble_eq_true rfl) (Nat.le_of_ble_eq_true rfl) rfl dL_law_2295 (fun _ _ _ z => z.elim) (fun r E1 n1 z => ?_)
  obtain ⟨k, x, g, rfl, hk3, hg, hx, ⟨fs, hfs⟩, d8, hd8, hc⟩ := z
  refine g_istore (lv2 := [(5, _), (0, _), (1, _), (2, _), (3, _), (4, _)]) (by decide) rfl dL_law_2298 ?_
  refine g_aload_n 3 rfl dL_law_2300 ?_
  refine g_aload_n 1 rfl dL_law_2301 ?_
  refine g_iload 5 rfl dL_law_2302 ?_
  refine gn_ic 1 (by decide) dL_law_2304 ?_
  refine gn_iadd dL_law_2305 ?_
  refine g_sld (by omega) dL_law_2306 ?_
  refine gw_V hc l_L_314 rfl (Rcv.of hfs rfl) (by omega) (Nat.le_of_ble_eq_true rfl) rfl dL_law_2307 (fun _ _ _ z => z) (fun r E2 n2 z => ?_)
  obtain ⟨rfl, hg2, ⟨b, rfl, hb⟩, h1⟩ := z
  refine g_istore (lv2 := [(6, _), (5, _), (0, _), (1, _), (2, _), (3, _), (4, _)]) (by decide) rfl dL_law_2310 ?_
  refine g_aload_n 4 rfl dL_law_2312 ?_
  obtain ⟨S, q, I, A, f, -, i2, -, -, -, i6⟩ := id h1
  refine g_world i2 ?_
  refine gv_V c_X8_thrown l_L_160 rfl m_rcv (Nat.le_of_ble_eq_true rfl) (Nat.le_of_ble_eq_true rfl) rfl dL_law_2313 ?_
  refine g_world i2.symm ?_
  refine g_iload 1 rfl dL_law_2316 ?_
  refine g_icmp_eq (tgt := 2323) (by decide) dL_law_2318 (fun _ => ?_) (fun c => absurd i6 c)
  refine g_iload 1 rfl dL_law_2323 ?_
  refine g_if_ne (tgt := 2340) (by decide) dL_law_2325 (fun _ => ?_) (fun c => ?_)
  · skip
    refine g_goto (tgt := 3119) (by decide) dL_law_2340 ?_
    exact G.sub [2, 3, 4, 5, 6] rfl (K _ _ _ h1)
  · obtain rfl := nI_0k hk3 c
    have hb := hb rfl
    have hx := hx rfl
    refine g_aload_n 5 rfl dL_law_2328 ?_
    refine gn_ic 0 (by decide) dL_law_2329 ?_
    refine g_lald (N := 1) (f := g) hg2 (vp_in_nI (by decide) (by decide)) dL_law_2330 ?_
    refine g_iload 0 rfl dL_law_2331 ?_
    refine g_i2l dL_law_2333 ?_
    refine g_lcmp dL_law_2334 ?_
    refine g_if_eq (tgt := 2340) (by decide) dL_law_2335 (fun _ => ?_) (fun c => absurd (cmp_I hx hb) c)
    refine g_goto (tgt := 3119) (by decide) dL_law_2340 ?_
    exact G.sub [2, 3, 4, 5, 6] rfl (K _ _ _ h1)
set_option maxRecDepth 100000 in
set_option maxHeartbeats 1000000 in
theorem q_moveIn (h0 : IVo Γ ab mo k0 t E n) (ht : t ≤ 600) (hL : 6 * t + 6 ≤ gF Γ 10) (K : KL Γ ab mo t kc ks) : G Γ 15 ML_law Pl X0 2343 (lvL Γ ab mo t) [] E n (kc + 330) (ks + 10200) := by
  refine g_aload_n 1 rfl dL_law_2343 ?_
  refine g_aload_n 0 rfl dL_law_2344 ?_
  refine g_iload 4 rfl dL_law_2345 ?_
  refine gn_ic 1 (by decide) dL_law_2347 ?_
  refine gn_iadd dL_law_2348 ?_
  refine g_sld (by omega) dL_law_2349 ?_
  refine g_aload_n 0 rfl dL_law_2350 ?_
  refine g_iload 4 rfl dL_law_2351 ?_
  refine gn_ic 2 (by decide) dL_law_2353 ?_
  refine gn_iadd dL_law_2354 ?_
  refine g_sld (by omega) dL_law_2355 ?_
  refine g_aload_n 0 rfl dL_law_2356 ?_
  refine g_iload 4 rfl dL_law_2357 ?_
  refine gn_ic 3 (by decide) dL_law_2359 ?_
  refine gn_iadd dL_law_2360 ?_
  refine g_sld (by omega) dL_law_2361 ?_
  refine g_aload_n 3 rfl dL_law_2362 ?_
  refine g_invSH (w_moveIn h0 (o_moveIn (ht := ht) h0)) l_L_315 rfl (Nat.le_of_ble_eq_true rfl) (Nat.le_of_ble_eq_true rfl) rfl dL_law_2363 (fun _ _ _ z => z.elim) (fun r E1 n1 z => ?_)
  obtain ⟨k, x, g, rfl, hk3, hg, hx, ⟨fs, hfs⟩, d8, hd8, hc⟩ := z
  refine g_istore (lv2 := [(5, _), (0, _), (1, _), (2, _), (3, _), (4, _)]) (by decide) rfl dL_law_2366 ?_
  refine g_aload_n 3 rfl dL_law_2368 ?_
  refine g_aload_n 1 rfl dL_law_2369 ?_
  refine g_iload 5 rfl dL_law_2370 ?_
  refine gn_ic 1 (by decide) dL_law_2372 ?_
  refine gn_iadd dL_law_2373 ?_
  refine g_sld (by omega) dL_law_2374 ?_
  refine g_aload_n 1 rfl dL_law_2375 ?_
  refine g_iload 5 rfl dL_law_2376 ?_
  refine gn_ic 2 (by decide) dL_law_2378 ?_
  refine gn_iadd dL_law_2379 ?_
  refine g_sld (by omega) dL_law_2380 ?_
  refine g_aload_n 1 rfl dL_law_2381 ?_
  refine g_iload 5 rfl dL_law_2382 ?_
  refine gn_ic 3 (by decide) dL_law_2384 ?_
  refine gn_iadd dL_law_2385 ?_
  refine g_sld (by omega) dL_law_2386 ?_
  refine gw_V hc l_L_318 rfl (Rcv.of hfs rfl) (by omega) (Nat.le_of_ble_eq_true rfl) rfl dL_law_2387 (fun _ _ _ z => z) (fun r E2 n2 z => ?_)
  obtain ⟨rfl, hg2, ⟨b, rfl, hb⟩, h1⟩ := z
  refine g_istore (lv2 := [(6, _), (5, _), (0, _), (1, _), (2, _), (3, _), (4, _)]) (by decide) rfl dL_law_2390 ?_
  refine g_aload_n 4 rfl dL_law_2392 ?_
  obtain ⟨S, q, I, A, f, -, i2, -, -, -, i6⟩ := id h1
  refine g_world i2 ?_
  refine gv_V c_X8_thrown l_L_160 rfl m_rcv (Nat.le_of_ble_eq_true rfl) (Nat.le_of_ble_eq_true rfl) rfl dL_law_2393 ?_
  refine g_world i2.symm ?_
  refine g_iload 1 rfl dL_law_2396 ?_
  refine g_icmp_eq (tgt := 2403) (by decide) dL_law_2398 (fun _ => ?_) (fun c => absurd i6 c)
  refine g_iload 1 rfl dL_law_2403 ?_
  refine g_if_ne (tgt := 2420) (by decide) dL_law_2405 (fun _ => ?_) (fun c => ?_)
  · skip
    refine g_goto (tgt := 3119) (by decide) dL_law_2420 ?_
    exact G.sub [2, 3, 4, 5, 6] rfl (K _ _ _ h1)
  · obtain rfl := nI_0k hk3 c
    have hb := hb rfl
    have hx := hx rfl
    refine g_aload_n 5 rfl dL_law_2408 ?_
    refine gn_ic 0 (by decide) dL_law_2409 ?_
    refine g_lald (N := 1) (f := g) hg2 (vp_in_nI (by decide) (by decide)) dL_law_2410 ?_
    refine g_iload 0 rfl dL_law_2411 ?_
    refine g_i2l dL_law_2413 ?_
    refine g_lcmp dL_law_2414 ?_
    refine g_if_eq (tgt := 2420) (by decide) dL_law_2415 (fun _ => ?_) (fun c => absurd (cmp_I hx hb) c)
    refine g_goto (tgt := 3119) (by decide) dL_law_2420 ?_
    exact G.sub [2, 3, 4, 5, 6] rfl (K _ _ _ h1)
set_option maxRecDepth 100000 in
set_option maxHeartbeats 1000000 in
theorem q_moveOut (h0 : IVo Γ ab mo k0 t E n) (ht : t ≤ 600) (hL : 6 * t + 6 ≤ gF Γ 10) (K : KL Γ ab mo t kc ks) : G Γ 15 ML_law Pl X0 2423 (lvL Γ ab mo t) [] E n (kc + 330) (ks + 10200) := by
  refine g_aload_n 1 rfl dL_law_2423 ?_
  refine g_aload_n 0 rfl dL_law_2424 ?_
  refine g_iload 4 rfl dL_law_2425 ?_
  refine gn_ic 1 (by decide) dL_law_2427 ?_
  refine gn_iadd dL_law_2428 ?_
  refine g_sld (by omega) dL_law_2429 ?_
  refine g_aload_n 3 rfl dL_law_2430 ?_
  refine g_invSH (w_moveOut h0 (o_moveOut h0)) l_L_319 rfl (Nat.le_of_ble_eq_true rfl) (Nat.le_of_ble_eq_true rfl) rfl dL_law_2431 (fun _ _ _ z => z.elim) (fun r E1 n1 z => ?_)
  obtain ⟨k, x, g, rfl, hk3, hg, hx, ⟨fs, hfs⟩, d8, hd8, hc⟩ := z
  refine g_istore (lv2 := [(5, _), (0, _), (1, _), (2, _), (3, _), (4, _)]) (by decide) rfl dL_law_2434 ?_
  refine g_aload_n 3 rfl dL_law_2436 ?_
  refine g_aload_n 1 rfl dL_law_2437 ?_
  refine g_iload 5 rfl dL_law_2438 ?_
  refine gn_ic 1 (by decide) dL_law_2440 ?_
  refine gn_iadd dL_law_2441 ?_
  refine g_sld (by omega) dL_law_2442 ?_
  refine gw_V hc l_L_321 rfl (Rcv.of hfs rfl) (by omega) (Nat.le_of_ble_eq_true rfl) rfl dL_law_2443 (fun _ _ _ z => z) (fun r E2 n2 z => ?_)
  obtain ⟨rfl, hg2, ⟨b, rfl, hb⟩, h1⟩ := z
  refine g_istore (lv2 := [(6, _), (5, _), (0, _), (1, _), (2, _), (3, _), (4, _)]) (by decide) rfl dL_law_2446 ?_
  refine g_aload_n 4 rfl dL_law_2448 ?_
  obtain ⟨S, q, I, A, f, -, i2, -, -, -, i6⟩ := id h1
  refine g_world i2 ?_
  refine gv_V c_X8_thrown l_L_160 rfl m_rcv (Nat.le_of_ble_eq_true rfl) (Nat.le_of_ble_eq_true rfl) rfl dL_law_2449 ?_
  refine g_world i2.symm ?_
  refine g_iload 1 rfl dL_law_2452 ?_
  refine g_icmp_eq (tgt := 2459) (by decide) dL_law_2454 (fun _ => ?_) (fun c => absurd i6 c)
  refine g_iload 1 rfl dL_law_2459 ?_
  refine g_if_ne (tgt := 2476) (by decide) dL_law_2461 (fun _ => ?_) (fun c => ?_)
  · skip
    refine g_goto (tgt := 3119) (by decide) dL_law_2476 ?_
    exact G.sub [2, 3, 4, 5, 6] rfl (K _ _ _ h1)
  · obtain rfl := nI_0k hk3 c
    have hb := hb rfl
    have hx := hx rfl
    refine g_aload_n 5 rfl dL_law_2464 ?_
    refine gn_ic 0 (by decide) dL_law_2465 ?_
    refine g_lald (N := 1) (f := g) hg2 (vp_in_nI (by decide) (by decide)) dL_law_2466 ?_
    refine g_iload 0 rfl dL_law_2467 ?_
    refine g_i2l dL_law_2469 ?_
    refine g_lcmp dL_law_2470 ?_
    refine g_if_eq (tgt := 2476) (by decide) dL_law_2471 (fun _ => ?_) (fun c => absurd (cmp_I hx hb) c)
    refine g_goto (tgt := 3119) (by decide) dL_law_2476 ?_
    exact G.sub [2, 3, 4, 5, 6] rfl (K _ _ _ h1)
set_option maxRecDepth 100000 in
set_option maxHeartbeats 1000000 in
theorem q_moveTo (h0 : IVo Γ ab mo k0 t E n) (ht : t ≤ 600) (hL : 6 * t + 6 ≤ gF Γ 10) (K : KL Γ ab mo t kc ks) : G Γ 15 ML_law Pl X0 2479 (lvL Γ ab mo t) [] E n (kc + 330) (ks + 10200) := by
  refine g_aload_n 1 rfl dL_law_2479 ?_
  refine g_aload_n 0 rfl dL_law_2480 ?_
  refine g_iload 4 rfl dL_law_2481 ?_
  refine gn_ic 1 (by decide) dL_law_2483 ?_
  refine gn_iadd dL_law_2484 ?_
  refine g_sld (by omega) dL_law_2485 ?_
  refine g_aload_n 0 rfl dL_law_2486 ?_
  refine g_iload 4 rfl dL_law_2487 ?_
  refine gn_ic 2 (by decide) dL_law_2489 ?_
  refine gn_iadd dL_law_2490 ?_
  refine g_sld (by omega) dL_law_2491 ?_
  refine g_aload_n 3 rfl dL_law_2492 ?_
  refine g_invSH (w_moveTo h0 (o_moveTo h0)) l_L_322 rfl (Nat.le_of_ble_eq_true rfl) (Nat.le_of_ble_eq_true rfl) rfl dL_law_2493 (fun _ _ _ z => z.elim) (fun r E1 n1 z => ?_)
  obtain ⟨k, x, g, rfl, hk3, hg, hx, ⟨fs, hfs⟩, d8, hd8, hc⟩ := z
  refine g_istore (lv2 := [(5, _), (0, _), (1, _), (2, _), (3, _), (4, _)]) (by decide) rfl dL_law_2496 ?_
  refine g_aload_n 3 rfl dL_law_2498 ?_
  refine g_aload_n 1 rfl dL_law_2499 ?_
  refine g_iload 5 rfl dL_law_2500 ?_
  refine gn_ic 1 (by decide) dL_law_2502 ?_
  refine gn_iadd dL_law_2503 ?_
  refine g_sld (by omega) dL_law_2504 ?_
  refine g_aload_n 1 rfl dL_law_2505 ?_
  refine g_iload 5 rfl dL_law_2506 ?_
  refine gn_ic 2 (by decide) dL_law_2508 ?_
  refine gn_iadd dL_law_2509 ?_
  refine g_sld (by omega) dL_law_2510 ?_
  refine gw_V hc l_L_324 rfl (Rcv.of hfs rfl) (by omega) (Nat.le_of_ble_eq_true rfl) rfl dL_law_2511 (fun _ _ _ z => z) (fun r E2 n2 z => ?_)
  obtain ⟨rfl, hg2, ⟨b, rfl, hb⟩, h1⟩ := z
  refine g_istore (lv2 := [(6, _), (5, _), (0, _), (1, _), (2, _), (3, _), (4, _)]) (by decide) rfl dL_law_2514 ?_
  refine g_aload_n 4 rfl dL_law_2516 ?_
  obtain ⟨S, q, I, A, f, -, i2, -, -, -, i6⟩ := id h1
  refine g_world i2 ?_
  refine gv_V c_X8_thrown l_L_160 rfl m_rcv (Nat.le_of_ble_eq_true rfl) (Nat.le_of_ble_eq_true rfl) rfl dL_law_2517 ?_
  refine g_world i2.symm ?_
  refine g_iload 1 rfl dL_law_2520 ?_
  refine g_icmp_eq (tgt := 2527) (by decide) dL_law_2522 (fun _ => ?_) (fun c => absurd i6 c)
  refine g_iload 1 rfl dL_law_2527 ?_
  refine g_if_ne (tgt := 2544) (by decide) dL_law_2529 (fun _ => ?_) (fun c => ?_)
  · skip
    refine g_goto (tgt := 3119) (by decide) dL_law_2544 ?_
    exact G.sub [2, 3, 4, 5, 6] rfl (K _ _ _ h1)
  · obtain rfl := nI_0k hk3 c
    have hb := hb rfl
    have hx := hx rfl
    refine g_aload_n 5 rfl dL_law_2532 ?_
    refine gn_ic 0 (by decide) dL_law_2533 ?_
    refine g_lald (N := 1) (f := g) hg2 (vp_in_nI (by decide) (by decide)) dL_law_2534 ?_
    refine g_iload 0 rfl dL_law_2535 ?_
    refine g_i2l dL_law_2537 ?_
    refine g_lcmp dL_law_2538 ?_
    refine g_if_eq (tgt := 2544) (by decide) dL_law_2539 (fun _ => ?_) (fun c => absurd (cmp_I hx hb) c)
    refine g_goto (tgt := 3119) (by decide) dL_law_2544 ?_
    exact G.sub [2, 3, 4, 5, 6] rfl (K _ _ _ h1)
set_option maxRecDepth 100000 in
set_option maxHeartbeats 1000000 in
theorem q_pay (h0 : IVo Γ ab mo k0 t E n) (ht : t ≤ 600) (hL : 6 * t + 6 ≤ gF Γ 10) (K : KL Γ ab mo t kc ks) : G Γ 15 ML_law Pl X0 2547 (lvL Γ ab mo t) [] E n (kc + 330) (ks + 10200) := by
  refine g_aload_n 1 rfl dL_law_2547 ?_
  refine g_aload_n 0 rfl dL_law_2548 ?_
  refine g_iload 4 rfl dL_law_2549 ?_
  refine gn_ic 1 (by decide) dL_law_2551 ?_
  refine gn_iadd dL_law_2552 ?_
  refine g_sld (by omega) dL_law_2553 ?_
  refine g_aload_n 0 rfl dL_law_2554 ?_
  refine g_iload 4 rfl dL_law_2555 ?_
  refine gn_ic 2 (by decide) dL_law_2557 ?_
  refine gn_iadd dL_law_2558 ?_
  refine g_sld (by omega) dL_law_2559 ?_
  refine g_aload_n 3 rfl dL_law_2560 ?_
  refine g_invSH (w_pay h0 (o_pay (ht := ht) h0)) l_L_325 rfl (Nat.le_of_ble_eq_true rfl) (Nat.le_of_ble_eq_true rfl) rfl dL_law_2561 (fun _ _ _ z => z.elim) (fun r E1 n1 z => ?_)
  obtain ⟨k, x, g, rfl, hk3, hg, hx, ⟨fs, hfs⟩, d8, hd8, hc⟩ := z
  refine g_istore (lv2 := [(5, _), (0, _), (1, _), (2, _), (3, _), (4, _)]) (by decide) rfl dL_law_2564 ?_
  refine g_aload_n 3 rfl dL_law_2566 ?_
  refine g_aload_n 1 rfl dL_law_2567 ?_
  refine g_iload 5 rfl dL_law_2568 ?_
  refine gn_ic 1 (by decide) dL_law_2570 ?_
  refine gn_iadd dL_law_2571 ?_
  refine g_sld (by omega) dL_law_2572 ?_
  refine g_aload_n 1 rfl dL_law_2573 ?_
  refine g_iload 5 rfl dL_law_2574 ?_
  refine gn_ic 2 (by decide) dL_law_2576 ?_
  refine gn_iadd dL_law_2577 ?_
  refine g_sld (by omega) dL_law_2578 ?_
  refine gw_V hc l_L_327 rfl (Rcv.of hfs rfl) (by omega) (Nat.le_of_ble_eq_true rfl) rfl dL_law_2579 (fun _ _ _ z => z) (fun r E2 n2 z => ?_)
  obtain ⟨rfl, hg2, ⟨b, rfl, hb⟩, h1⟩ := z
  refine g_istore (lv2 := [(6, _), (5, _), (0, _), (1, _), (2, _), (3, _), (4, _)]) (by decide) rfl dL_law_2582 ?_
  refine g_aload_n 4 rfl dL_law_2584 ?_
  obtain ⟨S, q, I, A, f, -, i2, -, -, -, i6⟩ := id h1
  refine g_world i2 ?_
  refine gv_V c_X8_thrown l_L_160 rfl m_rcv (Nat.le_of_ble_eq_true rfl) (Nat.le_of_ble_eq_true rfl) rfl dL_law_2585 ?_
  refine g_world i2.symm ?_
  refine g_iload 1 rfl dL_law_2588 ?_
  refine g_icmp_eq (tgt := 2595) (by decide) dL_law_2590 (fun _ => ?_) (fun c => absurd i6 c)
  refine g_iload 1 rfl dL_law_2595 ?_
  refine g_if_ne (tgt := 2612) (by decide) dL_law_2597 (fun _ => ?_) (fun c => ?_)
  · skip
    refine g_goto (tgt := 3119) (by decide) dL_law_2612 ?_
    exact G.sub [2, 3, 4, 5, 6] rfl (K _ _ _ h1)
  · obtain rfl := nI_0k hk3 c
    have hb := hb rfl
    have hx := hx rfl
    refine g_aload_n 5 rfl dL_law_2600 ?_
    refine gn_ic 0 (by decide) dL_law_2601 ?_
    refine g_lald (N := 1) (f := g) hg2 (vp_in_nI (by decide) (by decide)) dL_law_2602 ?_
    refine g_iload 0 rfl dL_law_2603 ?_
    refine g_i2l dL_law_2605 ?_
    refine g_lcmp dL_law_2606 ?_
    refine g_if_eq (tgt := 2612) (by decide) dL_law_2607 (fun _ => ?_) (fun c => absurd (cmp_I hx hb) c)
    refine g_goto (tgt := 3119) (by decide) dL_law_2612 ?_
    exact G.sub [2, 3, 4, 5, 6] rfl (K _ _ _ h1)
set_option maxRecDepth 100000 in
set_option maxHeartbeats 1000000 in
theorem q_setLandladyVowel (h0 : IVo Γ ab mo k0 t E n) (ht : t ≤ 600) (hL : 6 * t + 6 ≤ gF Γ 10) (K : KL Γ ab mo t kc ks) : G Γ 15 ML_law Pl X0 2615 (lvL Γ ab mo t) [] E n (kc + 330) (ks + 10200) := by
  refine g_aload_n 1 rfl dL_law_2615 ?_
  refine g_aload_n 0 rfl dL_law_2616 ?_
  refine g_iload 4 rfl dL_law_2617 ?_
  refine gn_ic 1 (by decide) dL_law_2619 ?_
  refine gn_iadd dL_law_2620 ?_
  refine g_sld (by omega) dL_law_2621 ?_
  refine g_aload_n 0 rfl dL_law_2622 ?_
  refine g_iload 4 rfl dL_law_2623 ?_
  refine gn_ic 2 (by decide) dL_law_2625 ?_
  refine gn_iadd dL_law_2626 ?_
  refine g_sld (by omega) dL_law_2627 ?_
  refine g_aload_n 3 rfl dL_law_2628 ?_
  refine g_invSH (w_setLandladyVowel h0 (o_setLandladyVowel h0)) l_L_328 rfl (Nat.le_of_ble_eq_true rfl) (Nat.le_of_ble_eq_true rfl) rfl dL_law_2629 (fun _ _ _ z => z.elim) (fun r E1 n1 z => ?_)
  obtain ⟨k, x, g, rfl, hk3, hg, hx, ⟨fs, hfs⟩, d8, hd8, hc⟩ := z
  refine g_istore (lv2 := [(5, _), (0, _), (1, _), (2, _), (3, _), (4, _)]) (by decide) rfl dL_law_2632 ?_
  refine g_aload_n 3 rfl dL_law_2634 ?_
  refine g_aload_n 1 rfl dL_law_2635 ?_
  refine g_iload 5 rfl dL_law_2636 ?_
  refine gn_ic 1 (by decide) dL_law_2638 ?_
  refine gn_iadd dL_law_2639 ?_
  refine g_sld (by omega) dL_law_2640 ?_
  refine g_aload_n 1 rfl dL_law_2641 ?_
  refine g_iload 5 rfl dL_law_2642 ?_
  refine gn_ic 2 (by decide) dL_law_2644 ?_
  refine gn_iadd dL_law_2645 ?_
  refine g_sld (by omega) dL_law_2646 ?_
  refine gw_V hc l_L_330 rfl (Rcv.of hfs rfl) (by omega) (Nat.le_of_ble_eq_true rfl) rfl dL_law_2647 (fun _ _ _ z => z) (fun r E2 n2 z => ?_)
  obtain ⟨rfl, hg2, ⟨b, rfl, hb⟩, h1⟩ := z
  refine g_istore (lv2 := [(6, _), (5, _), (0, _), (1, _), (2, _), (3, _), (4, _)]) (by decide) rfl dL_law_2650 ?_
  refine g_aload_n 4 rfl dL_law_2652 ?_
  obtain ⟨S, q, I, A, f, -, i2, -, -, -, i6⟩ := id h1
  refine g_world i2 ?_
  refine gv_V c_X8_thrown l_L_160 rfl m_rcv (Nat.le_of_ble_eq_true rfl) (Nat.le_of_ble_eq_true rfl) rfl dL_law_2653 ?_
  refine g_world i2.symm ?_
  refine g_iload 1 rfl dL_law_2656 ?_
  refine g_icmp_eq (tgt := 2663) (by decide) dL_law_2658 (fun _ => ?_) (fun c => absurd i6 c)
  refine g_iload 1 rfl dL_law_2663 ?_
  refine g_if_ne (tgt := 2680) (by decide) dL_law_2665 (fun _ => ?_) (fun c => ?_)
  · skip
    refine g_goto (tgt := 3119) (by decide) dL_law_2680 ?_
    exact G.sub [2, 3, 4, 5, 6] rfl (K _ _ _ h1)
  · obtain rfl := nI_0k hk3 c
    have hb := hb rfl
    have hx := hx rfl
    refine g_aload_n 5 rfl dL_law_2668 ?_
    refine gn_ic 0 (by decide) dL_law_2669 ?_
    refine g_lald (N := 1) (f := g) hg2 (vp_in_nI (by decide) (by decide)) dL_law_2670 ?_
    refine g_iload 0 rfl dL_law_2671 ?_
    refine g_i2l dL_law_2673 ?_
    refine g_lcmp dL_law_2674 ?_
    refine g_if_eq (tgt := 2680) (by decide) dL_law_2675 (fun _ => ?_) (fun c => absurd (cmp_I hx hb) c)
    refine g_goto (tgt := 3119) (by decide) dL_law_2680 ?_
    exact G.sub [2, 3, 4, 5, 6] rfl (K _ _ _ h1)
set_option maxRecDepth 100000 in
set_option maxHeartbeats 1000000 in
theorem q_setTolerance (h0 : IVo Γ ab mo k0 t E n) (ht : t ≤ 600) (hL : 6 * t + 6 ≤ gF Γ 10) (K : KL Γ ab mo t kc ks) : G Γ 15 ML_law Pl X0 2683 (lvL Γ ab mo t) [] E n (kc + 330) (ks + 10200) := by
  refine g_aload_n 1 rfl dL_law_2683 ?_
  refine g_aload_n 0 rfl dL_law_2684 ?_
  refine g_iload 4 rfl dL_law_2685 ?_
  refine gn_ic 1 (by decide) dL_law_2687 ?_
  refine gn_iadd dL_law_2688 ?_
  refine g_sld (by omega) dL_law_2689 ?_
  refine g_aload_n 3 rfl dL_law_2690 ?_
  refine g_invSH (w_setTolerance h0 (o_setTolerance h0)) l_L_331 rfl (Nat.le_of_ble_eq_true rfl) (Nat.le_of_ble_eq_true rfl) rfl dL_law_2691 (fun _ _ _ z => z.elim) (fun r E1 n1 z => ?_)
  obtain ⟨k, x, g, rfl, hk3, hg, hx, ⟨fs, hfs⟩, d8, hd8, hc⟩ := z
  refine g_istore (lv2 := [(5, _), (0, _), (1, _), (2, _), (3, _), (4, _)]) (by decide) rfl dL_law_2694 ?_
  refine g_aload_n 3 rfl dL_law_2696 ?_
  refine g_aload_n 1 rfl dL_law_2697 ?_
  refine g_iload 5 rfl dL_law_2698 ?_
  refine gn_ic 1 (by decide) dL_law_2700 ?_
  refine gn_iadd dL_law_2701 ?_
  refine g_sld (by omega) dL_law_2702 ?_
  refine gw_V hc l_L_333 rfl (Rcv.of hfs rfl) (by omega) (Nat.le_of_ble_eq_true rfl) rfl dL_law_2703 (fun _ _ _ z => z) (fun r E2 n2 z => ?_)
  obtain ⟨rfl, hg2, ⟨b, rfl, hb⟩, h1⟩ := z
  refine g_istore (lv2 := [(6, _), (5, _), (0, _), (1, _), (2, _), (3, _), (4, _)]) (by decide) rfl dL_law_2706 ?_
  refine g_aload_n 4 rfl dL_law_2708 ?_
  obtain ⟨S, q, I, A, f, -, i2, -, -, -, i6⟩ := id h1
  refine g_world i2 ?_
  refine gv_V c_X8_thrown l_L_160 rfl m_rcv (Nat.le_of_ble_eq_true rfl) (Nat.le_of_ble_eq_true rfl) rfl dL_law_2709 ?_
  refine g_world i2.symm ?_
  refine g_iload 1 rfl dL_law_2712 ?_
  refine g_icmp_eq (tgt := 2719) (by decide) dL_law_2714 (fun _ => ?_) (fun c => absurd i6 c)
  refine g_iload 1 rfl dL_law_2719 ?_
  refine g_if_ne (tgt := 2736) (by decide) dL_law_2721 (fun _ => ?_) (fun c => ?_)
  · skip
    refine g_goto (tgt := 3119) (by decide) dL_law_2736 ?_
    exact G.sub [2, 3, 4, 5, 6] rfl (K _ _ _ h1)
  · obtain rfl := nI_0k hk3 c
    have hb := hb rfl
    have hx := hx rfl
    refine g_aload_n 5 rfl dL_law_2724 ?_
    refine gn_ic 0 (by decide) dL_law_2725 ?_
    refine g_lald (N := 1) (f := g) hg2 (vp_in_nI (by decide) (by decide)) dL_law_2726 ?_
    refine g_iload 0 rfl dL_law_2727 ?_
    refine g_i2l dL_law_2729 ?_
    refine g_lcmp dL_law_2730 ?_
    refine g_if_eq (tgt := 2736) (by decide) dL_law_2731 (fun _ => ?_) (fun c => absurd (cmp_I hx hb) c)
    refine g_goto (tgt := 3119) (by decide) dL_law_2736 ?_
    exact G.sub [2, 3, 4, 5, 6] rfl (K _ _ _ h1)
set_option maxRecDepth 100000 in
set_option maxHeartbeats 1000000 in
theorem q_setBaseRent (h0 : IVo Γ ab mo k0 t E n) (ht : t ≤ 600) (hL : 6 * t + 6 ≤ gF Γ 10) (K : KL Γ ab mo t kc ks) : G Γ 15 ML_law Pl X0 2739 (lvL Γ ab mo t) [] E n (kc + 330) (ks + 10200) := by
  refine g_aload_n 1 rfl dL_law_2739 ?_
  refine g_aload_n 0 rfl dL_law_2740 ?_
  refine g_iload 4 rfl dL_law_2741 ?_
  refine gn_ic 1 (by decide) dL_law_2743 ?_
  refine gn_iadd dL_law_2744 ?_
  refine g_sld (by omega) dL_law_2745 ?_
  refine g_aload_n 3 rfl dL_law_2746 ?_
  refine g_invSH (w_setBaseRent h0 (o_setBaseRent h0)) l_L_334 rfl (Nat.le_of_ble_eq_true rfl) (Nat.le_of_ble_eq_true rfl) rfl dL_law_2747 (fun _ _ _ z => z.elim) (fun r E1 n1 z => ?_)
  obtain ⟨k, x, g, rfl, hk3, hg, hx, ⟨fs, hfs⟩, d8, hd8, hc⟩ := z
  refine g_istore (lv2 := [(5, _), (0, _), (1, _), (2, _), (3, _), (4, _)]) (by decide) rfl dL_law_2750 ?_
  refine g_aload_n 3 rfl dL_law_2752 ?_
  refine g_aload_n 1 rfl dL_law_2753 ?_
  refine g_iload 5 rfl dL_law_2754 ?_
  refine gn_ic 1 (by decide) dL_law_2756 ?_
  refine gn_iadd dL_law_2757 ?_
  refine g_sld (by omega) dL_law_2758 ?_
  refine gw_V hc l_L_336 rfl (Rcv.of hfs rfl) (by omega) (Nat.le_of_ble_eq_true rfl) rfl dL_law_2759 (fun _ _ _ z => z) (fun r E2 n2 z => ?_)
  obtain ⟨rfl, hg2, ⟨b, rfl, hb⟩, h1⟩ := z
  refine g_istore (lv2 := [(6, _), (5, _), (0, _), (1, _), (2, _), (3, _), (4, _)]) (by decide) rfl dL_law_2762 ?_
  refine g_aload_n 4 rfl dL_law_2764 ?_
  obtain ⟨S, q, I, A, f, -, i2, -, -, -, i6⟩ := id h1
  refine g_world i2 ?_
  refine gv_V c_X8_thrown l_L_160 rfl m_rcv (Nat.le_of_ble_eq_true rfl) (Nat.le_of_ble_eq_true rfl) rfl dL_law_2765 ?_
  refine g_world i2.symm ?_
  refine g_iload 1 rfl dL_law_2768 ?_
  refine g_icmp_eq (tgt := 2775) (by decide) dL_law_2770 (fun _ => ?_) (fun c => absurd i6 c)
  refine g_iload 1 rfl dL_law_2775 ?_
  refine g_if_ne (tgt := 2792) (by decide) dL_law_2777 (fun _ => ?_) (fun c => ?_)
  · skip
    refine g_goto (tgt := 3119) (by decide) dL_law_2792 ?_
    exact G.sub [2, 3, 4, 5, 6] rfl (K _ _ _ h1)
  · obtain rfl := nI_0k hk3 c
    have hb := hb rfl
    have hx := hx rfl
    refine g_aload_n 5 rfl dL_law_2780 ?_
    refine gn_ic 0 (by decide) dL_law_2781 ?_
    refine g_lald (N := 1) (f := g) hg2 (vp_in_nI (by decide) (by decide)) dL_law_2782 ?_
    refine g_iload 0 rfl dL_law_2783 ?_
    refine g_i2l dL_law_2785 ?_
    refine g_lcmp dL_law_2786 ?_
    refine g_if_eq (tgt := 2792) (by decide) dL_law_2787 (fun _ => ?_) (fun c => absurd (cmp_I hx hb) c)
    refine g_goto (tgt := 3119) (by decide) dL_law_2792 ?_
    exact G.sub [2, 3, 4, 5, 6] rfl (K _ _ _ h1)
set_option maxRecDepth 100000 in
set_option maxHeartbeats 1000000 in
theorem q_restore (h0 : IVo Γ ab mo k0 t E n) (ht : t ≤ 600) (hL : 6 * t + 6 ≤ gF Γ 10) (K : KL Γ ab mo t kc ks) : G Γ 15 ML_law Pl X0 2795 (lvL Γ ab mo t) [] E n (kc + 330) (ks + 10200) := by
  refine g_aload_n 1 rfl dL_law_2795 ?_
  refine g_aload_n 0 rfl dL_law_2796 ?_
  refine g_iload 4 rfl dL_law_2797 ?_
  refine gn_ic 1 (by decide) dL_law_2799 ?_
  refine gn_iadd dL_law_2800 ?_
  refine g_sld (by omega) dL_law_2801 ?_
  refine g_aload_n 3 rfl dL_law_2802 ?_
  refine g_invSH (w_restore h0 (o_restore h0)) l_L_337 rfl (Nat.le_of_ble_eq_true rfl) (Nat.le_of_ble_eq_true rfl) rfl dL_law_2803 (fun _ _ _ z => z.elim) (fun r E1 n1 z => ?_)
  obtain ⟨k, x, g, rfl, hk3, hg, hx, ⟨fs, hfs⟩, d8, hd8, hc⟩ := z
  refine g_istore (lv2 := [(5, _), (0, _), (1, _), (2, _), (3, _), (4, _)]) (by decide) rfl dL_law_2806 ?_
  refine g_aload_n 3 rfl dL_law_2808 ?_
  refine g_aload_n 1 rfl dL_law_2809 ?_
  refine g_iload 5 rfl dL_law_2810 ?_
  refine gn_ic 1 (by decide) dL_law_2812 ?_
  refine gn_iadd dL_law_2813 ?_
  refine g_sld (by omega) dL_law_2814 ?_
  refine gw_V hc l_L_339 rfl (Rcv.of hfs rfl) (by omega) (Nat.le_of_ble_eq_true rfl) rfl dL_law_2815 (fun _ _ _ z => z) (fun r E2 n2 z => ?_)
  obtain ⟨rfl, hg2, ⟨b, rfl, hb⟩, h1⟩ := z
  refine g_istore (lv2 := [(6, _), (5, _), (0, _), (1, _), (2, _), (3, _), (4, _)]) (by decide) rfl dL_law_2818 ?_
  refine g_aload_n 4 rfl dL_law_2820 ?_
  obtain ⟨S, q, I, A, f, -, i2, -, -, -, i6⟩ := id h1
  refine g_world i2 ?_
  refine gv_V c_X8_thrown l_L_160 rfl m_rcv (Nat.le_of_ble_eq_true rfl) (Nat.le_of_ble_eq_true rfl) rfl dL_law_2821 ?_
  refine g_world i2.symm ?_
  refine g_iload 1 rfl dL_law_2824 ?_
  refine g_icmp_eq (tgt := 2831) (by decide) dL_law_2826 (fun _ => ?_) (fun c => absurd i6 c)
  refine g_iload 1 rfl dL_law_2831 ?_
  refine g_if_ne (tgt := 2848) (by decide) dL_law_2833 (fun _ => ?_) (fun c => ?_)
  · skip
    refine g_goto (tgt := 3119) (by decide) dL_law_2848 ?_
    exact G.sub [2, 3, 4, 5, 6] rfl (K _ _ _ h1)
  · obtain rfl := nI_0k hk3 c
    have hb := hb rfl
    have hx := hx rfl
    refine g_aload_n 5 rfl dL_law_2836 ?_
    refine gn_ic 0 (by decide) dL_law_2837 ?_
    refine g_lald (N := 1) (f := g) hg2 (vp_in_nI (by decide) (by decide)) dL_law_2838 ?_
    refine g_iload 0 rfl dL_law_2839 ?_
    refine g_i2l dL_law_2841 ?_
    refine g_lcmp dL_law_2842 ?_
    refine g_if_eq (tgt := 2848) (by decide) dL_law_2843 (fun _ => ?_) (fun c => absurd (cmp_I hx hb) c)
    refine g_goto (tgt := 3119) (by decide) dL_law_2848 ?_
    exact G.sub [2, 3, 4, 5, 6] rfl (K _ _ _ h1)
set_option maxRecDepth 100000 in
set_option maxHeartbeats 1000000 in
theorem q_undo (h0 : IVo Γ ab mo k0 t E n) (ht : t ≤ 600) (hL : 6 * t + 6 ≤ gF Γ 10) (K : KL Γ ab mo t kc ks) : G Γ 15 ML_law Pl X0 2851 (lvL Γ ab mo t) [] E n (kc + 330) (ks + 10200) := by
  refine g_aload_n 1 rfl dL_law_2851 ?_
  refine g_aload_n 3 rfl dL_law_2852 ?_
  refine g_invSH (w_undo h0 (o_undo h0)) l_L_340 rfl (Nat.le_of_ble_eq_true rfl) (Nat.le_of_ble_eq_true rfl) rfl dL_law_2853 (fun _ _ _ z => z.elim) (fun r E1 n1 z => ?_)
  obtain ⟨k, x, g, rfl, hk3, hg, hx, ⟨fs, hfs⟩, d8, hd8, hc⟩ := z
  refine g_istore (lv2 := [(5, _), (0, _), (1, _), (2, _), (3, _), (4, _)]) (by decide) rfl dL_law_2856 ?_
  refine g_aload_n 3 rfl dL_law_2858 ?_
  refine gw_V hc l_L_343 rfl (Rcv.of hfs rfl) (by omega) (Nat.le_of_ble_eq_true rfl) rfl dL_law_2859 (fun _ _ _ z => z) (fun r E2 n2 z => ?_)
  obtain ⟨rfl, hg2, ⟨b, rfl, hb⟩, h1⟩ := z
  refine g_istore (lv2 := [(6, _), (5, _), (0, _), (1, _), (2, _), (3, _), (4, _)]) (by decide) rfl dL_law_2862 ?_
  refine g_aload_n 4 rfl dL_law_2864 ?_
  obtain ⟨S, q, I, A, f, -, i2, -, -, -, i6⟩ := id h1
  refine g_world i2 ?_
  refine gv_V c_X8_thrown l_L_160 rfl m_rcv (Nat.le_of_ble_eq_true rfl) (Nat.le_of_ble_eq_true rfl) rfl dL_law_2865 ?_
  refine g_world i2.symm ?_
  refine g_iload 1 rfl dL_law_2868 ?_
  refine g_icmp_eq (tgt := 2875) (by decide) dL_law_2870 (fun _ => ?_) (fun c => absurd i6 c)
  refine g_iload 1 rfl dL_law_2875 ?_
  refine g_if_ne (tgt := 2892) (by decide) dL_law_2877 (fun _ => ?_) (fun c => ?_)
  · skip
    refine g_goto (tgt := 3119) (by decide) dL_law_2892 ?_
    exact G.sub [2, 3, 4, 5, 6] rfl (K _ _ _ h1)
  · obtain rfl := nI_0k hk3 c
    have hb := hb rfl
    have hx := hx rfl
    refine g_aload_n 5 rfl dL_law_2880 ?_
    refine gn_ic 0 (by decide) dL_law_2881 ?_
    refine g_lald (N := 1) (f := g) hg2 (vp_in_nI (by decide) (by decide)) dL_law_2882 ?_
    refine g_iload 0 rfl dL_law_2883 ?_
    refine g_i2l dL_law_2885 ?_
    refine g_lcmp dL_law_2886 ?_
    refine g_if_eq (tgt := 2892) (by decide) dL_law_2887 (fun _ => ?_) (fun c => absurd (cmp_I hx hb) c)
    refine g_goto (tgt := 3119) (by decide) dL_law_2892 ?_
    exact G.sub [2, 3, 4, 5, 6] rfl (K _ _ _ h1)
set_option maxRecDepth 100000 in
set_option maxHeartbeats 1000000 in
theorem q_save (h0 : IVo Γ ab mo k0 t E n) (ht : t ≤ 600) (hL : 6 * t + 6 ≤ gF Γ 10) (K : KL Γ ab mo t kc ks) : G Γ 15 ML_law Pl X0 2895 (lvL Γ ab mo t) [] E n (kc + 330) (ks + 10200) := by
  refine g_aload_n 1 rfl dL_law_2895 ?_
  refine g_aload_n 0 rfl dL_law_2896 ?_
  refine g_iload 4 rfl dL_law_2897 ?_
  refine gn_ic 1 (by decide) dL_law_2899 ?_
  refine gn_iadd dL_law_2900 ?_
  refine g_sld (by omega) dL_law_2901 ?_
  refine g_aload_n 3 rfl dL_law_2902 ?_
  refine g_invSH (w_save h0 (o_save h0)) l_L_344 rfl (Nat.le_of_ble_eq_true rfl) (Nat.le_of_ble_eq_true rfl) rfl dL_law_2903 (fun _ _ _ z => z.elim) (fun r E1 n1 z => ?_)
  obtain ⟨k, x, g, rfl, hk3, hg, hx, ⟨fs, hfs⟩, d8, hd8, hc⟩ := z
  refine g_istore (lv2 := [(5, _), (0, _), (1, _), (2, _), (3, _), (4, _)]) (by decide) rfl dL_law_2906 ?_
  refine g_aload_n 3 rfl dL_law_2908 ?_
  refine g_aload_n 1 rfl dL_law_2909 ?_
  refine g_iload 5 rfl dL_law_2910 ?_
  refine gn_ic 1 (by decide) dL_law_2912 ?_
  refine gn_iadd dL_law_2913 ?_
  refine g_sld (by omega) dL_law_2914 ?_
  refine gw_V hc l_L_346 rfl (Rcv.of hfs rfl) (by omega) (Nat.le_of_ble_eq_true rfl) rfl dL_law_2915 (fun _ _ _ z => z) (fun r E2 n2 z => ?_)
  obtain ⟨rfl, hg2, ⟨b, rfl, hb⟩, h1⟩ := z
  refine g_istore (lv2 := [(6, _), (5, _), (0, _), (1, _), (2, _), (3, _), (4, _)]) (by decide) rfl dL_law_2918 ?_
  refine g_aload_n 4 rfl dL_law_2920 ?_
  obtain ⟨S, q, I, A, f, -, i2, -, -, -, i6⟩ := id h1
  refine g_world i2 ?_
  refine gv_V c_X8_thrown l_L_160 rfl m_rcv (Nat.le_of_ble_eq_true rfl) (Nat.le_of_ble_eq_true rfl) rfl dL_law_2921 ?_
  refine g_world i2.symm ?_
  refine g_iload 1 rfl dL_law_2924 ?_
  refine g_icmp_eq (tgt := 2931) (by decide) dL_law_2926 (fun _ => ?_) (fun c => absurd i6 c)
  refine g_iload 1 rfl dL_law_2931 ?_
  refine g_if_ne (tgt := 2948) (by decide) dL_law_2933 (fun _ => ?_) (fun c => ?_)
  · skip
    refine g_goto (tgt := 3119) (by decide) dL_law_2948 ?_
    exact G.sub [2, 3, 4, 5, 6] rfl (K _ _ _ h1)
  · obtain rfl := nI_0k hk3 c
    have hb := hb rfl
    have hx := hx rfl
    refine g_aload_n 5 rfl dL_law_2936 ?_
    refine gn_ic 0 (by decide) dL_law_2937 ?_
    refine g_lald (N := 1) (f := g) hg2 (vp_in_nI (by decide) (by decide)) dL_law_2938 ?_
    refine g_iload 0 rfl dL_law_2939 ?_
    refine g_i2l dL_law_2941 ?_
    refine g_lcmp dL_law_2942 ?_
    refine g_if_eq (tgt := 2948) (by decide) dL_law_2943 (fun _ => ?_) (fun c => absurd (cmp_I hx hb) c)
    refine g_goto (tgt := 3119) (by decide) dL_law_2948 ?_
    exact G.sub [2, 3, 4, 5, 6] rfl (K _ _ _ h1)
set_option maxRecDepth 100000 in
set_option maxHeartbeats 1000000 in
theorem q_writeLodger (h0 : IVo Γ ab mo k0 t E n) (ht : t ≤ 600) (hL : 6 * t + 6 ≤ gF Γ 10) (K : KL Γ ab mo t kc ks) : G Γ 15 ML_law Pl X0 2951 (lvL Γ ab mo t) [] E n (kc + 330) (ks + 10200) := by
  refine g_aload_n 1 rfl dL_law_2951 ?_
  refine g_aload_n 0 rfl dL_law_2952 ?_
  refine g_iload 4 rfl dL_law_2953 ?_
  refine gn_ic 1 (by decide) dL_law_2955 ?_
  refine gn_iadd dL_law_2956 ?_
  refine g_sld (by omega) dL_law_2957 ?_
  refine g_aload_n 3 rfl dL_law_2958 ?_
  refine g_invSH (w_writeLodger h0 (o_writeLodger (ht := ht) h0)) l_L_347 rfl (Nat.le_of_ble_eq_true rfl) (Nat.le_of_ble_eq_true rfl) rfl dL_law_2959 (fun _ _ _ z => z.elim) (fun r E1 n1 z => ?_)
  obtain ⟨k, x, g, rfl, hk3, hg, hx, ⟨fs, hfs⟩, d8, hd8, hc⟩ := z
  refine g_istore (lv2 := [(5, _), (0, _), (1, _), (2, _), (3, _), (4, _)]) (by decide) rfl dL_law_2962 ?_
  refine g_aload_n 3 rfl dL_law_2964 ?_
  refine g_aload_n 1 rfl dL_law_2965 ?_
  refine g_iload 5 rfl dL_law_2966 ?_
  refine gn_ic 1 (by decide) dL_law_2968 ?_
  refine gn_iadd dL_law_2969 ?_
  refine g_sld (by omega) dL_law_2970 ?_
  refine gw_V hc l_L_349 rfl (Rcv.of hfs rfl) (by omega) (Nat.le_of_ble_eq_true rfl) rfl dL_law_2971 (fun _ _ _ z => z) (fun r E2 n2 z => ?_)
  obtain ⟨rfl, hg2, ⟨b, rfl, hb⟩, h1⟩ := z
  refine g_istore (lv2 := [(6, _), (5, _), (0, _), (1, _), (2, _), (3, _), (4, _)]) (by decide) rfl dL_law_2974 ?_
  refine g_aload_n 4 rfl dL_law_2976 ?_
  obtain ⟨S, q, I, A, f, -, i2, -, -, -, i6⟩ := id h1
  refine g_world i2 ?_
  refine gv_V c_X8_thrown l_L_160 rfl m_rcv (Nat.le_of_ble_eq_true rfl) (Nat.le_of_ble_eq_true rfl) rfl dL_law_2977 ?_
  refine g_world i2.symm ?_
  refine g_iload 1 rfl dL_law_2980 ?_
  refine g_icmp_eq (tgt := 2987) (by decide) dL_law_2982 (fun _ => ?_) (fun c => absurd i6 c)
  refine g_iload 1 rfl dL_law_2987 ?_
  refine g_if_ne (tgt := 3004) (by decide) dL_law_2989 (fun _ => ?_) (fun c => ?_)
  · skip
    refine g_goto (tgt := 3119) (by decide) dL_law_3004 ?_
    exact G.sub [2, 3, 4, 5, 6] rfl (K _ _ _ h1)
  · obtain rfl := nI_0k hk3 c
    have hb := hb rfl
    have hx := hx rfl
    refine g_aload_n 5 rfl dL_law_2992 ?_
    refine gn_ic 0 (by decide) dL_law_2993 ?_
    refine g_lald (N := 1) (f := g) hg2 (vp_in_nI (by decide) (by decide)) dL_law_2994 ?_
    refine g_iload 0 rfl dL_law_2995 ?_
    refine g_i2l dL_law_2997 ?_
    refine g_lcmp dL_law_2998 ?_
    refine g_if_eq (tgt := 3004) (by decide) dL_law_2999 (fun _ => ?_) (fun c => absurd (cmp_I hx hb) c)
    refine g_goto (tgt := 3119) (by decide) dL_law_3004 ?_
    exact G.sub [2, 3, 4, 5, 6] rfl (K _ _ _ h1)
set_option maxRecDepth 100000 in
set_option maxHeartbeats 1000000 in
theorem q_writeFloor (h0 : IVo Γ ab mo k0 t E n) (ht : t ≤ 600) (hL : 6 * t + 6 ≤ gF Γ 10) (K : KL Γ ab mo t kc ks) : G Γ 15 ML_law Pl X0 3007 (lvL Γ ab mo t) [] E n (kc + 330) (ks + 10200) := by
  refine g_aload_n 1 rfl dL_law_3007 ?_
  refine g_aload_n 0 rfl dL_law_3008 ?_
  refine g_iload 4 rfl dL_law_3009 ?_
  refine gn_ic 1 (by decide) dL_law_3011 ?_
  refine gn_iadd dL_law_3012 ?_
  refine g_sld (by omega) dL_law_3013 ?_
  refine g_aload_n 3 rfl dL_law_3014 ?_
  refine g_invSH (w_writeFloor h0 (o_writeFloor h0)) l_L_350 rfl (Nat.le_of_ble_eq_true rfl) (Nat.le_of_ble_eq_true rfl) rfl dL_law_3015 (fun _ _ _ z => z.elim) (fun r E1 n1 z => ?_)
  obtain ⟨k, x, g, rfl, hk3, hg, hx, ⟨fs, hfs⟩, d8, hd8, hc⟩ := z
  refine g_istore (lv2 := [(5, _), (0, _), (1, _), (2, _), (3, _), (4, _)]) (by decide) rfl dL_law_3018 ?_
  refine g_aload_n 3 rfl dL_law_3020 ?_
  refine g_aload_n 1 rfl dL_law_3021 ?_
  refine g_iload 5 rfl dL_law_3022 ?_
  refine gn_ic 1 (by decide) dL_law_3024 ?_
  refine gn_iadd dL_law_3025 ?_
  refine g_sld (by omega) dL_law_3026 ?_
  refine gw_V hc l_L_352 rfl (Rcv.of hfs rfl) (by omega) (Nat.le_of_ble_eq_true rfl) rfl dL_law_3027 (fun _ _ _ z => z) (fun r E2 n2 z => ?_)
  obtain ⟨rfl, hg2, ⟨b, rfl, hb⟩, h1⟩ := z
  refine g_istore (lv2 := [(6, _), (5, _), (0, _), (1, _), (2, _), (3, _), (4, _)]) (by decide) rfl dL_law_3030 ?_
  refine g_aload_n 4 rfl dL_law_3032 ?_
  obtain ⟨S, q, I, A, f, -, i2, -, -, -, i6⟩ := id h1
  refine g_world i2 ?_
  refine gv_V c_X8_thrown l_L_160 rfl m_rcv (Nat.le_of_ble_eq_true rfl) (Nat.le_of_ble_eq_true rfl) rfl dL_law_3033 ?_
  refine g_world i2.symm ?_
  refine g_iload 1 rfl dL_law_3036 ?_
  refine g_icmp_eq (tgt := 3043) (by decide) dL_law_3038 (fun _ => ?_) (fun c => absurd i6 c)
  refine g_iload 1 rfl dL_law_3043 ?_
  refine g_if_ne (tgt := 3060) (by decide) dL_law_3045 (fun _ => ?_) (fun c => ?_)
  · skip
    refine g_goto (tgt := 3119) (by decide) dL_law_3060 ?_
    exact G.sub [2, 3, 4, 5, 6] rfl (K _ _ _ h1)
  · obtain rfl := nI_0k hk3 c
    have hb := hb rfl
    have hx := hx rfl
    refine g_aload_n 5 rfl dL_law_3048 ?_
    refine gn_ic 0 (by decide) dL_law_3049 ?_
    refine g_lald (N := 1) (f := g) hg2 (vp_in_nI (by decide) (by decide)) dL_law_3050 ?_
    refine g_iload 0 rfl dL_law_3051 ?_
    refine g_i2l dL_law_3053 ?_
    refine g_lcmp dL_law_3054 ?_
    refine g_if_eq (tgt := 3060) (by decide) dL_law_3055 (fun _ => ?_) (fun c => absurd (cmp_I hx hb) c)
    refine g_goto (tgt := 3119) (by decide) dL_law_3060 ?_
    exact G.sub [2, 3, 4, 5, 6] rfl (K _ _ _ h1)
set_option maxRecDepth 100000 in
set_option maxHeartbeats 1000000 in
theorem q_outputCharacter (h0 : IVo Γ ab mo k0 t E n) (ht : t ≤ 600) (hL : 6 * t + 6 ≤ gF Γ 10) (K : KL Γ ab mo t kc ks) : G Γ 15 ML_law Pl X0 3063 (lvL Γ ab mo t) [] E n (kc + 330) (ks + 10200) := by
  refine g_aload_n 1 rfl dL_law_3063 ?_
  refine g_aload_n 0 rfl dL_law_3064 ?_
  refine g_iload 4 rfl dL_law_3065 ?_
  refine gn_ic 1 (by decide) dL_law_3067 ?_
  refine gn_iadd dL_law_3068 ?_
  refine g_sld (by omega) dL_law_3069 ?_
  refine g_aload_n 3 rfl dL_law_3070 ?_
  refine g_invSH (w_outputCharacter h0 (o_outputCharacter h0)) l_L_353 rfl (Nat.le_of_ble_eq_true rfl) (Nat.le_of_ble_eq_true rfl) rfl dL_law_3071 (fun _ _ _ z => z.elim) (fun r E1 n1 z => ?_)
  obtain ⟨k, x, g, rfl, hk3, hg, hx, ⟨fs, hfs⟩, d8, hd8, hc⟩ := z
  refine g_istore (lv2 := [(5, _), (0, _), (1, _), (2, _), (3, _), (4, _)]) (by decide) rfl dL_law_3074 ?_
  refine g_aload_n 3 rfl dL_law_3076 ?_
  refine g_aload_n 1 rfl dL_law_3077 ?_
  refine g_iload 5 rfl dL_law_3078 ?_
  refine gn_ic 1 (by decide) dL_law_3080 ?_
  refine gn_iadd dL_law_3081 ?_
  refine g_sld (by omega) dL_law_3082 ?_
  refine gw_V hc l_L_355 rfl (Rcv.of hfs rfl) (by omega) (Nat.le_of_ble_eq_true rfl) rfl dL_law_3083 (fun _ _ _ z => z) (fun r E2 n2 z => ?_)
  obtain ⟨rfl, hg2, ⟨b, rfl, hb⟩, h1⟩ := z
  refine g_istore (lv2 := [(6, _), (5, _), (0, _), (1, _), (2, _), (3, _), (4, _)]) (by decide) rfl dL_law_3086 ?_
  refine g_aload_n 4 rfl dL_law_3088 ?_
  obtain ⟨S, q, I, A, f, -, i2, -, -, -, i6⟩ := id h1
  refine g_world i2 ?_
  refine gv_V c_X8_thrown l_L_160 rfl m_rcv (Nat.le_of_ble_eq_true rfl) (Nat.le_of_ble_eq_true rfl) rfl dL_law_3089 ?_
  refine g_world i2.symm ?_
  refine g_iload 1 rfl dL_law_3092 ?_
  refine g_icmp_eq (tgt := 3099) (by decide) dL_law_3094 (fun _ => ?_) (fun c => absurd i6 c)
  refine g_iload 1 rfl dL_law_3099 ?_
  refine g_if_ne (tgt := 3116) (by decide) dL_law_3101 (fun _ => ?_) (fun c => ?_)
  · skip
    refine g_goto (tgt := 3119) (by decide) dL_law_3116 ?_
    exact G.sub [2, 3, 4, 5, 6] rfl (K _ _ _ h1)
  · obtain rfl := nI_0k hk3 c
    have hb := hb rfl
    have hx := hx rfl
    refine g_aload_n 5 rfl dL_law_3104 ?_
    refine gn_ic 0 (by decide) dL_law_3105 ?_
    refine g_lald (N := 1) (f := g) hg2 (vp_in_nI (by decide) (by decide)) dL_law_3106 ?_
    refine g_iload 0 rfl dL_law_3107 ?_
    refine g_i2l dL_law_3109 ?_
    refine g_lcmp dL_law_3110 ?_
    refine g_if_eq (tgt := 3116) (by decide) dL_law_3111 (fun _ => ?_) (fun c => absurd (cmp_I hx hb) c)
    refine g_goto (tgt := 3119) (by decide) dL_law_3116 ?_
    exact G.sub [2, 3, 4, 5, 6] rfl (K _ _ _ h1)
end GCASE2
