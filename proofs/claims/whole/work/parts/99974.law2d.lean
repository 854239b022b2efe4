/-! ===== the law, second: cases 24 to 35 (laid by wip/whole/src/law2.py) ===== -/
section
variable {X : x_X} {I : Nat → Nat → Int32} {L : Nat → Nat → Int64} {R : Nat → Nat → Option Nat} {N : Nat}
section
variable {Lw c k : Nat} {xs : Nat → Int32} {w5 w6 w7 : Option Value}
theorem lk_24 (hlen : 7 * N + 7 ≤ Lw) (hLw : Lw ≤ 3584) (T : y_T N I L R) (hN : N < 512) (hc : c ≤ 233 + 4 * N) (hk : k ≤ 14655 + 24 * N) (hx : xs (7 * N) &&& 63 = Int32.ofNat 24) : y_Nx Lw xs N I L R c k w5 w6 w7 := by
  have sm : y_OI N (Lw, xs) mL_award [.ref 0, .ref 232] mX9_award [.ref 225] I L R := sim_award (X := (Lw, xs)) T
  obtain ⟨k0, I1, L1, R1, v, I2, L2, h1, h2, ht, hv, T2⟩ := sm
  by_cases z : k0 = 0
  · refine ⟨I2, L2, R1, some (.int k0), some (.int v), w7, c + 2, k + 12, T2, by omega, by omega, fun r hr => ?_⟩
    refine e_tsI (j := 24) (off := 1621) 1661 dL_law_40 rfl (by rw [hx]; decide) (by decide) rfl rfl ?_
    refine f_aload_n (M := mL_law) 1662 dL_law_1661 rfl rfl ?_
    refine f_aload_n (M := mL_law) 1663 dL_law_1662 rfl rfl ?_
    refine e_cS (M := mL_law) [_] (c + 2) (k + 12) dL_law_1663 pa_10245 cc_10245 rfl rfl rfl rfl rfl (show c + 2 ≤ 601024 by omega) (show k + 12 ≤ 7293034 by omega) rfl (h1) rfl ?_
    refine f_istore (M := mL_law) (ls' := [_, _, _, _, _, _, _, _]) 1668 dL_law_1666 rfl rfl rfl ?_
    refine f_aload_n (M := mL_law) 1669 dL_law_1668 rfl rfl ?_
    refine e_cV (M := mL_law) [_] (c + 2) (k + 12) dL_law_1669 pa_10247 pb_10247 cc_10247 rfl rfl rfl rfl rfl (show c + 2 ≤ 601024 by omega) (show k + 12 ≤ 7293034 by omega) rfl (h2) rfl ?_
    refine f_istore (M := mL_law) (ls' := [_, _, _, _, _, _, _, _]) 1674 dL_law_1672 rfl rfl rfl ?_
    refine f_aload_n (M := mL_law) 1675 dL_law_1674 rfl rfl ?_
    refine e_cV (M := mL_law) [_] (c + 2) (k + 12) dL_law_1675 pa_10163 pb_10163 cc_10163 rfl rfl rfl rfl rfl (show c + 2 ≤ 601024 by omega) (show k + 12 ≤ 7293034 by omega) rfl (c_X9_thrown) rfl ?_
    refine f_iload (M := mL_law) 1680 dL_law_1678 rfl rfl ?_
    refine e_icmp_eqT (M := mL_law) 1685 dL_law_1680 rfl ht ?_
    refine f_iload (M := mL_law) 1687 dL_law_1685 rfl rfl ?_
    refine e_if_neF (M := mL_law) 1702 dL_law_1687 rfl (fun q => q z) ?_
    refine f_aload_n (M := mL_law) 1691 dL_law_1690 rfl rfl ?_
    refine f_iconst (M := mL_law) 1692 dL_law_1691 ki_0 rfl ?_
    refine e_lld (M := mL_law) (w := 1) (j := 0) dL_law_1692 (x_kk rfl) rfl kn_0 (by omega) (by omega) ?_
    refine f_iload (M := mL_law) 1695 dL_law_1693 rfl rfl ?_
    refine f_i2l (M := mL_law) 1696 dL_law_1695 rfl ?_
    refine f_lcmp (M := mL_law) 1697 dL_law_1696 rfl ?_
    refine e_if_eqT (M := mL_law) 1702 dL_law_1697 rfl (lc_eq.mpr (hv z)) ?_
    refine f_goto (M := mL_law) 2888 dL_law_1702 rfl ?_
    refine f_iinc (M := mL_law) (ls' := [_, _, _, _, _, _, _, _]) 2891 dL_law_2888 ki_7 rfl rfl rfl rfl ?_
    refine f_goto (M := mL_law) 23 dL_law_2891 rfl ?_
    rw [show Int32.ofNat (7 * N) + 7 = Int32.ofNat (7 * (N + 1)) from ix_add rfl kn_7]; exact hr
  · refine ⟨I2, L2, R1, some (.int k0), some (.int v), w7, c + 2, k + 12, T2, by omega, by omega, fun r hr => ?_⟩
    refine e_tsI (j := 24) (off := 1621) 1661 dL_law_40 rfl (by rw [hx]; decide) (by decide) rfl rfl ?_
    refine f_aload_n (M := mL_law) 1662 dL_law_1661 rfl rfl ?_
    refine f_aload_n (M := mL_law) 1663 dL_law_1662 rfl rfl ?_
    refine e_cS (M := mL_law) [_] (c + 2) (k + 12) dL_law_1663 pa_10245 cc_10245 rfl rfl rfl rfl rfl (show c + 2 ≤ 601024 by omega) (show k + 12 ≤ 7293034 by omega) rfl (h1) rfl ?_
    refine f_istore (M := mL_law) (ls' := [_, _, _, _, _, _, _, _]) 1668 dL_law_1666 rfl rfl rfl ?_
    refine f_aload_n (M := mL_law) 1669 dL_law_1668 rfl rfl ?_
    refine e_cV (M := mL_law) [_] (c + 2) (k + 12) dL_law_1669 pa_10247 pb_10247 cc_10247 rfl rfl rfl rfl rfl (show c + 2 ≤ 601024 by omega) (show k + 12 ≤ 7293034 by omega) rfl (h2) rfl ?_
    refine f_istore (M := mL_law) (ls' := [_, _, _, _, _, _, _, _]) 1674 dL_law_1672 rfl rfl rfl ?_
    refine f_aload_n (M := mL_law) 1675 dL_law_1674 rfl rfl ?_
    refine e_cV (M := mL_law) [_] (c + 2) (k + 12) dL_law_1675 pa_10163 pb_10163 cc_10163 rfl rfl rfl rfl rfl (show c + 2 ≤ 601024 by omega) (show k + 12 ≤ 7293034 by omega) rfl (c_X9_thrown) rfl ?_
    refine f_iload (M := mL_law) 1680 dL_law_1678 rfl rfl ?_
    refine e_icmp_eqT (M := mL_law) 1685 dL_law_1680 rfl ht ?_
    refine f_iload (M := mL_law) 1687 dL_law_1685 rfl rfl ?_
    refine e_if_neT (M := mL_law) 1702 dL_law_1687 rfl z ?_
    refine f_goto (M := mL_law) 2888 dL_law_1702 rfl ?_
    refine f_iinc (M := mL_law) (ls' := [_, _, _, _, _, _, _, _]) 2891 dL_law_2888 ki_7 rfl rfl rfl rfl ?_
    refine f_goto (M := mL_law) 23 dL_law_2891 rfl ?_
    rw [show Int32.ofNat (7 * N) + 7 = Int32.ofNat (7 * (N + 1)) from ix_add rfl kn_7]; exact hr
theorem lk_25 (hlen : 7 * N + 7 ≤ Lw) (hLw : Lw ≤ 3584) (T : y_T N I L R) (hN : N < 512) (hc : c ≤ 233 + 4 * N) (hk : k ≤ 14655 + 24 * N) (hx : xs (7 * N) &&& 63 = Int32.ofNat 25) : y_Nx Lw xs N I L R c k w5 w6 w7 := by
  have sm : y_OV N (Lw, xs) mL_setIndex [.ref 0, .int (xs (7 * N + 1)), .int (xs (7 * N + 2)), .int (xs (7 * N + 3))] mX9_setIndex [.ref 225, .int (xs (7 * N + 1)), .int (xs (7 * N + 2)), .int (xs (7 * N + 3))] I L R := sim_setIndex (X := (Lw, xs)) T
  obtain ⟨k0, I1, L1, R1, I2, L2, h1, h2, ht, T2⟩ := sm
  refine ⟨I2, L2, R1, some (.int k0), w6, w7, c + 3, k + 18, T2, by omega, by omega, fun r hr => ?_⟩
  refine e_tsI (j := 25) (off := 1665) 1705 dL_law_40 rfl (by rw [hx]; decide) (by decide) rfl rfl ?_
  refine f_aload_n (M := mL_law) 1706 dL_law_1705 rfl rfl ?_
  refine f_aload_n (M := mL_law) 1707 dL_law_1706 rfl rfl ?_
  refine f_iload (M := mL_law) 1709 dL_law_1707 rfl rfl ?_
  refine f_iconst (M := mL_law) 1710 dL_law_1709 ki_1 rfl ?_
  refine f_iadd (M := mL_law) 1711 dL_law_1710 rfl ?_
  refine e_iaf (M := mL_law) (w := Lw) (f := xs) (j := (7 * N) + (1)) dL_law_1711 (x_kk rfl) rfl (ix_add rfl kn_1) (by omega) (by omega) ?_
  refine f_aload_n (M := mL_law) 1713 dL_law_1712 rfl rfl ?_
  refine f_iload (M := mL_law) 1715 dL_law_1713 rfl rfl ?_
  refine f_iconst (M := mL_law) 1716 dL_law_1715 ki_2 rfl ?_
  refine f_iadd (M := mL_law) 1717 dL_law_1716 rfl ?_
  refine e_iaf (M := mL_law) (w := Lw) (f := xs) (j := (7 * N) + (2)) dL_law_1717 (x_kk rfl) rfl (ix_add rfl kn_2) (by omega) (by omega) ?_
  refine f_aload_n (M := mL_law) 1719 dL_law_1718 rfl rfl ?_
  refine f_iload (M := mL_law) 1721 dL_law_1719 rfl rfl ?_
  refine f_iconst (M := mL_law) 1722 dL_law_1721 ki_3 rfl ?_
  refine f_iadd (M := mL_law) 1723 dL_law_1722 rfl ?_
  refine e_iaf (M := mL_law) (w := Lw) (f := xs) (j := (7 * N) + (3)) dL_law_1723 (x_kk rfl) rfl (ix_add rfl kn_3) (by omega) (by omega) ?_
  refine e_cS (M := mL_law) [_] (c + 3) (k + 18) dL_law_1724 pa_10248 cc_10248 rfl rfl rfl rfl rfl (show c + 3 ≤ 601024 by omega) (show k + 18 ≤ 7293034 by omega) rfl (h1) rfl ?_
  refine f_istore (M := mL_law) (ls' := [_, _, _, _, _, _, _, _]) 1729 dL_law_1727 rfl rfl rfl ?_
  refine f_aload_n (M := mL_law) 1730 dL_law_1729 rfl rfl ?_
  refine f_aload_n (M := mL_law) 1731 dL_law_1730 rfl rfl ?_
  refine f_iload (M := mL_law) 1733 dL_law_1731 rfl rfl ?_
  refine f_iconst (M := mL_law) 1734 dL_law_1733 ki_1 rfl ?_
  refine f_iadd (M := mL_law) 1735 dL_law_1734 rfl ?_
  refine e_iaf (M := mL_law) (w := Lw) (f := xs) (j := (7 * N) + (1)) dL_law_1735 (x_kk rfl) rfl (ix_add rfl kn_1) (by omega) (by omega) ?_
  refine f_aload_n (M := mL_law) 1737 dL_law_1736 rfl rfl ?_
  refine f_iload (M := mL_law) 1739 dL_law_1737 rfl rfl ?_
  refine f_iconst (M := mL_law) 1740 dL_law_1739 ki_2 rfl ?_
  refine f_iadd (M := mL_law) 1741 dL_law_1740 rfl ?_
  refine e_iaf (M := mL_law) (w := Lw) (f := xs) (j := (7 * N) + (2)) dL_law_1741 (x_kk rfl) rfl (ix_add rfl kn_2) (by omega) (by omega) ?_
  refine f_aload_n (M := mL_law) 1743 dL_law_1742 rfl rfl ?_
  refine f_iload (M := mL_law) 1745 dL_law_1743 rfl rfl ?_
  refine f_iconst (M := mL_law) 1746 dL_law_1745 ki_3 rfl ?_
  refine f_iadd (M := mL_law) 1747 dL_law_1746 rfl ?_
  refine e_iaf (M := mL_law) (w := Lw) (f := xs) (j := (7 * N) + (3)) dL_law_1747 (x_kk rfl) rfl (ix_add rfl kn_3) (by omega) (by omega) ?_
  refine e_cV (M := mL_law) [] (c + 3) (k + 18) dL_law_1748 pa_10251 pb_10251 cc_10251 rfl rfl rfl rfl rfl (show c + 3 ≤ 601024 by omega) (show k + 18 ≤ 7293034 by omega) rfl (h2) rfl ?_
  refine f_aload_n (M := mL_law) 1752 dL_law_1751 rfl rfl ?_
  refine e_cV (M := mL_law) [_] (c + 3) (k + 18) dL_law_1752 pa_10163 pb_10163 cc_10163 rfl rfl rfl rfl rfl (show c + 3 ≤ 601024 by omega) (show k + 18 ≤ 7293034 by omega) rfl (c_X9_thrown) rfl ?_
  refine f_iload (M := mL_law) 1757 dL_law_1755 rfl rfl ?_
  refine e_icmp_eqT (M := mL_law) 1762 dL_law_1757 rfl ht ?_
  refine f_goto (M := mL_law) 2888 dL_law_1762 rfl ?_
  refine f_iinc (M := mL_law) (ls' := [_, _, _, _, _, _, _, _]) 2891 dL_law_2888 ki_7 rfl rfl rfl rfl ?_
  refine f_goto (M := mL_law) 23 dL_law_2891 rfl ?_
  rw [show Int32.ofNat (7 * N) + 7 = Int32.ofNat (7 * (N + 1)) from ix_add rfl kn_7]; exact hr
theorem lk_26 (hlen : 7 * N + 7 ≤ Lw) (hLw : Lw ≤ 3584) (T : y_T N I L R) (hN : N < 512) (hc : c ≤ 233 + 4 * N) (hk : k ≤ 14655 + 24 * N) (hx : xs (7 * N) &&& 63 = Int32.ofNat 26) : y_Nx Lw xs N I L R c k w5 w6 w7 := by
  have sm : y_OI N (Lw, xs) mL_rate [.ref 0, .int (xs (7 * N + 1)), .int (xs (7 * N + 2)), .ref 232] mX9_rate [.ref 225, .int (xs (7 * N + 1)), .int (xs (7 * N + 2))] I L R := sim_rate (X := (Lw, xs)) T
  obtain ⟨k0, I1, L1, R1, v, I2, L2, h1, h2, ht, hv, T2⟩ := sm
  by_cases z : k0 = 0
  · refine ⟨I2, L2, R1, some (.int k0), some (.int v), w7, c + 2, k + 12, T2, by omega, by omega, fun r hr => ?_⟩
    refine e_tsI (j := 26) (off := 1725) 1765 dL_law_40 rfl (by rw [hx]; decide) (by decide) rfl rfl ?_
    refine f_aload_n (M := mL_law) 1766 dL_law_1765 rfl rfl ?_
    refine f_aload_n (M := mL_law) 1767 dL_law_1766 rfl rfl ?_
    refine f_iload (M := mL_law) 1769 dL_law_1767 rfl rfl ?_
    refine f_iconst (M := mL_law) 1770 dL_law_1769 ki_1 rfl ?_
    refine f_iadd (M := mL_law) 1771 dL_law_1770 rfl ?_
    refine e_iaf (M := mL_law) (w := Lw) (f := xs) (j := (7 * N) + (1)) dL_law_1771 (x_kk rfl) rfl (ix_add rfl kn_1) (by omega) (by omega) ?_
    refine f_aload_n (M := mL_law) 1773 dL_law_1772 rfl rfl ?_
    refine f_iload (M := mL_law) 1775 dL_law_1773 rfl rfl ?_
    refine f_iconst (M := mL_law) 1776 dL_law_1775 ki_2 rfl ?_
    refine f_iadd (M := mL_law) 1777 dL_law_1776 rfl ?_
    refine e_iaf (M := mL_law) (w := Lw) (f := xs) (j := (7 * N) + (2)) dL_law_1777 (x_kk rfl) rfl (ix_add rfl kn_2) (by omega) (by omega) ?_
    refine f_aload_n (M := mL_law) 1779 dL_law_1778 rfl rfl ?_
    refine e_cS (M := mL_law) [_] (c + 2) (k + 12) dL_law_1779 pa_10252 cc_10252 rfl rfl rfl rfl rfl (show c + 2 ≤ 601024 by omega) (show k + 12 ≤ 7293034 by omega) rfl (h1) rfl ?_
    refine f_istore (M := mL_law) (ls' := [_, _, _, _, _, _, _, _]) 1784 dL_law_1782 rfl rfl rfl ?_
    refine f_aload_n (M := mL_law) 1785 dL_law_1784 rfl rfl ?_
    refine f_aload_n (M := mL_law) 1786 dL_law_1785 rfl rfl ?_
    refine f_iload (M := mL_law) 1788 dL_law_1786 rfl rfl ?_
    refine f_iconst (M := mL_law) 1789 dL_law_1788 ki_1 rfl ?_
    refine f_iadd (M := mL_law) 1790 dL_law_1789 rfl ?_
    refine e_iaf (M := mL_law) (w := Lw) (f := xs) (j := (7 * N) + (1)) dL_law_1790 (x_kk rfl) rfl (ix_add rfl kn_1) (by omega) (by omega) ?_
    refine f_aload_n (M := mL_law) 1792 dL_law_1791 rfl rfl ?_
    refine f_iload (M := mL_law) 1794 dL_law_1792 rfl rfl ?_
    refine f_iconst (M := mL_law) 1795 dL_law_1794 ki_2 rfl ?_
    refine f_iadd (M := mL_law) 1796 dL_law_1795 rfl ?_
    refine e_iaf (M := mL_law) (w := Lw) (f := xs) (j := (7 * N) + (2)) dL_law_1796 (x_kk rfl) rfl (ix_add rfl kn_2) (by omega) (by omega) ?_
    refine e_cV (M := mL_law) [_] (c + 2) (k + 12) dL_law_1797 pa_10254 pb_10254 cc_10254 rfl rfl rfl rfl rfl (show c + 2 ≤ 601024 by omega) (show k + 12 ≤ 7293034 by omega) rfl (h2) rfl ?_
    refine f_istore (M := mL_law) (ls' := [_, _, _, _, _, _, _, _]) 1802 dL_law_1800 rfl rfl rfl ?_
    refine f_aload_n (M := mL_law) 1803 dL_law_1802 rfl rfl ?_
    refine e_cV (M := mL_law) [_] (c + 2) (k + 12) dL_law_1803 pa_10163 pb_10163 cc_10163 rfl rfl rfl rfl rfl (show c + 2 ≤ 601024 by omega) (show k + 12 ≤ 7293034 by omega) rfl (c_X9_thrown) rfl ?_
    refine f_iload (M := mL_law) 1808 dL_law_1806 rfl rfl ?_
    refine e_icmp_eqT (M := mL_law) 1813 dL_law_1808 rfl ht ?_
    refine f_iload (M := mL_law) 1815 dL_law_1813 rfl rfl ?_
    refine e_if_neF (M := mL_law) 1830 dL_law_1815 rfl (fun q => q z) ?_
    refine f_aload_n (M := mL_law) 1819 dL_law_1818 rfl rfl ?_
    refine f_iconst (M := mL_law) 1820 dL_law_1819 ki_0 rfl ?_
    refine e_lld (M := mL_law) (w := 1) (j := 0) dL_law_1820 (x_kk rfl) rfl kn_0 (by omega) (by omega) ?_
    refine f_iload (M := mL_law) 1823 dL_law_1821 rfl rfl ?_
    refine f_i2l (M := mL_law) 1824 dL_law_1823 rfl ?_
    refine f_lcmp (M := mL_law) 1825 dL_law_1824 rfl ?_
    refine e_if_eqT (M := mL_law) 1830 dL_law_1825 rfl (lc_eq.mpr (hv z)) ?_
    refine f_goto (M := mL_law) 2888 dL_law_1830 rfl ?_
    refine f_iinc (M := mL_law) (ls' := [_, _, _, _, _, _, _, _]) 2891 dL_law_2888 ki_7 rfl rfl rfl rfl ?_
    refine f_goto (M := mL_law) 23 dL_law_2891 rfl ?_
    rw [show Int32.ofNat (7 * N) + 7 = Int32.ofNat (7 * (N + 1)) from ix_add rfl kn_7]; exact hr
  · refine ⟨I2, L2, R1, some (.int k0), some (.int v), w7, c + 2, k + 12, T2, by omega, by omega, fun r hr => ?_⟩
    refine e_tsI (j := 26) (off := 1725) 1765 dL_law_40 rfl (by rw [hx]; decide) (by decide) rfl rfl ?_
    refine f_aload_n (M := mL_law) 1766 dL_law_1765 rfl rfl ?_
    refine f_aload_n (M := mL_law) 1767 dL_law_1766 rfl rfl ?_
    refine f_iload (M := mL_law) 1769 dL_law_1767 rfl rfl ?_
    refine f_iconst (M := mL_law) 1770 dL_law_1769 ki_1 rfl ?_
    refine f_iadd (M := mL_law) 1771 dL_law_1770 rfl ?_
    refine e_iaf (M := mL_law) (w := Lw) (f := xs) (j := (7 * N) + (1)) dL_law_1771 (x_kk rfl) rfl (ix_add rfl kn_1) (by omega) (by omega) ?_
    refine f_aload_n (M := mL_law) 1773 dL_law_1772 rfl rfl ?_
    refine f_iload (M := mL_law) 1775 dL_law_1773 rfl rfl ?_
    refine f_iconst (M := mL_law) 1776 dL_law_1775 ki_2 rfl ?_
    refine f_iadd (M := mL_law) 1777 dL_law_1776 rfl ?_
    refine e_iaf (M := mL_law) (w := Lw) (f := xs) (j := (7 * N) + (2)) dL_law_1777 (x_kk rfl) rfl (ix_add rfl kn_2) (by omega) (by omega) ?_
    refine f_aload_n (M := mL_law) 1779 dL_law_1778 rfl rfl ?_
    refine e_cS (M := mL_law) [_] (c + 2) (k + 12) dL_law_1779 pa_10252 cc_10252 rfl rfl rfl rfl rfl (show c + 2 ≤ 601024 by omega) (show k + 12 ≤ 7293034 by omega) rfl (h1) rfl ?_
    refine f_istore (M := mL_law) (ls' := [_, _, _, _, _, _, _, _]) 1784 dL_law_1782 rfl rfl rfl ?_
    refine f_aload_n (M := mL_law) 1785 dL_law_1784 rfl rfl ?_
    refine f_aload_n (M := mL_law) 1786 dL_law_1785 rfl rfl ?_
    refine f_iload (M := mL_law) 1788 dL_law_1786 rfl rfl ?_
    refine f_iconst (M := mL_law) 1789 dL_law_1788 ki_1 rfl ?_
    refine f_iadd (M := mL_law) 1790 dL_law_1789 rfl ?_
    refine e_iaf (M := mL_law) (w := Lw) (f := xs) (j := (7 * N) + (1)) dL_law_1790 (x_kk rfl) rfl (ix_add rfl kn_1) (by omega) (by omega) ?_
    refine f_aload_n (M := mL_law) 1792 dL_law_1791 rfl rfl ?_
    refine f_iload (M := mL_law) 1794 dL_law_1792 rfl rfl ?_
    refine f_iconst (M := mL_law) 1795 dL_law_1794 ki_2 rfl ?_
    refine f_iadd (M := mL_law) 1796 dL_law_1795 rfl ?_
    refine e_iaf (M := mL_law) (w := Lw) (f := xs) (j := (7 * N) + (2)) dL_law_1796 (x_kk rfl) rfl (ix_add rfl kn_2) (by omega) (by omega) ?_
    refine e_cV (M := mL_law) [_] (c + 2) (k + 12) dL_law_1797 pa_10254 pb_10254 cc_10254 rfl rfl rfl rfl rfl (show c + 2 ≤ 601024 by omega) (show k + 12 ≤ 7293034 by omega) rfl (h2) rfl ?_
    refine f_istore (M := mL_law) (ls' := [_, _, _, _, _, _, _, _]) 1802 dL_law_1800 rfl rfl rfl ?_
    refine f_aload_n (M := mL_law) 1803 dL_law_1802 rfl rfl ?_
    refine e_cV (M := mL_law) [_] (c + 2) (k + 12) dL_law_1803 pa_10163 pb_10163 cc_10163 rfl rfl rfl rfl rfl (show c + 2 ≤ 601024 by omega) (show k + 12 ≤ 7293034 by omega) rfl (c_X9_thrown) rfl ?_
    refine f_iload (M := mL_law) 1808 dL_law_1806 rfl rfl ?_
    refine e_icmp_eqT (M := mL_law) 1813 dL_law_1808 rfl ht ?_
    refine f_iload (M := mL_law) 1815 dL_law_1813 rfl rfl ?_
    refine e_if_neT (M := mL_law) 1830 dL_law_1815 rfl z ?_
    refine f_goto (M := mL_law) 2888 dL_law_1830 rfl ?_
    refine f_iinc (M := mL_law) (ls' := [_, _, _, _, _, _, _, _]) 2891 dL_law_2888 ki_7 rfl rfl rfl rfl ?_
    refine f_goto (M := mL_law) 23 dL_law_2891 rfl ?_
    rw [show Int32.ofNat (7 * N) + 7 = Int32.ofNat (7 * (N + 1)) from ix_add rfl kn_7]; exact hr
theorem lk_27 (hlen : 7 * N + 7 ≤ Lw) (hLw : Lw ≤ 3584) (T : y_T N I L R) (hN : N < 512) (hc : c ≤ 233 + 4 * N) (hk : k ≤ 14655 + 24 * N) (hx : xs (7 * N) &&& 63 = Int32.ofNat 27) : y_Nx Lw xs N I L R c k w5 w6 w7 := by
  have sm : y_OI N (Lw, xs) mL_indexFor [.ref 0, .int (xs (7 * N + 1)), .int (xs (7 * N + 2)), .ref 232] mX9_indexFor [.ref 225, .int (xs (7 * N + 1)), .int (xs (7 * N + 2))] I L R := sim_indexFor (X := (Lw, xs)) T
  obtain ⟨k0, I1, L1, R1, v, I2, L2, h1, h2, ht, hv, T2⟩ := sm
  by_cases z : k0 = 0
  · refine ⟨I2, L2, R1, some (.int k0), some (.int v), w7, c + 4, k + 24, T2, by omega, by omega, fun r hr => ?_⟩
    refine e_tsI (j := 27) (off := 1793) 1833 dL_law_40 rfl (by rw [hx]; decide) (by decide) rfl rfl ?_
    refine f_aload_n (M := mL_law) 1834 dL_law_1833 rfl rfl ?_
    refine f_aload_n (M := mL_law) 1835 dL_law_1834 rfl rfl ?_
    refine f_iload (M := mL_law) 1837 dL_law_1835 rfl rfl ?_
    refine f_iconst (M := mL_law) 1838 dL_law_1837 ki_1 rfl ?_
    refine f_iadd (M := mL_law) 1839 dL_law_1838 rfl ?_
    refine e_iaf (M := mL_law) (w := Lw) (f := xs) (j := (7 * N) + (1)) dL_law_1839 (x_kk rfl) rfl (ix_add rfl kn_1) (by omega) (by omega) ?_
    refine f_aload_n (M := mL_law) 1841 dL_law_1840 rfl rfl ?_
    refine f_iload (M := mL_law) 1843 dL_law_1841 rfl rfl ?_
    refine f_iconst (M := mL_law) 1844 dL_law_1843 ki_2 rfl ?_
    refine f_iadd (M := mL_law) 1845 dL_law_1844 rfl ?_
    refine e_iaf (M := mL_law) (w := Lw) (f := xs) (j := (7 * N) + (2)) dL_law_1845 (x_kk rfl) rfl (ix_add rfl kn_2) (by omega) (by omega) ?_
    refine f_aload_n (M := mL_law) 1847 dL_law_1846 rfl rfl ?_
    refine e_cS (M := mL_law) [_] (c + 4) (k + 24) dL_law_1847 pa_10255 cc_10255 rfl rfl rfl rfl rfl (show c + 4 ≤ 601024 by omega) (show k + 24 ≤ 7293034 by omega) rfl (h1) rfl ?_
    refine f_istore (M := mL_law) (ls' := [_, _, _, _, _, _, _, _]) 1852 dL_law_1850 rfl rfl rfl ?_
    refine f_aload_n (M := mL_law) 1853 dL_law_1852 rfl rfl ?_
    refine f_aload_n (M := mL_law) 1854 dL_law_1853 rfl rfl ?_
    refine f_iload (M := mL_law) 1856 dL_law_1854 rfl rfl ?_
    refine f_iconst (M := mL_law) 1857 dL_law_1856 ki_1 rfl ?_
    refine f_iadd (M := mL_law) 1858 dL_law_1857 rfl ?_
    refine e_iaf (M := mL_law) (w := Lw) (f := xs) (j := (7 * N) + (1)) dL_law_1858 (x_kk rfl) rfl (ix_add rfl kn_1) (by omega) (by omega) ?_
    refine f_aload_n (M := mL_law) 1860 dL_law_1859 rfl rfl ?_
    refine f_iload (M := mL_law) 1862 dL_law_1860 rfl rfl ?_
    refine f_iconst (M := mL_law) 1863 dL_law_1862 ki_2 rfl ?_
    refine f_iadd (M := mL_law) 1864 dL_law_1863 rfl ?_
    refine e_iaf (M := mL_law) (w := Lw) (f := xs) (j := (7 * N) + (2)) dL_law_1864 (x_kk rfl) rfl (ix_add rfl kn_2) (by omega) (by omega) ?_
    refine e_cV (M := mL_law) [_] (c + 4) (k + 24) dL_law_1865 pa_10257 pb_10257 cc_10257 rfl rfl rfl rfl rfl (show c + 4 ≤ 601024 by omega) (show k + 24 ≤ 7293034 by omega) rfl (h2) rfl ?_
    refine f_istore (M := mL_law) (ls' := [_, _, _, _, _, _, _, _]) 1870 dL_law_1868 rfl rfl rfl ?_
    refine f_aload_n (M := mL_law) 1871 dL_law_1870 rfl rfl ?_
    refine e_cV (M := mL_law) [_] (c + 4) (k + 24) dL_law_1871 pa_10163 pb_10163 cc_10163 rfl rfl rfl rfl rfl (show c + 4 ≤ 601024 by omega) (show k + 24 ≤ 7293034 by omega) rfl (c_X9_thrown) rfl ?_
    refine f_iload (M := mL_law) 1876 dL_law_1874 rfl rfl ?_
    refine e_icmp_eqT (M := mL_law) 1881 dL_law_1876 rfl ht ?_
    refine f_iload (M := mL_law) 1883 dL_law_1881 rfl rfl ?_
    refine e_if_neF (M := mL_law) 1898 dL_law_1883 rfl (fun q => q z) ?_
    refine f_aload_n (M := mL_law) 1887 dL_law_1886 rfl rfl ?_
    refine f_iconst (M := mL_law) 1888 dL_law_1887 ki_0 rfl ?_
    refine e_lld (M := mL_law) (w := 1) (j := 0) dL_law_1888 (x_kk rfl) rfl kn_0 (by omega) (by omega) ?_
    refine f_iload (M := mL_law) 1891 dL_law_1889 rfl rfl ?_
    refine f_i2l (M := mL_law) 1892 dL_law_1891 rfl ?_
    refine f_lcmp (M := mL_law) 1893 dL_law_1892 rfl ?_
    refine e_if_eqT (M := mL_law) 1898 dL_law_1893 rfl (lc_eq.mpr (hv z)) ?_
    refine f_goto (M := mL_law) 2888 dL_law_1898 rfl ?_
    refine f_iinc (M := mL_law) (ls' := [_, _, _, _, _, _, _, _]) 2891 dL_law_2888 ki_7 rfl rfl rfl rfl ?_
    refine f_goto (M := mL_law) 23 dL_law_2891 rfl ?_
    rw [show Int32.ofNat (7 * N) + 7 = Int32.ofNat (7 * (N + 1)) from ix_add rfl kn_7]; exact hr
  · refine ⟨I2, L2, R1, some (.int k0), some (.int v), w7, c + 4, k + 24, T2, by omega, by omega, fun r hr => ?_⟩
    refine e_tsI (j := 27) (off := 1793) 1833 dL_law_40 rfl (by rw [hx]; decide) (by decide) rfl rfl ?_
    refine f_aload_n (M := mL_law) 1834 dL_law_1833 rfl rfl ?_
    refine f_aload_n (M := mL_law) 1835 dL_law_1834 rfl rfl ?_
    refine f_iload (M := mL_law) 1837 dL_law_1835 rfl rfl ?_
    refine f_iconst (M := mL_law) 1838 dL_law_1837 ki_1 rfl ?_
    refine f_iadd (M := mL_law) 1839 dL_law_1838 rfl ?_
    refine e_iaf (M := mL_law) (w := Lw) (f := xs) (j := (7 * N) + (1)) dL_law_1839 (x_kk rfl) rfl (ix_add rfl kn_1) (by omega) (by omega) ?_
    refine f_aload_n (M := mL_law) 1841 dL_law_1840 rfl rfl ?_
    refine f_iload (M := mL_law) 1843 dL_law_1841 rfl rfl ?_
    refine f_iconst (M := mL_law) 1844 dL_law_1843 ki_2 rfl ?_
    refine f_iadd (M := mL_law) 1845 dL_law_1844 rfl ?_
    refine e_iaf (M := mL_law) (w := Lw) (f := xs) (j := (7 * N) + (2)) dL_law_1845 (x_kk rfl) rfl (ix_add rfl kn_2) (by omega) (by omega) ?_
    refine f_aload_n (M := mL_law) 1847 dL_law_1846 rfl rfl ?_
    refine e_cS (M := mL_law) [_] (c + 4) (k + 24) dL_law_1847 pa_10255 cc_10255 rfl rfl rfl rfl rfl (show c + 4 ≤ 601024 by omega) (show k + 24 ≤ 7293034 by omega) rfl (h1) rfl ?_
    refine f_istore (M := mL_law) (ls' := [_, _, _, _, _, _, _, _]) 1852 dL_law_1850 rfl rfl rfl ?_
    refine f_aload_n (M := mL_law) 1853 dL_law_1852 rfl rfl ?_
    refine f_aload_n (M := mL_law) 1854 dL_law_1853 rfl rfl ?_
    refine f_iload (M := mL_law) 1856 dL_law_1854 rfl rfl ?_
    refine f_iconst (M := mL_law) 1857 dL_law_1856 ki_1 rfl ?_
    refine f_iadd (M := mL_law) 1858 dL_law_1857 rfl ?_
    refine e_iaf (M := mL_law) (w := Lw) (f := xs) (j := (7 * N) + (1)) dL_law_1858 (x_kk rfl) rfl (ix_add rfl kn_1) (by omega) (by omega) ?_
    refine f_aload_n (M := mL_law) 1860 dL_law_1859 rfl rfl ?_
    refine f_iload (M := mL_law) 1862 dL_law_1860 rfl rfl ?_
    refine f_iconst (M := mL_law) 1863 dL_law_1862 ki_2 rfl ?_
    refine f_iadd (M := mL_law) 1864 dL_law_1863 rfl ?_
    refine e_iaf (M := mL_law) (w := Lw) (f := xs) (j := (7 * N) + (2)) dL_law_1864 (x_kk rfl) rfl (ix_add rfl kn_2) (by omega) (by omega) ?_
    refine e_cV (M := mL_law) [_] (c + 4) (k + 24) dL_law_1865 pa_10257 pb_10257 cc_10257 rfl rfl rfl rfl rfl (show c + 4 ≤ 601024 by omega) (show k + 24 ≤ 7293034 by omega) rfl (h2) rfl ?_
    refine f_istore (M := mL_law) (ls' := [_, _, _, _, _, _, _, _]) 1870 dL_law_1868 rfl rfl rfl ?_
    refine f_aload_n (M := mL_law) 1871 dL_law_1870 rfl rfl ?_
    refine e_cV (M := mL_law) [_] (c + 4) (k + 24) dL_law_1871 pa_10163 pb_10163 cc_10163 rfl rfl rfl rfl rfl (show c + 4 ≤ 601024 by omega) (show k + 24 ≤ 7293034 by omega) rfl (c_X9_thrown) rfl ?_
    refine f_iload (M := mL_law) 1876 dL_law_1874 rfl rfl ?_
    refine e_icmp_eqT (M := mL_law) 1881 dL_law_1876 rfl ht ?_
    refine f_iload (M := mL_law) 1883 dL_law_1881 rfl rfl ?_
    refine e_if_neT (M := mL_law) 1898 dL_law_1883 rfl z ?_
    refine f_goto (M := mL_law) 2888 dL_law_1898 rfl ?_
    refine f_iinc (M := mL_law) (ls' := [_, _, _, _, _, _, _, _]) 2891 dL_law_2888 ki_7 rfl rfl rfl rfl ?_
    refine f_goto (M := mL_law) 23 dL_law_2891 rfl ?_
    rw [show Int32.ofNat (7 * N) + 7 = Int32.ofNat (7 * (N + 1)) from ix_add rfl kn_7]; exact hr
theorem lk_28 (hlen : 7 * N + 7 ≤ Lw) (hLw : Lw ≤ 3584) (T : y_T N I L R) (hN : N < 512) (hc : c ≤ 233 + 4 * N) (hk : k ≤ 14655 + 24 * N) (hx : xs (7 * N) &&& 63 = Int32.ofNat 28) : y_Nx Lw xs N I L R c k w5 w6 w7 := by
  have sm : y_OI N (Lw, xs) mL_scale [.ref 0, .int (xs (7 * N + 1)), .int (xs (7 * N + 2)), .int (xs (7 * N + 3)), .ref 232] mX9_scale [.ref 225, .int (xs (7 * N + 1)), .int (xs (7 * N + 2)), .int (xs (7 * N + 3))] I L R := sim_scale (X := (Lw, xs)) T
  obtain ⟨k0, I1, L1, R1, v, I2, L2, h1, h2, ht, hv, T2⟩ := sm
  by_cases z : k0 = 0
  · refine ⟨I2, L2, R1, some (.int k0), some (.int v), w7, c + 3, k + 18, T2, by omega, by omega, fun r hr => ?_⟩
    refine e_tsI (j := 28) (off := 1861) 1901 dL_law_40 rfl (by rw [hx]; decide) (by decide) rfl rfl ?_
    refine f_aload_n (M := mL_law) 1902 dL_law_1901 rfl rfl ?_
    refine f_aload_n (M := mL_law) 1903 dL_law_1902 rfl rfl ?_
    refine f_iload (M := mL_law) 1905 dL_law_1903 rfl rfl ?_
    refine f_iconst (M := mL_law) 1906 dL_law_1905 ki_1 rfl ?_
    refine f_iadd (M := mL_law) 1907 dL_law_1906 rfl ?_
    refine e_iaf (M := mL_law) (w := Lw) (f := xs) (j := (7 * N) + (1)) dL_law_1907 (x_kk rfl) rfl (ix_add rfl kn_1) (by omega) (by omega) ?_
    refine f_aload_n (M := mL_law) 1909 dL_law_1908 rfl rfl ?_
    refine f_iload (M := mL_law) 1911 dL_law_1909 rfl rfl ?_
    refine f_iconst (M := mL_law) 1912 dL_law_1911 ki_2 rfl ?_
    refine f_iadd (M := mL_law) 1913 dL_law_1912 rfl ?_
    refine e_iaf (M := mL_law) (w := Lw) (f := xs) (j := (7 * N) + (2)) dL_law_1913 (x_kk rfl) rfl (ix_add rfl kn_2) (by omega) (by omega) ?_
    refine f_aload_n (M := mL_law) 1915 dL_law_1914 rfl rfl ?_
    refine f_iload (M := mL_law) 1917 dL_law_1915 rfl rfl ?_
    refine f_iconst (M := mL_law) 1918 dL_law_1917 ki_3 rfl ?_
    refine f_iadd (M := mL_law) 1919 dL_law_1918 rfl ?_
    refine e_iaf (M := mL_law) (w := Lw) (f := xs) (j := (7 * N) + (3)) dL_law_1919 (x_kk rfl) rfl (ix_add rfl kn_3) (by omega) (by omega) ?_
    refine f_aload_n (M := mL_law) 1921 dL_law_1920 rfl rfl ?_
    refine e_cS (M := mL_law) [_] (c + 3) (k + 18) dL_law_1921 pa_10258 cc_10258 rfl rfl rfl rfl rfl (show c + 3 ≤ 601024 by omega) (show k + 18 ≤ 7293034 by omega) rfl (h1) rfl ?_
    refine f_istore (M := mL_law) (ls' := [_, _, _, _, _, _, _, _]) 1926 dL_law_1924 rfl rfl rfl ?_
    refine f_aload_n (M := mL_law) 1927 dL_law_1926 rfl rfl ?_
    refine f_aload_n (M := mL_law) 1928 dL_law_1927 rfl rfl ?_
    refine f_iload (M := mL_law) 1930 dL_law_1928 rfl rfl ?_
    refine f_iconst (M := mL_law) 1931 dL_law_1930 ki_1 rfl ?_
    refine f_iadd (M := mL_law) 1932 dL_law_1931 rfl ?_
    refine e_iaf (M := mL_law) (w := Lw) (f := xs) (j := (7 * N) + (1)) dL_law_1932 (x_kk rfl) rfl (ix_add rfl kn_1) (by omega) (by omega) ?_
    refine f_aload_n (M := mL_law) 1934 dL_law_1933 rfl rfl ?_
    refine f_iload (M := mL_law) 1936 dL_law_1934 rfl rfl ?_
    refine f_iconst (M := mL_law) 1937 dL_law_1936 ki_2 rfl ?_
    refine f_iadd (M := mL_law) 1938 dL_law_1937 rfl ?_
    refine e_iaf (M := mL_law) (w := Lw) (f := xs) (j := (7 * N) + (2)) dL_law_1938 (x_kk rfl) rfl (ix_add rfl kn_2) (by omega) (by omega) ?_
    refine f_aload_n (M := mL_law) 1940 dL_law_1939 rfl rfl ?_
    refine f_iload (M := mL_law) 1942 dL_law_1940 rfl rfl ?_
    refine f_iconst (M := mL_law) 1943 dL_law_1942 ki_3 rfl ?_
    refine f_iadd (M := mL_law) 1944 dL_law_1943 rfl ?_
    refine e_iaf (M := mL_law) (w := Lw) (f := xs) (j := (7 * N) + (3)) dL_law_1944 (x_kk rfl) rfl (ix_add rfl kn_3) (by omega) (by omega) ?_
    refine e_cV (M := mL_law) [_] (c + 3) (k + 18) dL_law_1945 pa_10260 pb_10260 cc_10260 rfl rfl rfl rfl rfl (show c + 3 ≤ 601024 by omega) (show k + 18 ≤ 7293034 by omega) rfl (h2) rfl ?_
    refine f_istore (M := mL_law) (ls' := [_, _, _, _, _, _, _, _]) 1950 dL_law_1948 rfl rfl rfl ?_
    refine f_aload_n (M := mL_law) 1951 dL_law_1950 rfl rfl ?_
    refine e_cV (M := mL_law) [_] (c + 3) (k + 18) dL_law_1951 pa_10163 pb_10163 cc_10163 rfl rfl rfl rfl rfl (show c + 3 ≤ 601024 by omega) (show k + 18 ≤ 7293034 by omega) rfl (c_X9_thrown) rfl ?_
    refine f_iload (M := mL_law) 1956 dL_law_1954 rfl rfl ?_
    refine e_icmp_eqT (M := mL_law) 1961 dL_law_1956 rfl ht ?_
    refine f_iload (M := mL_law) 1963 dL_law_1961 rfl rfl ?_
    refine e_if_neF (M := mL_law) 1978 dL_law_1963 rfl (fun q => q z) ?_
    refine f_aload_n (M := mL_law) 1967 dL_law_1966 rfl rfl ?_
    refine f_iconst (M := mL_law) 1968 dL_law_1967 ki_0 rfl ?_
    refine e_lld (M := mL_law) (w := 1) (j := 0) dL_law_1968 (x_kk rfl) rfl kn_0 (by omega) (by omega) ?_
    refine f_iload (M := mL_law) 1971 dL_law_1969 rfl rfl ?_
    refine f_i2l (M := mL_law) 1972 dL_law_1971 rfl ?_
    refine f_lcmp (M := mL_law) 1973 dL_law_1972 rfl ?_
    refine e_if_eqT (M := mL_law) 1978 dL_law_1973 rfl (lc_eq.mpr (hv z)) ?_
    refine f_goto (M := mL_law) 2888 dL_law_1978 rfl ?_
    refine f_iinc (M := mL_law) (ls' := [_, _, _, _, _, _, _, _]) 2891 dL_law_2888 ki_7 rfl rfl rfl rfl ?_
    refine f_goto (M := mL_law) 23 dL_law_2891 rfl ?_
    rw [show Int32.ofNat (7 * N) + 7 = Int32.ofNat (7 * (N + 1)) from ix_add rfl kn_7]; exact hr
  · refine ⟨I2, L2, R1, some (.int k0), some (.int v), w7, c + 3, k + 18, T2, by omega, by omega, fun r hr => ?_⟩
    refine e_tsI (j := 28) (off := 1861) 1901 dL_law_40 rfl (by rw [hx]; decide) (by decide) rfl rfl ?_
    refine f_aload_n (M := mL_law) 1902 dL_law_1901 rfl rfl ?_
    refine f_aload_n (M := mL_law) 1903 dL_law_1902 rfl rfl ?_
    refine f_iload (M := mL_law) 1905 dL_law_1903 rfl rfl ?_
    refine f_iconst (M := mL_law) 1906 dL_law_1905 ki_1 rfl ?_
    refine f_iadd (M := mL_law) 1907 dL_law_1906 rfl ?_
    refine e_iaf (M := mL_law) (w := Lw) (f := xs) (j := (7 * N) + (1)) dL_law_1907 (x_kk rfl) rfl (ix_add rfl kn_1) (by omega) (by omega) ?_
    refine f_aload_n (M := mL_law) 1909 dL_law_1908 rfl rfl ?_
    refine f_iload (M := mL_law) 1911 dL_law_1909 rfl rfl ?_
    refine f_iconst (M := mL_law) 1912 dL_law_1911 ki_2 rfl ?_
    refine f_iadd (M := mL_law) 1913 dL_law_1912 rfl ?_
    refine e_iaf (M := mL_law) (w := Lw) (f := xs) (j := (7 * N) + (2)) dL_law_1913 (x_kk rfl) rfl (ix_add rfl kn_2) (by omega) (by omega) ?_
    refine f_aload_n (M := mL_law) 1915 dL_law_1914 rfl rfl ?_
    refine f_iload (M := mL_law) 1917 dL_law_1915 rfl rfl ?_
    refine f_iconst (M := mL_law) 1918 dL_law_1917 ki_3 rfl ?_
    refine f_iadd (M := mL_law) 1919 dL_law_1918 rfl ?_
    refine e_iaf (M := mL_law) (w := Lw) (f := xs) (j := (7 * N) + (3)) dL_law_1919 (x_kk rfl) rfl (ix_add rfl kn_3) (by omega) (by omega) ?_
    refine f_aload_n (M := mL_law) 1921 dL_law_1920 rfl rfl ?_
    refine e_cS (M := mL_law) [_] (c + 3) (k + 18) dL_law_1921 pa_10258 cc_10258 rfl rfl rfl rfl rfl (show c + 3 ≤ 601024 by omega) (show k + 18 ≤ 7293034 by omega) rfl (h1) rfl ?_
    refine f_istore (M := mL_law) (ls' := [_, _, _, _, _, _, _, _]) 1926 dL_law_1924 rfl rfl rfl ?_
    refine f_aload_n (M := mL_law) 1927 dL_law_1926 rfl rfl ?_
    refine f_aload_n (M := mL_law) 1928 dL_law_1927 rfl rfl ?_
    refine f_iload (M := mL_law) 1930 dL_law_1928 rfl rfl ?_
    refine f_iconst (M := mL_law) 1931 dL_law_1930 ki_1 rfl ?_
    refine f_iadd (M := mL_law) 1932 dL_law_1931 rfl ?_
    refine e_iaf (M := mL_law) (w := Lw) (f := xs) (j := (7 * N) + (1)) dL_law_1932 (x_kk rfl) rfl (ix_add rfl kn_1) (by omega) (by omega) ?_
    refine f_aload_n (M := mL_law) 1934 dL_law_1933 rfl rfl ?_
    refine f_iload (M := mL_law) 1936 dL_law_1934 rfl rfl ?_
    refine f_iconst (M := mL_law) 1937 dL_law_1936 ki_2 rfl ?_
    refine f_iadd (M := mL_law) 1938 dL_law_1937 rfl ?_
    refine e_iaf (M := mL_law) (w := Lw) (f := xs) (j := (7 * N) + (2)) dL_law_1938 (x_kk rfl) rfl (ix_add rfl kn_2) (by omega) (by omega) ?_
    refine f_aload_n (M := mL_law) 1940 dL_law_1939 rfl rfl ?_
    refine f_iload (M := mL_law) 1942 dL_law_1940 rfl rfl ?_
    refine f_iconst (M := mL_law) 1943 dL_law_1942 ki_3 rfl ?_
    refine f_iadd (M := mL_law) 1944 dL_law_1943 rfl ?_
    refine e_iaf (M := mL_law) (w := Lw) (f := xs) (j := (7 * N) + (3)) dL_law_1944 (x_kk rfl) rfl (ix_add rfl kn_3) (by omega) (by omega) ?_
    refine e_cV (M := mL_law) [_] (c + 3) (k + 18) dL_law_1945 pa_10260 pb_10260 cc_10260 rfl rfl rfl rfl rfl (show c + 3 ≤ 601024 by omega) (show k + 18 ≤ 7293034 by omega) rfl (h2) rfl ?_
    refine f_istore (M := mL_law) (ls' := [_, _, _, _, _, _, _, _]) 1950 dL_law_1948 rfl rfl rfl ?_
    refine f_aload_n (M := mL_law) 1951 dL_law_1950 rfl rfl ?_
    refine e_cV (M := mL_law) [_] (c + 3) (k + 18) dL_law_1951 pa_10163 pb_10163 cc_10163 rfl rfl rfl rfl rfl (show c + 3 ≤ 601024 by omega) (show k + 18 ≤ 7293034 by omega) rfl (c_X9_thrown) rfl ?_
    refine f_iload (M := mL_law) 1956 dL_law_1954 rfl rfl ?_
    refine e_icmp_eqT (M := mL_law) 1961 dL_law_1956 rfl ht ?_
    refine f_iload (M := mL_law) 1963 dL_law_1961 rfl rfl ?_
    refine e_if_neT (M := mL_law) 1978 dL_law_1963 rfl z ?_
    refine f_goto (M := mL_law) 2888 dL_law_1978 rfl ?_
    refine f_iinc (M := mL_law) (ls' := [_, _, _, _, _, _, _, _]) 2891 dL_law_2888 ki_7 rfl rfl rfl rfl ?_
    refine f_goto (M := mL_law) 23 dL_law_2891 rfl ?_
    rw [show Int32.ofNat (7 * N) + 7 = Int32.ofNat (7 * (N + 1)) from ix_add rfl kn_7]; exact hr
theorem lk_29 (hlen : 7 * N + 7 ≤ Lw) (hLw : Lw ≤ 3584) (T : y_T N I L R) (hN : N < 512) (hc : c ≤ 233 + 4 * N) (hk : k ≤ 14655 + 24 * N) (hx : xs (7 * N) &&& 63 = Int32.ofNat 29) : y_Nx Lw xs N I L R c k w5 w6 w7 := by
  have sm : y_OI N (Lw, xs) mL_check [.ref 0, .int (xs (7 * N + 1)), .int (xs (7 * N + 2)), .int (xs (7 * N + 3)), .ref 232] mX9_check [.ref 225, .int (xs (7 * N + 1)), .int (xs (7 * N + 2)), .int (xs (7 * N + 3))] I L R := sim_check (X := (Lw, xs)) T
  obtain ⟨k0, I1, L1, R1, v, I2, L2, h1, h2, ht, hv, T2⟩ := sm
  by_cases z : k0 = 0
  · refine ⟨I2, L2, R1, some (.int k0), some (.int v), w7, c + 3, k + 18, T2, by omega, by omega, fun r hr => ?_⟩
    refine e_tsI (j := 29) (off := 1941) 1981 dL_law_40 rfl (by rw [hx]; decide) (by decide) rfl rfl ?_
    refine f_aload_n (M := mL_law) 1982 dL_law_1981 rfl rfl ?_
    refine f_aload_n (M := mL_law) 1983 dL_law_1982 rfl rfl ?_
    refine f_iload (M := mL_law) 1985 dL_law_1983 rfl rfl ?_
    refine f_iconst (M := mL_law) 1986 dL_law_1985 ki_1 rfl ?_
    refine f_iadd (M := mL_law) 1987 dL_law_1986 rfl ?_
    refine e_iaf (M := mL_law) (w := Lw) (f := xs) (j := (7 * N) + (1)) dL_law_1987 (x_kk rfl) rfl (ix_add rfl kn_1) (by omega) (by omega) ?_
    refine f_aload_n (M := mL_law) 1989 dL_law_1988 rfl rfl ?_
    refine f_iload (M := mL_law) 1991 dL_law_1989 rfl rfl ?_
    refine f_iconst (M := mL_law) 1992 dL_law_1991 ki_2 rfl ?_
    refine f_iadd (M := mL_law) 1993 dL_law_1992 rfl ?_
    refine e_iaf (M := mL_law) (w := Lw) (f := xs) (j := (7 * N) + (2)) dL_law_1993 (x_kk rfl) rfl (ix_add rfl kn_2) (by omega) (by omega) ?_
    refine f_aload_n (M := mL_law) 1995 dL_law_1994 rfl rfl ?_
    refine f_iload (M := mL_law) 1997 dL_law_1995 rfl rfl ?_
    refine f_iconst (M := mL_law) 1998 dL_law_1997 ki_3 rfl ?_
    refine f_iadd (M := mL_law) 1999 dL_law_1998 rfl ?_
    refine e_iaf (M := mL_law) (w := Lw) (f := xs) (j := (7 * N) + (3)) dL_law_1999 (x_kk rfl) rfl (ix_add rfl kn_3) (by omega) (by omega) ?_
    refine f_aload_n (M := mL_law) 2001 dL_law_2000 rfl rfl ?_
    refine e_cS (M := mL_law) [_] (c + 3) (k + 18) dL_law_2001 pa_10261 cc_10261 rfl rfl rfl rfl rfl (show c + 3 ≤ 601024 by omega) (show k + 18 ≤ 7293034 by omega) rfl (h1) rfl ?_
    refine f_istore (M := mL_law) (ls' := [_, _, _, _, _, _, _, _]) 2006 dL_law_2004 rfl rfl rfl ?_
    refine f_aload_n (M := mL_law) 2007 dL_law_2006 rfl rfl ?_
    refine f_aload_n (M := mL_law) 2008 dL_law_2007 rfl rfl ?_
    refine f_iload (M := mL_law) 2010 dL_law_2008 rfl rfl ?_
    refine f_iconst (M := mL_law) 2011 dL_law_2010 ki_1 rfl ?_
    refine f_iadd (M := mL_law) 2012 dL_law_2011 rfl ?_
    refine e_iaf (M := mL_law) (w := Lw) (f := xs) (j := (7 * N) + (1)) dL_law_2012 (x_kk rfl) rfl (ix_add rfl kn_1) (by omega) (by omega) ?_
    refine f_aload_n (M := mL_law) 2014 dL_law_2013 rfl rfl ?_
    refine f_iload (M := mL_law) 2016 dL_law_2014 rfl rfl ?_
    refine f_iconst (M := mL_law) 2017 dL_law_2016 ki_2 rfl ?_
    refine f_iadd (M := mL_law) 2018 dL_law_2017 rfl ?_
    refine e_iaf (M := mL_law) (w := Lw) (f := xs) (j := (7 * N) + (2)) dL_law_2018 (x_kk rfl) rfl (ix_add rfl kn_2) (by omega) (by omega) ?_
    refine f_aload_n (M := mL_law) 2020 dL_law_2019 rfl rfl ?_
    refine f_iload (M := mL_law) 2022 dL_law_2020 rfl rfl ?_
    refine f_iconst (M := mL_law) 2023 dL_law_2022 ki_3 rfl ?_
    refine f_iadd (M := mL_law) 2024 dL_law_2023 rfl ?_
    refine e_iaf (M := mL_law) (w := Lw) (f := xs) (j := (7 * N) + (3)) dL_law_2024 (x_kk rfl) rfl (ix_add rfl kn_3) (by omega) (by omega) ?_
    refine e_cV (M := mL_law) [_] (c + 3) (k + 18) dL_law_2025 pa_10263 pb_10263 cc_10263 rfl rfl rfl rfl rfl (show c + 3 ≤ 601024 by omega) (show k + 18 ≤ 7293034 by omega) rfl (h2) rfl ?_
    refine f_istore (M := mL_law) (ls' := [_, _, _, _, _, _, _, _]) 2030 dL_law_2028 rfl rfl rfl ?_
    refine f_aload_n (M := mL_law) 2031 dL_law_2030 rfl rfl ?_
    refine e_cV (M := mL_law) [_] (c + 3) (k + 18) dL_law_2031 pa_10163 pb_10163 cc_10163 rfl rfl rfl rfl rfl (show c + 3 ≤ 601024 by omega) (show k + 18 ≤ 7293034 by omega) rfl (c_X9_thrown) rfl ?_
    refine f_iload (M := mL_law) 2036 dL_law_2034 rfl rfl ?_
    refine e_icmp_eqT (M := mL_law) 2041 dL_law_2036 rfl ht ?_
    refine f_iload (M := mL_law) 2043 dL_law_2041 rfl rfl ?_
    refine e_if_neF (M := mL_law) 2058 dL_law_2043 rfl (fun q => q z) ?_
    refine f_aload_n (M := mL_law) 2047 dL_law_2046 rfl rfl ?_
    refine f_iconst (M := mL_law) 2048 dL_law_2047 ki_0 rfl ?_
    refine e_lld (M := mL_law) (w := 1) (j := 0) dL_law_2048 (x_kk rfl) rfl kn_0 (by omega) (by omega) ?_
    refine f_iload (M := mL_law) 2051 dL_law_2049 rfl rfl ?_
    refine f_i2l (M := mL_law) 2052 dL_law_2051 rfl ?_
    refine f_lcmp (M := mL_law) 2053 dL_law_2052 rfl ?_
    refine e_if_eqT (M := mL_law) 2058 dL_law_2053 rfl (lc_eq.mpr (hv z)) ?_
    refine f_goto (M := mL_law) 2888 dL_law_2058 rfl ?_
    refine f_iinc (M := mL_law) (ls' := [_, _, _, _, _, _, _, _]) 2891 dL_law_2888 ki_7 rfl rfl rfl rfl ?_
    refine f_goto (M := mL_law) 23 dL_law_2891 rfl ?_
    rw [show Int32.ofNat (7 * N) + 7 = Int32.ofNat (7 * (N + 1)) from ix_add rfl kn_7]; exact hr
  · refine ⟨I2, L2, R1, some (.int k0), some (.int v), w7, c + 3, k + 18, T2, by omega, by omega, fun r hr => ?_⟩
    refine e_tsI (j := 29) (off := 1941) 1981 dL_law_40 rfl (by rw [hx]; decide) (by decide) rfl rfl ?_
    refine f_aload_n (M := mL_law) 1982 dL_law_1981 rfl rfl ?_
    refine f_aload_n (M := mL_law) 1983 dL_law_1982 rfl rfl ?_
    refine f_iload (M := mL_law) 1985 dL_law_1983 rfl rfl ?_
    refine f_iconst (M := mL_law) 1986 dL_law_1985 ki_1 rfl ?_
    refine f_iadd (M := mL_law) 1987 dL_law_1986 rfl ?_
    refine e_iaf (M := mL_law) (w := Lw) (f := xs) (j := (7 * N) + (1)) dL_law_1987 (x_kk rfl) rfl (ix_add rfl kn_1) (by omega) (by omega) ?_
    refine f_aload_n (M := mL_law) 1989 dL_law_1988 rfl rfl ?_
    refine f_iload (M := mL_law) 1991 dL_law_1989 rfl rfl ?_
    refine f_iconst (M := mL_law) 1992 dL_law_1991 ki_2 rfl ?_
    refine f_iadd (M := mL_law) 1993 dL_law_1992 rfl ?_
    refine e_iaf (M := mL_law) (w := Lw) (f := xs) (j := (7 * N) + (2)) dL_law_1993 (x_kk rfl) rfl (ix_add rfl kn_2) (by omega) (by omega) ?_
    refine f_aload_n (M := mL_law) 1995 dL_law_1994 rfl rfl ?_
    refine f_iload (M := mL_law) 1997 dL_law_1995 rfl rfl ?_
    refine f_iconst (M := mL_law) 1998 dL_law_1997 ki_3 rfl ?_
    refine f_iadd (M := mL_law) 1999 dL_law_1998 rfl ?_
    refine e_iaf (M := mL_law) (w := Lw) (f := xs) (j := (7 * N) + (3)) dL_law_1999 (x_kk rfl) rfl (ix_add rfl kn_3) (by omega) (by omega) ?_
    refine f_aload_n (M := mL_law) 2001 dL_law_2000 rfl rfl ?_
    refine e_cS (M := mL_law) [_] (c + 3) (k + 18) dL_law_2001 pa_10261 cc_10261 rfl rfl rfl rfl rfl (show c + 3 ≤ 601024 by omega) (show k + 18 ≤ 7293034 by omega) rfl (h1) rfl ?_
    refine f_istore (M := mL_law) (ls' := [_, _, _, _, _, _, _, _]) 2006 dL_law_2004 rfl rfl rfl ?_
    refine f_aload_n (M := mL_law) 2007 dL_law_2006 rfl rfl ?_
    refine f_aload_n (M := mL_law) 2008 dL_law_2007 rfl rfl ?_
    refine f_iload (M := mL_law) 2010 dL_law_2008 rfl rfl ?_
    refine f_iconst (M := mL_law) 2011 dL_law_2010 ki_1 rfl ?_
    refine f_iadd (M := mL_law) 2012 dL_law_2011 rfl ?_
    refine e_iaf (M := mL_law) (w := Lw) (f := xs) (j := (7 * N) + (1)) dL_law_2012 (x_kk rfl) rfl (ix_add rfl kn_1) (by omega) (by omega) ?_
    refine f_aload_n (M := mL_law) 2014 dL_law_2013 rfl rfl ?_
    refine f_iload (M := mL_law) 2016 dL_law_2014 rfl rfl ?_
    refine f_iconst (M := mL_law) 2017 dL_law_2016 ki_2 rfl ?_
    refine f_iadd (M := mL_law) 2018 dL_law_2017 rfl ?_
    refine e_iaf (M := mL_law) (w := Lw) (f := xs) (j := (7 * N) + (2)) dL_law_2018 (x_kk rfl) rfl (ix_add rfl kn_2) (by omega) (by omega) ?_
    refine f_aload_n (M := mL_law) 2020 dL_law_2019 rfl rfl ?_
    refine f_iload (M := mL_law) 2022 dL_law_2020 rfl rfl ?_
    refine f_iconst (M := mL_law) 2023 dL_law_2022 ki_3 rfl ?_
    refine f_iadd (M := mL_law) 2024 dL_law_2023 rfl ?_
    refine e_iaf (M := mL_law) (w := Lw) (f := xs) (j := (7 * N) + (3)) dL_law_2024 (x_kk rfl) rfl (ix_add rfl kn_3) (by omega) (by omega) ?_
    refine e_cV (M := mL_law) [_] (c + 3) (k + 18) dL_law_2025 pa_10263 pb_10263 cc_10263 rfl rfl rfl rfl rfl (show c + 3 ≤ 601024 by omega) (show k + 18 ≤ 7293034 by omega) rfl (h2) rfl ?_
    refine f_istore (M := mL_law) (ls' := [_, _, _, _, _, _, _, _]) 2030 dL_law_2028 rfl rfl rfl ?_
    refine f_aload_n (M := mL_law) 2031 dL_law_2030 rfl rfl ?_
    refine e_cV (M := mL_law) [_] (c + 3) (k + 18) dL_law_2031 pa_10163 pb_10163 cc_10163 rfl rfl rfl rfl rfl (show c + 3 ≤ 601024 by omega) (show k + 18 ≤ 7293034 by omega) rfl (c_X9_thrown) rfl ?_
    refine f_iload (M := mL_law) 2036 dL_law_2034 rfl rfl ?_
    refine e_icmp_eqT (M := mL_law) 2041 dL_law_2036 rfl ht ?_
    refine f_iload (M := mL_law) 2043 dL_law_2041 rfl rfl ?_
    refine e_if_neT (M := mL_law) 2058 dL_law_2043 rfl z ?_
    refine f_goto (M := mL_law) 2888 dL_law_2058 rfl ?_
    refine f_iinc (M := mL_law) (ls' := [_, _, _, _, _, _, _, _]) 2891 dL_law_2888 ki_7 rfl rfl rfl rfl ?_
    refine f_goto (M := mL_law) 23 dL_law_2891 rfl ?_
    rw [show Int32.ofNat (7 * N) + 7 = Int32.ofNat (7 * (N + 1)) from ix_add rfl kn_7]; exact hr
theorem lk_30 (hlen : 7 * N + 7 ≤ Lw) (hLw : Lw ≤ 3584) (T : y_T N I L R) (hN : N < 512) (hc : c ≤ 233 + 4 * N) (hk : k ≤ 14655 + 24 * N) (hx : xs (7 * N) &&& 63 = Int32.ofNat 30) : y_Nx Lw xs N I L R c k w5 w6 w7 := by
  have sm : y_OI N (Lw, xs) mL_voidLoad [.ref 0, .int (xs (7 * N + 1)), .ref 232] mX9_voidLoad [.ref 225, .int (xs (7 * N + 1))] I L R := sim_voidLoad (X := (Lw, xs)) T
  obtain ⟨k0, I1, L1, R1, v, I2, L2, h1, h2, ht, hv, T2⟩ := sm
  by_cases z : k0 = 0
  · refine ⟨I2, L2, R1, some (.int k0), some (.int v), w7, c + 2, k + 12, T2, by omega, by omega, fun r hr => ?_⟩
    refine e_tsI (j := 30) (off := 2021) 2061 dL_law_40 rfl (by rw [hx]; decide) (by decide) rfl rfl ?_
    refine f_aload_n (M := mL_law) 2062 dL_law_2061 rfl rfl ?_
    refine f_aload_n (M := mL_law) 2063 dL_law_2062 rfl rfl ?_
    refine f_iload (M := mL_law) 2065 dL_law_2063 rfl rfl ?_
    refine f_iconst (M := mL_law) 2066 dL_law_2065 ki_1 rfl ?_
    refine f_iadd (M := mL_law) 2067 dL_law_2066 rfl ?_
    refine e_iaf (M := mL_law) (w := Lw) (f := xs) (j := (7 * N) + (1)) dL_law_2067 (x_kk rfl) rfl (ix_add rfl kn_1) (by omega) (by omega) ?_
    refine f_aload_n (M := mL_law) 2069 dL_law_2068 rfl rfl ?_
    refine e_cS (M := mL_law) [_] (c + 2) (k + 12) dL_law_2069 pa_10264 cc_10264 rfl rfl rfl rfl rfl (show c + 2 ≤ 601024 by omega) (show k + 12 ≤ 7293034 by omega) rfl (h1) rfl ?_
    refine f_istore (M := mL_law) (ls' := [_, _, _, _, _, _, _, _]) 2074 dL_law_2072 rfl rfl rfl ?_
    refine f_aload_n (M := mL_law) 2075 dL_law_2074 rfl rfl ?_
    refine f_aload_n (M := mL_law) 2076 dL_law_2075 rfl rfl ?_
    refine f_iload (M := mL_law) 2078 dL_law_2076 rfl rfl ?_
    refine f_iconst (M := mL_law) 2079 dL_law_2078 ki_1 rfl ?_
    refine f_iadd (M := mL_law) 2080 dL_law_2079 rfl ?_
    refine e_iaf (M := mL_law) (w := Lw) (f := xs) (j := (7 * N) + (1)) dL_law_2080 (x_kk rfl) rfl (ix_add rfl kn_1) (by omega) (by omega) ?_
    refine e_cV (M := mL_law) [_] (c + 2) (k + 12) dL_law_2081 pa_10266 pb_10266 cc_10266 rfl rfl rfl rfl rfl (show c + 2 ≤ 601024 by omega) (show k + 12 ≤ 7293034 by omega) rfl (h2) rfl ?_
    refine f_istore (M := mL_law) (ls' := [_, _, _, _, _, _, _, _]) 2086 dL_law_2084 rfl rfl rfl ?_
    refine f_aload_n (M := mL_law) 2087 dL_law_2086 rfl rfl ?_
    refine e_cV (M := mL_law) [_] (c + 2) (k + 12) dL_law_2087 pa_10163 pb_10163 cc_10163 rfl rfl rfl rfl rfl (show c + 2 ≤ 601024 by omega) (show k + 12 ≤ 7293034 by omega) rfl (c_X9_thrown) rfl ?_
    refine f_iload (M := mL_law) 2092 dL_law_2090 rfl rfl ?_
    refine e_icmp_eqT (M := mL_law) 2097 dL_law_2092 rfl ht ?_
    refine f_iload (M := mL_law) 2099 dL_law_2097 rfl rfl ?_
    refine e_if_neF (M := mL_law) 2114 dL_law_2099 rfl (fun q => q z) ?_
    refine f_aload_n (M := mL_law) 2103 dL_law_2102 rfl rfl ?_
    refine f_iconst (M := mL_law) 2104 dL_law_2103 ki_0 rfl ?_
    refine e_lld (M := mL_law) (w := 1) (j := 0) dL_law_2104 (x_kk rfl) rfl kn_0 (by omega) (by omega) ?_
    refine f_iload (M := mL_law) 2107 dL_law_2105 rfl rfl ?_
    refine f_i2l (M := mL_law) 2108 dL_law_2107 rfl ?_
    refine f_lcmp (M := mL_law) 2109 dL_law_2108 rfl ?_
    refine e_if_eqT (M := mL_law) 2114 dL_law_2109 rfl (lc_eq.mpr (hv z)) ?_
    refine f_goto (M := mL_law) 2888 dL_law_2114 rfl ?_
    refine f_iinc (M := mL_law) (ls' := [_, _, _, _, _, _, _, _]) 2891 dL_law_2888 ki_7 rfl rfl rfl rfl ?_
    refine f_goto (M := mL_law) 23 dL_law_2891 rfl ?_
    rw [show Int32.ofNat (7 * N) + 7 = Int32.ofNat (7 * (N + 1)) from ix_add rfl kn_7]; exact hr
  · refine ⟨I2, L2, R1, some (.int k0), some (.int v), w7, c + 2, k + 12, T2, by omega, by omega, fun r hr => ?_⟩
    refine e_tsI (j := 30) (off := 2021) 2061 dL_law_40 rfl (by rw [hx]; decide) (by decide) rfl rfl ?_
    refine f_aload_n (M := mL_law) 2062 dL_law_2061 rfl rfl ?_
    refine f_aload_n (M := mL_law) 2063 dL_law_2062 rfl rfl ?_
    refine f_iload (M := mL_law) 2065 dL_law_2063 rfl rfl ?_
    refine f_iconst (M := mL_law) 2066 dL_law_2065 ki_1 rfl ?_
    refine f_iadd (M := mL_law) 2067 dL_law_2066 rfl ?_
    refine e_iaf (M := mL_law) (w := Lw) (f := xs) (j := (7 * N) + (1)) dL_law_2067 (x_kk rfl) rfl (ix_add rfl kn_1) (by omega) (by omega) ?_
    refine f_aload_n (M := mL_law) 2069 dL_law_2068 rfl rfl ?_
    refine e_cS (M := mL_law) [_] (c + 2) (k + 12) dL_law_2069 pa_10264 cc_10264 rfl rfl rfl rfl rfl (show c + 2 ≤ 601024 by omega) (show k + 12 ≤ 7293034 by omega) rfl (h1) rfl ?_
    refine f_istore (M := mL_law) (ls' := [_, _, _, _, _, _, _, _]) 2074 dL_law_2072 rfl rfl rfl ?_
    refine f_aload_n (M := mL_law) 2075 dL_law_2074 rfl rfl ?_
    refine f_aload_n (M := mL_law) 2076 dL_law_2075 rfl rfl ?_
    refine f_iload (M := mL_law) 2078 dL_law_2076 rfl rfl ?_
    refine f_iconst (M := mL_law) 2079 dL_law_2078 ki_1 rfl ?_
    refine f_iadd (M := mL_law) 2080 dL_law_2079 rfl ?_
    refine e_iaf (M := mL_law) (w := Lw) (f := xs) (j := (7 * N) + (1)) dL_law_2080 (x_kk rfl) rfl (ix_add rfl kn_1) (by omega) (by omega) ?_
    refine e_cV (M := mL_law) [_] (c + 2) (k + 12) dL_law_2081 pa_10266 pb_10266 cc_10266 rfl rfl rfl rfl rfl (show c + 2 ≤ 601024 by omega) (show k + 12 ≤ 7293034 by omega) rfl (h2) rfl ?_
    refine f_istore (M := mL_law) (ls' := [_, _, _, _, _, _, _, _]) 2086 dL_law_2084 rfl rfl rfl ?_
    refine f_aload_n (M := mL_law) 2087 dL_law_2086 rfl rfl ?_
    refine e_cV (M := mL_law) [_] (c + 2) (k + 12) dL_law_2087 pa_10163 pb_10163 cc_10163 rfl rfl rfl rfl rfl (show c + 2 ≤ 601024 by omega) (show k + 12 ≤ 7293034 by omega) rfl (c_X9_thrown) rfl ?_
    refine f_iload (M := mL_law) 2092 dL_law_2090 rfl rfl ?_
    refine e_icmp_eqT (M := mL_law) 2097 dL_law_2092 rfl ht ?_
    refine f_iload (M := mL_law) 2099 dL_law_2097 rfl rfl ?_
    refine e_if_neT (M := mL_law) 2114 dL_law_2099 rfl z ?_
    refine f_goto (M := mL_law) 2888 dL_law_2114 rfl ?_
    refine f_iinc (M := mL_law) (ls' := [_, _, _, _, _, _, _, _]) 2891 dL_law_2888 ki_7 rfl rfl rfl rfl ?_
    refine f_goto (M := mL_law) 23 dL_law_2891 rfl ?_
    rw [show Int32.ofNat (7 * N) + 7 = Int32.ofNat (7 * (N + 1)) from ix_add rfl kn_7]; exact hr
theorem lk_31 (hlen : 7 * N + 7 ≤ Lw) (hLw : Lw ≤ 3584) (T : y_T N I L R) (hN : N < 512) (hc : c ≤ 233 + 4 * N) (hk : k ≤ 14655 + 24 * N) (hx : xs (7 * N) &&& 63 = Int32.ofNat 31) : y_Nx Lw xs N I L R c k w5 w6 w7 := by
  have sm : y_OI N (Lw, xs) mL_worstCheck [.ref 0, .ref 232] mX9_worstCheck [.ref 225] I L R := sim_worstCheck (X := (Lw, xs)) T
  obtain ⟨k0, I1, L1, R1, v, I2, L2, h1, h2, ht, hv, T2⟩ := sm
  by_cases z : k0 = 0
  · refine ⟨I2, L2, R1, some (.int k0), some (.int v), w7, c + 1, k + 6, T2, by omega, by omega, fun r hr => ?_⟩
    refine e_tsI (j := 31) (off := 2077) 2117 dL_law_40 rfl (by rw [hx]; decide) (by decide) rfl rfl ?_
    refine f_aload_n (M := mL_law) 2118 dL_law_2117 rfl rfl ?_
    refine f_aload_n (M := mL_law) 2119 dL_law_2118 rfl rfl ?_
    refine e_cS (M := mL_law) [_] (c + 1) (k + 6) dL_law_2119 pa_10267 cc_10267 rfl rfl rfl rfl rfl (show c + 1 ≤ 601024 by omega) (show k + 6 ≤ 7293034 by omega) rfl (h1) rfl ?_
    refine f_istore (M := mL_law) (ls' := [_, _, _, _, _, _, _, _]) 2124 dL_law_2122 rfl rfl rfl ?_
    refine f_aload_n (M := mL_law) 2125 dL_law_2124 rfl rfl ?_
    refine e_cV (M := mL_law) [_] (c + 1) (k + 6) dL_law_2125 pa_10269 pb_10269 cc_10269 rfl rfl rfl rfl rfl (show c + 1 ≤ 601024 by omega) (show k + 6 ≤ 7293034 by omega) rfl (h2) rfl ?_
    refine f_istore (M := mL_law) (ls' := [_, _, _, _, _, _, _, _]) 2130 dL_law_2128 rfl rfl rfl ?_
    refine f_aload_n (M := mL_law) 2131 dL_law_2130 rfl rfl ?_
    refine e_cV (M := mL_law) [_] (c + 1) (k + 6) dL_law_2131 pa_10163 pb_10163 cc_10163 rfl rfl rfl rfl rfl (show c + 1 ≤ 601024 by omega) (show k + 6 ≤ 7293034 by omega) rfl (c_X9_thrown) rfl ?_
    refine f_iload (M := mL_law) 2136 dL_law_2134 rfl rfl ?_
    refine e_icmp_eqT (M := mL_law) 2141 dL_law_2136 rfl ht ?_
    refine f_iload (M := mL_law) 2143 dL_law_2141 rfl rfl ?_
    refine e_if_neF (M := mL_law) 2158 dL_law_2143 rfl (fun q => q z) ?_
    refine f_aload_n (M := mL_law) 2147 dL_law_2146 rfl rfl ?_
    refine f_iconst (M := mL_law) 2148 dL_law_2147 ki_0 rfl ?_
    refine e_lld (M := mL_law) (w := 1) (j := 0) dL_law_2148 (x_kk rfl) rfl kn_0 (by omega) (by omega) ?_
    refine f_iload (M := mL_law) 2151 dL_law_2149 rfl rfl ?_
    refine f_i2l (M := mL_law) 2152 dL_law_2151 rfl ?_
    refine f_lcmp (M := mL_law) 2153 dL_law_2152 rfl ?_
    refine e_if_eqT (M := mL_law) 2158 dL_law_2153 rfl (lc_eq.mpr (hv z)) ?_
    refine f_goto (M := mL_law) 2888 dL_law_2158 rfl ?_
    refine f_iinc (M := mL_law) (ls' := [_, _, _, _, _, _, _, _]) 2891 dL_law_2888 ki_7 rfl rfl rfl rfl ?_
    refine f_goto (M := mL_law) 23 dL_law_2891 rfl ?_
    rw [show Int32.ofNat (7 * N) + 7 = Int32.ofNat (7 * (N + 1)) from ix_add rfl kn_7]; exact hr
  · refine ⟨I2, L2, R1, some (.int k0), some (.int v), w7, c + 1, k + 6, T2, by omega, by omega, fun r hr => ?_⟩
    refine e_tsI (j := 31) (off := 2077) 2117 dL_law_40 rfl (by rw [hx]; decide) (by decide) rfl rfl ?_
    refine f_aload_n (M := mL_law) 2118 dL_law_2117 rfl rfl ?_
    refine f_aload_n (M := mL_law) 2119 dL_law_2118 rfl rfl ?_
    refine e_cS (M := mL_law) [_] (c + 1) (k + 6) dL_law_2119 pa_10267 cc_10267 rfl rfl rfl rfl rfl (show c + 1 ≤ 601024 by omega) (show k + 6 ≤ 7293034 by omega) rfl (h1) rfl ?_
    refine f_istore (M := mL_law) (ls' := [_, _, _, _, _, _, _, _]) 2124 dL_law_2122 rfl rfl rfl ?_
    refine f_aload_n (M := mL_law) 2125 dL_law_2124 rfl rfl ?_
    refine e_cV (M := mL_law) [_] (c + 1) (k + 6) dL_law_2125 pa_10269 pb_10269 cc_10269 rfl rfl rfl rfl rfl (show c + 1 ≤ 601024 by omega) (show k + 6 ≤ 7293034 by omega) rfl (h2) rfl ?_
    refine f_istore (M := mL_law) (ls' := [_, _, _, _, _, _, _, _]) 2130 dL_law_2128 rfl rfl rfl ?_
    refine f_aload_n (M := mL_law) 2131 dL_law_2130 rfl rfl ?_
    refine e_cV (M := mL_law) [_] (c + 1) (k + 6) dL_law_2131 pa_10163 pb_10163 cc_10163 rfl rfl rfl rfl rfl (show c + 1 ≤ 601024 by omega) (show k + 6 ≤ 7293034 by omega) rfl (c_X9_thrown) rfl ?_
    refine f_iload (M := mL_law) 2136 dL_law_2134 rfl rfl ?_
    refine e_icmp_eqT (M := mL_law) 2141 dL_law_2136 rfl ht ?_
    refine f_iload (M := mL_law) 2143 dL_law_2141 rfl rfl ?_
    refine e_if_neT (M := mL_law) 2158 dL_law_2143 rfl z ?_
    refine f_goto (M := mL_law) 2888 dL_law_2158 rfl ?_
    refine f_iinc (M := mL_law) (ls' := [_, _, _, _, _, _, _, _]) 2891 dL_law_2888 ki_7 rfl rfl rfl rfl ?_
    refine f_goto (M := mL_law) 23 dL_law_2891 rfl ?_
    rw [show Int32.ofNat (7 * N) + 7 = Int32.ofNat (7 * (N + 1)) from ix_add rfl kn_7]; exact hr
theorem lk_32 (hlen : 7 * N + 7 ≤ Lw) (hLw : Lw ≤ 3584) (T : y_T N I L R) (hN : N < 512) (hc : c ≤ 233 + 4 * N) (hk : k ≤ 14655 + 24 * N) (hx : xs (7 * N) &&& 63 = Int32.ofNat 32) : y_Nx Lw xs N I L R c k w5 w6 w7 := by
  have sm : y_OI N (Lw, xs) mL_scaled [.ref 0, .int (xs (7 * N + 1)), .int (xs (7 * N + 2)), .int (xs (7 * N + 3)), .ref 232] mX9_scaled [.ref 225, .int (xs (7 * N + 1)), .int (xs (7 * N + 2)), .int (xs (7 * N + 3))] I L R := sim_scaled (X := (Lw, xs)) T
  obtain ⟨k0, I1, L1, R1, v, I2, L2, h1, h2, ht, hv, T2⟩ := sm
  by_cases z : k0 = 0
  · refine ⟨I2, L2, R1, some (.int k0), some (.int v), w7, c + 3, k + 18, T2, by omega, by omega, fun r hr => ?_⟩
    refine e_tsI (j := 32) (off := 2121) 2161 dL_law_40 rfl (by rw [hx]; decide) (by decide) rfl rfl ?_
    refine f_aload_n (M := mL_law) 2162 dL_law_2161 rfl rfl ?_
    refine f_aload_n (M := mL_law) 2163 dL_law_2162 rfl rfl ?_
    refine f_iload (M := mL_law) 2165 dL_law_2163 rfl rfl ?_
    refine f_iconst (M := mL_law) 2166 dL_law_2165 ki_1 rfl ?_
    refine f_iadd (M := mL_law) 2167 dL_law_2166 rfl ?_
    refine e_iaf (M := mL_law) (w := Lw) (f := xs) (j := (7 * N) + (1)) dL_law_2167 (x_kk rfl) rfl (ix_add rfl kn_1) (by omega) (by omega) ?_
    refine f_aload_n (M := mL_law) 2169 dL_law_2168 rfl rfl ?_
    refine f_iload (M := mL_law) 2171 dL_law_2169 rfl rfl ?_
    refine f_iconst (M := mL_law) 2172 dL_law_2171 ki_2 rfl ?_
    refine f_iadd (M := mL_law) 2173 dL_law_2172 rfl ?_
    refine e_iaf (M := mL_law) (w := Lw) (f := xs) (j := (7 * N) + (2)) dL_law_2173 (x_kk rfl) rfl (ix_add rfl kn_2) (by omega) (by omega) ?_
    refine f_aload_n (M := mL_law) 2175 dL_law_2174 rfl rfl ?_
    refine f_iload (M := mL_law) 2177 dL_law_2175 rfl rfl ?_
    refine f_iconst (M := mL_law) 2178 dL_law_2177 ki_3 rfl ?_
    refine f_iadd (M := mL_law) 2179 dL_law_2178 rfl ?_
    refine e_iaf (M := mL_law) (w := Lw) (f := xs) (j := (7 * N) + (3)) dL_law_2179 (x_kk rfl) rfl (ix_add rfl kn_3) (by omega) (by omega) ?_
    refine f_aload_n (M := mL_law) 2181 dL_law_2180 rfl rfl ?_
    refine e_cS (M := mL_law) [_] (c + 3) (k + 18) dL_law_2181 pa_10270 cc_10270 rfl rfl rfl rfl rfl (show c + 3 ≤ 601024 by omega) (show k + 18 ≤ 7293034 by omega) rfl (h1) rfl ?_
    refine f_istore (M := mL_law) (ls' := [_, _, _, _, _, _, _, _]) 2186 dL_law_2184 rfl rfl rfl ?_
    refine f_aload_n (M := mL_law) 2187 dL_law_2186 rfl rfl ?_
    refine f_aload_n (M := mL_law) 2188 dL_law_2187 rfl rfl ?_
    refine f_iload (M := mL_law) 2190 dL_law_2188 rfl rfl ?_
    refine f_iconst (M := mL_law) 2191 dL_law_2190 ki_1 rfl ?_
    refine f_iadd (M := mL_law) 2192 dL_law_2191 rfl ?_
    refine e_iaf (M := mL_law) (w := Lw) (f := xs) (j := (7 * N) + (1)) dL_law_2192 (x_kk rfl) rfl (ix_add rfl kn_1) (by omega) (by omega) ?_
    refine f_aload_n (M := mL_law) 2194 dL_law_2193 rfl rfl ?_
    refine f_iload (M := mL_law) 2196 dL_law_2194 rfl rfl ?_
    refine f_iconst (M := mL_law) 2197 dL_law_2196 ki_2 rfl ?_
    refine f_iadd (M := mL_law) 2198 dL_law_2197 rfl ?_
    refine e_iaf (M := mL_law) (w := Lw) (f := xs) (j := (7 * N) + (2)) dL_law_2198 (x_kk rfl) rfl (ix_add rfl kn_2) (by omega) (by omega) ?_
    refine f_aload_n (M := mL_law) 2200 dL_law_2199 rfl rfl ?_
    refine f_iload (M := mL_law) 2202 dL_law_2200 rfl rfl ?_
    refine f_iconst (M := mL_law) 2203 dL_law_2202 ki_3 rfl ?_
    refine f_iadd (M := mL_law) 2204 dL_law_2203 rfl ?_
    refine e_iaf (M := mL_law) (w := Lw) (f := xs) (j := (7 * N) + (3)) dL_law_2204 (x_kk rfl) rfl (ix_add rfl kn_3) (by omega) (by omega) ?_
    refine e_cV (M := mL_law) [_] (c + 3) (k + 18) dL_law_2205 pa_10272 pb_10272 cc_10272 rfl rfl rfl rfl rfl (show c + 3 ≤ 601024 by omega) (show k + 18 ≤ 7293034 by omega) rfl (h2) rfl ?_
    refine f_istore (M := mL_law) (ls' := [_, _, _, _, _, _, _, _]) 2210 dL_law_2208 rfl rfl rfl ?_
    refine f_aload_n (M := mL_law) 2211 dL_law_2210 rfl rfl ?_
    refine e_cV (M := mL_law) [_] (c + 3) (k + 18) dL_law_2211 pa_10163 pb_10163 cc_10163 rfl rfl rfl rfl rfl (show c + 3 ≤ 601024 by omega) (show k + 18 ≤ 7293034 by omega) rfl (c_X9_thrown) rfl ?_
    refine f_iload (M := mL_law) 2216 dL_law_2214 rfl rfl ?_
    refine e_icmp_eqT (M := mL_law) 2221 dL_law_2216 rfl ht ?_
    refine f_iload (M := mL_law) 2223 dL_law_2221 rfl rfl ?_
    refine e_if_neF (M := mL_law) 2238 dL_law_2223 rfl (fun q => q z) ?_
    refine f_aload_n (M := mL_law) 2227 dL_law_2226 rfl rfl ?_
    refine f_iconst (M := mL_law) 2228 dL_law_2227 ki_0 rfl ?_
    refine e_lld (M := mL_law) (w := 1) (j := 0) dL_law_2228 (x_kk rfl) rfl kn_0 (by omega) (by omega) ?_
    refine f_iload (M := mL_law) 2231 dL_law_2229 rfl rfl ?_
    refine f_i2l (M := mL_law) 2232 dL_law_2231 rfl ?_
    refine f_lcmp (M := mL_law) 2233 dL_law_2232 rfl ?_
    refine e_if_eqT (M := mL_law) 2238 dL_law_2233 rfl (lc_eq.mpr (hv z)) ?_
    refine f_goto (M := mL_law) 2888 dL_law_2238 rfl ?_
    refine f_iinc (M := mL_law) (ls' := [_, _, _, _, _, _, _, _]) 2891 dL_law_2888 ki_7 rfl rfl rfl rfl ?_
    refine f_goto (M := mL_law) 23 dL_law_2891 rfl ?_
    rw [show Int32.ofNat (7 * N) + 7 = Int32.ofNat (7 * (N + 1)) from ix_add rfl kn_7]; exact hr
  · refine ⟨I2, L2, R1, some (.int k0), some (.int v), w7, c + 3, k + 18, T2, by omega, by omega, fun r hr => ?_⟩
    refine e_tsI (j := 32) (off := 2121) 2161 dL_law_40 rfl (by rw [hx]; decide) (by decide) rfl rfl ?_
    refine f_aload_n (M := mL_law) 2162 dL_law_2161 rfl rfl ?_
    refine f_aload_n (M := mL_law) 2163 dL_law_2162 rfl rfl ?_
    refine f_iload (M := mL_law) 2165 dL_law_2163 rfl rfl ?_
    refine f_iconst (M := mL_law) 2166 dL_law_2165 ki_1 rfl ?_
    refine f_iadd (M := mL_law) 2167 dL_law_2166 rfl ?_
    refine e_iaf (M := mL_law) (w := Lw) (f := xs) (j := (7 * N) + (1)) dL_law_2167 (x_kk rfl) rfl (ix_add rfl kn_1) (by omega) (by omega) ?_
    refine f_aload_n (M := mL_law) 2169 dL_law_2168 rfl rfl ?_
    refine f_iload (M := mL_law) 2171 dL_law_2169 rfl rfl ?_
    refine f_iconst (M := mL_law) 2172 dL_law_2171 ki_2 rfl ?_
    refine f_iadd (M := mL_law) 2173 dL_law_2172 rfl ?_
    refine e_iaf (M := mL_law) (w := Lw) (f := xs) (j := (7 * N) + (2)) dL_law_2173 (x_kk rfl) rfl (ix_add rfl kn_2) (by omega) (by omega) ?_
    refine f_aload_n (M := mL_law) 2175 dL_law_2174 rfl rfl ?_
    refine f_iload (M := mL_law) 2177 dL_law_2175 rfl rfl ?_
    refine f_iconst (M := mL_law) 2178 dL_law_2177 ki_3 rfl ?_
    refine f_iadd (M := mL_law) 2179 dL_law_2178 rfl ?_
    refine e_iaf (M := mL_law) (w := Lw) (f := xs) (j := (7 * N) + (3)) dL_law_2179 (x_kk rfl) rfl (ix_add rfl kn_3) (by omega) (by omega) ?_
    refine f_aload_n (M := mL_law) 2181 dL_law_2180 rfl rfl ?_
    refine e_cS (M := mL_law) [_] (c + 3) (k + 18) dL_law_2181 pa_10270 cc_10270 rfl rfl rfl rfl rfl (show c + 3 ≤ 601024 by omega) (show k + 18 ≤ 7293034 by omega) rfl (h1) rfl ?_
    refine f_istore (M := mL_law) (ls' := [_, _, _, _, _, _, _, _]) 2186 dL_law_2184 rfl rfl rfl ?_
    refine f_aload_n (M := mL_law) 2187 dL_law_2186 rfl rfl ?_
    refine f_aload_n (M := mL_law) 2188 dL_law_2187 rfl rfl ?_
    refine f_iload (M := mL_law) 2190 dL_law_2188 rfl rfl ?_
    refine f_iconst (M := mL_law) 2191 dL_law_2190 ki_1 rfl ?_
    refine f_iadd (M := mL_law) 2192 dL_law_2191 rfl ?_
    refine e_iaf (M := mL_law) (w := Lw) (f := xs) (j := (7 * N) + (1)) dL_law_2192 (x_kk rfl) rfl (ix_add rfl kn_1) (by omega) (by omega) ?_
    refine f_aload_n (M := mL_law) 2194 dL_law_2193 rfl rfl ?_
    refine f_iload (M := mL_law) 2196 dL_law_2194 rfl rfl ?_
    refine f_iconst (M := mL_law) 2197 dL_law_2196 ki_2 rfl ?_
    refine f_iadd (M := mL_law) 2198 dL_law_2197 rfl ?_
    refine e_iaf (M := mL_law) (w := Lw) (f := xs) (j := (7 * N) + (2)) dL_law_2198 (x_kk rfl) rfl (ix_add rfl kn_2) (by omega) (by omega) ?_
    refine f_aload_n (M := mL_law) 2200 dL_law_2199 rfl rfl ?_
    refine f_iload (M := mL_law) 2202 dL_law_2200 rfl rfl ?_
    refine f_iconst (M := mL_law) 2203 dL_law_2202 ki_3 rfl ?_
    refine f_iadd (M := mL_law) 2204 dL_law_2203 rfl ?_
    refine e_iaf (M := mL_law) (w := Lw) (f := xs) (j := (7 * N) + (3)) dL_law_2204 (x_kk rfl) rfl (ix_add rfl kn_3) (by omega) (by omega) ?_
    refine e_cV (M := mL_law) [_] (c + 3) (k + 18) dL_law_2205 pa_10272 pb_10272 cc_10272 rfl rfl rfl rfl rfl (show c + 3 ≤ 601024 by omega) (show k + 18 ≤ 7293034 by omega) rfl (h2) rfl ?_
    refine f_istore (M := mL_law) (ls' := [_, _, _, _, _, _, _, _]) 2210 dL_law_2208 rfl rfl rfl ?_
    refine f_aload_n (M := mL_law) 2211 dL_law_2210 rfl rfl ?_
    refine e_cV (M := mL_law) [_] (c + 3) (k + 18) dL_law_2211 pa_10163 pb_10163 cc_10163 rfl rfl rfl rfl rfl (show c + 3 ≤ 601024 by omega) (show k + 18 ≤ 7293034 by omega) rfl (c_X9_thrown) rfl ?_
    refine f_iload (M := mL_law) 2216 dL_law_2214 rfl rfl ?_
    refine e_icmp_eqT (M := mL_law) 2221 dL_law_2216 rfl ht ?_
    refine f_iload (M := mL_law) 2223 dL_law_2221 rfl rfl ?_
    refine e_if_neT (M := mL_law) 2238 dL_law_2223 rfl z ?_
    refine f_goto (M := mL_law) 2888 dL_law_2238 rfl ?_
    refine f_iinc (M := mL_law) (ls' := [_, _, _, _, _, _, _, _]) 2891 dL_law_2888 ki_7 rfl rfl rfl rfl ?_
    refine f_goto (M := mL_law) 23 dL_law_2891 rfl ?_
    rw [show Int32.ofNat (7 * N) + 7 = Int32.ofNat (7 * (N + 1)) from ix_add rfl kn_7]; exact hr
theorem lk_33 (hlen : 7 * N + 7 ≤ Lw) (hLw : Lw ≤ 3584) (T : y_T N I L R) (hN : N < 512) (hc : c ≤ 233 + 4 * N) (hk : k ≤ 14655 + 24 * N) (hx : xs (7 * N) &&& 63 = Int32.ofNat 33) : y_Nx Lw xs N I L R c k w5 w6 w7 := by
  by_cases hb : xs (7 * N + 1) = 0
  · skip
    have sm : y_OL N (Lw, xs) mL_cutShare [.ref 0, .int 0, .ref 232] mX9_cutShare [.ref 225, .int 0] I L R := sim_cutShare (X := (Lw, xs)) T
    obtain ⟨k0, I1, L1, R1, v, I2, L2, h1, h2, ht, hv, T2⟩ := sm
    by_cases z : k0 = 0
    · refine ⟨I2, L2, R1, some (.int k0), some (.long v), none, c + 1, k + 6, T2, by omega, by omega, fun r hr => ?_⟩
      refine e_tsI (j := 33) (off := 2201) 2241 dL_law_40 rfl (by rw [hx]; decide) (by decide) rfl rfl ?_
      refine f_aload_n (M := mL_law) 2242 dL_law_2241 rfl rfl ?_
      refine f_aload_n (M := mL_law) 2243 dL_law_2242 rfl rfl ?_
      refine f_iload (M := mL_law) 2245 dL_law_2243 rfl rfl ?_
      refine f_iconst (M := mL_law) 2246 dL_law_2245 ki_1 rfl ?_
      refine f_iadd (M := mL_law) 2247 dL_law_2246 rfl ?_
      refine e_iaf (M := mL_law) (w := Lw) (f := xs) (j := (7 * N) + (1)) dL_law_2247 (x_kk rfl) rfl (ix_add rfl kn_1) (by omega) (by omega) ?_
      refine e_if_eqT (M := mL_law) 2255 dL_law_2248 rfl hb ?_
      refine f_iconst (M := mL_law) 2256 dL_law_2255 ki_0 rfl ?_
      refine f_aload_n (M := mL_law) 2257 dL_law_2256 rfl rfl ?_
      refine e_cS (M := mL_law) [_] (c + 1) (k + 6) dL_law_2257 pa_10273 cc_10273 rfl rfl rfl rfl rfl (show c + 1 ≤ 601024 by omega) (show k + 6 ≤ 7293034 by omega) rfl (h1) rfl ?_
      refine f_istore (M := mL_law) (ls' := [_, _, _, _, _, _, _, _]) 2262 dL_law_2260 rfl rfl rfl ?_
      refine f_aload_n (M := mL_law) 2263 dL_law_2262 rfl rfl ?_
      refine f_aload_n (M := mL_law) 2264 dL_law_2263 rfl rfl ?_
      refine f_iload (M := mL_law) 2266 dL_law_2264 rfl rfl ?_
      refine f_iconst (M := mL_law) 2267 dL_law_2266 ki_1 rfl ?_
      refine f_iadd (M := mL_law) 2268 dL_law_2267 rfl ?_
      refine e_iaf (M := mL_law) (w := Lw) (f := xs) (j := (7 * N) + (1)) dL_law_2268 (x_kk rfl) rfl (ix_add rfl kn_1) (by omega) (by omega) ?_
      refine e_if_eqT (M := mL_law) 2276 dL_law_2269 rfl hb ?_
      refine f_iconst (M := mL_law) 2277 dL_law_2276 ki_0 rfl ?_
      refine e_cV (M := mL_law) [_] (c + 1) (k + 6) dL_law_2277 pa_10276 pb_10276 cc_10276 rfl rfl rfl rfl rfl (show c + 1 ≤ 601024 by omega) (show k + 6 ≤ 7293034 by omega) rfl (h2) rfl ?_
      refine f_lstore (M := mL_law) (ls' := [_, _, _, _, _, _, _, _]) 2282 dL_law_2280 rfl rfl rfl ?_
      refine f_aload_n (M := mL_law) 2283 dL_law_2282 rfl rfl ?_
      refine e_cV (M := mL_law) [_] (c + 1) (k + 6) dL_law_2283 pa_10163 pb_10163 cc_10163 rfl rfl rfl rfl rfl (show c + 1 ≤ 601024 by omega) (show k + 6 ≤ 7293034 by omega) rfl (c_X9_thrown) rfl ?_
      refine f_iload (M := mL_law) 2288 dL_law_2286 rfl rfl ?_
      refine e_icmp_eqT (M := mL_law) 2293 dL_law_2288 rfl ht ?_
      refine f_iload (M := mL_law) 2295 dL_law_2293 rfl rfl ?_
      refine e_if_neF (M := mL_law) 2309 dL_law_2295 rfl (fun q => q z) ?_
      refine f_aload_n (M := mL_law) 2299 dL_law_2298 rfl rfl ?_
      refine f_iconst (M := mL_law) 2300 dL_law_2299 ki_0 rfl ?_
      refine e_lld (M := mL_law) (w := 1) (j := 0) dL_law_2300 (x_kk rfl) rfl kn_0 (by omega) (by omega) ?_
      refine f_lload (M := mL_law) 2303 dL_law_2301 rfl rfl ?_
      refine f_lcmp (M := mL_law) 2304 dL_law_2303 rfl ?_
      refine e_if_eqT (M := mL_law) 2309 dL_law_2304 rfl (lc_eq.mpr (hv z)) ?_
      refine f_goto (M := mL_law) 2888 dL_law_2309 rfl ?_
      refine f_iinc (M := mL_law) (ls' := [_, _, _, _, _, _, _, _]) 2891 dL_law_2888 ki_7 rfl rfl rfl rfl ?_
      refine f_goto (M := mL_law) 23 dL_law_2891 rfl ?_
      rw [show Int32.ofNat (7 * N) + 7 = Int32.ofNat (7 * (N + 1)) from ix_add rfl kn_7]; exact hr
    · refine ⟨I2, L2, R1, some (.int k0), some (.long v), none, c + 1, k + 6, T2, by omega, by omega, fun r hr => ?_⟩
      refine e_tsI (j := 33) (off := 2201) 2241 dL_law_40 rfl (by rw [hx]; decide) (by decide) rfl rfl ?_
      refine f_aload_n (M := mL_law) 2242 dL_law_2241 rfl rfl ?_
      refine f_aload_n (M := mL_law) 2243 dL_law_2242 rfl rfl ?_
      refine f_iload (M := mL_law) 2245 dL_law_2243 rfl rfl ?_
      refine f_iconst (M := mL_law) 2246 dL_law_2245 ki_1 rfl ?_
      refine f_iadd (M := mL_law) 2247 dL_law_2246 rfl ?_
      refine e_iaf (M := mL_law) (w := Lw) (f := xs) (j := (7 * N) + (1)) dL_law_2247 (x_kk rfl) rfl (ix_add rfl kn_1) (by omega) (by omega) ?_
      refine e_if_eqT (M := mL_law) 2255 dL_law_2248 rfl hb ?_
      refine f_iconst (M := mL_law) 2256 dL_law_2255 ki_0 rfl ?_
      refine f_aload_n (M := mL_law) 2257 dL_law_2256 rfl rfl ?_
      refine e_cS (M := mL_law) [_] (c + 1) (k + 6) dL_law_2257 pa_10273 cc_10273 rfl rfl rfl rfl rfl (show c + 1 ≤ 601024 by omega) (show k + 6 ≤ 7293034 by omega) rfl (h1) rfl ?_
      refine f_istore (M := mL_law) (ls' := [_, _, _, _, _, _, _, _]) 2262 dL_law_2260 rfl rfl rfl ?_
      refine f_aload_n (M := mL_law) 2263 dL_law_2262 rfl rfl ?_
      refine f_aload_n (M := mL_law) 2264 dL_law_2263 rfl rfl ?_
      refine f_iload (M := mL_law) 2266 dL_law_2264 rfl rfl ?_
      refine f_iconst (M := mL_law) 2267 dL_law_2266 ki_1 rfl ?_
      refine f_iadd (M := mL_law) 2268 dL_law_2267 rfl ?_
      refine e_iaf (M := mL_law) (w := Lw) (f := xs) (j := (7 * N) + (1)) dL_law_2268 (x_kk rfl) rfl (ix_add rfl kn_1) (by omega) (by omega) ?_
      refine e_if_eqT (M := mL_law) 2276 dL_law_2269 rfl hb ?_
      refine f_iconst (M := mL_law) 2277 dL_law_2276 ki_0 rfl ?_
      refine e_cV (M := mL_law) [_] (c + 1) (k + 6) dL_law_2277 pa_10276 pb_10276 cc_10276 rfl rfl rfl rfl rfl (show c + 1 ≤ 601024 by omega) (show k + 6 ≤ 7293034 by omega) rfl (h2) rfl ?_
      refine f_lstore (M := mL_law) (ls' := [_, _, _, _, _, _, _, _]) 2282 dL_law_2280 rfl rfl rfl ?_
      refine f_aload_n (M := mL_law) 2283 dL_law_2282 rfl rfl ?_
      refine e_cV (M := mL_law) [_] (c + 1) (k + 6) dL_law_2283 pa_10163 pb_10163 cc_10163 rfl rfl rfl rfl rfl (show c + 1 ≤ 601024 by omega) (show k + 6 ≤ 7293034 by omega) rfl (c_X9_thrown) rfl ?_
      refine f_iload (M := mL_law) 2288 dL_law_2286 rfl rfl ?_
      refine e_icmp_eqT (M := mL_law) 2293 dL_law_2288 rfl ht ?_
      refine f_iload (M := mL_law) 2295 dL_law_2293 rfl rfl ?_
      refine e_if_neT (M := mL_law) 2309 dL_law_2295 rfl z ?_
      refine f_goto (M := mL_law) 2888 dL_law_2309 rfl ?_
      refine f_iinc (M := mL_law) (ls' := [_, _, _, _, _, _, _, _]) 2891 dL_law_2888 ki_7 rfl rfl rfl rfl ?_
      refine f_goto (M := mL_law) 23 dL_law_2891 rfl ?_
      rw [show Int32.ofNat (7 * N) + 7 = Int32.ofNat (7 * (N + 1)) from ix_add rfl kn_7]; exact hr
  · skip
    have sm : y_OL N (Lw, xs) mL_cutShare [.ref 0, .int 1, .ref 232] mX9_cutShare [.ref 225, .int 1] I L R := sim_cutShare (X := (Lw, xs)) T
    obtain ⟨k0, I1, L1, R1, v, I2, L2, h1, h2, ht, hv, T2⟩ := sm
    by_cases z : k0 = 0
    · refine ⟨I2, L2, R1, some (.int k0), some (.long v), none, c + 1, k + 6, T2, by omega, by omega, fun r hr => ?_⟩
      refine e_tsI (j := 33) (off := 2201) 2241 dL_law_40 rfl (by rw [hx]; decide) (by decide) rfl rfl ?_
      refine f_aload_n (M := mL_law) 2242 dL_law_2241 rfl rfl ?_
      refine f_aload_n (M := mL_law) 2243 dL_law_2242 rfl rfl ?_
      refine f_iload (M := mL_law) 2245 dL_law_2243 rfl rfl ?_
      refine f_iconst (M := mL_law) 2246 dL_law_2245 ki_1 rfl ?_
      refine f_iadd (M := mL_law) 2247 dL_law_2246 rfl ?_
      refine e_iaf (M := mL_law) (w := Lw) (f := xs) (j := (7 * N) + (1)) dL_law_2247 (x_kk rfl) rfl (ix_add rfl kn_1) (by omega) (by omega) ?_
      refine e_if_eqF (M := mL_law) 2255 dL_law_2248 rfl hb ?_
      refine f_iconst (M := mL_law) 2252 dL_law_2251 ki_1 rfl ?_
      refine f_goto (M := mL_law) 2256 dL_law_2252 rfl ?_
      refine f_aload_n (M := mL_law) 2257 dL_law_2256 rfl rfl ?_
      refine e_cS (M := mL_law) [_] (c + 1) (k + 6) dL_law_2257 pa_10273 cc_10273 rfl rfl rfl rfl rfl (show c + 1 ≤ 601024 by omega) (show k + 6 ≤ 7293034 by omega) rfl (h1) rfl ?_
      refine f_istore (M := mL_law) (ls' := [_, _, _, _, _, _, _, _]) 2262 dL_law_2260 rfl rfl rfl ?_
      refine f_aload_n (M := mL_law) 2263 dL_law_2262 rfl rfl ?_
      refine f_aload_n (M := mL_law) 2264 dL_law_2263 rfl rfl ?_
      refine f_iload (M := mL_law) 2266 dL_law_2264 rfl rfl ?_
      refine f_iconst (M := mL_law) 2267 dL_law_2266 ki_1 rfl ?_
      refine f_iadd (M := mL_law) 2268 dL_law_2267 rfl ?_
      refine e_iaf (M := mL_law) (w := Lw) (f := xs) (j := (7 * N) + (1)) dL_law_2268 (x_kk rfl) rfl (ix_add rfl kn_1) (by omega) (by omega) ?_
      refine e_if_eqF (M := mL_law) 2276 dL_law_2269 rfl hb ?_
      refine f_iconst (M := mL_law) 2273 dL_law_2272 ki_1 rfl ?_
      refine f_goto (M := mL_law) 2277 dL_law_2273 rfl ?_
      refine e_cV (M := mL_law) [_] (c + 1) (k + 6) dL_law_2277 pa_10276 pb_10276 cc_10276 rfl rfl rfl rfl rfl (show c + 1 ≤ 601024 by omega) (show k + 6 ≤ 7293034 by omega) rfl (h2) rfl ?_
      refine f_lstore (M := mL_law) (ls' := [_, _, _, _, _, _, _, _]) 2282 dL_law_2280 rfl rfl rfl ?_
      refine f_aload_n (M := mL_law) 2283 dL_law_2282 rfl rfl ?_
      refine e_cV (M := mL_law) [_] (c + 1) (k + 6) dL_law_2283 pa_10163 pb_10163 cc_10163 rfl rfl rfl rfl rfl (show c + 1 ≤ 601024 by omega) (show k + 6 ≤ 7293034 by omega) rfl (c_X9_thrown) rfl ?_
      refine f_iload (M := mL_law) 2288 dL_law_2286 rfl rfl ?_
      refine e_icmp_eqT (M := mL_law) 2293 dL_law_2288 rfl ht ?_
      refine f_iload (M := mL_law) 2295 dL_law_2293 rfl rfl ?_
      refine e_if_neF (M := mL_law) 2309 dL_law_2295 rfl (fun q => q z) ?_
      refine f_aload_n (M := mL_law) 2299 dL_law_2298 rfl rfl ?_
      refine f_iconst (M := mL_law) 2300 dL_law_2299 ki_0 rfl ?_
      refine e_lld (M := mL_law) (w := 1) (j := 0) dL_law_2300 (x_kk rfl) rfl kn_0 (by omega) (by omega) ?_
      refine f_lload (M := mL_law) 2303 dL_law_2301 rfl rfl ?_
      refine f_lcmp (M := mL_law) 2304 dL_law_2303 rfl ?_
      refine e_if_eqT (M := mL_law) 2309 dL_law_2304 rfl (lc_eq.mpr (hv z)) ?_
      refine f_goto (M := mL_law) 2888 dL_law_2309 rfl ?_
      refine f_iinc (M := mL_law) (ls' := [_, _, _, _, _, _, _, _]) 2891 dL_law_2888 ki_7 rfl rfl rfl rfl ?_
      refine f_goto (M := mL_law) 23 dL_law_2891 rfl ?_
      rw [show Int32.ofNat (7 * N) + 7 = Int32.ofNat (7 * (N + 1)) from ix_add rfl kn_7]; exact hr
    · refine ⟨I2, L2, R1, some (.int k0), some (.long v), none, c + 1, k + 6, T2, by omega, by omega, fun r hr => ?_⟩
      refine e_tsI (j := 33) (off := 2201) 2241 dL_law_40 rfl (by rw [hx]; decide) (by decide) rfl rfl ?_
      refine f_aload_n (M := mL_law) 2242 dL_law_2241 rfl rfl ?_
      refine f_aload_n (M := mL_law) 2243 dL_law_2242 rfl rfl ?_
      refine f_iload (M := mL_law) 2245 dL_law_2243 rfl rfl ?_
      refine f_iconst (M := mL_law) 2246 dL_law_2245 ki_1 rfl ?_
      refine f_iadd (M := mL_law) 2247 dL_law_2246 rfl ?_
      refine e_iaf (M := mL_law) (w := Lw) (f := xs) (j := (7 * N) + (1)) dL_law_2247 (x_kk rfl) rfl (ix_add rfl kn_1) (by omega) (by omega) ?_
      refine e_if_eqF (M := mL_law) 2255 dL_law_2248 rfl hb ?_
      refine f_iconst (M := mL_law) 2252 dL_law_2251 ki_1 rfl ?_
      refine f_goto (M := mL_law) 2256 dL_law_2252 rfl ?_
      refine f_aload_n (M := mL_law) 2257 dL_law_2256 rfl rfl ?_
      refine e_cS (M := mL_law) [_] (c + 1) (k + 6) dL_law_2257 pa_10273 cc_10273 rfl rfl rfl rfl rfl (show c + 1 ≤ 601024 by omega) (show k + 6 ≤ 7293034 by omega) rfl (h1) rfl ?_
      refine f_istore (M := mL_law) (ls' := [_, _, _, _, _, _, _, _]) 2262 dL_law_2260 rfl rfl rfl ?_
      refine f_aload_n (M := mL_law) 2263 dL_law_2262 rfl rfl ?_
      refine f_aload_n (M := mL_law) 2264 dL_law_2263 rfl rfl ?_
      refine f_iload (M := mL_law) 2266 dL_law_2264 rfl rfl ?_
      refine f_iconst (M := mL_law) 2267 dL_law_2266 ki_1 rfl ?_
      refine f_iadd (M := mL_law) 2268 dL_law_2267 rfl ?_
      refine e_iaf (M := mL_law) (w := Lw) (f := xs) (j := (7 * N) + (1)) dL_law_2268 (x_kk rfl) rfl (ix_add rfl kn_1) (by omega) (by omega) ?_
      refine e_if_eqF (M := mL_law) 2276 dL_law_2269 rfl hb ?_
      refine f_iconst (M := mL_law) 2273 dL_law_2272 ki_1 rfl ?_
      refine f_goto (M := mL_law) 2277 dL_law_2273 rfl ?_
      refine e_cV (M := mL_law) [_] (c + 1) (k + 6) dL_law_2277 pa_10276 pb_10276 cc_10276 rfl rfl rfl rfl rfl (show c + 1 ≤ 601024 by omega) (show k + 6 ≤ 7293034 by omega) rfl (h2) rfl ?_
      refine f_lstore (M := mL_law) (ls' := [_, _, _, _, _, _, _, _]) 2282 dL_law_2280 rfl rfl rfl ?_
      refine f_aload_n (M := mL_law) 2283 dL_law_2282 rfl rfl ?_
      refine e_cV (M := mL_law) [_] (c + 1) (k + 6) dL_law_2283 pa_10163 pb_10163 cc_10163 rfl rfl rfl rfl rfl (show c + 1 ≤ 601024 by omega) (show k + 6 ≤ 7293034 by omega) rfl (c_X9_thrown) rfl ?_
      refine f_iload (M := mL_law) 2288 dL_law_2286 rfl rfl ?_
      refine e_icmp_eqT (M := mL_law) 2293 dL_law_2288 rfl ht ?_
      refine f_iload (M := mL_law) 2295 dL_law_2293 rfl rfl ?_
      refine e_if_neT (M := mL_law) 2309 dL_law_2295 rfl z ?_
      refine f_goto (M := mL_law) 2888 dL_law_2309 rfl ?_
      refine f_iinc (M := mL_law) (ls' := [_, _, _, _, _, _, _, _]) 2891 dL_law_2888 ki_7 rfl rfl rfl rfl ?_
      refine f_goto (M := mL_law) 23 dL_law_2891 rfl ?_
      rw [show Int32.ofNat (7 * N) + 7 = Int32.ofNat (7 * (N + 1)) from ix_add rfl kn_7]; exact hr
theorem lk_34 (hlen : 7 * N + 7 ≤ Lw) (hLw : Lw ≤ 3584) (T : y_T N I L R) (hN : N < 512) (hc : c ≤ 233 + 4 * N) (hk : k ≤ 14655 + 24 * N) (hx : xs (7 * N) &&& 63 = Int32.ofNat 34) : y_Nx Lw xs N I L R c k w5 w6 w7 := by
  have sm : y_OI N (Lw, xs) mL_net [.ref 0, .int (xs (7 * N + 1)), .ref 232] mX9_net [.ref 225, .int (xs (7 * N + 1))] I L R := sim_net (X := (Lw, xs)) T
  obtain ⟨k0, I1, L1, R1, v, I2, L2, h1, h2, ht, hv, T2⟩ := sm
  by_cases z : k0 = 0
  · refine ⟨I2, L2, R1, some (.int k0), some (.int v), w7, c + 1, k + 6, T2, by omega, by omega, fun r hr => ?_⟩
    refine e_tsI (j := 34) (off := 2272) 2312 dL_law_40 rfl (by rw [hx]; decide) (by decide) rfl rfl ?_
    refine f_aload_n (M := mL_law) 2313 dL_law_2312 rfl rfl ?_
    refine f_aload_n (M := mL_law) 2314 dL_law_2313 rfl rfl ?_
    refine f_iload (M := mL_law) 2316 dL_law_2314 rfl rfl ?_
    refine f_iconst (M := mL_law) 2317 dL_law_2316 ki_1 rfl ?_
    refine f_iadd (M := mL_law) 2318 dL_law_2317 rfl ?_
    refine e_iaf (M := mL_law) (w := Lw) (f := xs) (j := (7 * N) + (1)) dL_law_2318 (x_kk rfl) rfl (ix_add rfl kn_1) (by omega) (by omega) ?_
    refine f_aload_n (M := mL_law) 2320 dL_law_2319 rfl rfl ?_
    refine e_cS (M := mL_law) [_] (c + 1) (k + 6) dL_law_2320 pa_10277 cc_10277 rfl rfl rfl rfl rfl (show c + 1 ≤ 601024 by omega) (show k + 6 ≤ 7293034 by omega) rfl (h1) rfl ?_
    refine f_istore (M := mL_law) (ls' := [_, _, _, _, _, _, _, _]) 2325 dL_law_2323 rfl rfl rfl ?_
    refine f_aload_n (M := mL_law) 2326 dL_law_2325 rfl rfl ?_
    refine f_aload_n (M := mL_law) 2327 dL_law_2326 rfl rfl ?_
    refine f_iload (M := mL_law) 2329 dL_law_2327 rfl rfl ?_
    refine f_iconst (M := mL_law) 2330 dL_law_2329 ki_1 rfl ?_
    refine f_iadd (M := mL_law) 2331 dL_law_2330 rfl ?_
    refine e_iaf (M := mL_law) (w := Lw) (f := xs) (j := (7 * N) + (1)) dL_law_2331 (x_kk rfl) rfl (ix_add rfl kn_1) (by omega) (by omega) ?_
    refine e_cV (M := mL_law) [_] (c + 1) (k + 6) dL_law_2332 pa_10279 pb_10279 cc_10279 rfl rfl rfl rfl rfl (show c + 1 ≤ 601024 by omega) (show k + 6 ≤ 7293034 by omega) rfl (h2) rfl ?_
    refine f_istore (M := mL_law) (ls' := [_, _, _, _, _, _, _, _]) 2337 dL_law_2335 rfl rfl rfl ?_
    refine f_aload_n (M := mL_law) 2338 dL_law_2337 rfl rfl ?_
    refine e_cV (M := mL_law) [_] (c + 1) (k + 6) dL_law_2338 pa_10163 pb_10163 cc_10163 rfl rfl rfl rfl rfl (show c + 1 ≤ 601024 by omega) (show k + 6 ≤ 7293034 by omega) rfl (c_X9_thrown) rfl ?_
    refine f_iload (M := mL_law) 2343 dL_law_2341 rfl rfl ?_
    refine e_icmp_eqT (M := mL_law) 2348 dL_law_2343 rfl ht ?_
    refine f_iload (M := mL_law) 2350 dL_law_2348 rfl rfl ?_
    refine e_if_neF (M := mL_law) 2365 dL_law_2350 rfl (fun q => q z) ?_
    refine f_aload_n (M := mL_law) 2354 dL_law_2353 rfl rfl ?_
    refine f_iconst (M := mL_law) 2355 dL_law_2354 ki_0 rfl ?_
    refine e_lld (M := mL_law) (w := 1) (j := 0) dL_law_2355 (x_kk rfl) rfl kn_0 (by omega) (by omega) ?_
    refine f_iload (M := mL_law) 2358 dL_law_2356 rfl rfl ?_
    refine f_i2l (M := mL_law) 2359 dL_law_2358 rfl ?_
    refine f_lcmp (M := mL_law) 2360 dL_law_2359 rfl ?_
    refine e_if_eqT (M := mL_law) 2365 dL_law_2360 rfl (lc_eq.mpr (hv z)) ?_
    refine f_goto (M := mL_law) 2888 dL_law_2365 rfl ?_
    refine f_iinc (M := mL_law) (ls' := [_, _, _, _, _, _, _, _]) 2891 dL_law_2888 ki_7 rfl rfl rfl rfl ?_
    refine f_goto (M := mL_law) 23 dL_law_2891 rfl ?_
    rw [show Int32.ofNat (7 * N) + 7 = Int32.ofNat (7 * (N + 1)) from ix_add rfl kn_7]; exact hr
  · refine ⟨I2, L2, R1, some (.int k0), some (.int v), w7, c + 1, k + 6, T2, by omega, by omega, fun r hr => ?_⟩
    refine e_tsI (j := 34) (off := 2272) 2312 dL_law_40 rfl (by rw [hx]; decide) (by decide) rfl rfl ?_
    refine f_aload_n (M := mL_law) 2313 dL_law_2312 rfl rfl ?_
    refine f_aload_n (M := mL_law) 2314 dL_law_2313 rfl rfl ?_
    refine f_iload (M := mL_law) 2316 dL_law_2314 rfl rfl ?_
    refine f_iconst (M := mL_law) 2317 dL_law_2316 ki_1 rfl ?_
    refine f_iadd (M := mL_law) 2318 dL_law_2317 rfl ?_
    refine e_iaf (M := mL_law) (w := Lw) (f := xs) (j := (7 * N) + (1)) dL_law_2318 (x_kk rfl) rfl (ix_add rfl kn_1) (by omega) (by omega) ?_
    refine f_aload_n (M := mL_law) 2320 dL_law_2319 rfl rfl ?_
    refine e_cS (M := mL_law) [_] (c + 1) (k + 6) dL_law_2320 pa_10277 cc_10277 rfl rfl rfl rfl rfl (show c + 1 ≤ 601024 by omega) (show k + 6 ≤ 7293034 by omega) rfl (h1) rfl ?_
    refine f_istore (M := mL_law) (ls' := [_, _, _, _, _, _, _, _]) 2325 dL_law_2323 rfl rfl rfl ?_
    refine f_aload_n (M := mL_law) 2326 dL_law_2325 rfl rfl ?_
    refine f_aload_n (M := mL_law) 2327 dL_law_2326 rfl rfl ?_
    refine f_iload (M := mL_law) 2329 dL_law_2327 rfl rfl ?_
    refine f_iconst (M := mL_law) 2330 dL_law_2329 ki_1 rfl ?_
    refine f_iadd (M := mL_law) 2331 dL_law_2330 rfl ?_
    refine e_iaf (M := mL_law) (w := Lw) (f := xs) (j := (7 * N) + (1)) dL_law_2331 (x_kk rfl) rfl (ix_add rfl kn_1) (by omega) (by omega) ?_
    refine e_cV (M := mL_law) [_] (c + 1) (k + 6) dL_law_2332 pa_10279 pb_10279 cc_10279 rfl rfl rfl rfl rfl (show c + 1 ≤ 601024 by omega) (show k + 6 ≤ 7293034 by omega) rfl (h2) rfl ?_
    refine f_istore (M := mL_law) (ls' := [_, _, _, _, _, _, _, _]) 2337 dL_law_2335 rfl rfl rfl ?_
    refine f_aload_n (M := mL_law) 2338 dL_law_2337 rfl rfl ?_
    refine e_cV (M := mL_law) [_] (c + 1) (k + 6) dL_law_2338 pa_10163 pb_10163 cc_10163 rfl rfl rfl rfl rfl (show c + 1 ≤ 601024 by omega) (show k + 6 ≤ 7293034 by omega) rfl (c_X9_thrown) rfl ?_
    refine f_iload (M := mL_law) 2343 dL_law_2341 rfl rfl ?_
    refine e_icmp_eqT (M := mL_law) 2348 dL_law_2343 rfl ht ?_
    refine f_iload (M := mL_law) 2350 dL_law_2348 rfl rfl ?_
    refine e_if_neT (M := mL_law) 2365 dL_law_2350 rfl z ?_
    refine f_goto (M := mL_law) 2888 dL_law_2365 rfl ?_
    refine f_iinc (M := mL_law) (ls' := [_, _, _, _, _, _, _, _]) 2891 dL_law_2888 ki_7 rfl rfl rfl rfl ?_
    refine f_goto (M := mL_law) 23 dL_law_2891 rfl ?_
    rw [show Int32.ofNat (7 * N) + 7 = Int32.ofNat (7 * (N + 1)) from ix_add rfl kn_7]; exact hr
theorem lk_35 (hlen : 7 * N + 7 ≤ Lw) (hLw : Lw ≤ 3584) (T : y_T N I L R) (hN : N < 512) (hc : c ≤ 233 + 4 * N) (hk : k ≤ 14655 + 24 * N) (hx : xs (7 * N) &&& 63 = Int32.ofNat 35) : y_Nx Lw xs N I L R c k w5 w6 w7 := by
  by_cases hb : xs (7 * N + 1) = 0
  · skip
    have sm : y_DI N (Lw, xs) mX8_factor [.ref 0, .int 0] mX9_factor [.ref 225, .int 0] I L R := sim_factor (X := (Lw, xs)) T
    obtain ⟨v, I2, L2, h1, h2, T2⟩ := sm
    refine ⟨I2, L2, R, w5, w6, w7, c + 0, k + 0, T2, by omega, by omega, fun r hr => ?_⟩
    refine e_tsI (j := 35) (off := 2328) 2368 dL_law_40 rfl (by rw [hx]; decide) (by decide) rfl rfl ?_
    refine f_aload_n (M := mL_law) 2369 dL_law_2368 rfl rfl ?_
    refine f_aload_n (M := mL_law) 2370 dL_law_2369 rfl rfl ?_
    refine f_iload (M := mL_law) 2372 dL_law_2370 rfl rfl ?_
    refine f_iconst (M := mL_law) 2373 dL_law_2372 ki_1 rfl ?_
    refine f_iadd (M := mL_law) 2374 dL_law_2373 rfl ?_
    refine e_iaf (M := mL_law) (w := Lw) (f := xs) (j := (7 * N) + (1)) dL_law_2374 (x_kk rfl) rfl (ix_add rfl kn_1) (by omega) (by omega) ?_
    refine e_if_eqT (M := mL_law) 2382 dL_law_2375 rfl hb ?_
    refine f_iconst (M := mL_law) 2383 dL_law_2382 ki_0 rfl ?_
    refine e_cV (M := mL_law) [_] (c + 0) (k + 0) dL_law_2383 pa_10280 pb_10280 cc_10280 rfl rfl rfl rfl rfl (show c + 0 ≤ 601024 by omega) (show k + 0 ≤ 7293034 by omega) rfl (h1) rfl ?_
    refine f_aload_n (M := mL_law) 2387 dL_law_2386 rfl rfl ?_
    refine f_aload_n (M := mL_law) 2388 dL_law_2387 rfl rfl ?_
    refine f_iload (M := mL_law) 2390 dL_law_2388 rfl rfl ?_
    refine f_iconst (M := mL_law) 2391 dL_law_2390 ki_1 rfl ?_
    refine f_iadd (M := mL_law) 2392 dL_law_2391 rfl ?_
    refine e_iaf (M := mL_law) (w := Lw) (f := xs) (j := (7 * N) + (1)) dL_law_2392 (x_kk rfl) rfl (ix_add rfl kn_1) (by omega) (by omega) ?_
    refine e_if_eqT (M := mL_law) 2400 dL_law_2393 rfl hb ?_
    refine f_iconst (M := mL_law) 2401 dL_law_2400 ki_0 rfl ?_
    refine e_cV (M := mL_law) [_, _] (c + 0) (k + 0) dL_law_2401 pa_10284 pb_10284 cc_10284 rfl rfl rfl rfl rfl (show c + 0 ≤ 601024 by omega) (show k + 0 ≤ 7293034 by omega) rfl (h2) rfl ?_
    refine e_icmp_eqT (M := mL_law) 2888 dL_law_2404 rfl rfl ?_
    refine f_iinc (M := mL_law) (ls' := [_, _, _, _, _, _, _, _]) 2891 dL_law_2888 ki_7 rfl rfl rfl rfl ?_
    refine f_goto (M := mL_law) 23 dL_law_2891 rfl ?_
    rw [show Int32.ofNat (7 * N) + 7 = Int32.ofNat (7 * (N + 1)) from ix_add rfl kn_7]; exact hr
  · skip
    have sm : y_DI N (Lw, xs) mX8_factor [.ref 0, .int 1] mX9_factor [.ref 225, .int 1] I L R := sim_factor (X := (Lw, xs)) T
    obtain ⟨v, I2, L2, h1, h2, T2⟩ := sm
    refine ⟨I2, L2, R, w5, w6, w7, c + 0, k + 0, T2, by omega, by omega, fun r hr => ?_⟩
    refine e_tsI (j := 35) (off := 2328) 2368 dL_law_40 rfl (by rw [hx]; decide) (by decide) rfl rfl ?_
    refine f_aload_n (M := mL_law) 2369 dL_law_2368 rfl rfl ?_
    refine f_aload_n (M := mL_law) 2370 dL_law_2369 rfl rfl ?_
    refine f_iload (M := mL_law) 2372 dL_law_2370 rfl rfl ?_
    refine f_iconst (M := mL_law) 2373 dL_law_2372 ki_1 rfl ?_
    refine f_iadd (M := mL_law) 2374 dL_law_2373 rfl ?_
    refine e_iaf (M := mL_law) (w := Lw) (f := xs) (j := (7 * N) + (1)) dL_law_2374 (x_kk rfl) rfl (ix_add rfl kn_1) (by omega) (by omega) ?_
    refine e_if_eqF (M := mL_law) 2382 dL_law_2375 rfl hb ?_
    refine f_iconst (M := mL_law) 2379 dL_law_2378 ki_1 rfl ?_
    refine f_goto (M := mL_law) 2383 dL_law_2379 rfl ?_
    refine e_cV (M := mL_law) [_] (c + 0) (k + 0) dL_law_2383 pa_10280 pb_10280 cc_10280 rfl rfl rfl rfl rfl (show c + 0 ≤ 601024 by omega) (show k + 0 ≤ 7293034 by omega) rfl (h1) rfl ?_
    refine f_aload_n (M := mL_law) 2387 dL_law_2386 rfl rfl ?_
    refine f_aload_n (M := mL_law) 2388 dL_law_2387 rfl rfl ?_
    refine f_iload (M := mL_law) 2390 dL_law_2388 rfl rfl ?_
    refine f_iconst (M := mL_law) 2391 dL_law_2390 ki_1 rfl ?_
    refine f_iadd (M := mL_law) 2392 dL_law_2391 rfl ?_
    refine e_iaf (M := mL_law) (w := Lw) (f := xs) (j := (7 * N) + (1)) dL_law_2392 (x_kk rfl) rfl (ix_add rfl kn_1) (by omega) (by omega) ?_
    refine e_if_eqF (M := mL_law) 2400 dL_law_2393 rfl hb ?_
    refine f_iconst (M := mL_law) 2397 dL_law_2396 ki_1 rfl ?_
    refine f_goto (M := mL_law) 2401 dL_law_2397 rfl ?_
    refine e_cV (M := mL_law) [_, _] (c + 0) (k + 0) dL_law_2401 pa_10284 pb_10284 cc_10284 rfl rfl rfl rfl rfl (show c + 0 ≤ 601024 by omega) (show k + 0 ≤ 7293034 by omega) rfl (h2) rfl ?_
    refine e_icmp_eqT (M := mL_law) 2888 dL_law_2404 rfl rfl ?_
    refine f_iinc (M := mL_law) (ls' := [_, _, _, _, _, _, _, _]) 2891 dL_law_2888 ki_7 rfl rfl rfl rfl ?_
    refine f_goto (M := mL_law) 23 dL_law_2891 rfl ?_
    rw [show Int32.ofNat (7 * N) + 7 = Int32.ofNat (7 * (N + 1)) from ix_add rfl kn_7]; exact hr
end
end
