/-! the law's cases, 3 -/
set_option maxRecDepth 100000 in
set_option maxHeartbeats 4000000 in
theorem cs_26 {G : zG} {X : zX} {L : Nat} {xs : Nat → Int32} {a b i : Nat} {S : zS} {J : Int64} {E : UInt64} (W : zLw G X L xs) (H : zInv S S) (hi : i + 3 ≤ L) (hL : L ≤ 1536) (ha : a + 25 ≤ 603072) (hb : b + 850 ≤ 7211114) (K : zGo G X a b i) : SN G X a b 1676 [some (.ref 400), some (.ref 0), some (.ref 12), some (.ref 23), some (.ref 24), some (zi i), none, none, none] [] S J E := by
  obtain ⟨C, Z, NC, hl, hG⟩ := W
  obtain ⟨x, hx, ex⟩ := zInt (xs (i + 1))
  obtain ⟨k, w, d1, d2, mc, ms, S1, S2, J1, ⟨h1, h2, h3, h4⟩, c1, c2, hk, hk5, hJ, H2⟩ := op_scepticCount hl (G := G) (J := J) (E := E) H hx
  refine sw_aload_1 C dL_law_1676 ?_
  refine sw_aload_0 C dL_law_1677 ?_
  refine sw_iload_5 C dL_law_1678 ?_
  refine sn_iconst C 1 (by decide) dL_law_1680 ?_
  refine sn_iadd C dL_law_1681 ?_
  refine sw_sld C Z (by omega) hL ex dL_law_1682 ?_
  refine sw_aload_3 C dL_law_1683 ?_
  refine sw_callW (as := [.ref 0, zi x, .ref 23]) (st := []) (n := 3) C (fun s e => e ▸ NC) wL_scepticCount rfl iL_law ⟨by decide, by decide⟩ (by decide) (by decide) sL_scepticCount kL_248 dL_law_1684 rfl (Nat.le_of_ble_eq_true rfl) c1 (by omega) (by omega) (by omega) ?_
  refine sw_istore_6 C rfl dL_law_1687 ?_
  refine sw_aload_2 C dL_law_1689 ?_
  refine sw_aload_0 C dL_law_1690 ?_
  refine sw_iload_5 C dL_law_1691 ?_
  refine sn_iconst C 1 (by decide) dL_law_1693 ?_
  refine sn_iadd C dL_law_1694 ?_
  refine sw_sld C Z (by omega) hL ex dL_law_1695 ?_
  refine sn_cV1r C vX6_scepticCount lL_250 rfl (by decide) rfl rfl dL_law_1696 (Nat.le_of_ble_eq_true rfl) c2 (by omega) (by omega) (by omega) ?_
  refine sw_istore_7 C rfl dL_law_1699 ?_
  refine sw_aload_2 C dL_law_1701 ?_
  refine sn_cV0r C vX6_thrown lL_164 rfl (by decide) rfl rfl dL_law_1702 (Nat.le_of_ble_eq_true rfl) (c_X6_thrown hl) (by omega) (by omega) (by omega) ?_
  refine sw_iload_6 C dL_law_1705 ?_
  refine sn_icmp_eq C 1712 (by omega) (by omega) dL_law_1707 (by decide) (fun c => ?_) (fun c => absurd hk c)
  refine sw_iload_6 C dL_law_1712 ?_
  refine sn_if_ne C 1729 (by omega) dL_law_1714 (by decide) (fun c1 => ?_) (fun c0 => ?_)
  · refine sw_goto C 2938 dL_law_1729 (by decide) ?_
    exact sw_fg (K _ _ _ _ _ (by omega) (by omega) H2)
  · have eJ := hJ c0
    refine sw_aload_3 C dL_law_1717 ?_
    refine sn_iconst C 0 (by decide) dL_law_1718 ?_
    refine sw_lald C dL_law_1719 ?_
    refine sw_iload_7 C dL_law_1720 ?_
    refine sw_i2l C dL_law_1722 ?_
    refine sw_lcmp C dL_law_1723 ?_
    refine sw_if_eq C 1729 dL_law_1724 (by decide) (fun _ => ?_) (fun c => absurd (by rw [eJ]; exact zCmp_self) c)
    refine sw_goto C 2938 dL_law_1729 (by decide) ?_
    exact sw_fg (K _ _ _ _ _ (by omega) (by omega) H2)
set_option maxRecDepth 100000 in
set_option maxHeartbeats 4000000 in
theorem cs_27 {G : zG} {X : zX} {L : Nat} {xs : Nat → Int32} {a b i : Nat} {S : zS} {J : Int64} {E : UInt64} (W : zLw G X L xs) (H : zInv S S) (hi : i + 3 ≤ L) (hL : L ≤ 1536) (ha : a + 25 ≤ 603072) (hb : b + 850 ≤ 7211114) (K : zGo G X a b i) : SN G X a b 1732 [some (.ref 400), some (.ref 0), some (.ref 12), some (.ref 23), some (.ref 24), some (zi i), none, none, none] [] S J E := by
  obtain ⟨C, Z, NC, hl, hG⟩ := W
  obtain ⟨x, hx, ex⟩ := zInt (xs (i + 1))
  obtain ⟨k, w, d1, d2, mc, ms, S1, S2, J1, ⟨h1, h2, h3, h4⟩, c1, c2, hk, hk5, hJ, H2⟩ := op_countedHive hl (G := G) (J := J) (E := E) H hx
  refine sw_aload_1 C dL_law_1732 ?_
  refine sw_aload_0 C dL_law_1733 ?_
  refine sw_iload_5 C dL_law_1734 ?_
  refine sn_iconst C 1 (by decide) dL_law_1736 ?_
  refine sn_iadd C dL_law_1737 ?_
  refine sw_sld C Z (by omega) hL ex dL_law_1738 ?_
  refine sw_aload_3 C dL_law_1739 ?_
  refine sw_callW (as := [.ref 0, zi x, .ref 23]) (st := []) (n := 3) C (fun s e => e ▸ NC) wL_countedHive rfl iL_law ⟨by decide, by decide⟩ (by decide) (by decide) sL_countedHive kL_251 dL_law_1740 rfl (Nat.le_of_ble_eq_true rfl) c1 (by omega) (by omega) (by omega) ?_
  refine sw_istore_6 C rfl dL_law_1743 ?_
  refine sw_aload_2 C dL_law_1745 ?_
  refine sw_aload_0 C dL_law_1746 ?_
  refine sw_iload_5 C dL_law_1747 ?_
  refine sn_iconst C 1 (by decide) dL_law_1749 ?_
  refine sn_iadd C dL_law_1750 ?_
  refine sw_sld C Z (by omega) hL ex dL_law_1751 ?_
  refine sn_cV1r C vX6_countedHive lL_253 rfl (by decide) rfl rfl dL_law_1752 (Nat.le_of_ble_eq_true rfl) c2 (by omega) (by omega) (by omega) ?_
  refine sw_istore_7 C rfl dL_law_1755 ?_
  refine sw_aload_2 C dL_law_1757 ?_
  refine sn_cV0r C vX6_thrown lL_164 rfl (by decide) rfl rfl dL_law_1758 (Nat.le_of_ble_eq_true rfl) (c_X6_thrown hl) (by omega) (by omega) (by omega) ?_
  refine sw_iload_6 C dL_law_1761 ?_
  refine sn_icmp_eq C 1768 (by omega) (by omega) dL_law_1763 (by decide) (fun c => ?_) (fun c => absurd hk c)
  refine sw_iload_6 C dL_law_1768 ?_
  refine sn_if_ne C 1785 (by omega) dL_law_1770 (by decide) (fun c1 => ?_) (fun c0 => ?_)
  · refine sw_goto C 2938 dL_law_1785 (by decide) ?_
    exact sw_fg (K _ _ _ _ _ (by omega) (by omega) H2)
  · have eJ := hJ c0
    refine sw_aload_3 C dL_law_1773 ?_
    refine sn_iconst C 0 (by decide) dL_law_1774 ?_
    refine sw_lald C dL_law_1775 ?_
    refine sw_iload_7 C dL_law_1776 ?_
    refine sw_i2l C dL_law_1778 ?_
    refine sw_lcmp C dL_law_1779 ?_
    refine sw_if_eq C 1785 dL_law_1780 (by decide) (fun _ => ?_) (fun c => absurd (by rw [eJ]; exact zCmp_self) c)
    refine sw_goto C 2938 dL_law_1785 (by decide) ?_
    exact sw_fg (K _ _ _ _ _ (by omega) (by omega) H2)
set_option maxRecDepth 100000 in
set_option maxHeartbeats 4000000 in
theorem cs_28 {G : zG} {X : zX} {L : Nat} {xs : Nat → Int32} {a b i : Nat} {S : zS} {J : Int64} {E : UInt64} (W : zLw G X L xs) (H : zInv S S) (hi : i + 3 ≤ L) (hL : L ≤ 1536) (ha : a + 25 ≤ 603072) (hb : b + 850 ≤ 7211114) (K : zGo G X a b i) : SN G X a b 1788 [some (.ref 400), some (.ref 0), some (.ref 12), some (.ref 23), some (.ref 24), some (zi i), none, none, none] [] S J E := by
  obtain ⟨C, Z, NC, hl, hG⟩ := W
  obtain ⟨x, hx, ex⟩ := zInt (xs (i + 1))
  obtain ⟨y, hy, ey⟩ := zInt (xs (i + 2))
  obtain ⟨k, w, d1, d2, mc, ms, S1, S2, J1, ⟨h1, h2, h3, h4⟩, c1, c2, hk, hk5, hJ, H2⟩ := op_spreadersInHive hl (G := G) (J := J) (E := E) H hx hy
  refine sw_aload_1 C dL_law_1788 ?_
  refine sw_aload_0 C dL_law_1789 ?_
  refine sw_iload_5 C dL_law_1790 ?_
  refine sn_iconst C 1 (by decide) dL_law_1792 ?_
  refine sn_iadd C dL_law_1793 ?_
  refine sw_sld C Z (by omega) hL ex dL_law_1794 ?_
  refine sw_aload_0 C dL_law_1795 ?_
  refine sw_iload_5 C dL_law_1796 ?_
  refine sn_iconst C 2 (by decide) dL_law_1798 ?_
  refine sn_iadd C dL_law_1799 ?_
  refine sw_sld C Z (by omega) hL ey dL_law_1800 ?_
  refine sw_aload_3 C dL_law_1801 ?_
  refine sw_callW (as := [.ref 0, zi x, zi y, .ref 23]) (st := []) (n := 4) C (fun s e => e ▸ NC) wL_spreadersInHive rfl iL_law ⟨by decide, by decide⟩ (by decide) (by decide) sL_spreadersInHive kL_254 dL_law_1802 rfl (Nat.le_of_ble_eq_true rfl) c1 (by omega) (by omega) (by omega) ?_
  refine sw_istore_6 C rfl dL_law_1805 ?_
  refine sw_aload_2 C dL_law_1807 ?_
  refine sw_aload_0 C dL_law_1808 ?_
  refine sw_iload_5 C dL_law_1809 ?_
  refine sn_iconst C 1 (by decide) dL_law_1811 ?_
  refine sn_iadd C dL_law_1812 ?_
  refine sw_sld C Z (by omega) hL ex dL_law_1813 ?_
  refine sw_aload_0 C dL_law_1814 ?_
  refine sw_iload_5 C dL_law_1815 ?_
  refine sn_iconst C 2 (by decide) dL_law_1817 ?_
  refine sn_iadd C dL_law_1818 ?_
  refine sw_sld C Z (by omega) hL ey dL_law_1819 ?_
  refine sn_cV2r C vX6_spreadersInHive lL_256 rfl (by decide) rfl rfl dL_law_1820 (Nat.le_of_ble_eq_true rfl) c2 (by omega) (by omega) (by omega) ?_
  refine sw_istore_7 C rfl dL_law_1823 ?_
  refine sw_aload_2 C dL_law_1825 ?_
  refine sn_cV0r C vX6_thrown lL_164 rfl (by decide) rfl rfl dL_law_1826 (Nat.le_of_ble_eq_true rfl) (c_X6_thrown hl) (by omega) (by omega) (by omega) ?_
  refine sw_iload_6 C dL_law_1829 ?_
  refine sn_icmp_eq C 1836 (by omega) (by omega) dL_law_1831 (by decide) (fun c => ?_) (fun c => absurd hk c)
  refine sw_iload_6 C dL_law_1836 ?_
  refine sn_if_ne C 1853 (by omega) dL_law_1838 (by decide) (fun c1 => ?_) (fun c0 => ?_)
  · refine sw_goto C 2938 dL_law_1853 (by decide) ?_
    exact sw_fg (K _ _ _ _ _ (by omega) (by omega) H2)
  · have eJ := hJ c0
    refine sw_aload_3 C dL_law_1841 ?_
    refine sn_iconst C 0 (by decide) dL_law_1842 ?_
    refine sw_lald C dL_law_1843 ?_
    refine sw_iload_7 C dL_law_1844 ?_
    refine sw_i2l C dL_law_1846 ?_
    refine sw_lcmp C dL_law_1847 ?_
    refine sw_if_eq C 1853 dL_law_1848 (by decide) (fun _ => ?_) (fun c => absurd (by rw [eJ]; exact zCmp_self) c)
    refine sw_goto C 2938 dL_law_1853 (by decide) ?_
    exact sw_fg (K _ _ _ _ _ (by omega) (by omega) H2)
set_option maxRecDepth 100000 in
set_option maxHeartbeats 4000000 in
theorem cs_29 {G : zG} {X : zX} {L : Nat} {xs : Nat → Int32} {a b i : Nat} {S : zS} {J : Int64} {E : UInt64} (W : zLw G X L xs) (H : zInv S S) (hi : i + 3 ≤ L) (hL : L ≤ 1536) (ha : a + 25 ≤ 603072) (hb : b + 850 ≤ 7211114) (K : zGo G X a b i) : SN G X a b 1856 [some (.ref 400), some (.ref 0), some (.ref 12), some (.ref 23), some (.ref 24), some (zi i), none, none, none] [] S J E := by
  obtain ⟨C, Z, NC, hl, hG⟩ := W
  obtain ⟨x, hx, ex⟩ := zInt (xs (i + 1))
  obtain ⟨y, hy, ey⟩ := zInt (xs (i + 2))
  obtain ⟨k, w, d1, d2, mc, ms, S1, S2, J1, ⟨h1, h2, h3, h4⟩, c1, c2, hk, hk5, hJ, H2⟩ := op_distance hl (G := G) (J := J) (E := E) H hx hy
  refine sw_aload_1 C dL_law_1856 ?_
  refine sw_aload_0 C dL_law_1857 ?_
  refine sw_iload_5 C dL_law_1858 ?_
  refine sn_iconst C 1 (by decide) dL_law_1860 ?_
  refine sn_iadd C dL_law_1861 ?_
  refine sw_sld C Z (by omega) hL ex dL_law_1862 ?_
  refine sw_aload_0 C dL_law_1863 ?_
  refine sw_iload_5 C dL_law_1864 ?_
  refine sn_iconst C 2 (by decide) dL_law_1866 ?_
  refine sn_iadd C dL_law_1867 ?_
  refine sw_sld C Z (by omega) hL ey dL_law_1868 ?_
  refine sw_aload_3 C dL_law_1869 ?_
  refine sw_callW (as := [.ref 0, zi x, zi y, .ref 23]) (st := []) (n := 4) C (fun s e => e ▸ NC) wL_distance rfl iL_law ⟨by decide, by decide⟩ (by decide) (by decide) sL_distance kL_257 dL_law_1870 rfl (Nat.le_of_ble_eq_true rfl) c1 (by omega) (by omega) (by omega) ?_
  refine sw_istore_6 C rfl dL_law_1873 ?_
  refine sw_aload_2 C dL_law_1875 ?_
  refine sw_aload_0 C dL_law_1876 ?_
  refine sw_iload_5 C dL_law_1877 ?_
  refine sn_iconst C 1 (by decide) dL_law_1879 ?_
  refine sn_iadd C dL_law_1880 ?_
  refine sw_sld C Z (by omega) hL ex dL_law_1881 ?_
  refine sw_aload_0 C dL_law_1882 ?_
  refine sw_iload_5 C dL_law_1883 ?_
  refine sn_iconst C 2 (by decide) dL_law_1885 ?_
  refine sn_iadd C dL_law_1886 ?_
  refine sw_sld C Z (by omega) hL ey dL_law_1887 ?_
  refine sn_cV2r C vX6_distance lL_259 rfl (by decide) rfl rfl dL_law_1888 (Nat.le_of_ble_eq_true rfl) c2 (by omega) (by omega) (by omega) ?_
  refine sw_istore_7 C rfl dL_law_1891 ?_
  refine sw_aload_2 C dL_law_1893 ?_
  refine sn_cV0r C vX6_thrown lL_164 rfl (by decide) rfl rfl dL_law_1894 (Nat.le_of_ble_eq_true rfl) (c_X6_thrown hl) (by omega) (by omega) (by omega) ?_
  refine sw_iload_6 C dL_law_1897 ?_
  refine sn_icmp_eq C 1904 (by omega) (by omega) dL_law_1899 (by decide) (fun c => ?_) (fun c => absurd hk c)
  refine sw_iload_6 C dL_law_1904 ?_
  refine sn_if_ne C 1921 (by omega) dL_law_1906 (by decide) (fun c1 => ?_) (fun c0 => ?_)
  · refine sw_goto C 2938 dL_law_1921 (by decide) ?_
    exact sw_fg (K _ _ _ _ _ (by omega) (by omega) H2)
  · have eJ := hJ c0
    refine sw_aload_3 C dL_law_1909 ?_
    refine sn_iconst C 0 (by decide) dL_law_1910 ?_
    refine sw_lald C dL_law_1911 ?_
    refine sw_iload_7 C dL_law_1912 ?_
    refine sw_i2l C dL_law_1914 ?_
    refine sw_lcmp C dL_law_1915 ?_
    refine sw_if_eq C 1921 dL_law_1916 (by decide) (fun _ => ?_) (fun c => absurd (by rw [eJ]; exact zCmp_self) c)
    refine sw_goto C 2938 dL_law_1921 (by decide) ?_
    exact sw_fg (K _ _ _ _ _ (by omega) (by omega) H2)
set_option maxRecDepth 100000 in
set_option maxHeartbeats 4000000 in
theorem cs_30 {G : zG} {X : zX} {L : Nat} {xs : Nat → Int32} {a b i : Nat} {S : zS} {J : Int64} {E : UInt64} (W : zLw G X L xs) (H : zInv S S) (hi : i + 3 ≤ L) (hL : L ≤ 1536) (ha : a + 25 ≤ 603072) (hb : b + 850 ≤ 7211114) (K : zGo G X a b i) : SN G X a b 1924 [some (.ref 400), some (.ref 0), some (.ref 12), some (.ref 23), some (.ref 24), some (zi i), none, none, none] [] S J E := by
  obtain ⟨C, Z, NC, hl, hG⟩ := W
  obtain ⟨x, hx, ex⟩ := zInt (xs (i + 1))
  obtain ⟨y, hy, ey⟩ := zInt (xs (i + 2))
  obtain ⟨k, w, d1, d2, mc, ms, S1, S2, J1, ⟨h1, h2, h3, h4⟩, c1, c2, hk, hk5, hJ, H2⟩ := op_distanceByRelaxation hl (G := G) (J := J) (E := E) H hx hy
  refine sw_aload_1 C dL_law_1924 ?_
  refine sw_aload_0 C dL_law_1925 ?_
  refine sw_iload_5 C dL_law_1926 ?_
  refine sn_iconst C 1 (by decide) dL_law_1928 ?_
  refine sn_iadd C dL_law_1929 ?_
  refine sw_sld C Z (by omega) hL ex dL_law_1930 ?_
  refine sw_aload_0 C dL_law_1931 ?_
  refine sw_iload_5 C dL_law_1932 ?_
  refine sn_iconst C 2 (by decide) dL_law_1934 ?_
  refine sn_iadd C dL_law_1935 ?_
  refine sw_sld C Z (by omega) hL ey dL_law_1936 ?_
  refine sw_aload_3 C dL_law_1937 ?_
  refine sw_callW (as := [.ref 0, zi x, zi y, .ref 23]) (st := []) (n := 4) C (fun s e => e ▸ NC) wL_distanceByRelaxation rfl iL_law ⟨by decide, by decide⟩ (by decide) (by decide) sL_distanceByRelaxation kL_260 dL_law_1938 rfl (Nat.le_of_ble_eq_true rfl) c1 (by omega) (by omega) (by omega) ?_
  refine sw_istore_6 C rfl dL_law_1941 ?_
  refine sw_aload_2 C dL_law_1943 ?_
  refine sw_aload_0 C dL_law_1944 ?_
  refine sw_iload_5 C dL_law_1945 ?_
  refine sn_iconst C 1 (by decide) dL_law_1947 ?_
  refine sn_iadd C dL_law_1948 ?_
  refine sw_sld C Z (by omega) hL ex dL_law_1949 ?_
  refine sw_aload_0 C dL_law_1950 ?_
  refine sw_iload_5 C dL_law_1951 ?_
  refine sn_iconst C 2 (by decide) dL_law_1953 ?_
  refine sn_iadd C dL_law_1954 ?_
  refine sw_sld C Z (by omega) hL ey dL_law_1955 ?_
  refine sn_cV2r C vX6_distanceByRelaxation lL_262 rfl (by decide) rfl rfl dL_law_1956 (Nat.le_of_ble_eq_true rfl) c2 (by omega) (by omega) (by omega) ?_
  refine sw_istore_7 C rfl dL_law_1959 ?_
  refine sw_aload_2 C dL_law_1961 ?_
  refine sn_cV0r C vX6_thrown lL_164 rfl (by decide) rfl rfl dL_law_1962 (Nat.le_of_ble_eq_true rfl) (c_X6_thrown hl) (by omega) (by omega) (by omega) ?_
  refine sw_iload_6 C dL_law_1965 ?_
  refine sn_icmp_eq C 1972 (by omega) (by omega) dL_law_1967 (by decide) (fun c => ?_) (fun c => absurd hk c)
  refine sw_iload_6 C dL_law_1972 ?_
  refine sn_if_ne C 1989 (by omega) dL_law_1974 (by decide) (fun c1 => ?_) (fun c0 => ?_)
  · refine sw_goto C 2938 dL_law_1989 (by decide) ?_
    exact sw_fg (K _ _ _ _ _ (by omega) (by omega) H2)
  · have eJ := hJ c0
    refine sw_aload_3 C dL_law_1977 ?_
    refine sn_iconst C 0 (by decide) dL_law_1978 ?_
    refine sw_lald C dL_law_1979 ?_
    refine sw_iload_7 C dL_law_1980 ?_
    refine sw_i2l C dL_law_1982 ?_
    refine sw_lcmp C dL_law_1983 ?_
    refine sw_if_eq C 1989 dL_law_1984 (by decide) (fun _ => ?_) (fun c => absurd (by rw [eJ]; exact zCmp_self) c)
    refine sw_goto C 2938 dL_law_1989 (by decide) ?_
    exact sw_fg (K _ _ _ _ _ (by omega) (by omega) H2)
set_option maxRecDepth 100000 in
set_option maxHeartbeats 4000000 in
theorem cs_31 {G : zG} {X : zX} {L : Nat} {xs : Nat → Int32} {a b i : Nat} {S : zS} {J : Int64} {E : UInt64} (W : zLw G X L xs) (H : zInv S S) (hi : i + 3 ≤ L) (hL : L ≤ 1536) (ha : a + 25 ≤ 603072) (hb : b + 850 ≤ 7211114) (K : zGo G X a b i) : SN G X a b 1992 [some (.ref 400), some (.ref 0), some (.ref 12), some (.ref 23), some (.ref 24), some (zi i), none, none, none] [] S J E := by
  obtain ⟨C, Z, NC, hl, hG⟩ := W
  obtain ⟨x, hx, ex⟩ := zInt (xs (i + 1))
  obtain ⟨k, w, d1, d2, mc, ms, S1, S2, J1, ⟨h1, h2, h3, h4⟩, c1, c2, hk, hk5, hJ, H2⟩ := op_nextSpreaders hl (G := G) (J := J) (E := E) H hx
  refine sw_aload_1 C dL_law_1992 ?_
  refine sw_aload_0 C dL_law_1993 ?_
  refine sw_iload_5 C dL_law_1994 ?_
  refine sn_iconst C 1 (by decide) dL_law_1996 ?_
  refine sn_iadd C dL_law_1997 ?_
  refine sw_sld C Z (by omega) hL ex dL_law_1998 ?_
  refine sw_aload_3 C dL_law_1999 ?_
  refine sw_callW (as := [.ref 0, zi x, .ref 23]) (st := []) (n := 3) C (fun s e => e ▸ NC) wL_nextSpreaders rfl iL_law ⟨by decide, by decide⟩ (by decide) (by decide) sL_nextSpreaders kL_263 dL_law_2000 rfl (Nat.le_of_ble_eq_true rfl) c1 (by omega) (by omega) (by omega) ?_
  refine sw_istore_6 C rfl dL_law_2003 ?_
  refine sw_aload_2 C dL_law_2005 ?_
  refine sw_aload_0 C dL_law_2006 ?_
  refine sw_iload_5 C dL_law_2007 ?_
  refine sn_iconst C 1 (by decide) dL_law_2009 ?_
  refine sn_iadd C dL_law_2010 ?_
  refine sw_sld C Z (by omega) hL ex dL_law_2011 ?_
  refine sn_cV1r C vX6_nextSpreaders lL_265 rfl (by decide) rfl rfl dL_law_2012 (Nat.le_of_ble_eq_true rfl) c2 (by omega) (by omega) (by omega) ?_
  refine sw_istore_7 C rfl dL_law_2015 ?_
  refine sw_aload_2 C dL_law_2017 ?_
  refine sn_cV0r C vX6_thrown lL_164 rfl (by decide) rfl rfl dL_law_2018 (Nat.le_of_ble_eq_true rfl) (c_X6_thrown hl) (by omega) (by omega) (by omega) ?_
  refine sw_iload_6 C dL_law_2021 ?_
  refine sn_icmp_eq C 2028 (by omega) (by omega) dL_law_2023 (by decide) (fun c => ?_) (fun c => absurd hk c)
  refine sw_iload_6 C dL_law_2028 ?_
  refine sn_if_ne C 2045 (by omega) dL_law_2030 (by decide) (fun c1 => ?_) (fun c0 => ?_)
  · refine sw_goto C 2938 dL_law_2045 (by decide) ?_
    exact sw_fg (K _ _ _ _ _ (by omega) (by omega) H2)
  · have eJ := hJ c0
    refine sw_aload_3 C dL_law_2033 ?_
    refine sn_iconst C 0 (by decide) dL_law_2034 ?_
    refine sw_lald C dL_law_2035 ?_
    refine sw_iload_7 C dL_law_2036 ?_
    refine sw_i2l C dL_law_2038 ?_
    refine sw_lcmp C dL_law_2039 ?_
    refine sw_if_eq C 2045 dL_law_2040 (by decide) (fun _ => ?_) (fun c => absurd (by rw [eJ]; exact zCmp_self) c)
    refine sw_goto C 2938 dL_law_2045 (by decide) ?_
    exact sw_fg (K _ _ _ _ _ (by omega) (by omega) H2)
set_option maxRecDepth 100000 in
set_option maxHeartbeats 4000000 in
theorem cs_32 {G : zG} {X : zX} {L : Nat} {xs : Nat → Int32} {a b i : Nat} {S : zS} {J : Int64} {E : UInt64} (W : zLw G X L xs) (H : zInv S S) (hi : i + 3 ≤ L) (hL : L ≤ 1536) (ha : a + 25 ≤ 603072) (hb : b + 850 ≤ 7211114) (K : zGo G X a b i) : SN G X a b 2048 [some (.ref 400), some (.ref 0), some (.ref 12), some (.ref 23), some (.ref 24), some (zi i), none, none, none] [] S J E := by
  obtain ⟨C, Z, NC, hl, hG⟩ := W
  obtain ⟨x, hx, ex⟩ := zInt (xs (i + 1))
  obtain ⟨y, hy, ey⟩ := zInt (xs (i + 2))
  obtain ⟨k, w, d1, d2, mc, ms, S1, S2, J1, ⟨h1, h2, h3, h4⟩, c1, c2, hk, hk5, hJ, H2⟩ := op_roundsUntilHeard hl (G := G) (J := J) (E := E) H hx hy
  refine sw_aload_1 C dL_law_2048 ?_
  refine sw_aload_0 C dL_law_2049 ?_
  refine sw_iload_5 C dL_law_2050 ?_
  refine sn_iconst C 1 (by decide) dL_law_2052 ?_
  refine sn_iadd C dL_law_2053 ?_
  refine sw_sld C Z (by omega) hL ex dL_law_2054 ?_
  refine sw_aload_0 C dL_law_2055 ?_
  refine sw_iload_5 C dL_law_2056 ?_
  refine sn_iconst C 2 (by decide) dL_law_2058 ?_
  refine sn_iadd C dL_law_2059 ?_
  refine sw_sld C Z (by omega) hL ey dL_law_2060 ?_
  refine sw_aload_3 C dL_law_2061 ?_
  refine sw_callW (as := [.ref 0, zi x, zi y, .ref 23]) (st := []) (n := 4) C (fun s e => e ▸ NC) wL_roundsUntilHeard rfl iL_law ⟨by decide, by decide⟩ (by decide) (by decide) sL_roundsUntilHeard kL_266 dL_law_2062 rfl (Nat.le_of_ble_eq_true rfl) c1 (by omega) (by omega) (by omega) ?_
  refine sw_istore_6 C rfl dL_law_2065 ?_
  refine sw_aload_2 C dL_law_2067 ?_
  refine sw_aload_0 C dL_law_2068 ?_
  refine sw_iload_5 C dL_law_2069 ?_
  refine sn_iconst C 1 (by decide) dL_law_2071 ?_
  refine sn_iadd C dL_law_2072 ?_
  refine sw_sld C Z (by omega) hL ex dL_law_2073 ?_
  refine sw_aload_0 C dL_law_2074 ?_
  refine sw_iload_5 C dL_law_2075 ?_
  refine sn_iconst C 2 (by decide) dL_law_2077 ?_
  refine sn_iadd C dL_law_2078 ?_
  refine sw_sld C Z (by omega) hL ey dL_law_2079 ?_
  refine sn_cV2r C vX6_roundsUntilHeard lL_268 rfl (by decide) rfl rfl dL_law_2080 (Nat.le_of_ble_eq_true rfl) c2 (by omega) (by omega) (by omega) ?_
  refine sw_istore_7 C rfl dL_law_2083 ?_
  refine sw_aload_2 C dL_law_2085 ?_
  refine sn_cV0r C vX6_thrown lL_164 rfl (by decide) rfl rfl dL_law_2086 (Nat.le_of_ble_eq_true rfl) (c_X6_thrown hl) (by omega) (by omega) (by omega) ?_
  refine sw_iload_6 C dL_law_2089 ?_
  refine sn_icmp_eq C 2096 (by omega) (by omega) dL_law_2091 (by decide) (fun c => ?_) (fun c => absurd hk c)
  refine sw_iload_6 C dL_law_2096 ?_
  refine sn_if_ne C 2113 (by omega) dL_law_2098 (by decide) (fun c1 => ?_) (fun c0 => ?_)
  · refine sw_goto C 2938 dL_law_2113 (by decide) ?_
    exact sw_fg (K _ _ _ _ _ (by omega) (by omega) H2)
  · have eJ := hJ c0
    refine sw_aload_3 C dL_law_2101 ?_
    refine sn_iconst C 0 (by decide) dL_law_2102 ?_
    refine sw_lald C dL_law_2103 ?_
    refine sw_iload_7 C dL_law_2104 ?_
    refine sw_i2l C dL_law_2106 ?_
    refine sw_lcmp C dL_law_2107 ?_
    refine sw_if_eq C 2113 dL_law_2108 (by decide) (fun _ => ?_) (fun c => absurd (by rw [eJ]; exact zCmp_self) c)
    refine sw_goto C 2938 dL_law_2113 (by decide) ?_
    exact sw_fg (K _ _ _ _ _ (by omega) (by omega) H2)
set_option maxRecDepth 100000 in
set_option maxHeartbeats 4000000 in
theorem cs_33 {G : zG} {X : zX} {L : Nat} {xs : Nat → Int32} {a b i : Nat} {S : zS} {J : Int64} {E : UInt64} (W : zLw G X L xs) (H : zInv S S) (hi : i + 3 ≤ L) (hL : L ≤ 1536) (ha : a + 25 ≤ 603072) (hb : b + 850 ≤ 7211114) (K : zGo G X a b i) : SN G X a b 2116 [some (.ref 400), some (.ref 0), some (.ref 12), some (.ref 23), some (.ref 24), some (zi i), none, none, none] [] S J E := by
  obtain ⟨C, Z, NC, hl, hG⟩ := W
  obtain ⟨x, hx, ex⟩ := zInt (xs (i + 1))
  obtain ⟨y, hy, ey⟩ := zInt (xs (i + 2))
  obtain ⟨k, w, d1, d2, mc, ms, S1, S2, J1, ⟨h1, h2, h3, h4⟩, c1, c2, hk, hk5, hJ, H2⟩ := op_spreadersAfter hl (G := G) (J := J) (E := E) H hx hy
  refine sw_aload_1 C dL_law_2116 ?_
  refine sw_aload_0 C dL_law_2117 ?_
  refine sw_iload_5 C dL_law_2118 ?_
  refine sn_iconst C 1 (by decide) dL_law_2120 ?_
  refine sn_iadd C dL_law_2121 ?_
  refine sw_sld C Z (by omega) hL ex dL_law_2122 ?_
  refine sw_aload_0 C dL_law_2123 ?_
  refine sw_iload_5 C dL_law_2124 ?_
  refine sn_iconst C 2 (by decide) dL_law_2126 ?_
  refine sn_iadd C dL_law_2127 ?_
  refine sw_sld C Z (by omega) hL ey dL_law_2128 ?_
  refine sw_aload_3 C dL_law_2129 ?_
  refine sw_callW (as := [.ref 0, zi x, zi y, .ref 23]) (st := []) (n := 4) C (fun s e => e ▸ NC) wL_spreadersAfter rfl iL_law ⟨by decide, by decide⟩ (by decide) (by decide) sL_spreadersAfter kL_269 dL_law_2130 rfl (Nat.le_of_ble_eq_true rfl) c1 (by omega) (by omega) (by omega) ?_
  refine sw_istore_6 C rfl dL_law_2133 ?_
  refine sw_aload_2 C dL_law_2135 ?_
  refine sw_aload_0 C dL_law_2136 ?_
  refine sw_iload_5 C dL_law_2137 ?_
  refine sn_iconst C 1 (by decide) dL_law_2139 ?_
  refine sn_iadd C dL_law_2140 ?_
  refine sw_sld C Z (by omega) hL ex dL_law_2141 ?_
  refine sw_aload_0 C dL_law_2142 ?_
  refine sw_iload_5 C dL_law_2143 ?_
  refine sn_iconst C 2 (by decide) dL_law_2145 ?_
  refine sn_iadd C dL_law_2146 ?_
  refine sw_sld C Z (by omega) hL ey dL_law_2147 ?_
  refine sn_cV2r C vX6_spreadersAfter lL_271 rfl (by decide) rfl rfl dL_law_2148 (Nat.le_of_ble_eq_true rfl) c2 (by omega) (by omega) (by omega) ?_
  refine sw_istore_7 C rfl dL_law_2151 ?_
  refine sw_aload_2 C dL_law_2153 ?_
  refine sn_cV0r C vX6_thrown lL_164 rfl (by decide) rfl rfl dL_law_2154 (Nat.le_of_ble_eq_true rfl) (c_X6_thrown hl) (by omega) (by omega) (by omega) ?_
  refine sw_iload_6 C dL_law_2157 ?_
  refine sn_icmp_eq C 2164 (by omega) (by omega) dL_law_2159 (by decide) (fun c => ?_) (fun c => absurd hk c)
  refine sw_iload_6 C dL_law_2164 ?_
  refine sn_if_ne C 2181 (by omega) dL_law_2166 (by decide) (fun c1 => ?_) (fun c0 => ?_)
  · refine sw_goto C 2938 dL_law_2181 (by decide) ?_
    exact sw_fg (K _ _ _ _ _ (by omega) (by omega) H2)
  · have eJ := hJ c0
    refine sw_aload_3 C dL_law_2169 ?_
    refine sn_iconst C 0 (by decide) dL_law_2170 ?_
    refine sw_lald C dL_law_2171 ?_
    refine sw_iload_7 C dL_law_2172 ?_
    refine sw_i2l C dL_law_2174 ?_
    refine sw_lcmp C dL_law_2175 ?_
    refine sw_if_eq C 2181 dL_law_2176 (by decide) (fun _ => ?_) (fun c => absurd (by rw [eJ]; exact zCmp_self) c)
    refine sw_goto C 2938 dL_law_2181 (by decide) ?_
    exact sw_fg (K _ _ _ _ _ (by omega) (by omega) H2)
set_option maxRecDepth 100000 in
set_option maxHeartbeats 4000000 in
theorem cs_34 {G : zG} {X : zX} {L : Nat} {xs : Nat → Int32} {a b i : Nat} {S : zS} {J : Int64} {E : UInt64} (W : zLw G X L xs) (H : zInv S S) (hi : i + 3 ≤ L) (hL : L ≤ 1536) (ha : a + 25 ≤ 603072) (hb : b + 850 ≤ 7211114) (K : zGo G X a b i) : SN G X a b 2184 [some (.ref 400), some (.ref 0), some (.ref 12), some (.ref 23), some (.ref 24), some (zi i), none, none, none] [] S J E := by
  obtain ⟨C, Z, NC, hl, hG⟩ := W
  obtain ⟨x, hx, ex⟩ := zInt (xs (i + 1))
  obtain ⟨k, w, d1, d2, mc, ms, S1, S2, J1, ⟨h1, h2, h3, h4⟩, c1, c2, hk, hk5, hJ, H2⟩ := op_rumourBySpread hl (G := G) (J := J) (E := E) H hx
  refine sw_aload_1 C dL_law_2184 ?_
  refine sw_aload_0 C dL_law_2185 ?_
  refine sw_iload_5 C dL_law_2186 ?_
  refine sn_iconst C 1 (by decide) dL_law_2188 ?_
  refine sn_iadd C dL_law_2189 ?_
  refine sw_sld C Z (by omega) hL ex dL_law_2190 ?_
  refine sw_aload_3 C dL_law_2191 ?_
  refine sw_callW (as := [.ref 0, zi x, .ref 23]) (st := []) (n := 3) C (fun s e => e ▸ NC) wL_rumourBySpread rfl iL_law ⟨by decide, by decide⟩ (by decide) (by decide) sL_rumourBySpread kL_272 dL_law_2192 rfl (Nat.le_of_ble_eq_true rfl) c1 (by omega) (by omega) (by omega) ?_
  refine sw_istore_6 C rfl dL_law_2195 ?_
  refine sw_aload_2 C dL_law_2197 ?_
  refine sw_aload_0 C dL_law_2198 ?_
  refine sw_iload_5 C dL_law_2199 ?_
  refine sn_iconst C 1 (by decide) dL_law_2201 ?_
  refine sn_iadd C dL_law_2202 ?_
  refine sw_sld C Z (by omega) hL ex dL_law_2203 ?_
  refine sn_cV1r C vX6_rumourBySpread lL_274 rfl (by decide) rfl rfl dL_law_2204 (Nat.le_of_ble_eq_true rfl) c2 (by omega) (by omega) (by omega) ?_
  refine sw_istore_7 C rfl dL_law_2207 ?_
  refine sw_aload_2 C dL_law_2209 ?_
  refine sn_cV0r C vX6_thrown lL_164 rfl (by decide) rfl rfl dL_law_2210 (Nat.le_of_ble_eq_true rfl) (c_X6_thrown hl) (by omega) (by omega) (by omega) ?_
  refine sw_iload_6 C dL_law_2213 ?_
  refine sn_icmp_eq C 2220 (by omega) (by omega) dL_law_2215 (by decide) (fun c => ?_) (fun c => absurd hk c)
  refine sw_iload_6 C dL_law_2220 ?_
  refine sn_if_ne C 2237 (by omega) dL_law_2222 (by decide) (fun c1 => ?_) (fun c0 => ?_)
  · refine sw_goto C 2938 dL_law_2237 (by decide) ?_
    exact sw_fg (K _ _ _ _ _ (by omega) (by omega) H2)
  · have eJ := hJ c0
    refine sw_aload_3 C dL_law_2225 ?_
    refine sn_iconst C 0 (by decide) dL_law_2226 ?_
    refine sw_lald C dL_law_2227 ?_
    refine sw_iload_7 C dL_law_2228 ?_
    refine sw_i2l C dL_law_2230 ?_
    refine sw_lcmp C dL_law_2231 ?_
    refine sw_if_eq C 2237 dL_law_2232 (by decide) (fun _ => ?_) (fun c => absurd (by rw [eJ]; exact zCmp_self) c)
    refine sw_goto C 2938 dL_law_2237 (by decide) ?_
    exact sw_fg (K _ _ _ _ _ (by omega) (by omega) H2)
set_option maxRecDepth 100000 in
set_option maxHeartbeats 4000000 in
theorem cs_35 {G : zG} {X : zX} {L : Nat} {xs : Nat → Int32} {a b i : Nat} {S : zS} {J : Int64} {E : UInt64} (W : zLw G X L xs) (H : zInv S S) (hi : i + 3 ≤ L) (hL : L ≤ 1536) (ha : a + 25 ≤ 603072) (hb : b + 850 ≤ 7211114) (K : zGo G X a b i) : SN G X a b 2240 [some (.ref 400), some (.ref 0), some (.ref 12), some (.ref 23), some (.ref 24), some (zi i), none, none, none] [] S J E := by
  obtain ⟨C, Z, NC, hl, hG⟩ := W
  obtain ⟨x, hx, ex⟩ := zInt (xs (i + 1))
  obtain ⟨k, w, d1, d2, mc, ms, S1, S2, J1, ⟨h1, h2, h3, h4⟩, c1, c2, hk, hk5, hJ, H2⟩ := op_listenerByGossip hl (G := G) (J := J) (E := E) H hx
  refine sw_aload_1 C dL_law_2240 ?_
  refine sw_aload_0 C dL_law_2241 ?_
  refine sw_iload_5 C dL_law_2242 ?_
  refine sn_iconst C 1 (by decide) dL_law_2244 ?_
  refine sn_iadd C dL_law_2245 ?_
  refine sw_sld C Z (by omega) hL ex dL_law_2246 ?_
  refine sw_aload_3 C dL_law_2247 ?_
  refine sw_callW (as := [.ref 0, zi x, .ref 23]) (st := []) (n := 3) C (fun s e => e ▸ NC) wL_listenerByGossip rfl iL_law ⟨by decide, by decide⟩ (by decide) (by decide) sL_listenerByGossip kL_275 dL_law_2248 rfl (Nat.le_of_ble_eq_true rfl) c1 (by omega) (by omega) (by omega) ?_
  refine sw_istore_6 C rfl dL_law_2251 ?_
  refine sw_aload_2 C dL_law_2253 ?_
  refine sw_aload_0 C dL_law_2254 ?_
  refine sw_iload_5 C dL_law_2255 ?_
  refine sn_iconst C 1 (by decide) dL_law_2257 ?_
  refine sn_iadd C dL_law_2258 ?_
  refine sw_sld C Z (by omega) hL ex dL_law_2259 ?_
  refine sn_cV1r C vX6_listenerByGossip lL_277 rfl (by decide) rfl rfl dL_law_2260 (Nat.le_of_ble_eq_true rfl) c2 (by omega) (by omega) (by omega) ?_
  refine sw_istore_7 C rfl dL_law_2263 ?_
  refine sw_aload_2 C dL_law_2265 ?_
  refine sn_cV0r C vX6_thrown lL_164 rfl (by decide) rfl rfl dL_law_2266 (Nat.le_of_ble_eq_true rfl) (c_X6_thrown hl) (by omega) (by omega) (by omega) ?_
  refine sw_iload_6 C dL_law_2269 ?_
  refine sn_icmp_eq C 2276 (by omega) (by omega) dL_law_2271 (by decide) (fun c => ?_) (fun c => absurd hk c)
  refine sw_iload_6 C dL_law_2276 ?_
  refine sn_if_ne C 2293 (by omega) dL_law_2278 (by decide) (fun c1 => ?_) (fun c0 => ?_)
  · refine sw_goto C 2938 dL_law_2293 (by decide) ?_
    exact sw_fg (K _ _ _ _ _ (by omega) (by omega) H2)
  · have eJ := hJ c0
    refine sw_aload_3 C dL_law_2281 ?_
    refine sn_iconst C 0 (by decide) dL_law_2282 ?_
    refine sw_lald C dL_law_2283 ?_
    refine sw_iload_7 C dL_law_2284 ?_
    refine sw_i2l C dL_law_2286 ?_
    refine sw_lcmp C dL_law_2287 ?_
    refine sw_if_eq C 2293 dL_law_2288 (by decide) (fun _ => ?_) (fun c => absurd (by rw [eJ]; exact zCmp_self) c)
    refine sw_goto C 2938 dL_law_2293 (by decide) ?_
    exact sw_fg (K _ _ _ _ _ (by omega) (by omega) H2)
set_option maxRecDepth 100000 in
set_option maxHeartbeats 4000000 in
theorem cs_36 {G : zG} {X : zX} {L : Nat} {xs : Nat → Int32} {a b i : Nat} {S : zS} {J : Int64} {E : UInt64} (W : zLw G X L xs) (H : zInv S S) (hi : i + 3 ≤ L) (hL : L ≤ 1536) (ha : a + 25 ≤ 603072) (hb : b + 850 ≤ 7211114) (K : zGo G X a b i) : SN G X a b 2296 [some (.ref 400), some (.ref 0), some (.ref 12), some (.ref 23), some (.ref 24), some (zi i), none, none, none] [] S J E := by
  obtain ⟨C, Z, NC, hl, hG⟩ := W
  obtain ⟨v, w, d1, d2, S1, S2, ⟨h1, h2⟩, c1, c2, hv, H2⟩ := op_round hl (G := G) (J := J) (E := E) H
  refine sw_aload_1 C dL_law_2296 ?_
  refine sn_cV0r C vX5_round lL_278 rfl (by decide) rfl rfl dL_law_2297 (Nat.le_of_ble_eq_true rfl) c1 (by omega) (by omega) (by omega) ?_
  refine sw_aload_2 C dL_law_2300 ?_
  refine sn_cV0r C vX6_round lL_281 rfl (by decide) rfl rfl dL_law_2301 (Nat.le_of_ble_eq_true rfl) c2 (by omega) (by omega) (by omega) ?_
  exact sw_icmp_eq C 2938 dL_law_2304 (by decide) (fun c => K _ _ _ _ _ (by omega) (by omega) H2) (fun c => absurd hv c)
set_option maxRecDepth 100000 in
set_option maxHeartbeats 4000000 in
theorem cs_37 {G : zG} {X : zX} {L : Nat} {xs : Nat → Int32} {a b i : Nat} {S : zS} {J : Int64} {E : UInt64} (W : zLw G X L xs) (H : zInv S S) (hi : i + 3 ≤ L) (hL : L ≤ 1536) (ha : a + 25 ≤ 603072) (hb : b + 850 ≤ 7211114) (K : zGo G X a b i) : SN G X a b 2309 [some (.ref 400), some (.ref 0), some (.ref 12), some (.ref 23), some (.ref 24), some (zi i), none, none, none] [] S J E := by
  obtain ⟨C, Z, NC, hl, hG⟩ := W
  obtain ⟨v, w, d1, d2, S1, S2, ⟨h1, h2⟩, c1, c2, hv, H2⟩ := op_heardTotal hl (G := G) (J := J) (E := E) H
  refine sw_aload_1 C dL_law_2309 ?_
  refine sn_cV0r C vX5_heardTotal lL_282 rfl (by decide) rfl rfl dL_law_2310 (Nat.le_of_ble_eq_true rfl) c1 (by omega) (by omega) (by omega) ?_
  refine sw_aload_2 C dL_law_2313 ?_
  refine sn_cV0r C vX6_heardTotal lL_285 rfl (by decide) rfl rfl dL_law_2314 (Nat.le_of_ble_eq_true rfl) c2 (by omega) (by omega) (by omega) ?_
  exact sw_icmp_eq C 2938 dL_law_2317 (by decide) (fun c => K _ _ _ _ _ (by omega) (by omega) H2) (fun c => absurd hv c)
set_option maxRecDepth 100000 in
set_option maxHeartbeats 4000000 in
theorem cs_38 {G : zG} {X : zX} {L : Nat} {xs : Nat → Int32} {a b i : Nat} {S : zS} {J : Int64} {E : UInt64} (W : zLw G X L xs) (H : zInv S S) (hi : i + 3 ≤ L) (hL : L ≤ 1536) (ha : a + 25 ≤ 603072) (hb : b + 850 ≤ 7211114) (K : zGo G X a b i) : SN G X a b 2322 [some (.ref 400), some (.ref 0), some (.ref 12), some (.ref 23), some (.ref 24), some (zi i), none, none, none] [] S J E := by
  obtain ⟨C, Z, NC, hl, hG⟩ := W
  obtain ⟨v, w, d1, d2, S1, S2, ⟨h1, h2⟩, c1, c2, hv, H2⟩ := op_successfulChecks hl (G := G) (J := J) (E := E) H
  refine sw_aload_1 C dL_law_2322 ?_
  refine sn_cV0r C vX5_successfulChecks lL_286 rfl (by decide) rfl rfl dL_law_2323 (Nat.le_of_ble_eq_true rfl) c1 (by omega) (by omega) (by omega) ?_
  refine sw_aload_2 C dL_law_2326 ?_
  refine sn_cV0r C vX6_successfulChecks lL_289 rfl (by decide) rfl rfl dL_law_2327 (Nat.le_of_ble_eq_true rfl) c2 (by omega) (by omega) (by omega) ?_
  exact sw_icmp_eq C 2938 dL_law_2330 (by decide) (fun c => K _ _ _ _ _ (by omega) (by omega) H2) (fun c => absurd hv c)
