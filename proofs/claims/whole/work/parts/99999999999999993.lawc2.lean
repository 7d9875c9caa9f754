/-! 99999999999999993: the law, calls 20 to 39 (printed by wip/whole/mkcases.py) -/
set_option maxHeartbeats 800000 in
theorem law_c20 {X : e_XT} {d T i ax am ao ad : Nat} {a6 a7 a8 : Option Value} {S : e_SS} {Q : e_Rt → e_SS → Prop} (hX : (X 8).1 = 0) (hXX : v_X X) (hi : i + 8 ≤ (X 0).1) (hL : (X 0).1 ≤ 4096) (hT : T < 512) (h : h_L T ax am ao ad S) (k : ∀ S2 a6 a7 a8, h_L (T + 1) ax am ao ad S2 → s_w X (d + 13) K_law 4021 (l_ll ax am ao ad i a6 a7 a8) [] S2 Q) : s_w X (d + 13) K_law 1745 (l_ll ax am ao ad i a6 a7 a8) [] S Q := by
  have h0 := h.f (Nat.le_of_lt hT)
  have hc := h0.1.2.2
  obtain ⟨p, I, J, c, w⟩ := S
  refine w_op (K := K_law) (pc' := 1746) (ll' := (l_ll ax am ao ad i a6 a7 a8)) (st' := [.ref ax]) dL_law_1745 rfl ?_
  refine l_arg1 (pc := 1746) (n := 1) dL_law_1746 dL_law_1747 dL_law_1749 dL_law_1750 dL_law_1751 (by decide) (by omega) hL hc ?_
  refine l_arg1 (pc := 1752) (n := 2) dL_law_1752 dL_law_1753 dL_law_1755 dL_law_1756 dL_law_1757 (by decide) (by omega) hL hc ?_
  refine w_op (K := K_law) (pc' := 1759) (ll' := (l_ll ax am ao ad i a6 a7 a8)) (st' := [.ref ao, .int ((X 0).2 (i + 2)), .int ((X 0).2 (i + 1)), .ref ax]) dL_law_1758 rfl ?_
  refine t_callS (K := K_law) (As := [.ref ax, .int ((X 0).2 (i + 1)), .int ((X 0).2 (i + 2)), .ref ao]) (rest := []) dL_law_1759 rfl rM_L_speaks (by decide) rfl rfl (by decide) (Nat.le_of_ble_eq_true rfl) (lp_speaks (d := d) (hX := hX) (hT := hT)  (h := h) (k := fun k' S1 hB => ?_))
  show s_w X (d + 13) K_law 1762 (l_ll ax am ao ad i a6 a7 a8) [.int k'] S1 Q
  refine l_is6 (pc := 1762) dL_law_1762 ?_
  have hf := (hB (fun _ _ => True) (fun _ _ _ _ _ => trivial)).1
  refine w_op (K := K_law) (pc' := 1765) (ll' := (l_ll ax am ao ad i (some (.int k')) a7 a8)) (st' := [.ref am]) dL_law_1764 rfl ?_
  refine l_arg1 (pc := 1765) (n := 1) dL_law_1765 dL_law_1766 dL_law_1768 dL_law_1769 dL_law_1770 (by decide) (by omega) hL hf.2.2 ?_
  refine l_arg1 (pc := 1771) (n := 2) dL_law_1771 dL_law_1772 dL_law_1774 dL_law_1775 dL_law_1776 (by decide) (by omega) hL hf.2.2 ?_
  refine l_callM (As := [.int ((X 0).2 (i + 1)), .int ((X 0).2 (i + 2))]) (rest := []) dL_law_1777 rfl rM_X16_speaks (by decide) rfl rfl (by decide) rfl (Nat.le_of_ble_eq_true rfl) hf ((hB _ (fun b S2 h2 ht hb => ?_)).2)
  show s_w X (d + 13) K_law 1780 (l_ll ax am ao ad i (some (.int k')) a7 a8) [.int b] S2 Q
  exact law_tB (pc := 1780) dL_law_1780 dL_law_1782 dL_law_1783 dL_law_1786 dL_law_1788 dL_law_1793 dL_law_1795 dL_law_1798 dL_law_1799 dL_law_1800 dL_law_1801 dL_law_1803 dL_law_1806 dL_law_1807 dL_law_1810 dL_law_1811 dL_law_1812 dL_law_1817 (by decide) hT h2 ht hb (fun a6 a7 a8 => k S2 a6 a7 a8 h2)
set_option maxHeartbeats 800000 in
theorem law_c21 {X : e_XT} {d T i ax am ao ad : Nat} {a6 a7 a8 : Option Value} {S : e_SS} {Q : e_Rt → e_SS → Prop} (hX : (X 8).1 = 0) (hXX : v_X X) (hi : i + 8 ≤ (X 0).1) (hL : (X 0).1 ≤ 4096) (hT : T < 512) (h : h_L T ax am ao ad S) (k : ∀ S2 a6 a7 a8, h_L (T + 1) ax am ao ad S2 → s_w X (d + 13) K_law 4021 (l_ll ax am ao ad i a6 a7 a8) [] S2 Q) : s_w X (d + 13) K_law 1820 (l_ll ax am ao ad i a6 a7 a8) [] S Q := by
  have h0 := h.f (Nat.le_of_lt hT)
  have hc := h0.1.2.2
  obtain ⟨p, I, J, c, w⟩ := S
  refine w_op (K := K_law) (pc' := 1821) (ll' := (l_ll ax am ao ad i a6 a7 a8)) (st' := [.ref ax]) dL_law_1820 rfl ?_
  refine l_callH (As := []) (rest := []) dL_law_1821 rfl rM_X11_speaking (by decide) rfl rfl (by decide) rfl (Nat.le_of_ble_eq_true rfl) h0.2.1 (lp_speaking (d := d) (hX := hX) (hT := hT)  (h := h) (k := fun v S1 hB => ?_))
  show s_w X (d + 13) K_law 1824 (l_ll ax am ao ad i a6 a7 a8) [.int v] S1 Q
  have hf := (hB (fun _ _ => True) (fun _ _ => trivial)).1
  refine w_op (K := K_law) (pc' := 1825) (ll' := (l_ll ax am ao ad i a6 a7 a8)) (st' := [.ref am, .int v]) dL_law_1824 rfl ?_
  refine l_callM (As := []) (rest := [.int v]) dL_law_1825 rfl rM_X16_speaking (by decide) rfl rfl (by decide) rfl (Nat.le_of_ble_eq_true rfl) hf ((hB _ (fun S2 h2 => ?_)).2)
  show s_w X (d + 13) K_law 1828 (l_ll ax am ao ad i a6 a7 a8) [.int v, .int v] S2 Q
  exact w_icmpeq (K := K_law) (t := 4021) dL_law_1828 (by decide) (fun _ => k S2 a6 a7 a8 h2) (fun z => absurd rfl z)
set_option maxHeartbeats 800000 in
theorem law_c22 {X : e_XT} {d T i ax am ao ad : Nat} {a6 a7 a8 : Option Value} {S : e_SS} {Q : e_Rt → e_SS → Prop} (hX : (X 8).1 = 0) (hXX : v_X X) (hi : i + 8 ≤ (X 0).1) (hL : (X 0).1 ≤ 4096) (hT : T < 512) (h : h_L T ax am ao ad S) (k : ∀ S2 a6 a7 a8, h_L (T + 1) ax am ao ad S2 → s_w X (d + 13) K_law 4021 (l_ll ax am ao ad i a6 a7 a8) [] S2 Q) : s_w X (d + 13) K_law 1833 (l_ll ax am ao ad i a6 a7 a8) [] S Q := by
  have h0 := h.f (Nat.le_of_lt hT)
  have hc := h0.1.2.2
  obtain ⟨p, I, J, c, w⟩ := S
  refine w_op (K := K_law) (pc' := 1834) (ll' := (l_ll ax am ao ad i a6 a7 a8)) (st' := [.ref ax]) dL_law_1833 rfl ?_
  refine l_arg1 (pc := 1834) (n := 1) dL_law_1834 dL_law_1835 dL_law_1837 dL_law_1838 dL_law_1839 (by decide) (by omega) hL hc ?_
  refine l_arg1 (pc := 1840) (n := 2) dL_law_1840 dL_law_1841 dL_law_1843 dL_law_1844 dL_law_1845 (by decide) (by omega) hL hc ?_
  refine w_op (K := K_law) (pc' := 1847) (ll' := (l_ll ax am ao ad i a6 a7 a8)) (st' := [.ref ao, .int ((X 0).2 (i + 2)), .int ((X 0).2 (i + 1)), .ref ax]) dL_law_1846 rfl ?_
  refine t_callS (K := K_law) (As := [.ref ax, .int ((X 0).2 (i + 1)), .int ((X 0).2 (i + 2)), .ref ao]) (rest := []) dL_law_1847 rfl rM_L_begun (by decide) rfl rfl (by decide) (Nat.le_of_ble_eq_true rfl) (lp_begun (d := d) (hX := hX) (hT := hT)  (h := h) (k := fun k' S1 hB => ?_))
  show s_w X (d + 13) K_law 1850 (l_ll ax am ao ad i a6 a7 a8) [.int k'] S1 Q
  refine l_is6 (pc := 1850) dL_law_1850 ?_
  have hf := (hB (fun _ _ => True) (fun _ _ _ _ _ => trivial)).1
  refine w_op (K := K_law) (pc' := 1853) (ll' := (l_ll ax am ao ad i (some (.int k')) a7 a8)) (st' := [.ref am]) dL_law_1852 rfl ?_
  refine l_arg1 (pc := 1853) (n := 1) dL_law_1853 dL_law_1854 dL_law_1856 dL_law_1857 dL_law_1858 (by decide) (by omega) hL hf.2.2 ?_
  refine l_arg1 (pc := 1859) (n := 2) dL_law_1859 dL_law_1860 dL_law_1862 dL_law_1863 dL_law_1864 (by decide) (by omega) hL hf.2.2 ?_
  refine l_callM (As := [.int ((X 0).2 (i + 1)), .int ((X 0).2 (i + 2))]) (rest := []) dL_law_1865 rfl rM_X16_begun (by decide) rfl rfl (by decide) rfl (Nat.le_of_ble_eq_true rfl) hf ((hB _ (fun b S2 h2 ht hb => ?_)).2)
  show s_w X (d + 13) K_law 1868 (l_ll ax am ao ad i (some (.int k')) a7 a8) [.int b] S2 Q
  exact law_tI (pc := 1868) dL_law_1868 dL_law_1870 dL_law_1871 dL_law_1874 dL_law_1876 dL_law_1881 dL_law_1883 dL_law_1886 dL_law_1887 dL_law_1888 dL_law_1889 dL_law_1891 dL_law_1892 dL_law_1893 dL_law_1898 (by decide) hT h2 ht hb (fun a6 a7 a8 => k S2 a6 a7 a8 h2)
set_option maxHeartbeats 800000 in
theorem law_c23 {X : e_XT} {d T i ax am ao ad : Nat} {a6 a7 a8 : Option Value} {S : e_SS} {Q : e_Rt → e_SS → Prop} (hX : (X 8).1 = 0) (hXX : v_X X) (hi : i + 8 ≤ (X 0).1) (hL : (X 0).1 ≤ 4096) (hT : T < 512) (h : h_L T ax am ao ad S) (k : ∀ S2 a6 a7 a8, h_L (T + 1) ax am ao ad S2 → s_w X (d + 13) K_law 4021 (l_ll ax am ao ad i a6 a7 a8) [] S2 Q) : s_w X (d + 13) K_law 1901 (l_ll ax am ao ad i a6 a7 a8) [] S Q := by
  have h0 := h.f (Nat.le_of_lt hT)
  have hc := h0.1.2.2
  obtain ⟨p, I, J, c, w⟩ := S
  refine w_op (K := K_law) (pc' := 1902) (ll' := (l_ll ax am ao ad i a6 a7 a8)) (st' := [.ref ax]) dL_law_1901 rfl ?_
  refine l_callH (As := []) (rest := []) dL_law_1902 rfl rM_X11_ended (by decide) rfl rfl (by decide) rfl (Nat.le_of_ble_eq_true rfl) h0.2.1 (lp_ended (d := d) (hX := hX) (hT := hT)  (h := h) (k := fun v S1 hB => ?_))
  show s_w X (d + 13) K_law 1905 (l_ll ax am ao ad i a6 a7 a8) [.long v] S1 Q
  have hf := (hB (fun _ _ => True) (fun _ _ => trivial)).1
  refine w_op (K := K_law) (pc' := 1906) (ll' := (l_ll ax am ao ad i a6 a7 a8)) (st' := [.ref am, .long v]) dL_law_1905 rfl ?_
  refine l_callM (As := []) (rest := [.long v]) dL_law_1906 rfl rM_X16_ended (by decide) rfl rfl (by decide) rfl (Nat.le_of_ble_eq_true rfl) hf ((hB _ (fun S2 h2 => ?_)).2)
  show s_w X (d + 13) K_law 1909 (l_ll ax am ao ad i a6 a7 a8) [.long v, .long v] S2 Q
  refine w_op (K := K_law) (pc' := 1910) (ll' := (l_ll ax am ao ad i a6 a7 a8)) (st' := [.int (lg_cmp v v)]) dL_law_1909 rfl ?_
  exact w_ifeq (K := K_law) (t := 4021) dL_law_1910 (by decide) (fun _ => k S2 a6 a7 a8 h2) (fun z => absurd ((v_cmp0 _ _).mpr rfl) z)
set_option maxHeartbeats 800000 in
theorem law_c24 {X : e_XT} {d T i ax am ao ad : Nat} {a6 a7 a8 : Option Value} {S : e_SS} {Q : e_Rt → e_SS → Prop} (hX : (X 8).1 = 0) (hXX : v_X X) (hi : i + 8 ≤ (X 0).1) (hL : (X 0).1 ≤ 4096) (hT : T < 512) (h : h_L T ax am ao ad S) (k : ∀ S2 a6 a7 a8, h_L (T + 1) ax am ao ad S2 → s_w X (d + 13) K_law 4021 (l_ll ax am ao ad i a6 a7 a8) [] S2 Q) : s_w X (d + 13) K_law 1915 (l_ll ax am ao ad i a6 a7 a8) [] S Q := by
  have h0 := h.f (Nat.le_of_lt hT)
  have hc := h0.1.2.2
  obtain ⟨p, I, J, c, w⟩ := S
  refine w_op (K := K_law) (pc' := 1916) (ll' := (l_ll ax am ao ad i a6 a7 a8)) (st' := [.ref ax]) dL_law_1915 rfl ?_
  refine l_arg1 (pc := 1916) (n := 1) dL_law_1916 dL_law_1917 dL_law_1919 dL_law_1920 dL_law_1921 (by decide) (by omega) hL hc ?_
  refine l_arg1 (pc := 1922) (n := 2) dL_law_1922 dL_law_1923 dL_law_1925 dL_law_1926 dL_law_1927 (by decide) (by omega) hL hc ?_
  refine w_op (K := K_law) (pc' := 1929) (ll' := (l_ll ax am ao ad i a6 a7 a8)) (st' := [.ref ao, .int ((X 0).2 (i + 2)), .int ((X 0).2 (i + 1)), .ref ax]) dL_law_1928 rfl ?_
  refine t_callS (K := K_law) (As := [.ref ax, .int ((X 0).2 (i + 1)), .int ((X 0).2 (i + 2)), .ref ao]) (rest := []) dL_law_1929 rfl rM_L_supply (by decide) rfl rfl (by decide) (Nat.le_of_ble_eq_true rfl) (lp_supply (d := d) (hX := hX) (hT := hT)  (h := h) (k := fun k' S1 hB => ?_))
  show s_w X (d + 13) K_law 1932 (l_ll ax am ao ad i a6 a7 a8) [.int k'] S1 Q
  refine l_is6 (pc := 1932) dL_law_1932 ?_
  have hf := (hB (fun _ _ => True) (fun _ _ _ _ _ => trivial)).1
  refine w_op (K := K_law) (pc' := 1935) (ll' := (l_ll ax am ao ad i (some (.int k')) a7 a8)) (st' := [.ref am]) dL_law_1934 rfl ?_
  refine l_arg1 (pc := 1935) (n := 1) dL_law_1935 dL_law_1936 dL_law_1938 dL_law_1939 dL_law_1940 (by decide) (by omega) hL hf.2.2 ?_
  refine l_arg1 (pc := 1941) (n := 2) dL_law_1941 dL_law_1942 dL_law_1944 dL_law_1945 dL_law_1946 (by decide) (by omega) hL hf.2.2 ?_
  refine l_callM (As := [.int ((X 0).2 (i + 1)), .int ((X 0).2 (i + 2))]) (rest := []) dL_law_1947 rfl rM_X16_supply (by decide) rfl rfl (by decide) rfl (Nat.le_of_ble_eq_true rfl) hf ((hB _ (fun b S2 h2 ht hb => ?_)).2)
  show s_w X (d + 13) K_law 1950 (l_ll ax am ao ad i (some (.int k')) a7 a8) [.int b] S2 Q
  exact law_tI (pc := 1950) dL_law_1950 dL_law_1952 dL_law_1953 dL_law_1956 dL_law_1958 dL_law_1963 dL_law_1965 dL_law_1968 dL_law_1969 dL_law_1970 dL_law_1971 dL_law_1973 dL_law_1974 dL_law_1975 dL_law_1980 (by decide) hT h2 ht hb (fun a6 a7 a8 => k S2 a6 a7 a8 h2)
set_option maxHeartbeats 800000 in
theorem law_c25 {X : e_XT} {d T i ax am ao ad : Nat} {a6 a7 a8 : Option Value} {S : e_SS} {Q : e_Rt → e_SS → Prop} (hX : (X 8).1 = 0) (hXX : v_X X) (hi : i + 8 ≤ (X 0).1) (hL : (X 0).1 ≤ 4096) (hT : T < 512) (h : h_L T ax am ao ad S) (k : ∀ S2 a6 a7 a8, h_L (T + 1) ax am ao ad S2 → s_w X (d + 13) K_law 4021 (l_ll ax am ao ad i a6 a7 a8) [] S2 Q) : s_w X (d + 13) K_law 1983 (l_ll ax am ao ad i a6 a7 a8) [] S Q := by
  have h0 := h.f (Nat.le_of_lt hT)
  have hc := h0.1.2.2
  obtain ⟨p, I, J, c, w⟩ := S
  refine w_op (K := K_law) (pc' := 1984) (ll' := (l_ll ax am ao ad i a6 a7 a8)) (st' := [.ref ax]) dL_law_1983 rfl ?_
  refine l_arg1 (pc := 1984) (n := 1) dL_law_1984 dL_law_1985 dL_law_1987 dL_law_1988 dL_law_1989 (by decide) (by omega) hL hc ?_
  refine w_op (K := K_law) (pc' := 1991) (ll' := (l_ll ax am ao ad i a6 a7 a8)) (st' := [.ref ao, .int ((X 0).2 (i + 1)), .ref ax]) dL_law_1990 rfl ?_
  refine t_callS (K := K_law) (As := [.ref ax, .int ((X 0).2 (i + 1)), .ref ao]) (rest := []) dL_law_1991 rfl rM_L_wind (by decide) rfl rfl (by decide) (Nat.le_of_ble_eq_true rfl) (lp_wind (d := d) (hX := hX) (hT := hT)  (h := h) (k := fun k' S1 hB => ?_))
  show s_w X (d + 13) K_law 1994 (l_ll ax am ao ad i a6 a7 a8) [.int k'] S1 Q
  refine l_is6 (pc := 1994) dL_law_1994 ?_
  have hf := (hB (fun _ _ => True) (fun _ _ _ _ _ => trivial)).1
  refine w_op (K := K_law) (pc' := 1997) (ll' := (l_ll ax am ao ad i (some (.int k')) a7 a8)) (st' := [.ref am]) dL_law_1996 rfl ?_
  refine l_arg1 (pc := 1997) (n := 1) dL_law_1997 dL_law_1998 dL_law_2000 dL_law_2001 dL_law_2002 (by decide) (by omega) hL hf.2.2 ?_
  refine l_callM (As := [.int ((X 0).2 (i + 1))]) (rest := []) dL_law_2003 rfl rM_X16_wind (by decide) rfl rfl (by decide) rfl (Nat.le_of_ble_eq_true rfl) hf ((hB _ (fun b S2 h2 ht hb => ?_)).2)
  show s_w X (d + 13) K_law 2006 (l_ll ax am ao ad i (some (.int k')) a7 a8) [.int b] S2 Q
  exact law_tI (pc := 2006) dL_law_2006 dL_law_2008 dL_law_2009 dL_law_2012 dL_law_2014 dL_law_2019 dL_law_2021 dL_law_2024 dL_law_2025 dL_law_2026 dL_law_2027 dL_law_2029 dL_law_2030 dL_law_2031 dL_law_2036 (by decide) hT h2 ht hb (fun a6 a7 a8 => k S2 a6 a7 a8 h2)
set_option maxHeartbeats 800000 in
theorem law_c26 {X : e_XT} {d T i ax am ao ad : Nat} {a6 a7 a8 : Option Value} {S : e_SS} {Q : e_Rt → e_SS → Prop} (hX : (X 8).1 = 0) (hXX : v_X X) (hi : i + 8 ≤ (X 0).1) (hL : (X 0).1 ≤ 4096) (hT : T < 512) (h : h_L T ax am ao ad S) (k : ∀ S2 a6 a7 a8, h_L (T + 1) ax am ao ad S2 → s_w X (d + 13) K_law 4021 (l_ll ax am ao ad i a6 a7 a8) [] S2 Q) : s_w X (d + 13) K_law 2039 (l_ll ax am ao ad i a6 a7 a8) [] S Q := by
  have h0 := h.f (Nat.le_of_lt hT)
  have hc := h0.1.2.2
  obtain ⟨p, I, J, c, w⟩ := S
  refine w_op (K := K_law) (pc' := 2040) (ll' := (l_ll ax am ao ad i a6 a7 a8)) (st' := [.ref ax]) dL_law_2039 rfl ?_
  refine l_arg1 (pc := 2040) (n := 1) dL_law_2040 dL_law_2041 dL_law_2043 dL_law_2044 dL_law_2045 (by decide) (by omega) hL hc ?_
  refine l_arg1 (pc := 2046) (n := 2) dL_law_2046 dL_law_2047 dL_law_2049 dL_law_2050 dL_law_2051 (by decide) (by omega) hL hc ?_
  refine w_op (K := K_law) (pc' := 2053) (ll' := (l_ll ax am ao ad i a6 a7 a8)) (st' := [.ref ao, .int ((X 0).2 (i + 2)), .int ((X 0).2 (i + 1)), .ref ax]) dL_law_2052 rfl ?_
  refine t_callS (K := K_law) (As := [.ref ax, .int ((X 0).2 (i + 1)), .int ((X 0).2 (i + 2)), .ref ao]) (rest := []) dL_law_2053 rfl rM_L_box (by decide) rfl rfl (by decide) (Nat.le_of_ble_eq_true rfl) (lp_box (d := d) (hX := hX) (hT := hT)  (h := h) (k := fun k' S1 hB => ?_))
  show s_w X (d + 13) K_law 2056 (l_ll ax am ao ad i a6 a7 a8) [.int k'] S1 Q
  refine l_is6 (pc := 2056) dL_law_2056 ?_
  have hf := (hB (fun _ _ => True) (fun _ _ _ _ _ => trivial)).1
  refine w_op (K := K_law) (pc' := 2059) (ll' := (l_ll ax am ao ad i (some (.int k')) a7 a8)) (st' := [.ref am]) dL_law_2058 rfl ?_
  refine l_arg1 (pc := 2059) (n := 1) dL_law_2059 dL_law_2060 dL_law_2062 dL_law_2063 dL_law_2064 (by decide) (by omega) hL hf.2.2 ?_
  refine l_arg1 (pc := 2065) (n := 2) dL_law_2065 dL_law_2066 dL_law_2068 dL_law_2069 dL_law_2070 (by decide) (by omega) hL hf.2.2 ?_
  refine l_callM (As := [.int ((X 0).2 (i + 1)), .int ((X 0).2 (i + 2))]) (rest := []) dL_law_2071 rfl rM_X16_box (by decide) rfl rfl (by decide) rfl (Nat.le_of_ble_eq_true rfl) hf ((hB _ (fun b S2 h2 ht hb => ?_)).2)
  show s_w X (d + 13) K_law 2074 (l_ll ax am ao ad i (some (.int k')) a7 a8) [.int b] S2 Q
  exact law_tI (pc := 2074) dL_law_2074 dL_law_2076 dL_law_2077 dL_law_2080 dL_law_2082 dL_law_2087 dL_law_2089 dL_law_2092 dL_law_2093 dL_law_2094 dL_law_2095 dL_law_2097 dL_law_2098 dL_law_2099 dL_law_2104 (by decide) hT h2 ht hb (fun a6 a7 a8 => k S2 a6 a7 a8 h2)
set_option maxHeartbeats 800000 in
theorem law_c27 {X : e_XT} {d T i ax am ao ad : Nat} {a6 a7 a8 : Option Value} {S : e_SS} {Q : e_Rt → e_SS → Prop} (hX : (X 8).1 = 0) (hXX : v_X X) (hi : i + 8 ≤ (X 0).1) (hL : (X 0).1 ≤ 4096) (hT : T < 512) (h : h_L T ax am ao ad S) (k : ∀ S2 a6 a7 a8, h_L (T + 1) ax am ao ad S2 → s_w X (d + 13) K_law 4021 (l_ll ax am ao ad i a6 a7 a8) [] S2 Q) : s_w X (d + 13) K_law 2107 (l_ll ax am ao ad i a6 a7 a8) [] S Q := by
  have h0 := h.f (Nat.le_of_lt hT)
  have hc := h0.1.2.2
  obtain ⟨p, I, J, c, w⟩ := S
  refine w_op (K := K_law) (pc' := 2108) (ll' := (l_ll ax am ao ad i a6 a7 a8)) (st' := [.ref ax]) dL_law_2107 rfl ?_
  refine l_callH (As := []) (rest := []) dL_law_2108 rfl rM_X11_loudness (by decide) rfl rfl (by decide) rfl (Nat.le_of_ble_eq_true rfl) h0.2.1 (lp_loudness (d := d) (hX := hX) (hT := hT)  (h := h) (k := fun v S1 hB => ?_))
  show s_w X (d + 13) K_law 2111 (l_ll ax am ao ad i a6 a7 a8) [.int v] S1 Q
  have hf := (hB (fun _ _ => True) (fun _ _ => trivial)).1
  refine w_op (K := K_law) (pc' := 2112) (ll' := (l_ll ax am ao ad i a6 a7 a8)) (st' := [.ref am, .int v]) dL_law_2111 rfl ?_
  refine l_callM (As := []) (rest := [.int v]) dL_law_2112 rfl rM_X16_loudness (by decide) rfl rfl (by decide) rfl (Nat.le_of_ble_eq_true rfl) hf ((hB _ (fun S2 h2 => ?_)).2)
  show s_w X (d + 13) K_law 2115 (l_ll ax am ao ad i a6 a7 a8) [.int v, .int v] S2 Q
  exact w_icmpeq (K := K_law) (t := 4021) dL_law_2115 (by decide) (fun _ => k S2 a6 a7 a8 h2) (fun z => absurd rfl z)
set_option maxHeartbeats 800000 in
theorem law_c28 {X : e_XT} {d T i ax am ao ad : Nat} {a6 a7 a8 : Option Value} {S : e_SS} {Q : e_Rt → e_SS → Prop} (hX : (X 8).1 = 0) (hXX : v_X X) (hi : i + 8 ≤ (X 0).1) (hL : (X 0).1 ≤ 4096) (hT : T < 512) (h : h_L T ax am ao ad S) (k : ∀ S2 a6 a7 a8, h_L (T + 1) ax am ao ad S2 → s_w X (d + 13) K_law 4021 (l_ll ax am ao ad i a6 a7 a8) [] S2 Q) : s_w X (d + 13) K_law 2120 (l_ll ax am ao ad i a6 a7 a8) [] S Q := by
  have h0 := h.f (Nat.le_of_lt hT)
  have hc := h0.1.2.2
  obtain ⟨p, I, J, c, w⟩ := S
  refine w_op (K := K_law) (pc' := 2121) (ll' := (l_ll ax am ao ad i a6 a7 a8)) (st' := [.ref ax]) dL_law_2120 rfl ?_
  refine l_arg1 (pc := 2121) (n := 1) dL_law_2121 dL_law_2122 dL_law_2124 dL_law_2125 dL_law_2126 (by decide) (by omega) hL hc ?_
  refine l_arg1 (pc := 2127) (n := 2) dL_law_2127 dL_law_2128 dL_law_2130 dL_law_2131 dL_law_2132 (by decide) (by omega) hL hc ?_
  refine w_op (K := K_law) (pc' := 2134) (ll' := (l_ll ax am ao ad i a6 a7 a8)) (st' := [.ref ao, .int ((X 0).2 (i + 2)), .int ((X 0).2 (i + 1)), .ref ax]) dL_law_2133 rfl ?_
  refine t_callS (K := K_law) (As := [.ref ax, .int ((X 0).2 (i + 1)), .int ((X 0).2 (i + 2)), .ref ao]) (rest := []) dL_law_2134 rfl rM_L_temper (by decide) rfl rfl (by decide) (Nat.le_of_ble_eq_true rfl) (lp_temper (d := d) (hX := hX) (hT := hT)  (h := h) (k := fun k' S1 hB => ?_))
  show s_w X (d + 13) K_law 2137 (l_ll ax am ao ad i a6 a7 a8) [.int k'] S1 Q
  refine l_is6 (pc := 2137) dL_law_2137 ?_
  have hf := (hB (fun _ _ => True) (fun _ _ _ _ _ => trivial)).1
  refine w_op (K := K_law) (pc' := 2140) (ll' := (l_ll ax am ao ad i (some (.int k')) a7 a8)) (st' := [.ref am]) dL_law_2139 rfl ?_
  refine l_arg1 (pc := 2140) (n := 1) dL_law_2140 dL_law_2141 dL_law_2143 dL_law_2144 dL_law_2145 (by decide) (by omega) hL hf.2.2 ?_
  refine l_arg1 (pc := 2146) (n := 2) dL_law_2146 dL_law_2147 dL_law_2149 dL_law_2150 dL_law_2151 (by decide) (by omega) hL hf.2.2 ?_
  refine l_callM (As := [.int ((X 0).2 (i + 1)), .int ((X 0).2 (i + 2))]) (rest := []) dL_law_2152 rfl rM_X16_temper (by decide) rfl rfl (by decide) rfl (Nat.le_of_ble_eq_true rfl) hf ((hB _ (fun b S2 h2 ht hb => ?_)).2)
  show s_w X (d + 13) K_law 2155 (l_ll ax am ao ad i (some (.int k')) a7 a8) [.int b] S2 Q
  exact law_tI (pc := 2155) dL_law_2155 dL_law_2157 dL_law_2158 dL_law_2161 dL_law_2163 dL_law_2168 dL_law_2170 dL_law_2173 dL_law_2174 dL_law_2175 dL_law_2176 dL_law_2178 dL_law_2179 dL_law_2180 dL_law_2185 (by decide) hT h2 ht hb (fun a6 a7 a8 => k S2 a6 a7 a8 h2)
set_option maxHeartbeats 800000 in
theorem law_c29 {X : e_XT} {d T i ax am ao ad : Nat} {a6 a7 a8 : Option Value} {S : e_SS} {Q : e_Rt → e_SS → Prop} (hX : (X 8).1 = 0) (hXX : v_X X) (hi : i + 8 ≤ (X 0).1) (hL : (X 0).1 ≤ 4096) (hT : T < 512) (h : h_L T ax am ao ad S) (k : ∀ S2 a6 a7 a8, h_L (T + 1) ax am ao ad S2 → s_w X (d + 13) K_law 4021 (l_ll ax am ao ad i a6 a7 a8) [] S2 Q) : s_w X (d + 13) K_law 2188 (l_ll ax am ao ad i a6 a7 a8) [] S Q := by
  have h0 := h.f (Nat.le_of_lt hT)
  have hc := h0.1.2.2
  obtain ⟨p, I, J, c, w⟩ := S
  refine w_op (K := K_law) (pc' := 2189) (ll' := (l_ll ax am ao ad i a6 a7 a8)) (st' := [.ref ax]) dL_law_2188 rfl ?_
  refine l_arg1 (pc := 2189) (n := 1) dL_law_2189 dL_law_2190 dL_law_2192 dL_law_2193 dL_law_2194 (by decide) (by omega) hL hc ?_
  refine l_arg1 (pc := 2195) (n := 2) dL_law_2195 dL_law_2196 dL_law_2198 dL_law_2199 dL_law_2200 (by decide) (by omega) hL hc ?_
  refine l_arg1 (pc := 2201) (n := 3) dL_law_2201 dL_law_2202 dL_law_2204 dL_law_2205 dL_law_2206 (by decide) (by omega) hL hc ?_
  refine w_op (K := K_law) (pc' := 2208) (ll' := (l_ll ax am ao ad i a6 a7 a8)) (st' := [.ref ao, .int ((X 0).2 (i + 3)), .int ((X 0).2 (i + 2)), .int ((X 0).2 (i + 1)), .ref ax]) dL_law_2207 rfl ?_
  refine t_callS (K := K_law) (As := [.ref ax, .int ((X 0).2 (i + 1)), .int ((X 0).2 (i + 2)), .int ((X 0).2 (i + 3)), .ref ao]) (rest := []) dL_law_2208 rfl rM_L_tune (by decide) rfl rfl (by decide) (Nat.le_of_ble_eq_true rfl) (lp_tune (d := d) (hX := hX) (hT := hT)  (h := h) (k := fun k' S1 hB => ?_))
  show s_w X (d + 13) K_law 2211 (l_ll ax am ao ad i a6 a7 a8) [.int k'] S1 Q
  refine l_is6 (pc := 2211) dL_law_2211 ?_
  have hf := (hB (fun _ _ => True) (fun _ _ _ _ _ => trivial)).1
  refine w_op (K := K_law) (pc' := 2214) (ll' := (l_ll ax am ao ad i (some (.int k')) a7 a8)) (st' := [.ref am]) dL_law_2213 rfl ?_
  refine l_arg1 (pc := 2214) (n := 1) dL_law_2214 dL_law_2215 dL_law_2217 dL_law_2218 dL_law_2219 (by decide) (by omega) hL hf.2.2 ?_
  refine l_arg1 (pc := 2220) (n := 2) dL_law_2220 dL_law_2221 dL_law_2223 dL_law_2224 dL_law_2225 (by decide) (by omega) hL hf.2.2 ?_
  refine l_arg1 (pc := 2226) (n := 3) dL_law_2226 dL_law_2227 dL_law_2229 dL_law_2230 dL_law_2231 (by decide) (by omega) hL hf.2.2 ?_
  refine l_callM (As := [.int ((X 0).2 (i + 1)), .int ((X 0).2 (i + 2)), .int ((X 0).2 (i + 3))]) (rest := []) dL_law_2232 rfl rM_X16_tune (by decide) rfl rfl (by decide) rfl (Nat.le_of_ble_eq_true rfl) hf ((hB _ (fun b S2 h2 ht hb => ?_)).2)
  show s_w X (d + 13) K_law 2235 (l_ll ax am ao ad i (some (.int k')) a7 a8) [.int b] S2 Q
  exact law_tI (pc := 2235) dL_law_2235 dL_law_2237 dL_law_2238 dL_law_2241 dL_law_2243 dL_law_2248 dL_law_2250 dL_law_2253 dL_law_2254 dL_law_2255 dL_law_2256 dL_law_2258 dL_law_2259 dL_law_2260 dL_law_2265 (by decide) hT h2 ht hb (fun a6 a7 a8 => k S2 a6 a7 a8 h2)
set_option maxHeartbeats 800000 in
theorem law_c30 {X : e_XT} {d T i ax am ao ad : Nat} {a6 a7 a8 : Option Value} {S : e_SS} {Q : e_Rt → e_SS → Prop} (hX : (X 8).1 = 0) (hXX : v_X X) (hi : i + 8 ≤ (X 0).1) (hL : (X 0).1 ≤ 4096) (hT : T < 512) (h : h_L T ax am ao ad S) (k : ∀ S2 a6 a7 a8, h_L (T + 1) ax am ao ad S2 → s_w X (d + 13) K_law 4021 (l_ll ax am ao ad i a6 a7 a8) [] S2 Q) : s_w X (d + 13) K_law 2268 (l_ll ax am ao ad i a6 a7 a8) [] S Q := by
  have h0 := h.f (Nat.le_of_lt hT)
  have hc := h0.1.2.2
  obtain ⟨p, I, J, c, w⟩ := S
  refine w_op (K := K_law) (pc' := 2269) (ll' := (l_ll ax am ao ad i a6 a7 a8)) (st' := [.ref ax]) dL_law_2268 rfl ?_
  refine l_arg1 (pc := 2269) (n := 1) dL_law_2269 dL_law_2270 dL_law_2272 dL_law_2273 dL_law_2274 (by decide) (by omega) hL hc ?_
  refine l_arg1 (pc := 2275) (n := 2) dL_law_2275 dL_law_2276 dL_law_2278 dL_law_2279 dL_law_2280 (by decide) (by omega) hL hc ?_
  refine l_arg1 (pc := 2281) (n := 3) dL_law_2281 dL_law_2282 dL_law_2284 dL_law_2285 dL_law_2286 (by decide) (by omega) hL hc ?_
  refine l_arg1 (pc := 2287) (n := 4) dL_law_2287 dL_law_2288 dL_law_2290 dL_law_2291 dL_law_2292 (by decide) (by omega) hL hc ?_
  refine w_op (K := K_law) (pc' := 2294) (ll' := (l_ll ax am ao ad i a6 a7 a8)) (st' := [.ref ao, .int ((X 0).2 (i + 4)), .int ((X 0).2 (i + 3)), .int ((X 0).2 (i + 2)), .int ((X 0).2 (i + 1)), .ref ax]) dL_law_2293 rfl ?_
  refine t_callS (K := K_law) (As := [.ref ax, .int ((X 0).2 (i + 1)), .int ((X 0).2 (i + 2)), .int ((X 0).2 (i + 3)), .int ((X 0).2 (i + 4)), .ref ao]) (rest := []) dL_law_2294 rfl rM_L_tuneTo (by decide) rfl rfl (by decide) (Nat.le_of_ble_eq_true rfl) (lp_tuneTo (d := d) (hX := hX) (hT := hT)  (h := h) (k := fun k' S1 hB => ?_))
  show s_w X (d + 13) K_law 2297 (l_ll ax am ao ad i a6 a7 a8) [.int k'] S1 Q
  refine l_is6 (pc := 2297) dL_law_2297 ?_
  have hf := (hB (fun _ _ => True) (fun _ _ _ _ _ => trivial)).1
  refine w_op (K := K_law) (pc' := 2300) (ll' := (l_ll ax am ao ad i (some (.int k')) a7 a8)) (st' := [.ref am]) dL_law_2299 rfl ?_
  refine l_arg1 (pc := 2300) (n := 1) dL_law_2300 dL_law_2301 dL_law_2303 dL_law_2304 dL_law_2305 (by decide) (by omega) hL hf.2.2 ?_
  refine l_arg1 (pc := 2306) (n := 2) dL_law_2306 dL_law_2307 dL_law_2309 dL_law_2310 dL_law_2311 (by decide) (by omega) hL hf.2.2 ?_
  refine l_arg1 (pc := 2312) (n := 3) dL_law_2312 dL_law_2313 dL_law_2315 dL_law_2316 dL_law_2317 (by decide) (by omega) hL hf.2.2 ?_
  refine l_arg1 (pc := 2318) (n := 4) dL_law_2318 dL_law_2319 dL_law_2321 dL_law_2322 dL_law_2323 (by decide) (by omega) hL hf.2.2 ?_
  refine l_callM (As := [.int ((X 0).2 (i + 1)), .int ((X 0).2 (i + 2)), .int ((X 0).2 (i + 3)), .int ((X 0).2 (i + 4))]) (rest := []) dL_law_2324 rfl rM_X16_tuneTo (by decide) rfl rfl (by decide) rfl (Nat.le_of_ble_eq_true rfl) hf ((hB _ (fun b S2 h2 ht hb => ?_)).2)
  show s_w X (d + 13) K_law 2327 (l_ll ax am ao ad i (some (.int k')) a7 a8) [.int b] S2 Q
  exact law_tI (pc := 2327) dL_law_2327 dL_law_2329 dL_law_2330 dL_law_2333 dL_law_2335 dL_law_2340 dL_law_2342 dL_law_2345 dL_law_2346 dL_law_2347 dL_law_2348 dL_law_2350 dL_law_2351 dL_law_2352 dL_law_2357 (by decide) hT h2 ht hb (fun a6 a7 a8 => k S2 a6 a7 a8 h2)
set_option maxHeartbeats 800000 in
theorem law_c31 {X : e_XT} {d T i ax am ao ad : Nat} {a6 a7 a8 : Option Value} {S : e_SS} {Q : e_Rt → e_SS → Prop} (hX : (X 8).1 = 0) (hXX : v_X X) (hi : i + 8 ≤ (X 0).1) (hL : (X 0).1 ≤ 4096) (hT : T < 512) (h : h_L T ax am ao ad S) (k : ∀ S2 a6 a7 a8, h_L (T + 1) ax am ao ad S2 → s_w X (d + 13) K_law 4021 (l_ll ax am ao ad i a6 a7 a8) [] S2 Q) : s_w X (d + 13) K_law 2360 (l_ll ax am ao ad i a6 a7 a8) [] S Q := by
  have h0 := h.f (Nat.le_of_lt hT)
  have hc := h0.1.2.2
  obtain ⟨p, I, J, c, w⟩ := S
  refine w_op (K := K_law) (pc' := 2361) (ll' := (l_ll ax am ao ad i a6 a7 a8)) (st' := [.ref ax]) dL_law_2360 rfl ?_
  refine l_arg1 (pc := 2361) (n := 1) dL_law_2361 dL_law_2362 dL_law_2364 dL_law_2365 dL_law_2366 (by decide) (by omega) hL hc ?_
  refine l_arg1 (pc := 2367) (n := 2) dL_law_2367 dL_law_2368 dL_law_2370 dL_law_2371 dL_law_2372 (by decide) (by omega) hL hc ?_
  refine l_arg1 (pc := 2373) (n := 3) dL_law_2373 dL_law_2374 dL_law_2376 dL_law_2377 dL_law_2378 (by decide) (by omega) hL hc ?_
  refine w_op (K := K_law) (pc' := 2380) (ll' := (l_ll ax am ao ad i a6 a7 a8)) (st' := [.ref ao, .int ((X 0).2 (i + 3)), .int ((X 0).2 (i + 2)), .int ((X 0).2 (i + 1)), .ref ax]) dL_law_2379 rfl ?_
  refine t_callS (K := K_law) (As := [.ref ax, .int ((X 0).2 (i + 1)), .int ((X 0).2 (i + 2)), .int ((X 0).2 (i + 3)), .ref ao]) (rest := []) dL_law_2380 rfl rM_L_heat (by decide) rfl rfl (by decide) (Nat.le_of_ble_eq_true rfl) (lp_heat (d := d) (hX := hX) (hT := hT)  (h := h) (k := fun k' S1 hB => ?_))
  show s_w X (d + 13) K_law 2383 (l_ll ax am ao ad i a6 a7 a8) [.int k'] S1 Q
  refine l_is6 (pc := 2383) dL_law_2383 ?_
  have hf := (hB (fun _ _ => True) (fun _ _ _ _ _ => trivial)).1
  refine w_op (K := K_law) (pc' := 2386) (ll' := (l_ll ax am ao ad i (some (.int k')) a7 a8)) (st' := [.ref am]) dL_law_2385 rfl ?_
  refine l_arg1 (pc := 2386) (n := 1) dL_law_2386 dL_law_2387 dL_law_2389 dL_law_2390 dL_law_2391 (by decide) (by omega) hL hf.2.2 ?_
  refine l_arg1 (pc := 2392) (n := 2) dL_law_2392 dL_law_2393 dL_law_2395 dL_law_2396 dL_law_2397 (by decide) (by omega) hL hf.2.2 ?_
  refine l_arg1 (pc := 2398) (n := 3) dL_law_2398 dL_law_2399 dL_law_2401 dL_law_2402 dL_law_2403 (by decide) (by omega) hL hf.2.2 ?_
  refine l_callM (As := [.int ((X 0).2 (i + 1)), .int ((X 0).2 (i + 2)), .int ((X 0).2 (i + 3))]) (rest := []) dL_law_2404 rfl rM_X16_heat (by decide) rfl rfl (by decide) rfl (Nat.le_of_ble_eq_true rfl) hf ((hB _ (fun b S2 h2 ht hb => ?_)).2)
  show s_w X (d + 13) K_law 2407 (l_ll ax am ao ad i (some (.int k')) a7 a8) [.int b] S2 Q
  exact law_tI (pc := 2407) dL_law_2407 dL_law_2409 dL_law_2410 dL_law_2413 dL_law_2415 dL_law_2420 dL_law_2422 dL_law_2425 dL_law_2426 dL_law_2427 dL_law_2428 dL_law_2430 dL_law_2431 dL_law_2432 dL_law_2437 (by decide) hT h2 ht hb (fun a6 a7 a8 => k S2 a6 a7 a8 h2)
set_option maxHeartbeats 800000 in
theorem law_c32 {X : e_XT} {d T i ax am ao ad : Nat} {a6 a7 a8 : Option Value} {S : e_SS} {Q : e_Rt → e_SS → Prop} (hX : (X 8).1 = 0) (hXX : v_X X) (hi : i + 8 ≤ (X 0).1) (hL : (X 0).1 ≤ 4096) (hT : T < 512) (h : h_L T ax am ao ad S) (k : ∀ S2 a6 a7 a8, h_L (T + 1) ax am ao ad S2 → s_w X (d + 13) K_law 4021 (l_ll ax am ao ad i a6 a7 a8) [] S2 Q) : s_w X (d + 13) K_law 2440 (l_ll ax am ao ad i a6 a7 a8) [] S Q := by
  have h0 := h.f (Nat.le_of_lt hT)
  have hc := h0.1.2.2
  obtain ⟨p, I, J, c, w⟩ := S
  refine w_op (K := K_law) (pc' := 2441) (ll' := (l_ll ax am ao ad i a6 a7 a8)) (st' := [.ref ax]) dL_law_2440 rfl ?_
  refine l_arg1 (pc := 2441) (n := 1) dL_law_2441 dL_law_2442 dL_law_2444 dL_law_2445 dL_law_2446 (by decide) (by omega) hL hc ?_
  refine l_arg1 (pc := 2447) (n := 2) dL_law_2447 dL_law_2448 dL_law_2450 dL_law_2451 dL_law_2452 (by decide) (by omega) hL hc ?_
  refine w_op (K := K_law) (pc' := 2454) (ll' := (l_ll ax am ao ad i a6 a7 a8)) (st' := [.ref ao, .int ((X 0).2 (i + 2)), .int ((X 0).2 (i + 1)), .ref ax]) dL_law_2453 rfl ?_
  refine t_callS (K := K_law) (As := [.ref ax, .int ((X 0).2 (i + 1)), .int ((X 0).2 (i + 2)), .ref ao]) (rest := []) dL_law_2454 rfl rM_L_pitch (by decide) rfl rfl (by decide) (Nat.le_of_ble_eq_true rfl) (lp_pitch (d := d) (hX := hX) (hT := hT)  (h := h) (k := fun k' S1 hB => ?_))
  show s_w X (d + 13) K_law 2457 (l_ll ax am ao ad i a6 a7 a8) [.int k'] S1 Q
  refine l_is6 (pc := 2457) dL_law_2457 ?_
  have hf := (hB (fun _ _ => True) (fun _ _ _ _ _ => trivial)).1
  refine w_op (K := K_law) (pc' := 2460) (ll' := (l_ll ax am ao ad i (some (.int k')) a7 a8)) (st' := [.ref am]) dL_law_2459 rfl ?_
  refine l_arg1 (pc := 2460) (n := 1) dL_law_2460 dL_law_2461 dL_law_2463 dL_law_2464 dL_law_2465 (by decide) (by omega) hL hf.2.2 ?_
  refine l_arg1 (pc := 2466) (n := 2) dL_law_2466 dL_law_2467 dL_law_2469 dL_law_2470 dL_law_2471 (by decide) (by omega) hL hf.2.2 ?_
  refine l_callM (As := [.int ((X 0).2 (i + 1)), .int ((X 0).2 (i + 2))]) (rest := []) dL_law_2472 rfl rM_X16_pitch (by decide) rfl rfl (by decide) rfl (Nat.le_of_ble_eq_true rfl) hf ((hB _ (fun b S2 h2 ht hb => ?_)).2)
  show s_w X (d + 13) K_law 2475 (l_ll ax am ao ad i (some (.int k')) a7 a8) [.int b] S2 Q
  exact law_tI (pc := 2475) dL_law_2475 dL_law_2477 dL_law_2478 dL_law_2481 dL_law_2483 dL_law_2488 dL_law_2490 dL_law_2493 dL_law_2494 dL_law_2495 dL_law_2496 dL_law_2498 dL_law_2499 dL_law_2500 dL_law_2505 (by decide) hT h2 ht hb (fun a6 a7 a8 => k S2 a6 a7 a8 h2)
set_option maxHeartbeats 800000 in
theorem law_c33 {X : e_XT} {d T i ax am ao ad : Nat} {a6 a7 a8 : Option Value} {S : e_SS} {Q : e_Rt → e_SS → Prop} (hX : (X 8).1 = 0) (hXX : v_X X) (hi : i + 8 ≤ (X 0).1) (hL : (X 0).1 ≤ 4096) (hT : T < 512) (h : h_L T ax am ao ad S) (k : ∀ S2 a6 a7 a8, h_L (T + 1) ax am ao ad S2 → s_w X (d + 13) K_law 4021 (l_ll ax am ao ad i a6 a7 a8) [] S2 Q) : s_w X (d + 13) K_law 2508 (l_ll ax am ao ad i a6 a7 a8) [] S Q := by
  have h0 := h.f (Nat.le_of_lt hT)
  have hc := h0.1.2.2
  obtain ⟨p, I, J, c, w⟩ := S
  refine w_op (K := K_law) (pc' := 2509) (ll' := (l_ll ax am ao ad i a6 a7 a8)) (st' := [.ref ax]) dL_law_2508 rfl ?_
  refine l_arg1 (pc := 2509) (n := 1) dL_law_2509 dL_law_2510 dL_law_2512 dL_law_2513 dL_law_2514 (by decide) (by omega) hL hc ?_
  refine l_arg1 (pc := 2515) (n := 2) dL_law_2515 dL_law_2516 dL_law_2518 dL_law_2519 dL_law_2520 (by decide) (by omega) hL hc ?_
  refine l_arg1 (pc := 2521) (n := 3) dL_law_2521 dL_law_2522 dL_law_2524 dL_law_2525 dL_law_2526 (by decide) (by omega) hL hc ?_
  refine l_i2c (pc := 2527) dL_law_2527 ?_
  refine w_op (K := K_law) (pc' := 2529) (ll' := (l_ll ax am ao ad i a6 a7 a8)) (st' := [.ref ao, .int (l_ch ((X 0).2 (i + 3))), .int ((X 0).2 (i + 2)), .int ((X 0).2 (i + 1)), .ref ax]) dL_law_2528 rfl ?_
  refine t_callS (K := K_law) (As := [.ref ax, .int ((X 0).2 (i + 1)), .int ((X 0).2 (i + 2)), .int (l_ch ((X 0).2 (i + 3))), .ref ao]) (rest := []) dL_law_2529 rfl rM_L_fault (by decide) rfl rfl (by decide) (Nat.le_of_ble_eq_true rfl) (lp_fault (d := d) (hX := hX) (hT := hT) (hz := l_chn) (h := h) (k := fun k' S1 hB => ?_))
  show s_w X (d + 13) K_law 2532 (l_ll ax am ao ad i a6 a7 a8) [.int k'] S1 Q
  refine l_is6 (pc := 2532) dL_law_2532 ?_
  have hf := (hB (fun _ _ => True) (fun _ _ _ _ _ => trivial)).1
  refine w_op (K := K_law) (pc' := 2535) (ll' := (l_ll ax am ao ad i (some (.int k')) a7 a8)) (st' := [.ref am]) dL_law_2534 rfl ?_
  refine l_arg1 (pc := 2535) (n := 1) dL_law_2535 dL_law_2536 dL_law_2538 dL_law_2539 dL_law_2540 (by decide) (by omega) hL hf.2.2 ?_
  refine l_arg1 (pc := 2541) (n := 2) dL_law_2541 dL_law_2542 dL_law_2544 dL_law_2545 dL_law_2546 (by decide) (by omega) hL hf.2.2 ?_
  refine l_arg1 (pc := 2547) (n := 3) dL_law_2547 dL_law_2548 dL_law_2550 dL_law_2551 dL_law_2552 (by decide) (by omega) hL hf.2.2 ?_
  refine l_i2c (pc := 2553) dL_law_2553 ?_
  refine l_callM (As := [.int ((X 0).2 (i + 1)), .int ((X 0).2 (i + 2)), .int (l_ch ((X 0).2 (i + 3)))]) (rest := []) dL_law_2554 rfl rM_X16_fault (by decide) rfl rfl (by decide) rfl (Nat.le_of_ble_eq_true rfl) hf ((hB _ (fun b S2 h2 ht hb => ?_)).2)
  show s_w X (d + 13) K_law 2557 (l_ll ax am ao ad i (some (.int k')) a7 a8) [.int b] S2 Q
  exact law_tI (pc := 2557) dL_law_2557 dL_law_2559 dL_law_2560 dL_law_2563 dL_law_2565 dL_law_2570 dL_law_2572 dL_law_2575 dL_law_2576 dL_law_2577 dL_law_2578 dL_law_2580 dL_law_2581 dL_law_2582 dL_law_2587 (by decide) hT h2 ht hb (fun a6 a7 a8 => k S2 a6 a7 a8 h2)
set_option maxHeartbeats 800000 in
theorem law_c34 {X : e_XT} {d T i ax am ao ad : Nat} {a6 a7 a8 : Option Value} {S : e_SS} {Q : e_Rt → e_SS → Prop} (hX : (X 8).1 = 0) (hXX : v_X X) (hi : i + 8 ≤ (X 0).1) (hL : (X 0).1 ≤ 4096) (hT : T < 512) (h : h_L T ax am ao ad S) (k : ∀ S2 a6 a7 a8, h_L (T + 1) ax am ao ad S2 → s_w X (d + 13) K_law 4021 (l_ll ax am ao ad i a6 a7 a8) [] S2 Q) : s_w X (d + 13) K_law 2590 (l_ll ax am ao ad i a6 a7 a8) [] S Q := by
  have h0 := h.f (Nat.le_of_lt hT)
  have hc := h0.1.2.2
  obtain ⟨p, I, J, c, w⟩ := S
  refine w_op (K := K_law) (pc' := 2591) (ll' := (l_ll ax am ao ad i a6 a7 a8)) (st' := [.ref ax]) dL_law_2590 rfl ?_
  refine l_arg1 (pc := 2591) (n := 1) dL_law_2591 dL_law_2592 dL_law_2594 dL_law_2595 dL_law_2596 (by decide) (by omega) hL hc ?_
  refine w_op (K := K_law) (pc' := 2598) (ll' := (l_ll ax am ao ad i a6 a7 a8)) (st' := [.ref ao, .int ((X 0).2 (i + 1)), .ref ax]) dL_law_2597 rfl ?_
  refine t_callS (K := K_law) (As := [.ref ax, .int ((X 0).2 (i + 1)), .ref ao]) (rest := []) dL_law_2598 rfl rM_L_hunt (by decide) rfl rfl (by decide) (Nat.le_of_ble_eq_true rfl) (lp_hunt (d := d) (hX := hX) (hT := hT)  (h := h) (k := fun k' S1 hB => ?_))
  show s_w X (d + 13) K_law 2601 (l_ll ax am ao ad i a6 a7 a8) [.int k'] S1 Q
  refine l_is6 (pc := 2601) dL_law_2601 ?_
  have hf := (hB (fun _ _ => True) (fun _ _ _ _ _ => trivial)).1
  refine w_op (K := K_law) (pc' := 2604) (ll' := (l_ll ax am ao ad i (some (.int k')) a7 a8)) (st' := [.ref am]) dL_law_2603 rfl ?_
  refine l_arg1 (pc := 2604) (n := 1) dL_law_2604 dL_law_2605 dL_law_2607 dL_law_2608 dL_law_2609 (by decide) (by omega) hL hf.2.2 ?_
  refine l_callM (As := [.int ((X 0).2 (i + 1))]) (rest := []) dL_law_2610 rfl rM_X16_hunt (by decide) rfl rfl (by decide) rfl (Nat.le_of_ble_eq_true rfl) hf ((hB _ (fun b S2 h2 ht hb => ?_)).2)
  show s_w X (d + 13) K_law 2613 (l_ll ax am ao ad i (some (.int k')) a7 a8) [.int b] S2 Q
  exact law_tI (pc := 2613) dL_law_2613 dL_law_2615 dL_law_2616 dL_law_2619 dL_law_2621 dL_law_2626 dL_law_2628 dL_law_2631 dL_law_2632 dL_law_2633 dL_law_2634 dL_law_2636 dL_law_2637 dL_law_2638 dL_law_2643 (by decide) hT h2 ht hb (fun a6 a7 a8 => k S2 a6 a7 a8 h2)
set_option maxHeartbeats 800000 in
theorem law_c35 {X : e_XT} {d T i ax am ao ad : Nat} {a6 a7 a8 : Option Value} {S : e_SS} {Q : e_Rt → e_SS → Prop} (hX : (X 8).1 = 0) (hXX : v_X X) (hi : i + 8 ≤ (X 0).1) (hL : (X 0).1 ≤ 4096) (hT : T < 512) (h : h_L T ax am ao ad S) (k : ∀ S2 a6 a7 a8, h_L (T + 1) ax am ao ad S2 → s_w X (d + 13) K_law 4021 (l_ll ax am ao ad i a6 a7 a8) [] S2 Q) : s_w X (d + 13) K_law 2646 (l_ll ax am ao ad i a6 a7 a8) [] S Q := by
  have h0 := h.f (Nat.le_of_lt hT)
  have hc := h0.1.2.2
  obtain ⟨p, I, J, c, w⟩ := S
  refine w_op (K := K_law) (pc' := 2647) (ll' := (l_ll ax am ao ad i a6 a7 a8)) (st' := [.ref ax]) dL_law_2646 rfl ?_
  refine l_arg1 (pc := 2647) (n := 1) dL_law_2647 dL_law_2648 dL_law_2650 dL_law_2651 dL_law_2652 (by decide) (by omega) hL hc ?_
  refine w_op (K := K_law) (pc' := 2654) (ll' := (l_ll ax am ao ad i a6 a7 a8)) (st' := [.ref ao, .int ((X 0).2 (i + 1)), .ref ax]) dL_law_2653 rfl ?_
  refine t_callS (K := K_law) (As := [.ref ax, .int ((X 0).2 (i + 1)), .ref ao]) (rest := []) dL_law_2654 rfl rM_L_guest (by decide) rfl rfl (by decide) (Nat.le_of_ble_eq_true rfl) (lp_guest (d := d) (hX := hX) (hT := hT)  (h := h) (k := fun k' S1 hB => ?_))
  show s_w X (d + 13) K_law 2657 (l_ll ax am ao ad i a6 a7 a8) [.int k'] S1 Q
  refine l_is6 (pc := 2657) dL_law_2657 ?_
  have hf := (hB (fun _ _ => True) (fun _ _ _ _ _ => trivial)).1
  refine w_op (K := K_law) (pc' := 2660) (ll' := (l_ll ax am ao ad i (some (.int k')) a7 a8)) (st' := [.ref am]) dL_law_2659 rfl ?_
  refine l_arg1 (pc := 2660) (n := 1) dL_law_2660 dL_law_2661 dL_law_2663 dL_law_2664 dL_law_2665 (by decide) (by omega) hL hf.2.2 ?_
  refine l_callM (As := [.int ((X 0).2 (i + 1))]) (rest := []) dL_law_2666 rfl rM_X16_guest (by decide) rfl rfl (by decide) rfl (Nat.le_of_ble_eq_true rfl) hf ((hB _ (fun b S2 h2 ht hb => ?_)).2)
  show s_w X (d + 13) K_law 2669 (l_ll ax am ao ad i (some (.int k')) a7 a8) [.int b] S2 Q
  exact law_tI (pc := 2669) dL_law_2669 dL_law_2671 dL_law_2672 dL_law_2675 dL_law_2677 dL_law_2682 dL_law_2684 dL_law_2687 dL_law_2688 dL_law_2689 dL_law_2690 dL_law_2692 dL_law_2693 dL_law_2694 dL_law_2699 (by decide) hT h2 ht hb (fun a6 a7 a8 => k S2 a6 a7 a8 h2)
set_option maxHeartbeats 800000 in
theorem law_c36 {X : e_XT} {d T i ax am ao ad : Nat} {a6 a7 a8 : Option Value} {S : e_SS} {Q : e_Rt → e_SS → Prop} (hX : (X 8).1 = 0) (hXX : v_X X) (hi : i + 8 ≤ (X 0).1) (hL : (X 0).1 ≤ 4096) (hT : T < 512) (h : h_L T ax am ao ad S) (k : ∀ S2 a6 a7 a8, h_L (T + 1) ax am ao ad S2 → s_w X (d + 13) K_law 4021 (l_ll ax am ao ad i a6 a7 a8) [] S2 Q) : s_w X (d + 13) K_law 2702 (l_ll ax am ao ad i a6 a7 a8) [] S Q := by
  have h0 := h.f (Nat.le_of_lt hT)
  have hc := h0.1.2.2
  obtain ⟨p, I, J, c, w⟩ := S
  refine w_op (K := K_law) (pc' := 2703) (ll' := (l_ll ax am ao ad i a6 a7 a8)) (st' := [.ref ax]) dL_law_2702 rfl ?_
  refine l_arg1 (pc := 2703) (n := 1) dL_law_2703 dL_law_2704 dL_law_2706 dL_law_2707 dL_law_2708 (by decide) (by omega) hL hc ?_
  refine l_bool (pc := 2709) dL_law_2709 dL_law_2712 dL_law_2713 dL_law_2716 ?_
  refine w_op (K := K_law) (pc' := 2718) (ll' := (l_ll ax am ao ad i a6 a7 a8)) (st' := [.ref ao, .int (l_b ((X 0).2 (i + 1))), .ref ax]) dL_law_2717 rfl ?_
  refine t_callS (K := K_law) (As := [.ref ax, .int (l_b ((X 0).2 (i + 1))), .ref ao]) (rest := []) dL_law_2718 rfl rM_L_claim (by decide) rfl rfl (by decide) (Nat.le_of_ble_eq_true rfl) (lp_claim (d := d) (hX := hX) (hT := hT)  (h := h) (k := fun k' S1 hB => ?_))
  show s_w X (d + 13) K_law 2721 (l_ll ax am ao ad i a6 a7 a8) [.int k'] S1 Q
  refine l_is6 (pc := 2721) dL_law_2721 ?_
  have hf := (hB (fun _ _ => True) (fun _ _ _ _ _ => trivial)).1
  refine w_op (K := K_law) (pc' := 2724) (ll' := (l_ll ax am ao ad i (some (.int k')) a7 a8)) (st' := [.ref am]) dL_law_2723 rfl ?_
  refine l_arg1 (pc := 2724) (n := 1) dL_law_2724 dL_law_2725 dL_law_2727 dL_law_2728 dL_law_2729 (by decide) (by omega) hL hf.2.2 ?_
  refine l_bool (pc := 2730) dL_law_2730 dL_law_2733 dL_law_2734 dL_law_2737 ?_
  refine l_callM (As := [.int (l_b ((X 0).2 (i + 1)))]) (rest := []) dL_law_2738 rfl rM_X16_claim (by decide) rfl rfl (by decide) rfl (Nat.le_of_ble_eq_true rfl) hf ((hB _ (fun b S2 h2 ht hb => ?_)).2)
  show s_w X (d + 13) K_law 2741 (l_ll ax am ao ad i (some (.int k')) a7 a8) [.int b] S2 Q
  exact law_tB (pc := 2741) dL_law_2741 dL_law_2743 dL_law_2744 dL_law_2747 dL_law_2749 dL_law_2754 dL_law_2756 dL_law_2759 dL_law_2760 dL_law_2761 dL_law_2762 dL_law_2764 dL_law_2767 dL_law_2768 dL_law_2771 dL_law_2772 dL_law_2773 dL_law_2778 (by decide) hT h2 ht hb (fun a6 a7 a8 => k S2 a6 a7 a8 h2)
set_option maxHeartbeats 800000 in
theorem law_c37 {X : e_XT} {d T i ax am ao ad : Nat} {a6 a7 a8 : Option Value} {S : e_SS} {Q : e_Rt → e_SS → Prop} (hX : (X 8).1 = 0) (hXX : v_X X) (hi : i + 8 ≤ (X 0).1) (hL : (X 0).1 ≤ 4096) (hT : T < 512) (h : h_L T ax am ao ad S) (k : ∀ S2 a6 a7 a8, h_L (T + 1) ax am ao ad S2 → s_w X (d + 13) K_law 4021 (l_ll ax am ao ad i a6 a7 a8) [] S2 Q) : s_w X (d + 13) K_law 2781 (l_ll ax am ao ad i a6 a7 a8) [] S Q := by
  have h0 := h.f (Nat.le_of_lt hT)
  have hc := h0.1.2.2
  obtain ⟨p, I, J, c, w⟩ := S
  refine w_op (K := K_law) (pc' := 2782) (ll' := (l_ll ax am ao ad i a6 a7 a8)) (st' := [.ref ax]) dL_law_2781 rfl ?_
  refine l_arg1 (pc := 2782) (n := 1) dL_law_2782 dL_law_2783 dL_law_2785 dL_law_2786 dL_law_2787 (by decide) (by omega) hL hc ?_
  refine w_op (K := K_law) (pc' := 2789) (ll' := (l_ll ax am ao ad i a6 a7 a8)) (st' := [.ref ao, .int ((X 0).2 (i + 1)), .ref ax]) dL_law_2788 rfl ?_
  refine t_callS (K := K_law) (As := [.ref ax, .int ((X 0).2 (i + 1)), .ref ao]) (rest := []) dL_law_2789 rfl rM_L_level (by decide) rfl rfl (by decide) (Nat.le_of_ble_eq_true rfl) (lp_level (d := d) (hX := hX) (hT := hT)  (h := h) (k := fun k' S1 hB => ?_))
  show s_w X (d + 13) K_law 2792 (l_ll ax am ao ad i a6 a7 a8) [.int k'] S1 Q
  refine l_is6 (pc := 2792) dL_law_2792 ?_
  have hf := (hB (fun _ _ => True) (fun _ _ _ _ _ => trivial)).1
  refine w_op (K := K_law) (pc' := 2795) (ll' := (l_ll ax am ao ad i (some (.int k')) a7 a8)) (st' := [.ref am]) dL_law_2794 rfl ?_
  refine l_arg1 (pc := 2795) (n := 1) dL_law_2795 dL_law_2796 dL_law_2798 dL_law_2799 dL_law_2800 (by decide) (by omega) hL hf.2.2 ?_
  refine l_callM (As := [.int ((X 0).2 (i + 1))]) (rest := []) dL_law_2801 rfl rM_X16_level (by decide) rfl rfl (by decide) rfl (Nat.le_of_ble_eq_true rfl) hf ((hB _ (fun b S2 h2 ht hb => ?_)).2)
  show s_w X (d + 13) K_law 2804 (l_ll ax am ao ad i (some (.int k')) a7 a8) [.int b] S2 Q
  exact law_tI (pc := 2804) dL_law_2804 dL_law_2806 dL_law_2807 dL_law_2810 dL_law_2812 dL_law_2817 dL_law_2819 dL_law_2822 dL_law_2823 dL_law_2824 dL_law_2825 dL_law_2827 dL_law_2828 dL_law_2829 dL_law_2834 (by decide) hT h2 ht hb (fun a6 a7 a8 => k S2 a6 a7 a8 h2)
set_option maxHeartbeats 800000 in
theorem law_c38 {X : e_XT} {d T i ax am ao ad : Nat} {a6 a7 a8 : Option Value} {S : e_SS} {Q : e_Rt → e_SS → Prop} (hX : (X 8).1 = 0) (hXX : v_X X) (hi : i + 8 ≤ (X 0).1) (hL : (X 0).1 ≤ 4096) (hT : T < 512) (h : h_L T ax am ao ad S) (k : ∀ S2 a6 a7 a8, h_L (T + 1) ax am ao ad S2 → s_w X (d + 13) K_law 4021 (l_ll ax am ao ad i a6 a7 a8) [] S2 Q) : s_w X (d + 13) K_law 2837 (l_ll ax am ao ad i a6 a7 a8) [] S Q := by
  have h0 := h.f (Nat.le_of_lt hT)
  have hc := h0.1.2.2
  obtain ⟨p, I, J, c, w⟩ := S
  refine w_op (K := K_law) (pc' := 2838) (ll' := (l_ll ax am ao ad i a6 a7 a8)) (st' := [.ref ax]) dL_law_2837 rfl ?_
  refine l_arg1 (pc := 2838) (n := 1) dL_law_2838 dL_law_2839 dL_law_2841 dL_law_2842 dL_law_2843 (by decide) (by omega) hL hc ?_
  refine l_arg1 (pc := 2844) (n := 2) dL_law_2844 dL_law_2845 dL_law_2847 dL_law_2848 dL_law_2849 (by decide) (by omega) hL hc ?_
  refine l_bool (pc := 2850) dL_law_2850 dL_law_2853 dL_law_2854 dL_law_2857 ?_
  refine w_op (K := K_law) (pc' := 2859) (ll' := (l_ll ax am ao ad i a6 a7 a8)) (st' := [.ref ao, .int (l_b ((X 0).2 (i + 2))), .int ((X 0).2 (i + 1)), .ref ax]) dL_law_2858 rfl ?_
  refine t_callS (K := K_law) (As := [.ref ax, .int ((X 0).2 (i + 1)), .int (l_b ((X 0).2 (i + 2))), .ref ao]) (rest := []) dL_law_2859 rfl rM_L_scope (by decide) rfl rfl (by decide) (Nat.le_of_ble_eq_true rfl) (lp_scope (d := d) (hX := hX) (hT := hT) (hy := l_b01) (h := h) (k := fun k' S1 hB => ?_))
  show s_w X (d + 13) K_law 2862 (l_ll ax am ao ad i a6 a7 a8) [.int k'] S1 Q
  refine l_is6 (pc := 2862) dL_law_2862 ?_
  have hf := (hB (fun _ _ => True) (fun _ _ _ _ _ => trivial)).1
  refine w_op (K := K_law) (pc' := 2865) (ll' := (l_ll ax am ao ad i (some (.int k')) a7 a8)) (st' := [.ref am]) dL_law_2864 rfl ?_
  refine l_arg1 (pc := 2865) (n := 1) dL_law_2865 dL_law_2866 dL_law_2868 dL_law_2869 dL_law_2870 (by decide) (by omega) hL hf.2.2 ?_
  refine l_arg1 (pc := 2871) (n := 2) dL_law_2871 dL_law_2872 dL_law_2874 dL_law_2875 dL_law_2876 (by decide) (by omega) hL hf.2.2 ?_
  refine l_bool (pc := 2877) dL_law_2877 dL_law_2880 dL_law_2881 dL_law_2884 ?_
  refine l_callM (As := [.int ((X 0).2 (i + 1)), .int (l_b ((X 0).2 (i + 2)))]) (rest := []) dL_law_2885 rfl rM_X16_scope (by decide) rfl rfl (by decide) rfl (Nat.le_of_ble_eq_true rfl) hf ((hB _ (fun b S2 h2 ht hb => ?_)).2)
  show s_w X (d + 13) K_law 2888 (l_ll ax am ao ad i (some (.int k')) a7 a8) [.int b] S2 Q
  exact law_tB (pc := 2888) dL_law_2888 dL_law_2890 dL_law_2891 dL_law_2894 dL_law_2896 dL_law_2901 dL_law_2903 dL_law_2906 dL_law_2907 dL_law_2908 dL_law_2909 dL_law_2911 dL_law_2914 dL_law_2915 dL_law_2918 dL_law_2919 dL_law_2920 dL_law_2925 (by decide) hT h2 ht hb (fun a6 a7 a8 => k S2 a6 a7 a8 h2)
set_option maxHeartbeats 800000 in
theorem law_c39 {X : e_XT} {d T i ax am ao ad : Nat} {a6 a7 a8 : Option Value} {S : e_SS} {Q : e_Rt → e_SS → Prop} (hX : (X 8).1 = 0) (hXX : v_X X) (hi : i + 8 ≤ (X 0).1) (hL : (X 0).1 ≤ 4096) (hT : T < 512) (h : h_L T ax am ao ad S) (k : ∀ S2 a6 a7 a8, h_L (T + 1) ax am ao ad S2 → s_w X (d + 13) K_law 4021 (l_ll ax am ao ad i a6 a7 a8) [] S2 Q) : s_w X (d + 13) K_law 2928 (l_ll ax am ao ad i a6 a7 a8) [] S Q := by
  have h0 := h.f (Nat.le_of_lt hT)
  have hc := h0.1.2.2
  obtain ⟨p, I, J, c, w⟩ := S
  refine w_op (K := K_law) (pc' := 2929) (ll' := (l_ll ax am ao ad i a6 a7 a8)) (st' := [.ref ax]) dL_law_2928 rfl ?_
  refine l_arg1 (pc := 2929) (n := 1) dL_law_2929 dL_law_2930 dL_law_2932 dL_law_2933 dL_law_2934 (by decide) (by omega) hL hc ?_
  refine l_arg1 (pc := 2935) (n := 2) dL_law_2935 dL_law_2936 dL_law_2938 dL_law_2939 dL_law_2940 (by decide) (by omega) hL hc ?_
  refine w_op (K := K_law) (pc' := 2942) (ll' := (l_ll ax am ao ad i a6 a7 a8)) (st' := [.ref ao, .int ((X 0).2 (i + 2)), .int ((X 0).2 (i + 1)), .ref ax]) dL_law_2941 rfl ?_
  refine t_callS (K := K_law) (As := [.ref ax, .int ((X 0).2 (i + 1)), .int ((X 0).2 (i + 2)), .ref ao]) (rest := []) dL_law_2942 rfl rM_L_set (by decide) rfl rfl (by decide) (Nat.le_of_ble_eq_true rfl) (lp_set (d := d) (hX := hX) (hT := hT)  (h := h) (k := fun k' S1 hB => ?_))
  show s_w X (d + 13) K_law 2945 (l_ll ax am ao ad i a6 a7 a8) [.int k'] S1 Q
  refine l_is6 (pc := 2945) dL_law_2945 ?_
  have hf := (hB (fun _ _ => True) (fun _ _ _ _ _ => trivial)).1
  refine w_op (K := K_law) (pc' := 2948) (ll' := (l_ll ax am ao ad i (some (.int k')) a7 a8)) (st' := [.ref am]) dL_law_2947 rfl ?_
  refine l_arg1 (pc := 2948) (n := 1) dL_law_2948 dL_law_2949 dL_law_2951 dL_law_2952 dL_law_2953 (by decide) (by omega) hL hf.2.2 ?_
  refine l_arg1 (pc := 2954) (n := 2) dL_law_2954 dL_law_2955 dL_law_2957 dL_law_2958 dL_law_2959 (by decide) (by omega) hL hf.2.2 ?_
  refine l_callM (As := [.int ((X 0).2 (i + 1)), .int ((X 0).2 (i + 2))]) (rest := []) dL_law_2960 rfl rM_X16_set (by decide) rfl rfl (by decide) rfl (Nat.le_of_ble_eq_true rfl) hf ((hB _ (fun b S2 h2 ht hb => ?_)).2)
  show s_w X (d + 13) K_law 2963 (l_ll ax am ao ad i (some (.int k')) a7 a8) [.int b] S2 Q
  exact law_tI (pc := 2963) dL_law_2963 dL_law_2965 dL_law_2966 dL_law_2969 dL_law_2971 dL_law_2976 dL_law_2978 dL_law_2981 dL_law_2982 dL_law_2983 dL_law_2984 dL_law_2986 dL_law_2987 dL_law_2988 dL_law_2993 (by decide) hT h2 ht hb (fun a6 a7 a8 => k S2 a6 a7 a8 h2)
