section LCSN
variable {p : Program} {l : Launch} {e : Env} {s : State} {m : MethodId} {args : Array Value} {below : List Frame} {meth : Method} {c : Code} {D : va_G} {A : Nat → Prop} {Q : State → Prop} {cM : Cond}
variable {kc ks kc9 ks9 : Nat} {T : Nat → ClassId} {S : HS} {L : List Nat} {ol od m0 b Lx i : Nat}
variable {ar a : Nat → Nat} {r : Nat → Int32} {q : Nat → Nat → Int32} {f : Nat → Int64} {fd : Nat → UInt64} {xs : Nat → Int32} {mu : Nat → Nat → Int32} {g bb : Nat → Int32} {sh : List Int32}
set_option maxRecDepth 100000 in
set_option maxHeartbeats 4000000 in
theorem lcs_22 (hst : l.stackTraces = false) (C : GC p s m args meth c code RL (cM :: W0) 9 D A (zty T)) (E : GE T A s) (N : NX s) (hX : va_X b Lx xs s s.heap) (hbl : b < s.heap.size) (hbA : ¬ A b) (hLx : Lx ≤ 3072) (hi : i + 6 ≤ Lx) (hkc : kc9 + 210 ≤ kc) (hks : ks9 + 12400 ≤ ks) (hI : LInv T a S L mu g bb sh r q) (K : LK p l e s m args below meth c D A Q T a ar ol od m0 b i kc9 ks9) : GW p l e room_1 s m args below meth c D A 9 601024 7293034 Q (LWW T ol od m0 ar f fd S L r q) kc ks 1743 [(0, .ref b), (1, .ref (a 50)), (2, .ref m0), (3, .ref ol), (4, .ref od), (5, .int (nI i))] [] := by
  obtain ⟨hL, hw, hF, hR, h120⟩ := hI
  refine g_aload_n C dL_law_1743 rfl 1 rfl ?_
  refine gl_arg C hX hbl hbA hLx hi 1 (by decide) (by decide) 0 5 rfl rfl dL_law_1744 dL_law_1745 dL_law_1747 dL_law_1748 dL_law_1749 ?_
  refine g_aload_n C dL_law_1750 rfl 3 rfl ?_
  refine gw_perm pmJ ?_
  refine gl_hlp (mk := oJ T) C E N hw hL [.ref (a 50), .int (xs (i + 1)), .ref ol] rfl (h_L_searched l hst D T (a 50) ol (xs (i + 1)) S f a mu g bb sh (li_x0 hF) ⟨hF, rfl⟩) (w0_SW 3 C.2.2.2.2.1 kw_1380 kw_1381 kw_0 kw_1382 rfl rfl (by decide +kernel) ⟨Nat.le_of_ble_eq_true rfl, Nat.le_of_ble_eq_true rfl⟩) rfl (Nat.le_of_ble_eq_true rfl) (Nat.le_of_ble_eq_true rfl) (Nat.le_of_ble_eq_true rfl) (by omega) (by omega) dL_law_1751 (fun k S1 L1 f1 hx1 hw1 hL1 hp => ?_)
  refine gw_perm pmJ.symm ?_
  refine gw_less (kc' := kc9) (ks' := ks9) (by omega) (by omega) ?_
  refine g_istore (lv' := (6, .int k) :: [(0, .ref b), (1, .ref (a 50)), (2, .ref m0), (3, .ref ol), (4, .ref od), (5, .int (nI i))]) C dL_law_1754 (by decide) rfl ?_
  refine g_aload_n C dL_law_1756 rfl 3 rfl ?_
  refine gl_arg C hX hbl hbA hLx hi 1 (by decide) (by decide) 1 6 rfl rfl dL_law_1757 dL_law_1758 dL_law_1760 dL_law_1761 dL_law_1762 ?_
  refine gw_perm pmR ?_
  refine gl_refi C [.int (xs (i + 1))] rfl (k_X11_searched l D T m0 ar (xs (i + 1)) r q (by rw [hR.1]; exact (rz_gwf hF).1)) (w0_V 1 C.2.2.2.2.1 kw_2271 kw_2272 kw_2273 kw_9 kw_2274 rfl rfl (by decide +kernel) ⟨Nat.le_of_ble_eq_true rfl, Nat.le_of_ble_eq_true rfl⟩) rfl (Nat.le_of_ble_eq_true rfl) (Nat.le_of_ble_eq_true rfl) (Nat.le_of_ble_eq_true rfl) dL_law_1763 (fun v r1 q1 hq => ?_)
  refine gw_perm pmR.symm ?_
  rw [hR.1] at hq
  have M := rz_read hR hp hq.2.1 hq.1 hq.2.2.1 hq.2.2.2 (by decide)
  exact lc_tail C M.1 M.2.1 dL_law_1766 dL_law_1768 dL_law_1769 dL_law_1772 dL_law_1774 dL_law_1779 dL_law_1781 dL_law_1784 dL_law_1785 dL_law_1786 dL_law_1787 dL_law_1789 dL_law_1790 dL_law_1791 dL_law_1796 (by decide) (lk_out K h120 hx1 hw1 hL1 M.2.2)
set_option maxRecDepth 100000 in
set_option maxHeartbeats 4000000 in
theorem lcs_23 (hst : l.stackTraces = false) (C : GC p s m args meth c code RL (cM :: W0) 9 D A (zty T)) (E : GE T A s) (N : NX s) (hX : va_X b Lx xs s s.heap) (hbl : b < s.heap.size) (hbA : ¬ A b) (hLx : Lx ≤ 3072) (hi : i + 6 ≤ Lx) (hkc : kc9 + 210 ≤ kc) (hks : ks9 + 12400 ≤ ks) (hI : LInv T a S L mu g bb sh r q) (K : LK p l e s m args below meth c D A Q T a ar ol od m0 b i kc9 ks9) : GW p l e room_1 s m args below meth c D A 9 601024 7293034 Q (LWW T ol od m0 ar f fd S L r q) kc ks 1799 [(0, .ref b), (1, .ref (a 50)), (2, .ref m0), (3, .ref ol), (4, .ref od), (5, .int (nI i))] [] := by
  obtain ⟨hL, hw, hF, hR, h120⟩ := hI
  refine g_aload_n C dL_law_1799 rfl 1 rfl ?_
  refine gl_arg C hX hbl hbA hLx hi 1 (by decide) (by decide) 0 5 rfl rfl dL_law_1800 dL_law_1801 dL_law_1803 dL_law_1804 dL_law_1805 ?_
  refine gl_arg C hX hbl hbA hLx hi 2 (by decide) (by decide) 0 5 rfl rfl dL_law_1806 dL_law_1807 dL_law_1809 dL_law_1810 dL_law_1811 ?_
  refine g_aload_n C dL_law_1812 rfl 3 rfl ?_
  refine gw_perm pmJ ?_
  refine gl_hlp (mk := oJ T) C E N hw hL [.ref (a 50), .int (xs (i + 1)), .int (xs (i + 2)), .ref ol] rfl (h_L_merged l hst D T (a 50) ol (xs (i + 1)) (xs (i + 2)) S f a mu g bb sh (li_x0 hF) ⟨hF, rfl⟩) (w0_SW 4 C.2.2.2.2.1 kw_1399 kw_1400 kw_0 kw_1401 rfl rfl (by decide +kernel) ⟨Nat.le_of_ble_eq_true rfl, Nat.le_of_ble_eq_true rfl⟩) rfl (Nat.le_of_ble_eq_true rfl) (Nat.le_of_ble_eq_true rfl) (Nat.le_of_ble_eq_true rfl) (by omega) (by omega) dL_law_1813 (fun k S1 L1 f1 hx1 hw1 hL1 hp => ?_)
  refine gw_perm pmJ.symm ?_
  refine gw_less (kc' := kc9) (ks' := ks9) (by omega) (by omega) ?_
  refine g_istore (lv' := (6, .int k) :: [(0, .ref b), (1, .ref (a 50)), (2, .ref m0), (3, .ref ol), (4, .ref od), (5, .int (nI i))]) C dL_law_1816 (by decide) rfl ?_
  refine g_aload_n C dL_law_1818 rfl 3 rfl ?_
  refine gl_arg C hX hbl hbA hLx hi 1 (by decide) (by decide) 1 6 rfl rfl dL_law_1819 dL_law_1820 dL_law_1822 dL_law_1823 dL_law_1824 ?_
  refine gl_arg C hX hbl hbA hLx hi 2 (by decide) (by decide) 1 6 rfl rfl dL_law_1825 dL_law_1826 dL_law_1828 dL_law_1829 dL_law_1830 ?_
  refine gw_perm pmR ?_
  refine gl_refi C [.int (xs (i + 1)), .int (xs (i + 2))] rfl (k_X11_merged l D T m0 ar (xs (i + 1)) (xs (i + 2)) r q (by rw [hR.1]; exact (rz_gwf hF).1)) (w0_V 2 C.2.2.2.2.1 kw_2275 kw_2276 kw_2277 kw_9 kw_2278 rfl rfl (by decide +kernel) ⟨Nat.le_of_ble_eq_true rfl, Nat.le_of_ble_eq_true rfl⟩) rfl (Nat.le_of_ble_eq_true rfl) (Nat.le_of_ble_eq_true rfl) (Nat.le_of_ble_eq_true rfl) dL_law_1831 (fun v r1 q1 hq => ?_)
  refine gw_perm pmR.symm ?_
  rw [hR.1] at hq
  have M := rz_read hR hp hq.2.1 hq.1 hq.2.2.1 hq.2.2.2 (by decide)
  exact lc_tail C M.1 M.2.1 dL_law_1834 dL_law_1836 dL_law_1837 dL_law_1840 dL_law_1842 dL_law_1847 dL_law_1849 dL_law_1852 dL_law_1853 dL_law_1854 dL_law_1855 dL_law_1857 dL_law_1858 dL_law_1859 dL_law_1864 (by decide) (lk_out K h120 hx1 hw1 hL1 M.2.2)
set_option maxRecDepth 100000 in
set_option maxHeartbeats 4000000 in
theorem lcs_24 (hst : l.stackTraces = false) (C : GC p s m args meth c code RL (cM :: W0) 9 D A (zty T)) (E : GE T A s) (N : NX s) (hX : va_X b Lx xs s s.heap) (hbl : b < s.heap.size) (hbA : ¬ A b) (hLx : Lx ≤ 3072) (hi : i + 6 ≤ Lx) (hkc : kc9 + 210 ≤ kc) (hks : ks9 + 12400 ≤ ks) (hI : LInv T a S L mu g bb sh r q) (K : LK p l e s m args below meth c D A Q T a ar ol od m0 b i kc9 ks9) : GW p l e room_1 s m args below meth c D A 9 601024 7293034 Q (LWW T ol od m0 ar f fd S L r q) kc ks 1867 [(0, .ref b), (1, .ref (a 50)), (2, .ref m0), (3, .ref ol), (4, .ref od), (5, .int (nI i))] [] := by
  obtain ⟨hL, hw, hF, hR, h120⟩ := hI
  refine g_aload_n C dL_law_1867 rfl 1 rfl ?_
  refine gl_arg C hX hbl hbA hLx hi 1 (by decide) (by decide) 0 5 rfl rfl dL_law_1868 dL_law_1869 dL_law_1871 dL_law_1872 dL_law_1873 ?_
  refine g_aload_n C dL_law_1874 rfl 3 rfl ?_
  refine gw_perm pmJ ?_
  refine gl_hlp (mk := oJ T) C E N hw hL [.ref (a 50), .int (xs (i + 1)), .ref ol] rfl (h_L_post l hst D T (a 50) ol (xs (i + 1)) S f a mu g bb sh (li_x0 hF) ⟨hF, rfl⟩) (w0_SW 3 C.2.2.2.2.1 kw_1426 kw_1427 kw_0 kw_1428 rfl rfl (by decide +kernel) ⟨Nat.le_of_ble_eq_true rfl, Nat.le_of_ble_eq_true rfl⟩) rfl (Nat.le_of_ble_eq_true rfl) (Nat.le_of_ble_eq_true rfl) (Nat.le_of_ble_eq_true rfl) (by omega) (by omega) dL_law_1875 (fun k S1 L1 f1 hx1 hw1 hL1 hp => ?_)
  refine gw_perm pmJ.symm ?_
  refine gw_less (kc' := kc9) (ks' := ks9) (by omega) (by omega) ?_
  refine g_istore (lv' := (6, .int k) :: [(0, .ref b), (1, .ref (a 50)), (2, .ref m0), (3, .ref ol), (4, .ref od), (5, .int (nI i))]) C dL_law_1878 (by decide) rfl ?_
  refine g_aload_n C dL_law_1880 rfl 3 rfl ?_
  refine gl_arg C hX hbl hbA hLx hi 1 (by decide) (by decide) 1 6 rfl rfl dL_law_1881 dL_law_1882 dL_law_1884 dL_law_1885 dL_law_1886 ?_
  refine gw_perm pmR ?_
  refine gl_refi C [.int (xs (i + 1))] rfl (k_X11_post l D T m0 ar (xs (i + 1)) r q ⟨(by rw [hR.1]; exact (rz_gwf hF).1), (rz_cw8 hF hR)⟩) (w0_V 1 C.2.2.2.2.1 kw_2287 kw_2288 kw_2289 kw_9 kw_2290 rfl rfl (by decide +kernel) ⟨Nat.le_of_ble_eq_true rfl, Nat.le_of_ble_eq_true rfl⟩) rfl (Nat.le_of_ble_eq_true rfl) (Nat.le_of_ble_eq_true rfl) (Nat.le_of_ble_eq_true rfl) dL_law_1887 (fun v r1 q1 hq => ?_)
  refine gw_perm pmR.symm ?_
  rw [hR.1] at hq
  have M := rz_post hF hR hp hq
  exact lc_tail C M.1 M.2.1 dL_law_1890 dL_law_1892 dL_law_1893 dL_law_1896 dL_law_1898 dL_law_1903 dL_law_1905 dL_law_1908 dL_law_1909 dL_law_1910 dL_law_1911 dL_law_1913 dL_law_1914 dL_law_1915 dL_law_1920 (by decide) (lk_out K h120 hx1 hw1 hL1 M.2.2)
set_option maxRecDepth 100000 in
set_option maxHeartbeats 4000000 in
theorem lcs_25 (hst : l.stackTraces = false) (C : GC p s m args meth c code RL (cM :: W0) 9 D A (zty T)) (E : GE T A s) (N : NX s) (hX : va_X b Lx xs s s.heap) (hbl : b < s.heap.size) (hbA : ¬ A b) (hLx : Lx ≤ 3072) (hi : i + 6 ≤ Lx) (hkc : kc9 + 210 ≤ kc) (hks : ks9 + 12400 ≤ ks) (hI : LInv T a S L mu g bb sh r q) (K : LK p l e s m args below meth c D A Q T a ar ol od m0 b i kc9 ks9) : GW p l e room_1 s m args below meth c D A 9 601024 7293034 Q (LWW T ol od m0 ar f fd S L r q) kc ks 1923 [(0, .ref b), (1, .ref (a 50)), (2, .ref m0), (3, .ref ol), (4, .ref od), (5, .int (nI i))] [] := by
  obtain ⟨hL, hw, hF, hR, h120⟩ := hI
  refine g_aload_n C dL_law_1923 rfl 1 rfl ?_
  refine gl_arg C hX hbl hbA hLx hi 1 (by decide) (by decide) 0 5 rfl rfl dL_law_1924 dL_law_1925 dL_law_1927 dL_law_1928 dL_law_1929 ?_
  refine g_aload_n C dL_law_1930 rfl 3 rfl ?_
  refine gw_perm pmJ ?_
  refine gl_hlp (mk := oJ T) C E N hw hL [.ref (a 50), .int (xs (i + 1)), .ref ol] rfl (h_L_account l hst D T (a 50) ol (xs (i + 1)) S f a mu g bb sh (li_x0 hF) ⟨hF, rfl⟩) (w0_SW 3 C.2.2.2.2.1 kw_1442 kw_1443 kw_0 kw_1444 rfl rfl (by decide +kernel) ⟨Nat.le_of_ble_eq_true rfl, Nat.le_of_ble_eq_true rfl⟩) rfl (Nat.le_of_ble_eq_true rfl) (Nat.le_of_ble_eq_true rfl) (Nat.le_of_ble_eq_true rfl) (by omega) (by omega) dL_law_1931 (fun k S1 L1 f1 hx1 hw1 hL1 hp => ?_)
  refine gw_perm pmJ.symm ?_
  refine gw_less (kc' := kc9) (ks' := ks9) (by omega) (by omega) ?_
  refine g_istore (lv' := (6, .int k) :: [(0, .ref b), (1, .ref (a 50)), (2, .ref m0), (3, .ref ol), (4, .ref od), (5, .int (nI i))]) C dL_law_1934 (by decide) rfl ?_
  refine g_aload_n C dL_law_1936 rfl 3 rfl ?_
  refine gl_arg C hX hbl hbA hLx hi 1 (by decide) (by decide) 1 6 rfl rfl dL_law_1937 dL_law_1938 dL_law_1940 dL_law_1941 dL_law_1942 ?_
  refine gw_perm pmR ?_
  refine gl_refi C [.int (xs (i + 1))] rfl (k_X11_account l D T m0 ar (xs (i + 1)) r q (by rw [hR.1]; exact (rz_gwf hF).1)) (w0_V 1 C.2.2.2.2.1 kw_2299 kw_2300 kw_2301 kw_9 kw_2302 rfl rfl (by decide +kernel) ⟨Nat.le_of_ble_eq_true rfl, Nat.le_of_ble_eq_true rfl⟩) rfl (Nat.le_of_ble_eq_true rfl) (Nat.le_of_ble_eq_true rfl) (Nat.le_of_ble_eq_true rfl) dL_law_1943 (fun v r1 q1 hq => ?_)
  refine gw_perm pmR.symm ?_
  rw [hR.1] at hq
  have M := rz_read (Lq := []) hR hp hq.2.1 (fun j _ => congrFun (show q1 = q from hq.1) j) hq.2.2.1 hq.2.2.2 (by decide)
  exact lc_tail C M.1 M.2.1 dL_law_1946 dL_law_1948 dL_law_1949 dL_law_1952 dL_law_1954 dL_law_1959 dL_law_1961 dL_law_1964 dL_law_1965 dL_law_1966 dL_law_1967 dL_law_1969 dL_law_1970 dL_law_1971 dL_law_1976 (by decide) (lk_out K h120 hx1 hw1 hL1 M.2.2)
set_option maxRecDepth 100000 in
set_option maxHeartbeats 4000000 in
theorem lcs_26 (hst : l.stackTraces = false) (C : GC p s m args meth c code RL (cM :: W0) 9 D A (zty T)) (E : GE T A s) (N : NX s) (hX : va_X b Lx xs s s.heap) (hbl : b < s.heap.size) (hbA : ¬ A b) (hLx : Lx ≤ 3072) (hi : i + 6 ≤ Lx) (hkc : kc9 + 210 ≤ kc) (hks : ks9 + 12400 ≤ ks) (hI : LInv T a S L mu g bb sh r q) (K : LK p l e s m args below meth c D A Q T a ar ol od m0 b i kc9 ks9) : GW p l e room_1 s m args below meth c D A 9 601024 7293034 Q (LWW T ol od m0 ar f fd S L r q) kc ks 1979 [(0, .ref b), (1, .ref (a 50)), (2, .ref m0), (3, .ref ol), (4, .ref od), (5, .int (nI i))] [] := by
  obtain ⟨hL, hw, hF, hR, h120⟩ := hI
  refine g_aload_n C dL_law_1979 rfl 1 rfl ?_
  refine gl_arg C hX hbl hbA hLx hi 1 (by decide) (by decide) 0 5 rfl rfl dL_law_1980 dL_law_1981 dL_law_1983 dL_law_1984 dL_law_1985 ?_
  refine gl_arg C hX hbl hbA hLx hi 2 (by decide) (by decide) 0 5 rfl rfl dL_law_1986 dL_law_1987 dL_law_1989 dL_law_1990 dL_law_1991 ?_
  refine g_aload_n C dL_law_1992 rfl 3 rfl ?_
  refine gw_perm pmJ ?_
  refine gl_hlp (mk := oJ T) C E N hw hL [.ref (a 50), .int (xs (i + 1)), .int (xs (i + 2)), .ref ol] rfl (h_L_setRebate l hst D T (a 50) ol (xs (i + 1)) (xs (i + 2)) S f a mu g bb sh (li_x0 hF) ⟨hF, rfl⟩) (w0_SW 4 C.2.2.2.2.1 kw_1458 kw_1459 kw_0 kw_1460 rfl rfl (by decide +kernel) ⟨Nat.le_of_ble_eq_true rfl, Nat.le_of_ble_eq_true rfl⟩) rfl (Nat.le_of_ble_eq_true rfl) (Nat.le_of_ble_eq_true rfl) (Nat.le_of_ble_eq_true rfl) (by omega) (by omega) dL_law_1993 (fun k S1 L1 f1 hx1 hw1 hL1 hp => ?_)
  refine gw_perm pmJ.symm ?_
  refine gw_less (kc' := kc9) (ks' := ks9) (by omega) (by omega) ?_
  refine g_istore (lv' := (6, .int k) :: [(0, .ref b), (1, .ref (a 50)), (2, .ref m0), (3, .ref ol), (4, .ref od), (5, .int (nI i))]) C dL_law_1996 (by decide) rfl ?_
  refine g_aload_n C dL_law_1998 rfl 3 rfl ?_
  refine gl_arg C hX hbl hbA hLx hi 1 (by decide) (by decide) 1 6 rfl rfl dL_law_1999 dL_law_2000 dL_law_2002 dL_law_2003 dL_law_2004 ?_
  refine gl_arg C hX hbl hbA hLx hi 2 (by decide) (by decide) 1 6 rfl rfl dL_law_2005 dL_law_2006 dL_law_2008 dL_law_2009 dL_law_2010 ?_
  refine gw_perm pmR ?_
  refine gl_refi C [.int (xs (i + 1)), .int (xs (i + 2))] rfl (k_X11_setRebate l D T m0 ar (xs (i + 1)) (xs (i + 2)) r q ⟨(by rw [hR.1]; exact (rz_gwf hF).1), (rz_cw8 hF hR)⟩) (w0_V 2 C.2.2.2.2.1 kw_2307 kw_2308 kw_2309 kw_9 kw_2310 rfl rfl (by decide +kernel) ⟨Nat.le_of_ble_eq_true rfl, Nat.le_of_ble_eq_true rfl⟩) rfl (Nat.le_of_ble_eq_true rfl) (Nat.le_of_ble_eq_true rfl) (Nat.le_of_ble_eq_true rfl) dL_law_2011 (fun v r1 q1 hq => ?_)
  refine gw_perm pmR.symm ?_
  rw [hR.1] at hq
  have M := rz_stP hF hR hp hq
  exact lc_tail C M.1 M.2.1 dL_law_2014 dL_law_2016 dL_law_2017 dL_law_2020 dL_law_2022 dL_law_2027 dL_law_2029 dL_law_2032 dL_law_2033 dL_law_2034 dL_law_2035 dL_law_2037 dL_law_2038 dL_law_2039 dL_law_2044 (by decide) (lk_out K h120 hx1 hw1 hL1 M.2.2)
set_option maxRecDepth 100000 in
set_option maxHeartbeats 4000000 in
theorem lcs_27 (hst : l.stackTraces = false) (C : GC p s m args meth c code RL (cM :: W0) 9 D A (zty T)) (E : GE T A s) (N : NX s) (hX : va_X b Lx xs s s.heap) (hbl : b < s.heap.size) (hbA : ¬ A b) (hLx : Lx ≤ 3072) (hi : i + 6 ≤ Lx) (hkc : kc9 + 210 ≤ kc) (hks : ks9 + 12400 ≤ ks) (hI : LInv T a S L mu g bb sh r q) (K : LK p l e s m args below meth c D A Q T a ar ol od m0 b i kc9 ks9) : GW p l e room_1 s m args below meth c D A 9 601024 7293034 Q (LWW T ol od m0 ar f fd S L r q) kc ks 2047 [(0, .ref b), (1, .ref (a 50)), (2, .ref m0), (3, .ref ol), (4, .ref od), (5, .int (nI i))] [] := by
  obtain ⟨hL, hw, hF, hR, h120⟩ := hI
  refine g_aload_n C dL_law_2047 rfl 1 rfl ?_
  refine gl_arg C hX hbl hbA hLx hi 1 (by decide) (by decide) 0 5 rfl rfl dL_law_2048 dL_law_2049 dL_law_2051 dL_law_2052 dL_law_2053 ?_
  refine g_aload_n C dL_law_2054 rfl 3 rfl ?_
  refine gw_perm pmJ ?_
  refine gl_hlp (mk := oJ T) C E N hw hL [.ref (a 50), .int (xs (i + 1)), .ref ol] rfl (h_L_rebate l hst D T (a 50) ol (xs (i + 1)) S f a mu g bb sh (li_x0 hF) ⟨hF, rfl⟩) (w0_SW 3 C.2.2.2.2.1 kw_1478 kw_1479 kw_0 kw_1480 rfl rfl (by decide +kernel) ⟨Nat.le_of_ble_eq_true rfl, Nat.le_of_ble_eq_true rfl⟩) rfl (Nat.le_of_ble_eq_true rfl) (Nat.le_of_ble_eq_true rfl) (Nat.le_of_ble_eq_true rfl) (by omega) (by omega) dL_law_2055 (fun k S1 L1 f1 hx1 hw1 hL1 hp => ?_)
  refine gw_perm pmJ.symm ?_
  refine gw_less (kc' := kc9) (ks' := ks9) (by omega) (by omega) ?_
  refine g_istore (lv' := (6, .int k) :: [(0, .ref b), (1, .ref (a 50)), (2, .ref m0), (3, .ref ol), (4, .ref od), (5, .int (nI i))]) C dL_law_2058 (by decide) rfl ?_
  refine g_aload_n C dL_law_2060 rfl 3 rfl ?_
  refine gl_arg C hX hbl hbA hLx hi 1 (by decide) (by decide) 1 6 rfl rfl dL_law_2061 dL_law_2062 dL_law_2064 dL_law_2065 dL_law_2066 ?_
  refine gw_perm pmR ?_
  refine gl_refi C [.int (xs (i + 1))] rfl (k_X11_rebate l D T m0 ar (xs (i + 1)) r q (by rw [hR.1]; exact (rz_gwf hF).1)) (w0_V 1 C.2.2.2.2.1 kw_2311 kw_2312 kw_2313 kw_9 kw_2314 rfl rfl (by decide +kernel) ⟨Nat.le_of_ble_eq_true rfl, Nat.le_of_ble_eq_true rfl⟩) rfl (Nat.le_of_ble_eq_true rfl) (Nat.le_of_ble_eq_true rfl) (Nat.le_of_ble_eq_true rfl) dL_law_2067 (fun v r1 q1 hq => ?_)
  refine gw_perm pmR.symm ?_
  rw [hR.1] at hq
  have M := rz_read (Lq := []) hR hp hq.2.1 (fun j _ => congrFun (show q1 = q from hq.1) j) hq.2.2.1 hq.2.2.2 (by decide)
  exact lc_tail C M.1 M.2.1 dL_law_2070 dL_law_2072 dL_law_2073 dL_law_2076 dL_law_2078 dL_law_2083 dL_law_2085 dL_law_2088 dL_law_2089 dL_law_2090 dL_law_2091 dL_law_2093 dL_law_2094 dL_law_2095 dL_law_2100 (by decide) (lk_out K h120 hx1 hw1 hL1 M.2.2)
set_option maxRecDepth 100000 in
set_option maxHeartbeats 4000000 in
theorem lcs_28 (hst : l.stackTraces = false) (C : GC p s m args meth c code RL (cM :: W0) 9 D A (zty T)) (E : GE T A s) (N : NX s) (hX : va_X b Lx xs s s.heap) (hbl : b < s.heap.size) (hbA : ¬ A b) (hLx : Lx ≤ 3072) (hi : i + 6 ≤ Lx) (hkc : kc9 + 210 ≤ kc) (hks : ks9 + 12400 ≤ ks) (hI : LInv T a S L mu g bb sh r q) (K : LK p l e s m args below meth c D A Q T a ar ol od m0 b i kc9 ks9) : GW p l e room_1 s m args below meth c D A 9 601024 7293034 Q (LWW T ol od m0 ar f fd S L r q) kc ks 2103 [(0, .ref b), (1, .ref (a 50)), (2, .ref m0), (3, .ref ol), (4, .ref od), (5, .int (nI i))] [] := by
  obtain ⟨hL, hw, hF, hR, h120⟩ := hI
  refine g_aload_n C dL_law_2103 rfl 1 rfl ?_
  refine g_aload_n C dL_law_2104 rfl 3 rfl ?_
  refine gw_perm pmJ ?_
  refine gl_hlp (mk := oJ T) C E N hw hL [.ref (a 50), .ref ol] rfl (h_L_undo l hst D T (a 50) ol  S f a mu g bb sh (li_x0 hF) ⟨hF, rfl⟩) (w0_SW 2 C.2.2.2.2.1 kw_1490 kw_1491 kw_0 kw_1492 rfl rfl (by decide +kernel) ⟨Nat.le_of_ble_eq_true rfl, Nat.le_of_ble_eq_true rfl⟩) rfl (Nat.le_of_ble_eq_true rfl) (Nat.le_of_ble_eq_true rfl) (Nat.le_of_ble_eq_true rfl) (by omega) (by omega) dL_law_2105 (fun k S1 L1 f1 hx1 hw1 hL1 hp => ?_)
  refine gw_perm pmJ.symm ?_
  refine gw_less (kc' := kc9) (ks' := ks9) (by omega) (by omega) ?_
  refine g_istore (lv' := (6, .int k) :: [(0, .ref b), (1, .ref (a 50)), (2, .ref m0), (3, .ref ol), (4, .ref od), (5, .int (nI i))]) C dL_law_2108 (by decide) rfl ?_
  refine g_aload_n C dL_law_2110 rfl 3 rfl ?_
  refine gw_perm pmR ?_
  refine gl_refi C [] rfl (k_X11_undo l D T m0 ar  r q (rz_cw8 hF hR)) (w0_V 0 C.2.2.2.2.1 kw_2315 kw_2316 kw_2317 kw_9 kw_2318 rfl rfl (by decide +kernel) ⟨Nat.le_of_ble_eq_true rfl, Nat.le_of_ble_eq_true rfl⟩) rfl (Nat.le_of_ble_eq_true rfl) (Nat.le_of_ble_eq_true rfl) (Nat.le_of_ble_eq_true rfl) dL_law_2111 (fun v r1 q1 hq => ?_)
  refine gw_perm pmR.symm ?_
  have M := rz_undo hF hR hp hq
  exact lc_tail C M.1 M.2.1 dL_law_2114 dL_law_2116 dL_law_2117 dL_law_2120 dL_law_2122 dL_law_2127 dL_law_2129 dL_law_2132 dL_law_2133 dL_law_2134 dL_law_2135 dL_law_2137 dL_law_2138 dL_law_2139 dL_law_2144 (by decide) (lk_out K h120 hx1 hw1 hL1 M.2.2)
set_option maxRecDepth 100000 in
set_option maxHeartbeats 4000000 in
theorem lcs_29 (hst : l.stackTraces = false) (C : GC p s m args meth c code RL (cM :: W0) 9 D A (zty T)) (E : GE T A s) (N : NX s) (hX : va_X b Lx xs s s.heap) (hbl : b < s.heap.size) (hbA : ¬ A b) (hLx : Lx ≤ 3072) (hi : i + 6 ≤ Lx) (hkc : kc9 + 210 ≤ kc) (hks : ks9 + 12400 ≤ ks) (hI : LInv T a S L mu g bb sh r q) (K : LK p l e s m args below meth c D A Q T a ar ol od m0 b i kc9 ks9) : GW p l e room_1 s m args below meth c D A 9 601024 7293034 Q (LWW T ol od m0 ar f fd S L r q) kc ks 2147 [(0, .ref b), (1, .ref (a 50)), (2, .ref m0), (3, .ref ol), (4, .ref od), (5, .int (nI i))] [] := by
  obtain ⟨hL, hw, hF, hR, h120⟩ := hI
  refine g_aload_n C dL_law_2147 rfl 1 rfl ?_
  refine gw_perm pmC ?_
  refine gl_clsi (w2 := (od, oD T fd) :: (ol, oJ T f) :: RW m0 ar T r q) C E hw hL (li_x0 hF) (by decide) (by decide) rfl [] rfl (k_X10_saveSnapshot l D T (a 50) S a mu g bb sh (li_x0 hF) ⟨hF, rfl⟩) (w0_V 0 C.2.2.2.2.1 kw_285 kw_286 kw_287 kw_1 kw_288 rfl rfl (by decide +kernel) ⟨Nat.le_of_ble_eq_true rfl, Nat.le_of_ble_eq_true rfl⟩) rfl (Nat.le_of_ble_eq_true rfl) (Nat.le_of_ble_eq_true rfl) (Nat.le_of_ble_eq_true rfl) (Nat.zero_le _) (Nat.zero_le _) dL_law_2148 (fun v0 S1 L1 hx1 hw1 hL1 hp => ?_)
  refine gw_perm pmC.symm ?_
  refine gw_less (kc' := kc9) (ks' := ks9) (by omega) (by omega) ?_
  refine g_aload_n C dL_law_2151 rfl 2 rfl ?_
  refine gw_perm pmR ?_
  refine gl_refi C [] rfl (k_X11_saveSnapshot l D T m0 ar r q) (w0_V 0 C.2.2.2.2.1 kw_2319 kw_2320 kw_2321 kw_9 kw_2322 rfl rfl (by decide +kernel) ⟨Nat.le_of_ble_eq_true rfl, Nat.le_of_ble_eq_true rfl⟩) rfl (Nat.le_of_ble_eq_true rfl) (Nat.le_of_ble_eq_true rfl) (Nat.le_of_ble_eq_true rfl) dL_law_2152 (fun v r1 q1 hq => ?_)
  refine gw_perm pmR.symm ?_
  have M := rz_save hR hp.2 hq
  refine g_icmp_eq (tgt := 2328) C dL_law_2155 (by decide) (fun _ => ?_) (fun z => absurd (hp.1.trans M.1.symm) z)
  exact lk_out K h120 hx1 hw1 hL1 M.2
set_option maxRecDepth 100000 in
set_option maxHeartbeats 4000000 in
theorem lcs_30 (hst : l.stackTraces = false) (C : GC p s m args meth c code RL (cM :: W0) 9 D A (zty T)) (E : GE T A s) (N : NX s) (hX : va_X b Lx xs s s.heap) (hbl : b < s.heap.size) (hbA : ¬ A b) (hLx : Lx ≤ 3072) (hi : i + 6 ≤ Lx) (hkc : kc9 + 210 ≤ kc) (hks : ks9 + 12400 ≤ ks) (hI : LInv T a S L mu g bb sh r q) (K : LK p l e s m args below meth c D A Q T a ar ol od m0 b i kc9 ks9) : GW p l e room_1 s m args below meth c D A 9 601024 7293034 Q (LWW T ol od m0 ar f fd S L r q) kc ks 2160 [(0, .ref b), (1, .ref (a 50)), (2, .ref m0), (3, .ref ol), (4, .ref od), (5, .int (nI i))] [] := by
  obtain ⟨hL, hw, hF, hR, h120⟩ := hI
  refine g_aload_n C dL_law_2160 rfl 1 rfl ?_
  refine g_aload_n C dL_law_2161 rfl 3 rfl ?_
  refine gw_perm pmJ ?_
  refine gl_hlp (mk := oJ T) C E N hw hL [.ref (a 50), .ref ol] rfl (h_L_restoreSnapshot l hst D T (a 50) ol  S f a mu g bb sh (li_x0 hF) ⟨hF, rfl⟩) (w0_SW 2 C.2.2.2.2.1 kw_1497 kw_1498 kw_0 kw_1499 rfl rfl (by decide +kernel) ⟨Nat.le_of_ble_eq_true rfl, Nat.le_of_ble_eq_true rfl⟩) rfl (Nat.le_of_ble_eq_true rfl) (Nat.le_of_ble_eq_true rfl) (Nat.le_of_ble_eq_true rfl) (by omega) (by omega) dL_law_2162 (fun k S1 L1 f1 hx1 hw1 hL1 hp => ?_)
  refine gw_perm pmJ.symm ?_
  refine gw_less (kc' := kc9) (ks' := ks9) (by omega) (by omega) ?_
  refine g_istore (lv' := (6, .int k) :: [(0, .ref b), (1, .ref (a 50)), (2, .ref m0), (3, .ref ol), (4, .ref od), (5, .int (nI i))]) C dL_law_2165 (by decide) rfl ?_
  refine g_aload_n C dL_law_2167 rfl 3 rfl ?_
  refine gw_perm pmR ?_
  refine gl_refi C [] rfl (k_X11_restoreSnapshot l D T m0 ar  r q) (w0_V 0 C.2.2.2.2.1 kw_2323 kw_2324 kw_2325 kw_9 kw_2326 rfl rfl (by decide +kernel) ⟨Nat.le_of_ble_eq_true rfl, Nat.le_of_ble_eq_true rfl⟩) rfl (Nat.le_of_ble_eq_true rfl) (Nat.le_of_ble_eq_true rfl) (Nat.le_of_ble_eq_true rfl) dL_law_2168 (fun v r1 q1 hq => ?_)
  refine gw_perm pmR.symm ?_
  have M := rz_rest hF hR hp hq
  exact lc_tail C M.1 M.2.1 dL_law_2171 dL_law_2173 dL_law_2174 dL_law_2177 dL_law_2179 dL_law_2184 dL_law_2186 dL_law_2189 dL_law_2190 dL_law_2191 dL_law_2192 dL_law_2194 dL_law_2195 dL_law_2196 dL_law_2201 (by decide) (lk_out K h120 hx1 hw1 hL1 M.2.2)
set_option maxRecDepth 100000 in
set_option maxHeartbeats 4000000 in
theorem lcs_31 (hst : l.stackTraces = false) (C : GC p s m args meth c code RL (cM :: W0) 9 D A (zty T)) (E : GE T A s) (N : NX s) (hX : va_X b Lx xs s s.heap) (hbl : b < s.heap.size) (hbA : ¬ A b) (hLx : Lx ≤ 3072) (hi : i + 6 ≤ Lx) (hkc : kc9 + 210 ≤ kc) (hks : ks9 + 12400 ≤ ks) (hI : LInv T a S L mu g bb sh r q) (K : LK p l e s m args below meth c D A Q T a ar ol od m0 b i kc9 ks9) : GW p l e room_1 s m args below meth c D A 9 601024 7293034 Q (LWW T ol od m0 ar f fd S L r q) kc ks 2204 [(0, .ref b), (1, .ref (a 50)), (2, .ref m0), (3, .ref ol), (4, .ref od), (5, .int (nI i))] [] := by
  obtain ⟨hL, hw, hF, hR, h120⟩ := hI
  refine g_aload_n C dL_law_2204 rfl 1 rfl ?_
  refine gl_arg C hX hbl hbA hLx hi 1 (by decide) (by decide) 0 5 rfl rfl dL_law_2205 dL_law_2206 dL_law_2208 dL_law_2209 dL_law_2210 ?_
  refine gl_arg C hX hbl hbA hLx hi 2 (by decide) (by decide) 0 5 rfl rfl dL_law_2211 dL_law_2212 dL_law_2214 dL_law_2215 dL_law_2216 ?_
  refine g_aload_n C dL_law_2217 rfl 3 rfl ?_
  refine gw_perm pmJ ?_
  refine gl_hlp (mk := oJ T) C E N hw hL [.ref (a 50), .int (xs (i + 1)), .int (xs (i + 2)), .ref ol] rfl (h_L_write l hst D T (a 50) ol (xs (i + 1)) (xs (i + 2)) S f a mu g bb sh (li_x0 hF) ⟨hF, rfl⟩) (w0_SW 4 C.2.2.2.2.1 kw_1504 kw_1505 kw_0 kw_1506 rfl rfl (by decide +kernel) ⟨Nat.le_of_ble_eq_true rfl, Nat.le_of_ble_eq_true rfl⟩) rfl (Nat.le_of_ble_eq_true rfl) (Nat.le_of_ble_eq_true rfl) (Nat.le_of_ble_eq_true rfl) (by omega) (by omega) dL_law_2218 (fun k S1 L1 f1 hx1 hw1 hL1 hp => ?_)
  refine gw_perm pmJ.symm ?_
  refine gw_less (kc' := kc9) (ks' := ks9) (by omega) (by omega) ?_
  refine g_istore (lv' := (6, .int k) :: [(0, .ref b), (1, .ref (a 50)), (2, .ref m0), (3, .ref ol), (4, .ref od), (5, .int (nI i))]) C dL_law_2221 (by decide) rfl ?_
  refine g_aload_n C dL_law_2223 rfl 3 rfl ?_
  refine gl_arg C hX hbl hbA hLx hi 1 (by decide) (by decide) 1 6 rfl rfl dL_law_2224 dL_law_2225 dL_law_2227 dL_law_2228 dL_law_2229 ?_
  refine gl_arg C hX hbl hbA hLx hi 2 (by decide) (by decide) 1 6 rfl rfl dL_law_2230 dL_law_2231 dL_law_2233 dL_law_2234 dL_law_2235 ?_
  refine gw_perm pmR ?_
  refine gl_refi C [.int (xs (i + 1)), .int (xs (i + 2))] rfl (k_X11_write l D T m0 ar (xs (i + 1)) (xs (i + 2)) r q ⟨(by rw [hR.1]; exact (rz_gwf hF).1), (by rw [hR.1]; exact (rz_gwf hF).2)⟩) (w0_V 2 C.2.2.2.2.1 kw_2327 kw_2328 kw_2329 kw_9 kw_2330 rfl rfl (by decide +kernel) ⟨Nat.le_of_ble_eq_true rfl, Nat.le_of_ble_eq_true rfl⟩) rfl (Nat.le_of_ble_eq_true rfl) (Nat.le_of_ble_eq_true rfl) (Nat.le_of_ble_eq_true rfl) dL_law_2236 (fun v r1 q1 hq => ?_)
  refine gw_perm pmR.symm ?_
  rw [hR.1] at hq
  have M := rz_write hR hp hq
  exact lc_tail C M.1 M.2.1 dL_law_2239 dL_law_2241 dL_law_2242 dL_law_2245 dL_law_2247 dL_law_2252 dL_law_2254 dL_law_2257 dL_law_2258 dL_law_2259 dL_law_2260 dL_law_2262 dL_law_2263 dL_law_2264 dL_law_2269 (by decide) (lk_out K h120 hx1 hw1 hL1 M.2.2)
set_option maxRecDepth 100000 in
set_option maxHeartbeats 4000000 in
theorem lcs_32 (hst : l.stackTraces = false) (C : GC p s m args meth c code RL (cM :: W0) 9 D A (zty T)) (E : GE T A s) (N : NX s) (hX : va_X b Lx xs s s.heap) (hbl : b < s.heap.size) (hbA : ¬ A b) (hLx : Lx ≤ 3072) (hi : i + 6 ≤ Lx) (hkc : kc9 + 210 ≤ kc) (hks : ks9 + 12400 ≤ ks) (hI : LInv T a S L mu g bb sh r q) (K : LK p l e s m args below meth c D A Q T a ar ol od m0 b i kc9 ks9) : GW p l e room_1 s m args below meth c D A 9 601024 7293034 Q (LWW T ol od m0 ar f fd S L r q) kc ks 2272 [(0, .ref b), (1, .ref (a 50)), (2, .ref m0), (3, .ref ol), (4, .ref od), (5, .int (nI i))] [] := by
  obtain ⟨hL, hw, hF, hR, h120⟩ := hI
  refine g_aload_n C dL_law_2272 rfl 1 rfl ?_
  refine gl_arg C hX hbl hbA hLx hi 1 (by decide) (by decide) 0 5 rfl rfl dL_law_2273 dL_law_2274 dL_law_2276 dL_law_2277 dL_law_2278 ?_
  refine g_aload_n C dL_law_2279 rfl 3 rfl ?_
  refine gw_perm pmJ ?_
  refine gl_hlp (mk := oJ T) C E N hw hL [.ref (a 50), .int (xs (i + 1)), .ref ol] rfl (h_L_paper l hst D T (a 50) ol (xs (i + 1)) S f a mu g bb sh (li_x0 hF) ⟨hF, rfl⟩) (w0_SW 3 C.2.2.2.2.1 kw_1786 kw_1787 kw_0 kw_1788 rfl rfl (by decide +kernel) ⟨Nat.le_of_ble_eq_true rfl, Nat.le_of_ble_eq_true rfl⟩) rfl (Nat.le_of_ble_eq_true rfl) (Nat.le_of_ble_eq_true rfl) (Nat.le_of_ble_eq_true rfl) (by omega) (by omega) dL_law_2280 (fun k S1 L1 f1 hx1 hw1 hL1 hp => ?_)
  refine gw_perm pmJ.symm ?_
  refine gw_less (kc' := kc9) (ks' := ks9) (by omega) (by omega) ?_
  refine g_istore (lv' := (6, .int k) :: [(0, .ref b), (1, .ref (a 50)), (2, .ref m0), (3, .ref ol), (4, .ref od), (5, .int (nI i))]) C dL_law_2283 (by decide) rfl ?_
  refine g_aload_n C dL_law_2285 rfl 3 rfl ?_
  refine gl_arg C hX hbl hbA hLx hi 1 (by decide) (by decide) 1 6 rfl rfl dL_law_2286 dL_law_2287 dL_law_2289 dL_law_2290 dL_law_2291 ?_
  refine gw_perm pmR ?_
  refine gl_refi C [.int (xs (i + 1))] rfl (k_X11_paper l D T m0 ar (xs (i + 1)) r q (rz_pw hF hR)) (w0_V 1 C.2.2.2.2.1 kw_2346 kw_2347 kw_2348 kw_9 kw_2349 rfl rfl (by decide +kernel) ⟨Nat.le_of_ble_eq_true rfl, Nat.le_of_ble_eq_true rfl⟩) rfl (Nat.le_of_ble_eq_true rfl) (Nat.le_of_ble_eq_true rfl) (Nat.le_of_ble_eq_true rfl) dL_law_2292 (fun v r1 q1 hq => ?_)
  refine gw_perm pmR.symm ?_
  have M := rz_pap hF hR hp hq
  exact lc_tail C M.1 M.2.1 dL_law_2295 dL_law_2297 dL_law_2298 dL_law_2301 dL_law_2303 dL_law_2308 dL_law_2310 dL_law_2313 dL_law_2314 dL_law_2315 dL_law_2316 dL_law_2318 dL_law_2319 dL_law_2320 dL_law_2325 (by decide) (lk_out K h120 hx1 hw1 hL1 M.2.2)
end LCSN
