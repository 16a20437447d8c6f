/-! ===== what the instructions link, held against the tables ===== -/
def vwC : List vw_C := vwCl ++ [("java/util/NoSuchElementException", (fun _ => ("", "", "", false)), 0)]
def mNm (k : Nat) : MethodName := match PT[k]? with
  | some mi => mi.1
  | none => ⟨"", "", ""⟩
def mCd (k : Nat) : ByteArray := match PT[k]? with
  | some mi => mi.2.1
  | none => ⟨#[]⟩
def mOp (k : Nat) : List (Nat × List Nat) := match PT[k]? with
  | some mi => mi.2.2.2.2
  | none => []
def TBL : List Cond := lw_tbl.filter goodWord
def isNest (w : Cond) : Bool := match w with
  | .fieldLinkNest _ _ _ _ _ _ => true
  | .methodLinkNest _ _ _ _ => true
  | _ => false
def NTB : List Cond := lw_tbl.filter isNest
def tabs : List (List Cond) := [tables_1_1, tables_1_2, tables_1_3, tables_1_4, tables_1_5, tables_1_6, tables_1_7, tables_1_8, tables_1_9]
def wlk (w : Nat) : Option Cond := if w < 105 then (k2_sels lw_privs)[w]? else (tabs.getD ((w - 105) / 240) [])[(w - 105) % 240]?
theorem wlk_mem {w : Nat} {c : Cond} (h : wlk w = some c) : c ∈ lw_tbl := by
  unfold wlk at h
  split at h
  · exact List.mem_append_left _ (List.mem_of_getElem? h)
  · refine List.mem_append_right _ ?_
    have h1 := List.mem_of_getElem? h
    generalize (w - 105) / 240 = q at h1
    unfold tables_1
    match q, h1 with
    | 0, h1 => simp only [List.mem_append]; exact Or.inl h1
    | 1, h1 => simp only [List.mem_append]; exact Or.inr (Or.inl h1)
    | 2, h1 => simp only [List.mem_append]; exact Or.inr (Or.inr (Or.inl h1))
    | 3, h1 => simp only [List.mem_append]; exact Or.inr (Or.inr (Or.inr (Or.inl h1)))
    | 4, h1 => simp only [List.mem_append]; exact Or.inr (Or.inr (Or.inr (Or.inr (Or.inl h1))))
    | 5, h1 => simp only [List.mem_append]; exact Or.inr (Or.inr (Or.inr (Or.inr (Or.inr (Or.inl h1)))))
    | 6, h1 => simp only [List.mem_append]; exact Or.inr (Or.inr (Or.inr (Or.inr (Or.inr (Or.inr (Or.inl h1))))))
    | 7, h1 => simp only [List.mem_append]; exact Or.inr (Or.inr (Or.inr (Or.inr (Or.inr (Or.inr (Or.inr (Or.inl h1)))))))
    | 8, h1 => simp only [List.mem_append]; exact Or.inr (Or.inr (Or.inr (Or.inr (Or.inr (Or.inr (Or.inr (Or.inr h1)))))))
    | q + 9, h1 => exact absurd h1 (by rw [show tabs.getD (q + 9) [] = [] from by rw [List.getD_eq_getElem?_getD, List.getElem?_eq_none (by show 9 ≤ q + 9; omega)]; rfl]; exact List.not_mem_nil)
def inT (w : Nat) (c : Cond) : Bool := decide (wlk w = some c) && goodWord c
def inN (w : Nat) (c : Cond) : Bool := decide (wlk w = some c) && isNest c
def inA (w : Nat) (c : Cond) : Bool := decide (wlk w = some c)
theorem inT_mem {w : Nat} {c : Cond} (h : inT w c = true) : c ∈ TBL := by
  simp only [inT, Bool.and_eq_true, decide_eq_true_eq] at h
  exact List.mem_filter.mpr ⟨wlk_mem h.1, h.2⟩
theorem inN_mem {w : Nat} {c : Cond} (h : inN w c = true) : c ∈ NTB := by
  simp only [inN, Bool.and_eq_true, decide_eq_true_eq] at h
  exact List.mem_filter.mpr ⟨wlk_mem h.1, h.2⟩
theorem inA_mem {w : Nat} {c : Cond} (h : inA w c = true) : c ∈ lw_tbl := by
  simp only [inA, decide_eq_true_eq] at h
  exact wlk_mem h
def mW : List (Nat × Nat × Nat × Nat × Nat) := [(0, 0, 105, 1, 1), (141, 140, 107, 0, 2), (550, 548, 107, 0, 2), (526, 524, 107, 0, 3), (900, 898, 107, 0, 3), (890, 888, 107, 0, 1), (875, 873, 107, 0, 2), (337, 336, 114, 0, 3), (1004, 1002, 114, 0, 1), (1012, 1010, 114, 0, 1), (986, 984, 114, 0, 4), (1029, 1027, 114, 0, 4), (991, 990, 114, 0, 3), (998, 997, 114, 0, 5), (397, 396, 116, 0, 3), (1159, 1157, 116, 0, 3), (1184, 1182, 116, 0, 1), (1192, 1190, 116, 0, 1), (1163, 1162, 116, 0, 2), (1169, 1168, 116, 0, 3), (1178, 1177, 116, 0, 2), (430, 429, 117, 0, 3), (1237, 1235, 117, 0, 2), (1206, 1204, 117, 0, 4), (1211, 1210, 117, 0, 3), (1215, 1214, 117, 0, 4), (1226, 1225, 117, 0, 2), (1233, 1232, 117, 0, 1), (233, 232, 111, 0, 3), (733, 731, 111, 0, 1), (534, 532, 111, 0, 2), (628, 627, 111, 0, 2), (546, 545, 111, 0, 1), (553, 552, 111, 1, 1), (556, 555, 111, 1, 1), (569, 568, 111, 0, 2), (674, 673, 111, 0, 2), (564, 563, 111, 0, 1), (560, 559, 111, 0, 1), (632, 631, 111, 0, 1), (650, 649, 111, 0, 1), (692, 691, 111, 0, 1), (707, 706, 111, 0, 1), (716, 715, 111, 0, 1), (721, 720, 111, 0, 1), (725, 724, 111, 0, 2), (654, 653, 111, 0, 2), (662, 661, 111, 0, 1), (696, 695, 111, 0, 1), (678, 677, 111, 0, 1), (637, 636, 111, 0, 2), (645, 644, 111, 0, 3), (641, 640, 111, 0, 3), (449, 448, 118, 0, 2), (1326, 1324, 118, 0, 1), (1322, 1320, 118, 0, 1), (754, 752, 118, 0, 1), (1287, 1285, 118, 0, 2), (1314, 1312, 118, 0, 3), (1310, 1308, 118, 0, 2), (155, 154, 109, 0, 1), (538, 536, 109, 0, 1), (737, 735, 109, 0, 2), (700, 698, 109, 0, 3), (711, 709, 109, 0, 2), (729, 727, 109, 0, 3), (795, 793, 109, 0, 2), (803, 801, 109, 0, 3), (807, 805, 109, 0, 3), (827, 825, 109, 0, 2), (787, 785, 109, 0, 3), (835, 833, 109, 0, 2), (362, 361, 115, 0, 3), (1050, 1048, 115, 0, 2), (1056, 1054, 115, 0, 3), (1069, 1067, 115, 0, 1), (1075, 1074, 115, 0, 1), (1080, 1078, 115, 0, 1), (1089, 1087, 115, 0, 2), (1097, 1095, 115, 0, 1), (1105, 1103, 115, 0, 1), (1114, 1112, 115, 0, 1), (1120, 1118, 115, 0, 1), (1128, 1126, 115, 0, 1), (267, 266, 112, 0, 1), (747, 745, 112, 0, 2), (871, 869, 112, 0, 2), (782, 780, 112, 0, 2), (161, 160, 110, 0, 2), (666, 664, 110, 0, 1), (776, 774, 110, 0, 2), (658, 656, 110, 0, 1), (670, 668, 110, 0, 3), (688, 686, 110, 0, 5), (799, 797, 110, 0, 1), (848, 846, 110, 0, 2), (542, 540, 110, 0, 1), (741, 739, 110, 0, 2), (305, 304, 113, 0, 2), (863, 861, 113, 0, 2), (867, 865, 113, 0, 4), (1062, 1060, 113, 0, 2), (1302, 1300, 113, 0, 2), (924, 922, 113, 0, 2), (945, 943, 113, 0, 2), (936, 934, 113, 0, 1), (882, 880, 113, 0, 2), (972, 970, 113, 0, 2), (1146, 1144, 113, 0, 3), (1221, 1219, 113, 0, 1), (1262, 1260, 113, 0, 3), (1266, 1264, 113, 0, 2), (886, 884, 113, 0, 1), (894, 893, 113, 0, 1), (904, 903, 113, 0, 1), (907, 906, 113, 1, 2), (911, 910, 113, 0, 1), (917, 916, 113, 0, 1), (133, 132, 106, 0, 1), (518, 516, 106, 0, 6), (522, 521, 106, 0, 2), (530, 528, 106, 0, 2), (760, 758, 106, 0, 1), (764, 762, 106, 0, 1), (823, 822, 106, 0, 1), (772, 771, 106, 0, 2), (859, 858, 106, 1, 2), (932, 931, 106, 0, 2), (856, 855, 106, 0, 3), (1201, 1200, 106, 0, 2), (1257, 1256, 106, 0, 3), (1253, 1252, 106, 0, 4), (768, 766, 106, 0, 3), (811, 809, 106, 0, 3), (815, 813, 106, 0, 3), (819, 817, 106, 0, 1), (831, 829, 106, 0, 1), (840, 838, 106, 0, 1), (844, 842, 106, 0, 1), (852, 850, 106, 0, 3), (928, 926, 106, 0, 2), (941, 939, 106, 0, 2), (950, 948, 106, 0, 1), (954, 952, 106, 0, 1), (964, 962, 106, 0, 1), (968, 966, 106, 0, 2), (977, 975, 106, 0, 2), (981, 979, 106, 0, 2), (1008, 1006, 106, 0, 2), (1016, 1014, 106, 0, 3), (1020, 1018, 106, 0, 2), (1025, 1023, 106, 0, 2), (1033, 1031, 106, 0, 2), (1037, 1035, 106, 0, 2), (1041, 1040, 106, 0, 2), (1046, 1044, 106, 0, 1), (1085, 1083, 106, 0, 2), (1093, 1091, 106, 0, 1), (1101, 1099, 106, 0, 1), (1110, 1108, 106, 0, 1), (1124, 1122, 106, 0, 1), (1132, 1130, 106, 0, 1), (1138, 1136, 106, 0, 2), (1150, 1148, 106, 0, 2), (1142, 1141, 106, 0, 3), (1155, 1153, 106, 0, 2), (1188, 1186, 106, 0, 2), (1197, 1195, 106, 0, 3), (1241, 1239, 106, 0, 3), (1245, 1243, 106, 0, 4), (1249, 1247, 106, 0, 4), (1271, 1269, 106, 0, 3), (1275, 1273, 106, 0, 4), (1280, 1278, 106, 0, 3), (1294, 1292, 106, 0, 3), (1283, 1282, 106, 1, 4), (1298, 1296, 106, 0, 1), (1306, 1304, 106, 0, 1), (1318, 1316, 106, 0, 1), (1330, 1328, 106, 0, 2), (1347, 1345, 106, 0, 2), (1335, 1333, 106, 0, 2), (1339, 1337, 106, 0, 1), (1413, 1412, 119, 0, 1), (1539, 1537, 119, 0, 1), (1551, 1550, 119, 0, 1), (1558, 1557, 119, 0, 2), (1999, 1998, 119, 0, 2), (1554, 1553, 119, 1, 3), (1722, 1721, 119, 1, 2), (1813, 1812, 119, 1, 1), (1680, 1679, 119, 1, 5), (1961, 1960, 119, 1, 3), (1543, 1541, 119, 0, 6), (1566, 1565, 119, 0, 2), (1569, 1568, 119, 1, 1), (1572, 1571, 119, 1, 1), (1562, 1561, 119, 0, 1), (1591, 1590, 119, 0, 3), (1581, 1580, 119, 0, 2), (1604, 1603, 119, 0, 2), (1600, 1599, 119, 0, 2), (1630, 1629, 119, 0, 1), (1640, 1639, 119, 0, 1), (1626, 1625, 119, 0, 2), (1658, 1657, 119, 0, 1), (1654, 1653, 119, 0, 1), (1612, 1611, 119, 0, 3), (1608, 1607, 119, 0, 3), (1596, 1595, 119, 0, 4), (1547, 1545, 119, 0, 2), (1618, 1617, 119, 0, 3), (1576, 1575, 119, 0, 1), (1587, 1586, 119, 0, 1), (1622, 1621, 119, 0, 1), (1650, 1649, 119, 0, 1), (1663, 1662, 119, 0, 1), (1668, 1667, 119, 0, 1), (1673, 1672, 119, 0, 1), (1677, 1676, 119, 0, 2), (1684, 1682, 119, 0, 1), (1688, 1686, 119, 0, 1), (1696, 1695, 119, 0, 2), (1700, 1699, 119, 0, 2), (1703, 1702, 119, 1, 2), (1719, 1718, 119, 0, 4), (1715, 1714, 119, 0, 4), (1786, 1785, 119, 0, 3), (1790, 1789, 119, 0, 3), (1782, 1781, 119, 0, 2), (1738, 1737, 119, 0, 2), (1707, 1706, 119, 0, 3), (1746, 1745, 119, 0, 2), (1778, 1777, 119, 0, 1), (1774, 1773, 119, 0, 4), (1711, 1710, 119, 0, 3), (1692, 1690, 119, 0, 3), (1726, 1724, 119, 0, 3), (1730, 1728, 119, 0, 3), (1734, 1732, 119, 0, 1), (1742, 1740, 119, 0, 1), (1750, 1748, 119, 0, 1), (1758, 1757, 119, 0, 2), (1762, 1761, 119, 0, 2), (1754, 1752, 119, 0, 1), (1770, 1769, 119, 0, 4), (1766, 1764, 119, 0, 3), (1794, 1792, 119, 0, 2), (1802, 1801, 119, 0, 2), (1798, 1796, 119, 0, 2), (1806, 1804, 119, 0, 1), (1810, 1808, 119, 0, 1), (1817, 1815, 119, 0, 1), (1825, 1824, 119, 0, 3), (1821, 1819, 119, 0, 2), (1833, 1832, 119, 0, 3), (1829, 1827, 119, 0, 2), (1841, 1840, 119, 0, 1), (1845, 1844, 119, 0, 3), (1837, 1835, 119, 0, 2), (1849, 1847, 119, 0, 2), (1853, 1851, 119, 0, 3), (1857, 1855, 119, 0, 2), (1865, 1864, 119, 0, 2), (1861, 1859, 119, 0, 2), (1869, 1867, 119, 0, 2), (1873, 1871, 119, 0, 2), (1885, 1884, 119, 0, 2), (1889, 1888, 119, 0, 1), (1881, 1880, 119, 0, 2), (1877, 1875, 119, 0, 1), (1893, 1891, 119, 0, 2), (1897, 1895, 119, 0, 1), (1901, 1899, 119, 0, 1), (1909, 1908, 119, 0, 1), (1905, 1903, 119, 0, 1), (1913, 1911, 119, 0, 1), (1917, 1915, 119, 0, 1), (1925, 1924, 119, 0, 2), (1921, 1919, 119, 0, 2), (1929, 1927, 119, 0, 2), (1937, 1936, 119, 0, 2), (1945, 1944, 119, 0, 3), (1941, 1940, 119, 0, 5), (1933, 1931, 119, 0, 2), (1949, 1947, 119, 0, 2), (1957, 1956, 119, 0, 3), (1953, 1951, 119, 0, 3), (1965, 1963, 119, 0, 3), (1969, 1967, 119, 0, 4), (1977, 1976, 119, 0, 5), (1973, 1971, 119, 0, 4), (1983, 1981, 119, 0, 3), (1987, 1985, 119, 0, 4), (2003, 2002, 119, 0, 1), (1995, 1994, 119, 0, 4), (1991, 1989, 119, 0, 3), (2007, 2005, 119, 0, 3), (2011, 2009, 119, 0, 1), (2015, 2013, 119, 0, 1), (2019, 2017, 119, 0, 1), (2023, 2021, 119, 0, 2), (2027, 2025, 119, 0, 2), (2031, 2029, 119, 0, 2), (2035, 2033, 119, 0, 1), (957, 956, 124, 1, 1), (145, 144, 108, 1, 2), (791, 790, 108, 1, 2), (573, 571, 120, 0, 1), (583, 581, 120, 0, 2), (577, 575, 120, 0, 1), (587, 585, 120, 0, 1), (593, 592, 120, 1, 2), (590, 589, 121, 1, 2), (598, 597, 122, 1, 3), (0, 1341, 105, 1, 3)]
def mNa (k : Nat) : Nat := match mW[k]? with
  | some x => x.2.2.2.2
  | none => 0
def mSt (k : Nat) : Bool := match mW[k]? with
  | some x => decide (x.2.2.2.1 = 1)
  | none => false
/-- a method's own words: its code, that it is static or not, its class initialised; names plain; how many parameters -/
def mOK (k : Nat) : Bool := match mW[k]? with
  | some (w1, w2, w3, st, na) => inT w2 (if st = 1 then .static (mNm k) else .instanceMethod (mNm k)) && inT w3 (.initialized (mNm k).cls) && (plainName (mNm k).cls || k == 306 || k == 307) && decide ((mNm k).cls ≠ "java/lang/invoke/MethodHandle") && decide ((mNm k).cls ≠ "java/lang/invoke/VarHandle") && decide ((parseMethodDescriptor (mNm k).desc).map (fun d => d.parameters.length) = some (if st = 1 then na else na - 1)) && decide (mMax k ≤ 40) && (st == 1 || decide (0 < na))
  | none => false
def txs : List String := ["slope", "row", "sees", "wall", "sign", "rumour", "doubted", "believed", "bears", "hail", "plain", "old", "new", "deaf", "faith", "grapes", "by", "costs", "day"]
def chkI (own : String) (ini : Bool) (i : Instr) (ops : List Nat) : Bool := match i with
  | .getfield n => match ops with
    | [ci, f, w, nest] => if ci = 200 then (if f = 0 then inT w (.fieldLink own n "java/lang/String" "value" "[B") else inT w (.fieldLink own n "java/lang/String" "coder" "B")) else match vwCl[ci]? with
      | some (_, T, N) => decide (f < N) && (if nest = 0 then inT w (.fieldLink own n (T f).1 (T f).2.1 (T f).2.2.1) else inN w (.fieldLinkNest own n (T f).1 (T f).2.1 (T f).2.2.1 "NorthVines"))
      | none => false
    | _ => false
  | .putfield n => match ops with
    | [ci, f, w, nest] => match vwCl[ci]? with
      | some (_, T, N) => decide (f < N) && (if nest = 0 then inT w (.fieldLink own n (T f).1 (T f).2.1 (T f).2.2.1) else inN w (.fieldLinkNest own n (T f).1 (T f).2.1 (T f).2.2.1 "NorthVines")) && (if (T f).2.2.2 = true then ini && decide (nest = 0) && decide ((T f).1 = own) else true) && decide (parseFieldDescriptor (T f).2.2.1 = some (fty ci f))
      | none => false
    | _ => false
  | .getstatic n => match ops with
    | [0, v, w] => decide (v = 1) && inT w (.fieldLink own n "java/lang/String" "COMPACT_STRINGS" "Z")
    | [1, v, w] => decide (v = 999) && inT w (.fieldLink own n "jdk/internal/util/Preconditions" "SIOOBE_FORMATTER" "Ljava/util/function/BiFunction;")
    | _ => false
  | .ldc n => match ops with
    | [0, j, w] => decide (j < 19) && inA w (.stringRef own n (txs.getD j ""))
    | [1, v, w] => inT w (.constant own n (Int32.ofNat v))
    | _ => false
  | .ldc_w n => match ops with
    | [v, w] => inT w (.constant own n (Int32.ofNat v))
    | _ => false
  | .ldc2_w n => match ops with
    | [0, v, w] => inT w (.constantLong own n (Int64.ofNat v))
    | [1, v, w] => inT w (.constantLong own n (-(Int64.ofNat v)))
    | _ => false
  | .new n => match ops with
    | [999] => true
    | [ci, w] => match vwCl[ci]? with
      | some (C, _, _) => inT w (.classLink own n C)
      | none => false
    | _ => false
  | .invokespecial n => match ops with
    | [5, w] => inT w (.methodLink own n objectInit)
    | [0, j, na, w, nest] => decide (0 < j) && decide (j < 306) && decide (mNa j = na) && !(mSt j) && decide ((mNm j).name = "<init>") && (if nest = 0 then inT w (.methodLink own n (mNm j)) else inN w (.methodLinkNest own n (mNm j) "NorthVines")) && decide (mRet j = none)
    | _ => false
  | .invokevirtual n => match ops with
    | [1, j, na, w, nest, ci, si] => decide (0 < j) && decide (j < 315) && decide (mNa j = na) && !(mSt j) && decide (nest = 0) && inT w (.methodLink own n (mNm j)) && inT si (.selects (mNm j).cls (mNm j) (mNm j)) && (if ci = 200 then decide ((mNm j).cls = "java/lang/String") else match vwCl[ci]? with
      | some (C, _, _) => decide ((mNm j).cls = C)
      | none => false)
    | _ => false
  | .invokestatic n => match ops with
    | [2, j, na, w, nest] => decide (0 < j) && decide (j < 315) && decide (mNa j = na) && mSt j && decide (nest = 0) && inT w (.methodLink own n (mNm j))
    | [3, _, _, _, _] => true
    | _ => false
  | _ => false
def chkE (k : Nat) (e : Nat × List Nat) : Bool := match decode (mCd k) e.1 with
  | .ok (i, _) => chkI (mNm k).cls (decide ((mNm k).name = "<init>")) i e.2
  | .error _ => false
def chkK (k : Nat) : Bool := (mOp k).all (chkE k)
set_option maxRecDepth 50000 in
theorem cw_1 : wlk 141 = some (.code (mNm 1) (mCd 1) (mMax 1) (mRet 1)) := rfl
set_option maxRecDepth 50000 in
theorem cw_2 : wlk 550 = some (.code (mNm 2) (mCd 2) (mMax 2) (mRet 2)) := rfl
set_option maxRecDepth 50000 in
theorem cw_3 : wlk 526 = some (.code (mNm 3) (mCd 3) (mMax 3) (mRet 3)) := rfl
set_option maxRecDepth 50000 in
theorem cw_4 : wlk 900 = some (.code (mNm 4) (mCd 4) (mMax 4) (mRet 4)) := rfl
set_option maxRecDepth 50000 in
theorem cw_5 : wlk 890 = some (.code (mNm 5) (mCd 5) (mMax 5) (mRet 5)) := rfl
set_option maxRecDepth 50000 in
theorem cw_6 : wlk 875 = some (.code (mNm 6) (mCd 6) (mMax 6) (mRet 6)) := rfl
set_option maxRecDepth 50000 in
theorem cw_7 : wlk 337 = some (.code (mNm 7) (mCd 7) (mMax 7) (mRet 7)) := rfl
set_option maxRecDepth 50000 in
theorem cw_8 : wlk 1004 = some (.code (mNm 8) (mCd 8) (mMax 8) (mRet 8)) := rfl
set_option maxRecDepth 50000 in
theorem cw_9 : wlk 1012 = some (.code (mNm 9) (mCd 9) (mMax 9) (mRet 9)) := rfl
set_option maxRecDepth 50000 in
theorem cw_10 : wlk 986 = some (.code (mNm 10) (mCd 10) (mMax 10) (mRet 10)) := rfl
set_option maxRecDepth 50000 in
theorem cw_11 : wlk 1029 = some (.code (mNm 11) (mCd 11) (mMax 11) (mRet 11)) := rfl
set_option maxRecDepth 50000 in
theorem cw_12 : wlk 991 = some (.code (mNm 12) (mCd 12) (mMax 12) (mRet 12)) := rfl
set_option maxRecDepth 50000 in
theorem cw_13 : wlk 998 = some (.code (mNm 13) (mCd 13) (mMax 13) (mRet 13)) := rfl
set_option maxRecDepth 50000 in
theorem cw_14 : wlk 397 = some (.code (mNm 14) (mCd 14) (mMax 14) (mRet 14)) := rfl
set_option maxRecDepth 50000 in
theorem cw_15 : wlk 1159 = some (.code (mNm 15) (mCd 15) (mMax 15) (mRet 15)) := rfl
set_option maxRecDepth 50000 in
theorem cw_16 : wlk 1184 = some (.code (mNm 16) (mCd 16) (mMax 16) (mRet 16)) := rfl
set_option maxRecDepth 50000 in
theorem cw_17 : wlk 1192 = some (.code (mNm 17) (mCd 17) (mMax 17) (mRet 17)) := rfl
set_option maxRecDepth 50000 in
theorem cw_18 : wlk 1163 = some (.code (mNm 18) (mCd 18) (mMax 18) (mRet 18)) := rfl
set_option maxRecDepth 50000 in
theorem cw_19 : wlk 1169 = some (.code (mNm 19) (mCd 19) (mMax 19) (mRet 19)) := rfl
set_option maxRecDepth 50000 in
theorem cw_20 : wlk 1178 = some (.code (mNm 20) (mCd 20) (mMax 20) (mRet 20)) := rfl
set_option maxRecDepth 50000 in
theorem cw_21 : wlk 430 = some (.code (mNm 21) (mCd 21) (mMax 21) (mRet 21)) := rfl
set_option maxRecDepth 50000 in
theorem cw_22 : wlk 1237 = some (.code (mNm 22) (mCd 22) (mMax 22) (mRet 22)) := rfl
set_option maxRecDepth 50000 in
theorem cw_23 : wlk 1206 = some (.code (mNm 23) (mCd 23) (mMax 23) (mRet 23)) := rfl
set_option maxRecDepth 50000 in
theorem cw_24 : wlk 1211 = some (.code (mNm 24) (mCd 24) (mMax 24) (mRet 24)) := rfl
set_option maxRecDepth 50000 in
theorem cw_25 : wlk 1215 = some (.code (mNm 25) (mCd 25) (mMax 25) (mRet 25)) := rfl
set_option maxRecDepth 50000 in
theorem cw_26 : wlk 1226 = some (.code (mNm 26) (mCd 26) (mMax 26) (mRet 26)) := rfl
set_option maxRecDepth 50000 in
theorem cw_27 : wlk 1233 = some (.code (mNm 27) (mCd 27) (mMax 27) (mRet 27)) := rfl
set_option maxRecDepth 50000 in
theorem cw_28 : wlk 233 = some (.code (mNm 28) (mCd 28) (mMax 28) (mRet 28)) := rfl
set_option maxRecDepth 50000 in
theorem cw_29 : wlk 733 = some (.code (mNm 29) (mCd 29) (mMax 29) (mRet 29)) := rfl
set_option maxRecDepth 50000 in
theorem cw_30 : wlk 534 = some (.code (mNm 30) (mCd 30) (mMax 30) (mRet 30)) := rfl
set_option maxRecDepth 50000 in
theorem cw_31 : wlk 628 = some (.code (mNm 31) (mCd 31) (mMax 31) (mRet 31)) := rfl
set_option maxRecDepth 50000 in
theorem cw_32 : wlk 546 = some (.code (mNm 32) (mCd 32) (mMax 32) (mRet 32)) := rfl
set_option maxRecDepth 50000 in
theorem cw_33 : wlk 553 = some (.code (mNm 33) (mCd 33) (mMax 33) (mRet 33)) := rfl
set_option maxRecDepth 50000 in
theorem cw_34 : wlk 556 = some (.code (mNm 34) (mCd 34) (mMax 34) (mRet 34)) := rfl
set_option maxRecDepth 50000 in
theorem cw_35 : wlk 569 = some (.code (mNm 35) (mCd 35) (mMax 35) (mRet 35)) := rfl
set_option maxRecDepth 50000 in
theorem cw_36 : wlk 674 = some (.code (mNm 36) (mCd 36) (mMax 36) (mRet 36)) := rfl
set_option maxRecDepth 50000 in
theorem cw_37 : wlk 564 = some (.code (mNm 37) (mCd 37) (mMax 37) (mRet 37)) := rfl
set_option maxRecDepth 50000 in
theorem cw_38 : wlk 560 = some (.code (mNm 38) (mCd 38) (mMax 38) (mRet 38)) := rfl
set_option maxRecDepth 50000 in
theorem cw_39 : wlk 632 = some (.code (mNm 39) (mCd 39) (mMax 39) (mRet 39)) := rfl
set_option maxRecDepth 50000 in
theorem cw_40 : wlk 650 = some (.code (mNm 40) (mCd 40) (mMax 40) (mRet 40)) := rfl
set_option maxRecDepth 50000 in
theorem cw_41 : wlk 692 = some (.code (mNm 41) (mCd 41) (mMax 41) (mRet 41)) := rfl
set_option maxRecDepth 50000 in
theorem cw_42 : wlk 707 = some (.code (mNm 42) (mCd 42) (mMax 42) (mRet 42)) := rfl
set_option maxRecDepth 50000 in
theorem cw_43 : wlk 716 = some (.code (mNm 43) (mCd 43) (mMax 43) (mRet 43)) := rfl
set_option maxRecDepth 50000 in
theorem cw_44 : wlk 721 = some (.code (mNm 44) (mCd 44) (mMax 44) (mRet 44)) := rfl
set_option maxRecDepth 50000 in
theorem cw_45 : wlk 725 = some (.code (mNm 45) (mCd 45) (mMax 45) (mRet 45)) := rfl
set_option maxRecDepth 50000 in
theorem cw_46 : wlk 654 = some (.code (mNm 46) (mCd 46) (mMax 46) (mRet 46)) := rfl
set_option maxRecDepth 50000 in
theorem cw_47 : wlk 662 = some (.code (mNm 47) (mCd 47) (mMax 47) (mRet 47)) := rfl
set_option maxRecDepth 50000 in
theorem cw_48 : wlk 696 = some (.code (mNm 48) (mCd 48) (mMax 48) (mRet 48)) := rfl
set_option maxRecDepth 50000 in
theorem cw_49 : wlk 678 = some (.code (mNm 49) (mCd 49) (mMax 49) (mRet 49)) := rfl
set_option maxRecDepth 50000 in
theorem cw_50 : wlk 637 = some (.code (mNm 50) (mCd 50) (mMax 50) (mRet 50)) := rfl
set_option maxRecDepth 50000 in
theorem cw_51 : wlk 645 = some (.code (mNm 51) (mCd 51) (mMax 51) (mRet 51)) := rfl
set_option maxRecDepth 50000 in
theorem cw_52 : wlk 641 = some (.code (mNm 52) (mCd 52) (mMax 52) (mRet 52)) := rfl
set_option maxRecDepth 50000 in
theorem cw_53 : wlk 449 = some (.code (mNm 53) (mCd 53) (mMax 53) (mRet 53)) := rfl
set_option maxRecDepth 50000 in
theorem cw_54 : wlk 1326 = some (.code (mNm 54) (mCd 54) (mMax 54) (mRet 54)) := rfl
set_option maxRecDepth 50000 in
theorem cw_55 : wlk 1322 = some (.code (mNm 55) (mCd 55) (mMax 55) (mRet 55)) := rfl
set_option maxRecDepth 50000 in
theorem cw_56 : wlk 754 = some (.code (mNm 56) (mCd 56) (mMax 56) (mRet 56)) := rfl
set_option maxRecDepth 50000 in
theorem cw_57 : wlk 1287 = some (.code (mNm 57) (mCd 57) (mMax 57) (mRet 57)) := rfl
set_option maxRecDepth 50000 in
theorem cw_58 : wlk 1314 = some (.code (mNm 58) (mCd 58) (mMax 58) (mRet 58)) := rfl
set_option maxRecDepth 50000 in
theorem cw_59 : wlk 1310 = some (.code (mNm 59) (mCd 59) (mMax 59) (mRet 59)) := rfl
set_option maxRecDepth 50000 in
theorem cw_60 : wlk 155 = some (.code (mNm 60) (mCd 60) (mMax 60) (mRet 60)) := rfl
set_option maxRecDepth 50000 in
theorem cw_61 : wlk 538 = some (.code (mNm 61) (mCd 61) (mMax 61) (mRet 61)) := rfl
set_option maxRecDepth 50000 in
theorem cw_62 : wlk 737 = some (.code (mNm 62) (mCd 62) (mMax 62) (mRet 62)) := rfl
set_option maxRecDepth 50000 in
theorem cw_63 : wlk 700 = some (.code (mNm 63) (mCd 63) (mMax 63) (mRet 63)) := rfl
set_option maxRecDepth 50000 in
theorem cw_64 : wlk 711 = some (.code (mNm 64) (mCd 64) (mMax 64) (mRet 64)) := rfl
set_option maxRecDepth 50000 in
theorem cw_65 : wlk 729 = some (.code (mNm 65) (mCd 65) (mMax 65) (mRet 65)) := rfl
set_option maxRecDepth 50000 in
theorem cw_66 : wlk 795 = some (.code (mNm 66) (mCd 66) (mMax 66) (mRet 66)) := rfl
set_option maxRecDepth 50000 in
theorem cw_67 : wlk 803 = some (.code (mNm 67) (mCd 67) (mMax 67) (mRet 67)) := rfl
set_option maxRecDepth 50000 in
theorem cw_68 : wlk 807 = some (.code (mNm 68) (mCd 68) (mMax 68) (mRet 68)) := rfl
set_option maxRecDepth 50000 in
theorem cw_69 : wlk 827 = some (.code (mNm 69) (mCd 69) (mMax 69) (mRet 69)) := rfl
set_option maxRecDepth 50000 in
theorem cw_70 : wlk 787 = some (.code (mNm 70) (mCd 70) (mMax 70) (mRet 70)) := rfl
set_option maxRecDepth 50000 in
theorem cw_71 : wlk 835 = some (.code (mNm 71) (mCd 71) (mMax 71) (mRet 71)) := rfl
set_option maxRecDepth 50000 in
theorem cw_72 : wlk 362 = some (.code (mNm 72) (mCd 72) (mMax 72) (mRet 72)) := rfl
set_option maxRecDepth 50000 in
theorem cw_73 : wlk 1050 = some (.code (mNm 73) (mCd 73) (mMax 73) (mRet 73)) := rfl
set_option maxRecDepth 50000 in
theorem cw_74 : wlk 1056 = some (.code (mNm 74) (mCd 74) (mMax 74) (mRet 74)) := rfl
set_option maxRecDepth 50000 in
theorem cw_75 : wlk 1069 = some (.code (mNm 75) (mCd 75) (mMax 75) (mRet 75)) := rfl
set_option maxRecDepth 50000 in
theorem cw_76 : wlk 1075 = some (.code (mNm 76) (mCd 76) (mMax 76) (mRet 76)) := rfl
set_option maxRecDepth 50000 in
theorem cw_77 : wlk 1080 = some (.code (mNm 77) (mCd 77) (mMax 77) (mRet 77)) := rfl
set_option maxRecDepth 50000 in
theorem cw_78 : wlk 1089 = some (.code (mNm 78) (mCd 78) (mMax 78) (mRet 78)) := rfl
set_option maxRecDepth 50000 in
theorem cw_79 : wlk 1097 = some (.code (mNm 79) (mCd 79) (mMax 79) (mRet 79)) := rfl
set_option maxRecDepth 50000 in
theorem cw_80 : wlk 1105 = some (.code (mNm 80) (mCd 80) (mMax 80) (mRet 80)) := rfl
set_option maxRecDepth 50000 in
theorem cw_81 : wlk 1114 = some (.code (mNm 81) (mCd 81) (mMax 81) (mRet 81)) := rfl
set_option maxRecDepth 50000 in
theorem cw_82 : wlk 1120 = some (.code (mNm 82) (mCd 82) (mMax 82) (mRet 82)) := rfl
set_option maxRecDepth 50000 in
theorem cw_83 : wlk 1128 = some (.code (mNm 83) (mCd 83) (mMax 83) (mRet 83)) := rfl
set_option maxRecDepth 50000 in
theorem cw_84 : wlk 267 = some (.code (mNm 84) (mCd 84) (mMax 84) (mRet 84)) := rfl
set_option maxRecDepth 50000 in
theorem cw_85 : wlk 747 = some (.code (mNm 85) (mCd 85) (mMax 85) (mRet 85)) := rfl
set_option maxRecDepth 50000 in
theorem cw_86 : wlk 871 = some (.code (mNm 86) (mCd 86) (mMax 86) (mRet 86)) := rfl
set_option maxRecDepth 50000 in
theorem cw_87 : wlk 782 = some (.code (mNm 87) (mCd 87) (mMax 87) (mRet 87)) := rfl
set_option maxRecDepth 50000 in
theorem cw_88 : wlk 161 = some (.code (mNm 88) (mCd 88) (mMax 88) (mRet 88)) := rfl
set_option maxRecDepth 50000 in
theorem cw_89 : wlk 666 = some (.code (mNm 89) (mCd 89) (mMax 89) (mRet 89)) := rfl
set_option maxRecDepth 50000 in
theorem cw_90 : wlk 776 = some (.code (mNm 90) (mCd 90) (mMax 90) (mRet 90)) := rfl
set_option maxRecDepth 50000 in
theorem cw_91 : wlk 658 = some (.code (mNm 91) (mCd 91) (mMax 91) (mRet 91)) := rfl
set_option maxRecDepth 50000 in
theorem cw_92 : wlk 670 = some (.code (mNm 92) (mCd 92) (mMax 92) (mRet 92)) := rfl
set_option maxRecDepth 50000 in
theorem cw_93 : wlk 688 = some (.code (mNm 93) (mCd 93) (mMax 93) (mRet 93)) := rfl
set_option maxRecDepth 50000 in
theorem cw_94 : wlk 799 = some (.code (mNm 94) (mCd 94) (mMax 94) (mRet 94)) := rfl
set_option maxRecDepth 50000 in
theorem cw_95 : wlk 848 = some (.code (mNm 95) (mCd 95) (mMax 95) (mRet 95)) := rfl
set_option maxRecDepth 50000 in
theorem cw_96 : wlk 542 = some (.code (mNm 96) (mCd 96) (mMax 96) (mRet 96)) := rfl
set_option maxRecDepth 50000 in
theorem cw_97 : wlk 741 = some (.code (mNm 97) (mCd 97) (mMax 97) (mRet 97)) := rfl
set_option maxRecDepth 50000 in
theorem cw_98 : wlk 305 = some (.code (mNm 98) (mCd 98) (mMax 98) (mRet 98)) := rfl
set_option maxRecDepth 50000 in
theorem cw_99 : wlk 863 = some (.code (mNm 99) (mCd 99) (mMax 99) (mRet 99)) := rfl
set_option maxRecDepth 50000 in
theorem cw_100 : wlk 867 = some (.code (mNm 100) (mCd 100) (mMax 100) (mRet 100)) := rfl
set_option maxRecDepth 50000 in
theorem cw_101 : wlk 1062 = some (.code (mNm 101) (mCd 101) (mMax 101) (mRet 101)) := rfl
set_option maxRecDepth 50000 in
theorem cw_102 : wlk 1302 = some (.code (mNm 102) (mCd 102) (mMax 102) (mRet 102)) := rfl
set_option maxRecDepth 50000 in
theorem cw_103 : wlk 924 = some (.code (mNm 103) (mCd 103) (mMax 103) (mRet 103)) := rfl
set_option maxRecDepth 50000 in
theorem cw_104 : wlk 945 = some (.code (mNm 104) (mCd 104) (mMax 104) (mRet 104)) := rfl
set_option maxRecDepth 50000 in
theorem cw_105 : wlk 936 = some (.code (mNm 105) (mCd 105) (mMax 105) (mRet 105)) := rfl
set_option maxRecDepth 50000 in
theorem cw_106 : wlk 882 = some (.code (mNm 106) (mCd 106) (mMax 106) (mRet 106)) := rfl
set_option maxRecDepth 50000 in
theorem cw_107 : wlk 972 = some (.code (mNm 107) (mCd 107) (mMax 107) (mRet 107)) := rfl
set_option maxRecDepth 50000 in
theorem cw_108 : wlk 1146 = some (.code (mNm 108) (mCd 108) (mMax 108) (mRet 108)) := rfl
set_option maxRecDepth 50000 in
theorem cw_109 : wlk 1221 = some (.code (mNm 109) (mCd 109) (mMax 109) (mRet 109)) := rfl
set_option maxRecDepth 50000 in
theorem cw_110 : wlk 1262 = some (.code (mNm 110) (mCd 110) (mMax 110) (mRet 110)) := rfl
set_option maxRecDepth 50000 in
theorem cw_111 : wlk 1266 = some (.code (mNm 111) (mCd 111) (mMax 111) (mRet 111)) := rfl
set_option maxRecDepth 50000 in
theorem cw_112 : wlk 886 = some (.code (mNm 112) (mCd 112) (mMax 112) (mRet 112)) := rfl
set_option maxRecDepth 50000 in
theorem cw_113 : wlk 894 = some (.code (mNm 113) (mCd 113) (mMax 113) (mRet 113)) := rfl
set_option maxRecDepth 50000 in
theorem cw_114 : wlk 904 = some (.code (mNm 114) (mCd 114) (mMax 114) (mRet 114)) := rfl
set_option maxRecDepth 50000 in
theorem cw_115 : wlk 907 = some (.code (mNm 115) (mCd 115) (mMax 115) (mRet 115)) := rfl
set_option maxRecDepth 50000 in
theorem cw_116 : wlk 911 = some (.code (mNm 116) (mCd 116) (mMax 116) (mRet 116)) := rfl
set_option maxRecDepth 50000 in
theorem cw_117 : wlk 917 = some (.code (mNm 117) (mCd 117) (mMax 117) (mRet 117)) := rfl
set_option maxRecDepth 50000 in
theorem cw_118 : wlk 133 = some (.code (mNm 118) (mCd 118) (mMax 118) (mRet 118)) := rfl
set_option maxRecDepth 50000 in
theorem cw_119 : wlk 518 = some (.code (mNm 119) (mCd 119) (mMax 119) (mRet 119)) := rfl
set_option maxRecDepth 50000 in
theorem cw_120 : wlk 522 = some (.code (mNm 120) (mCd 120) (mMax 120) (mRet 120)) := rfl
set_option maxRecDepth 50000 in
theorem cw_121 : wlk 530 = some (.code (mNm 121) (mCd 121) (mMax 121) (mRet 121)) := rfl
set_option maxRecDepth 50000 in
theorem cw_122 : wlk 760 = some (.code (mNm 122) (mCd 122) (mMax 122) (mRet 122)) := rfl
set_option maxRecDepth 50000 in
theorem cw_123 : wlk 764 = some (.code (mNm 123) (mCd 123) (mMax 123) (mRet 123)) := rfl
set_option maxRecDepth 50000 in
theorem cw_124 : wlk 823 = some (.code (mNm 124) (mCd 124) (mMax 124) (mRet 124)) := rfl
set_option maxRecDepth 50000 in
theorem cw_125 : wlk 772 = some (.code (mNm 125) (mCd 125) (mMax 125) (mRet 125)) := rfl
set_option maxRecDepth 50000 in
theorem cw_126 : wlk 859 = some (.code (mNm 126) (mCd 126) (mMax 126) (mRet 126)) := rfl
set_option maxRecDepth 50000 in
theorem cw_127 : wlk 932 = some (.code (mNm 127) (mCd 127) (mMax 127) (mRet 127)) := rfl
set_option maxRecDepth 50000 in
theorem cw_128 : wlk 856 = some (.code (mNm 128) (mCd 128) (mMax 128) (mRet 128)) := rfl
set_option maxRecDepth 50000 in
theorem cw_129 : wlk 1201 = some (.code (mNm 129) (mCd 129) (mMax 129) (mRet 129)) := rfl
set_option maxRecDepth 50000 in
theorem cw_130 : wlk 1257 = some (.code (mNm 130) (mCd 130) (mMax 130) (mRet 130)) := rfl
set_option maxRecDepth 50000 in
theorem cw_131 : wlk 1253 = some (.code (mNm 131) (mCd 131) (mMax 131) (mRet 131)) := rfl
set_option maxRecDepth 50000 in
theorem cw_132 : wlk 768 = some (.code (mNm 132) (mCd 132) (mMax 132) (mRet 132)) := rfl
set_option maxRecDepth 50000 in
theorem cw_133 : wlk 811 = some (.code (mNm 133) (mCd 133) (mMax 133) (mRet 133)) := rfl
set_option maxRecDepth 50000 in
theorem cw_134 : wlk 815 = some (.code (mNm 134) (mCd 134) (mMax 134) (mRet 134)) := rfl
set_option maxRecDepth 50000 in
theorem cw_135 : wlk 819 = some (.code (mNm 135) (mCd 135) (mMax 135) (mRet 135)) := rfl
set_option maxRecDepth 50000 in
theorem cw_136 : wlk 831 = some (.code (mNm 136) (mCd 136) (mMax 136) (mRet 136)) := rfl
set_option maxRecDepth 50000 in
theorem cw_137 : wlk 840 = some (.code (mNm 137) (mCd 137) (mMax 137) (mRet 137)) := rfl
set_option maxRecDepth 50000 in
theorem cw_138 : wlk 844 = some (.code (mNm 138) (mCd 138) (mMax 138) (mRet 138)) := rfl
set_option maxRecDepth 50000 in
theorem cw_139 : wlk 852 = some (.code (mNm 139) (mCd 139) (mMax 139) (mRet 139)) := rfl
set_option maxRecDepth 50000 in
theorem cw_140 : wlk 928 = some (.code (mNm 140) (mCd 140) (mMax 140) (mRet 140)) := rfl
set_option maxRecDepth 50000 in
theorem cw_141 : wlk 941 = some (.code (mNm 141) (mCd 141) (mMax 141) (mRet 141)) := rfl
set_option maxRecDepth 50000 in
theorem cw_142 : wlk 950 = some (.code (mNm 142) (mCd 142) (mMax 142) (mRet 142)) := rfl
set_option maxRecDepth 50000 in
theorem cw_143 : wlk 954 = some (.code (mNm 143) (mCd 143) (mMax 143) (mRet 143)) := rfl
set_option maxRecDepth 50000 in
theorem cw_144 : wlk 964 = some (.code (mNm 144) (mCd 144) (mMax 144) (mRet 144)) := rfl
set_option maxRecDepth 50000 in
theorem cw_145 : wlk 968 = some (.code (mNm 145) (mCd 145) (mMax 145) (mRet 145)) := rfl
set_option maxRecDepth 50000 in
theorem cw_146 : wlk 977 = some (.code (mNm 146) (mCd 146) (mMax 146) (mRet 146)) := rfl
set_option maxRecDepth 50000 in
theorem cw_147 : wlk 981 = some (.code (mNm 147) (mCd 147) (mMax 147) (mRet 147)) := rfl
set_option maxRecDepth 50000 in
theorem cw_148 : wlk 1008 = some (.code (mNm 148) (mCd 148) (mMax 148) (mRet 148)) := rfl
set_option maxRecDepth 50000 in
theorem cw_149 : wlk 1016 = some (.code (mNm 149) (mCd 149) (mMax 149) (mRet 149)) := rfl
set_option maxRecDepth 50000 in
theorem cw_150 : wlk 1020 = some (.code (mNm 150) (mCd 150) (mMax 150) (mRet 150)) := rfl
set_option maxRecDepth 50000 in
theorem cw_151 : wlk 1025 = some (.code (mNm 151) (mCd 151) (mMax 151) (mRet 151)) := rfl
set_option maxRecDepth 50000 in
theorem cw_152 : wlk 1033 = some (.code (mNm 152) (mCd 152) (mMax 152) (mRet 152)) := rfl
set_option maxRecDepth 50000 in
theorem cw_153 : wlk 1037 = some (.code (mNm 153) (mCd 153) (mMax 153) (mRet 153)) := rfl
set_option maxRecDepth 50000 in
theorem cw_154 : wlk 1041 = some (.code (mNm 154) (mCd 154) (mMax 154) (mRet 154)) := rfl
set_option maxRecDepth 50000 in
theorem cw_155 : wlk 1046 = some (.code (mNm 155) (mCd 155) (mMax 155) (mRet 155)) := rfl
set_option maxRecDepth 50000 in
theorem cw_156 : wlk 1085 = some (.code (mNm 156) (mCd 156) (mMax 156) (mRet 156)) := rfl
set_option maxRecDepth 50000 in
theorem cw_157 : wlk 1093 = some (.code (mNm 157) (mCd 157) (mMax 157) (mRet 157)) := rfl
set_option maxRecDepth 50000 in
theorem cw_158 : wlk 1101 = some (.code (mNm 158) (mCd 158) (mMax 158) (mRet 158)) := rfl
set_option maxRecDepth 50000 in
theorem cw_159 : wlk 1110 = some (.code (mNm 159) (mCd 159) (mMax 159) (mRet 159)) := rfl
set_option maxRecDepth 50000 in
theorem cw_160 : wlk 1124 = some (.code (mNm 160) (mCd 160) (mMax 160) (mRet 160)) := rfl
set_option maxRecDepth 50000 in
theorem cw_161 : wlk 1132 = some (.code (mNm 161) (mCd 161) (mMax 161) (mRet 161)) := rfl
set_option maxRecDepth 50000 in
theorem cw_162 : wlk 1138 = some (.code (mNm 162) (mCd 162) (mMax 162) (mRet 162)) := rfl
set_option maxRecDepth 50000 in
theorem cw_163 : wlk 1150 = some (.code (mNm 163) (mCd 163) (mMax 163) (mRet 163)) := rfl
set_option maxRecDepth 50000 in
theorem cw_164 : wlk 1142 = some (.code (mNm 164) (mCd 164) (mMax 164) (mRet 164)) := rfl
set_option maxRecDepth 50000 in
theorem cw_165 : wlk 1155 = some (.code (mNm 165) (mCd 165) (mMax 165) (mRet 165)) := rfl
set_option maxRecDepth 50000 in
theorem cw_166 : wlk 1188 = some (.code (mNm 166) (mCd 166) (mMax 166) (mRet 166)) := rfl
set_option maxRecDepth 50000 in
theorem cw_167 : wlk 1197 = some (.code (mNm 167) (mCd 167) (mMax 167) (mRet 167)) := rfl
set_option maxRecDepth 50000 in
theorem cw_168 : wlk 1241 = some (.code (mNm 168) (mCd 168) (mMax 168) (mRet 168)) := rfl
set_option maxRecDepth 50000 in
theorem cw_169 : wlk 1245 = some (.code (mNm 169) (mCd 169) (mMax 169) (mRet 169)) := rfl
set_option maxRecDepth 50000 in
theorem cw_170 : wlk 1249 = some (.code (mNm 170) (mCd 170) (mMax 170) (mRet 170)) := rfl
set_option maxRecDepth 50000 in
theorem cw_171 : wlk 1271 = some (.code (mNm 171) (mCd 171) (mMax 171) (mRet 171)) := rfl
set_option maxRecDepth 50000 in
theorem cw_172 : wlk 1275 = some (.code (mNm 172) (mCd 172) (mMax 172) (mRet 172)) := rfl
set_option maxRecDepth 50000 in
theorem cw_173 : wlk 1280 = some (.code (mNm 173) (mCd 173) (mMax 173) (mRet 173)) := rfl
set_option maxRecDepth 50000 in
theorem cw_174 : wlk 1294 = some (.code (mNm 174) (mCd 174) (mMax 174) (mRet 174)) := rfl
set_option maxRecDepth 50000 in
theorem cw_175 : wlk 1283 = some (.code (mNm 175) (mCd 175) (mMax 175) (mRet 175)) := rfl
set_option maxRecDepth 50000 in
theorem cw_176 : wlk 1298 = some (.code (mNm 176) (mCd 176) (mMax 176) (mRet 176)) := rfl
set_option maxRecDepth 50000 in
theorem cw_177 : wlk 1306 = some (.code (mNm 177) (mCd 177) (mMax 177) (mRet 177)) := rfl
set_option maxRecDepth 50000 in
theorem cw_178 : wlk 1318 = some (.code (mNm 178) (mCd 178) (mMax 178) (mRet 178)) := rfl
set_option maxRecDepth 50000 in
theorem cw_179 : wlk 1330 = some (.code (mNm 179) (mCd 179) (mMax 179) (mRet 179)) := rfl
set_option maxRecDepth 50000 in
theorem cw_180 : wlk 1347 = some (.code (mNm 180) (mCd 180) (mMax 180) (mRet 180)) := rfl
set_option maxRecDepth 50000 in
theorem cw_181 : wlk 1335 = some (.code (mNm 181) (mCd 181) (mMax 181) (mRet 181)) := rfl
set_option maxRecDepth 50000 in
theorem cw_182 : wlk 1339 = some (.code (mNm 182) (mCd 182) (mMax 182) (mRet 182)) := rfl
set_option maxRecDepth 50000 in
theorem cw_183 : wlk 1413 = some (.code (mNm 183) (mCd 183) (mMax 183) (mRet 183)) := rfl
set_option maxRecDepth 50000 in
theorem cw_184 : wlk 1539 = some (.code (mNm 184) (mCd 184) (mMax 184) (mRet 184)) := rfl
set_option maxRecDepth 50000 in
theorem cw_185 : wlk 1551 = some (.code (mNm 185) (mCd 185) (mMax 185) (mRet 185)) := rfl
set_option maxRecDepth 50000 in
theorem cw_186 : wlk 1558 = some (.code (mNm 186) (mCd 186) (mMax 186) (mRet 186)) := rfl
set_option maxRecDepth 50000 in
theorem cw_187 : wlk 1999 = some (.code (mNm 187) (mCd 187) (mMax 187) (mRet 187)) := rfl
set_option maxRecDepth 50000 in
theorem cw_188 : wlk 1554 = some (.code (mNm 188) (mCd 188) (mMax 188) (mRet 188)) := rfl
set_option maxRecDepth 50000 in
theorem cw_189 : wlk 1722 = some (.code (mNm 189) (mCd 189) (mMax 189) (mRet 189)) := rfl
set_option maxRecDepth 50000 in
theorem cw_190 : wlk 1813 = some (.code (mNm 190) (mCd 190) (mMax 190) (mRet 190)) := rfl
set_option maxRecDepth 50000 in
theorem cw_191 : wlk 1680 = some (.code (mNm 191) (mCd 191) (mMax 191) (mRet 191)) := rfl
set_option maxRecDepth 50000 in
theorem cw_192 : wlk 1961 = some (.code (mNm 192) (mCd 192) (mMax 192) (mRet 192)) := rfl
set_option maxRecDepth 50000 in
theorem cw_193 : wlk 1543 = some (.code (mNm 193) (mCd 193) (mMax 193) (mRet 193)) := rfl
set_option maxRecDepth 50000 in
theorem cw_194 : wlk 1566 = some (.code (mNm 194) (mCd 194) (mMax 194) (mRet 194)) := rfl
set_option maxRecDepth 50000 in
theorem cw_195 : wlk 1569 = some (.code (mNm 195) (mCd 195) (mMax 195) (mRet 195)) := rfl
set_option maxRecDepth 50000 in
theorem cw_196 : wlk 1572 = some (.code (mNm 196) (mCd 196) (mMax 196) (mRet 196)) := rfl
set_option maxRecDepth 50000 in
theorem cw_197 : wlk 1562 = some (.code (mNm 197) (mCd 197) (mMax 197) (mRet 197)) := rfl
set_option maxRecDepth 50000 in
theorem cw_198 : wlk 1591 = some (.code (mNm 198) (mCd 198) (mMax 198) (mRet 198)) := rfl
set_option maxRecDepth 50000 in
theorem cw_199 : wlk 1581 = some (.code (mNm 199) (mCd 199) (mMax 199) (mRet 199)) := rfl
set_option maxRecDepth 50000 in
theorem cw_200 : wlk 1604 = some (.code (mNm 200) (mCd 200) (mMax 200) (mRet 200)) := rfl
set_option maxRecDepth 50000 in
theorem cw_201 : wlk 1600 = some (.code (mNm 201) (mCd 201) (mMax 201) (mRet 201)) := rfl
set_option maxRecDepth 50000 in
theorem cw_202 : wlk 1630 = some (.code (mNm 202) (mCd 202) (mMax 202) (mRet 202)) := rfl
set_option maxRecDepth 50000 in
theorem cw_203 : wlk 1640 = some (.code (mNm 203) (mCd 203) (mMax 203) (mRet 203)) := rfl
set_option maxRecDepth 50000 in
theorem cw_204 : wlk 1626 = some (.code (mNm 204) (mCd 204) (mMax 204) (mRet 204)) := rfl
set_option maxRecDepth 50000 in
theorem cw_205 : wlk 1658 = some (.code (mNm 205) (mCd 205) (mMax 205) (mRet 205)) := rfl
set_option maxRecDepth 50000 in
theorem cw_206 : wlk 1654 = some (.code (mNm 206) (mCd 206) (mMax 206) (mRet 206)) := rfl
set_option maxRecDepth 50000 in
theorem cw_207 : wlk 1612 = some (.code (mNm 207) (mCd 207) (mMax 207) (mRet 207)) := rfl
set_option maxRecDepth 50000 in
theorem cw_208 : wlk 1608 = some (.code (mNm 208) (mCd 208) (mMax 208) (mRet 208)) := rfl
set_option maxRecDepth 50000 in
theorem cw_209 : wlk 1596 = some (.code (mNm 209) (mCd 209) (mMax 209) (mRet 209)) := rfl
set_option maxRecDepth 50000 in
theorem cw_210 : wlk 1547 = some (.code (mNm 210) (mCd 210) (mMax 210) (mRet 210)) := rfl
set_option maxRecDepth 50000 in
theorem cw_211 : wlk 1618 = some (.code (mNm 211) (mCd 211) (mMax 211) (mRet 211)) := rfl
set_option maxRecDepth 50000 in
theorem cw_212 : wlk 1576 = some (.code (mNm 212) (mCd 212) (mMax 212) (mRet 212)) := rfl
set_option maxRecDepth 50000 in
theorem cw_213 : wlk 1587 = some (.code (mNm 213) (mCd 213) (mMax 213) (mRet 213)) := rfl
set_option maxRecDepth 50000 in
theorem cw_214 : wlk 1622 = some (.code (mNm 214) (mCd 214) (mMax 214) (mRet 214)) := rfl
set_option maxRecDepth 50000 in
theorem cw_215 : wlk 1650 = some (.code (mNm 215) (mCd 215) (mMax 215) (mRet 215)) := rfl
set_option maxRecDepth 50000 in
theorem cw_216 : wlk 1663 = some (.code (mNm 216) (mCd 216) (mMax 216) (mRet 216)) := rfl
set_option maxRecDepth 50000 in
theorem cw_217 : wlk 1668 = some (.code (mNm 217) (mCd 217) (mMax 217) (mRet 217)) := rfl
set_option maxRecDepth 50000 in
theorem cw_218 : wlk 1673 = some (.code (mNm 218) (mCd 218) (mMax 218) (mRet 218)) := rfl
set_option maxRecDepth 50000 in
theorem cw_219 : wlk 1677 = some (.code (mNm 219) (mCd 219) (mMax 219) (mRet 219)) := rfl
set_option maxRecDepth 50000 in
theorem cw_220 : wlk 1684 = some (.code (mNm 220) (mCd 220) (mMax 220) (mRet 220)) := rfl
set_option maxRecDepth 50000 in
theorem cw_221 : wlk 1688 = some (.code (mNm 221) (mCd 221) (mMax 221) (mRet 221)) := rfl
set_option maxRecDepth 50000 in
theorem cw_222 : wlk 1696 = some (.code (mNm 222) (mCd 222) (mMax 222) (mRet 222)) := rfl
set_option maxRecDepth 50000 in
theorem cw_223 : wlk 1700 = some (.code (mNm 223) (mCd 223) (mMax 223) (mRet 223)) := rfl
set_option maxRecDepth 50000 in
theorem cw_224 : wlk 1703 = some (.code (mNm 224) (mCd 224) (mMax 224) (mRet 224)) := rfl
set_option maxRecDepth 50000 in
theorem cw_225 : wlk 1719 = some (.code (mNm 225) (mCd 225) (mMax 225) (mRet 225)) := rfl
set_option maxRecDepth 50000 in
theorem cw_226 : wlk 1715 = some (.code (mNm 226) (mCd 226) (mMax 226) (mRet 226)) := rfl
set_option maxRecDepth 50000 in
theorem cw_227 : wlk 1786 = some (.code (mNm 227) (mCd 227) (mMax 227) (mRet 227)) := rfl
set_option maxRecDepth 50000 in
theorem cw_228 : wlk 1790 = some (.code (mNm 228) (mCd 228) (mMax 228) (mRet 228)) := rfl
set_option maxRecDepth 50000 in
theorem cw_229 : wlk 1782 = some (.code (mNm 229) (mCd 229) (mMax 229) (mRet 229)) := rfl
set_option maxRecDepth 50000 in
theorem cw_230 : wlk 1738 = some (.code (mNm 230) (mCd 230) (mMax 230) (mRet 230)) := rfl
set_option maxRecDepth 50000 in
theorem cw_231 : wlk 1707 = some (.code (mNm 231) (mCd 231) (mMax 231) (mRet 231)) := rfl
set_option maxRecDepth 50000 in
theorem cw_232 : wlk 1746 = some (.code (mNm 232) (mCd 232) (mMax 232) (mRet 232)) := rfl
set_option maxRecDepth 50000 in
theorem cw_233 : wlk 1778 = some (.code (mNm 233) (mCd 233) (mMax 233) (mRet 233)) := rfl
set_option maxRecDepth 50000 in
theorem cw_234 : wlk 1774 = some (.code (mNm 234) (mCd 234) (mMax 234) (mRet 234)) := rfl
set_option maxRecDepth 50000 in
theorem cw_235 : wlk 1711 = some (.code (mNm 235) (mCd 235) (mMax 235) (mRet 235)) := rfl
set_option maxRecDepth 50000 in
theorem cw_236 : wlk 1692 = some (.code (mNm 236) (mCd 236) (mMax 236) (mRet 236)) := rfl
set_option maxRecDepth 50000 in
theorem cw_237 : wlk 1726 = some (.code (mNm 237) (mCd 237) (mMax 237) (mRet 237)) := rfl
set_option maxRecDepth 50000 in
theorem cw_238 : wlk 1730 = some (.code (mNm 238) (mCd 238) (mMax 238) (mRet 238)) := rfl
set_option maxRecDepth 50000 in
theorem cw_239 : wlk 1734 = some (.code (mNm 239) (mCd 239) (mMax 239) (mRet 239)) := rfl
set_option maxRecDepth 50000 in
theorem cw_240 : wlk 1742 = some (.code (mNm 240) (mCd 240) (mMax 240) (mRet 240)) := rfl
set_option maxRecDepth 50000 in
theorem cw_241 : wlk 1750 = some (.code (mNm 241) (mCd 241) (mMax 241) (mRet 241)) := rfl
set_option maxRecDepth 50000 in
theorem cw_242 : wlk 1758 = some (.code (mNm 242) (mCd 242) (mMax 242) (mRet 242)) := rfl
set_option maxRecDepth 50000 in
theorem cw_243 : wlk 1762 = some (.code (mNm 243) (mCd 243) (mMax 243) (mRet 243)) := rfl
set_option maxRecDepth 50000 in
theorem cw_244 : wlk 1754 = some (.code (mNm 244) (mCd 244) (mMax 244) (mRet 244)) := rfl
set_option maxRecDepth 50000 in
theorem cw_245 : wlk 1770 = some (.code (mNm 245) (mCd 245) (mMax 245) (mRet 245)) := rfl
set_option maxRecDepth 50000 in
theorem cw_246 : wlk 1766 = some (.code (mNm 246) (mCd 246) (mMax 246) (mRet 246)) := rfl
set_option maxRecDepth 50000 in
theorem cw_247 : wlk 1794 = some (.code (mNm 247) (mCd 247) (mMax 247) (mRet 247)) := rfl
set_option maxRecDepth 50000 in
theorem cw_248 : wlk 1802 = some (.code (mNm 248) (mCd 248) (mMax 248) (mRet 248)) := rfl
set_option maxRecDepth 50000 in
theorem cw_249 : wlk 1798 = some (.code (mNm 249) (mCd 249) (mMax 249) (mRet 249)) := rfl
set_option maxRecDepth 50000 in
theorem cw_250 : wlk 1806 = some (.code (mNm 250) (mCd 250) (mMax 250) (mRet 250)) := rfl
set_option maxRecDepth 50000 in
theorem cw_251 : wlk 1810 = some (.code (mNm 251) (mCd 251) (mMax 251) (mRet 251)) := rfl
set_option maxRecDepth 50000 in
theorem cw_252 : wlk 1817 = some (.code (mNm 252) (mCd 252) (mMax 252) (mRet 252)) := rfl
set_option maxRecDepth 50000 in
theorem cw_253 : wlk 1825 = some (.code (mNm 253) (mCd 253) (mMax 253) (mRet 253)) := rfl
set_option maxRecDepth 50000 in
theorem cw_254 : wlk 1821 = some (.code (mNm 254) (mCd 254) (mMax 254) (mRet 254)) := rfl
set_option maxRecDepth 50000 in
theorem cw_255 : wlk 1833 = some (.code (mNm 255) (mCd 255) (mMax 255) (mRet 255)) := rfl
set_option maxRecDepth 50000 in
theorem cw_256 : wlk 1829 = some (.code (mNm 256) (mCd 256) (mMax 256) (mRet 256)) := rfl
set_option maxRecDepth 50000 in
theorem cw_257 : wlk 1841 = some (.code (mNm 257) (mCd 257) (mMax 257) (mRet 257)) := rfl
set_option maxRecDepth 50000 in
theorem cw_258 : wlk 1845 = some (.code (mNm 258) (mCd 258) (mMax 258) (mRet 258)) := rfl
set_option maxRecDepth 50000 in
theorem cw_259 : wlk 1837 = some (.code (mNm 259) (mCd 259) (mMax 259) (mRet 259)) := rfl
set_option maxRecDepth 50000 in
theorem cw_260 : wlk 1849 = some (.code (mNm 260) (mCd 260) (mMax 260) (mRet 260)) := rfl
set_option maxRecDepth 50000 in
theorem cw_261 : wlk 1853 = some (.code (mNm 261) (mCd 261) (mMax 261) (mRet 261)) := rfl
set_option maxRecDepth 50000 in
theorem cw_262 : wlk 1857 = some (.code (mNm 262) (mCd 262) (mMax 262) (mRet 262)) := rfl
set_option maxRecDepth 50000 in
theorem cw_263 : wlk 1865 = some (.code (mNm 263) (mCd 263) (mMax 263) (mRet 263)) := rfl
set_option maxRecDepth 50000 in
theorem cw_264 : wlk 1861 = some (.code (mNm 264) (mCd 264) (mMax 264) (mRet 264)) := rfl
set_option maxRecDepth 50000 in
theorem cw_265 : wlk 1869 = some (.code (mNm 265) (mCd 265) (mMax 265) (mRet 265)) := rfl
set_option maxRecDepth 50000 in
theorem cw_266 : wlk 1873 = some (.code (mNm 266) (mCd 266) (mMax 266) (mRet 266)) := rfl
set_option maxRecDepth 50000 in
theorem cw_267 : wlk 1885 = some (.code (mNm 267) (mCd 267) (mMax 267) (mRet 267)) := rfl
set_option maxRecDepth 50000 in
theorem cw_268 : wlk 1889 = some (.code (mNm 268) (mCd 268) (mMax 268) (mRet 268)) := rfl
set_option maxRecDepth 50000 in
theorem cw_269 : wlk 1881 = some (.code (mNm 269) (mCd 269) (mMax 269) (mRet 269)) := rfl
set_option maxRecDepth 50000 in
theorem cw_270 : wlk 1877 = some (.code (mNm 270) (mCd 270) (mMax 270) (mRet 270)) := rfl
set_option maxRecDepth 50000 in
theorem cw_271 : wlk 1893 = some (.code (mNm 271) (mCd 271) (mMax 271) (mRet 271)) := rfl
set_option maxRecDepth 50000 in
theorem cw_272 : wlk 1897 = some (.code (mNm 272) (mCd 272) (mMax 272) (mRet 272)) := rfl
set_option maxRecDepth 50000 in
theorem cw_273 : wlk 1901 = some (.code (mNm 273) (mCd 273) (mMax 273) (mRet 273)) := rfl
set_option maxRecDepth 50000 in
theorem cw_274 : wlk 1909 = some (.code (mNm 274) (mCd 274) (mMax 274) (mRet 274)) := rfl
set_option maxRecDepth 50000 in
theorem cw_275 : wlk 1905 = some (.code (mNm 275) (mCd 275) (mMax 275) (mRet 275)) := rfl
set_option maxRecDepth 50000 in
theorem cw_276 : wlk 1913 = some (.code (mNm 276) (mCd 276) (mMax 276) (mRet 276)) := rfl
set_option maxRecDepth 50000 in
theorem cw_277 : wlk 1917 = some (.code (mNm 277) (mCd 277) (mMax 277) (mRet 277)) := rfl
set_option maxRecDepth 50000 in
theorem cw_278 : wlk 1925 = some (.code (mNm 278) (mCd 278) (mMax 278) (mRet 278)) := rfl
set_option maxRecDepth 50000 in
theorem cw_279 : wlk 1921 = some (.code (mNm 279) (mCd 279) (mMax 279) (mRet 279)) := rfl
set_option maxRecDepth 50000 in
theorem cw_280 : wlk 1929 = some (.code (mNm 280) (mCd 280) (mMax 280) (mRet 280)) := rfl
set_option maxRecDepth 50000 in
theorem cw_281 : wlk 1937 = some (.code (mNm 281) (mCd 281) (mMax 281) (mRet 281)) := rfl
set_option maxRecDepth 50000 in
theorem cw_282 : wlk 1945 = some (.code (mNm 282) (mCd 282) (mMax 282) (mRet 282)) := rfl
set_option maxRecDepth 50000 in
theorem cw_283 : wlk 1941 = some (.code (mNm 283) (mCd 283) (mMax 283) (mRet 283)) := rfl
set_option maxRecDepth 50000 in
theorem cw_284 : wlk 1933 = some (.code (mNm 284) (mCd 284) (mMax 284) (mRet 284)) := rfl
set_option maxRecDepth 50000 in
theorem cw_285 : wlk 1949 = some (.code (mNm 285) (mCd 285) (mMax 285) (mRet 285)) := rfl
set_option maxRecDepth 50000 in
theorem cw_286 : wlk 1957 = some (.code (mNm 286) (mCd 286) (mMax 286) (mRet 286)) := rfl
set_option maxRecDepth 50000 in
theorem cw_287 : wlk 1953 = some (.code (mNm 287) (mCd 287) (mMax 287) (mRet 287)) := rfl
set_option maxRecDepth 50000 in
theorem cw_288 : wlk 1965 = some (.code (mNm 288) (mCd 288) (mMax 288) (mRet 288)) := rfl
set_option maxRecDepth 50000 in
theorem cw_289 : wlk 1969 = some (.code (mNm 289) (mCd 289) (mMax 289) (mRet 289)) := rfl
set_option maxRecDepth 50000 in
theorem cw_290 : wlk 1977 = some (.code (mNm 290) (mCd 290) (mMax 290) (mRet 290)) := rfl
set_option maxRecDepth 50000 in
theorem cw_291 : wlk 1973 = some (.code (mNm 291) (mCd 291) (mMax 291) (mRet 291)) := rfl
set_option maxRecDepth 50000 in
theorem cw_292 : wlk 1983 = some (.code (mNm 292) (mCd 292) (mMax 292) (mRet 292)) := rfl
set_option maxRecDepth 50000 in
theorem cw_293 : wlk 1987 = some (.code (mNm 293) (mCd 293) (mMax 293) (mRet 293)) := rfl
set_option maxRecDepth 50000 in
theorem cw_294 : wlk 2003 = some (.code (mNm 294) (mCd 294) (mMax 294) (mRet 294)) := rfl
set_option maxRecDepth 50000 in
theorem cw_295 : wlk 1995 = some (.code (mNm 295) (mCd 295) (mMax 295) (mRet 295)) := rfl
set_option maxRecDepth 50000 in
theorem cw_296 : wlk 1991 = some (.code (mNm 296) (mCd 296) (mMax 296) (mRet 296)) := rfl
set_option maxRecDepth 50000 in
theorem cw_297 : wlk 2007 = some (.code (mNm 297) (mCd 297) (mMax 297) (mRet 297)) := rfl
set_option maxRecDepth 50000 in
theorem cw_298 : wlk 2011 = some (.code (mNm 298) (mCd 298) (mMax 298) (mRet 298)) := rfl
set_option maxRecDepth 50000 in
theorem cw_299 : wlk 2015 = some (.code (mNm 299) (mCd 299) (mMax 299) (mRet 299)) := rfl
set_option maxRecDepth 50000 in
theorem cw_300 : wlk 2019 = some (.code (mNm 300) (mCd 300) (mMax 300) (mRet 300)) := rfl
set_option maxRecDepth 50000 in
theorem cw_301 : wlk 2023 = some (.code (mNm 301) (mCd 301) (mMax 301) (mRet 301)) := rfl
set_option maxRecDepth 50000 in
theorem cw_302 : wlk 2027 = some (.code (mNm 302) (mCd 302) (mMax 302) (mRet 302)) := rfl
set_option maxRecDepth 50000 in
theorem cw_303 : wlk 2031 = some (.code (mNm 303) (mCd 303) (mMax 303) (mRet 303)) := rfl
set_option maxRecDepth 50000 in
theorem cw_304 : wlk 2035 = some (.code (mNm 304) (mCd 304) (mMax 304) (mRet 304)) := rfl
set_option maxRecDepth 50000 in
theorem cw_305 : wlk 957 = some (.code (mNm 305) (mCd 305) (mMax 305) (mRet 305)) := rfl
set_option maxRecDepth 50000 in
theorem cw_306 : wlk 145 = some (.code (mNm 306) (mCd 306) (mMax 306) (mRet 306)) := rfl
set_option maxRecDepth 50000 in
theorem cw_307 : wlk 791 = some (.code (mNm 307) (mCd 307) (mMax 307) (mRet 307)) := rfl
set_option maxRecDepth 50000 in
theorem cw_308 : wlk 573 = some (.code (mNm 308) (mCd 308) (mMax 308) (mRet 308)) := rfl
set_option maxRecDepth 50000 in
theorem cw_309 : wlk 583 = some (.code (mNm 309) (mCd 309) (mMax 309) (mRet 309)) := rfl
set_option maxRecDepth 50000 in
theorem cw_310 : wlk 577 = some (.code (mNm 310) (mCd 310) (mMax 310) (mRet 310)) := rfl
set_option maxRecDepth 50000 in
theorem cw_311 : wlk 587 = some (.code (mNm 311) (mCd 311) (mMax 311) (mRet 311)) := rfl
set_option maxRecDepth 50000 in
theorem cw_312 : wlk 593 = some (.code (mNm 312) (mCd 312) (mMax 312) (mRet 312)) := rfl
set_option maxRecDepth 50000 in
theorem cw_313 : wlk 590 = some (.code (mNm 313) (mCd 313) (mMax 313) (mRet 313)) := rfl
set_option maxRecDepth 50000 in
theorem cw_314 : wlk 598 = some (.code (mNm 314) (mCd 314) (mMax 314) (mRet 314)) := rfl
set_option maxRecDepth 50000 in
theorem cwc_1 : ∀ k ∈ List.range' 1 40, wlk ((mW.getD k (0, 0, 0, 0, 0)).1) = some (.code (mNm k) (mCd k) (mMax k) (mRet k)) := List.forall_mem_cons.mpr ⟨cw_1, List.forall_mem_cons.mpr ⟨cw_2, List.forall_mem_cons.mpr ⟨cw_3, List.forall_mem_cons.mpr ⟨cw_4, List.forall_mem_cons.mpr ⟨cw_5, List.forall_mem_cons.mpr ⟨cw_6, List.forall_mem_cons.mpr ⟨cw_7, List.forall_mem_cons.mpr ⟨cw_8, List.forall_mem_cons.mpr ⟨cw_9, List.forall_mem_cons.mpr ⟨cw_10, List.forall_mem_cons.mpr ⟨cw_11, List.forall_mem_cons.mpr ⟨cw_12, List.forall_mem_cons.mpr ⟨cw_13, List.forall_mem_cons.mpr ⟨cw_14, List.forall_mem_cons.mpr ⟨cw_15, List.forall_mem_cons.mpr ⟨cw_16, List.forall_mem_cons.mpr ⟨cw_17, List.forall_mem_cons.mpr ⟨cw_18, List.forall_mem_cons.mpr ⟨cw_19, List.forall_mem_cons.mpr ⟨cw_20, List.forall_mem_cons.mpr ⟨cw_21, List.forall_mem_cons.mpr ⟨cw_22, List.forall_mem_cons.mpr ⟨cw_23, List.forall_mem_cons.mpr ⟨cw_24, List.forall_mem_cons.mpr ⟨cw_25, List.forall_mem_cons.mpr ⟨cw_26, List.forall_mem_cons.mpr ⟨cw_27, List.forall_mem_cons.mpr ⟨cw_28, List.forall_mem_cons.mpr ⟨cw_29, List.forall_mem_cons.mpr ⟨cw_30, List.forall_mem_cons.mpr ⟨cw_31, List.forall_mem_cons.mpr ⟨cw_32, List.forall_mem_cons.mpr ⟨cw_33, List.forall_mem_cons.mpr ⟨cw_34, List.forall_mem_cons.mpr ⟨cw_35, List.forall_mem_cons.mpr ⟨cw_36, List.forall_mem_cons.mpr ⟨cw_37, List.forall_mem_cons.mpr ⟨cw_38, List.forall_mem_cons.mpr ⟨cw_39, List.forall_mem_cons.mpr ⟨cw_40, fun _ h => absurd h List.not_mem_nil⟩⟩⟩⟩⟩⟩⟩⟩⟩⟩⟩⟩⟩⟩⟩⟩⟩⟩⟩⟩⟩⟩⟩⟩⟩⟩⟩⟩⟩⟩⟩⟩⟩⟩⟩⟩⟩⟩⟩⟩
set_option maxRecDepth 50000 in
theorem cwc_41 : ∀ k ∈ List.range' 41 40, wlk ((mW.getD k (0, 0, 0, 0, 0)).1) = some (.code (mNm k) (mCd k) (mMax k) (mRet k)) := List.forall_mem_cons.mpr ⟨cw_41, List.forall_mem_cons.mpr ⟨cw_42, List.forall_mem_cons.mpr ⟨cw_43, List.forall_mem_cons.mpr ⟨cw_44, List.forall_mem_cons.mpr ⟨cw_45, List.forall_mem_cons.mpr ⟨cw_46, List.forall_mem_cons.mpr ⟨cw_47, List.forall_mem_cons.mpr ⟨cw_48, List.forall_mem_cons.mpr ⟨cw_49, List.forall_mem_cons.mpr ⟨cw_50, List.forall_mem_cons.mpr ⟨cw_51, List.forall_mem_cons.mpr ⟨cw_52, List.forall_mem_cons.mpr ⟨cw_53, List.forall_mem_cons.mpr ⟨cw_54, List.forall_mem_cons.mpr ⟨cw_55, List.forall_mem_cons.mpr ⟨cw_56, List.forall_mem_cons.mpr ⟨cw_57, List.forall_mem_cons.mpr ⟨cw_58, List.forall_mem_cons.mpr ⟨cw_59, List.forall_mem_cons.mpr ⟨cw_60, List.forall_mem_cons.mpr ⟨cw_61, List.forall_mem_cons.mpr ⟨cw_62, List.forall_mem_cons.mpr ⟨cw_63, List.forall_mem_cons.mpr ⟨cw_64, List.forall_mem_cons.mpr ⟨cw_65, List.forall_mem_cons.mpr ⟨cw_66, List.forall_mem_cons.mpr ⟨cw_67, List.forall_mem_cons.mpr ⟨cw_68, List.forall_mem_cons.mpr ⟨cw_69, List.forall_mem_cons.mpr ⟨cw_70, List.forall_mem_cons.mpr ⟨cw_71, List.forall_mem_cons.mpr ⟨cw_72, List.forall_mem_cons.mpr ⟨cw_73, List.forall_mem_cons.mpr ⟨cw_74, List.forall_mem_cons.mpr ⟨cw_75, List.forall_mem_cons.mpr ⟨cw_76, List.forall_mem_cons.mpr ⟨cw_77, List.forall_mem_cons.mpr ⟨cw_78, List.forall_mem_cons.mpr ⟨cw_79, List.forall_mem_cons.mpr ⟨cw_80, fun _ h => absurd h List.not_mem_nil⟩⟩⟩⟩⟩⟩⟩⟩⟩⟩⟩⟩⟩⟩⟩⟩⟩⟩⟩⟩⟩⟩⟩⟩⟩⟩⟩⟩⟩⟩⟩⟩⟩⟩⟩⟩⟩⟩⟩⟩
set_option maxRecDepth 50000 in
theorem cwc_81 : ∀ k ∈ List.range' 81 40, wlk ((mW.getD k (0, 0, 0, 0, 0)).1) = some (.code (mNm k) (mCd k) (mMax k) (mRet k)) := List.forall_mem_cons.mpr ⟨cw_81, List.forall_mem_cons.mpr ⟨cw_82, List.forall_mem_cons.mpr ⟨cw_83, List.forall_mem_cons.mpr ⟨cw_84, List.forall_mem_cons.mpr ⟨cw_85, List.forall_mem_cons.mpr ⟨cw_86, List.forall_mem_cons.mpr ⟨cw_87, List.forall_mem_cons.mpr ⟨cw_88, List.forall_mem_cons.mpr ⟨cw_89, List.forall_mem_cons.mpr ⟨cw_90, List.forall_mem_cons.mpr ⟨cw_91, List.forall_mem_cons.mpr ⟨cw_92, List.forall_mem_cons.mpr ⟨cw_93, List.forall_mem_cons.mpr ⟨cw_94, List.forall_mem_cons.mpr ⟨cw_95, List.forall_mem_cons.mpr ⟨cw_96, List.forall_mem_cons.mpr ⟨cw_97, List.forall_mem_cons.mpr ⟨cw_98, List.forall_mem_cons.mpr ⟨cw_99, List.forall_mem_cons.mpr ⟨cw_100, List.forall_mem_cons.mpr ⟨cw_101, List.forall_mem_cons.mpr ⟨cw_102, List.forall_mem_cons.mpr ⟨cw_103, List.forall_mem_cons.mpr ⟨cw_104, List.forall_mem_cons.mpr ⟨cw_105, List.forall_mem_cons.mpr ⟨cw_106, List.forall_mem_cons.mpr ⟨cw_107, List.forall_mem_cons.mpr ⟨cw_108, List.forall_mem_cons.mpr ⟨cw_109, List.forall_mem_cons.mpr ⟨cw_110, List.forall_mem_cons.mpr ⟨cw_111, List.forall_mem_cons.mpr ⟨cw_112, List.forall_mem_cons.mpr ⟨cw_113, List.forall_mem_cons.mpr ⟨cw_114, List.forall_mem_cons.mpr ⟨cw_115, List.forall_mem_cons.mpr ⟨cw_116, List.forall_mem_cons.mpr ⟨cw_117, List.forall_mem_cons.mpr ⟨cw_118, List.forall_mem_cons.mpr ⟨cw_119, List.forall_mem_cons.mpr ⟨cw_120, fun _ h => absurd h List.not_mem_nil⟩⟩⟩⟩⟩⟩⟩⟩⟩⟩⟩⟩⟩⟩⟩⟩⟩⟩⟩⟩⟩⟩⟩⟩⟩⟩⟩⟩⟩⟩⟩⟩⟩⟩⟩⟩⟩⟩⟩⟩
set_option maxRecDepth 50000 in
theorem cwc_121 : ∀ k ∈ List.range' 121 40, wlk ((mW.getD k (0, 0, 0, 0, 0)).1) = some (.code (mNm k) (mCd k) (mMax k) (mRet k)) := List.forall_mem_cons.mpr ⟨cw_121, List.forall_mem_cons.mpr ⟨cw_122, List.forall_mem_cons.mpr ⟨cw_123, List.forall_mem_cons.mpr ⟨cw_124, List.forall_mem_cons.mpr ⟨cw_125, List.forall_mem_cons.mpr ⟨cw_126, List.forall_mem_cons.mpr ⟨cw_127, List.forall_mem_cons.mpr ⟨cw_128, List.forall_mem_cons.mpr ⟨cw_129, List.forall_mem_cons.mpr ⟨cw_130, List.forall_mem_cons.mpr ⟨cw_131, List.forall_mem_cons.mpr ⟨cw_132, List.forall_mem_cons.mpr ⟨cw_133, List.forall_mem_cons.mpr ⟨cw_134, List.forall_mem_cons.mpr ⟨cw_135, List.forall_mem_cons.mpr ⟨cw_136, List.forall_mem_cons.mpr ⟨cw_137, List.forall_mem_cons.mpr ⟨cw_138, List.forall_mem_cons.mpr ⟨cw_139, List.forall_mem_cons.mpr ⟨cw_140, List.forall_mem_cons.mpr ⟨cw_141, List.forall_mem_cons.mpr ⟨cw_142, List.forall_mem_cons.mpr ⟨cw_143, List.forall_mem_cons.mpr ⟨cw_144, List.forall_mem_cons.mpr ⟨cw_145, List.forall_mem_cons.mpr ⟨cw_146, List.forall_mem_cons.mpr ⟨cw_147, List.forall_mem_cons.mpr ⟨cw_148, List.forall_mem_cons.mpr ⟨cw_149, List.forall_mem_cons.mpr ⟨cw_150, List.forall_mem_cons.mpr ⟨cw_151, List.forall_mem_cons.mpr ⟨cw_152, List.forall_mem_cons.mpr ⟨cw_153, List.forall_mem_cons.mpr ⟨cw_154, List.forall_mem_cons.mpr ⟨cw_155, List.forall_mem_cons.mpr ⟨cw_156, List.forall_mem_cons.mpr ⟨cw_157, List.forall_mem_cons.mpr ⟨cw_158, List.forall_mem_cons.mpr ⟨cw_159, List.forall_mem_cons.mpr ⟨cw_160, fun _ h => absurd h List.not_mem_nil⟩⟩⟩⟩⟩⟩⟩⟩⟩⟩⟩⟩⟩⟩⟩⟩⟩⟩⟩⟩⟩⟩⟩⟩⟩⟩⟩⟩⟩⟩⟩⟩⟩⟩⟩⟩⟩⟩⟩⟩
set_option maxRecDepth 50000 in
theorem cwc_161 : ∀ k ∈ List.range' 161 40, wlk ((mW.getD k (0, 0, 0, 0, 0)).1) = some (.code (mNm k) (mCd k) (mMax k) (mRet k)) := List.forall_mem_cons.mpr ⟨cw_161, List.forall_mem_cons.mpr ⟨cw_162, List.forall_mem_cons.mpr ⟨cw_163, List.forall_mem_cons.mpr ⟨cw_164, List.forall_mem_cons.mpr ⟨cw_165, List.forall_mem_cons.mpr ⟨cw_166, List.forall_mem_cons.mpr ⟨cw_167, List.forall_mem_cons.mpr ⟨cw_168, List.forall_mem_cons.mpr ⟨cw_169, List.forall_mem_cons.mpr ⟨cw_170, List.forall_mem_cons.mpr ⟨cw_171, List.forall_mem_cons.mpr ⟨cw_172, List.forall_mem_cons.mpr ⟨cw_173, List.forall_mem_cons.mpr ⟨cw_174, List.forall_mem_cons.mpr ⟨cw_175, List.forall_mem_cons.mpr ⟨cw_176, List.forall_mem_cons.mpr ⟨cw_177, List.forall_mem_cons.mpr ⟨cw_178, List.forall_mem_cons.mpr ⟨cw_179, List.forall_mem_cons.mpr ⟨cw_180, List.forall_mem_cons.mpr ⟨cw_181, List.forall_mem_cons.mpr ⟨cw_182, List.forall_mem_cons.mpr ⟨cw_183, List.forall_mem_cons.mpr ⟨cw_184, List.forall_mem_cons.mpr ⟨cw_185, List.forall_mem_cons.mpr ⟨cw_186, List.forall_mem_cons.mpr ⟨cw_187, List.forall_mem_cons.mpr ⟨cw_188, List.forall_mem_cons.mpr ⟨cw_189, List.forall_mem_cons.mpr ⟨cw_190, List.forall_mem_cons.mpr ⟨cw_191, List.forall_mem_cons.mpr ⟨cw_192, List.forall_mem_cons.mpr ⟨cw_193, List.forall_mem_cons.mpr ⟨cw_194, List.forall_mem_cons.mpr ⟨cw_195, List.forall_mem_cons.mpr ⟨cw_196, List.forall_mem_cons.mpr ⟨cw_197, List.forall_mem_cons.mpr ⟨cw_198, List.forall_mem_cons.mpr ⟨cw_199, List.forall_mem_cons.mpr ⟨cw_200, fun _ h => absurd h List.not_mem_nil⟩⟩⟩⟩⟩⟩⟩⟩⟩⟩⟩⟩⟩⟩⟩⟩⟩⟩⟩⟩⟩⟩⟩⟩⟩⟩⟩⟩⟩⟩⟩⟩⟩⟩⟩⟩⟩⟩⟩⟩
set_option maxRecDepth 50000 in
theorem cwc_201 : ∀ k ∈ List.range' 201 40, wlk ((mW.getD k (0, 0, 0, 0, 0)).1) = some (.code (mNm k) (mCd k) (mMax k) (mRet k)) := List.forall_mem_cons.mpr ⟨cw_201, List.forall_mem_cons.mpr ⟨cw_202, List.forall_mem_cons.mpr ⟨cw_203, List.forall_mem_cons.mpr ⟨cw_204, List.forall_mem_cons.mpr ⟨cw_205, List.forall_mem_cons.mpr ⟨cw_206, List.forall_mem_cons.mpr ⟨cw_207, List.forall_mem_cons.mpr ⟨cw_208, List.forall_mem_cons.mpr ⟨cw_209, List.forall_mem_cons.mpr ⟨cw_210, List.forall_mem_cons.mpr ⟨cw_211, List.forall_mem_cons.mpr ⟨cw_212, List.forall_mem_cons.mpr ⟨cw_213, List.forall_mem_cons.mpr ⟨cw_214, List.forall_mem_cons.mpr ⟨cw_215, List.forall_mem_cons.mpr ⟨cw_216, List.forall_mem_cons.mpr ⟨cw_217, List.forall_mem_cons.mpr ⟨cw_218, List.forall_mem_cons.mpr ⟨cw_219, List.forall_mem_cons.mpr ⟨cw_220, List.forall_mem_cons.mpr ⟨cw_221, List.forall_mem_cons.mpr ⟨cw_222, List.forall_mem_cons.mpr ⟨cw_223, List.forall_mem_cons.mpr ⟨cw_224, List.forall_mem_cons.mpr ⟨cw_225, List.forall_mem_cons.mpr ⟨cw_226, List.forall_mem_cons.mpr ⟨cw_227, List.forall_mem_cons.mpr ⟨cw_228, List.forall_mem_cons.mpr ⟨cw_229, List.forall_mem_cons.mpr ⟨cw_230, List.forall_mem_cons.mpr ⟨cw_231, List.forall_mem_cons.mpr ⟨cw_232, List.forall_mem_cons.mpr ⟨cw_233, List.forall_mem_cons.mpr ⟨cw_234, List.forall_mem_cons.mpr ⟨cw_235, List.forall_mem_cons.mpr ⟨cw_236, List.forall_mem_cons.mpr ⟨cw_237, List.forall_mem_cons.mpr ⟨cw_238, List.forall_mem_cons.mpr ⟨cw_239, List.forall_mem_cons.mpr ⟨cw_240, fun _ h => absurd h List.not_mem_nil⟩⟩⟩⟩⟩⟩⟩⟩⟩⟩⟩⟩⟩⟩⟩⟩⟩⟩⟩⟩⟩⟩⟩⟩⟩⟩⟩⟩⟩⟩⟩⟩⟩⟩⟩⟩⟩⟩⟩⟩
set_option maxRecDepth 50000 in
theorem cwc_241 : ∀ k ∈ List.range' 241 40, wlk ((mW.getD k (0, 0, 0, 0, 0)).1) = some (.code (mNm k) (mCd k) (mMax k) (mRet k)) := List.forall_mem_cons.mpr ⟨cw_241, List.forall_mem_cons.mpr ⟨cw_242, List.forall_mem_cons.mpr ⟨cw_243, List.forall_mem_cons.mpr ⟨cw_244, List.forall_mem_cons.mpr ⟨cw_245, List.forall_mem_cons.mpr ⟨cw_246, List.forall_mem_cons.mpr ⟨cw_247, List.forall_mem_cons.mpr ⟨cw_248, List.forall_mem_cons.mpr ⟨cw_249, List.forall_mem_cons.mpr ⟨cw_250, List.forall_mem_cons.mpr ⟨cw_251, List.forall_mem_cons.mpr ⟨cw_252, List.forall_mem_cons.mpr ⟨cw_253, List.forall_mem_cons.mpr ⟨cw_254, List.forall_mem_cons.mpr ⟨cw_255, List.forall_mem_cons.mpr ⟨cw_256, List.forall_mem_cons.mpr ⟨cw_257, List.forall_mem_cons.mpr ⟨cw_258, List.forall_mem_cons.mpr ⟨cw_259, List.forall_mem_cons.mpr ⟨cw_260, List.forall_mem_cons.mpr ⟨cw_261, List.forall_mem_cons.mpr ⟨cw_262, List.forall_mem_cons.mpr ⟨cw_263, List.forall_mem_cons.mpr ⟨cw_264, List.forall_mem_cons.mpr ⟨cw_265, List.forall_mem_cons.mpr ⟨cw_266, List.forall_mem_cons.mpr ⟨cw_267, List.forall_mem_cons.mpr ⟨cw_268, List.forall_mem_cons.mpr ⟨cw_269, List.forall_mem_cons.mpr ⟨cw_270, List.forall_mem_cons.mpr ⟨cw_271, List.forall_mem_cons.mpr ⟨cw_272, List.forall_mem_cons.mpr ⟨cw_273, List.forall_mem_cons.mpr ⟨cw_274, List.forall_mem_cons.mpr ⟨cw_275, List.forall_mem_cons.mpr ⟨cw_276, List.forall_mem_cons.mpr ⟨cw_277, List.forall_mem_cons.mpr ⟨cw_278, List.forall_mem_cons.mpr ⟨cw_279, List.forall_mem_cons.mpr ⟨cw_280, fun _ h => absurd h List.not_mem_nil⟩⟩⟩⟩⟩⟩⟩⟩⟩⟩⟩⟩⟩⟩⟩⟩⟩⟩⟩⟩⟩⟩⟩⟩⟩⟩⟩⟩⟩⟩⟩⟩⟩⟩⟩⟩⟩⟩⟩⟩
set_option maxRecDepth 50000 in
theorem cwc_281 : ∀ k ∈ List.range' 281 34, wlk ((mW.getD k (0, 0, 0, 0, 0)).1) = some (.code (mNm k) (mCd k) (mMax k) (mRet k)) := List.forall_mem_cons.mpr ⟨cw_281, List.forall_mem_cons.mpr ⟨cw_282, List.forall_mem_cons.mpr ⟨cw_283, List.forall_mem_cons.mpr ⟨cw_284, List.forall_mem_cons.mpr ⟨cw_285, List.forall_mem_cons.mpr ⟨cw_286, List.forall_mem_cons.mpr ⟨cw_287, List.forall_mem_cons.mpr ⟨cw_288, List.forall_mem_cons.mpr ⟨cw_289, List.forall_mem_cons.mpr ⟨cw_290, List.forall_mem_cons.mpr ⟨cw_291, List.forall_mem_cons.mpr ⟨cw_292, List.forall_mem_cons.mpr ⟨cw_293, List.forall_mem_cons.mpr ⟨cw_294, List.forall_mem_cons.mpr ⟨cw_295, List.forall_mem_cons.mpr ⟨cw_296, List.forall_mem_cons.mpr ⟨cw_297, List.forall_mem_cons.mpr ⟨cw_298, List.forall_mem_cons.mpr ⟨cw_299, List.forall_mem_cons.mpr ⟨cw_300, List.forall_mem_cons.mpr ⟨cw_301, List.forall_mem_cons.mpr ⟨cw_302, List.forall_mem_cons.mpr ⟨cw_303, List.forall_mem_cons.mpr ⟨cw_304, List.forall_mem_cons.mpr ⟨cw_305, List.forall_mem_cons.mpr ⟨cw_306, List.forall_mem_cons.mpr ⟨cw_307, List.forall_mem_cons.mpr ⟨cw_308, List.forall_mem_cons.mpr ⟨cw_309, List.forall_mem_cons.mpr ⟨cw_310, List.forall_mem_cons.mpr ⟨cw_311, List.forall_mem_cons.mpr ⟨cw_312, List.forall_mem_cons.mpr ⟨cw_313, List.forall_mem_cons.mpr ⟨cw_314, fun _ h => absurd h List.not_mem_nil⟩⟩⟩⟩⟩⟩⟩⟩⟩⟩⟩⟩⟩⟩⟩⟩⟩⟩⟩⟩⟩⟩⟩⟩⟩⟩⟩⟩⟩⟩⟩⟩⟩⟩
theorem cw_all {k : Nat} (h : 0 < k) (h2 : k < 315) : wlk ((mW.getD k (0, 0, 0, 0, 0)).1) = some (.code (mNm k) (mCd k) (mMax k) (mRet k)) := by
  rcases Nat.lt_or_ge k 41 with q | q
  · exact cwc_1 k (List.mem_range'_1.mpr (by omega))
  rcases Nat.lt_or_ge k 81 with q | q
  · exact cwc_41 k (List.mem_range'_1.mpr (by omega))
  rcases Nat.lt_or_ge k 121 with q | q
  · exact cwc_81 k (List.mem_range'_1.mpr (by omega))
  rcases Nat.lt_or_ge k 161 with q | q
  · exact cwc_121 k (List.mem_range'_1.mpr (by omega))
  rcases Nat.lt_or_ge k 201 with q | q
  · exact cwc_161 k (List.mem_range'_1.mpr (by omega))
  rcases Nat.lt_or_ge k 241 with q | q
  · exact cwc_201 k (List.mem_range'_1.mpr (by omega))
  rcases Nat.lt_or_ge k 281 with q | q
  · exact cwc_241 k (List.mem_range'_1.mpr (by omega))
  rcases Nat.lt_or_ge k 315 with q | q
  · exact cwc_281 k (List.mem_range'_1.mpr (by omega))
  omega
theorem mo_1 : ∀ k, 1 ≤ k → k < 41 → mOK k = true := by
  have h : (List.range 40).all (fun i => mOK (1 + i)) = true := by decide +kernel
  intro k h1 h2
  have h3 := List.all_eq_true.mp h (k - 1) (List.mem_range.mpr (by omega))
  rwa [show 1 + (k - 1) = k by omega] at h3
theorem mo_41 : ∀ k, 41 ≤ k → k < 81 → mOK k = true := by
  have h : (List.range 40).all (fun i => mOK (41 + i)) = true := by decide +kernel
  intro k h1 h2
  have h3 := List.all_eq_true.mp h (k - 41) (List.mem_range.mpr (by omega))
  rwa [show 41 + (k - 41) = k by omega] at h3
theorem mo_81 : ∀ k, 81 ≤ k → k < 121 → mOK k = true := by
  have h : (List.range 40).all (fun i => mOK (81 + i)) = true := by decide +kernel
  intro k h1 h2
  have h3 := List.all_eq_true.mp h (k - 81) (List.mem_range.mpr (by omega))
  rwa [show 81 + (k - 81) = k by omega] at h3
theorem mo_121 : ∀ k, 121 ≤ k → k < 161 → mOK k = true := by
  have h : (List.range 40).all (fun i => mOK (121 + i)) = true := by decide +kernel
  intro k h1 h2
  have h3 := List.all_eq_true.mp h (k - 121) (List.mem_range.mpr (by omega))
  rwa [show 121 + (k - 121) = k by omega] at h3
theorem mo_161 : ∀ k, 161 ≤ k → k < 201 → mOK k = true := by
  have h : (List.range 40).all (fun i => mOK (161 + i)) = true := by decide +kernel
  intro k h1 h2
  have h3 := List.all_eq_true.mp h (k - 161) (List.mem_range.mpr (by omega))
  rwa [show 161 + (k - 161) = k by omega] at h3
theorem mo_201 : ∀ k, 201 ≤ k → k < 241 → mOK k = true := by
  have h : (List.range 40).all (fun i => mOK (201 + i)) = true := by decide +kernel
  intro k h1 h2
  have h3 := List.all_eq_true.mp h (k - 201) (List.mem_range.mpr (by omega))
  rwa [show 201 + (k - 201) = k by omega] at h3
theorem mo_241 : ∀ k, 241 ≤ k → k < 281 → mOK k = true := by
  have h : (List.range 40).all (fun i => mOK (241 + i)) = true := by decide +kernel
  intro k h1 h2
  have h3 := List.all_eq_true.mp h (k - 241) (List.mem_range.mpr (by omega))
  rwa [show 241 + (k - 241) = k by omega] at h3
theorem mo_281 : ∀ k, 281 ≤ k → k < 315 → mOK k = true := by
  have h : (List.range 34).all (fun i => mOK (281 + i)) = true := by decide +kernel
  intro k h1 h2
  have h3 := List.all_eq_true.mp h (k - 281) (List.mem_range.mpr (by omega))
  rwa [show 281 + (k - 281) = k by omega] at h3
theorem mo_all {k : Nat} (h : 0 < k) (h2 : k < 315) : mOK k = true := by
  rcases Nat.lt_or_ge k 41 with q | q
  · exact mo_1 k (by omega) q
  rcases Nat.lt_or_ge k 81 with q | q
  · exact mo_41 k (by omega) q
  rcases Nat.lt_or_ge k 121 with q | q
  · exact mo_81 k (by omega) q
  rcases Nat.lt_or_ge k 161 with q | q
  · exact mo_121 k (by omega) q
  rcases Nat.lt_or_ge k 201 with q | q
  · exact mo_161 k (by omega) q
  rcases Nat.lt_or_ge k 241 with q | q
  · exact mo_201 k (by omega) q
  rcases Nat.lt_or_ge k 281 with q | q
  · exact mo_241 k (by omega) q
  rcases Nat.lt_or_ge k 315 with q | q
  · exact mo_281 k (by omega) q
  omega
theorem cl0_0 : (((mOp 0).drop 0).take 30).all (chkE 0) = true := by decide +kernel
theorem cl0_30 : (((mOp 0).drop 30).take 30).all (chkE 0) = true := by decide +kernel
theorem cl0_60 : (((mOp 0).drop 60).take 30).all (chkE 0) = true := by decide +kernel
theorem cl0_90 : (((mOp 0).drop 90).take 30).all (chkE 0) = true := by decide +kernel
theorem all_split {α : Type} {f : α → Bool} (n : Nat) {L : List α} (h1 : (L.take n).all f = true) (h2 : (L.drop n).all f = true) : L.all f = true := by
  rw [← List.take_append_drop n L, List.all_append, h1, h2]; rfl
theorem ck_0 : chkK 0 = true := by
  unfold chkK
  refine all_split 30 cl0_0 ?_
  refine all_split 30 cl0_30 ?_
  rw [List.drop_drop]
  refine all_split 30 cl0_60 ?_
  rw [List.drop_drop]
  exact (show ((mOp 0).drop 90).all (chkE 0) = true by decide +kernel)
theorem ck_1 : ∀ k, 1 ≤ k → k < 21 → chkK k = true := by
  have h : (List.range 20).all (fun i => chkK (1 + i)) = true := by decide +kernel
  intro k h1 h2
  have h3 := List.all_eq_true.mp h (k - 1) (List.mem_range.mpr (by omega))
  rwa [show 1 + (k - 1) = k by omega] at h3
theorem ck_21 : ∀ k, 21 ≤ k → k < 41 → chkK k = true := by
  have h : (List.range 20).all (fun i => chkK (21 + i)) = true := by decide +kernel
  intro k h1 h2
  have h3 := List.all_eq_true.mp h (k - 21) (List.mem_range.mpr (by omega))
  rwa [show 21 + (k - 21) = k by omega] at h3
theorem ck_41 : ∀ k, 41 ≤ k → k < 61 → chkK k = true := by
  have h : (List.range 20).all (fun i => chkK (41 + i)) = true := by decide +kernel
  intro k h1 h2
  have h3 := List.all_eq_true.mp h (k - 41) (List.mem_range.mpr (by omega))
  rwa [show 41 + (k - 41) = k by omega] at h3
theorem ck_61 : ∀ k, 61 ≤ k → k < 81 → chkK k = true := by
  have h : (List.range 20).all (fun i => chkK (61 + i)) = true := by decide +kernel
  intro k h1 h2
  have h3 := List.all_eq_true.mp h (k - 61) (List.mem_range.mpr (by omega))
  rwa [show 61 + (k - 61) = k by omega] at h3
theorem ck_81 : ∀ k, 81 ≤ k → k < 101 → chkK k = true := by
  have h : (List.range 20).all (fun i => chkK (81 + i)) = true := by decide +kernel
  intro k h1 h2
  have h3 := List.all_eq_true.mp h (k - 81) (List.mem_range.mpr (by omega))
  rwa [show 81 + (k - 81) = k by omega] at h3
theorem ck_101 : ∀ k, 101 ≤ k → k < 121 → chkK k = true := by
  have h : (List.range 20).all (fun i => chkK (101 + i)) = true := by decide +kernel
  intro k h1 h2
  have h3 := List.all_eq_true.mp h (k - 101) (List.mem_range.mpr (by omega))
  rwa [show 101 + (k - 101) = k by omega] at h3
theorem ck_121 : ∀ k, 121 ≤ k → k < 141 → chkK k = true := by
  have h : (List.range 20).all (fun i => chkK (121 + i)) = true := by decide +kernel
  intro k h1 h2
  have h3 := List.all_eq_true.mp h (k - 121) (List.mem_range.mpr (by omega))
  rwa [show 121 + (k - 121) = k by omega] at h3
theorem ck_141 : ∀ k, 141 ≤ k → k < 161 → chkK k = true := by
  have h : (List.range 20).all (fun i => chkK (141 + i)) = true := by decide +kernel
  intro k h1 h2
  have h3 := List.all_eq_true.mp h (k - 141) (List.mem_range.mpr (by omega))
  rwa [show 141 + (k - 141) = k by omega] at h3
theorem ck_161 : ∀ k, 161 ≤ k → k < 181 → chkK k = true := by
  have h : (List.range 20).all (fun i => chkK (161 + i)) = true := by decide +kernel
  intro k h1 h2
  have h3 := List.all_eq_true.mp h (k - 161) (List.mem_range.mpr (by omega))
  rwa [show 161 + (k - 161) = k by omega] at h3
theorem ck_181 : ∀ k, 181 ≤ k → k < 201 → chkK k = true := by
  have h : (List.range 20).all (fun i => chkK (181 + i)) = true := by decide +kernel
  intro k h1 h2
  have h3 := List.all_eq_true.mp h (k - 181) (List.mem_range.mpr (by omega))
  rwa [show 181 + (k - 181) = k by omega] at h3
theorem ck_201 : ∀ k, 201 ≤ k → k < 221 → chkK k = true := by
  have h : (List.range 20).all (fun i => chkK (201 + i)) = true := by decide +kernel
  intro k h1 h2
  have h3 := List.all_eq_true.mp h (k - 201) (List.mem_range.mpr (by omega))
  rwa [show 201 + (k - 201) = k by omega] at h3
theorem ck_221 : ∀ k, 221 ≤ k → k < 241 → chkK k = true := by
  have h : (List.range 20).all (fun i => chkK (221 + i)) = true := by decide +kernel
  intro k h1 h2
  have h3 := List.all_eq_true.mp h (k - 221) (List.mem_range.mpr (by omega))
  rwa [show 221 + (k - 221) = k by omega] at h3
theorem ck_241 : ∀ k, 241 ≤ k → k < 261 → chkK k = true := by
  have h : (List.range 20).all (fun i => chkK (241 + i)) = true := by decide +kernel
  intro k h1 h2
  have h3 := List.all_eq_true.mp h (k - 241) (List.mem_range.mpr (by omega))
  rwa [show 241 + (k - 241) = k by omega] at h3
theorem ck_261 : ∀ k, 261 ≤ k → k < 281 → chkK k = true := by
  have h : (List.range 20).all (fun i => chkK (261 + i)) = true := by decide +kernel
  intro k h1 h2
  have h3 := List.all_eq_true.mp h (k - 261) (List.mem_range.mpr (by omega))
  rwa [show 261 + (k - 261) = k by omega] at h3
theorem ck_281 : ∀ k, 281 ≤ k → k < 301 → chkK k = true := by
  have h : (List.range 20).all (fun i => chkK (281 + i)) = true := by decide +kernel
  intro k h1 h2
  have h3 := List.all_eq_true.mp h (k - 281) (List.mem_range.mpr (by omega))
  rwa [show 281 + (k - 281) = k by omega] at h3
theorem ck_301 : ∀ k, 301 ≤ k → k < 316 → chkK k = true := by
  have h : (List.range 15).all (fun i => chkK (301 + i)) = true := by decide +kernel
  intro k h1 h2
  have h3 := List.all_eq_true.mp h (k - 301) (List.mem_range.mpr (by omega))
  rwa [show 301 + (k - 301) = k by omega] at h3
theorem ck_all (k : Nat) : chkK k = true := by
  rcases Nat.eq_zero_or_pos k with h | h
  · subst h; exact ck_0
  rcases Nat.lt_or_ge k 21 with q | q
  · exact ck_1 k (by omega) q
  rcases Nat.lt_or_ge k 41 with q | q
  · exact ck_21 k (by omega) q
  rcases Nat.lt_or_ge k 61 with q | q
  · exact ck_41 k (by omega) q
  rcases Nat.lt_or_ge k 81 with q | q
  · exact ck_61 k (by omega) q
  rcases Nat.lt_or_ge k 101 with q | q
  · exact ck_81 k (by omega) q
  rcases Nat.lt_or_ge k 121 with q | q
  · exact ck_101 k (by omega) q
  rcases Nat.lt_or_ge k 141 with q | q
  · exact ck_121 k (by omega) q
  rcases Nat.lt_or_ge k 161 with q | q
  · exact ck_141 k (by omega) q
  rcases Nat.lt_or_ge k 181 with q | q
  · exact ck_161 k (by omega) q
  rcases Nat.lt_or_ge k 201 with q | q
  · exact ck_181 k (by omega) q
  rcases Nat.lt_or_ge k 221 with q | q
  · exact ck_201 k (by omega) q
  rcases Nat.lt_or_ge k 241 with q | q
  · exact ck_221 k (by omega) q
  rcases Nat.lt_or_ge k 261 with q | q
  · exact ck_241 k (by omega) q
  rcases Nat.lt_or_ge k 281 with q | q
  · exact ck_261 k (by omega) q
  rcases Nat.lt_or_ge k 301 with q | q
  · exact ck_281 k (by omega) q
  rcases Nat.lt_or_ge k 316 with q | q
  · exact ck_301 k (by omega) q
  have e : PT[k]? = none := List.getElem?_eq_none (by rw [show PT.length = 316 by decide +kernel]; exact q)
  simp [chkK, mOp, e]
theorem opl_mem : ∀ (L : List (Nat × List Nat)) (pc : Nat), opl L pc ≠ [] → (pc, opl L pc) ∈ L
  | [], _, h => absurd rfl h
  | (p, o) :: r, pc, h => by
    unfold opl at h ⊢
    by_cases e : p = pc
    · rw [if_pos e]; subst e; exact List.mem_cons_self
    · rw [if_neg e] at h ⊢; exact List.mem_cons_of_mem _ (opl_mem r pc h)
theorem acode_spec {k pc : Nat} {i : Instr} {ops : List Nat} (h : acode k pc = some (i, ops)) : ∃ len, decode (mCd k) pc = .ok (i, len) ∧ lenOk i len = true ∧ ops = opl (mOp k) pc := by
  unfold acode at h
  unfold mCd mOp
  cases hp : PT[k]? with
  | none => simp [hp] at h
  | some mi =>
    simp only [hp] at h ⊢
    split at h
    · rename_i i' len hd
      split at h
      · rename_i hl
        cases h
        exact ⟨len, hd, hl, rfl⟩
      · cases h
    · cases h
theorem acode_chk {k pc : Nat} {i : Instr} {ops : List Nat} (h : acode k pc = some (i, ops)) (hn : ops ≠ []) : chkI (mNm k).cls (decide ((mNm k).name = "<init>")) i ops = true := by
  obtain ⟨len, hd, -, ho⟩ := acode_spec h
  have h1 : (pc, opl (mOp k) pc) ∈ mOp k := opl_mem _ _ (by rw [← ho]; exact hn)
  have h2 := List.all_eq_true.mp (ck_all k) _ h1
  simp only [chkE, hd] at h2
  rw [ho]
  exact h2
def clW : List (List Nat) := [[138, 107, 147], [334, 114, 345, 347, 349, 351, 353, 355], [394, 116, 409, 411, 413, 415, 417, 419, 421, 423], [427, 117, 436, 438, 440, 442], [230, 111, 244, 246, 248, 250, 252, 254, 256, 258, 260], [446, 118, 457, 459, 461, 463], [152, 109, 212, 214, 216, 218, 220, 222, 224, 226], [359, 115, 376, 378, 380, 382, 384, 386, 388, 390], [264, 112, 292, 294, 296, 298], [158, 110, 167, 169, 171], [302, 113, 318, 320, 322, 324, 326, 328, 330], [130, 106, 482, 484, 486, 488, 490, 492, 494, 496, 498, 500, 502, 504, 506, 508, 510, 512], [1410, 119, 1455, 1457, 1459, 1461, 1463, 1465, 1467, 1469, 1471, 1473, 1475, 1477, 1479, 1481, 1483, 1485, 1487, 1489, 1491, 1493, 1495, 1497, 1499, 1501, 1503, 1505, 1507, 1509, 1511, 1513, 1515, 1517, 1519, 1521, 1523, 1525, 1527, 1529, 1531, 1533]]
/-- the classes: fields, types, words -/
def clOK (ci : Nat) : Bool := match vwCl[ci]? with
  | some (C, T, N) => decide (0 < N) && ((List.range N).all (fun k => inT ((clW.getD ci []).getD (k + 2) 0) (u_lay C T k))) && inT ((clW.getD ci []).getD 0 0) (Cond.instantiable C N) && inT ((clW.getD ci []).getD 1 0) (Cond.initialized C) && (List.range N).all (fun k => decide (parseFieldDescriptor (T k).2.2.1 = some (fty ci k))) && (List.range N).all (fun a => (List.range N).all (fun b => decide (a = b) || decide ((T a).2.1 ≠ (T b).2.1))) && decide ((ftyT.getD ci []).length = N)
  | none => false
theorem cl_all : (List.range 13).all clOK = true := by decide +kernel
