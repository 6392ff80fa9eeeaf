theorem pf1 : plainFor ⟨"java/lang/Math", "floorMod", "(II)I"⟩ = true := by decide +kernel
theorem pf2 : plainFor ⟨"java/lang/Math", "min", "(II)I"⟩ = true := by decide +kernel
def pM : List (Nat × Nat × Nat × Nat) := [(27, 1, 26, 0), (1278, 13, 1277, 0), (463, 1, 461, 462), (2017, 13, 2015, 2016), (475, 1, 473, 474), (2021, 13, 2019, 2020), (479, 1, 477, 478), (1490, 13, 1488, 1489), (704, 1, 702, 703), (1628, 13, 1626, 1627), (708, 1, 706, 707), (1632, 13, 1630, 1631), (753, 1, 751, 752), (1670, 13, 1668, 1669), (818, 1, 816, 817), (1744, 13, 1742, 1743), (834, 1, 832, 833), (1752, 13, 1750, 1751), (845, 1, 843, 844), (1764, 13, 1762, 1763), (849, 1, 847, 848), (1768, 13, 1766, 1767), (866, 1, 864, 865), (1780, 13, 1778, 1779), (871, 1, 869, 870), (1788, 13, 1786, 1787), (879, 1, 877, 878), (1796, 13, 1794, 1795), (887, 1, 885, 886), (1800, 13, 1798, 1799), (895, 1, 893, 894), (1804, 13, 1802, 1803), (903, 1, 901, 902), (1732, 13, 1730, 1731), (912, 1, 910, 911), (1808, 13, 1806, 1807), (927, 1, 925, 926), (1823, 13, 1821, 1822), (935, 1, 933, 934), (1891, 13, 1889, 1890), (969, 1, 967, 968), (1906, 13, 1904, 1905), (1003, 1, 1001, 1002), (1839, 13, 1837, 1838), (1011, 1, 1009, 1010), (1855, 13, 1853, 1854), (1020, 1, 1018, 1019), (1875, 13, 1873, 1874), (1028, 1, 1026, 1027), (1920, 13, 1918, 1919), (1055, 1, 1053, 1054), (1940, 13, 1938, 1939), (1063, 1, 1061, 1062), (1831, 13, 1829, 1830), (1073, 1, 1071, 1072), (1944, 13, 1942, 1943), (1099, 1, 1097, 1098), (1843, 13, 1841, 1842), (1111, 1, 1109, 1110), (1956, 13, 1954, 1955), (1128, 1, 1126, 1127), (1736, 13, 1734, 1735), (1136, 1, 1134, 1135), (1740, 13, 1738, 1739), (1144, 1, 1142, 1143), (1871, 13, 1869, 1870), (1154, 1, 1152, 1153), (1851, 13, 1849, 1850), (1162, 1, 1160, 1161), (1879, 13, 1877, 1878), (1171, 1, 1169, 1170), (1887, 13, 1885, 1886), (1179, 1, 1177, 1178), (1968, 13, 1966, 1967), (1187, 1, 1185, 1186), (1972, 13, 1970, 1971), (1195, 1, 1193, 1194), (1976, 13, 1974, 1975), (1200, 1, 1198, 1199), (1981, 13, 1979, 1980), (1225, 1, 1223, 1224), (1993, 13, 1991, 1992), (1239, 1, 1237, 1238), (1997, 13, 1995, 1996), (1248, 1, 1246, 1247), (2001, 13, 1999, 2000), (1257, 1, 1255, 1256), (2005, 13, 2003, 2004), (1261, 1, 1259, 1260), (2009, 13, 2007, 2008), (684, 7, 683, 10019), (691, 6, 689, 690), (198, 6, 197, 0), (687, 20, 686, 0), (716, 3, 714, 715), (787, 20, 786, 0), (776, 8, 774, 775), (1265, 9, 1263, 1264), (1269, 7, 1267, 1268), (1273, 7, 1271, 1272), (1243, 12, 1241, 1242), (1252, 1, 1251, 10034), (1007, 9, 1005, 1006), (669, 3, 667, 668), (1158, 9, 1156, 1157), (830, 7, 828, 829), (899, 9, 897, 898), (467, 2, 465, 466), (471, 2, 469, 470), (1204, 12, 1202, 1203), (1218, 22, 1217, 0), (483, 5, 481, 482), (646, 3, 644, 645), (658, 6, 656, 657), (680, 7, 678, 679), (696, 12, 694, 695), (700, 11, 698, 699), (35, 2, 34, 0), (69, 3, 68, 0), (161, 5, 160, 0), (225, 7, 224, 0), (247, 8, 246, 0), (284, 9, 283, 0), (300, 10, 299, 0), (325, 11, 324, 0), (381, 12, 380, 0), (853, 9, 851, 852), (931, 9, 929, 930), (1024, 9, 1022, 1023), (1175, 11, 1173, 1174), (1166, 9, 1164, 1165), (1148, 9, 1146, 1147), (1059, 10, 1057, 1058), (712, 3, 710, 711), (916, 9, 914, 915), (1032, 10, 1030, 1031), (907, 9, 905, 906), (939, 11, 937, 938), (973, 10, 971, 972), (1077, 11, 1075, 1076), (883, 7, 881, 882), (1140, 9, 1138, 1139), (1067, 9, 1065, 1066), (1115, 11, 1113, 1114), (745, 6, 743, 744), (740, 9, 738, 739), (1183, 12, 1181, 1182), (1103, 9, 1101, 1102), (1229, 12, 1227, 1228), (875, 7, 873, 874), (1191, 12, 1189, 1190), (731, 9, 729, 730), (1132, 9, 1130, 1131), (891, 9, 889, 890), (1640, 13, 1639, 10064), (2013, 13, 2012, 10112), (1643, 13, 1642, 0), (1985, 13, 1984, 10110), (1658, 13, 1657, 10067), (1662, 13, 1661, 10068), (1748, 13, 1747, 10083), (1784, 13, 1783, 10088), (1498, 13, 1497, 10038), (1283, 13, 1282, 10035), (1494, 13, 1493, 10037), (1532, 13, 1531, 10039), (1287, 13, 1286, 10036), (1772, 13, 1771, 10086), (1636, 13, 1635, 10063), (1989, 13, 1988, 10111), (1924, 13, 1923, 10102), (1894, 13, 1893, 0), (1898, 13, 1897, 10099), (1902, 13, 1901, 10100), (1863, 13, 1862, 10096), (1960, 13, 1959, 10108), (1964, 13, 1963, 10109), (1867, 13, 1866, 10097), (1756, 13, 1755, 10084), (1654, 13, 1653, 10066), (763, 3, 761, 762), (736, 9, 734, 735), (812, 9, 810, 811), (1036, 10, 1035, 10026), (661, 19, 660, 0), (944, 11, 943, 10020), (952, 11, 951, 10021), (1119, 11, 1118, 10030), (1124, 11, 1123, 10031), (956, 11, 955, 10022), (960, 11, 959, 10023), (964, 11, 963, 10024), (719, 3, 718, 0), (491, 4, 489, 490), (653, 4, 651, 652), (75, 4, 74, 0), (676, 6, 675, 0), (665, 3, 663, 664), (673, 6, 671, 672), (987, 8, 985, 986), (807, 8, 805, 806), (802, 8, 800, 801), (1208, 12, 1207, 10032), (1215, 12, 1214, 10033), (487, 3, 485, 486), (495, 2, 493, 494), (503, 2, 502, 10000), (499, 2, 497, 498)]
noncomputable def chM (mi : Nat) : Bool := match rget tM mi with
  | some M => (match rget pM mi with
    | some q => decide ((yT mi).cls = oN (mOwn M)) && ((plainName (yT mi).cls || decide (yT mi = ⟨"java/lang/Math", "floorMod", "(II)I"⟩) || decide (yT mi = ⟨"java/lang/Math", "min", "(II)I"⟩)) && ((Nat.blt (mOwn M) 100 && ((!(mIni M) || decide ((yT mi).name = "<init>")) && (decide ((yT mi).cls ≠ "java/lang/invoke/MethodHandle") && (decide ((yT mi).cls ≠ "java/lang/invoke/VarHandle") && tw q.2.1 (.initialized (yT mi).cls)))))))
    | none => false)
  | none => false
set_option maxRecDepth 1000000 in
theorem aM : (List.range 208).all chM = true := by decide +kernel
theorem tM_len : tM.length = 208 := by decide +kernel
theorem tY_len : tY.length = 208 := by decide +kernel
noncomputable def chA (e : ((Nat × Nat) × (Nat × Nat × Nat × Nat)) × Nat) : Bool := match rget pM e.1.2.2.1 with
  | some q => bif Nat.beq e.1.2.1 4 then true else bif Nat.beq e.1.2.1 5 then true else decide ((parseMethodDescriptor (yT e.1.2.2.1).desc).map (fun d => d.parameters.length) = some e.1.2.2.2.1) && (bif Nat.beq e.1.2.1 0 then (tw e.2 (.methodLink (oN e.1.1.1) e.1.1.2 (yT e.1.2.2.1)) && (tw q.2.2.1 (.instanceMethod (yT e.1.2.2.1)) && (twp q.2.2.2 (.selects (yT e.1.2.2.1).cls (yT e.1.2.2.1) (yT e.1.2.2.1)) && (Nat.blt e.1.2.2.2.2 13 && (match vwCl[e.1.2.2.2.2]? with
      | some r => decide (r.1 = (yT e.1.2.2.1).cls)
      | none => false))))) else bif Nat.beq e.1.2.1 1 then (tw e.2 (.methodLink (oN e.1.1.1) e.1.1.2 (yT e.1.2.2.1)) && tw q.2.2.1 (.static (yT e.1.2.2.1))) else (decide ((yT e.1.2.2.1).name = "<init>") && (tw q.2.2.1 (.instanceMethod (yT e.1.2.2.1)) && ((match rget tM e.1.2.2.1 with
      | some M => no_rt (mRet M)
      | none => false) && (decide ((oN e.1.1.1, e.1.1.2, yT e.1.2.2.1) ∈ nws) || tw e.2 (.methodLink (oN e.1.1.1) e.1.1.2 (yT e.1.2.2.1)))))))
  | none => false
set_option maxRecDepth 1000000 in
theorem aA : (tA.zip pA).all chA = true := by decide +kernel
theorem okA : OKA := by
  intro own i k mi np rc hm h4 h5
  obtain ⟨p, h⟩ := mem_zip (by decide +kernel) aA hm
  unfold chA at h
  dsimp only at h
  split at h
  · next q hq =>
    have b4 : Nat.beq k 4 = false := by
      cases hb : Nat.beq k 4 with
      | true => exact absurd (Nat.eq_of_beq_eq_true hb) h4
      | false => rfl
    have b5 : Nat.beq k 5 = false := by
      cases hb : Nat.beq k 5 with
      | true => exact absurd (Nat.eq_of_beq_eq_true hb) h5
      | false => rfl
    rw [b4, cond_false, b5, cond_false, Bool.and_eq_true, decide_eq_true_eq] at h
    refine ⟨h.1, ?_⟩
    have h2 := h.2
    cases b0 : Nat.beq k 0 with
    | true =>
      have e0 := Nat.eq_of_beq_eq_true b0
      subst e0
      rw [show Nat.beq 0 0 = true from rfl, cond_true, Bool.and_eq_true, Bool.and_eq_true, Bool.and_eq_true, Bool.and_eq_true] at h2
      obtain ⟨g1, g2, g3, g4, g5⟩ := h2
      refine ⟨fun _ => ⟨tw_ok g1, tw_ok g2, twp_ok g3, Nat.le_of_ble_eq_true g4, ?_⟩, ⟨fun e => (by cases e), fun e => absurd rfl e⟩⟩
      split at g5
      · next r hr => exact ⟨r.2.1, r.2.2, by rw [hr, ← of_decide_eq_true g5]⟩
      · cases g5
    | false =>
      rw [b0, cond_false] at h2
      have n0 : k ≠ 0 := fun e => by rw [e] at b0; cases b0
      cases b1 : Nat.beq k 1 with
      | true =>
        rw [b1, cond_true, Bool.and_eq_true] at h2
        exact ⟨fun e => absurd e n0, ⟨fun _ => ⟨tw_ok h2.1, tw_ok h2.2⟩, fun _ e => absurd (Nat.eq_of_beq_eq_true b1) e⟩⟩
      | false =>
        rw [b1, cond_false, Bool.and_eq_true, Bool.and_eq_true, Bool.and_eq_true, Bool.or_eq_true] at h2
        obtain ⟨g1, g2, g3, g4⟩ := h2
        have n1 : k ≠ 1 := fun e => by rw [e] at b1; cases b1
        refine ⟨fun e => absurd e n0, fun e => absurd e n1, fun _ _ => ⟨of_decide_eq_true g1, tw_ok g2, fun M hM => ?_, ?_⟩⟩
        · have hM' : rget tM mi = some M := hM
          rw [hM'] at g3
          dsimp only at g3
          unfold no_rt at g3
          split at g3
          · next hn => exact hn
          · cases g3
        · rcases g4 with g | g
          · exact Or.inr (of_decide_eq_true g)
          · exact Or.inl (tw_ok g)
  · cases h
