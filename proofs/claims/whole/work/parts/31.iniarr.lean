/-! the model's constructor: its first array, filled element by element -/
def ldC (cc : ByteArray) (pc : Nat) : Option (Int32 × Nat) := match decode cc pc with
  | .ok (.iconst n, 1) => some (Int32.ofInt n, pc + 1)
  | .ok (.bipush n, 2) => some ((Int8.ofInt n).toInt32, pc + 2)
  | .ok (.sipush n, 3) => some ((Int16.ofInt n).toInt32, pc + 3)
  | _ => none
def iniOK (cc : ByteArray) : List (Int32 × Nat × Nat) → Nat → Nat → Bool
  | [], _, _ => true
  | v :: l, k, pc => decide (decode cc pc = .ok (.dup, 1)) && (decide (ldC cc (pc + 1) = some (nI k, v.2.1)) && (decide (ldC cc v.2.1 = some (v.1, v.2.2)) && (decide (decode cc v.2.2 = .ok (.iastore, 1)) && iniOK cc l (k + 1) (v.2.2 + 1))))
def endI : List (Int32 × Nat × Nat) → Nat → Nat
  | [], pc => pc
  | v :: l, _ => endI l (v.2.2 + 1)
def iniL_0 : List (Int32 × Nat × Nat) := [(3010, 12, 15), (1000, 18, 21), (1100, 24, 27), (1, 30, 31), (1003, 34, 37), (3011, 40, 43)]
theorem iniL_0_ok : iniOK cX5_init iniL_0 0 10 = true := by decide +kernel
def iniL_1 : List (Int32 × Nat × Nat) := [(1000, 47, 50), (1101, 54, 57), (3, 61, 62), (1005, 66, 69), (1000, 73, 76), (1, 80, 81)]
theorem iniL_1_ok : iniOK cX5_init iniL_1 6 44 = true := by decide +kernel
def iniL_2 : List (Int32 × Nat × Nat) := [(1003, 85, 88), (1100, 92, 95), (1004, 99, 102), (3020, 106, 109), (1000, 113, 116), (1103, 120, 123)]
theorem iniL_2_ok : iniOK cX5_init iniL_2 12 82 = true := by decide +kernel
def iniL_3 : List (Int32 × Nat × Nat) := [(1000, 127, 130), (1, 134, 135), (1003, 139, 142), (1103, 146, 149), (1003, 153, 156), (3021, 160, 163)]
theorem iniL_3_ok : iniOK cX5_init iniL_3 18 124 = true := by decide +kernel
def iniL_4 : List (Int32 × Nat × Nat) := [(1000, 167, 170), (1104, 174, 177), (85, 181, 183), (1006, 187, 190), (3030, 194, 197), (1000, 201, 204)]
theorem iniL_4_ok : iniOK cX5_init iniL_4 24 164 = true := by decide +kernel
def iniL_5 : List (Int32 × Nat × Nat) := [(1314, 208, 211), (1000, 215, 218), (1, 222, 223), (1003, 227, 230), (1326, 234, 237), (1003, 241, 244)]
theorem iniL_5_ok : iniOK cX5_init iniL_5 30 205 = true := by decide +kernel
def iniL_6 : List (Int32 × Nat × Nat) := [(3040, 248, 251), (1000, 255, 258), (1105, 262, 265), (1000, 269, 272), (1003, 276, 279), (3041, 283, 286)]
theorem iniL_6_ok : iniOK cX5_init iniL_6 36 245 = true := by decide +kernel
def iniL_7 : List (Int32 × Nat × Nat) := [(1000, 290, 293), (1106, 297, 300), (2, 304, 305), (1005, 309, 312), (1, 316, 317), (1106, 321, 324)]
theorem iniL_7_ok : iniOK cX5_init iniL_7 42 287 = true := by decide +kernel
def iniL_8 : List (Int32 × Nat × Nat) := [(1003, 328, 331), (3050, 335, 338), (1000, 342, 345), (1355, 349, 352), (1000, 356, 359), (1108, 363, 366)]
theorem iniL_8_ok : iniOK cX5_init iniL_8 48 325 = true := by decide +kernel
def iniL_9 : List (Int32 × Nat × Nat) := [(1004, 370, 373), (3051, 377, 380), (1000, 384, 387), (2052, 391, 394), (2, 398, 399), (1105, 403, 406)]
theorem iniL_9_ok : iniOK cX5_init iniL_9 54 367 = true := by decide +kernel
def iniL_10 : List (Int32 × Nat × Nat) := [(1003, 410, 413), (3052, 417, 420), (1000, 424, 427), (1105, 431, 434), (5, 438, 439), (1005, 443, 446)]
theorem iniL_10_ok : iniOK cX5_init iniL_10 60 407 = true := by decide +kernel
def iniL_11 : List (Int32 × Nat × Nat) := [(3060, 450, 453), (1001, 457, 460), (1000, 464, 467), (1003, 471, 474), (1008, 478, 481), (1001, 485, 488)]
theorem iniL_11_ok : iniOK cX5_init iniL_11 66 447 = true := by decide +kernel
def iniL_12 : List (Int32 × Nat × Nat) := [(3061, 492, 495), (1001, 499, 502), (3, 506, 507), (1000, 511, 514), (1005, 518, 521), (1004, 525, 528)]
theorem iniL_12_ok : iniOK cX5_init iniL_12 72 489 = true := by decide +kernel
def iniL_13 : List (Int32 × Nat × Nat) := [(1008, 532, 535), (1001, 539, 542), (3062, 546, 549), (1001, 553, 556), (31, 560, 562), (1005, 566, 569)]
theorem iniL_13_ok : iniOK cX5_init iniL_13 78 529 = true := by decide +kernel
def iniL_14 : List (Int32 × Nat × Nat) := [(1000, 573, 576), (1003, 580, 583), (1008, 587, 590), (1001, 594, 597), (3063, 601, 604), (1001, 608, 611)]
theorem iniL_14_ok : iniOK cX5_init iniL_14 84 570 = true := by decide +kernel
def iniL_15 : List (Int32 × Nat × Nat) := [(1000, 615, 618), (1006, 622, 625), (3064, 629, 632), (1000, 636, 639), (1109, 643, 646), (1, 650, 651)]
theorem iniL_15_ok : iniOK cX5_init iniL_15 90 612 = true := by decide +kernel
def iniL_16 : List (Int32 × Nat × Nat) := [(1110, 655, 658), (1003, 662, 665), (1000, 669, 672), (2063, 676, 679), (1003, 683, 686), (3070, 690, 693)]
theorem iniL_16_ok : iniOK cX5_init iniL_16 96 652 = true := by decide +kernel
def iniL_17 : List (Int32 × Nat × Nat) := [(1002, 697, 700), (1, 704, 705), (1003, 709, 712), (1009, 716, 719), (1002, 723, 726), (7, 730, 732)]
theorem iniL_17_ok : iniOK cX5_init iniL_17 102 694 = true := by decide +kernel
def iniL_18 : List (Int32 × Nat × Nat) := [(1005, 736, 739), (1000, 743, 746), (1003, 750, 753), (3100, 757, 760), (1001, 764, 767), (1000, 771, 774)]
theorem iniL_18_ok : iniOK cX5_init iniL_18 108 733 = true := by decide +kernel
def iniL_19 : List (Int32 × Nat × Nat) := [(1003, 778, 781), (3101, 785, 788), (1000, 792, 795), (2, 799, 800), (1003, 804, 807), (1209, 811, 814)]
theorem iniL_19_ok : iniOK cX5_init iniL_19 114 775 = true := by decide +kernel
def iniL_20 : List (Int32 × Nat × Nat) := [(1, 818, 819), (1003, 823, 826), (3110, 830, 833), (1000, 837, 840), (1210, 844, 847), (2, 851, 852)]
theorem iniL_20_ok : iniOK cX5_init iniL_20 120 815 = true := by decide +kernel
def iniL_21 : List (Int32 × Nat × Nat) := [(1005, 856, 859), (1000, 863, 866), (2112, 871, 874), (1003, 879, 882), (3111, 887, 890), (1000, 895, 898)]
theorem iniL_21_ok : iniOK cX5_init iniL_21 126 853 = true := by decide +kernel
def iniL_22 : List (Int32 × Nat × Nat) := [(1328, 903, 906), (1, 911, 912), (1004, 917, 920), (3112, 925, 928), (1002, 933, 936), (1000, 941, 944)]
theorem iniL_22_ok : iniOK cX5_init iniL_22 132 899 = true := by decide +kernel
def iniL_23 : List (Int32 × Nat × Nat) := [(1004, 949, 952), (3120, 957, 960), (1000, 965, 968), (1105, 973, 976), (3, 981, 982), (1005, 987, 990)]
theorem iniL_23_ok : iniOK cX5_init iniL_23 138 945 = true := by decide +kernel
def iniL_24 : List (Int32 × Nat × Nat) := [(1001, 995, 998), (1003, 1003, 1006), (3130, 1011, 1014), (1000, 1019, 1022), (1200, 1027, 1030), (3, 1035, 1036)]
theorem iniL_24_ok : iniOK cX5_init iniL_24 144 991 = true := by decide +kernel
def iniL_25 : List (Int32 × Nat × Nat) := [(1005, 1041, 1044), (3131, 1049, 1052), (1000, 1057, 1060), (1, 1065, 1066), (1003, 1071, 1074), (1201, 1079, 1082)]
theorem iniL_25_ok : iniOK cX5_init iniL_25 150 1037 = true := by decide +kernel
def iniL_26 : List (Int32 × Nat × Nat) := [(5, 1087, 1088), (1003, 1093, 1096), (3140, 1101, 1104), (1001, 1109, 1112), (1000, 1117, 1120), (1004, 1125, 1128)]
theorem iniL_26_ok : iniOK cX5_init iniL_26 156 1083 = true := by decide +kernel
def iniL_27 : List (Int32 × Nat × Nat) := [(3141, 1133, 1136), (1000, 1141, 1144), (1202, 1149, 1152), (1, 1157, 1158), (1314, 1163, 1166), (1004, 1171, 1174)]
theorem iniL_27_ok : iniOK cX5_init iniL_27 162 1129 = true := by decide +kernel
def iniL_28 : List (Int32 × Nat × Nat) := [(3142, 1179, 1182), (1000, 1187, 1190), (1, 1195, 1196), (1003, 1201, 1204), (1210, 1209, 1212), (4, 1217, 1218)]
theorem iniL_28_ok : iniOK cX5_init iniL_28 168 1175 = true := by decide +kernel
def iniL_29 : List (Int32 × Nat × Nat) := [(1003, 1223, 1226), (3150, 1231, 1234), (1000, 1239, 1242), (1105, 1247, 1250), (1001, 1255, 1258), (1003, 1263, 1266)]
theorem iniL_29_ok : iniOK cX5_init iniL_29 174 1219 = true := by decide +kernel
def iniL_30 : List (Int32 × Nat × Nat) := [(3151, 1271, 1274), (1000, 1279, 1282), (1209, 1287, 1290), (0, 1295, 1296), (1102, 1301, 1304), (1006, 1309, 1312)]
theorem iniL_30_ok : iniOK cX5_init iniL_30 180 1267 = true := by decide +kernel
def iniL_31 : List (Int32 × Nat × Nat) := [(3152, 1317, 1320), (1000, 1325, 1328), (1340, 1333, 1336), (1, 1341, 1342), (1003, 1347, 1350), (3160, 1355, 1358)]
theorem iniL_31_ok : iniOK cX5_init iniL_31 186 1313 = true := by decide +kernel
def iniL_32 : List (Int32 × Nat × Nat) := [(1000, 1363, 1366), (3161, 1371, 1374), (1000, 1379, 1382), (1368, 1387, 1390), (255, 1395, 1398), (1007, 1403, 1406)]
theorem iniL_32_ok : iniOK cX5_init iniL_32 192 1359 = true := by decide +kernel
def iniL_33 : List (Int32 × Nat × Nat) := [(3162, 1411, 1414), (1000, 1419, 1422), (99, 1427, 1429), (1003, 1434, 1437), (3163, 1442, 1445), (1000, 1450, 1453)]
theorem iniL_33_ok : iniOK cX5_init iniL_33 198 1407 = true := by decide +kernel
def iniL_34 : List (Int32 × Nat × Nat) := [(2162, 1458, 1461), (1, 1466, 1467), (1209, 1472, 1475), (1003, 1480, 1483), (3180, 1488, 1491), (1000, 1496, 1499)]
theorem iniL_34_ok : iniOK cX5_init iniL_34 204 1454 = true := by decide +kernel
def iniL_35 : List (Int32 × Nat × Nat) := [(1209, 1504, 1507), (1, 1512, 1513), (1004, 1518, 1521), (3181, 1526, 1529), (1000, 1534, 1537), (1202, 1542, 1545)]
theorem iniL_35_ok : iniOK cX5_init iniL_35 210 1500 = true := by decide +kernel
def iniL_36 : List (Int32 × Nat × Nat) := [(2, 1550, 1551), (1101, 1556, 1559), (1003, 1564, 1567), (3190, 1572, 1575), (1000, 1580, 1583), (1110, 1588, 1591)]
theorem iniL_36_ok : iniOK cX5_init iniL_36 216 1546 = true := by decide +kernel
def iniL_37 : List (Int32 × Nat × Nat) := [(2, 1596, 1597), (1005, 1602, 1605), (3200, 1610, 1613), (1002, 1618, 1621), (1000, 1626, 1629), (1003, 1634, 1637)]
theorem iniL_37_ok : iniOK cX5_init iniL_37 222 1592 = true := by decide +kernel
def iniL_38 : List (Int32 × Nat × Nat) := [(3201, 1642, 1645), (1000, 1650, 1653), (1367, 1658, 1661), (1000, 1666, 1669), (2200, 1674, 1677), (1003, 1682, 1685)]
theorem iniL_38_ok : iniOK cX5_init iniL_38 228 1638 = true := by decide +kernel
def iniL_39 : List (Int32 × Nat × Nat) := [(3202, 1690, 1693), (1000, 1698, 1701), (1338, 1706, 1709), (1000, 1714, 1717), (1202, 1722, 1725), (1003, 1730, 1733)]
theorem iniL_39_ok : iniOK cX5_init iniL_39 234 1686 = true := by decide +kernel
def iniL_40 : List (Int32 × Nat × Nat) := [(3204, 1738, 1741), (1000, 1746, 1749), (1205, 1754, 1757), (1, 1762, 1763), (1003, 1768, 1771), (3000, 1776, 1779)]
theorem iniL_40_ok : iniOK cX5_init iniL_40 240 1734 = true := by decide +kernel
def codC (k : Nat) : Nat → Int32 := fun j => if j < k then codT j else 0
theorem codC_up (t : Nat) : upd (codC t) t (codT t) = codC (t + 1) := cut_up
theorem codC_all : codC 246 = codT := cut_all (by decide +kernel)
theorem codC_0 : (fun _ => 0) = codC 0 := by funext j; unfold codC; simp
section INI
variable {p : Program} {l : Launch} {e : Env} {R : Room} {s : State} {m : MethodId} {args : Array Value} {below : List Frame} {meth : Method} {c : Code} {cells slots : Nat} {Q : State → Prop}
variable {cc : ByteArray} {nL : Nat} {ls : Array Slot} {G : hG} {ad : Nat → Nat} {Ts : List Cond} {own : String}
theorem lv_ldC (hexec : p.tables.exec = Jvm.exec) (hb : c.code = cc) {pc : Nat} {H : Heap} {locs : List Loc} {rest : List Value} {v : Int32} {pc1 : Nat} (h : ldC cc pc = some (v, pc1)) (kk : W p l e R s m args below meth c H locs cells slots Q (F0 m pc1 ls (.int v :: rest))) : W p l e R s m args below meth c H locs cells slots Q (F0 m pc ls rest) := by
  unfold ldC at h
  split at h
  · rename_i n hd
    cases h
    exact lv_iconst hexec hb hd rfl kk
  · rename_i n hd
    cases h
    exact lv_bipush hexec hb hd rfl kk
  · rename_i n hd
    cases h
    exact lv_sipush hexec hb hd rfl kk
  · cases h
def IniW (p : Program) (l : Launch) (e : Env) (R : Room) (s : State) (m : MethodId) (args : Array Value) (below : List Frame) (meth : Method) (c : Code) (cells slots : Nat) (Q : State → Prop) (ls : Array Slot) (G : hG) (ad : Nat → Nat) (ct0 : Nat → Option va_E) (N k pc : Nat) : Prop :=
  ∀ (ct : Nat → Option va_E) (H : Heap) (locs : List Loc), hw G ad ct H → H.size = N → ct 10 = some (.inl (G.2.1.1, 246, .inl (codC k))) → (∀ j, j ≠ 10 → ct j = ct0 j) → va_S (hA G.2.2.2) s.heap H locs → W p l e R s m args below meth c H locs cells slots Q (F0 m pc ls [.ref (ad 10), .ref (ad 8)])
theorem ini_all (S : CallFix p m c cc nL s args Ts own) (hE : gE G s) {ct0 : Nat → Option va_E} {N : Nat} : ∀ (lst : List (Int32 × Nat × Nat)) (k pc : Nat), iniOK cc lst k pc = true → (∀ j, j < lst.length → k + j < 246 ∧ (lst.map (fun q => q.1)).getD j 0 = codT (k + j)) → IniW p l e R s m args below meth c cells slots Q ls G ad ct0 N (k + lst.length) (endI lst pc) → IniW p l e R s m args below meth c cells slots Q ls G ad ct0 N k pc
  | [], k, pc, _, _, h => h
  | v :: lst, k, pc, hok, hc, h => by
    rw [iniOK, Bool.and_eq_true, Bool.and_eq_true, Bool.and_eq_true, Bool.and_eq_true, decide_eq_true_eq, decide_eq_true_eq, decide_eq_true_eq, decide_eq_true_eq] at hok
    obtain ⟨d1, d2, d3, d4, hok⟩ := hok
    have h0 := hc 0 (Nat.succ_pos _)
    have hk : k < 246 := h0.1
    have hcod : v.1 = codT k := h0.2
    have ih := ini_all S hE (ct0 := ct0) (N := N) lst (k + 1) (v.2.2 + 1) hok (fun j hj => by
      have q := hc (j + 1) (Nat.succ_lt_succ hj)
      rw [show k + 1 + j = k + (j + 1) by omega]
      exact q) (by
      have e1 : k + 1 + lst.length = k + (v :: lst).length := by rw [List.length_cons]; omega
      rw [e1]; exact h)
    intro ct H locs hW hz h10 hag hS
    obtain ⟨hx, hb, hml, hown, hts⟩ := id S
    refine lv_dup hx hb d1 rfl ?_
    refine lv_ldC hx hb d2 ?_
    refine lv_ldC hx hb d3 ?_
    refine hr_iastk S hE hW hS h10 (j := k) rfl hk (by decide) d4 (fun H locs ct_1 hW hk_1 hg_1 hz1 hS => ?_)
    rw [hcod, codC_up] at hk_1
    exact ih ct_1 H locs hW (hz1.trans hz) hk_1 (fun j hj => (hg_1 j hj).trans (hag j hj)) hS
theorem ini_c0 (S : CallFix p m c cX5_init nL s args Ts own) (hE : gE G s) {ct0 : Nat → Option va_E} {N : Nat} (h : IniW p l e R s m args below meth c cells slots Q ls G ad ct0 N 6 44) : IniW p l e R s m args below meth c cells slots Q ls G ad ct0 N 0 10 :=
  ini_all S hE iniL_0 0 10 iniL_0_ok (by decide +kernel) h
theorem ini_c1 (S : CallFix p m c cX5_init nL s args Ts own) (hE : gE G s) {ct0 : Nat → Option va_E} {N : Nat} (h : IniW p l e R s m args below meth c cells slots Q ls G ad ct0 N 12 82) : IniW p l e R s m args below meth c cells slots Q ls G ad ct0 N 6 44 :=
  ini_all S hE iniL_1 6 44 iniL_1_ok (by decide +kernel) h
theorem ini_c2 (S : CallFix p m c cX5_init nL s args Ts own) (hE : gE G s) {ct0 : Nat → Option va_E} {N : Nat} (h : IniW p l e R s m args below meth c cells slots Q ls G ad ct0 N 18 124) : IniW p l e R s m args below meth c cells slots Q ls G ad ct0 N 12 82 :=
  ini_all S hE iniL_2 12 82 iniL_2_ok (by decide +kernel) h
theorem ini_c3 (S : CallFix p m c cX5_init nL s args Ts own) (hE : gE G s) {ct0 : Nat → Option va_E} {N : Nat} (h : IniW p l e R s m args below meth c cells slots Q ls G ad ct0 N 24 164) : IniW p l e R s m args below meth c cells slots Q ls G ad ct0 N 18 124 :=
  ini_all S hE iniL_3 18 124 iniL_3_ok (by decide +kernel) h
theorem ini_c4 (S : CallFix p m c cX5_init nL s args Ts own) (hE : gE G s) {ct0 : Nat → Option va_E} {N : Nat} (h : IniW p l e R s m args below meth c cells slots Q ls G ad ct0 N 30 205) : IniW p l e R s m args below meth c cells slots Q ls G ad ct0 N 24 164 :=
  ini_all S hE iniL_4 24 164 iniL_4_ok (by decide +kernel) h
theorem ini_c5 (S : CallFix p m c cX5_init nL s args Ts own) (hE : gE G s) {ct0 : Nat → Option va_E} {N : Nat} (h : IniW p l e R s m args below meth c cells slots Q ls G ad ct0 N 36 245) : IniW p l e R s m args below meth c cells slots Q ls G ad ct0 N 30 205 :=
  ini_all S hE iniL_5 30 205 iniL_5_ok (by decide +kernel) h
theorem ini_c6 (S : CallFix p m c cX5_init nL s args Ts own) (hE : gE G s) {ct0 : Nat → Option va_E} {N : Nat} (h : IniW p l e R s m args below meth c cells slots Q ls G ad ct0 N 42 287) : IniW p l e R s m args below meth c cells slots Q ls G ad ct0 N 36 245 :=
  ini_all S hE iniL_6 36 245 iniL_6_ok (by decide +kernel) h
theorem ini_c7 (S : CallFix p m c cX5_init nL s args Ts own) (hE : gE G s) {ct0 : Nat → Option va_E} {N : Nat} (h : IniW p l e R s m args below meth c cells slots Q ls G ad ct0 N 48 325) : IniW p l e R s m args below meth c cells slots Q ls G ad ct0 N 42 287 :=
  ini_all S hE iniL_7 42 287 iniL_7_ok (by decide +kernel) h
theorem ini_c8 (S : CallFix p m c cX5_init nL s args Ts own) (hE : gE G s) {ct0 : Nat → Option va_E} {N : Nat} (h : IniW p l e R s m args below meth c cells slots Q ls G ad ct0 N 54 367) : IniW p l e R s m args below meth c cells slots Q ls G ad ct0 N 48 325 :=
  ini_all S hE iniL_8 48 325 iniL_8_ok (by decide +kernel) h
theorem ini_c9 (S : CallFix p m c cX5_init nL s args Ts own) (hE : gE G s) {ct0 : Nat → Option va_E} {N : Nat} (h : IniW p l e R s m args below meth c cells slots Q ls G ad ct0 N 60 407) : IniW p l e R s m args below meth c cells slots Q ls G ad ct0 N 54 367 :=
  ini_all S hE iniL_9 54 367 iniL_9_ok (by decide +kernel) h
theorem ini_c10 (S : CallFix p m c cX5_init nL s args Ts own) (hE : gE G s) {ct0 : Nat → Option va_E} {N : Nat} (h : IniW p l e R s m args below meth c cells slots Q ls G ad ct0 N 66 447) : IniW p l e R s m args below meth c cells slots Q ls G ad ct0 N 60 407 :=
  ini_all S hE iniL_10 60 407 iniL_10_ok (by decide +kernel) h
theorem ini_c11 (S : CallFix p m c cX5_init nL s args Ts own) (hE : gE G s) {ct0 : Nat → Option va_E} {N : Nat} (h : IniW p l e R s m args below meth c cells slots Q ls G ad ct0 N 72 489) : IniW p l e R s m args below meth c cells slots Q ls G ad ct0 N 66 447 :=
  ini_all S hE iniL_11 66 447 iniL_11_ok (by decide +kernel) h
theorem ini_c12 (S : CallFix p m c cX5_init nL s args Ts own) (hE : gE G s) {ct0 : Nat → Option va_E} {N : Nat} (h : IniW p l e R s m args below meth c cells slots Q ls G ad ct0 N 78 529) : IniW p l e R s m args below meth c cells slots Q ls G ad ct0 N 72 489 :=
  ini_all S hE iniL_12 72 489 iniL_12_ok (by decide +kernel) h
theorem ini_c13 (S : CallFix p m c cX5_init nL s args Ts own) (hE : gE G s) {ct0 : Nat → Option va_E} {N : Nat} (h : IniW p l e R s m args below meth c cells slots Q ls G ad ct0 N 84 570) : IniW p l e R s m args below meth c cells slots Q ls G ad ct0 N 78 529 :=
  ini_all S hE iniL_13 78 529 iniL_13_ok (by decide +kernel) h
theorem ini_c14 (S : CallFix p m c cX5_init nL s args Ts own) (hE : gE G s) {ct0 : Nat → Option va_E} {N : Nat} (h : IniW p l e R s m args below meth c cells slots Q ls G ad ct0 N 90 612) : IniW p l e R s m args below meth c cells slots Q ls G ad ct0 N 84 570 :=
  ini_all S hE iniL_14 84 570 iniL_14_ok (by decide +kernel) h
theorem ini_c15 (S : CallFix p m c cX5_init nL s args Ts own) (hE : gE G s) {ct0 : Nat → Option va_E} {N : Nat} (h : IniW p l e R s m args below meth c cells slots Q ls G ad ct0 N 96 652) : IniW p l e R s m args below meth c cells slots Q ls G ad ct0 N 90 612 :=
  ini_all S hE iniL_15 90 612 iniL_15_ok (by decide +kernel) h
theorem ini_c16 (S : CallFix p m c cX5_init nL s args Ts own) (hE : gE G s) {ct0 : Nat → Option va_E} {N : Nat} (h : IniW p l e R s m args below meth c cells slots Q ls G ad ct0 N 102 694) : IniW p l e R s m args below meth c cells slots Q ls G ad ct0 N 96 652 :=
  ini_all S hE iniL_16 96 652 iniL_16_ok (by decide +kernel) h
theorem ini_c17 (S : CallFix p m c cX5_init nL s args Ts own) (hE : gE G s) {ct0 : Nat → Option va_E} {N : Nat} (h : IniW p l e R s m args below meth c cells slots Q ls G ad ct0 N 108 733) : IniW p l e R s m args below meth c cells slots Q ls G ad ct0 N 102 694 :=
  ini_all S hE iniL_17 102 694 iniL_17_ok (by decide +kernel) h
theorem ini_c18 (S : CallFix p m c cX5_init nL s args Ts own) (hE : gE G s) {ct0 : Nat → Option va_E} {N : Nat} (h : IniW p l e R s m args below meth c cells slots Q ls G ad ct0 N 114 775) : IniW p l e R s m args below meth c cells slots Q ls G ad ct0 N 108 733 :=
  ini_all S hE iniL_18 108 733 iniL_18_ok (by decide +kernel) h
theorem ini_c19 (S : CallFix p m c cX5_init nL s args Ts own) (hE : gE G s) {ct0 : Nat → Option va_E} {N : Nat} (h : IniW p l e R s m args below meth c cells slots Q ls G ad ct0 N 120 815) : IniW p l e R s m args below meth c cells slots Q ls G ad ct0 N 114 775 :=
  ini_all S hE iniL_19 114 775 iniL_19_ok (by decide +kernel) h
theorem ini_c20 (S : CallFix p m c cX5_init nL s args Ts own) (hE : gE G s) {ct0 : Nat → Option va_E} {N : Nat} (h : IniW p l e R s m args below meth c cells slots Q ls G ad ct0 N 126 853) : IniW p l e R s m args below meth c cells slots Q ls G ad ct0 N 120 815 :=
  ini_all S hE iniL_20 120 815 iniL_20_ok (by decide +kernel) h
theorem ini_c21 (S : CallFix p m c cX5_init nL s args Ts own) (hE : gE G s) {ct0 : Nat → Option va_E} {N : Nat} (h : IniW p l e R s m args below meth c cells slots Q ls G ad ct0 N 132 899) : IniW p l e R s m args below meth c cells slots Q ls G ad ct0 N 126 853 :=
  ini_all S hE iniL_21 126 853 iniL_21_ok (by decide +kernel) h
theorem ini_c22 (S : CallFix p m c cX5_init nL s args Ts own) (hE : gE G s) {ct0 : Nat → Option va_E} {N : Nat} (h : IniW p l e R s m args below meth c cells slots Q ls G ad ct0 N 138 945) : IniW p l e R s m args below meth c cells slots Q ls G ad ct0 N 132 899 :=
  ini_all S hE iniL_22 132 899 iniL_22_ok (by decide +kernel) h
theorem ini_c23 (S : CallFix p m c cX5_init nL s args Ts own) (hE : gE G s) {ct0 : Nat → Option va_E} {N : Nat} (h : IniW p l e R s m args below meth c cells slots Q ls G ad ct0 N 144 991) : IniW p l e R s m args below meth c cells slots Q ls G ad ct0 N 138 945 :=
  ini_all S hE iniL_23 138 945 iniL_23_ok (by decide +kernel) h
theorem ini_c24 (S : CallFix p m c cX5_init nL s args Ts own) (hE : gE G s) {ct0 : Nat → Option va_E} {N : Nat} (h : IniW p l e R s m args below meth c cells slots Q ls G ad ct0 N 150 1037) : IniW p l e R s m args below meth c cells slots Q ls G ad ct0 N 144 991 :=
  ini_all S hE iniL_24 144 991 iniL_24_ok (by decide +kernel) h
theorem ini_c25 (S : CallFix p m c cX5_init nL s args Ts own) (hE : gE G s) {ct0 : Nat → Option va_E} {N : Nat} (h : IniW p l e R s m args below meth c cells slots Q ls G ad ct0 N 156 1083) : IniW p l e R s m args below meth c cells slots Q ls G ad ct0 N 150 1037 :=
  ini_all S hE iniL_25 150 1037 iniL_25_ok (by decide +kernel) h
theorem ini_c26 (S : CallFix p m c cX5_init nL s args Ts own) (hE : gE G s) {ct0 : Nat → Option va_E} {N : Nat} (h : IniW p l e R s m args below meth c cells slots Q ls G ad ct0 N 162 1129) : IniW p l e R s m args below meth c cells slots Q ls G ad ct0 N 156 1083 :=
  ini_all S hE iniL_26 156 1083 iniL_26_ok (by decide +kernel) h
theorem ini_c27 (S : CallFix p m c cX5_init nL s args Ts own) (hE : gE G s) {ct0 : Nat → Option va_E} {N : Nat} (h : IniW p l e R s m args below meth c cells slots Q ls G ad ct0 N 168 1175) : IniW p l e R s m args below meth c cells slots Q ls G ad ct0 N 162 1129 :=
  ini_all S hE iniL_27 162 1129 iniL_27_ok (by decide +kernel) h
theorem ini_c28 (S : CallFix p m c cX5_init nL s args Ts own) (hE : gE G s) {ct0 : Nat → Option va_E} {N : Nat} (h : IniW p l e R s m args below meth c cells slots Q ls G ad ct0 N 174 1219) : IniW p l e R s m args below meth c cells slots Q ls G ad ct0 N 168 1175 :=
  ini_all S hE iniL_28 168 1175 iniL_28_ok (by decide +kernel) h
theorem ini_c29 (S : CallFix p m c cX5_init nL s args Ts own) (hE : gE G s) {ct0 : Nat → Option va_E} {N : Nat} (h : IniW p l e R s m args below meth c cells slots Q ls G ad ct0 N 180 1267) : IniW p l e R s m args below meth c cells slots Q ls G ad ct0 N 174 1219 :=
  ini_all S hE iniL_29 174 1219 iniL_29_ok (by decide +kernel) h
theorem ini_c30 (S : CallFix p m c cX5_init nL s args Ts own) (hE : gE G s) {ct0 : Nat → Option va_E} {N : Nat} (h : IniW p l e R s m args below meth c cells slots Q ls G ad ct0 N 186 1313) : IniW p l e R s m args below meth c cells slots Q ls G ad ct0 N 180 1267 :=
  ini_all S hE iniL_30 180 1267 iniL_30_ok (by decide +kernel) h
theorem ini_c31 (S : CallFix p m c cX5_init nL s args Ts own) (hE : gE G s) {ct0 : Nat → Option va_E} {N : Nat} (h : IniW p l e R s m args below meth c cells slots Q ls G ad ct0 N 192 1359) : IniW p l e R s m args below meth c cells slots Q ls G ad ct0 N 186 1313 :=
  ini_all S hE iniL_31 186 1313 iniL_31_ok (by decide +kernel) h
theorem ini_c32 (S : CallFix p m c cX5_init nL s args Ts own) (hE : gE G s) {ct0 : Nat → Option va_E} {N : Nat} (h : IniW p l e R s m args below meth c cells slots Q ls G ad ct0 N 198 1407) : IniW p l e R s m args below meth c cells slots Q ls G ad ct0 N 192 1359 :=
  ini_all S hE iniL_32 192 1359 iniL_32_ok (by decide +kernel) h
theorem ini_c33 (S : CallFix p m c cX5_init nL s args Ts own) (hE : gE G s) {ct0 : Nat → Option va_E} {N : Nat} (h : IniW p l e R s m args below meth c cells slots Q ls G ad ct0 N 204 1454) : IniW p l e R s m args below meth c cells slots Q ls G ad ct0 N 198 1407 :=
  ini_all S hE iniL_33 198 1407 iniL_33_ok (by decide +kernel) h
theorem ini_c34 (S : CallFix p m c cX5_init nL s args Ts own) (hE : gE G s) {ct0 : Nat → Option va_E} {N : Nat} (h : IniW p l e R s m args below meth c cells slots Q ls G ad ct0 N 210 1500) : IniW p l e R s m args below meth c cells slots Q ls G ad ct0 N 204 1454 :=
  ini_all S hE iniL_34 204 1454 iniL_34_ok (by decide +kernel) h
theorem ini_c35 (S : CallFix p m c cX5_init nL s args Ts own) (hE : gE G s) {ct0 : Nat → Option va_E} {N : Nat} (h : IniW p l e R s m args below meth c cells slots Q ls G ad ct0 N 216 1546) : IniW p l e R s m args below meth c cells slots Q ls G ad ct0 N 210 1500 :=
  ini_all S hE iniL_35 210 1500 iniL_35_ok (by decide +kernel) h
theorem ini_c36 (S : CallFix p m c cX5_init nL s args Ts own) (hE : gE G s) {ct0 : Nat → Option va_E} {N : Nat} (h : IniW p l e R s m args below meth c cells slots Q ls G ad ct0 N 222 1592) : IniW p l e R s m args below meth c cells slots Q ls G ad ct0 N 216 1546 :=
  ini_all S hE iniL_36 216 1546 iniL_36_ok (by decide +kernel) h
theorem ini_c37 (S : CallFix p m c cX5_init nL s args Ts own) (hE : gE G s) {ct0 : Nat → Option va_E} {N : Nat} (h : IniW p l e R s m args below meth c cells slots Q ls G ad ct0 N 228 1638) : IniW p l e R s m args below meth c cells slots Q ls G ad ct0 N 222 1592 :=
  ini_all S hE iniL_37 222 1592 iniL_37_ok (by decide +kernel) h
theorem ini_c38 (S : CallFix p m c cX5_init nL s args Ts own) (hE : gE G s) {ct0 : Nat → Option va_E} {N : Nat} (h : IniW p l e R s m args below meth c cells slots Q ls G ad ct0 N 234 1686) : IniW p l e R s m args below meth c cells slots Q ls G ad ct0 N 228 1638 :=
  ini_all S hE iniL_38 228 1638 iniL_38_ok (by decide +kernel) h
theorem ini_c39 (S : CallFix p m c cX5_init nL s args Ts own) (hE : gE G s) {ct0 : Nat → Option va_E} {N : Nat} (h : IniW p l e R s m args below meth c cells slots Q ls G ad ct0 N 240 1734) : IniW p l e R s m args below meth c cells slots Q ls G ad ct0 N 234 1686 :=
  ini_all S hE iniL_39 234 1686 iniL_39_ok (by decide +kernel) h
theorem ini_c40 (S : CallFix p m c cX5_init nL s args Ts own) (hE : gE G s) {ct0 : Nat → Option va_E} {N : Nat} (h : IniW p l e R s m args below meth c cells slots Q ls G ad ct0 N 246 1780) : IniW p l e R s m args below meth c cells slots Q ls G ad ct0 N 240 1734 :=
  ini_all S hE iniL_40 240 1734 iniL_40_ok (by decide +kernel) h
theorem ini_full (S : CallFix p m c cX5_init nL s args Ts own) (hE : gE G s) {ct0 : Nat → Option va_E} {N : Nat} (h : IniW p l e R s m args below meth c cells slots Q ls G ad ct0 N 246 1780) : IniW p l e R s m args below meth c cells slots Q ls G ad ct0 N 0 10 :=
  ini_c0 S hE (ini_c1 S hE (ini_c2 S hE (ini_c3 S hE (ini_c4 S hE (ini_c5 S hE (ini_c6 S hE (ini_c7 S hE (ini_c8 S hE (ini_c9 S hE (ini_c10 S hE (ini_c11 S hE (ini_c12 S hE (ini_c13 S hE (ini_c14 S hE (ini_c15 S hE (ini_c16 S hE (ini_c17 S hE (ini_c18 S hE (ini_c19 S hE (ini_c20 S hE (ini_c21 S hE (ini_c22 S hE (ini_c23 S hE (ini_c24 S hE (ini_c25 S hE (ini_c26 S hE (ini_c27 S hE (ini_c28 S hE (ini_c29 S hE (ini_c30 S hE (ini_c31 S hE (ini_c32 S hE (ini_c33 S hE (ini_c34 S hE (ini_c35 S hE (ini_c36 S hE (ini_c37 S hE (ini_c38 S hE (ini_c39 S hE (ini_c40 S hE h))))))))))))))))))))))))))))))))))))))))
end INI
