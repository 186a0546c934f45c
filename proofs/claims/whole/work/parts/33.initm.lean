set_option maxRecDepth 100000 in
set_option maxHeartbeats 8000000 in
theorem ini_B {p : Program} {l : Launch} {e : Env} {s : State} {m : MethodId} {args : Array Value} {below : List Frame} {meth : Method} {c : Code} {Q : State → Prop} {G : hG} {ad : Nat → Nat} {ct0 : Nat → Option va_E} (S : CallFix p m c cX5_init 3 s args WS yX5_init.cls) (hE : gE G s) (hin : yX5_init.name = "<init>" → meth.name = "<init>") {N : Nat} (had10 : ad 10 = N + 0) (had11 : ad 11 = N + 1) (had12 : ad 12 = N + 2) (had13 : ad 13 = N + 3) (had14 : ad 14 = N + 4) (had15 : ad 15 = N + 5) (had16 : ad 16 = N + 6) (had17 : ad 17 = N + 7) (had18 : ad 18 = N + 8) (had19 : ad 19 = N + 9) (had20 : ad 20 = N + 10) (had21 : ad 21 = N + 11) (had23 : ad 23 = N + 12) (had24 : ad 24 = N + 13) (had26 : ad 26 = N + 14) (had27 : ad 27 = N + 15) (had28 : ad 28 = N + 16) (had29 : ad 29 = N + 17) (had32 : ad 32 = N + 18) (had33 : ad 33 = N + 19) (had34 : ad 34 = N + 20) (had35 : ad 35 = N + 21) (hnext : HI p l e s m args below meth c Q G ad ct0 1964 (zF, zF, zF, zF, zF, zF, zF)) {ct : Nat → Option va_E} {H : Heap} {locs : List Loc} {ls : Array Slot} (hW : hw G ad ct H) (hsz : H.size = N + 1) (h8 : ct 8 = some (.inr (5, [.null, .null, .null, .null, .null, .null, .null, .null, .null, .null, .null, .null, .int 0, .null, .null, .int 0, .null, .null, .null, .null, .int 0, .int 0, .null, .null, .null, .null, .int 0, .int 0]))) (h10 : ct 10 = some (.inl (G.2.1.1, 246, .inl codT))) (hag0 : agX ct ct0) (hS : va_S (hA G.2.2.2) s.heap H locs) (hl : lv_has ls 3 [(0, .ref (ad 8))]) : W p l e ({ frames := 4, cells := 22, slots := 4584, locals := 89 } : Room) s m args below meth c H locs 1 246 Q (F0 m 1780 ls [.ref (ad 10), .ref (ad 8)]) := by
  obtain ⟨hx, hb, hml, hown, hts⟩ := id S
  refine hr_putF S hE hW hS h8 inX5 (C := RX5) (T := TX5) (N := 28) tyX5_ok nmX5 rfl 0 (by decide) q_f_5_9 rfl (hin rfl) rfl rfl rfl (Nat.le_of_ble_eq_true rfl) dX5_init_1780 (fun H locs ct_1 hW hk_2 hg_3 hz hS => ?_)
  have hsz := hz.trans hsz
  have h_4 := (hg_3 10 (by decide)).trans h10
  have h_5 : ct_1 8 = some (.inr (5, [.ref (ad 10), .null, .null, .null, .null, .null, .null, .null, .null, .null, .null, .null, .int 0, .null, .null, .int 0, .null, .null, .null, .null, .int 0, .int 0, .null, .null, .null, .null, .int 0, .int 0])) := hk_2
  refine lv_aload_n hx hb dX5_init_1783 rfl (lv_at hl 0 rfl) ?_
  refine lv_sipush (v := 210) hx hb dX5_init_1784 (by decide) ?_
  refine hr_newi S hE hW hS 11 (had11.trans hsz.symm) (hw_z hW h_5) q_ac_int (by decide) rfl (Nat.le_of_ble_eq_true rfl) (Nat.le_of_ble_eq_true rfl) (Nat.le_of_ble_eq_true rfl) dX5_init_1787 (fun H ct_6 hW hk_7 hg_8 hz hS => ?_)
  have hsz := hz.trans (congrArg (· + 1) hsz)
  have h_9 := (hg_8 10 (by decide)).trans h_4
  have h_10 := (hg_8 8 (by decide)).trans h_5
  have h_11 : ct_6 11 = some (.inl (G.2.1.1, 210, .inl (fun _ => 0))) := hk_7
  refine hr_putF S hE hW hS h_10 inX5 (C := RX5) (T := TX5) (N := 28) tyX5_ok nmX5 rfl 1 (by decide) q_f_5_13 rfl (hin rfl) rfl rfl rfl (Nat.le_of_ble_eq_true rfl) dX5_init_1789 (fun H locs ct_12 hW hk_13 hg_14 hz hS => ?_)
  have hsz := hz.trans hsz
  have h_15 := (hg_14 10 (by decide)).trans h_9
  have h_16 := (hg_14 11 (by decide)).trans h_11
  have h_17 : ct_12 8 = some (.inr (5, [.ref (ad 10), .ref (ad 11), .null, .null, .null, .null, .null, .null, .null, .null, .null, .null, .int 0, .null, .null, .int 0, .null, .null, .null, .null, .int 0, .int 0, .null, .null, .null, .null, .int 0, .int 0])) := hk_13
  refine lv_aload_n hx hb dX5_init_1792 rfl (lv_at hl 0 rfl) ?_
  refine lv_bipush (v := 21) hx hb dX5_init_1793 (by decide) ?_
  refine hr_newi S hE hW hS 12 (had12.trans hsz.symm) (hw_z hW h_17) q_ac_int (by decide) rfl (Nat.le_of_ble_eq_true rfl) (Nat.le_of_ble_eq_true rfl) (Nat.le_of_ble_eq_true rfl) dX5_init_1795 (fun H ct_18 hW hk_19 hg_20 hz hS => ?_)
  have hsz := hz.trans (congrArg (· + 1) hsz)
  have h_21 := (hg_20 10 (by decide)).trans h_15
  have h_22 := (hg_20 11 (by decide)).trans h_16
  have h_23 := (hg_20 8 (by decide)).trans h_17
  have h_24 : ct_18 12 = some (.inl (G.2.1.1, 21, .inl (fun _ => 0))) := hk_19
  refine hr_putF S hE hW hS h_23 inX5 (C := RX5) (T := TX5) (N := 28) tyX5_ok nmX5 rfl 2 (by decide) q_f_5_16 rfl (hin rfl) rfl rfl rfl (Nat.le_of_ble_eq_true rfl) dX5_init_1797 (fun H locs ct_25 hW hk_26 hg_27 hz hS => ?_)
  have hsz := hz.trans hsz
  have h_28 := (hg_27 10 (by decide)).trans h_21
  have h_29 := (hg_27 11 (by decide)).trans h_22
  have h_30 := (hg_27 12 (by decide)).trans h_24
  have h_31 : ct_25 8 = some (.inr (5, [.ref (ad 10), .ref (ad 11), .ref (ad 12), .null, .null, .null, .null, .null, .null, .null, .null, .null, .int 0, .null, .null, .int 0, .null, .null, .null, .null, .int 0, .int 0, .null, .null, .null, .null, .int 0, .int 0])) := hk_26
  refine lv_aload_n hx hb dX5_init_1800 rfl (lv_at hl 0 rfl) ?_
  refine lv_bipush (v := 21) hx hb dX5_init_1801 (by decide) ?_
  refine hr_newi S hE hW hS 13 (had13.trans hsz.symm) (hw_z hW h_31) q_ac_int (by decide) rfl (Nat.le_of_ble_eq_true rfl) (Nat.le_of_ble_eq_true rfl) (Nat.le_of_ble_eq_true rfl) dX5_init_1803 (fun H ct_32 hW hk_33 hg_34 hz hS => ?_)
  have hsz := hz.trans (congrArg (· + 1) hsz)
  have h_35 := (hg_34 10 (by decide)).trans h_28
  have h_36 := (hg_34 11 (by decide)).trans h_29
  have h_37 := (hg_34 12 (by decide)).trans h_30
  have h_38 := (hg_34 8 (by decide)).trans h_31
  have h_39 : ct_32 13 = some (.inl (G.2.1.1, 21, .inl (fun _ => 0))) := hk_33
  refine hr_putF S hE hW hS h_38 inX5 (C := RX5) (T := TX5) (N := 28) tyX5_ok nmX5 rfl 3 (by decide) q_f_5_19 rfl (hin rfl) rfl rfl rfl (Nat.le_of_ble_eq_true rfl) dX5_init_1805 (fun H locs ct_40 hW hk_41 hg_42 hz hS => ?_)
  have hsz := hz.trans hsz
  have h_43 := (hg_42 10 (by decide)).trans h_35
  have h_44 := (hg_42 11 (by decide)).trans h_36
  have h_45 := (hg_42 12 (by decide)).trans h_37
  have h_46 := (hg_42 13 (by decide)).trans h_39
  have h_47 : ct_40 8 = some (.inr (5, [.ref (ad 10), .ref (ad 11), .ref (ad 12), .ref (ad 13), .null, .null, .null, .null, .null, .null, .null, .null, .int 0, .null, .null, .int 0, .null, .null, .null, .null, .int 0, .int 0, .null, .null, .null, .null, .int 0, .int 0])) := hk_41
  refine lv_aload_n hx hb dX5_init_1808 rfl (lv_at hl 0 rfl) ?_
  refine lv_sipush (v := 252) hx hb dX5_init_1809 (by decide) ?_
  refine hr_newi S hE hW hS 14 (had14.trans hsz.symm) (hw_z hW h_47) q_ac_int (by decide) rfl (Nat.le_of_ble_eq_true rfl) (Nat.le_of_ble_eq_true rfl) (Nat.le_of_ble_eq_true rfl) dX5_init_1812 (fun H ct_48 hW hk_49 hg_50 hz hS => ?_)
  have hsz := hz.trans (congrArg (· + 1) hsz)
  have h_51 := (hg_50 10 (by decide)).trans h_43
  have h_52 := (hg_50 11 (by decide)).trans h_44
  have h_53 := (hg_50 12 (by decide)).trans h_45
  have h_54 := (hg_50 13 (by decide)).trans h_46
  have h_55 := (hg_50 8 (by decide)).trans h_47
  have h_56 : ct_48 14 = some (.inl (G.2.1.1, 252, .inl (fun _ => 0))) := hk_49
  refine hr_putF S hE hW hS h_55 inX5 (C := RX5) (T := TX5) (N := 28) tyX5_ok nmX5 rfl 4 (by decide) q_f_5_22 rfl (hin rfl) rfl rfl rfl (Nat.le_of_ble_eq_true rfl) dX5_init_1814 (fun H locs ct_57 hW hk_58 hg_59 hz hS => ?_)
  have hsz := hz.trans hsz
  have h_60 := (hg_59 10 (by decide)).trans h_51
  have h_61 := (hg_59 11 (by decide)).trans h_52
  have h_62 := (hg_59 12 (by decide)).trans h_53
  have h_63 := (hg_59 13 (by decide)).trans h_54
  have h_64 := (hg_59 14 (by decide)).trans h_56
  have h_65 : ct_57 8 = some (.inr (5, [.ref (ad 10), .ref (ad 11), .ref (ad 12), .ref (ad 13), .ref (ad 14), .null, .null, .null, .null, .null, .null, .null, .int 0, .null, .null, .int 0, .null, .null, .null, .null, .int 0, .int 0, .null, .null, .null, .null, .int 0, .int 0])) := hk_58
  refine lv_aload_n hx hb dX5_init_1817 rfl (lv_at hl 0 rfl) ?_
  refine lv_sipush (v := 252) hx hb dX5_init_1818 (by decide) ?_
  refine hr_newi S hE hW hS 15 (had15.trans hsz.symm) (hw_z hW h_65) q_ac_int (by decide) rfl (Nat.le_of_ble_eq_true rfl) (Nat.le_of_ble_eq_true rfl) (Nat.le_of_ble_eq_true rfl) dX5_init_1821 (fun H ct_66 hW hk_67 hg_68 hz hS => ?_)
  have hsz := hz.trans (congrArg (· + 1) hsz)
  have h_69 := (hg_68 10 (by decide)).trans h_60
  have h_70 := (hg_68 11 (by decide)).trans h_61
  have h_71 := (hg_68 12 (by decide)).trans h_62
  have h_72 := (hg_68 13 (by decide)).trans h_63
  have h_73 := (hg_68 14 (by decide)).trans h_64
  have h_74 := (hg_68 8 (by decide)).trans h_65
  have h_75 : ct_66 15 = some (.inl (G.2.1.1, 252, .inl (fun _ => 0))) := hk_67
  refine hr_putF S hE hW hS h_74 inX5 (C := RX5) (T := TX5) (N := 28) tyX5_ok nmX5 rfl 5 (by decide) q_f_5_25 rfl (hin rfl) rfl rfl rfl (Nat.le_of_ble_eq_true rfl) dX5_init_1823 (fun H locs ct_76 hW hk_77 hg_78 hz hS => ?_)
  have hsz := hz.trans hsz
  have h_79 := (hg_78 10 (by decide)).trans h_69
  have h_80 := (hg_78 11 (by decide)).trans h_70
  have h_81 := (hg_78 12 (by decide)).trans h_71
  have h_82 := (hg_78 13 (by decide)).trans h_72
  have h_83 := (hg_78 14 (by decide)).trans h_73
  have h_84 := (hg_78 15 (by decide)).trans h_75
  have h_85 : ct_76 8 = some (.inr (5, [.ref (ad 10), .ref (ad 11), .ref (ad 12), .ref (ad 13), .ref (ad 14), .ref (ad 15), .null, .null, .null, .null, .null, .null, .int 0, .null, .null, .int 0, .null, .null, .null, .null, .int 0, .int 0, .null, .null, .null, .null, .int 0, .int 0])) := hk_77
  refine lv_aload_n hx hb dX5_init_1826 rfl (lv_at hl 0 rfl) ?_
  refine lv_bipush (v := 7) hx hb dX5_init_1827 (by decide) ?_
  refine hr_newi S hE hW hS 16 (had16.trans hsz.symm) (hw_z hW h_85) q_ac_int (by decide) rfl (Nat.le_of_ble_eq_true rfl) (Nat.le_of_ble_eq_true rfl) (Nat.le_of_ble_eq_true rfl) dX5_init_1829 (fun H ct_86 hW hk_87 hg_88 hz hS => ?_)
  have hsz := hz.trans (congrArg (· + 1) hsz)
  have h_89 := (hg_88 10 (by decide)).trans h_79
  have h_90 := (hg_88 11 (by decide)).trans h_80
  have h_91 := (hg_88 12 (by decide)).trans h_81
  have h_92 := (hg_88 13 (by decide)).trans h_82
  have h_93 := (hg_88 14 (by decide)).trans h_83
  have h_94 := (hg_88 15 (by decide)).trans h_84
  have h_95 := (hg_88 8 (by decide)).trans h_85
  have h_96 : ct_86 16 = some (.inl (G.2.1.1, 7, .inl (fun _ => 0))) := hk_87
  refine hr_putF S hE hW hS h_95 inX5 (C := RX5) (T := TX5) (N := 28) tyX5_ok nmX5 rfl 6 (by decide) q_f_5_28 rfl (hin rfl) rfl rfl rfl (Nat.le_of_ble_eq_true rfl) dX5_init_1831 (fun H locs ct_97 hW hk_98 hg_99 hz hS => ?_)
  have hsz := hz.trans hsz
  have h_100 := (hg_99 10 (by decide)).trans h_89
  have h_101 := (hg_99 11 (by decide)).trans h_90
  have h_102 := (hg_99 12 (by decide)).trans h_91
  have h_103 := (hg_99 13 (by decide)).trans h_92
  have h_104 := (hg_99 14 (by decide)).trans h_93
  have h_105 := (hg_99 15 (by decide)).trans h_94
  have h_106 := (hg_99 16 (by decide)).trans h_96
  have h_107 : ct_97 8 = some (.inr (5, [.ref (ad 10), .ref (ad 11), .ref (ad 12), .ref (ad 13), .ref (ad 14), .ref (ad 15), .ref (ad 16), .null, .null, .null, .null, .null, .int 0, .null, .null, .int 0, .null, .null, .null, .null, .int 0, .int 0, .null, .null, .null, .null, .int 0, .int 0])) := hk_98
  refine lv_aload_n hx hb dX5_init_1834 rfl (lv_at hl 0 rfl) ?_
  refine lv_bipush (v := 11) hx hb dX5_init_1835 (by decide) ?_
  refine hr_newi S hE hW hS 17 (had17.trans hsz.symm) (hw_z hW h_107) q_ac_int (by decide) rfl (Nat.le_of_ble_eq_true rfl) (Nat.le_of_ble_eq_true rfl) (Nat.le_of_ble_eq_true rfl) dX5_init_1837 (fun H ct_108 hW hk_109 hg_110 hz hS => ?_)
  have hsz := hz.trans (congrArg (· + 1) hsz)
  have h_111 := (hg_110 10 (by decide)).trans h_100
  have h_112 := (hg_110 11 (by decide)).trans h_101
  have h_113 := (hg_110 12 (by decide)).trans h_102
  have h_114 := (hg_110 13 (by decide)).trans h_103
  have h_115 := (hg_110 14 (by decide)).trans h_104
  have h_116 := (hg_110 15 (by decide)).trans h_105
  have h_117 := (hg_110 16 (by decide)).trans h_106
  have h_118 := (hg_110 8 (by decide)).trans h_107
  have h_119 : ct_108 17 = some (.inl (G.2.1.1, 11, .inl (fun _ => 0))) := hk_109
  refine hr_putF S hE hW hS h_118 inX5 (C := RX5) (T := TX5) (N := 28) tyX5_ok nmX5 rfl 7 (by decide) q_f_5_31 rfl (hin rfl) rfl rfl rfl (Nat.le_of_ble_eq_true rfl) dX5_init_1839 (fun H locs ct_120 hW hk_121 hg_122 hz hS => ?_)
  have hsz := hz.trans hsz
  have h_123 := (hg_122 10 (by decide)).trans h_111
  have h_124 := (hg_122 11 (by decide)).trans h_112
  have h_125 := (hg_122 12 (by decide)).trans h_113
  have h_126 := (hg_122 13 (by decide)).trans h_114
  have h_127 := (hg_122 14 (by decide)).trans h_115
  have h_128 := (hg_122 15 (by decide)).trans h_116
  have h_129 := (hg_122 16 (by decide)).trans h_117
  have h_130 := (hg_122 17 (by decide)).trans h_119
  have h_131 : ct_120 8 = some (.inr (5, [.ref (ad 10), .ref (ad 11), .ref (ad 12), .ref (ad 13), .ref (ad 14), .ref (ad 15), .ref (ad 16), .ref (ad 17), .null, .null, .null, .null, .int 0, .null, .null, .int 0, .null, .null, .null, .null, .int 0, .int 0, .null, .null, .null, .null, .int 0, .int 0])) := hk_121
  refine lv_aload_n hx hb dX5_init_1842 rfl (lv_at hl 0 rfl) ?_
  refine lv_sipush (v := 300) hx hb dX5_init_1843 (by decide) ?_
  refine hr_newi S hE hW hS 18 (had18.trans hsz.symm) (hw_z hW h_131) q_ac_int (by decide) rfl (Nat.le_of_ble_eq_true rfl) (Nat.le_of_ble_eq_true rfl) (Nat.le_of_ble_eq_true rfl) dX5_init_1846 (fun H ct_132 hW hk_133 hg_134 hz hS => ?_)
  have hsz := hz.trans (congrArg (· + 1) hsz)
  have h_135 := (hg_134 10 (by decide)).trans h_123
  have h_136 := (hg_134 11 (by decide)).trans h_124
  have h_137 := (hg_134 12 (by decide)).trans h_125
  have h_138 := (hg_134 13 (by decide)).trans h_126
  have h_139 := (hg_134 14 (by decide)).trans h_127
  have h_140 := (hg_134 15 (by decide)).trans h_128
  have h_141 := (hg_134 16 (by decide)).trans h_129
  have h_142 := (hg_134 17 (by decide)).trans h_130
  have h_143 := (hg_134 8 (by decide)).trans h_131
  have h_144 : ct_132 18 = some (.inl (G.2.1.1, 300, .inl (fun _ => 0))) := hk_133
  refine hr_putF S hE hW hS h_143 inX5 (C := RX5) (T := TX5) (N := 28) tyX5_ok nmX5 rfl 8 (by decide) q_f_5_34 rfl (hin rfl) rfl rfl rfl (Nat.le_of_ble_eq_true rfl) dX5_init_1848 (fun H locs ct_145 hW hk_146 hg_147 hz hS => ?_)
  have hsz := hz.trans hsz
  have h_148 := (hg_147 10 (by decide)).trans h_135
  have h_149 := (hg_147 11 (by decide)).trans h_136
  have h_150 := (hg_147 12 (by decide)).trans h_137
  have h_151 := (hg_147 13 (by decide)).trans h_138
  have h_152 := (hg_147 14 (by decide)).trans h_139
  have h_153 := (hg_147 15 (by decide)).trans h_140
  have h_154 := (hg_147 16 (by decide)).trans h_141
  have h_155 := (hg_147 17 (by decide)).trans h_142
  have h_156 := (hg_147 18 (by decide)).trans h_144
  have h_157 : ct_145 8 = some (.inr (5, [.ref (ad 10), .ref (ad 11), .ref (ad 12), .ref (ad 13), .ref (ad 14), .ref (ad 15), .ref (ad 16), .ref (ad 17), .ref (ad 18), .null, .null, .null, .int 0, .null, .null, .int 0, .null, .null, .null, .null, .int 0, .int 0, .null, .null, .null, .null, .int 0, .int 0])) := hk_146
  refine lv_aload_n hx hb dX5_init_1851 rfl (lv_at hl 0 rfl) ?_
  refine lv_sipush (v := 300) hx hb dX5_init_1852 (by decide) ?_
  refine hr_newi S hE hW hS 19 (had19.trans hsz.symm) (hw_z hW h_157) q_ac_int (by decide) rfl (Nat.le_of_ble_eq_true rfl) (Nat.le_of_ble_eq_true rfl) (Nat.le_of_ble_eq_true rfl) dX5_init_1855 (fun H ct_158 hW hk_159 hg_160 hz hS => ?_)
  have hsz := hz.trans (congrArg (· + 1) hsz)
  have h_161 := (hg_160 10 (by decide)).trans h_148
  have h_162 := (hg_160 11 (by decide)).trans h_149
  have h_163 := (hg_160 12 (by decide)).trans h_150
  have h_164 := (hg_160 13 (by decide)).trans h_151
  have h_165 := (hg_160 14 (by decide)).trans h_152
  have h_166 := (hg_160 15 (by decide)).trans h_153
  have h_167 := (hg_160 16 (by decide)).trans h_154
  have h_168 := (hg_160 17 (by decide)).trans h_155
  have h_169 := (hg_160 18 (by decide)).trans h_156
  have h_170 := (hg_160 8 (by decide)).trans h_157
  have h_171 : ct_158 19 = some (.inl (G.2.1.1, 300, .inl (fun _ => 0))) := hk_159
  refine hr_putF S hE hW hS h_170 inX5 (C := RX5) (T := TX5) (N := 28) tyX5_ok nmX5 rfl 9 (by decide) q_f_5_37 rfl (hin rfl) rfl rfl rfl (Nat.le_of_ble_eq_true rfl) dX5_init_1857 (fun H locs ct_172 hW hk_173 hg_174 hz hS => ?_)
  have hsz := hz.trans hsz
  have h_175 := (hg_174 10 (by decide)).trans h_161
  have h_176 := (hg_174 11 (by decide)).trans h_162
  have h_177 := (hg_174 12 (by decide)).trans h_163
  have h_178 := (hg_174 13 (by decide)).trans h_164
  have h_179 := (hg_174 14 (by decide)).trans h_165
  have h_180 := (hg_174 15 (by decide)).trans h_166
  have h_181 := (hg_174 16 (by decide)).trans h_167
  have h_182 := (hg_174 17 (by decide)).trans h_168
  have h_183 := (hg_174 18 (by decide)).trans h_169
  have h_184 := (hg_174 19 (by decide)).trans h_171
  have h_185 : ct_172 8 = some (.inr (5, [.ref (ad 10), .ref (ad 11), .ref (ad 12), .ref (ad 13), .ref (ad 14), .ref (ad 15), .ref (ad 16), .ref (ad 17), .ref (ad 18), .ref (ad 19), .null, .null, .int 0, .null, .null, .int 0, .null, .null, .null, .null, .int 0, .int 0, .null, .null, .null, .null, .int 0, .int 0])) := hk_173
  refine lv_aload_n hx hb dX5_init_1860 rfl (lv_at hl 0 rfl) ?_
  refine lv_sipush (v := 300) hx hb dX5_init_1861 (by decide) ?_
  refine hr_newi S hE hW hS 20 (had20.trans hsz.symm) (hw_z hW h_185) q_ac_int (by decide) rfl (Nat.le_of_ble_eq_true rfl) (Nat.le_of_ble_eq_true rfl) (Nat.le_of_ble_eq_true rfl) dX5_init_1864 (fun H ct_186 hW hk_187 hg_188 hz hS => ?_)
  have hsz := hz.trans (congrArg (· + 1) hsz)
  have h_189 := (hg_188 10 (by decide)).trans h_175
  have h_190 := (hg_188 11 (by decide)).trans h_176
  have h_191 := (hg_188 12 (by decide)).trans h_177
  have h_192 := (hg_188 13 (by decide)).trans h_178
  have h_193 := (hg_188 14 (by decide)).trans h_179
  have h_194 := (hg_188 15 (by decide)).trans h_180
  have h_195 := (hg_188 16 (by decide)).trans h_181
  have h_196 := (hg_188 17 (by decide)).trans h_182
  have h_197 := (hg_188 18 (by decide)).trans h_183
  have h_198 := (hg_188 19 (by decide)).trans h_184
  have h_199 := (hg_188 8 (by decide)).trans h_185
  have h_200 : ct_186 20 = some (.inl (G.2.1.1, 300, .inl (fun _ => 0))) := hk_187
  refine hr_putF S hE hW hS h_199 inX5 (C := RX5) (T := TX5) (N := 28) tyX5_ok nmX5 rfl 10 (by decide) q_f_5_40 rfl (hin rfl) rfl rfl rfl (Nat.le_of_ble_eq_true rfl) dX5_init_1866 (fun H locs ct_201 hW hk_202 hg_203 hz hS => ?_)
  have hsz := hz.trans hsz
  have h_204 := (hg_203 10 (by decide)).trans h_189
  have h_205 := (hg_203 11 (by decide)).trans h_190
  have h_206 := (hg_203 12 (by decide)).trans h_191
  have h_207 := (hg_203 13 (by decide)).trans h_192
  have h_208 := (hg_203 14 (by decide)).trans h_193
  have h_209 := (hg_203 15 (by decide)).trans h_194
  have h_210 := (hg_203 16 (by decide)).trans h_195
  have h_211 := (hg_203 17 (by decide)).trans h_196
  have h_212 := (hg_203 18 (by decide)).trans h_197
  have h_213 := (hg_203 19 (by decide)).trans h_198
  have h_214 := (hg_203 20 (by decide)).trans h_200
  have h_215 : ct_201 8 = some (.inr (5, [.ref (ad 10), .ref (ad 11), .ref (ad 12), .ref (ad 13), .ref (ad 14), .ref (ad 15), .ref (ad 16), .ref (ad 17), .ref (ad 18), .ref (ad 19), .ref (ad 20), .null, .int 0, .null, .null, .int 0, .null, .null, .null, .null, .int 0, .int 0, .null, .null, .null, .null, .int 0, .int 0])) := hk_202
  refine lv_aload_n hx hb dX5_init_1869 rfl (lv_at hl 0 rfl) ?_
  refine lv_sipush (v := 300) hx hb dX5_init_1870 (by decide) ?_
  refine hr_newi S hE hW hS 21 (had21.trans hsz.symm) (hw_z hW h_215) q_ac_int (by decide) rfl (Nat.le_of_ble_eq_true rfl) (Nat.le_of_ble_eq_true rfl) (Nat.le_of_ble_eq_true rfl) dX5_init_1873 (fun H ct_216 hW hk_217 hg_218 hz hS => ?_)
  have hsz := hz.trans (congrArg (· + 1) hsz)
  have h_219 := (hg_218 10 (by decide)).trans h_204
  have h_220 := (hg_218 11 (by decide)).trans h_205
  have h_221 := (hg_218 12 (by decide)).trans h_206
  have h_222 := (hg_218 13 (by decide)).trans h_207
  have h_223 := (hg_218 14 (by decide)).trans h_208
  have h_224 := (hg_218 15 (by decide)).trans h_209
  have h_225 := (hg_218 16 (by decide)).trans h_210
  have h_226 := (hg_218 17 (by decide)).trans h_211
  have h_227 := (hg_218 18 (by decide)).trans h_212
  have h_228 := (hg_218 19 (by decide)).trans h_213
  have h_229 := (hg_218 20 (by decide)).trans h_214
  have h_230 := (hg_218 8 (by decide)).trans h_215
  have h_231 : ct_216 21 = some (.inl (G.2.1.1, 300, .inl (fun _ => 0))) := hk_217
  refine hr_putF S hE hW hS h_230 inX5 (C := RX5) (T := TX5) (N := 28) tyX5_ok nmX5 rfl 11 (by decide) q_f_5_43 rfl (hin rfl) rfl rfl rfl (Nat.le_of_ble_eq_true rfl) dX5_init_1875 (fun H locs ct_232 hW hk_233 hg_234 hz hS => ?_)
  have hsz := hz.trans hsz
  have h_235 := (hg_234 10 (by decide)).trans h_219
  have h_236 := (hg_234 11 (by decide)).trans h_220
  have h_237 := (hg_234 12 (by decide)).trans h_221
  have h_238 := (hg_234 13 (by decide)).trans h_222
  have h_239 := (hg_234 14 (by decide)).trans h_223
  have h_240 := (hg_234 15 (by decide)).trans h_224
  have h_241 := (hg_234 16 (by decide)).trans h_225
  have h_242 := (hg_234 17 (by decide)).trans h_226
  have h_243 := (hg_234 18 (by decide)).trans h_227
  have h_244 := (hg_234 19 (by decide)).trans h_228
  have h_245 := (hg_234 20 (by decide)).trans h_229
  have h_246 := (hg_234 21 (by decide)).trans h_231
  have h_247 : ct_232 8 = some (.inr (5, [.ref (ad 10), .ref (ad 11), .ref (ad 12), .ref (ad 13), .ref (ad 14), .ref (ad 15), .ref (ad 16), .ref (ad 17), .ref (ad 18), .ref (ad 19), .ref (ad 20), .ref (ad 21), .int 0, .null, .null, .int 0, .null, .null, .null, .null, .int 0, .int 0, .null, .null, .null, .null, .int 0, .int 0])) := hk_233
  refine lv_aload_n hx hb dX5_init_1878 rfl (lv_at hl 0 rfl) ?_
  refine lv_sipush (v := 400) hx hb dX5_init_1879 (by decide) ?_
  refine hr_newi S hE hW hS 23 (had23.trans hsz.symm) (hw_z hW h_247) q_ac_int (by decide) rfl (Nat.le_of_ble_eq_true rfl) (Nat.le_of_ble_eq_true rfl) (Nat.le_of_ble_eq_true rfl) dX5_init_1882 (fun H ct_248 hW hk_249 hg_250 hz hS => ?_)
  have hsz := hz.trans (congrArg (· + 1) hsz)
  have h_251 := (hg_250 10 (by decide)).trans h_235
  have h_252 := (hg_250 11 (by decide)).trans h_236
  have h_253 := (hg_250 12 (by decide)).trans h_237
  have h_254 := (hg_250 13 (by decide)).trans h_238
  have h_255 := (hg_250 14 (by decide)).trans h_239
  have h_256 := (hg_250 15 (by decide)).trans h_240
  have h_257 := (hg_250 16 (by decide)).trans h_241
  have h_258 := (hg_250 17 (by decide)).trans h_242
  have h_259 := (hg_250 18 (by decide)).trans h_243
  have h_260 := (hg_250 19 (by decide)).trans h_244
  have h_261 := (hg_250 20 (by decide)).trans h_245
  have h_262 := (hg_250 21 (by decide)).trans h_246
  have h_263 := (hg_250 8 (by decide)).trans h_247
  have h_264 : ct_248 23 = some (.inl (G.2.1.1, 400, .inl (fun _ => 0))) := hk_249
  refine hr_putF S hE hW hS h_263 inX5 (C := RX5) (T := TX5) (N := 28) tyX5_ok nmX5 rfl 13 (by decide) q_f_5_46 rfl (hin rfl) rfl rfl rfl (Nat.le_of_ble_eq_true rfl) dX5_init_1884 (fun H locs ct_265 hW hk_266 hg_267 hz hS => ?_)
  have hsz := hz.trans hsz
  have h_268 := (hg_267 10 (by decide)).trans h_251
  have h_269 := (hg_267 11 (by decide)).trans h_252
  have h_270 := (hg_267 12 (by decide)).trans h_253
  have h_271 := (hg_267 13 (by decide)).trans h_254
  have h_272 := (hg_267 14 (by decide)).trans h_255
  have h_273 := (hg_267 15 (by decide)).trans h_256
  have h_274 := (hg_267 16 (by decide)).trans h_257
  have h_275 := (hg_267 17 (by decide)).trans h_258
  have h_276 := (hg_267 18 (by decide)).trans h_259
  have h_277 := (hg_267 19 (by decide)).trans h_260
  have h_278 := (hg_267 20 (by decide)).trans h_261
  have h_279 := (hg_267 21 (by decide)).trans h_262
  have h_280 := (hg_267 23 (by decide)).trans h_264
  have h_281 : ct_265 8 = some (.inr (5, [.ref (ad 10), .ref (ad 11), .ref (ad 12), .ref (ad 13), .ref (ad 14), .ref (ad 15), .ref (ad 16), .ref (ad 17), .ref (ad 18), .ref (ad 19), .ref (ad 20), .ref (ad 21), .int 0, .ref (ad 23), .null, .int 0, .null, .null, .null, .null, .int 0, .int 0, .null, .null, .null, .null, .int 0, .int 0])) := hk_266
  refine lv_aload_n hx hb dX5_init_1887 rfl (lv_at hl 0 rfl) ?_
  refine lv_sipush (v := 400) hx hb dX5_init_1888 (by decide) ?_
  refine hr_newi S hE hW hS 24 (had24.trans hsz.symm) (hw_z hW h_281) q_ac_int (by decide) rfl (Nat.le_of_ble_eq_true rfl) (Nat.le_of_ble_eq_true rfl) (Nat.le_of_ble_eq_true rfl) dX5_init_1891 (fun H ct_282 hW hk_283 hg_284 hz hS => ?_)
  have hsz := hz.trans (congrArg (· + 1) hsz)
  have h_285 := (hg_284 10 (by decide)).trans h_268
  have h_286 := (hg_284 11 (by decide)).trans h_269
  have h_287 := (hg_284 12 (by decide)).trans h_270
  have h_288 := (hg_284 13 (by decide)).trans h_271
  have h_289 := (hg_284 14 (by decide)).trans h_272
  have h_290 := (hg_284 15 (by decide)).trans h_273
  have h_291 := (hg_284 16 (by decide)).trans h_274
  have h_292 := (hg_284 17 (by decide)).trans h_275
  have h_293 := (hg_284 18 (by decide)).trans h_276
  have h_294 := (hg_284 19 (by decide)).trans h_277
  have h_295 := (hg_284 20 (by decide)).trans h_278
  have h_296 := (hg_284 21 (by decide)).trans h_279
  have h_297 := (hg_284 23 (by decide)).trans h_280
  have h_298 := (hg_284 8 (by decide)).trans h_281
  have h_299 : ct_282 24 = some (.inl (G.2.1.1, 400, .inl (fun _ => 0))) := hk_283
  refine hr_putF S hE hW hS h_298 inX5 (C := RX5) (T := TX5) (N := 28) tyX5_ok nmX5 rfl 14 (by decide) q_f_5_49 rfl (hin rfl) rfl rfl rfl (Nat.le_of_ble_eq_true rfl) dX5_init_1893 (fun H locs ct_300 hW hk_301 hg_302 hz hS => ?_)
  have hsz := hz.trans hsz
  have h_303 := (hg_302 10 (by decide)).trans h_285
  have h_304 := (hg_302 11 (by decide)).trans h_286
  have h_305 := (hg_302 12 (by decide)).trans h_287
  have h_306 := (hg_302 13 (by decide)).trans h_288
  have h_307 := (hg_302 14 (by decide)).trans h_289
  have h_308 := (hg_302 15 (by decide)).trans h_290
  have h_309 := (hg_302 16 (by decide)).trans h_291
  have h_310 := (hg_302 17 (by decide)).trans h_292
  have h_311 := (hg_302 18 (by decide)).trans h_293
  have h_312 := (hg_302 19 (by decide)).trans h_294
  have h_313 := (hg_302 20 (by decide)).trans h_295
  have h_314 := (hg_302 21 (by decide)).trans h_296
  have h_315 := (hg_302 23 (by decide)).trans h_297
  have h_316 := (hg_302 24 (by decide)).trans h_299
  have h_317 : ct_300 8 = some (.inr (5, [.ref (ad 10), .ref (ad 11), .ref (ad 12), .ref (ad 13), .ref (ad 14), .ref (ad 15), .ref (ad 16), .ref (ad 17), .ref (ad 18), .ref (ad 19), .ref (ad 20), .ref (ad 21), .int 0, .ref (ad 23), .ref (ad 24), .int 0, .null, .null, .null, .null, .int 0, .int 0, .null, .null, .null, .null, .int 0, .int 0])) := hk_301
  refine lv_aload_n hx hb dX5_init_1896 rfl (lv_at hl 0 rfl) ?_
  refine lv_sipush (v := 300) hx hb dX5_init_1897 (by decide) ?_
  refine hr_newi S hE hW hS 26 (had26.trans hsz.symm) (hw_z hW h_317) q_ac_int (by decide) rfl (Nat.le_of_ble_eq_true rfl) (Nat.le_of_ble_eq_true rfl) (Nat.le_of_ble_eq_true rfl) dX5_init_1900 (fun H ct_318 hW hk_319 hg_320 hz hS => ?_)
  have hsz := hz.trans (congrArg (· + 1) hsz)
  have h_321 := (hg_320 10 (by decide)).trans h_303
  have h_322 := (hg_320 11 (by decide)).trans h_304
  have h_323 := (hg_320 12 (by decide)).trans h_305
  have h_324 := (hg_320 13 (by decide)).trans h_306
  have h_325 := (hg_320 14 (by decide)).trans h_307
  have h_326 := (hg_320 15 (by decide)).trans h_308
  have h_327 := (hg_320 16 (by decide)).trans h_309
  have h_328 := (hg_320 17 (by decide)).trans h_310
  have h_329 := (hg_320 18 (by decide)).trans h_311
  have h_330 := (hg_320 19 (by decide)).trans h_312
  have h_331 := (hg_320 20 (by decide)).trans h_313
  have h_332 := (hg_320 21 (by decide)).trans h_314
  have h_333 := (hg_320 23 (by decide)).trans h_315
  have h_334 := (hg_320 24 (by decide)).trans h_316
  have h_335 := (hg_320 8 (by decide)).trans h_317
  have h_336 : ct_318 26 = some (.inl (G.2.1.1, 300, .inl (fun _ => 0))) := hk_319
  refine hr_putF S hE hW hS h_335 inX5 (C := RX5) (T := TX5) (N := 28) tyX5_ok nmX5 rfl 16 (by decide) q_f_5_52 rfl (hin rfl) rfl rfl rfl (Nat.le_of_ble_eq_true rfl) dX5_init_1902 (fun H locs ct_337 hW hk_338 hg_339 hz hS => ?_)
  have hsz := hz.trans hsz
  have h_340 := (hg_339 10 (by decide)).trans h_321
  have h_341 := (hg_339 11 (by decide)).trans h_322
  have h_342 := (hg_339 12 (by decide)).trans h_323
  have h_343 := (hg_339 13 (by decide)).trans h_324
  have h_344 := (hg_339 14 (by decide)).trans h_325
  have h_345 := (hg_339 15 (by decide)).trans h_326
  have h_346 := (hg_339 16 (by decide)).trans h_327
  have h_347 := (hg_339 17 (by decide)).trans h_328
  have h_348 := (hg_339 18 (by decide)).trans h_329
  have h_349 := (hg_339 19 (by decide)).trans h_330
  have h_350 := (hg_339 20 (by decide)).trans h_331
  have h_351 := (hg_339 21 (by decide)).trans h_332
  have h_352 := (hg_339 23 (by decide)).trans h_333
  have h_353 := (hg_339 24 (by decide)).trans h_334
  have h_354 := (hg_339 26 (by decide)).trans h_336
  have h_355 : ct_337 8 = some (.inr (5, [.ref (ad 10), .ref (ad 11), .ref (ad 12), .ref (ad 13), .ref (ad 14), .ref (ad 15), .ref (ad 16), .ref (ad 17), .ref (ad 18), .ref (ad 19), .ref (ad 20), .ref (ad 21), .int 0, .ref (ad 23), .ref (ad 24), .int 0, .ref (ad 26), .null, .null, .null, .int 0, .int 0, .null, .null, .null, .null, .int 0, .int 0])) := hk_338
  refine lv_aload_n hx hb dX5_init_1905 rfl (lv_at hl 0 rfl) ?_
  refine lv_sipush (v := 300) hx hb dX5_init_1906 (by decide) ?_
  refine hr_newi S hE hW hS 27 (had27.trans hsz.symm) (hw_z hW h_355) q_ac_int (by decide) rfl (Nat.le_of_ble_eq_true rfl) (Nat.le_of_ble_eq_true rfl) (Nat.le_of_ble_eq_true rfl) dX5_init_1909 (fun H ct_356 hW hk_357 hg_358 hz hS => ?_)
  have hsz := hz.trans (congrArg (· + 1) hsz)
  have h_359 := (hg_358 10 (by decide)).trans h_340
  have h_360 := (hg_358 11 (by decide)).trans h_341
  have h_361 := (hg_358 12 (by decide)).trans h_342
  have h_362 := (hg_358 13 (by decide)).trans h_343
  have h_363 := (hg_358 14 (by decide)).trans h_344
  have h_364 := (hg_358 15 (by decide)).trans h_345
  have h_365 := (hg_358 16 (by decide)).trans h_346
  have h_366 := (hg_358 17 (by decide)).trans h_347
  have h_367 := (hg_358 18 (by decide)).trans h_348
  have h_368 := (hg_358 19 (by decide)).trans h_349
  have h_369 := (hg_358 20 (by decide)).trans h_350
  have h_370 := (hg_358 21 (by decide)).trans h_351
  have h_371 := (hg_358 23 (by decide)).trans h_352
  have h_372 := (hg_358 24 (by decide)).trans h_353
  have h_373 := (hg_358 26 (by decide)).trans h_354
  have h_374 := (hg_358 8 (by decide)).trans h_355
  have h_375 : ct_356 27 = some (.inl (G.2.1.1, 300, .inl (fun _ => 0))) := hk_357
  refine hr_putF S hE hW hS h_374 inX5 (C := RX5) (T := TX5) (N := 28) tyX5_ok nmX5 rfl 17 (by decide) q_f_5_55 rfl (hin rfl) rfl rfl rfl (Nat.le_of_ble_eq_true rfl) dX5_init_1911 (fun H locs ct_376 hW hk_377 hg_378 hz hS => ?_)
  have hsz := hz.trans hsz
  have h_379 := (hg_378 10 (by decide)).trans h_359
  have h_380 := (hg_378 11 (by decide)).trans h_360
  have h_381 := (hg_378 12 (by decide)).trans h_361
  have h_382 := (hg_378 13 (by decide)).trans h_362
  have h_383 := (hg_378 14 (by decide)).trans h_363
  have h_384 := (hg_378 15 (by decide)).trans h_364
  have h_385 := (hg_378 16 (by decide)).trans h_365
  have h_386 := (hg_378 17 (by decide)).trans h_366
  have h_387 := (hg_378 18 (by decide)).trans h_367
  have h_388 := (hg_378 19 (by decide)).trans h_368
  have h_389 := (hg_378 20 (by decide)).trans h_369
  have h_390 := (hg_378 21 (by decide)).trans h_370
  have h_391 := (hg_378 23 (by decide)).trans h_371
  have h_392 := (hg_378 24 (by decide)).trans h_372
  have h_393 := (hg_378 26 (by decide)).trans h_373
  have h_394 := (hg_378 27 (by decide)).trans h_375
  have h_395 : ct_376 8 = some (.inr (5, [.ref (ad 10), .ref (ad 11), .ref (ad 12), .ref (ad 13), .ref (ad 14), .ref (ad 15), .ref (ad 16), .ref (ad 17), .ref (ad 18), .ref (ad 19), .ref (ad 20), .ref (ad 21), .int 0, .ref (ad 23), .ref (ad 24), .int 0, .ref (ad 26), .ref (ad 27), .null, .null, .int 0, .int 0, .null, .null, .null, .null, .int 0, .int 0])) := hk_377
  refine lv_aload_n hx hb dX5_init_1914 rfl (lv_at hl 0 rfl) ?_
  refine lv_sipush (v := 300) hx hb dX5_init_1915 (by decide) ?_
  refine hr_newz S hE hW hS 28 (had28.trans hsz.symm) (hw_z hW h_395) q_ac_boolean (by decide) rfl (Nat.le_of_ble_eq_true rfl) (Nat.le_of_ble_eq_true rfl) (Nat.le_of_ble_eq_true rfl) dX5_init_1918 (fun H ct_396 hW hk_397 hg_398 hz hS => ?_)
  have hsz := hz.trans (congrArg (· + 1) hsz)
  have h_399 := (hg_398 10 (by decide)).trans h_379
  have h_400 := (hg_398 11 (by decide)).trans h_380
  have h_401 := (hg_398 12 (by decide)).trans h_381
  have h_402 := (hg_398 13 (by decide)).trans h_382
  have h_403 := (hg_398 14 (by decide)).trans h_383
  have h_404 := (hg_398 15 (by decide)).trans h_384
  have h_405 := (hg_398 16 (by decide)).trans h_385
  have h_406 := (hg_398 17 (by decide)).trans h_386
  have h_407 := (hg_398 18 (by decide)).trans h_387
  have h_408 := (hg_398 19 (by decide)).trans h_388
  have h_409 := (hg_398 20 (by decide)).trans h_389
  have h_410 := (hg_398 21 (by decide)).trans h_390
  have h_411 := (hg_398 23 (by decide)).trans h_391
  have h_412 := (hg_398 24 (by decide)).trans h_392
  have h_413 := (hg_398 26 (by decide)).trans h_393
  have h_414 := (hg_398 27 (by decide)).trans h_394
  have h_415 := (hg_398 8 (by decide)).trans h_395
  have h_416 : ct_396 28 = some (.inl (G.2.1.2.1, 300, .inl (fun _ => 0))) := hk_397
  refine hr_putF S hE hW hS h_415 inX5 (C := RX5) (T := TX5) (N := 28) tyX5_ok nmX5 rfl 18 (by decide) q_f_5_58 rfl (hin rfl) rfl rfl rfl (Nat.le_of_ble_eq_true rfl) dX5_init_1920 (fun H locs ct_417 hW hk_418 hg_419 hz hS => ?_)
  have hsz := hz.trans hsz
  have h_420 := (hg_419 10 (by decide)).trans h_399
  have h_421 := (hg_419 11 (by decide)).trans h_400
  have h_422 := (hg_419 12 (by decide)).trans h_401
  have h_423 := (hg_419 13 (by decide)).trans h_402
  have h_424 := (hg_419 14 (by decide)).trans h_403
  have h_425 := (hg_419 15 (by decide)).trans h_404
  have h_426 := (hg_419 16 (by decide)).trans h_405
  have h_427 := (hg_419 17 (by decide)).trans h_406
  have h_428 := (hg_419 18 (by decide)).trans h_407
  have h_429 := (hg_419 19 (by decide)).trans h_408
  have h_430 := (hg_419 20 (by decide)).trans h_409
  have h_431 := (hg_419 21 (by decide)).trans h_410
  have h_432 := (hg_419 23 (by decide)).trans h_411
  have h_433 := (hg_419 24 (by decide)).trans h_412
  have h_434 := (hg_419 26 (by decide)).trans h_413
  have h_435 := (hg_419 27 (by decide)).trans h_414
  have h_436 := (hg_419 28 (by decide)).trans h_416
  have h_437 : ct_417 8 = some (.inr (5, [.ref (ad 10), .ref (ad 11), .ref (ad 12), .ref (ad 13), .ref (ad 14), .ref (ad 15), .ref (ad 16), .ref (ad 17), .ref (ad 18), .ref (ad 19), .ref (ad 20), .ref (ad 21), .int 0, .ref (ad 23), .ref (ad 24), .int 0, .ref (ad 26), .ref (ad 27), .ref (ad 28), .null, .int 0, .int 0, .null, .null, .null, .null, .int 0, .int 0])) := hk_418
  refine lv_aload_n hx hb dX5_init_1923 rfl (lv_at hl 0 rfl) ?_
  refine lv_bipush (v := 64) hx hb dX5_init_1924 (by decide) ?_
  refine hr_newi S hE hW hS 29 (had29.trans hsz.symm) (hw_z hW h_437) q_ac_int (by decide) rfl (Nat.le_of_ble_eq_true rfl) (Nat.le_of_ble_eq_true rfl) (Nat.le_of_ble_eq_true rfl) dX5_init_1926 (fun H ct_438 hW hk_439 hg_440 hz hS => ?_)
  have hsz := hz.trans (congrArg (· + 1) hsz)
  have h_441 := (hg_440 10 (by decide)).trans h_420
  have h_442 := (hg_440 11 (by decide)).trans h_421
  have h_443 := (hg_440 12 (by decide)).trans h_422
  have h_444 := (hg_440 13 (by decide)).trans h_423
  have h_445 := (hg_440 14 (by decide)).trans h_424
  have h_446 := (hg_440 15 (by decide)).trans h_425
  have h_447 := (hg_440 16 (by decide)).trans h_426
  have h_448 := (hg_440 17 (by decide)).trans h_427
  have h_449 := (hg_440 18 (by decide)).trans h_428
  have h_450 := (hg_440 19 (by decide)).trans h_429
  have h_451 := (hg_440 20 (by decide)).trans h_430
  have h_452 := (hg_440 21 (by decide)).trans h_431
  have h_453 := (hg_440 23 (by decide)).trans h_432
  have h_454 := (hg_440 24 (by decide)).trans h_433
  have h_455 := (hg_440 26 (by decide)).trans h_434
  have h_456 := (hg_440 27 (by decide)).trans h_435
  have h_457 := (hg_440 28 (by decide)).trans h_436
  have h_458 := (hg_440 8 (by decide)).trans h_437
  have h_459 : ct_438 29 = some (.inl (G.2.1.1, 64, .inl (fun _ => 0))) := hk_439
  refine hr_putF S hE hW hS h_458 inX5 (C := RX5) (T := TX5) (N := 28) tyX5_ok nmX5 rfl 19 (by decide) q_f_5_62 rfl (hin rfl) rfl rfl rfl (Nat.le_of_ble_eq_true rfl) dX5_init_1928 (fun H locs ct_460 hW hk_461 hg_462 hz hS => ?_)
  have hsz := hz.trans hsz
  have h_463 := (hg_462 10 (by decide)).trans h_441
  have h_464 := (hg_462 11 (by decide)).trans h_442
  have h_465 := (hg_462 12 (by decide)).trans h_443
  have h_466 := (hg_462 13 (by decide)).trans h_444
  have h_467 := (hg_462 14 (by decide)).trans h_445
  have h_468 := (hg_462 15 (by decide)).trans h_446
  have h_469 := (hg_462 16 (by decide)).trans h_447
  have h_470 := (hg_462 17 (by decide)).trans h_448
  have h_471 := (hg_462 18 (by decide)).trans h_449
  have h_472 := (hg_462 19 (by decide)).trans h_450
  have h_473 := (hg_462 20 (by decide)).trans h_451
  have h_474 := (hg_462 21 (by decide)).trans h_452
  have h_475 := (hg_462 23 (by decide)).trans h_453
  have h_476 := (hg_462 24 (by decide)).trans h_454
  have h_477 := (hg_462 26 (by decide)).trans h_455
  have h_478 := (hg_462 27 (by decide)).trans h_456
  have h_479 := (hg_462 28 (by decide)).trans h_457
  have h_480 := (hg_462 29 (by decide)).trans h_459
  have h_481 : ct_460 8 = some (.inr (5, [.ref (ad 10), .ref (ad 11), .ref (ad 12), .ref (ad 13), .ref (ad 14), .ref (ad 15), .ref (ad 16), .ref (ad 17), .ref (ad 18), .ref (ad 19), .ref (ad 20), .ref (ad 21), .int 0, .ref (ad 23), .ref (ad 24), .int 0, .ref (ad 26), .ref (ad 27), .ref (ad 28), .ref (ad 29), .int 0, .int 0, .null, .null, .null, .null, .int 0, .int 0])) := hk_461
  refine lv_aload_n hx hb dX5_init_1931 rfl (lv_at hl 0 rfl) ?_
  refine lv_bipush (v := 100) hx hb dX5_init_1932 (by decide) ?_
  refine hr_newi S hE hW hS 32 (had32.trans hsz.symm) (hw_z hW h_481) q_ac_int (by decide) rfl (Nat.le_of_ble_eq_true rfl) (Nat.le_of_ble_eq_true rfl) (Nat.le_of_ble_eq_true rfl) dX5_init_1934 (fun H ct_482 hW hk_483 hg_484 hz hS => ?_)
  have hsz := hz.trans (congrArg (· + 1) hsz)
  have h_485 := (hg_484 10 (by decide)).trans h_463
  have h_486 := (hg_484 11 (by decide)).trans h_464
  have h_487 := (hg_484 12 (by decide)).trans h_465
  have h_488 := (hg_484 13 (by decide)).trans h_466
  have h_489 := (hg_484 14 (by decide)).trans h_467
  have h_490 := (hg_484 15 (by decide)).trans h_468
  have h_491 := (hg_484 16 (by decide)).trans h_469
  have h_492 := (hg_484 17 (by decide)).trans h_470
  have h_493 := (hg_484 18 (by decide)).trans h_471
  have h_494 := (hg_484 19 (by decide)).trans h_472
  have h_495 := (hg_484 20 (by decide)).trans h_473
  have h_496 := (hg_484 21 (by decide)).trans h_474
  have h_497 := (hg_484 23 (by decide)).trans h_475
  have h_498 := (hg_484 24 (by decide)).trans h_476
  have h_499 := (hg_484 26 (by decide)).trans h_477
  have h_500 := (hg_484 27 (by decide)).trans h_478
  have h_501 := (hg_484 28 (by decide)).trans h_479
  have h_502 := (hg_484 29 (by decide)).trans h_480
  have h_503 := (hg_484 8 (by decide)).trans h_481
  have h_504 : ct_482 32 = some (.inl (G.2.1.1, 100, .inl (fun _ => 0))) := hk_483
  refine hr_putF S hE hW hS h_503 inX5 (C := RX5) (T := TX5) (N := 28) tyX5_ok nmX5 rfl 22 (by decide) q_f_5_65 rfl (hin rfl) rfl rfl rfl (Nat.le_of_ble_eq_true rfl) dX5_init_1936 (fun H locs ct_505 hW hk_506 hg_507 hz hS => ?_)
  have hsz := hz.trans hsz
  have h_508 := (hg_507 10 (by decide)).trans h_485
  have h_509 := (hg_507 11 (by decide)).trans h_486
  have h_510 := (hg_507 12 (by decide)).trans h_487
  have h_511 := (hg_507 13 (by decide)).trans h_488
  have h_512 := (hg_507 14 (by decide)).trans h_489
  have h_513 := (hg_507 15 (by decide)).trans h_490
  have h_514 := (hg_507 16 (by decide)).trans h_491
  have h_515 := (hg_507 17 (by decide)).trans h_492
  have h_516 := (hg_507 18 (by decide)).trans h_493
  have h_517 := (hg_507 19 (by decide)).trans h_494
  have h_518 := (hg_507 20 (by decide)).trans h_495
  have h_519 := (hg_507 21 (by decide)).trans h_496
  have h_520 := (hg_507 23 (by decide)).trans h_497
  have h_521 := (hg_507 24 (by decide)).trans h_498
  have h_522 := (hg_507 26 (by decide)).trans h_499
  have h_523 := (hg_507 27 (by decide)).trans h_500
  have h_524 := (hg_507 28 (by decide)).trans h_501
  have h_525 := (hg_507 29 (by decide)).trans h_502
  have h_526 := (hg_507 32 (by decide)).trans h_504
  have h_527 : ct_505 8 = some (.inr (5, [.ref (ad 10), .ref (ad 11), .ref (ad 12), .ref (ad 13), .ref (ad 14), .ref (ad 15), .ref (ad 16), .ref (ad 17), .ref (ad 18), .ref (ad 19), .ref (ad 20), .ref (ad 21), .int 0, .ref (ad 23), .ref (ad 24), .int 0, .ref (ad 26), .ref (ad 27), .ref (ad 28), .ref (ad 29), .int 0, .int 0, .ref (ad 32), .null, .null, .null, .int 0, .int 0])) := hk_506
  refine lv_aload_n hx hb dX5_init_1939 rfl (lv_at hl 0 rfl) ?_
  refine lv_bipush (v := 100) hx hb dX5_init_1940 (by decide) ?_
  refine hr_newi S hE hW hS 33 (had33.trans hsz.symm) (hw_z hW h_527) q_ac_int (by decide) rfl (Nat.le_of_ble_eq_true rfl) (Nat.le_of_ble_eq_true rfl) (Nat.le_of_ble_eq_true rfl) dX5_init_1942 (fun H ct_528 hW hk_529 hg_530 hz hS => ?_)
  have hsz := hz.trans (congrArg (· + 1) hsz)
  have h_531 := (hg_530 10 (by decide)).trans h_508
  have h_532 := (hg_530 11 (by decide)).trans h_509
  have h_533 := (hg_530 12 (by decide)).trans h_510
  have h_534 := (hg_530 13 (by decide)).trans h_511
  have h_535 := (hg_530 14 (by decide)).trans h_512
  have h_536 := (hg_530 15 (by decide)).trans h_513
  have h_537 := (hg_530 16 (by decide)).trans h_514
  have h_538 := (hg_530 17 (by decide)).trans h_515
  have h_539 := (hg_530 18 (by decide)).trans h_516
  have h_540 := (hg_530 19 (by decide)).trans h_517
  have h_541 := (hg_530 20 (by decide)).trans h_518
  have h_542 := (hg_530 21 (by decide)).trans h_519
  have h_543 := (hg_530 23 (by decide)).trans h_520
  have h_544 := (hg_530 24 (by decide)).trans h_521
  have h_545 := (hg_530 26 (by decide)).trans h_522
  have h_546 := (hg_530 27 (by decide)).trans h_523
  have h_547 := (hg_530 28 (by decide)).trans h_524
  have h_548 := (hg_530 29 (by decide)).trans h_525
  have h_549 := (hg_530 32 (by decide)).trans h_526
  have h_550 := (hg_530 8 (by decide)).trans h_527
  have h_551 : ct_528 33 = some (.inl (G.2.1.1, 100, .inl (fun _ => 0))) := hk_529
  refine hr_putF S hE hW hS h_550 inX5 (C := RX5) (T := TX5) (N := 28) tyX5_ok nmX5 rfl 23 (by decide) q_f_5_68 rfl (hin rfl) rfl rfl rfl (Nat.le_of_ble_eq_true rfl) dX5_init_1944 (fun H locs ct_552 hW hk_553 hg_554 hz hS => ?_)
  have hsz := hz.trans hsz
  have h_555 := (hg_554 10 (by decide)).trans h_531
  have h_556 := (hg_554 11 (by decide)).trans h_532
  have h_557 := (hg_554 12 (by decide)).trans h_533
  have h_558 := (hg_554 13 (by decide)).trans h_534
  have h_559 := (hg_554 14 (by decide)).trans h_535
  have h_560 := (hg_554 15 (by decide)).trans h_536
  have h_561 := (hg_554 16 (by decide)).trans h_537
  have h_562 := (hg_554 17 (by decide)).trans h_538
  have h_563 := (hg_554 18 (by decide)).trans h_539
  have h_564 := (hg_554 19 (by decide)).trans h_540
  have h_565 := (hg_554 20 (by decide)).trans h_541
  have h_566 := (hg_554 21 (by decide)).trans h_542
  have h_567 := (hg_554 23 (by decide)).trans h_543
  have h_568 := (hg_554 24 (by decide)).trans h_544
  have h_569 := (hg_554 26 (by decide)).trans h_545
  have h_570 := (hg_554 27 (by decide)).trans h_546
  have h_571 := (hg_554 28 (by decide)).trans h_547
  have h_572 := (hg_554 29 (by decide)).trans h_548
  have h_573 := (hg_554 32 (by decide)).trans h_549
  have h_574 := (hg_554 33 (by decide)).trans h_551
  have h_575 : ct_552 8 = some (.inr (5, [.ref (ad 10), .ref (ad 11), .ref (ad 12), .ref (ad 13), .ref (ad 14), .ref (ad 15), .ref (ad 16), .ref (ad 17), .ref (ad 18), .ref (ad 19), .ref (ad 20), .ref (ad 21), .int 0, .ref (ad 23), .ref (ad 24), .int 0, .ref (ad 26), .ref (ad 27), .ref (ad 28), .ref (ad 29), .int 0, .int 0, .ref (ad 32), .ref (ad 33), .null, .null, .int 0, .int 0])) := hk_553
  refine lv_aload_n hx hb dX5_init_1947 rfl (lv_at hl 0 rfl) ?_
  refine lv_bipush (v := 100) hx hb dX5_init_1948 (by decide) ?_
  refine hr_newi S hE hW hS 34 (had34.trans hsz.symm) (hw_z hW h_575) q_ac_int (by decide) rfl (Nat.le_of_ble_eq_true rfl) (Nat.le_of_ble_eq_true rfl) (Nat.le_of_ble_eq_true rfl) dX5_init_1950 (fun H ct_576 hW hk_577 hg_578 hz hS => ?_)
  have hsz := hz.trans (congrArg (· + 1) hsz)
  have h_579 := (hg_578 10 (by decide)).trans h_555
  have h_580 := (hg_578 11 (by decide)).trans h_556
  have h_581 := (hg_578 12 (by decide)).trans h_557
  have h_582 := (hg_578 13 (by decide)).trans h_558
  have h_583 := (hg_578 14 (by decide)).trans h_559
  have h_584 := (hg_578 15 (by decide)).trans h_560
  have h_585 := (hg_578 16 (by decide)).trans h_561
  have h_586 := (hg_578 17 (by decide)).trans h_562
  have h_587 := (hg_578 18 (by decide)).trans h_563
  have h_588 := (hg_578 19 (by decide)).trans h_564
  have h_589 := (hg_578 20 (by decide)).trans h_565
  have h_590 := (hg_578 21 (by decide)).trans h_566
  have h_591 := (hg_578 23 (by decide)).trans h_567
  have h_592 := (hg_578 24 (by decide)).trans h_568
  have h_593 := (hg_578 26 (by decide)).trans h_569
  have h_594 := (hg_578 27 (by decide)).trans h_570
  have h_595 := (hg_578 28 (by decide)).trans h_571
  have h_596 := (hg_578 29 (by decide)).trans h_572
  have h_597 := (hg_578 32 (by decide)).trans h_573
  have h_598 := (hg_578 33 (by decide)).trans h_574
  have h_599 := (hg_578 8 (by decide)).trans h_575
  have h_600 : ct_576 34 = some (.inl (G.2.1.1, 100, .inl (fun _ => 0))) := hk_577
  refine hr_putF S hE hW hS h_599 inX5 (C := RX5) (T := TX5) (N := 28) tyX5_ok nmX5 rfl 24 (by decide) q_f_5_71 rfl (hin rfl) rfl rfl rfl (Nat.le_of_ble_eq_true rfl) dX5_init_1952 (fun H locs ct_601 hW hk_602 hg_603 hz hS => ?_)
  have hsz := hz.trans hsz
  have h_604 := (hg_603 10 (by decide)).trans h_579
  have h_605 := (hg_603 11 (by decide)).trans h_580
  have h_606 := (hg_603 12 (by decide)).trans h_581
  have h_607 := (hg_603 13 (by decide)).trans h_582
  have h_608 := (hg_603 14 (by decide)).trans h_583
  have h_609 := (hg_603 15 (by decide)).trans h_584
  have h_610 := (hg_603 16 (by decide)).trans h_585
  have h_611 := (hg_603 17 (by decide)).trans h_586
  have h_612 := (hg_603 18 (by decide)).trans h_587
  have h_613 := (hg_603 19 (by decide)).trans h_588
  have h_614 := (hg_603 20 (by decide)).trans h_589
  have h_615 := (hg_603 21 (by decide)).trans h_590
  have h_616 := (hg_603 23 (by decide)).trans h_591
  have h_617 := (hg_603 24 (by decide)).trans h_592
  have h_618 := (hg_603 26 (by decide)).trans h_593
  have h_619 := (hg_603 27 (by decide)).trans h_594
  have h_620 := (hg_603 28 (by decide)).trans h_595
  have h_621 := (hg_603 29 (by decide)).trans h_596
  have h_622 := (hg_603 32 (by decide)).trans h_597
  have h_623 := (hg_603 33 (by decide)).trans h_598
  have h_624 := (hg_603 34 (by decide)).trans h_600
  have h_625 : ct_601 8 = some (.inr (5, [.ref (ad 10), .ref (ad 11), .ref (ad 12), .ref (ad 13), .ref (ad 14), .ref (ad 15), .ref (ad 16), .ref (ad 17), .ref (ad 18), .ref (ad 19), .ref (ad 20), .ref (ad 21), .int 0, .ref (ad 23), .ref (ad 24), .int 0, .ref (ad 26), .ref (ad 27), .ref (ad 28), .ref (ad 29), .int 0, .int 0, .ref (ad 32), .ref (ad 33), .ref (ad 34), .null, .int 0, .int 0])) := hk_602
  refine lv_aload_n hx hb dX5_init_1955 rfl (lv_at hl 0 rfl) ?_
  refine lv_sipush (v := 300) hx hb dX5_init_1956 (by decide) ?_
  refine hr_newi S hE hW hS 35 (had35.trans hsz.symm) (hw_z hW h_625) q_ac_int (by decide) rfl (Nat.le_of_ble_eq_true rfl) (Nat.le_of_ble_eq_true rfl) (Nat.le_of_ble_eq_true rfl) dX5_init_1959 (fun H ct_626 hW hk_627 hg_628 hz hS => ?_)
  have hsz := hz.trans (congrArg (· + 1) hsz)
  have h_629 := (hg_628 10 (by decide)).trans h_604
  have h_630 := (hg_628 11 (by decide)).trans h_605
  have h_631 := (hg_628 12 (by decide)).trans h_606
  have h_632 := (hg_628 13 (by decide)).trans h_607
  have h_633 := (hg_628 14 (by decide)).trans h_608
  have h_634 := (hg_628 15 (by decide)).trans h_609
  have h_635 := (hg_628 16 (by decide)).trans h_610
  have h_636 := (hg_628 17 (by decide)).trans h_611
  have h_637 := (hg_628 18 (by decide)).trans h_612
  have h_638 := (hg_628 19 (by decide)).trans h_613
  have h_639 := (hg_628 20 (by decide)).trans h_614
  have h_640 := (hg_628 21 (by decide)).trans h_615
  have h_641 := (hg_628 23 (by decide)).trans h_616
  have h_642 := (hg_628 24 (by decide)).trans h_617
  have h_643 := (hg_628 26 (by decide)).trans h_618
  have h_644 := (hg_628 27 (by decide)).trans h_619
  have h_645 := (hg_628 28 (by decide)).trans h_620
  have h_646 := (hg_628 29 (by decide)).trans h_621
  have h_647 := (hg_628 32 (by decide)).trans h_622
  have h_648 := (hg_628 33 (by decide)).trans h_623
  have h_649 := (hg_628 34 (by decide)).trans h_624
  have h_650 := (hg_628 8 (by decide)).trans h_625
  have h_651 : ct_626 35 = some (.inl (G.2.1.1, 300, .inl (fun _ => 0))) := hk_627
  refine hr_putF S hE hW hS h_650 inX5 (C := RX5) (T := TX5) (N := 28) tyX5_ok nmX5 rfl 25 (by decide) q_f_5_74 rfl (hin rfl) rfl rfl rfl (Nat.le_of_ble_eq_true rfl) dX5_init_1961 (fun H locs ct_652 hW hk_653 hg_654 hz hS => ?_)
  have hsz := hz.trans hsz
  have h_655 := (hg_654 10 (by decide)).trans h_629
  have h_656 := (hg_654 11 (by decide)).trans h_630
  have h_657 := (hg_654 12 (by decide)).trans h_631
  have h_658 := (hg_654 13 (by decide)).trans h_632
  have h_659 := (hg_654 14 (by decide)).trans h_633
  have h_660 := (hg_654 15 (by decide)).trans h_634
  have h_661 := (hg_654 16 (by decide)).trans h_635
  have h_662 := (hg_654 17 (by decide)).trans h_636
  have h_663 := (hg_654 18 (by decide)).trans h_637
  have h_664 := (hg_654 19 (by decide)).trans h_638
  have h_665 := (hg_654 20 (by decide)).trans h_639
  have h_666 := (hg_654 21 (by decide)).trans h_640
  have h_667 := (hg_654 23 (by decide)).trans h_641
  have h_668 := (hg_654 24 (by decide)).trans h_642
  have h_669 := (hg_654 26 (by decide)).trans h_643
  have h_670 := (hg_654 27 (by decide)).trans h_644
  have h_671 := (hg_654 28 (by decide)).trans h_645
  have h_672 := (hg_654 29 (by decide)).trans h_646
  have h_673 := (hg_654 32 (by decide)).trans h_647
  have h_674 := (hg_654 33 (by decide)).trans h_648
  have h_675 := (hg_654 34 (by decide)).trans h_649
  have h_676 := (hg_654 35 (by decide)).trans h_651
  have h_677 : ct_652 8 = some (.inr (5, [.ref (ad 10), .ref (ad 11), .ref (ad 12), .ref (ad 13), .ref (ad 14), .ref (ad 15), .ref (ad 16), .ref (ad 17), .ref (ad 18), .ref (ad 19), .ref (ad 20), .ref (ad 21), .int 0, .ref (ad 23), .ref (ad 24), .int 0, .ref (ad 26), .ref (ad 27), .ref (ad 28), .ref (ad 29), .int 0, .int 0, .ref (ad 32), .ref (ad 33), .ref (ad 34), .ref (ad 35), .int 0, .int 0])) := hk_653
  have hag1 : ∀ j, j ≠ 8 → j ≠ 10 → j ≠ 11 → j ≠ 12 → j ≠ 13 → j ≠ 14 → j ≠ 15 → j ≠ 16 → j ≠ 17 → j ≠ 18 → j ≠ 19 → j ≠ 20 → j ≠ 21 → j ≠ 23 → j ≠ 24 → j ≠ 26 → j ≠ 27 → j ≠ 28 → j ≠ 29 → j ≠ 32 → j ≠ 33 → j ≠ 34 → j ≠ 35 → ct_652 j = ct j := (fun j q0 q1 q2 q3 q4 q5 q6 q7 q8 q9 q10 q11 q12 q13 q14 q15 q16 q17 q18 q19 q20 q21 q22 => (hg_654 j q0).trans ((hg_628 j q22).trans ((hg_603 j q0).trans ((hg_578 j q21).trans ((hg_554 j q0).trans ((hg_530 j q20).trans ((hg_507 j q0).trans ((hg_484 j q19).trans ((hg_462 j q0).trans ((hg_440 j q18).trans ((hg_419 j q0).trans ((hg_398 j q17).trans ((hg_378 j q0).trans ((hg_358 j q16).trans ((hg_339 j q0).trans ((hg_320 j q15).trans ((hg_302 j q0).trans ((hg_284 j q14).trans ((hg_267 j q0).trans ((hg_250 j q13).trans ((hg_234 j q0).trans ((hg_218 j q12).trans ((hg_203 j q0).trans ((hg_188 j q11).trans ((hg_174 j q0).trans ((hg_160 j q10).trans ((hg_147 j q0).trans ((hg_134 j q9).trans ((hg_122 j q0).trans ((hg_110 j q8).trans ((hg_99 j q0).trans ((hg_88 j q7).trans ((hg_78 j q0).trans ((hg_68 j q6).trans ((hg_59 j q0).trans ((hg_50 j q5).trans ((hg_42 j q0).trans ((hg_34 j q4).trans ((hg_27 j q0).trans ((hg_20 j q3).trans ((hg_14 j q0).trans ((hg_8 j q2).trans (hg_3 j q0)))))))))))))))))))))))))))))))))))))))))))
  exact hnext ct_652 _ _ _ ⟨h_677, h_655, h_656, h_657, h_658, h_659, h_660, h_661, h_662, ⟨⟨h_663, h_664, h_665, h_666⟩, ⟨h_667, h_668⟩, ⟨h_669, h_670, h_671, h_672⟩, h_673, h_674, h_675, h_676⟩, fun j hj => (hag1 j (by omega) (by omega) (by omega) (by omega) (by omega) (by omega) (by omega) (by omega) (by omega) (by omega) (by omega) (by omega) (by omega) (by omega) (by omega) (by omega) (by omega) (by omega) (by omega) (by omega) (by omega) (by omega) (by omega)).trans (hag0 j hj)⟩ hW hS (lv_sub hl [0] rfl)
theorem IC_RM {G : hG} {ad : Nat → Nat} {ct0 ct : Nat → Option va_E} (h : IC G ad ct0 ct (staT, parT, beaT, hasT, choT, aoT, akT)) : RM G ad ct 0 (fun _ => 0) (fun _ => 0, fun _ => 0, 0, fun _ => 0) (fun _ => 0) (0, fun _ => 0, fun _ => 0) 0 ∧ agX ct ct0 := by
  obtain ⟨h8, h10, h11, h12, h13, h14, h15, h16, h17, ⟨⟨a1, a2, a3, a4⟩, ⟨b1, b2⟩, ⟨c1, c2, c3, c4⟩, d1, d2, d3, d4⟩, ha⟩ := h
  have hk : kdM (fun _ => 0) = zF := rfl
  refine ⟨⟨⟨0, 0, _, _, _, _, h8, a2, a3, c4, d1, d2, d3, d4⟩, ⟨h10, h11, h12, h15, by rw [hk]; exact a1⟩, ⟨h13, h16, h17, a4, by show ct 23 = some (.inl (G.2.1.1, 400, .inl (kdM (fun _ => 0)))); rw [hk]; exact b1, by show ct 24 = some (.inl (G.2.1.1, 400, .inl (kdM (fun _ => 0)))); rw [hk]; exact b2, _, _, _, c1, c2, c3⟩, by omega, by show 0 ≤ 400; omega, fun j hj => absurd hj (Nat.not_lt_zero j), fun i => by show 0 < 11; omega⟩, ha⟩
theorem ini_J {p : Program} {l : Launch} {e : Env} {s : State} {m : MethodId} {args : Array Value} {below : List Frame} {meth : Method} {c : Code} {G : hG} {ad : Nat → Nat} {ct0 : Nat → Option va_E} (S : CallFix p m c cX5_init 3 s args WS yX5_init.cls) (hE : gE G s) (hr : meth.sig.returnType = none) (hlk : meth.locks = false) : HI p l e s m args below meth c (MQ below (hQv (fun ct1 => RM G ad ct1 0 (fun _ => 0) (fun _ => 0, fun _ => 0, 0, fun _ => 0) (fun _ => 0) (0, fun _ => 0, fun _ => 0) 0 ∧ agX ct1 ct0) G ad) args s 22 4584 (hA G.2.2.2)) G ad ct0 2800 (staT, parT, beaT, hasT, choT, aoT, akT) := by
  intro ct H locs ls hI hW hS hl
  exact h_vret S hr hlk hS hW dX5_init_2800 (IC_RM hI)
set_option maxRecDepth 100000 in
set_option maxHeartbeats 4000000 in
theorem c_X5_init (l : Launch) (G : hG) (ad : Nat → Nat) (ct : Nat → Option va_E) {N : Nat} (hk : ct 8 = some (.inr (5, [.null, .null, .null, .null, .null, .null, .null, .null, .null, .null, .null, .null, .int 0, .null, .null, .int 0, .null, .null, .null, .null, .int 0, .int 0, .null, .null, .null, .null, .int 0, .int 0]))) (had10 : ad 10 = N + 0) (had11 : ad 11 = N + 1) (had12 : ad 12 = N + 2) (had13 : ad 13 = N + 3) (had14 : ad 14 = N + 4) (had15 : ad 15 = N + 5) (had16 : ad 16 = N + 6) (had17 : ad 17 = N + 7) (had18 : ad 18 = N + 8) (had19 : ad 19 = N + 9) (had20 : ad 20 = N + 10) (had21 : ad 21 = N + 11) (had23 : ad 23 = N + 12) (had24 : ad 24 = N + 13) (had26 : ad 26 = N + 14) (had27 : ad 27 = N + 15) (had28 : ad 28 = N + 16) (had29 : ad 29 = N + 17) (had32 : ad 32 = N + 18) (had33 : ad 33 = N + 19) (had34 : ad 34 = N + 20) (had35 : ad 35 = N + 21) : Met l yX5_init wzX5_init ({ frames := 4, cells := 22, slots := 4584, locals := 89 } : Room) (hPz [.ref (ad 8)] G ad ct N) (hQv (fun ct1 => RM G ad ct1 0 (fun _ => 0) (fun _ => 0, fun _ => 0, 0, fun _ => 0) (fun _ => 0) (0, fun _ => 0, fun _ => 0) 0 ∧ agX ct1 ct) G ad) 22 4584 (hA G.2.2.2) := by
  refine hMetz (by decide) (Nat.le_of_ble_eq_true rfl) (fun p e s m below meth c ls S hr hlk hin hE hW hsz hl => ?_)
  obtain ⟨hx, hb, hml, hown, hts⟩ := id S
  have hS : va_S (hA G.2.2.2) s.heap s.heap [] := va_S.rf
  have hl : lv_has ls 3 [(0, .ref (ad 8))] := hl
  refine lv_aload_n hx hb dX5_init_0 rfl (lv_at hl 0 rfl) ?_
  refine W.objInit hx hb hown (hts _ q_l_5_1) (hts _ q_im_O) (hts _ q_co_O) rfl (by rw [hml]; exact hl.1) rfl dX5_init_1 (Nat.le_of_ble_eq_true rfl) (Nat.le_of_ble_eq_true rfl) ?_
  refine W.eq (g2 := F0 m 4 ls []) rfl ?_
  refine lv_aload_n hx hb dX5_init_4 rfl (lv_at hl 0 rfl) ?_
  refine lv_sipush (v := 246) hx hb dX5_init_5 (by decide) ?_
  refine hr_newi S hE hW hS 10 (had10.trans hsz.symm) (hw_z hW hk) q_ac_int (by decide) rfl (Nat.le_of_ble_eq_true rfl) (Nat.le_of_ble_eq_true rfl) (Nat.le_of_ble_eq_true rfl) dX5_init_8 (fun H ct_1 hW hk_2 hg_3 hz hS => ?_)
  have hsz := hz.trans (congrArg (· + 1) hsz)
  have h_4 := (hg_3 8 (by decide)).trans hk
  have J := ini_J (l := l) (p := p) (e := e) (ad := ad) (ct0 := ct) (below := below) (args := [.ref (ad 8)].toArray) S hE hr hlk
  have A := ini_full (ls := ls) (ct0 := ct_1) (N := N + 1) S hE (l := l) (p := p) (e := e) (R := ({ frames := 4, cells := 22, slots := 4584, locals := 89 } : Room)) (cells := 1) (slots := 246) (ad := ad) (below := below) (fun ct H locs hW hsz h10 hag hS => ini_B S hE hin had10 had11 had12 had13 had14 had15 had16 had17 had18 had19 had20 had21 had23 had24 had26 had27 had28 had29 had32 had33 had34 had35 (ini_C S hE (ini_D S hE (ini_E S hE (ini_F S hE (ini_G S hE (ini_H S hE (ini_I S hE J))))))) hW hsz ((hag 8 (by decide)).trans h_4) (by rw [← codC_all]; exact h10) (fun j hj => (hag j (by omega)).trans (hg_3 j (by omega))) hS hl)
  exact A ct_1 _ _ hW hsz (by rw [← codC_0]; exact hk_2) (fun j _ => rfl) hS
