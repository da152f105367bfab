/-! THE TYPED MACHINE, 18: the contracts, 0 -/
abbrev tk_0 : ty_Ct := (67, 1, 1572864, 0, 0, [(2, 1, 0, 0, 0), (0, 0, 0, (-2147483648), 2147483647)], [(1, 2, (0, 0, 0, 0, 180))], [(.inl none, [])])
abbrev tu_0 : List ty_Cu := [(3, [(0, (2, 1, 0, 0, 0)), (1, (0, 0, 0, (-2147483648), 2147483647)), (2, (0, 0, 0, (-999999), 24))], [], 0, 0, 0, 1, [(0, 2, 0, false)])]
theorem tk_0_ok {I : ax_H → Prop} {l : Launch} (G : ty_G I l) : ty_M I l tk_0 := ty_ckC_ok (c := tk_0) G.1 G.2.1 G.2.2.1 1572864 [] [3] tu_0 2 (by decide +kernel) ty_c0
abbrev tk_1 : ty_Ct := (67, 1, 1572864, 0, 0, [(2, 1, 0, 0, 0), (0, 0, 0, (-2147483648), 2147483647)], [], [(.inl none, [])])
abbrev tu_1 : List ty_Cu := [(3, [(0, (2, 1, 0, 0, 0)), (1, (0, 0, 0, (-2147483648), 2147483647)), (2, (0, 0, 0, (-999999), 24))], [], 0, 0, 0, 1, [(0, 2, 0, false)])]
theorem tk_1_ok {I : ax_H → Prop} {l : Launch} (G : ty_G I l) : ty_M I l tk_1 := ty_ckC_ok (c := tk_1) G.1 G.2.1 G.2.2.1 1572864 [] [3] tu_1 2 (by decide +kernel) ty_c0
abbrev tk_2 : ty_Ct := (70, 2, 1572864, 1, 6, [(2, 0, 0, 0, 0), (0, 0, 0, (-2147483648), 2147483647), (0, 0, 0, (-2147483648), 2147483647), (0, 0, 0, (-2147483648), 2147483647), (0, 0, 0, (-2147483648), 2147483647), (0, 0, 0, (-2147483648), 2147483647)], [], [(.inr "java/lang/IllegalStateException", [(1, 2, (0, 0, 0, 181, 200))]), (.inl (some (0, 0, 0, 0, 200)), [])])
theorem tk_2_ok {I : ax_H → Prop} {l : Launch} (G : ty_G I l) : ty_M I l tk_2 := ty_ckC_ok (c := tk_2) G.1 G.2.1 G.2.2.1 1572864 [tk_0, tk_1] [] [] 1 (by decide +kernel) (ty_cc (tk_0_ok G) (ty_cc (tk_1_ok G) ty_c0))
abbrev tk_3 : ty_Ct := (219, 3, 1298074214633706907132624083877888, 1, 6, [(2, 0, 0, 0, 0), (0, 0, 0, (-2147483648), 2147483647), (0, 0, 0, (-2147483648), 2147483647), (0, 0, 0, (-2147483648), 2147483647), (0, 0, 0, (-2147483648), 2147483647), (0, 0, 0, (-2147483648), 2147483647), (2, 197, 0, 0, 0)], [], [(.inl (some (0, 0, 0, 0, 1)), [])])
theorem tk_3_ok {I : ax_H → Prop} {l : Launch} (G : ty_G I l) : ty_M I l tk_3 := ty_ckC_ok (c := tk_3) G.1 G.2.1 G.2.2.1 1298074214633706907132624083877888 [tk_2] [] [] 1 (by decide +kernel) (ty_cc (tk_2_ok G) ty_c0)
abbrev tk_4 : ty_Ct := (71, 1, 524288, 1, 6, [(2, 0, 0, 0, 0), (0, 0, 0, (-2147483648), 2147483647)], [], [(.inr "java/lang/IllegalArgumentException", []), (.inl (some (0, 0, 0, 0, 200)), [])])
theorem tk_4_ok {I : ax_H → Prop} {l : Launch} (G : ty_G I l) : ty_M I l tk_4 := ty_ckC_ok (c := tk_4) G.1 G.2.1 G.2.2.1 524288 [] [] [] 1 (by decide +kernel) ty_c0
abbrev tk_5 : ty_Ct := (220, 2, 1298074214633706907132624082829312, 1, 6, [(2, 0, 0, 0, 0), (0, 0, 0, (-2147483648), 2147483647), (2, 197, 0, 0, 0)], [], [(.inl (some (0, 0, 0, 0, 1)), [])])
theorem tk_5_ok {I : ax_H → Prop} {l : Launch} (G : ty_G I l) : ty_M I l tk_5 := ty_ckC_ok (c := tk_5) G.1 G.2.1 G.2.2.1 1298074214633706907132624082829312 [tk_4] [] [] 1 (by decide +kernel) (ty_cc (tk_4_ok G) ty_c0)
abbrev tk_6 : ty_Ct := (253, 1, 4503600701112320, 0, 0, [(2, 4, 0, 0, 0), (0, 0, 0, 0, 0)], [], [(.inl none, [])])
abbrev tu_6 : List ty_Cu := [(5, [(0, (2, 4, 0, 0, 0)), (1, (0, 0, 0, 0, 0)), (2, (0, 0, 0, 0, 24)), (3, (0, 0, 0, 24, 24))], [], 0, 0, 0, 1, [(0, 2, 0, true)])]
theorem tk_6_ok {I : ax_H → Prop} {l : Launch} (G : ty_G I l) : ty_M I l tk_6 := ty_ckC_ok (c := tk_6) G.1 G.2.1 G.2.2.1 4503600701112320 [] [5] tu_6 2 (by decide +kernel) ty_c0
abbrev tk_7 : ty_Ct := (68, 1, 0, 0, 0, [(2, 1, 0, 0, 0), (0, 0, 0, 0, 199)], [], [(.inl (some (0, 0, 0, (-1), 255)), [])])
theorem tk_7_ok {I : ax_H → Prop} {l : Launch} (G : ty_G I l) : ty_M I l tk_7 := ty_ckC_ok (c := tk_7) G.1 G.2.1 G.2.2.1 0 [] [] [] 1 (by decide +kernel) ty_c0
abbrev tk_8 : ty_Ct := (65, 1, 0, 0, 0, [(0, 0, 0, 58, 255)], [], [(.inl (some (0, 0, 0, 0, 0)), [])])
theorem tk_8_ok {I : ax_H → Prop} {l : Launch} (G : ty_G I l) : ty_M I l tk_8 := ty_ckC_ok (c := tk_8) G.1 G.2.1 G.2.2.1 0 [] [] [] 1 (by decide +kernel) ty_c0
abbrev tk_9 : ty_Ct := (64, 1, 12582912, 0, 0, [(2, 3, 0, 0, 0), (0, 0, 0, 0, 9), (0, 0, 0, 0, 2)], [(3, 2, (0, 0, 0, 0, 199))], [(.inl none, [])])
theorem tk_9_ok {I : ax_H → Prop} {l : Launch} (G : ty_G I l) : ty_M I l tk_9 := ty_ckC_ok (c := tk_9) G.1 G.2.1 G.2.2.1 12582912 [] [] [] 1 (by decide +kernel) ty_c0
abbrev tk_10 : ty_Ct := (68, 1, 0, 0, 0, [(2, 1, 0, 0, 0), (0, 0, 0, 200, 200)], [], [(.inl (some (0, 0, 0, (-1), (-1))), [])])
theorem tk_10_ok {I : ax_H → Prop} {l : Launch} (G : ty_G I l) : ty_M I l tk_10 := ty_ckC_ok (c := tk_10) G.1 G.2.1 G.2.2.1 0 [] [] [] 1 (by decide +kernel) ty_c0
abbrev tk_11 : ty_Ct := (64, 1, 12582912, 0, 0, [(2, 3, 0, 0, 0), (0, 0, 0, 0, 9), (0, 0, 0, 0, 0)], [(3, 2, (0, 0, 0, 0, 199))], [(.inl none, [(3, 2, (0, 0, 0, 0, 199))])])
theorem tk_11_ok {I : ax_H → Prop} {l : Launch} (G : ty_G I l) : ty_M I l tk_11 := ty_ckC_ok (c := tk_11) G.1 G.2.1 G.2.2.1 12582912 [] [] [] 1 (by decide +kernel) ty_c0
abbrev tk_12 : ty_Ct := (63, 2, 12582912, 0, 0, [(2, 3, 0, 0, 0), (0, 0, 0, 0, 255)], [(3, 2, (0, 0, 0, 0, 199))], [(.inl none, [])])
theorem tk_12_ok {I : ax_H → Prop} {l : Launch} (G : ty_G I l) : ty_M I l tk_12 := ty_ckC_ok (c := tk_12) G.1 G.2.1 G.2.2.1 12582912 [tk_11, tk_9, tk_10, tk_7] [] [] 1 (by decide +kernel) (ty_cc (tk_11_ok G) (ty_cc (tk_9_ok G) (ty_cc (tk_10_ok G) (ty_cc (tk_7_ok G) ty_c0))))
abbrev tk_13 : ty_Ct := (65, 1, 0, 0, 0, [(0, 0, 0, 48, 57)], [], [(.inl (some (0, 0, 0, 1, 1)), [])])
theorem tk_13_ok {I : ax_H → Prop} {l : Launch} (G : ty_G I l) : ty_M I l tk_13 := ty_ckC_ok (c := tk_13) G.1 G.2.1 G.2.2.1 0 [] [] [] 1 (by decide +kernel) ty_c0
abbrev tk_14 : ty_Ct := (65, 1, 0, 0, 0, [(0, 0, 0, (-1), 47)], [], [(.inl (some (0, 0, 0, 0, 0)), [])])
theorem tk_14_ok {I : ax_H → Prop} {l : Launch} (G : ty_G I l) : ty_M I l tk_14 := ty_ckC_ok (c := tk_14) G.1 G.2.1 G.2.2.1 0 [] [] [] 1 (by decide +kernel) ty_c0
abbrev tk_15 : ty_Ct := (62, 2, 46137344, 0, 0, [(2, 3, 0, 0, 0)], [(3, 2, (0, 0, 0, 0, 199))], [(.inl none, [(3, 2, (0, 0, 0, 0, 200)), (3, 3, (0, 0, 0, 1, 2))])])
abbrev tu_15 : List ty_Cu := [(7, [(0, (2, 3, 0, 0, 0)), (1, (0, 0, 0, (-2147483648), 2147483647))], [(3, 2, (0, 0, 0, 0, 200))], 0, 0, 0, 1, [(1, 3, 1, true)])]
theorem tk_15_ok {I : ax_H → Prop} {l : Launch} (G : ty_G I l) : ty_M I l tk_15 := ty_ckC_ok (c := tk_15) G.1 G.2.1 G.2.2.1 46137344 [tk_13, tk_14, tk_8, tk_7] [7] tu_15 2 (by decide +kernel) (ty_cc (tk_13_ok G) (ty_cc (tk_14_ok G) (ty_cc (tk_8_ok G) (ty_cc (tk_7_ok G) ty_c0))))
abbrev tk_16 : ty_Ct := (63, 2, 12582912, 0, 0, [(2, 3, 0, 0, 0), (0, 0, 0, (-1), 47)], [(3, 2, (0, 0, 0, 0, 199))], [(.inl none, [])])
theorem tk_16_ok {I : ax_H → Prop} {l : Launch} (G : ty_G I l) : ty_M I l tk_16 := ty_ckC_ok (c := tk_16) G.1 G.2.1 G.2.2.1 12582912 [tk_11, tk_9, tk_10, tk_7] [] [] 1 (by decide +kernel) (ty_cc (tk_11_ok G) (ty_cc (tk_9_ok G) (ty_cc (tk_10_ok G) (ty_cc (tk_7_ok G) ty_c0))))
abbrev tk_17 : ty_Ct := (68, 1, 0, 0, 0, [(2, 1, 0, 0, 0), (0, 0, 0, (-2147483648), 2147483647)], [], [(.inl (some (0, 0, 0, (-1), 255)), [])])
theorem tk_17_ok {I : ax_H → Prop} {l : Launch} (G : ty_G I l) : ty_M I l tk_17 := ty_ckC_ok (c := tk_17) G.1 G.2.1 G.2.2.1 0 [] [] [] 1 (by decide +kernel) ty_c0
abbrev tk_18 : ty_Ct := (64, 1, 12582912, 0, 0, [(2, 3, 0, 0, 0), (0, 0, 0, 0, 9), (0, 0, 0, 0, 2)], [], [(.inl none, [(3, 2, (0, 0, 0, 0, 203))])])
theorem tk_18_ok {I : ax_H → Prop} {l : Launch} (G : ty_G I l) : ty_M I l tk_18 := ty_ckC_ok (c := tk_18) G.1 G.2.1 G.2.2.1 12582912 [] [] [] 1 (by decide +kernel) ty_c0
abbrev tk_19 : ty_Ct := (64, 1, 12582912, 0, 0, [(2, 3, 0, 0, 0), (0, 0, 0, 0, 9), (0, 0, 0, 0, 0)], [], [(.inl none, [])])
theorem tk_19_ok {I : ax_H → Prop} {l : Launch} (G : ty_G I l) : ty_M I l tk_19 := ty_ckC_ok (c := tk_19) G.1 G.2.1 G.2.2.1 12582912 [] [] [] 1 (by decide +kernel) ty_c0
abbrev tk_20 : ty_Ct := (63, 2, 12582912, 0, 0, [(2, 3, 0, 0, 0), (0, 0, 0, 0, 255)], [], [(.inl none, [(3, 2, (0, 0, 0, 0, 203))])])
theorem tk_20_ok {I : ax_H → Prop} {l : Launch} (G : ty_G I l) : ty_M I l tk_20 := ty_ckC_ok (c := tk_20) G.1 G.2.1 G.2.2.1 12582912 [tk_11, tk_9, tk_19, tk_18, tk_7, tk_17] [] [] 1 (by decide +kernel) (ty_cc (tk_11_ok G) (ty_cc (tk_9_ok G) (ty_cc (tk_19_ok G) (ty_cc (tk_18_ok G) (ty_cc (tk_7_ok G) (ty_cc (tk_17_ok G) ty_c0))))))
abbrev tk_21 : ty_Ct := (62, 2, 46137344, 0, 0, [(2, 3, 0, 0, 0)], [], [(.inl none, [(3, 3, (0, 0, 0, 1, 2))])])
abbrev tu_21 : List ty_Cu := [(7, [(0, (2, 3, 0, 0, 0)), (1, (0, 0, 0, (-2147483648), 2147483647))], [], 0, 0, 0, 1, [(1, 3, 1, true)])]
theorem tk_21_ok {I : ax_H → Prop} {l : Launch} (G : ty_G I l) : ty_M I l tk_21 := ty_ckC_ok (c := tk_21) G.1 G.2.1 G.2.2.1 46137344 [tk_13, tk_14, tk_8, tk_7] [7] tu_21 2 (by decide +kernel) (ty_cc (tk_13_ok G) (ty_cc (tk_14_ok G) (ty_cc (tk_8_ok G) (ty_cc (tk_7_ok G) ty_c0))))
abbrev tk_22 : ty_Ct := (63, 2, 12582912, 0, 0, [(2, 3, 0, 0, 0), (0, 0, 0, (-1), 47)], [], [(.inl none, [(3, 2, (0, 0, 0, 0, 203))])])
theorem tk_22_ok {I : ax_H → Prop} {l : Launch} (G : ty_G I l) : ty_M I l tk_22 := ty_ckC_ok (c := tk_22) G.1 G.2.1 G.2.2.1 12582912 [tk_11, tk_9, tk_19, tk_18, tk_7, tk_17] [] [] 1 (by decide +kernel) (ty_cc (tk_11_ok G) (ty_cc (tk_9_ok G) (ty_cc (tk_19_ok G) (ty_cc (tk_18_ok G) (ty_cc (tk_7_ok G) (ty_cc (tk_17_ok G) ty_c0))))))
abbrev tk_23 : ty_Ct := (61, 3, 130023424, 0, 0, [(2, 3, 0, 0, 0)], [], [(.inl none, [(3, 2, (0, 0, 0, 0, 203))])])
abbrev tu_23 : List ty_Cu := [(0, [(0, (2, 3, 0, 0, 0))], [], 0, 0, 0, 1, [(1, 3, 1, true)])]
theorem tk_23_ok {I : ax_H → Prop} {l : Launch} (G : ty_G I l) : ty_M I l tk_23 := ty_ckC_ok (c := tk_23) G.1 G.2.1 G.2.2.1 130023424 [tk_15, tk_9, tk_16, tk_12, tk_21, tk_13, tk_18, tk_14, tk_22, tk_8, tk_7, tk_20, tk_17] [0] tu_23 2 (by decide +kernel) (ty_cc (tk_15_ok G) (ty_cc (tk_9_ok G) (ty_cc (tk_16_ok G) (ty_cc (tk_12_ok G) (ty_cc (tk_21_ok G) (ty_cc (tk_13_ok G) (ty_cc (tk_18_ok G) (ty_cc (tk_14_ok G) (ty_cc (tk_22_ok G) (ty_cc (tk_8_ok G) (ty_cc (tk_7_ok G) (ty_cc (tk_20_ok G) (ty_cc (tk_17_ok G) ty_c0)))))))))))))
abbrev tk_24 : ty_Ct := (60, 4, 130023424, 0, 0, [(2, 3, 0, 0, 0)], [], [(.inl (some (0, 0, 0, 0, 0)), []), (.inl (some (0, 0, 0, 1, 1)), [(3, 2, (0, 0, 0, 0, 203))])])
theorem tk_24_ok {I : ax_H → Prop} {l : Launch} (G : ty_G I l) : ty_M I l tk_24 := ty_ckC_ok (c := tk_24) G.1 G.2.1 G.2.2.1 130023424 [tk_23] [] [] 1 (by decide +kernel) (ty_cc (tk_23_ok G) ty_c0)
abbrev tk_25 : ty_Ct := (57, 4, 1203765248, 0, 0, [(2, 3, 0, 0, 0), (0, 0, 0, 1, 1)], [], [(.inl (some (0, 0, 0, 0, 0)), [(3, 2, (0, 0, 0, 0, 203))]), (.inl (some (0, 0, 0, 1, 1)), [(3, 2, (0, 0, 0, 0, 203))])])
theorem tk_25_ok {I : ax_H → Prop} {l : Launch} (G : ty_G I l) : ty_M I l tk_25 := ty_ckC_ok (c := tk_25) G.1 G.2.1 G.2.2.1 1203765248 [tk_23] [] [] 1 (by decide +kernel) (ty_cc (tk_23_ok G) ty_c0)
abbrev tk_26 : ty_Ct := (57, 4, 1203765248, 0, 0, [(2, 3, 0, 0, 0), (0, 0, 0, 0, 0)], [], [(.inl (some (0, 0, 0, 0, 0)), [(3, 2, (0, 0, 0, 0, 203))]), (.inl (some (0, 0, 0, 1, 1)), [(3, 2, (0, 0, 0, 0, 203))])])
theorem tk_26_ok {I : ax_H → Prop} {l : Launch} (G : ty_G I l) : ty_M I l tk_26 := ty_ckC_ok (c := tk_26) G.1 G.2.1 G.2.2.1 1203765248 [tk_23] [] [] 1 (by decide +kernel) (ty_cc (tk_23_ok G) ty_c0)
abbrev tk_27 : ty_Ct := (56, 5, 1203765248, 0, 0, [(2, 3, 0, 0, 0)], [], [(.inl (some (0, 0, 0, 1, 1)), [(3, 2, (0, 0, 0, 0, 203))]), (.inl (some (0, 0, 0, 0, 0)), [(3, 2, (0, 0, 0, 0, 203))]), (.inl (some (0, 0, 0, 0, 1)), [(3, 2, (0, 0, 0, 0, 203))])])
abbrev tu_27 : List ty_Cu := [(11, [(0, (2, 3, 0, 0, 0)), (1, (0, 0, 0, 0, 1)), (2, (0, 0, 0, 0, 200))], [(3, 2, (0, 0, 0, 0, 203))], 0, 0, 0, 1, [(0, 2, 0, true)])]
theorem tk_27_ok {I : ax_H → Prop} {l : Launch} (G : ty_G I l) : ty_M I l tk_27 := ty_ckC_ok (c := tk_27) G.1 G.2.1 G.2.2.1 1203765248 [tk_25, tk_23, tk_24, tk_26] [11] tu_27 2 (by decide +kernel) (ty_cc (tk_25_ok G) (ty_cc (tk_23_ok G) (ty_cc (tk_24_ok G) (ty_cc (tk_26_ok G) ty_c0))))
abbrev tk_28 : ty_Ct := (58, 4, 398458880, 0, 0, [(2, 3, 0, 0, 0)], [], [(.inl (some (0, 0, 0, 0, 0)), [(3, 3, (0, 0, 0, 0, 8))]), (.inl (some (0, 0, 0, 1, 1)), [(3, 2, (0, 0, 0, 0, 203)), (3, 8, (0, 0, 0, 7, 9))])])
theorem tk_28_ok {I : ax_H → Prop} {l : Launch} (G : ty_G I l) : ty_M I l tk_28 := ty_ckC_ok (c := tk_28) G.1 G.2.1 G.2.2.1 398458880 [tk_23] [] [] 1 (by decide +kernel) (ty_cc (tk_23_ok G) ty_c0)
abbrev tk_29 : ty_Ct := (59, 5, 666894336, 0, 0, [(2, 3, 0, 0, 0)], [], [(.inl (some (0, 0, 0, 0, 0)), [(3, 2, (0, 0, 0, 0, 203))]), (.inl (some (0, 0, 0, 1, 1)), [(3, 2, (0, 0, 0, 0, 203))])])
theorem tk_29_ok {I : ax_H → Prop} {l : Launch} (G : ty_G I l) : ty_M I l tk_29 := ty_ckC_ok (c := tk_29) G.1 G.2.1 G.2.2.1 666894336 [tk_23, tk_24] [] [] 1 (by decide +kernel) (ty_cc (tk_23_ok G) (ty_cc (tk_24_ok G) ty_c0))
abbrev tk_30 : ty_Ct := (55, 6, 4503601636442112, 0, 0, [(2, 3, 0, 0, 0)], [], [(.inl (some (0, 0, 0, 1, 1)), [(3, 2, (0, 0, 0, 0, 203)), (3, 3, (0, 0, 0, 0, 0)), (3, 8, (0, 0, 0, 7, 9))]), (.inl (some (0, 0, 0, 0, 0)), [(3, 2, (0, 0, 0, 0, 203))])])
theorem tk_30_ok {I : ax_H → Prop} {l : Launch} (G : ty_G I l) : ty_M I l tk_30 := ty_ckC_ok (c := tk_30) G.1 G.2.1 G.2.2.1 4503601636442112 [tk_27, tk_29, tk_6, tk_28, tk_23] [] [] 1 (by decide +kernel) (ty_cc (tk_27_ok G) (ty_cc (tk_29_ok G) (ty_cc (tk_6_ok G) (ty_cc (tk_28_ok G) (ty_cc (tk_23_ok G) ty_c0)))))
abbrev tk_31 : ty_Ct := (117, 1, 524292, 1, 6, [(2, 0, 0, 0, 0), (0, 0, 0, 0, 0)], [], [(.inr "java/lang/IllegalArgumentException", [(0, 3, (0, 0, 0, 0, 201)), (1, 2, (0, 0, 0, 0, 0))])])
theorem tk_31_ok {I : ax_H → Prop} {l : Launch} (G : ty_G I l) : ty_M I l tk_31 := ty_ckC_ok (c := tk_31) G.1 G.2.1 G.2.2.1 524292 [] [] [] 1 (by decide +kernel) ty_c0
abbrev tk_32 : ty_Ct := (117, 1, 524292, 0, 0, [(2, 0, 0, 0, 0), (0, 0, 0, 1, 1)], [], [(.inl none, [(0, 3, (0, 0, 0, (-1), (-1))), (1, 2, (0, 0, 0, 0, 0))])])
theorem tk_32_ok {I : ax_H → Prop} {l : Launch} (G : ty_G I l) : ty_M I l tk_32 := ty_ckC_ok (c := tk_32) G.1 G.2.1 G.2.2.1 524292 [] [] [] 1 (by decide +kernel) ty_c0
abbrev tk_33 : ty_Ct := (49, 1, 0, 0, 0, [(2, 3, 0, 0, 0)], [(3, 8, (0, 0, 0, 7, 9))], [(.inl (some (0, 0, 0, 1, 1)), [(3, 8, (0, 0, 0, 9, 9))]), (.inl (some (0, 0, 0, 0, 0)), [(3, 8, (0, 0, 0, 7, 8))])])
theorem tk_33_ok {I : ax_H → Prop} {l : Launch} (G : ty_G I l) : ty_M I l tk_33 := ty_ckC_ok (c := tk_33) G.1 G.2.1 G.2.2.1 0 [] [] [] 1 (by decide +kernel) ty_c0
abbrev tk_34 : ty_Ct := (115, 1, 0, 1, 6, [(2, 0, 0, 0, 0), (0, 0, 0, 1, 1)], [], [(.inr "java/lang/IllegalStateException", [(0, 6, (0, 0, 0, 60, 60))]), (.inl none, [(0, 6, (0, 0, 0, 0, 59))])])
theorem tk_34_ok {I : ax_H → Prop} {l : Launch} (G : ty_G I l) : ty_M I l tk_34 := ty_ckC_ok (c := tk_34) G.1 G.2.1 G.2.2.1 0 [] [] [] 1 (by decide +kernel) ty_c0
abbrev tk_35 : ty_Ct := (50, 1, 0, 0, 0, [(2, 3, 0, 0, 0)], [(3, 8, (0, 0, 0, 7, 8))], [(.inl (some (0, 0, 0, 1, 1)), [(3, 8, (0, 0, 0, 7, 7))]), (.inl (some (0, 0, 0, 0, 0)), [(3, 8, (0, 0, 0, 8, 8))])])
theorem tk_35_ok {I : ax_H → Prop} {l : Launch} (G : ty_G I l) : ty_M I l tk_35 := ty_ckC_ok (c := tk_35) G.1 G.2.1 G.2.2.1 0 [] [] [] 1 (by decide +kernel) ty_c0
abbrev tk_36 : ty_Ct := (51, 1, 0, 0, 0, [(2, 3, 0, 0, 0)], [(3, 8, (0, 0, 0, 8, 8))], [(.inl (some (0, 0, 0, 1, 1)), [(3, 8, (0, 0, 0, 8, 8))])])
theorem tk_36_ok {I : ax_H → Prop} {l : Launch} (G : ty_G I l) : ty_M I l tk_36 := ty_ckC_ok (c := tk_36) G.1 G.2.1 G.2.2.1 0 [] [] [] 1 (by decide +kernel) ty_c0
abbrev tk_37 : ty_Ct := (254, 1, 274877906944, 0, 0, [(2, 9, 0, 0, 0), (1, 0, 0, 0, 0)], [], [(.inl none, [])])
abbrev tu_37 : List ty_Cu := [(6, [(0, (2, 9, 0, 0, 0)), (1, (1, 0, 0, 0, 0)), (3, (0, 0, 0, 0, 24)), (4, (0, 0, 0, 24, 24))], [], 0, 0, 0, 1, [(0, 3, 0, true)])]
theorem tk_37_ok {I : ax_H → Prop} {l : Launch} (G : ty_G I l) : ty_M I l tk_37 := ty_ckC_ok (c := tk_37) G.1 G.2.1 G.2.2.1 274877906944 [] [6] tu_37 2 (by decide +kernel) ty_c0
abbrev tk_38 : ty_Ct := (20, 2, 412316860416, 0, 0, [(2, 8, 0, 0, 0)], [], [(.inl none, [(8, 2, (1, 0, 0, 0, 0))])])
theorem tk_38_ok {I : ax_H → Prop} {l : Launch} (G : ty_G I l) : ty_M I l tk_38 := ty_ckC_ok (c := tk_38) G.1 G.2.1 G.2.2.1 412316860416 [tk_37] [] [] 1 (by decide +kernel) (ty_cc (tk_37_ok G) ty_c0)
abbrev tk_39 : ty_Ct := (21, 1, 412316860416, 0, 0, [(2, 8, 0, 0, 0), (0, 0, 0, 0, 23), (1, 0, 0, (-9223372036854775808), 9223372036854775807)], [], [(.inl none, [])])
theorem tk_39_ok {I : ax_H → Prop} {l : Launch} (G : ty_G I l) : ty_M I l tk_39 := ty_ckC_ok (c := tk_39) G.1 G.2.1 G.2.2.1 412316860416 [] [] [] 1 (by decide +kernel) ty_c0
abbrev tk_40 : ty_Ct := (54, 3, 412316860416, 0, 0, [(2, 3, 0, 0, 0), (2, 8, 0, 0, 0), (0, 0, 0, (-1), (-1))], [], [(.inl none, [])])
abbrev tu_40 : List ty_Cu := [(17, [(0, (2, 3, 0, 0, 0)), (1, (2, 8, 0, 0, 0)), (2, (0, 0, 0, (-1), (-1))), (3, (0, 0, 0, 0, 24))], [], 0, 0, 0, 1, [(0, 3, 0, true)])]
theorem tk_40_ok {I : ax_H → Prop} {l : Launch} (G : ty_G I l) : ty_M I l tk_40 := ty_ckC_ok (c := tk_40) G.1 G.2.1 G.2.2.1 412316860416 [tk_38, tk_39] [17] tu_40 2 (by decide +kernel) (ty_cc (tk_38_ok G) (ty_cc (tk_39_ok G) ty_c0))
abbrev tk_41 : ty_Ct := (53, 4, 412316860416, 0, 0, [(2, 3, 0, 0, 0), (2, 8, 0, 0, 0)], [], [(.inl none, [])])
theorem tk_41_ok {I : ax_H → Prop} {l : Launch} (G : ty_G I l) : ty_M I l tk_41 := ty_ckC_ok (c := tk_41) G.1 G.2.1 G.2.2.1 412316860416 [tk_40] [] [] 1 (by decide +kernel) (ty_cc (tk_40_ok G) ty_c0)
abbrev tk_42 : ty_Ct := (26, 1, 412316860416, 0, 0, [(2, 8, 0, 0, 0)], [], [(.inl none, [(8, 2, (1, 0, 0, 0, 9223372036854775807))])])
abbrev tu_42 : List ty_Cu := [(2, [(0, (2, 8, 0, 0, 0)), (1, (0, 0, 0, 24, 24))], [(8, 2, (1, 0, 0, 0, 9223372036854775807))], 0, 0, 0, 0, []), (2, [(0, (2, 8, 0, 0, 0)), (1, (0, 0, 0, 22, 22))], [(8, 2, (1, 0, 0, 0, 9223372036854775807))], 0, 0, 1, 0, []), (2, [(0, (2, 8, 0, 0, 0)), (1, (0, 0, 0, 20, 20))], [(8, 2, (1, 0, 0, 0, 9223372036854775807))], 0, 0, 2, 0, []), (2, [(0, (2, 8, 0, 0, 0)), (1, (0, 0, 0, 18, 18))], [(8, 2, (1, 0, 0, 0, 9223372036854775807))], 0, 0, 3, 0, []), (2, [(0, (2, 8, 0, 0, 0)), (1, (0, 0, 0, 16, 16))], [(8, 2, (1, 0, 0, 0, 9223372036854775807))], 0, 0, 4, 0, []), (2, [(0, (2, 8, 0, 0, 0)), (1, (0, 0, 0, 14, 14))], [(8, 2, (1, 0, 0, 0, 9223372036854775807))], 0, 0, 5, 0, []), (2, [(0, (2, 8, 0, 0, 0)), (1, (0, 0, 0, 12, 12))], [(8, 2, (1, 0, 0, 0, 9223372036854775807))], 0, 0, 6, 0, []), (2, [(0, (2, 8, 0, 0, 0)), (1, (0, 0, 0, 10, 10))], [(8, 2, (1, 0, 0, 0, 9223372036854775807))], 0, 0, 7, 0, []), (2, [(0, (2, 8, 0, 0, 0)), (1, (0, 0, 0, 8, 8))], [(8, 2, (1, 0, 0, 0, 9223372036854775807))], 0, 0, 8, 0, []), (2, [(0, (2, 8, 0, 0, 0)), (1, (0, 0, 0, 6, 6))], [(8, 2, (1, 0, 0, 0, 9223372036854775807))], 0, 0, 9, 0, []), (2, [(0, (2, 8, 0, 0, 0)), (1, (0, 0, 0, 4, 4))], [(8, 2, (1, 0, 0, 0, 9223372036854775807))], 0, 0, 10, 0, []), (2, [(0, (2, 8, 0, 0, 0)), (1, (0, 0, 0, 2, 2))], [(8, 2, (1, 0, 0, 0, 9223372036854775807))], 0, 0, 11, 0, []), (2, [(0, (2, 8, 0, 0, 0)), (1, (0, 0, 0, 0, 0))], [], 0, 0, 12, 0, [])]
theorem tk_42_ok {I : ax_H → Prop} {l : Launch} (G : ty_G I l) : ty_M I l tk_42 := ty_ckC_ok (c := tk_42) G.1 G.2.1 G.2.2.1 412316860416 [] [2] tu_42 14 (by decide +kernel) ty_c0
abbrev tk_43 : ty_Ct := (7, 1, 8246337208320, 0, 0, [(3, 0, 0, 0, 0), (2, 8, 0, 0, 0)], [(8, 2, (1, 0, 0, 0, 9223372036854775807))], [(.inl none, [(8, 2, (1, 0, 0, 0, 9223372036854775807))])])
abbrev tu_43 : List ty_Cu := [(7, [(0, (3, 0, 0, 0, 0)), (1, (2, 8, 0, 0, 0)), (2, (0, 0, 0, 0, 24))], [(8, 2, (1, 0, 0, 0, 9223372036854775807))], 0, 0, 0, 1, [(0, 2, 0, true)])]
theorem tk_43_ok {I : ax_H → Prop} {l : Launch} (G : ty_G I l) : ty_M I l tk_43 := ty_ckC_ok (c := tk_43) G.1 G.2.1 G.2.2.1 8246337208320 [] [7] tu_43 2 (by decide +kernel) ty_c0
abbrev tk_44 : ty_Ct := (39, 1, 105553116266496, 0, 0, [(2, 12, 0, 0, 0), (0, 0, 0, 0, 5), (1, 0, 0, (-9223372036854775808), 9223372036854775807), (1, 0, 0, (-9223372036854775808), 9223372036854775807)], [], [(.inl none, [])])
abbrev tu_44 : List ty_Cu := [(30, [(2, (1, 0, 0, (-9223372036854775808), 9223372036854775807)), (4, (1, 0, 0, (-9223372036854775808), 9223372036854775807)), (6, (2, 13, 0, 0, 0)), (7, (0, 0, 0, 1, 32)), (8, (0, 0, 0, 0, 59))], [], 0, 0, 0, 1, [(0, 8, 0, true)])]
theorem tk_44_ok {I : ax_H → Prop} {l : Launch} (G : ty_G I l) : ty_M I l tk_44 := ty_ckC_ok (c := tk_44) G.1 G.2.1 G.2.2.1 105553116266496 [] [30] tu_44 2 (by decide +kernel) ty_c0
abbrev tk_45 : ty_Ct := (39, 1, 105553116266496, 0, 0, [(2, 12, 0, 0, 0), (0, 0, 0, 6, 11), (1, 0, 0, (-9223372036854775808), 9223372036854775807), (1, 0, 0, (-9223372036854775808), 9223372036854775807)], [], [(.inl none, [])])
abbrev tu_45 : List ty_Cu := [(30, [(2, (1, 0, 0, (-9223372036854775808), 9223372036854775807)), (4, (1, 0, 0, (-9223372036854775808), 9223372036854775807)), (6, (2, 14, 0, 0, 0)), (7, (0, 0, 0, 1, 32)), (8, (0, 0, 0, 0, 59))], [], 0, 0, 0, 1, [(0, 8, 0, true)])]
theorem tk_45_ok {I : ax_H → Prop} {l : Launch} (G : ty_G I l) : ty_M I l tk_45 := ty_ckC_ok (c := tk_45) G.1 G.2.1 G.2.2.1 105553116266496 [] [30] tu_45 2 (by decide +kernel) ty_c0
abbrev tk_46 : ty_Ct := (37, 2, 105553116266496, 0, 0, [(2, 12, 0, 0, 0), (3, 0, 0, 0, 0)], [], [(.inl none, [])])
abbrev tu_46 : List ty_Cu := [(16, [(0, (2, 12, 0, 0, 0)), (1, (3, 0, 0, 0, 0)), (2, (0, 0, 0, 0, 12))], [], 0, 0, 0, 1, [(0, 2, 0, true)])]
theorem tk_46_ok {I : ax_H → Prop} {l : Launch} (G : ty_G I l) : ty_M I l tk_46 := ty_ckC_ok (c := tk_46) G.1 G.2.1 G.2.2.1 105553116266496 [tk_44, tk_45] [16] tu_46 2 (by decide +kernel) (ty_cc (tk_44_ok G) (ty_cc (tk_45_ok G) ty_c0))
abbrev tk_47 : ty_Ct := (122, 1, 0, 0, 0, [(2, 0, 0, 0, 0)], [], [(.inl (some (3, 2, 0, 0, 0)), [])])
theorem tk_47_ok {I : ax_H → Prop} {l : Launch} (G : ty_G I l) : ty_M I l tk_47 := ty_ckC_ok (c := tk_47) G.1 G.2.1 G.2.2.1 0 [] [] [] 1 (by decide +kernel) ty_c0
abbrev tk_48 : ty_Ct := (36, 1, 0, 0, 0, [(2, 12, 0, 0, 0), (0, 0, 0, (-2147483648), 2147483647), (1, 0, 0, (-9223372036854775808), 9223372036854775807)], [], [(.inl (some (1, 0, 0, (-9223372036854775808), 9223372036854775807)), [])])
abbrev tu_48 : List ty_Cu := [(19, [(0, (2, 12, 0, 0, 0)), (4, (1, 0, 0, (-9223372036854775808), 9223372036854775807)), (6, (1, 0, 0, (-9223372036854775808), 9223372036854775807)), (8, (0, 0, 0, 0, 64))], [], 0, 0, 0, 1, [(0, 8, 0, true)])]
theorem tk_48_ok {I : ax_H → Prop} {l : Launch} (G : ty_G I l) : ty_M I l tk_48 := ty_ckC_ok (c := tk_48) G.1 G.2.1 G.2.2.1 0 [] [19] tu_48 2 (by decide +kernel) ty_c0
abbrev tk_49 : ty_Ct := (42, 2, 0, 0, 0, [(3, 2, 0, 0, 0), (2, 12, 0, 0, 0), (1, 0, 0, (-2147483648), 2147483647)], [], [(.inl none, [])])
abbrev tu_49 : List ty_Cu := [(3, [(0, (3, 2, 0, 0, 0)), (1, (2, 12, 0, 0, 0)), (2, (1, 0, 0, (-2147483648), 2147483647)), (4, (0, 0, 0, 0, 64))], [], 0, 0, 0, 1, [(0, 4, 0, true)])]
theorem tk_49_ok {I : ax_H → Prop} {l : Launch} (G : ty_G I l) : ty_M I l tk_49 := ty_ckC_ok (c := tk_49) G.1 G.2.1 G.2.2.1 0 [tk_48] [3] tu_49 2 (by decide +kernel) (ty_cc (tk_48_ok G) ty_c0)
abbrev tk_50 : ty_Ct := (253, 1, 4503600701112320, 0, 0, [(2, 18, 0, 0, 0), (0, 0, 0, (-1), (-1))], [], [(.inl none, [])])
abbrev tu_50 : List ty_Cu := [(5, [(0, (2, 18, 0, 0, 0)), (1, (0, 0, 0, (-1), (-1))), (2, (0, 0, 0, 0, 12)), (3, (0, 0, 0, 12, 12))], [], 0, 0, 0, 1, [(0, 2, 0, true)])]
theorem tk_50_ok {I : ax_H → Prop} {l : Launch} (G : ty_G I l) : ty_M I l tk_50 := ty_ckC_ok (c := tk_50) G.1 G.2.1 G.2.2.1 4503600701112320 [] [5] tu_50 2 (by decide +kernel) ty_c0
abbrev tk_51 : ty_Ct := (1, 2, 6755400514797568, 0, 0, [(2, 17, 0, 0, 0)], [], [(.inl none, [(17, 2, (0, 0, 0, 0, 0))])])
theorem tk_51_ok {I : ax_H → Prop} {l : Launch} (G : ty_G I l) : ty_M I l tk_51 := ty_ckC_ok (c := tk_51) G.1 G.2.1 G.2.2.1 6755400514797568 [tk_50] [] [] 1 (by decide +kernel) (ty_cc (tk_50_ok G) ty_c0)
abbrev tk_52 : ty_Ct := (4, 1, 4503599627370496, 0, 0, [(2, 17, 0, 0, 0), (0, 0, 0, 0, 23)], [], [(.inl none, [])])
theorem tk_52_ok {I : ax_H → Prop} {l : Launch} (G : ty_G I l) : ty_M I l tk_52 := ty_ckC_ok (c := tk_52) G.1 G.2.1 G.2.2.1 4503599627370496 [] [] [] 1 (by decide +kernel) ty_c0
abbrev tk_53 : ty_Ct := (3, 1, 0, 0, 0, [(2, 17, 0, 0, 0), (0, 0, 0, 0, 23)], [], [(.inl (some (0, 0, 0, 1, 1)), []), (.inl (some (0, 0, 0, 0, 0)), [])])
theorem tk_53_ok {I : ax_H → Prop} {l : Launch} (G : ty_G I l) : ty_M I l tk_53 := ty_ckC_ok (c := tk_53) G.1 G.2.1 G.2.2.1 0 [] [] [] 1 (by decide +kernel) ty_c0
abbrev tk_54 : ty_Ct := (11, 2, 0, 0, 0, [(3, 0, 0, 0, 0), (2, 17, 0, 0, 0)], [], [(.inl (some (1, 0, 0, (-9223372036854775808), 9223372036854775807)), [])])
abbrev tu_54 : List ty_Cu := [(8, [(0, (3, 0, 0, 0, 0)), (1, (2, 17, 0, 0, 0)), (2, (1, 0, 0, (-9223372036854775808), 9223372036854775807)), (4, (0, 0, 0, 0, 24))], [], 0, 0, 0, 1, [(0, 4, 0, true)])]
theorem tk_54_ok {I : ax_H → Prop} {l : Launch} (G : ty_G I l) : ty_M I l tk_54 := ty_ckC_ok (c := tk_54) G.1 G.2.1 G.2.2.1 0 [tk_53] [8] tu_54 2 (by decide +kernel) (ty_cc (tk_53_ok G) ty_c0)
abbrev tk_55 : ty_Ct := (2, 1, 0, 0, 0, [(2, 17, 0, 0, 0), (0, 0, 0, 0, 11)], [], [(.inl (some (0, 0, 0, 1, 1)), []), (.inl (some (0, 0, 0, 0, 0)), [])])
theorem tk_55_ok {I : ax_H → Prop} {l : Launch} (G : ty_G I l) : ty_M I l tk_55 := ty_ckC_ok (c := tk_55) G.1 G.2.1 G.2.2.1 0 [] [] [] 1 (by decide +kernel) ty_c0
abbrev tk_56 : ty_Ct := (13, 3, 6755400514797568, 0, 0, [(3, 0, 0, 0, 0), (2, 17, 0, 0, 0)], [], [(.inl (some (0, 0, 0, 0, 0)), [(17, 2, (0, 0, 0, 1, 1))]), (.inl (some (0, 0, 0, 0, 1)), [])])
abbrev tu_56 : List ty_Cu := [(29, [(0, (3, 0, 0, 0, 0)), (1, (2, 17, 0, 0, 0)), (2, (1, 0, 0, 0, 9223372036854775807)), (4, (0, 0, 0, 0, 1)), (5, (0, 0, 0, 0, 24))], [], 0, 0, 0, 1, [(0, 5, 0, true)])]
theorem tk_56_ok {I : ax_H → Prop} {l : Launch} (G : ty_G I l) : ty_M I l tk_56 := ty_ckC_ok (c := tk_56) G.1 G.2.1 G.2.2.1 6755400514797568 [tk_51, tk_54, tk_55, tk_52] [29] tu_56 2 (by decide +kernel) (ty_cc (tk_51_ok G) (ty_cc (tk_54_ok G) (ty_cc (tk_55_ok G) (ty_cc (tk_52_ok G) ty_c0))))
abbrev tk_57 : ty_Ct := (121, 4, 6755400514797568, 0, 0, [(2, 0, 0, 0, 0)], [], [(.inl none, [])])
abbrev tu_57 : List ty_Cu := [(60, [(0, (2, 0, 0, 0, 0)), (1, (0, 0, 0, 0, 1)), (2, (0, 0, 0, 0, 12)), (3, (0, 0, 0, 0, 60))], [], 0, 0, 0, 0, [(0, 2, 0, true), (0, 3, 0, true)]), (46, [(0, (2, 0, 0, 0, 0)), (1, (0, 0, 0, 0, 1)), (2, (0, 0, 0, 0, 13))], [], 0, 0, 0, 1, [(0, 2, 0, true)]), (9, [(0, (2, 0, 0, 0, 0)), (1, (0, 0, 0, 0, 24))], [(17, 2, (0, 0, 0, 0, 0))], 0, 0, 1, 1, [(0, 1, 0, true)])]
theorem tk_57_ok {I : ax_H → Prop} {l : Launch} (G : ty_G I l) : ty_M I l tk_57 := ty_ckC_ok (c := tk_57) G.1 G.2.1 G.2.2.1 6755400514797568 [tk_51, tk_56, tk_52] [9, 46, 60] tu_57 3 (by decide +kernel) (ty_cc (tk_51_ok G) (ty_cc (tk_56_ok G) (ty_cc (tk_52_ok G) ty_c0)))
abbrev tk_58 : ty_Ct := (119, 5, 6869612285132832, 0, 0, [(2, 0, 0, 0, 0)], [(0, 6, (0, 0, 0, 0, 59))], [(.inl (some (0, 0, 0, 0, 59)), [(0, 6, (0, 0, 0, 1, 60)), (8, 2, (1, 0, 0, 0, 9223372036854775807))])])
theorem tk_58_ok {I : ax_H → Prop} {l : Launch} (G : ty_G I l) : ty_M I l tk_58 := ty_ckC_ok (c := tk_58) G.1 G.2.1 G.2.2.1 6869612285132832 [tk_43, tk_47, tk_57, tk_42, tk_46, tk_49] [] [] 1 (by decide +kernel) (ty_cc (tk_43_ok G) (ty_cc (tk_47_ok G) (ty_cc (tk_57_ok G) (ty_cc (tk_42_ok G) (ty_cc (tk_46_ok G) (ty_cc (tk_49_ok G) ty_c0))))))
abbrev tk_59 : ty_Ct := (54, 3, 412316860416, 0, 0, [(2, 3, 0, 0, 0), (2, 8, 0, 0, 0), (0, 0, 0, 1, 1)], [], [(.inl none, [])])
abbrev tu_59 : List ty_Cu := [(17, [(0, (2, 3, 0, 0, 0)), (1, (2, 8, 0, 0, 0)), (2, (0, 0, 0, 1, 1)), (3, (0, 0, 0, 0, 24))], [], 0, 0, 0, 1, [(0, 3, 0, true)])]
theorem tk_59_ok {I : ax_H → Prop} {l : Launch} (G : ty_G I l) : ty_M I l tk_59 := ty_ckC_ok (c := tk_59) G.1 G.2.1 G.2.2.1 412316860416 [tk_38, tk_39] [17] tu_59 2 (by decide +kernel) (ty_cc (tk_38_ok G) (ty_cc (tk_39_ok G) ty_c0))
