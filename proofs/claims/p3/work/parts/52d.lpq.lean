/-! THE LAW, 4: feed and trim -/
theorem hn_67 : (ax_mm 67).2.2.1 = 3 := by decide +kernel
theorem hr_67 : (ax_mm 67).2.2.2.1 = none := by decide +kernel
theorem hk_67_0 : ax_look 67 0 = some (.bipush 24, (0, 0, 0), .null, []) := by decide +kernel
theorem hk_67_2 : ax_look 67 2 = some (.istore_n 2, (0, 0, 0), .null, []) := by decide +kernel
theorem hk_67_3 : ax_look 67 3 = some (.iload_n 2, (0, 0, 0), .null, []) := by decide +kernel
theorem hk_67_4 : ax_look 67 4 = some (.ifCond .lt 45, (0, 0, 0), .null, []) := by decide +kernel
theorem hk_67_7 : ax_look 67 7 = some (.aload_n 0, (0, 0, 0), .null, []) := by decide +kernel
theorem hk_67_8 : ax_look 67 8 = some (.getfield 13, (7, 1, 0), .null, [1049]) := by decide +kernel
theorem hk_67_11 : ax_look 67 11 = some (.sipush 200, (0, 0, 0), .null, []) := by decide +kernel
theorem hk_67_14 : ax_look 67 14 = some (.if_icmp .ge 35, (0, 0, 0), .null, []) := by decide +kernel
theorem hk_67_17 : ax_look 67 17 = some (.aload_n 0, (0, 0, 0), .null, []) := by decide +kernel
theorem hk_67_18 : ax_look 67 18 = some (.getfield 9, (7, 0, 0), .null, [1048]) := by decide +kernel
theorem hk_67_21 : ax_look 67 21 = some (.aload_n 0, (0, 0, 0), .null, []) := by decide +kernel
theorem hk_67_22 : ax_look 67 22 = some (.getfield 13, (7, 1, 0), .null, [1049]) := by decide +kernel
theorem hk_67_25 : ax_look 67 25 = some (.iload_n 1, (0, 0, 0), .null, []) := by decide +kernel
theorem hk_67_26 : ax_look 67 26 = some (.iload_n 2, (0, 0, 0), .null, []) := by decide +kernel
theorem hk_67_27 : ax_look 67 27 = some (.ishr, (0, 0, 0), .null, []) := by decide +kernel
theorem hk_67_28 : ax_look 67 28 = some (.sipush 255, (0, 0, 0), .null, []) := by decide +kernel
theorem hk_67_31 : ax_look 67 31 = some (.iand, (0, 0, 0), .null, []) := by decide +kernel
theorem hk_67_32 : ax_look 67 32 = some (.iastore, (0, 0, 0), .null, []) := by decide +kernel
theorem hk_67_33 : ax_look 67 33 = some (.aload_n 0, (0, 0, 0), .null, []) := by decide +kernel
theorem hk_67_34 : ax_look 67 34 = some (.dup, (0, 0, 0), .null, []) := by decide +kernel
theorem hk_67_35 : ax_look 67 35 = some (.getfield 13, (7, 1, 0), .null, [1049]) := by decide +kernel
theorem hk_67_38 : ax_look 67 38 = some (.iconst 1, (0, 0, 0), .null, []) := by decide +kernel
theorem hk_67_39 : ax_look 67 39 = some (.iadd, (0, 0, 0), .null, []) := by decide +kernel
theorem hk_67_40 : ax_look 67 40 = some (.putfield 13, (7, 1, 0), .null, [1049]) := by decide +kernel
theorem hk_67_43 : ax_look 67 43 = some (.iinc 2 (-8), (0, 0, 0), .null, []) := by decide +kernel
theorem hk_67_46 : ax_look 67 46 = some (.goto (-43), (0, 0, 0), .null, []) := by decide +kernel
theorem hk_67_49 : ax_look 67 49 = some (.return_, (0, 0, 0), .null, []) := by decide +kernel
theorem hn_70 : (ax_mm 70).2.2.1 = 6 := by decide +kernel
theorem hr_70 : (ax_mm 70).2.2.2.1 = (some .int) := by decide +kernel
theorem hk_70_0 : ax_look 70 0 = some (.aload_n 0, (0, 0, 0), .null, []) := by decide +kernel
theorem hk_70_1 : ax_look 70 1 = some (.getfield 10, (8, 0, 0), .null, [1228]) := by decide +kernel
theorem hk_70_4 : ax_look 70 4 = some (.getfield 105, (7, 1, 0), .null, [1050]) := by decide +kernel
theorem hk_70_7 : ax_look 70 7 = some (.bipush 20, (0, 0, 0), .null, []) := by decide +kernel
theorem hk_70_9 : ax_look 70 9 = some (.iadd, (0, 0, 0), .null, []) := by decide +kernel
theorem hk_70_10 : ax_look 70 10 = some (.sipush 200, (0, 0, 0), .null, []) := by decide +kernel
theorem hk_70_13 : ax_look 70 13 = some (.if_icmp .le 13, (0, 0, 0), .null, []) := by decide +kernel
theorem hk_70_16 : ax_look 70 16 = some (.new 108, (800, 0, 0), .null, []) := by decide +kernel
theorem hk_70_19 : ax_look 70 19 = some (.dup, (0, 0, 0), .null, []) := by decide +kernel
theorem hk_70_20 : ax_look 70 20 = some (.ldc 110, (900, 0, 0), .null, []) := by decide +kernel
theorem hk_70_22 : ax_look 70 22 = some (.invokespecial 112, (900, 0, 0), .null, []) := by decide +kernel
theorem hk_70_25 : ax_look 70 25 = some (.athrow, (0, 0, 0), .null, []) := by decide +kernel
theorem hk_70_26 : ax_look 70 26 = some (.aload_n 0, (0, 0, 0), .null, []) := by decide +kernel
theorem hk_70_27 : ax_look 70 27 = some (.getfield 10, (8, 0, 0), .null, [1228]) := by decide +kernel
theorem hk_70_30 : ax_look 70 30 = some (.iload_n 1, (0, 0, 0), .null, []) := by decide +kernel
theorem hk_70_31 : ax_look 70 31 = some (.invokevirtual 115, (67, 1, 7), .null, [2196, 2198]) := by decide +kernel
theorem hk_70_34 : ax_look 70 34 = some (.aload_n 0, (0, 0, 0), .null, []) := by decide +kernel
theorem hk_70_35 : ax_look 70 35 = some (.getfield 10, (8, 0, 0), .null, [1228]) := by decide +kernel
theorem hk_70_38 : ax_look 70 38 = some (.iload_n 2, (0, 0, 0), .null, []) := by decide +kernel
theorem hk_70_39 : ax_look 70 39 = some (.invokevirtual 115, (67, 1, 7), .null, [2196, 2198]) := by decide +kernel
theorem hk_70_42 : ax_look 70 42 = some (.aload_n 0, (0, 0, 0), .null, []) := by decide +kernel
theorem hk_70_43 : ax_look 70 43 = some (.getfield 10, (8, 0, 0), .null, [1228]) := by decide +kernel
theorem hk_70_46 : ax_look 70 46 = some (.iload_n 3, (0, 0, 0), .null, []) := by decide +kernel
theorem hk_70_47 : ax_look 70 47 = some (.invokevirtual 115, (67, 1, 7), .null, [2196, 2198]) := by decide +kernel
theorem hk_70_50 : ax_look 70 50 = some (.aload_n 0, (0, 0, 0), .null, []) := by decide +kernel
theorem hk_70_51 : ax_look 70 51 = some (.getfield 10, (8, 0, 0), .null, [1228]) := by decide +kernel
theorem hk_70_54 : ax_look 70 54 = some (.iload 4, (0, 0, 0), .null, []) := by decide +kernel
theorem hk_70_56 : ax_look 70 56 = some (.invokevirtual 115, (67, 1, 7), .null, [2196, 2198]) := by decide +kernel
theorem hk_70_59 : ax_look 70 59 = some (.aload_n 0, (0, 0, 0), .null, []) := by decide +kernel
theorem hk_70_60 : ax_look 70 60 = some (.getfield 10, (8, 0, 0), .null, [1228]) := by decide +kernel
theorem hk_70_63 : ax_look 70 63 = some (.iload 5, (0, 0, 0), .null, []) := by decide +kernel
theorem hk_70_65 : ax_look 70 65 = some (.invokevirtual 115, (67, 1, 7), .null, [2196, 2198]) := by decide +kernel
theorem hk_70_68 : ax_look 70 68 = some (.aload_n 0, (0, 0, 0), .null, []) := by decide +kernel
theorem hk_70_69 : ax_look 70 69 = some (.getfield 10, (8, 0, 0), .null, [1228]) := by decide +kernel
theorem hk_70_72 : ax_look 70 72 = some (.getfield 105, (7, 1, 0), .null, [1050]) := by decide +kernel
theorem hk_70_75 : ax_look 70 75 = some (.ireturn, (0, 0, 0), .null, []) := by decide +kernel
theorem hn_71 : (ax_mm 71).2.2.1 = 2 := by decide +kernel
theorem hr_71 : (ax_mm 71).2.2.2.1 = (some .int) := by decide +kernel
theorem hk_71_0 : ax_look 71 0 = some (.iload_n 1, (0, 0, 0), .null, []) := by decide +kernel
theorem hk_71_1 : ax_look 71 1 = some (.ifCond .lt 14, (0, 0, 0), .null, []) := by decide +kernel
theorem hk_71_4 : ax_look 71 4 = some (.iload_n 1, (0, 0, 0), .null, []) := by decide +kernel
theorem hk_71_5 : ax_look 71 5 = some (.aload_n 0, (0, 0, 0), .null, []) := by decide +kernel
theorem hk_71_6 : ax_look 71 6 = some (.getfield 10, (8, 0, 0), .null, [1228]) := by decide +kernel
theorem hk_71_9 : ax_look 71 9 = some (.getfield 105, (7, 1, 0), .null, [1050]) := by decide +kernel
theorem hk_71_12 : ax_look 71 12 = some (.if_icmp .le 13, (0, 0, 0), .null, []) := by decide +kernel
theorem hk_71_15 : ax_look 71 15 = some (.new 119, (801, 0, 0), .null, []) := by decide +kernel
theorem hk_71_18 : ax_look 71 18 = some (.dup, (0, 0, 0), .null, []) := by decide +kernel
theorem hk_71_19 : ax_look 71 19 = some (.ldc 121, (900, 0, 0), .null, []) := by decide +kernel
theorem hk_71_21 : ax_look 71 21 = some (.invokespecial 123, (900, 0, 0), .null, []) := by decide +kernel
theorem hk_71_24 : ax_look 71 24 = some (.athrow, (0, 0, 0), .null, []) := by decide +kernel
theorem hk_71_25 : ax_look 71 25 = some (.aload_n 0, (0, 0, 0), .null, []) := by decide +kernel
theorem hk_71_26 : ax_look 71 26 = some (.getfield 10, (8, 0, 0), .null, [1228]) := by decide +kernel
theorem hk_71_29 : ax_look 71 29 = some (.iload_n 1, (0, 0, 0), .null, []) := by decide +kernel
theorem hk_71_30 : ax_look 71 30 = some (.putfield 105, (7, 1, 0), .null, [1050]) := by decide +kernel
theorem hk_71_33 : ax_look 71 33 = some (.iload_n 1, (0, 0, 0), .null, []) := by decide +kernel
theorem hk_71_34 : ax_look 71 34 = some (.ireturn, (0, 0, 0), .null, []) := by decide +kernel
theorem hn_131 : (ax_mm 131).2.2.1 = 1 := by decide +kernel
theorem hr_131 : (ax_mm 131).2.2.2.1 = (some .int) := by decide +kernel
theorem hk_131_0 : ax_look 131 0 = some (.aload_n 0, (0, 0, 0), .null, []) := by decide +kernel
theorem hk_131_1 : ax_look 131 1 = some (.getfield 61, (9, 0, 0), .null, [6176]) := by decide +kernel
theorem hk_131_4 : ax_look 131 4 = some (.ireturn, (0, 0, 0), .null, []) := by decide +kernel
theorem hn_143 : (ax_mm 143).2.2.1 = 12 := by decide +kernel
theorem hr_143 : (ax_mm 143).2.2.2.1 = (some .int) := by decide +kernel
theorem hk_143_0 : ax_look 143 0 = some (.aload_n 0, (0, 0, 0), .null, []) := by decide +kernel
theorem hk_143_1 : ax_look 143 1 = some (.iconst 0, (0, 0, 0), .null, []) := by decide +kernel
theorem hk_143_2 : ax_look 143 2 = some (.putfield 61, (9, 0, 0), .null, [6176]) := by decide +kernel
theorem hk_143_5 : ax_look 143 5 = some (.aload_n 0, (0, 0, 0), .null, []) := by decide +kernel
theorem hk_143_6 : ax_look 143 6 = some (.getfield 93, (9, 7, 0), .null, [6183]) := by decide +kernel
theorem hk_143_9 : ax_look 143 9 = some (.bipush 20, (0, 0, 0), .null, []) := by decide +kernel
theorem hk_143_11 : ax_look 143 11 = some (.iadd, (0, 0, 0), .null, []) := by decide +kernel
theorem hk_143_12 : ax_look 143 12 = some (.sipush 200, (0, 0, 0), .null, []) := by decide +kernel
theorem hk_143_15 : ax_look 143 15 = some (.if_icmp .le 9, (0, 0, 0), .null, []) := by decide +kernel
theorem hk_143_18 : ax_look 143 18 = some (.aload_n 0, (0, 0, 0), .null, []) := by decide +kernel
theorem hk_143_19 : ax_look 143 19 = some (.iconst 1, (0, 0, 0), .null, []) := by decide +kernel
theorem hk_143_20 : ax_look 143 20 = some (.invokevirtual 96, (132, 1, 9), .null, [7042, 29]) := by decide +kernel
theorem hk_143_23 : ax_look 143 23 = some (.ireturn, (0, 0, 0), .null, []) := by decide +kernel
theorem hk_143_24 : ax_look 143 24 = some (.iconst 5, (0, 0, 0), .null, []) := by decide +kernel
theorem hk_143_25 : ax_look 143 25 = some (.newarray .int, (0, 0, 0), .null, [1056]) := by decide +kernel
theorem hk_143_27 : ax_look 143 27 = some (.dup, (0, 0, 0), .null, []) := by decide +kernel
theorem hk_143_28 : ax_look 143 28 = some (.iconst 0, (0, 0, 0), .null, []) := by decide +kernel
theorem hk_143_29 : ax_look 143 29 = some (.iload_n 1, (0, 0, 0), .null, []) := by decide +kernel
theorem hk_143_30 : ax_look 143 30 = some (.iastore, (0, 0, 0), .null, []) := by decide +kernel
theorem hk_143_31 : ax_look 143 31 = some (.dup, (0, 0, 0), .null, []) := by decide +kernel
theorem hk_143_32 : ax_look 143 32 = some (.iconst 1, (0, 0, 0), .null, []) := by decide +kernel
theorem hk_143_33 : ax_look 143 33 = some (.iload_n 2, (0, 0, 0), .null, []) := by decide +kernel
theorem hk_143_34 : ax_look 143 34 = some (.iastore, (0, 0, 0), .null, []) := by decide +kernel
theorem hk_143_35 : ax_look 143 35 = some (.dup, (0, 0, 0), .null, []) := by decide +kernel
theorem hk_143_36 : ax_look 143 36 = some (.iconst 2, (0, 0, 0), .null, []) := by decide +kernel
theorem hk_143_37 : ax_look 143 37 = some (.iload_n 3, (0, 0, 0), .null, []) := by decide +kernel
theorem hk_143_38 : ax_look 143 38 = some (.iastore, (0, 0, 0), .null, []) := by decide +kernel
theorem hk_143_39 : ax_look 143 39 = some (.dup, (0, 0, 0), .null, []) := by decide +kernel
theorem hk_143_40 : ax_look 143 40 = some (.iconst 3, (0, 0, 0), .null, []) := by decide +kernel
theorem hk_143_41 : ax_look 143 41 = some (.iload 4, (0, 0, 0), .null, []) := by decide +kernel
theorem hk_143_43 : ax_look 143 43 = some (.iastore, (0, 0, 0), .null, []) := by decide +kernel
theorem hk_143_44 : ax_look 143 44 = some (.dup, (0, 0, 0), .null, []) := by decide +kernel
theorem hk_143_45 : ax_look 143 45 = some (.iconst 4, (0, 0, 0), .null, []) := by decide +kernel
theorem hk_143_46 : ax_look 143 46 = some (.iload 5, (0, 0, 0), .null, []) := by decide +kernel
theorem hk_143_48 : ax_look 143 48 = some (.iastore, (0, 0, 0), .null, []) := by decide +kernel
theorem hk_143_49 : ax_look 143 49 = some (.astore 6, (0, 0, 0), .null, []) := by decide +kernel
theorem hk_143_51 : ax_look 143 51 = some (.aload 6, (0, 0, 0), .null, []) := by decide +kernel
theorem hk_143_53 : ax_look 143 53 = some (.astore 7, (0, 0, 0), .null, []) := by decide +kernel
theorem hk_143_55 : ax_look 143 55 = some (.aload 7, (0, 0, 0), .null, []) := by decide +kernel
theorem hk_143_57 : ax_look 143 57 = some (.arraylength, (0, 0, 0), .null, []) := by decide +kernel
theorem hk_143_58 : ax_look 143 58 = some (.istore 8, (0, 0, 0), .null, []) := by decide +kernel
theorem hk_143_60 : ax_look 143 60 = some (.iconst 0, (0, 0, 0), .null, []) := by decide +kernel
theorem hk_143_61 : ax_look 143 61 = some (.istore 9, (0, 0, 0), .null, []) := by decide +kernel
theorem hk_143_63 : ax_look 143 63 = some (.iload 9, (0, 0, 0), .null, []) := by decide +kernel
theorem hk_143_65 : ax_look 143 65 = some (.iload 8, (0, 0, 0), .null, []) := by decide +kernel
theorem hk_143_67 : ax_look 143 67 = some (.if_icmp .ge 59, (0, 0, 0), .null, []) := by decide +kernel
theorem hk_143_70 : ax_look 143 70 = some (.aload 7, (0, 0, 0), .null, []) := by decide +kernel
theorem hk_143_72 : ax_look 143 72 = some (.iload 9, (0, 0, 0), .null, []) := by decide +kernel
theorem hk_143_74 : ax_look 143 74 = some (.iaload, (0, 0, 0), .null, []) := by decide +kernel
theorem hk_143_75 : ax_look 143 75 = some (.istore 10, (0, 0, 0), .null, []) := by decide +kernel
theorem hk_143_77 : ax_look 143 77 = some (.bipush 24, (0, 0, 0), .null, []) := by decide +kernel
theorem hk_143_79 : ax_look 143 79 = some (.istore 11, (0, 0, 0), .null, []) := by decide +kernel
theorem hk_143_81 : ax_look 143 81 = some (.iload 11, (0, 0, 0), .null, []) := by decide +kernel
theorem hk_143_83 : ax_look 143 83 = some (.ifCond .lt 37, (0, 0, 0), .null, []) := by decide +kernel
theorem hk_143_86 : ax_look 143 86 = some (.aload_n 0, (0, 0, 0), .null, []) := by decide +kernel
theorem hk_143_87 : ax_look 143 87 = some (.getfield 19, (9, 6, 0), .null, [6182]) := by decide +kernel
theorem hk_143_90 : ax_look 143 90 = some (.aload_n 0, (0, 0, 0), .null, []) := by decide +kernel
theorem hk_143_91 : ax_look 143 91 = some (.getfield 93, (9, 7, 0), .null, [6183]) := by decide +kernel
theorem hk_143_94 : ax_look 143 94 = some (.iload 10, (0, 0, 0), .null, []) := by decide +kernel
theorem hk_143_96 : ax_look 143 96 = some (.iload 11, (0, 0, 0), .null, []) := by decide +kernel
theorem hk_143_98 : ax_look 143 98 = some (.ishr, (0, 0, 0), .null, []) := by decide +kernel
theorem hk_143_99 : ax_look 143 99 = some (.sipush 255, (0, 0, 0), .null, []) := by decide +kernel
theorem hk_143_102 : ax_look 143 102 = some (.iand, (0, 0, 0), .null, []) := by decide +kernel
theorem hk_143_103 : ax_look 143 103 = some (.iastore, (0, 0, 0), .null, []) := by decide +kernel
theorem hk_143_104 : ax_look 143 104 = some (.aload_n 0, (0, 0, 0), .null, []) := by decide +kernel
theorem hk_143_105 : ax_look 143 105 = some (.dup, (0, 0, 0), .null, []) := by decide +kernel
theorem hk_143_106 : ax_look 143 106 = some (.getfield 93, (9, 7, 0), .null, [6183]) := by decide +kernel
theorem hk_143_109 : ax_look 143 109 = some (.iconst 1, (0, 0, 0), .null, []) := by decide +kernel
theorem hk_143_110 : ax_look 143 110 = some (.iadd, (0, 0, 0), .null, []) := by decide +kernel
theorem hk_143_111 : ax_look 143 111 = some (.putfield 93, (9, 7, 0), .null, [6183]) := by decide +kernel
theorem hk_143_114 : ax_look 143 114 = some (.iinc 11 (-8), (0, 0, 0), .null, []) := by decide +kernel
theorem hk_143_117 : ax_look 143 117 = some (.goto (-36), (0, 0, 0), .null, []) := by decide +kernel
theorem hk_143_120 : ax_look 143 120 = some (.iinc 9 1, (0, 0, 0), .null, []) := by decide +kernel
theorem hk_143_123 : ax_look 143 123 = some (.goto (-60), (0, 0, 0), .null, []) := by decide +kernel
theorem hk_143_126 : ax_look 143 126 = some (.aload_n 0, (0, 0, 0), .null, []) := by decide +kernel
theorem hk_143_127 : ax_look 143 127 = some (.getfield 93, (9, 7, 0), .null, [6183]) := by decide +kernel
theorem hk_143_130 : ax_look 143 130 = some (.ireturn, (0, 0, 0), .null, []) := by decide +kernel
theorem hn_144 : (ax_mm 144).2.2.1 = 2 := by decide +kernel
theorem hr_144 : (ax_mm 144).2.2.2.1 = (some .int) := by decide +kernel
theorem hk_144_0 : ax_look 144 0 = some (.aload_n 0, (0, 0, 0), .null, []) := by decide +kernel
theorem hk_144_1 : ax_look 144 1 = some (.iconst 0, (0, 0, 0), .null, []) := by decide +kernel
theorem hk_144_2 : ax_look 144 2 = some (.putfield 61, (9, 0, 0), .null, [6176]) := by decide +kernel
theorem hk_144_5 : ax_look 144 5 = some (.iload_n 1, (0, 0, 0), .null, []) := by decide +kernel
theorem hk_144_6 : ax_look 144 6 = some (.ifCond .lt 11, (0, 0, 0), .null, []) := by decide +kernel
theorem hk_144_9 : ax_look 144 9 = some (.iload_n 1, (0, 0, 0), .null, []) := by decide +kernel
theorem hk_144_10 : ax_look 144 10 = some (.aload_n 0, (0, 0, 0), .null, []) := by decide +kernel
theorem hk_144_11 : ax_look 144 11 = some (.getfield 93, (9, 7, 0), .null, [6183]) := by decide +kernel
theorem hk_144_14 : ax_look 144 14 = some (.if_icmp .le 9, (0, 0, 0), .null, []) := by decide +kernel
theorem hk_144_17 : ax_look 144 17 = some (.aload_n 0, (0, 0, 0), .null, []) := by decide +kernel
theorem hk_144_18 : ax_look 144 18 = some (.iconst 1, (0, 0, 0), .null, []) := by decide +kernel
theorem hk_144_19 : ax_look 144 19 = some (.invokevirtual 96, (132, 1, 9), .null, [7042, 29]) := by decide +kernel
theorem hk_144_22 : ax_look 144 22 = some (.ireturn, (0, 0, 0), .null, []) := by decide +kernel
theorem hk_144_23 : ax_look 144 23 = some (.aload_n 0, (0, 0, 0), .null, []) := by decide +kernel
theorem hk_144_24 : ax_look 144 24 = some (.iload_n 1, (0, 0, 0), .null, []) := by decide +kernel
theorem hk_144_25 : ax_look 144 25 = some (.putfield 93, (9, 7, 0), .null, [6183]) := by decide +kernel
theorem hk_144_28 : ax_look 144 28 = some (.iload_n 1, (0, 0, 0), .null, []) := by decide +kernel
theorem hk_144_29 : ax_look 144 29 = some (.ireturn, (0, 0, 0), .null, []) := by decide +kernel
theorem hn_219 : (ax_mm 219).2.2.1 = 8 := by decide +kernel
theorem hr_219 : (ax_mm 219).2.2.2.1 = (some .int) := by decide +kernel
theorem hk_219_0 : ax_look 219 0 = some (.aload 6, (0, 0, 0), .null, []) := by decide +kernel
theorem hk_219_2 : ax_look 219 2 = some (.iconst 0, (0, 0, 0), .null, []) := by decide +kernel
theorem hk_219_3 : ax_look 219 3 = some (.aload_n 0, (0, 0, 0), .null, []) := by decide +kernel
theorem hk_219_4 : ax_look 219 4 = some (.iload_n 1, (0, 0, 0), .null, []) := by decide +kernel
theorem hk_219_5 : ax_look 219 5 = some (.iload_n 2, (0, 0, 0), .null, []) := by decide +kernel
theorem hk_219_6 : ax_look 219 6 = some (.iload_n 3, (0, 0, 0), .null, []) := by decide +kernel
theorem hk_219_7 : ax_look 219 7 = some (.iload 4, (0, 0, 0), .null, []) := by decide +kernel
theorem hk_219_9 : ax_look 219 9 = some (.iload 5, (0, 0, 0), .null, []) := by decide +kernel
theorem hk_219_11 : ax_look 219 11 = some (.invokevirtual 7, (70, 5, 8), .null, [2121, 2123]) := by decide +kernel
theorem hk_219_14 : ax_look 219 14 = some (.i2l, (0, 0, 0), .null, []) := by decide +kernel
theorem hk_219_15 : ax_look 219 15 = some (.lastore, (0, 0, 0), .null, []) := by decide +kernel
theorem hk_219_16 : ax_look 219 16 = some (.goto 7, (0, 0, 0), .null, []) := by decide +kernel
theorem hk_219_19 : ax_look 219 19 = some (.astore 7, (0, 0, 0), .null, []) := by decide +kernel
theorem hk_219_21 : ax_look 219 21 = some (.iconst 1, (0, 0, 0), .null, []) := by decide +kernel
theorem hk_219_22 : ax_look 219 22 = some (.ireturn, (0, 0, 0), .null, []) := by decide +kernel
theorem hk_219_23 : ax_look 219 23 = some (.iconst 0, (0, 0, 0), .null, []) := by decide +kernel
theorem hk_219_24 : ax_look 219 24 = some (.ireturn, (0, 0, 0), .null, []) := by decide +kernel
theorem hn_220 : (ax_mm 220).2.2.1 = 4 := by decide +kernel
theorem hr_220 : (ax_mm 220).2.2.2.1 = (some .int) := by decide +kernel
theorem hk_220_0 : ax_look 220 0 = some (.aload_n 2, (0, 0, 0), .null, []) := by decide +kernel
theorem hk_220_1 : ax_look 220 1 = some (.iconst 0, (0, 0, 0), .null, []) := by decide +kernel
theorem hk_220_2 : ax_look 220 2 = some (.aload_n 0, (0, 0, 0), .null, []) := by decide +kernel
theorem hk_220_3 : ax_look 220 3 = some (.iload_n 1, (0, 0, 0), .null, []) := by decide +kernel
theorem hk_220_4 : ax_look 220 4 = some (.invokevirtual 15, (71, 1, 8), .null, [2204, 2206]) := by decide +kernel
theorem hk_220_7 : ax_look 220 7 = some (.i2l, (0, 0, 0), .null, []) := by decide +kernel
theorem hk_220_8 : ax_look 220 8 = some (.lastore, (0, 0, 0), .null, []) := by decide +kernel
theorem hk_220_9 : ax_look 220 9 = some (.goto 6, (0, 0, 0), .null, []) := by decide +kernel
theorem hk_220_12 : ax_look 220 12 = some (.astore_n 3, (0, 0, 0), .null, []) := by decide +kernel
theorem hk_220_13 : ax_look 220 13 = some (.iconst 1, (0, 0, 0), .null, []) := by decide +kernel
theorem hk_220_14 : ax_look 220 14 = some (.ireturn, (0, 0, 0), .null, []) := by decide +kernel
theorem hk_220_15 : ax_look 220 15 = some (.iconst 0, (0, 0, 0), .null, []) := by decide +kernel
theorem hk_220_16 : ax_look 220 16 = some (.ireturn, (0, 0, 0), .null, []) := by decide +kernel
theorem hy_t1_1 : ty_tt 1 1 = (0, 0, 0, 0, 200) := by decide +kernel
theorem hy_t1_0 : ty_tt 1 0 = (2, 2, 0, 0, 0) := by decide +kernel
theorem hy_t2_0 : ty_tt 2 0 = (0, 0, 0, 0, 255) := by decide +kernel
theorem hy_t0_0 : ty_tt 0 0 = (2, 1, 0, 0, 0) := by decide +kernel
theorem hy_t197_0 : ty_tt 197 0 = (1, 0, 0, (-9223372036854775808), 9223372036854775807) := by decide +kernel
theorem hy_t181_6 : ty_tt 181 6 = (2, 185, 0, 0, 0) := by decide +kernel
theorem hy_t181_7 : ty_tt 181 7 = (0, 0, 0, 0, 200) := by decide +kernel
theorem hy_t185_0 : ty_tt 185 0 = (0, 0, 0, 0, 255) := by decide +kernel
section LPP
variable {l : Launch} {h : ax_H} {x y : Int32}
abbrev hy_c7 : ax_Cl := (RX7, TX7, 2, tyX7)
theorem hy_I.push (hH : hy_H 0 h) (hi : hy_I h) (gs : ax_H) : hy_I (h ++ gs) := by
  obtain ⟨e, q, he, q0, q1, k, bs, ml, n, B, hL, hn⟩ := hb_S.of hH hi.2.2.2.2
  have g9 : ∀ (p : Nat) c, h[p]? = some c → (h ++ gs)[p]? = some c := fun p c ec => by rw [List.getElem?_append_left (List.getElem?_eq_some_iff.mp ec).1]; exact ec
  exact (hb_fr.pu h gs).fI hH (e := e) (q := q) ⟨he, q0, q1, k, bs, ml, n, ⟨g9 _ _ B.1, g9 _ _ B.2.1, B.2.2⟩, hL, hn⟩ hi
/-- a store to what hy_I doesn't hang on -/
theorem hy_I.st {g : ax_H} {q : Nat} {v : Value} {j W : Nat} (hi : hy_I h) (F : ty_F W h g) (h31 : W.testBit 31 = false) (E : ∀ q' j', ty_fd g q' j' = if q' = q ∧ j' = j then some v else ty_fd h q' j') (hk : ty_IK.testBit (ty_ky q j) = false) : hy_I g := by
  refine hy_Ik h g (fun q' j' h1 h2 h3 => ?_) (F.2.2.2 h31) hi
  rw [E]
  rw [if_neg]
  rintro ⟨rfl, rfl⟩
  rw [hk] at h3
  cases h3
theorem lp_and {a b : Int32} (hb : b.toInt = 255) : 0 ≤ (a &&& b).toInt ∧ (a &&& b).toInt ≤ 255 := by
  have e : b = 255 := Int32.toInt_inj.mp hb
  subst e
  have h1 : (a &&& 255).toBitVec.toNat ≤ 255 := by
    rw [Int32.toBitVec_and, BitVec.toNat_and]
    exact Nat.and_le_right
  have h2 : (a &&& 255).toInt = ((a &&& 255).toBitVec.toNat : Int) := by
    show (a &&& 255).toBitVec.toInt = _
    rw [BitVec.toInt_eq_toNat_bmod]
    exact Int.bmod_eq_of_le (by show -_ ≤ ((a &&& 255).toBitVec.toNat : Int); omega) (by show ((a &&& 255).toBitVec.toNat : Int) < _; omega)
  omega
def hq_67 (h : ax_H) (n : Int) : ax_Q := fun res g => hy_H 0 g ∧ ty_F 1572864 h g ∧ hy_I g ∧ res = .inl none ∧ hy_z g 1 1 = hy_z h 1 1 + n
theorem lp_67 (hlst : l.stackTraces = false) (hH : hy_H 0 h) (hi : hy_I h) (h1 : hy_z h 1 1 ≤ 196) : AM ax_ns l (ax_mm 67) 0 ty_R (0) (0) [.ref 1, .int x] h (hq_67 h 4) := by
  refine AM.of (ax_mfacts (by decide +kernel : ax_has 67 = true)).2.2.2.2.2.2 hlst (by rw [hn_67]; exact Nat.le_of_ble_eq_true rfl) ?_
  show AR ax_ns l (ax_mm 67) 0 ty_R _ _ 0 [(0, .ref 1), (1, .int x)] [] h (0) (0)
  have F : ty_F 1572864 h h := ty_F_refl _ _
  show AR _ _ _ _ _ _ _ 0 [(0, .ref 1), (1, .int x)] [] h _ _
  refine AR.bipushT hk_67_0 (by decide) (fun z139 ez139 => ?_)
  show AR _ _ _ _ _ _ _ 2 [(0, .ref 1), (1, .int x)] [.int z139] h _ _
  refine AR.s (pc' := 3) (lv' := [(2, .int z139), (0, .ref 1), (1, .int x)]) (st' := []) (h' := h) _ hn_67 hk_67_2 rfl ?_
  refine AR.s (pc' := 4) (lv' := [(2, .int z139), (0, .ref 1), (1, .int x)]) (st' := [.int z139]) (h' := h) _ hn_67 hk_67_3 rfl ?_
  refine AR.zlt hk_67_4 (tgt := 49) (by decide) (fun p0 => ?_) (fun q0 => ?_)
  · exact absurd p0 (by omega)
  · refine AR.s (pc' := 8) (lv' := [(2, .int z139), (0, .ref 1), (1, .int x)]) (st' := [.ref 1]) (h' := h) _ hn_67 hk_67_7 rfl ?_
    refine AR.gI hk_67_8 (by decide) hH (q := 1) (n := 2) (by decide) (by decide +kernel) (by decide +kernel) (by decide) hy_t1_1 (fun x140 dx140 lx140 ux140 => ?_)
    show AR _ _ _ _ _ _ _ 11 [(2, .int z139), (0, .ref 1), (1, .int x)] [.int x140] h _ _
    have sx140 := hy_zi dx140
    refine AR.sipushT hk_67_11 (by decide) (fun z141 ez141 => ?_)
    show AR _ _ _ _ _ _ _ 14 [(2, .int z139), (0, .ref 1), (1, .int x)] [.int z141, .int x140] h _ _
    refine AR.jge hk_67_14 (tgt := 49) (by decide) (fun p1 => ?_) (fun q1 => ?_)
    · exact absurd p1 (by omega)
    · refine AR.s (pc' := 18) (lv' := [(2, .int z139), (0, .ref 1), (1, .int x)]) (st' := [.ref 1]) (h' := h) _ hn_67 hk_67_17 rfl ?_
      refine AR.gR hk_67_18 (by decide) hH (q := 1) (n := 2) (by decide) (by decide +kernel) (by decide +kernel) (by decide) hy_t1_0 ?_
      show AR _ _ _ _ _ _ _ 21 [(2, .int z139), (0, .ref 1), (1, .int x)] [.ref 2] h _ _
      refine AR.s (pc' := 22) (lv' := [(2, .int z139), (0, .ref 1), (1, .int x)]) (st' := [.ref 1, .ref 2]) (h' := h) _ hn_67 hk_67_21 rfl ?_
      refine AR.gI hk_67_22 (by decide) hH (q := 1) (n := 2) (by decide) (by decide +kernel) (by decide +kernel) (by decide) hy_t1_1 (fun x142 dx142 lx142 ux142 => ?_)
      show AR _ _ _ _ _ _ _ 25 [(2, .int z139), (0, .ref 1), (1, .int x)] [.int x142, .ref 2] h _ _
      have sx142 := hy_zi dx142
      refine AR.s (pc' := 26) (lv' := [(2, .int z139), (0, .ref 1), (1, .int x)]) (st' := [.int x, .int x142, .ref 2]) (h' := h) _ hn_67 hk_67_25 rfl ?_
      refine AR.s (pc' := 27) (lv' := [(2, .int z139), (0, .ref 1), (1, .int x)]) (st' := [.int z139, .int x, .int x142, .ref 2]) (h' := h) _ hn_67 hk_67_26 rfl ?_
      refine AR.ishr (z := .int (x >>> (z139 &&& 31))) (ax_look_ok hk_67_27).1 rfl ?_
      generalize x >>> (z139 &&& 31) = z143
      show AR _ _ _ _ _ _ _ 28 [(2, .int z139), (0, .ref 1), (1, .int x)] [.int z143, .int x142, .ref 2] h _ _
      refine AR.sipushT hk_67_28 (by decide) (fun z144 ez144 => ?_)
      show AR _ _ _ _ _ _ _ 31 [(2, .int z139), (0, .ref 1), (1, .int x)] [.int z144, .int z143, .int x142, .ref 2] h _ _
      refine AR.iand (z := .int (z143 &&& z144)) (ax_look_ok hk_67_31).1 rfl ?_
      have ez145 := lp_and (a := z143) ez144
      generalize z143 &&& z144 = z145 at ez145
      show AR _ _ _ _ _ _ _ 32 [(2, .int z139), (0, .ref 1), (1, .int x)] [.int z145, .int x142, .ref 2] h _ _
      refine AR.isT hk_67_32 hH F (q := 2) (n := 200) (by decide) (by decide +kernel) (by decide +kernel) (by decide +kernel) hy_t2_0 (by omega) (by omega) (by omega) (by omega) (by decide +kernel) ?_
      rintro g146 ⟨Hg146, Fg146, Gg146, Eg146⟩
      show AR _ _ _ _ _ _ _ 33 [(2, .int z139), (0, .ref 1), (1, .int x)] [] g146 _ _
      have ig146 : hy_I g146 := hi.st Gg146 (by decide) Eg146 (by unfold ty_ky; rw [show ty_ar 2 = true from by decide +kernel]; show ty_IK.testBit ((ty_tab 2).2.2.1 - 1 + 0) = false; decide +kernel)
      have ug146_1_1 : hy_z g146 1 1 = hy_z h 1 1 := hy_ze (by rw [Eg146, if_neg (fun c => absurd c.1 (by decide))])
      refine AR.s (pc' := 34) (lv' := [(2, .int z139), (0, .ref 1), (1, .int x)]) (st' := [.ref 1]) (h' := g146) _ hn_67 hk_67_33 rfl ?_
      refine AR.s (pc' := 35) (lv' := [(2, .int z139), (0, .ref 1), (1, .int x)]) (st' := [.ref 1, .ref 1]) (h' := g146) _ hn_67 hk_67_34 rfl ?_
      refine AR.gI hk_67_35 (by decide) Hg146 (q := 1) (n := 2) (by decide) (by decide +kernel) (by decide +kernel) (by decide) hy_t1_1 (fun x147 dx147 lx147 ux147 => ?_)
      show AR _ _ _ _ _ _ _ 38 [(2, .int z139), (0, .ref 1), (1, .int x)] [.int x147, .ref 1] g146 _ _
      have sx147 := hy_zi dx147
      refine AR.iconstT hk_67_38 (by decide) (fun z148 ez148 => ?_)
      show AR _ _ _ _ _ _ _ 39 [(2, .int z139), (0, .ref 1), (1, .int x)] [.int z148, .int x147, .ref 1] g146 _ _
      refine AR.addT hk_67_39 (by omega) (by omega) (fun z149 ez149 => ?_)
      show AR _ _ _ _ _ _ _ 40 [(2, .int z139), (0, .ref 1), (1, .int x)] [.int z149, .ref 1] g146 _ _
      refine AR.pT hk_67_40 (by decide) Hg146 Fg146 (q := 1) (by decide) (by decide +kernel) (show ax_cls[7]? = some hy_c7 from rfl) (by decide +kernel) (by decide) rfl (by rw [hy_t1_1]; exact ⟨_, rfl, by omega, by omega, Or.inl rfl⟩) (by decide +kernel) (by decide +kernel) ?_
      rintro g150 ⟨Hg150, Fg150, Gg150, Eg150⟩
      show AR _ _ _ _ _ _ _ 43 [(2, .int z139), (0, .ref 1), (1, .int x)] [] g150 _ _
      have ig150 : hy_I g150 := ig146.st Gg150 (by decide) Eg150 (by decide +kernel)
      have ug150_1_1 : hy_z g150 1 1 = z149.toInt := hy_zi (i := z149) (by rw [Eg150, if_pos ⟨rfl, rfl⟩])
      refine AR.iincT hk_67_43 (x := z139) rfl (by rw [hn_67]; decide) (by decide) (by omega) (by omega) (fun z151 ez151 => ?_)
      show AR _ _ _ _ _ _ _ 46 [(2, .int z151), (0, .ref 1), (1, .int x)] [] g150 _ _
      refine AR.gotoT hk_67_46 (tgt := 3) (by decide) ?_
      refine AR.s (pc' := 4) (lv' := [(2, .int z151), (0, .ref 1), (1, .int x)]) (st' := [.int z151]) (h' := g150) _ hn_67 hk_67_3 rfl ?_
      refine AR.zlt hk_67_4 (tgt := 49) (by decide) (fun p2 => ?_) (fun q2 => ?_)
      · exact absurd p2 (by omega)
      · refine AR.s (pc' := 8) (lv' := [(2, .int z151), (0, .ref 1), (1, .int x)]) (st' := [.ref 1]) (h' := g150) _ hn_67 hk_67_7 rfl ?_
        refine AR.gI hk_67_8 (by decide) Hg150 (q := 1) (n := 2) (by decide) (by decide +kernel) (by decide +kernel) (by decide) hy_t1_1 (fun x152 dx152 lx152 ux152 => ?_)
        show AR _ _ _ _ _ _ _ 11 [(2, .int z151), (0, .ref 1), (1, .int x)] [.int x152] g150 _ _
        have sx152 := hy_zi dx152
        refine AR.sipushT hk_67_11 (by decide) (fun z153 ez153 => ?_)
        show AR _ _ _ _ _ _ _ 14 [(2, .int z151), (0, .ref 1), (1, .int x)] [.int z153, .int x152] g150 _ _
        refine AR.jge hk_67_14 (tgt := 49) (by decide) (fun p3 => ?_) (fun q3 => ?_)
        · exact absurd p3 (by omega)
        · refine AR.s (pc' := 18) (lv' := [(2, .int z151), (0, .ref 1), (1, .int x)]) (st' := [.ref 1]) (h' := g150) _ hn_67 hk_67_17 rfl ?_
          refine AR.gR hk_67_18 (by decide) Hg150 (q := 1) (n := 2) (by decide) (by decide +kernel) (by decide +kernel) (by decide) hy_t1_0 ?_
          show AR _ _ _ _ _ _ _ 21 [(2, .int z151), (0, .ref 1), (1, .int x)] [.ref 2] g150 _ _
          refine AR.s (pc' := 22) (lv' := [(2, .int z151), (0, .ref 1), (1, .int x)]) (st' := [.ref 1, .ref 2]) (h' := g150) _ hn_67 hk_67_21 rfl ?_
          refine AR.gI hk_67_22 (by decide) Hg150 (q := 1) (n := 2) (by decide) (by decide +kernel) (by decide +kernel) (by decide) hy_t1_1 (fun x154 dx154 lx154 ux154 => ?_)
          show AR _ _ _ _ _ _ _ 25 [(2, .int z151), (0, .ref 1), (1, .int x)] [.int x154, .ref 2] g150 _ _
          have sx154 := hy_zi dx154
          refine AR.s (pc' := 26) (lv' := [(2, .int z151), (0, .ref 1), (1, .int x)]) (st' := [.int x, .int x154, .ref 2]) (h' := g150) _ hn_67 hk_67_25 rfl ?_
          refine AR.s (pc' := 27) (lv' := [(2, .int z151), (0, .ref 1), (1, .int x)]) (st' := [.int z151, .int x, .int x154, .ref 2]) (h' := g150) _ hn_67 hk_67_26 rfl ?_
          refine AR.ishr (z := .int (x >>> (z151 &&& 31))) (ax_look_ok hk_67_27).1 rfl ?_
          generalize x >>> (z151 &&& 31) = z155
          show AR _ _ _ _ _ _ _ 28 [(2, .int z151), (0, .ref 1), (1, .int x)] [.int z155, .int x154, .ref 2] g150 _ _
          refine AR.sipushT hk_67_28 (by decide) (fun z156 ez156 => ?_)
          show AR _ _ _ _ _ _ _ 31 [(2, .int z151), (0, .ref 1), (1, .int x)] [.int z156, .int z155, .int x154, .ref 2] g150 _ _
          refine AR.iand (z := .int (z155 &&& z156)) (ax_look_ok hk_67_31).1 rfl ?_
          have ez157 := lp_and (a := z155) ez156
          generalize z155 &&& z156 = z157 at ez157
          show AR _ _ _ _ _ _ _ 32 [(2, .int z151), (0, .ref 1), (1, .int x)] [.int z157, .int x154, .ref 2] g150 _ _
          refine AR.isT hk_67_32 Hg150 Fg150 (q := 2) (n := 200) (by decide) (by decide +kernel) (by decide +kernel) (by decide +kernel) hy_t2_0 (by omega) (by omega) (by omega) (by omega) (by decide +kernel) ?_
          rintro g158 ⟨Hg158, Fg158, Gg158, Eg158⟩
          show AR _ _ _ _ _ _ _ 33 [(2, .int z151), (0, .ref 1), (1, .int x)] [] g158 _ _
          have ig158 : hy_I g158 := ig150.st Gg158 (by decide) Eg158 (by unfold ty_ky; rw [show ty_ar 2 = true from by decide +kernel]; show ty_IK.testBit ((ty_tab 2).2.2.1 - 1 + 0) = false; decide +kernel)
          have ug158_1_1 : hy_z g158 1 1 = hy_z g150 1 1 := hy_ze (by rw [Eg158, if_neg (fun c => absurd c.1 (by decide))])
          refine AR.s (pc' := 34) (lv' := [(2, .int z151), (0, .ref 1), (1, .int x)]) (st' := [.ref 1]) (h' := g158) _ hn_67 hk_67_33 rfl ?_
          refine AR.s (pc' := 35) (lv' := [(2, .int z151), (0, .ref 1), (1, .int x)]) (st' := [.ref 1, .ref 1]) (h' := g158) _ hn_67 hk_67_34 rfl ?_
          refine AR.gI hk_67_35 (by decide) Hg158 (q := 1) (n := 2) (by decide) (by decide +kernel) (by decide +kernel) (by decide) hy_t1_1 (fun x159 dx159 lx159 ux159 => ?_)
          show AR _ _ _ _ _ _ _ 38 [(2, .int z151), (0, .ref 1), (1, .int x)] [.int x159, .ref 1] g158 _ _
          have sx159 := hy_zi dx159
          refine AR.iconstT hk_67_38 (by decide) (fun z160 ez160 => ?_)
          show AR _ _ _ _ _ _ _ 39 [(2, .int z151), (0, .ref 1), (1, .int x)] [.int z160, .int x159, .ref 1] g158 _ _
          refine AR.addT hk_67_39 (by omega) (by omega) (fun z161 ez161 => ?_)
          show AR _ _ _ _ _ _ _ 40 [(2, .int z151), (0, .ref 1), (1, .int x)] [.int z161, .ref 1] g158 _ _
          refine AR.pT hk_67_40 (by decide) Hg158 Fg158 (q := 1) (by decide) (by decide +kernel) (show ax_cls[7]? = some hy_c7 from rfl) (by decide +kernel) (by decide) rfl (by rw [hy_t1_1]; exact ⟨_, rfl, by omega, by omega, Or.inl rfl⟩) (by decide +kernel) (by decide +kernel) ?_
          rintro g162 ⟨Hg162, Fg162, Gg162, Eg162⟩
          show AR _ _ _ _ _ _ _ 43 [(2, .int z151), (0, .ref 1), (1, .int x)] [] g162 _ _
          have ig162 : hy_I g162 := ig158.st Gg162 (by decide) Eg162 (by decide +kernel)
          have ug162_1_1 : hy_z g162 1 1 = z161.toInt := hy_zi (i := z161) (by rw [Eg162, if_pos ⟨rfl, rfl⟩])
          refine AR.iincT hk_67_43 (x := z151) rfl (by rw [hn_67]; decide) (by decide) (by omega) (by omega) (fun z163 ez163 => ?_)
          show AR _ _ _ _ _ _ _ 46 [(2, .int z163), (0, .ref 1), (1, .int x)] [] g162 _ _
          refine AR.gotoT hk_67_46 (tgt := 3) (by decide) ?_
          refine AR.s (pc' := 4) (lv' := [(2, .int z163), (0, .ref 1), (1, .int x)]) (st' := [.int z163]) (h' := g162) _ hn_67 hk_67_3 rfl ?_
          refine AR.zlt hk_67_4 (tgt := 49) (by decide) (fun p4 => ?_) (fun q4 => ?_)
          · exact absurd p4 (by omega)
          · refine AR.s (pc' := 8) (lv' := [(2, .int z163), (0, .ref 1), (1, .int x)]) (st' := [.ref 1]) (h' := g162) _ hn_67 hk_67_7 rfl ?_
            refine AR.gI hk_67_8 (by decide) Hg162 (q := 1) (n := 2) (by decide) (by decide +kernel) (by decide +kernel) (by decide) hy_t1_1 (fun x164 dx164 lx164 ux164 => ?_)
            show AR _ _ _ _ _ _ _ 11 [(2, .int z163), (0, .ref 1), (1, .int x)] [.int x164] g162 _ _
            have sx164 := hy_zi dx164
            refine AR.sipushT hk_67_11 (by decide) (fun z165 ez165 => ?_)
            show AR _ _ _ _ _ _ _ 14 [(2, .int z163), (0, .ref 1), (1, .int x)] [.int z165, .int x164] g162 _ _
            refine AR.jge hk_67_14 (tgt := 49) (by decide) (fun p5 => ?_) (fun q5 => ?_)
            · exact absurd p5 (by omega)
            · refine AR.s (pc' := 18) (lv' := [(2, .int z163), (0, .ref 1), (1, .int x)]) (st' := [.ref 1]) (h' := g162) _ hn_67 hk_67_17 rfl ?_
              refine AR.gR hk_67_18 (by decide) Hg162 (q := 1) (n := 2) (by decide) (by decide +kernel) (by decide +kernel) (by decide) hy_t1_0 ?_
              show AR _ _ _ _ _ _ _ 21 [(2, .int z163), (0, .ref 1), (1, .int x)] [.ref 2] g162 _ _
              refine AR.s (pc' := 22) (lv' := [(2, .int z163), (0, .ref 1), (1, .int x)]) (st' := [.ref 1, .ref 2]) (h' := g162) _ hn_67 hk_67_21 rfl ?_
              refine AR.gI hk_67_22 (by decide) Hg162 (q := 1) (n := 2) (by decide) (by decide +kernel) (by decide +kernel) (by decide) hy_t1_1 (fun x166 dx166 lx166 ux166 => ?_)
              show AR _ _ _ _ _ _ _ 25 [(2, .int z163), (0, .ref 1), (1, .int x)] [.int x166, .ref 2] g162 _ _
              have sx166 := hy_zi dx166
              refine AR.s (pc' := 26) (lv' := [(2, .int z163), (0, .ref 1), (1, .int x)]) (st' := [.int x, .int x166, .ref 2]) (h' := g162) _ hn_67 hk_67_25 rfl ?_
              refine AR.s (pc' := 27) (lv' := [(2, .int z163), (0, .ref 1), (1, .int x)]) (st' := [.int z163, .int x, .int x166, .ref 2]) (h' := g162) _ hn_67 hk_67_26 rfl ?_
              refine AR.ishr (z := .int (x >>> (z163 &&& 31))) (ax_look_ok hk_67_27).1 rfl ?_
              generalize x >>> (z163 &&& 31) = z167
              show AR _ _ _ _ _ _ _ 28 [(2, .int z163), (0, .ref 1), (1, .int x)] [.int z167, .int x166, .ref 2] g162 _ _
              refine AR.sipushT hk_67_28 (by decide) (fun z168 ez168 => ?_)
              show AR _ _ _ _ _ _ _ 31 [(2, .int z163), (0, .ref 1), (1, .int x)] [.int z168, .int z167, .int x166, .ref 2] g162 _ _
              refine AR.iand (z := .int (z167 &&& z168)) (ax_look_ok hk_67_31).1 rfl ?_
              have ez169 := lp_and (a := z167) ez168
              generalize z167 &&& z168 = z169 at ez169
              show AR _ _ _ _ _ _ _ 32 [(2, .int z163), (0, .ref 1), (1, .int x)] [.int z169, .int x166, .ref 2] g162 _ _
              refine AR.isT hk_67_32 Hg162 Fg162 (q := 2) (n := 200) (by decide) (by decide +kernel) (by decide +kernel) (by decide +kernel) hy_t2_0 (by omega) (by omega) (by omega) (by omega) (by decide +kernel) ?_
              rintro g170 ⟨Hg170, Fg170, Gg170, Eg170⟩
              show AR _ _ _ _ _ _ _ 33 [(2, .int z163), (0, .ref 1), (1, .int x)] [] g170 _ _
              have ig170 : hy_I g170 := ig162.st Gg170 (by decide) Eg170 (by unfold ty_ky; rw [show ty_ar 2 = true from by decide +kernel]; show ty_IK.testBit ((ty_tab 2).2.2.1 - 1 + 0) = false; decide +kernel)
              have ug170_1_1 : hy_z g170 1 1 = hy_z g162 1 1 := hy_ze (by rw [Eg170, if_neg (fun c => absurd c.1 (by decide))])
              refine AR.s (pc' := 34) (lv' := [(2, .int z163), (0, .ref 1), (1, .int x)]) (st' := [.ref 1]) (h' := g170) _ hn_67 hk_67_33 rfl ?_
              refine AR.s (pc' := 35) (lv' := [(2, .int z163), (0, .ref 1), (1, .int x)]) (st' := [.ref 1, .ref 1]) (h' := g170) _ hn_67 hk_67_34 rfl ?_
              refine AR.gI hk_67_35 (by decide) Hg170 (q := 1) (n := 2) (by decide) (by decide +kernel) (by decide +kernel) (by decide) hy_t1_1 (fun x171 dx171 lx171 ux171 => ?_)
              show AR _ _ _ _ _ _ _ 38 [(2, .int z163), (0, .ref 1), (1, .int x)] [.int x171, .ref 1] g170 _ _
              have sx171 := hy_zi dx171
              refine AR.iconstT hk_67_38 (by decide) (fun z172 ez172 => ?_)
              show AR _ _ _ _ _ _ _ 39 [(2, .int z163), (0, .ref 1), (1, .int x)] [.int z172, .int x171, .ref 1] g170 _ _
              refine AR.addT hk_67_39 (by omega) (by omega) (fun z173 ez173 => ?_)
              show AR _ _ _ _ _ _ _ 40 [(2, .int z163), (0, .ref 1), (1, .int x)] [.int z173, .ref 1] g170 _ _
              refine AR.pT hk_67_40 (by decide) Hg170 Fg170 (q := 1) (by decide) (by decide +kernel) (show ax_cls[7]? = some hy_c7 from rfl) (by decide +kernel) (by decide) rfl (by rw [hy_t1_1]; exact ⟨_, rfl, by omega, by omega, Or.inl rfl⟩) (by decide +kernel) (by decide +kernel) ?_
              rintro g174 ⟨Hg174, Fg174, Gg174, Eg174⟩
              show AR _ _ _ _ _ _ _ 43 [(2, .int z163), (0, .ref 1), (1, .int x)] [] g174 _ _
              have ig174 : hy_I g174 := ig170.st Gg174 (by decide) Eg174 (by decide +kernel)
              have ug174_1_1 : hy_z g174 1 1 = z173.toInt := hy_zi (i := z173) (by rw [Eg174, if_pos ⟨rfl, rfl⟩])
              refine AR.iincT hk_67_43 (x := z163) rfl (by rw [hn_67]; decide) (by decide) (by omega) (by omega) (fun z175 ez175 => ?_)
              show AR _ _ _ _ _ _ _ 46 [(2, .int z175), (0, .ref 1), (1, .int x)] [] g174 _ _
              refine AR.gotoT hk_67_46 (tgt := 3) (by decide) ?_
              refine AR.s (pc' := 4) (lv' := [(2, .int z175), (0, .ref 1), (1, .int x)]) (st' := [.int z175]) (h' := g174) _ hn_67 hk_67_3 rfl ?_
              refine AR.zlt hk_67_4 (tgt := 49) (by decide) (fun p6 => ?_) (fun q6 => ?_)
              · exact absurd p6 (by omega)
              · refine AR.s (pc' := 8) (lv' := [(2, .int z175), (0, .ref 1), (1, .int x)]) (st' := [.ref 1]) (h' := g174) _ hn_67 hk_67_7 rfl ?_
                refine AR.gI hk_67_8 (by decide) Hg174 (q := 1) (n := 2) (by decide) (by decide +kernel) (by decide +kernel) (by decide) hy_t1_1 (fun x176 dx176 lx176 ux176 => ?_)
                show AR _ _ _ _ _ _ _ 11 [(2, .int z175), (0, .ref 1), (1, .int x)] [.int x176] g174 _ _
                have sx176 := hy_zi dx176
                refine AR.sipushT hk_67_11 (by decide) (fun z177 ez177 => ?_)
                show AR _ _ _ _ _ _ _ 14 [(2, .int z175), (0, .ref 1), (1, .int x)] [.int z177, .int x176] g174 _ _
                refine AR.jge hk_67_14 (tgt := 49) (by decide) (fun p7 => ?_) (fun q7 => ?_)
                · exact absurd p7 (by omega)
                · refine AR.s (pc' := 18) (lv' := [(2, .int z175), (0, .ref 1), (1, .int x)]) (st' := [.ref 1]) (h' := g174) _ hn_67 hk_67_17 rfl ?_
                  refine AR.gR hk_67_18 (by decide) Hg174 (q := 1) (n := 2) (by decide) (by decide +kernel) (by decide +kernel) (by decide) hy_t1_0 ?_
                  show AR _ _ _ _ _ _ _ 21 [(2, .int z175), (0, .ref 1), (1, .int x)] [.ref 2] g174 _ _
                  refine AR.s (pc' := 22) (lv' := [(2, .int z175), (0, .ref 1), (1, .int x)]) (st' := [.ref 1, .ref 2]) (h' := g174) _ hn_67 hk_67_21 rfl ?_
                  refine AR.gI hk_67_22 (by decide) Hg174 (q := 1) (n := 2) (by decide) (by decide +kernel) (by decide +kernel) (by decide) hy_t1_1 (fun x178 dx178 lx178 ux178 => ?_)
                  show AR _ _ _ _ _ _ _ 25 [(2, .int z175), (0, .ref 1), (1, .int x)] [.int x178, .ref 2] g174 _ _
                  have sx178 := hy_zi dx178
                  refine AR.s (pc' := 26) (lv' := [(2, .int z175), (0, .ref 1), (1, .int x)]) (st' := [.int x, .int x178, .ref 2]) (h' := g174) _ hn_67 hk_67_25 rfl ?_
                  refine AR.s (pc' := 27) (lv' := [(2, .int z175), (0, .ref 1), (1, .int x)]) (st' := [.int z175, .int x, .int x178, .ref 2]) (h' := g174) _ hn_67 hk_67_26 rfl ?_
                  refine AR.ishr (z := .int (x >>> (z175 &&& 31))) (ax_look_ok hk_67_27).1 rfl ?_
                  generalize x >>> (z175 &&& 31) = z179
                  show AR _ _ _ _ _ _ _ 28 [(2, .int z175), (0, .ref 1), (1, .int x)] [.int z179, .int x178, .ref 2] g174 _ _
                  refine AR.sipushT hk_67_28 (by decide) (fun z180 ez180 => ?_)
                  show AR _ _ _ _ _ _ _ 31 [(2, .int z175), (0, .ref 1), (1, .int x)] [.int z180, .int z179, .int x178, .ref 2] g174 _ _
                  refine AR.iand (z := .int (z179 &&& z180)) (ax_look_ok hk_67_31).1 rfl ?_
                  have ez181 := lp_and (a := z179) ez180
                  generalize z179 &&& z180 = z181 at ez181
                  show AR _ _ _ _ _ _ _ 32 [(2, .int z175), (0, .ref 1), (1, .int x)] [.int z181, .int x178, .ref 2] g174 _ _
                  refine AR.isT hk_67_32 Hg174 Fg174 (q := 2) (n := 200) (by decide) (by decide +kernel) (by decide +kernel) (by decide +kernel) hy_t2_0 (by omega) (by omega) (by omega) (by omega) (by decide +kernel) ?_
                  rintro g182 ⟨Hg182, Fg182, Gg182, Eg182⟩
                  show AR _ _ _ _ _ _ _ 33 [(2, .int z175), (0, .ref 1), (1, .int x)] [] g182 _ _
                  have ig182 : hy_I g182 := ig174.st Gg182 (by decide) Eg182 (by unfold ty_ky; rw [show ty_ar 2 = true from by decide +kernel]; show ty_IK.testBit ((ty_tab 2).2.2.1 - 1 + 0) = false; decide +kernel)
                  have ug182_1_1 : hy_z g182 1 1 = hy_z g174 1 1 := hy_ze (by rw [Eg182, if_neg (fun c => absurd c.1 (by decide))])
                  refine AR.s (pc' := 34) (lv' := [(2, .int z175), (0, .ref 1), (1, .int x)]) (st' := [.ref 1]) (h' := g182) _ hn_67 hk_67_33 rfl ?_
                  refine AR.s (pc' := 35) (lv' := [(2, .int z175), (0, .ref 1), (1, .int x)]) (st' := [.ref 1, .ref 1]) (h' := g182) _ hn_67 hk_67_34 rfl ?_
                  refine AR.gI hk_67_35 (by decide) Hg182 (q := 1) (n := 2) (by decide) (by decide +kernel) (by decide +kernel) (by decide) hy_t1_1 (fun x183 dx183 lx183 ux183 => ?_)
                  show AR _ _ _ _ _ _ _ 38 [(2, .int z175), (0, .ref 1), (1, .int x)] [.int x183, .ref 1] g182 _ _
                  have sx183 := hy_zi dx183
                  refine AR.iconstT hk_67_38 (by decide) (fun z184 ez184 => ?_)
                  show AR _ _ _ _ _ _ _ 39 [(2, .int z175), (0, .ref 1), (1, .int x)] [.int z184, .int x183, .ref 1] g182 _ _
                  refine AR.addT hk_67_39 (by omega) (by omega) (fun z185 ez185 => ?_)
                  show AR _ _ _ _ _ _ _ 40 [(2, .int z175), (0, .ref 1), (1, .int x)] [.int z185, .ref 1] g182 _ _
                  refine AR.pT hk_67_40 (by decide) Hg182 Fg182 (q := 1) (by decide) (by decide +kernel) (show ax_cls[7]? = some hy_c7 from rfl) (by decide +kernel) (by decide) rfl (by rw [hy_t1_1]; exact ⟨_, rfl, by omega, by omega, Or.inl rfl⟩) (by decide +kernel) (by decide +kernel) ?_
                  rintro g186 ⟨Hg186, Fg186, Gg186, Eg186⟩
                  show AR _ _ _ _ _ _ _ 43 [(2, .int z175), (0, .ref 1), (1, .int x)] [] g186 _ _
                  have ig186 : hy_I g186 := ig182.st Gg186 (by decide) Eg186 (by decide +kernel)
                  have ug186_1_1 : hy_z g186 1 1 = z185.toInt := hy_zi (i := z185) (by rw [Eg186, if_pos ⟨rfl, rfl⟩])
                  refine AR.iincT hk_67_43 (x := z175) rfl (by rw [hn_67]; decide) (by decide) (by omega) (by omega) (fun z187 ez187 => ?_)
                  show AR _ _ _ _ _ _ _ 46 [(2, .int z187), (0, .ref 1), (1, .int x)] [] g186 _ _
                  refine AR.gotoT hk_67_46 (tgt := 3) (by decide) ?_
                  refine AR.s (pc' := 4) (lv' := [(2, .int z187), (0, .ref 1), (1, .int x)]) (st' := [.int z187]) (h' := g186) _ hn_67 hk_67_3 rfl ?_
                  refine AR.zlt hk_67_4 (tgt := 49) (by decide) (fun p8 => ?_) (fun q8 => ?_)
                  · exact AR.vret hk_67_49 hr_67 ⟨Hg186, Fg186, ig186, rfl, by omega⟩
                  · exact absurd q8 (by omega)
def hq_70 (h : ax_H) : ax_Q := fun res g => hy_H 0 g ∧ ty_F 1572864 h g ∧ hy_I g ∧ ((res = .inr "java/lang/IllegalStateException" ∧ 180 < hy_z h 1 1 ∧ hy_z g 1 1 = hy_z h 1 1) ∨ (hy_z h 1 1 ≤ 180 ∧ hy_z g 1 1 = hy_z h 1 1 + 20 ∧ ∃ z : Int32, res = .inl (some (.int z)) ∧ z.toInt = hy_z g 1 1))
theorem lp_c1 (hH : hy_H 0 h) : ∃ vs, h[1]? = some (7, vs) := by
  obtain ⟨vs, e1, -⟩ := hy_cell hH (q := 1) (by decide)
  rw [show (ty_tab 1).1 = 7 from by decide +kernel] at e1
  exact ⟨vs, e1⟩
variable {y1 y2 y3 y4 y5 : Int32}
theorem lp_70 (hlst : l.stackTraces = false) (hH : hy_H 0 h) (hi : hy_I h) : AM ax_ns l (ax_mm 70) 1 ty_R (1) (6) [.ref 0, .int y1, .int y2, .int y3, .int y4, .int y5] h (hq_70 h) := by
  refine AM.of (ax_mfacts (by decide +kernel : ax_has 70 = true)).2.2.2.2.2.2 hlst (by rw [hn_70]; exact Nat.le_of_ble_eq_true rfl) ?_
  show AR ax_ns l (ax_mm 70) 1 ty_R _ _ 0 [(0, .ref 0), (1, .int y1), (2, .int y2), (3, .int y3), (4, .int y4), (5, .int y5)] [] h (1) (6)
  refine AR.s (pc' := 1) (lv' := [(0, .ref 0), (1, .int y1), (2, .int y2), (3, .int y3), (4, .int y4), (5, .int y5)]) (st' := [.ref 0]) (h' := h) _ hn_70 hk_70_0 rfl ?_
  refine AR.gR hk_70_1 (by decide) hH (q := 0) (n := 18) (by decide) (by decide +kernel) (by decide +kernel) (by decide) hy_t0_0 ?_
  show AR _ _ _ _ _ _ _ 4 [(0, .ref 0), (1, .int y1), (2, .int y2), (3, .int y3), (4, .int y4), (5, .int y5)] [.ref 1] h _ _
  refine AR.gI hk_70_4 (by decide) hH (q := 1) (n := 2) (by decide) (by decide +kernel) (by decide +kernel) (by decide) hy_t1_1 (fun x188 dx188 lx188 ux188 => ?_)
  show AR _ _ _ _ _ _ _ 7 [(0, .ref 0), (1, .int y1), (2, .int y2), (3, .int y3), (4, .int y4), (5, .int y5)] [.int x188] h _ _
  have sx188 := hy_zi dx188
  refine AR.bipushT hk_70_7 (by decide) (fun z189 ez189 => ?_)
  show AR _ _ _ _ _ _ _ 9 [(0, .ref 0), (1, .int y1), (2, .int y2), (3, .int y3), (4, .int y4), (5, .int y5)] [.int z189, .int x188] h _ _
  refine AR.addT hk_70_9 (by omega) (by omega) (fun z190 ez190 => ?_)
  show AR _ _ _ _ _ _ _ 10 [(0, .ref 0), (1, .int y1), (2, .int y2), (3, .int y3), (4, .int y4), (5, .int y5)] [.int z190] h _ _
  refine AR.sipushT hk_70_10 (by decide) (fun z191 ez191 => ?_)
  show AR _ _ _ _ _ _ _ 13 [(0, .ref 0), (1, .int y1), (2, .int y2), (3, .int y3), (4, .int y4), (5, .int y5)] [.int z191, .int z190] h _ _
  refine AR.jle hk_70_13 (tgt := 26) (by decide) (fun p1 => ?_) (fun p2 => ?_)
  · have F : ty_F 1572864 h h := ty_F_refl _ _
    refine AR.s (pc' := 27) (lv' := [(0, .ref 0), (1, .int y1), (2, .int y2), (3, .int y3), (4, .int y4), (5, .int y5)]) (st' := [.ref 0]) (h' := h) _ hn_70 hk_70_26 rfl ?_
    refine AR.gR hk_70_27 (by decide) hH (q := 0) (n := 18) (by decide) (by decide +kernel) (by decide +kernel) (by decide) hy_t0_0 ?_
    show AR _ _ _ _ _ _ _ 30 [(0, .ref 0), (1, .int y1), (2, .int y2), (3, .int y3), (4, .int y4), (5, .int y5)] [.ref 1] h _ _
    refine AR.s (pc' := 31) (lv' := [(0, .ref 0), (1, .int y1), (2, .int y2), (3, .int y3), (4, .int y4), (5, .int y5)]) (st' := [.int y1, .ref 1]) (h' := h) _ hn_70 hk_70_30 rfl ?_
    obtain ⟨v0, c0⟩ := lp_c1 hH
    refine AR.jr (r := 1) (as := [.int y1]) (rest := []) hk_70_31 (by decide) (by decide +kernel) (by decide) c0 rfl rfl (Nat.le_of_ble_eq_true rfl) (lp_67 hlst hH hi (by omega)) (by decide) (Nat.zero_le _) (Nat.zero_le _) ?_ (fun E h' q => by cases q.2.2.2.1)
    rintro w0 g70 ⟨Hg70, Tg70, ig70, e0, ng70⟩
    cases e0
    have Fg70 : ty_F 1572864 h g70 := ty_F.trans F Tg70
    show AR _ _ _ _ _ _ _ 34 [(0, .ref 0), (1, .int y1), (2, .int y2), (3, .int y3), (4, .int y4), (5, .int y5)] [] g70 _ _
    refine AR.s (pc' := 35) (lv' := [(0, .ref 0), (1, .int y1), (2, .int y2), (3, .int y3), (4, .int y4), (5, .int y5)]) (st' := [.ref 0]) (h' := g70) _ hn_70 hk_70_34 rfl ?_
    refine AR.gR hk_70_35 (by decide) Hg70 (q := 0) (n := 18) (by decide) (by decide +kernel) (by decide +kernel) (by decide) hy_t0_0 ?_
    show AR _ _ _ _ _ _ _ 38 [(0, .ref 0), (1, .int y1), (2, .int y2), (3, .int y3), (4, .int y4), (5, .int y5)] [.ref 1] g70 _ _
    refine AR.s (pc' := 39) (lv' := [(0, .ref 0), (1, .int y1), (2, .int y2), (3, .int y3), (4, .int y4), (5, .int y5)]) (st' := [.int y2, .ref 1]) (h' := g70) _ hn_70 hk_70_38 rfl ?_
    obtain ⟨v1, c1⟩ := lp_c1 Hg70
    refine AR.jr (r := 1) (as := [.int y2]) (rest := []) hk_70_39 (by decide) (by decide +kernel) (by decide) c1 rfl rfl (Nat.le_of_ble_eq_true rfl) (lp_67 hlst Hg70 ig70 (by omega)) (by decide) (Nat.zero_le _) (Nat.zero_le _) ?_ (fun E h' q => by cases q.2.2.2.1)
    rintro w1 g71 ⟨Hg71, Tg71, ig71, e1, ng71⟩
    cases e1
    have Fg71 : ty_F 1572864 h g71 := ty_F.trans Fg70 Tg71
    show AR _ _ _ _ _ _ _ 42 [(0, .ref 0), (1, .int y1), (2, .int y2), (3, .int y3), (4, .int y4), (5, .int y5)] [] g71 _ _
    refine AR.s (pc' := 43) (lv' := [(0, .ref 0), (1, .int y1), (2, .int y2), (3, .int y3), (4, .int y4), (5, .int y5)]) (st' := [.ref 0]) (h' := g71) _ hn_70 hk_70_42 rfl ?_
    refine AR.gR hk_70_43 (by decide) Hg71 (q := 0) (n := 18) (by decide) (by decide +kernel) (by decide +kernel) (by decide) hy_t0_0 ?_
    show AR _ _ _ _ _ _ _ 46 [(0, .ref 0), (1, .int y1), (2, .int y2), (3, .int y3), (4, .int y4), (5, .int y5)] [.ref 1] g71 _ _
    refine AR.s (pc' := 47) (lv' := [(0, .ref 0), (1, .int y1), (2, .int y2), (3, .int y3), (4, .int y4), (5, .int y5)]) (st' := [.int y3, .ref 1]) (h' := g71) _ hn_70 hk_70_46 rfl ?_
    obtain ⟨v2, c2⟩ := lp_c1 Hg71
    refine AR.jr (r := 1) (as := [.int y3]) (rest := []) hk_70_47 (by decide) (by decide +kernel) (by decide) c2 rfl rfl (Nat.le_of_ble_eq_true rfl) (lp_67 hlst Hg71 ig71 (by omega)) (by decide) (Nat.zero_le _) (Nat.zero_le _) ?_ (fun E h' q => by cases q.2.2.2.1)
    rintro w2 g72 ⟨Hg72, Tg72, ig72, e2, ng72⟩
    cases e2
    have Fg72 : ty_F 1572864 h g72 := ty_F.trans Fg71 Tg72
    show AR _ _ _ _ _ _ _ 50 [(0, .ref 0), (1, .int y1), (2, .int y2), (3, .int y3), (4, .int y4), (5, .int y5)] [] g72 _ _
    refine AR.s (pc' := 51) (lv' := [(0, .ref 0), (1, .int y1), (2, .int y2), (3, .int y3), (4, .int y4), (5, .int y5)]) (st' := [.ref 0]) (h' := g72) _ hn_70 hk_70_50 rfl ?_
    refine AR.gR hk_70_51 (by decide) Hg72 (q := 0) (n := 18) (by decide) (by decide +kernel) (by decide +kernel) (by decide) hy_t0_0 ?_
    show AR _ _ _ _ _ _ _ 54 [(0, .ref 0), (1, .int y1), (2, .int y2), (3, .int y3), (4, .int y4), (5, .int y5)] [.ref 1] g72 _ _
    refine AR.s (pc' := 56) (lv' := [(0, .ref 0), (1, .int y1), (2, .int y2), (3, .int y3), (4, .int y4), (5, .int y5)]) (st' := [.int y4, .ref 1]) (h' := g72) _ hn_70 hk_70_54 rfl ?_
    obtain ⟨v3, c3⟩ := lp_c1 Hg72
    refine AR.jr (r := 1) (as := [.int y4]) (rest := []) hk_70_56 (by decide) (by decide +kernel) (by decide) c3 rfl rfl (Nat.le_of_ble_eq_true rfl) (lp_67 hlst Hg72 ig72 (by omega)) (by decide) (Nat.zero_le _) (Nat.zero_le _) ?_ (fun E h' q => by cases q.2.2.2.1)
    rintro w3 g73 ⟨Hg73, Tg73, ig73, e3, ng73⟩
    cases e3
    have Fg73 : ty_F 1572864 h g73 := ty_F.trans Fg72 Tg73
    show AR _ _ _ _ _ _ _ 59 [(0, .ref 0), (1, .int y1), (2, .int y2), (3, .int y3), (4, .int y4), (5, .int y5)] [] g73 _ _
    refine AR.s (pc' := 60) (lv' := [(0, .ref 0), (1, .int y1), (2, .int y2), (3, .int y3), (4, .int y4), (5, .int y5)]) (st' := [.ref 0]) (h' := g73) _ hn_70 hk_70_59 rfl ?_
    refine AR.gR hk_70_60 (by decide) Hg73 (q := 0) (n := 18) (by decide) (by decide +kernel) (by decide +kernel) (by decide) hy_t0_0 ?_
    show AR _ _ _ _ _ _ _ 63 [(0, .ref 0), (1, .int y1), (2, .int y2), (3, .int y3), (4, .int y4), (5, .int y5)] [.ref 1] g73 _ _
    refine AR.s (pc' := 65) (lv' := [(0, .ref 0), (1, .int y1), (2, .int y2), (3, .int y3), (4, .int y4), (5, .int y5)]) (st' := [.int y5, .ref 1]) (h' := g73) _ hn_70 hk_70_63 rfl ?_
    obtain ⟨v4, c4⟩ := lp_c1 Hg73
    refine AR.jr (r := 1) (as := [.int y5]) (rest := []) hk_70_65 (by decide) (by decide +kernel) (by decide) c4 rfl rfl (Nat.le_of_ble_eq_true rfl) (lp_67 hlst Hg73 ig73 (by omega)) (by decide) (Nat.zero_le _) (Nat.zero_le _) ?_ (fun E h' q => by cases q.2.2.2.1)
    rintro w4 g74 ⟨Hg74, Tg74, ig74, e4, ng74⟩
    cases e4
    have Fg74 : ty_F 1572864 h g74 := ty_F.trans Fg73 Tg74
    show AR _ _ _ _ _ _ _ 68 [(0, .ref 0), (1, .int y1), (2, .int y2), (3, .int y3), (4, .int y4), (5, .int y5)] [] g74 _ _
    refine AR.s (pc' := 69) (lv' := [(0, .ref 0), (1, .int y1), (2, .int y2), (3, .int y3), (4, .int y4), (5, .int y5)]) (st' := [.ref 0]) (h' := g74) _ hn_70 hk_70_68 rfl ?_
    refine AR.gR hk_70_69 (by decide) Hg74 (q := 0) (n := 18) (by decide) (by decide +kernel) (by decide +kernel) (by decide) hy_t0_0 ?_
    show AR _ _ _ _ _ _ _ 72 [(0, .ref 0), (1, .int y1), (2, .int y2), (3, .int y3), (4, .int y4), (5, .int y5)] [.ref 1] g74 _ _
    refine AR.gI hk_70_72 (by decide) Hg74 (q := 1) (n := 2) (by decide) (by decide +kernel) (by decide +kernel) (by decide) hy_t1_1 (fun x192 dx192 lx192 ux192 => ?_)
    show AR _ _ _ _ _ _ _ 75 [(0, .ref 0), (1, .int y1), (2, .int y2), (3, .int y3), (4, .int y4), (5, .int y5)] [.int x192] g74 _ _
    have sx192 := hy_zi dx192
    exact AR.iret hk_70_75 hr_70 ⟨Hg74, Fg74, ig74, Or.inr ⟨by omega, by omega, _, rfl, by omega⟩⟩
  · exact AR.at (Or.inr (Or.inr (Or.inr (Or.inr (Or.inr ⟨_, ax_thr_ok (70, 16, 0) (by decide), by decide +kernel, by decide, by decide, by decide, ⟨hy_app hH _, ty_F.push hH.1, hi.push hH _, Or.inl ⟨rfl, by omega, hy_zapp hH _ (by decide) 1⟩⟩⟩)))))
def hq_71 (h : ax_H) (x : Int32) : ax_Q := fun res g => hy_H 0 g ∧ ty_F 524288 h g ∧ hy_I g ∧ ((res = .inr "java/lang/IllegalArgumentException" ∧ ¬ (0 ≤ x.toInt ∧ x.toInt ≤ hy_z h 1 1) ∧ hy_z g 1 1 = hy_z h 1 1) ∨ ((0 ≤ x.toInt ∧ x.toInt ≤ hy_z h 1 1) ∧ hy_z g 1 1 = x.toInt ∧ res = .inl (some (.int x))))
theorem lp_71 (hlst : l.stackTraces = false) (hH : hy_H 0 h) (hi : hy_I h) : AM ax_ns l (ax_mm 71) 0 ty_R (1) (6) [.ref 0, .int x] h (hq_71 h x) := by
  refine AM.of (ax_mfacts (by decide +kernel : ax_has 71 = true)).2.2.2.2.2.2 hlst (by rw [hn_71]; exact Nat.le_of_ble_eq_true rfl) ?_
  show AR ax_ns l (ax_mm 71) 0 ty_R _ _ 0 [(0, .ref 0), (1, .int x)] [] h (1) (6)
  have F : ty_F 524288 h h := ty_F_refl _ _
  refine AR.s (pc' := 1) (lv' := [(0, .ref 0), (1, .int x)]) (st' := [.int x]) (h' := h) _ hn_71 hk_71_0 rfl ?_
  refine AR.zlt hk_71_1 (tgt := 15) (by decide) (fun p1 => ?_) (fun p2 => ?_)
  · exact AR.at (Or.inr (Or.inr (Or.inr (Or.inr (Or.inr ⟨_, ax_thr_ok (71, 15, 1) (by decide), by decide +kernel, by decide, by decide, by decide, ⟨hy_app hH _, ty_F.push hH.1, hi.push hH _, Or.inl ⟨rfl, fun c => absurd c.1 (by omega), hy_zapp hH _ (by decide) 1⟩⟩⟩)))))
  · refine AR.s (pc' := 5) (lv' := [(0, .ref 0), (1, .int x)]) (st' := [.int x]) (h' := h) _ hn_71 hk_71_4 rfl ?_
    refine AR.s (pc' := 6) (lv' := [(0, .ref 0), (1, .int x)]) (st' := [.ref 0, .int x]) (h' := h) _ hn_71 hk_71_5 rfl ?_
    refine AR.gR hk_71_6 (by decide) hH (q := 0) (n := 18) (by decide) (by decide +kernel) (by decide +kernel) (by decide) hy_t0_0 ?_
    show AR _ _ _ _ _ _ _ 9 [(0, .ref 0), (1, .int x)] [.ref 1, .int x] h _ _
    refine AR.gI hk_71_9 (by decide) hH (q := 1) (n := 2) (by decide) (by decide +kernel) (by decide +kernel) (by decide) hy_t1_1 (fun x193 dx193 lx193 ux193 => ?_)
    show AR _ _ _ _ _ _ _ 12 [(0, .ref 0), (1, .int x)] [.int x193, .int x] h _ _
    have sx193 := hy_zi dx193
    refine AR.jle hk_71_12 (tgt := 25) (by decide) (fun p3 => ?_) (fun p4 => ?_)
    · refine AR.s (pc' := 26) (lv' := [(0, .ref 0), (1, .int x)]) (st' := [.ref 0]) (h' := h) _ hn_71 hk_71_25 rfl ?_
      refine AR.gR hk_71_26 (by decide) hH (q := 0) (n := 18) (by decide) (by decide +kernel) (by decide +kernel) (by decide) hy_t0_0 ?_
      show AR _ _ _ _ _ _ _ 29 [(0, .ref 0), (1, .int x)] [.ref 1] h _ _
      refine AR.s (pc' := 30) (lv' := [(0, .ref 0), (1, .int x)]) (st' := [.int x, .ref 1]) (h' := h) _ hn_71 hk_71_29 rfl ?_
      refine AR.pT hk_71_30 (by decide) hH F (q := 1) (by decide) (by decide +kernel) (show ax_cls[7]? = some hy_c7 from rfl) (by decide +kernel) (by decide) rfl (by rw [hy_t1_1]; exact ⟨_, rfl, by omega, by omega, Or.inl rfl⟩) (by decide +kernel) (by decide +kernel) ?_
      rintro g194 ⟨Hg194, Fg194, Gg194, Eg194⟩
      show AR _ _ _ _ _ _ _ 33 [(0, .ref 0), (1, .int x)] [] g194 _ _
      have ig194 : hy_I g194 := hi.st Gg194 (by decide) Eg194 (by decide +kernel)
      have ug194_1_1 : hy_z g194 1 1 = x.toInt := hy_zi (i := x) (by rw [Eg194, if_pos ⟨rfl, rfl⟩])
      refine AR.s (pc' := 34) (lv' := [(0, .ref 0), (1, .int x)]) (st' := [.int x]) (h' := g194) _ hn_71 hk_71_33 rfl ?_
      exact AR.iret hk_71_34 hr_71 ⟨Hg194, Fg194, ig194, Or.inr ⟨⟨by omega, by omega⟩, by omega, rfl⟩⟩
    · exact AR.at (Or.inr (Or.inr (Or.inr (Or.inr (Or.inr ⟨_, ax_thr_ok (71, 15, 1) (by decide), by decide +kernel, by decide, by decide, by decide, ⟨hy_app hH _, ty_F.push hH.1, hi.push hH _, Or.inl ⟨rfl, fun c => absurd c.2 (by omega), hy_zapp hH _ (by decide) 1⟩⟩⟩)))))
theorem lp_cell (hH : hy_H 0 h) : ∃ vs, h[0]? = some (8, vs) := by
  obtain ⟨vs, e1, -⟩ := hy_cell hH (q := 0) (by decide)
  rw [show (ty_tab 0).1 = 8 from by decide +kernel] at e1
  exact ⟨vs, e1⟩
def hq_w2 (h : ax_H) : ax_Q := fun res g => hy_H 0 g ∧ ty_F 1298074214633706907132624083877888 h g ∧ hy_I g ∧ ∃ z : Int32, res = .inl (some (.int z)) ∧ ((180 < hy_z h 1 1 ∧ z.toInt = 1 ∧ hy_z g 1 1 = hy_z h 1 1) ∨ (hy_z h 1 1 ≤ 180 ∧ z.toInt = 0 ∧ hy_z g 1 1 = hy_z h 1 1 + 20 ∧ hy_z g 197 0 = hy_z g 1 1))
def hq_w3 (h : ax_H) (x : Int32) : ax_Q := fun res g => hy_H 0 g ∧ ty_F 1298074214633706907132624082829312 h g ∧ hy_I g ∧ ∃ z : Int32, res = .inl (some (.int z)) ∧ ((¬ (0 ≤ x.toInt ∧ x.toInt ≤ hy_z h 1 1) ∧ z.toInt = 1 ∧ hy_z g 1 1 = hy_z h 1 1) ∨ ((0 ≤ x.toInt ∧ x.toInt ≤ hy_z h 1 1) ∧ z.toInt = 0 ∧ hy_z g 1 1 = x.toInt ∧ hy_z g 197 0 = hy_z g 1 1))
theorem lp_219 (hlst : l.stackTraces = false) (hH : hy_H 0 h) (hi : hy_I h) : AM ax_ns l (ax_mm 219) 2 ty_R (1) (6) [.ref 0, .int y1, .int y2, .int y3, .int y4, .int y5, .ref 197] h (hq_w2 h) := by
  refine AM.of (ax_mfacts (by decide +kernel : ax_has 219 = true)).2.2.2.2.2.2 hlst (by rw [hn_219]; exact Nat.le_of_ble_eq_true rfl) ?_
  show AR ax_ns l (ax_mm 219) 2 ty_R _ _ 0 [(0, .ref 0), (1, .int y1), (2, .int y2), (3, .int y3), (4, .int y4), (5, .int y5), (6, .ref 197)] [] h (1) (6)
  obtain ⟨v0, e0⟩ := lp_cell hH
  refine AR.s (pc' := 2) (lv' := [(0, .ref 0), (1, .int y1), (2, .int y2), (3, .int y3), (4, .int y4), (5, .int y5), (6, .ref 197)]) (st' := [.ref 197]) (h' := h) _ hn_219 hk_219_0 rfl ?_
  refine AR.iconstT hk_219_2 (by decide) (fun z195 ez195 => ?_)
  show AR _ _ _ _ _ _ _ 3 [(0, .ref 0), (1, .int y1), (2, .int y2), (3, .int y3), (4, .int y4), (5, .int y5), (6, .ref 197)] [.int z195, .ref 197] h _ _
  refine AR.s (pc' := 4) (lv' := [(0, .ref 0), (1, .int y1), (2, .int y2), (3, .int y3), (4, .int y4), (5, .int y5), (6, .ref 197)]) (st' := [.ref 0, .int z195, .ref 197]) (h' := h) _ hn_219 hk_219_3 rfl ?_
  refine AR.s (pc' := 5) (lv' := [(0, .ref 0), (1, .int y1), (2, .int y2), (3, .int y3), (4, .int y4), (5, .int y5), (6, .ref 197)]) (st' := [.int y1, .ref 0, .int z195, .ref 197]) (h' := h) _ hn_219 hk_219_4 rfl ?_
  refine AR.s (pc' := 6) (lv' := [(0, .ref 0), (1, .int y1), (2, .int y2), (3, .int y3), (4, .int y4), (5, .int y5), (6, .ref 197)]) (st' := [.int y2, .int y1, .ref 0, .int z195, .ref 197]) (h' := h) _ hn_219 hk_219_5 rfl ?_
  refine AR.s (pc' := 7) (lv' := [(0, .ref 0), (1, .int y1), (2, .int y2), (3, .int y3), (4, .int y4), (5, .int y5), (6, .ref 197)]) (st' := [.int y3, .int y2, .int y1, .ref 0, .int z195, .ref 197]) (h' := h) _ hn_219 hk_219_6 rfl ?_
  refine AR.s (pc' := 9) (lv' := [(0, .ref 0), (1, .int y1), (2, .int y2), (3, .int y3), (4, .int y4), (5, .int y5), (6, .ref 197)]) (st' := [.int y4, .int y3, .int y2, .int y1, .ref 0, .int z195, .ref 197]) (h' := h) _ hn_219 hk_219_7 rfl ?_
  refine AR.s (pc' := 11) (lv' := [(0, .ref 0), (1, .int y1), (2, .int y2), (3, .int y3), (4, .int y4), (5, .int y5), (6, .ref 197)]) (st' := [.int y5, .int y4, .int y3, .int y2, .int y1, .ref 0, .int z195, .ref 197]) (h' := h) _ hn_219 hk_219_9 rfl ?_
  refine AR.jr (r := 0) (as := [.int y1, .int y2, .int y3, .int y4, .int y5]) (rest := [.int z195, .ref 197]) hk_219_11 (by decide) (by decide +kernel) (by decide) e0 rfl rfl (Nat.le_of_ble_eq_true rfl) (lp_70 hlst hH hi) (by decide) (by decide) (by decide) ?_ ?_
  · rintro w h1 ⟨H1, F1, i1, (⟨e, -, -⟩ | ⟨pn, eg, z7, ex, ez⟩)⟩
    · cases e
    · cases ex
      show AR _ _ _ _ _ _ _ 14 [(0, .ref 0), (1, .int y1), (2, .int y2), (3, .int y3), (4, .int y4), (5, .int y5), (6, .ref 197)] [.int z7, .int z195, .ref 197] h1 _ _
      refine AR.i2l (z := .long z7.toInt64) (ax_look_ok hk_219_14).1 rfl ?_
      show AR _ _ _ _ _ _ _ 15 [(0, .ref 0), (1, .int y1), (2, .int y2), (3, .int y3), (4, .int y4), (5, .int y5), (6, .ref 197)] [.long z7.toInt64, .int z195, .ref 197] h1 _ _
      refine AR.lsT hk_219_15 H1 (ty_F.sub (W := 1298074214633706907132624083877888) (by decide +kernel) F1) (q := 197) (n := 1) (by decide) (by decide +kernel) (by decide +kernel) (by decide +kernel) hy_t197_0 (by omega) (by omega) (Int64.le_toInt _) (by have := Int64.toInt_lt z7.toInt64; omega) (by decide +kernel) ?_
      rintro g ⟨Hg, Fg, Gg, Eg⟩
      show AR _ _ _ _ _ _ _ 16 [(0, .ref 0), (1, .int y1), (2, .int y2), (3, .int y3), (4, .int y4), (5, .int y5), (6, .ref 197)] [] g _ _
      refine AR.gotoT hk_219_16 (tgt := 23) (by decide) ?_
      refine AR.iconstT hk_219_23 (by decide) (fun z196 ez196 => ?_)
      show AR _ _ _ _ _ _ _ 24 [(0, .ref 0), (1, .int y1), (2, .int y2), (3, .int y3), (4, .int y4), (5, .int y5), (6, .ref 197)] [.int z196] g _ _
      have k0 : z195.toNatClampNeg = 0 := by show z195.toInt.toNat = 0; omega
      rw [k0] at Eg
      have a1 : hy_z g 197 0 = z7.toInt := by rw [hy_zl (i := z7.toInt64) (by rw [Eg, if_pos ⟨rfl, rfl⟩]), Int32.toInt_toInt64]
      have a2 : hy_z g 1 1 = hy_z h1 1 1 := hy_ze (by rw [Eg, if_neg (fun c => absurd c.1 (by decide))])
      exact AR.iret hk_219_24 hr_219 ⟨Hg, Fg, i1.st Gg (by decide +kernel) Eg (by decide +kernel), _, rfl, Or.inr ⟨pn, by omega, by omega, by omega⟩⟩
  · rintro E h1 ⟨H1, F1, i1, (⟨e, pn, eg⟩ | ⟨-, -, _, e, -⟩)⟩
    · cases e
      refine AX.caught (pre := []) (suf := []) (s0 := 0) (e0 := 16) (hpc := 19) (ct := 13) (by decide +kernel) (by decide) (by decide) (by decide) (ax_wk_mem (ix := 2120) (by decide +kernel)) (by decide +kernel) (fun z hz => absurd hz List.not_mem_nil) ?_
      show AR _ _ _ _ _ _ _ 19 [(0, .ref 0), (1, .int y1), (2, .int y2), (3, .int y3), (4, .int y4), (5, .int y5), (6, .ref 197)] [.retAddr 0] h1 _ _
      refine AR.s (pc' := 21) (lv' := [(7, .retAddr 0), (0, .ref 0), (1, .int y1), (2, .int y2), (3, .int y3), (4, .int y4), (5, .int y5), (6, .ref 197)]) (st' := []) (h' := h1) _ hn_219 hk_219_19 rfl ?_
      refine AR.iconstT hk_219_21 (by decide) (fun z197 ez197 => ?_)
      show AR _ _ _ _ _ _ _ 22 [(7, .retAddr 0), (0, .ref 0), (1, .int y1), (2, .int y2), (3, .int y3), (4, .int y4), (5, .int y5), (6, .ref 197)] [.int z197] h1 _ _
      exact AR.iret hk_219_22 hr_219 ⟨H1, ty_F.sub (by decide +kernel) F1, i1, _, rfl, Or.inl ⟨pn, by omega, eg⟩⟩
    · cases e
theorem lp_220 (hlst : l.stackTraces = false) (hH : hy_H 0 h) (hi : hy_I h) : AM ax_ns l (ax_mm 220) 1 ty_R (1) (6) [.ref 0, .int x, .ref 197] h (hq_w3 h x) := by
  refine AM.of (ax_mfacts (by decide +kernel : ax_has 220 = true)).2.2.2.2.2.2 hlst (by rw [hn_220]; exact Nat.le_of_ble_eq_true rfl) ?_
  show AR ax_ns l (ax_mm 220) 1 ty_R _ _ 0 [(0, .ref 0), (1, .int x), (2, .ref 197)] [] h (1) (6)
  obtain ⟨v0, e0⟩ := lp_cell hH
  refine AR.s (pc' := 1) (lv' := [(0, .ref 0), (1, .int x), (2, .ref 197)]) (st' := [.ref 197]) (h' := h) _ hn_220 hk_220_0 rfl ?_
  refine AR.iconstT hk_220_1 (by decide) (fun z198 ez198 => ?_)
  show AR _ _ _ _ _ _ _ 2 [(0, .ref 0), (1, .int x), (2, .ref 197)] [.int z198, .ref 197] h _ _
  refine AR.s (pc' := 3) (lv' := [(0, .ref 0), (1, .int x), (2, .ref 197)]) (st' := [.ref 0, .int z198, .ref 197]) (h' := h) _ hn_220 hk_220_2 rfl ?_
  refine AR.s (pc' := 4) (lv' := [(0, .ref 0), (1, .int x), (2, .ref 197)]) (st' := [.int x, .ref 0, .int z198, .ref 197]) (h' := h) _ hn_220 hk_220_3 rfl ?_
  refine AR.jr (r := 0) (as := [.int x]) (rest := [.int z198, .ref 197]) hk_220_4 (by decide) (by decide +kernel) (by decide) e0 rfl rfl (Nat.le_of_ble_eq_true rfl) (lp_71 hlst hH hi) (by decide) (by decide) (by decide) ?_ ?_
  · rintro w h1 ⟨H1, F1, i1, (⟨e, -, -⟩ | ⟨pn, eg, ex⟩)⟩
    · cases e
    · cases ex
      show AR _ _ _ _ _ _ _ 7 [(0, .ref 0), (1, .int x), (2, .ref 197)] [.int x, .int z198, .ref 197] h1 _ _
      refine AR.i2l (z := .long x.toInt64) (ax_look_ok hk_220_7).1 rfl ?_
      show AR _ _ _ _ _ _ _ 8 [(0, .ref 0), (1, .int x), (2, .ref 197)] [.long x.toInt64, .int z198, .ref 197] h1 _ _
      refine AR.lsT hk_220_8 H1 (ty_F.sub (W := 1298074214633706907132624082829312) (by decide +kernel) F1) (q := 197) (n := 1) (by decide) (by decide +kernel) (by decide +kernel) (by decide +kernel) hy_t197_0 (by omega) (by omega) (Int64.le_toInt _) (by have := Int64.toInt_lt x.toInt64; omega) (by decide +kernel) ?_
      rintro g ⟨Hg, Fg, Gg, Eg⟩
      show AR _ _ _ _ _ _ _ 9 [(0, .ref 0), (1, .int x), (2, .ref 197)] [] g _ _
      refine AR.gotoT hk_220_9 (tgt := 15) (by decide) ?_
      refine AR.iconstT hk_220_15 (by decide) (fun z199 ez199 => ?_)
      show AR _ _ _ _ _ _ _ 16 [(0, .ref 0), (1, .int x), (2, .ref 197)] [.int z199] g _ _
      have k0 : z198.toNatClampNeg = 0 := by show z198.toInt.toNat = 0; omega
      rw [k0] at Eg
      have a1 : hy_z g 197 0 = x.toInt := by rw [hy_zl (i := x.toInt64) (by rw [Eg, if_pos ⟨rfl, rfl⟩]), Int32.toInt_toInt64]
      have a2 : hy_z g 1 1 = hy_z h1 1 1 := hy_ze (by rw [Eg, if_neg (fun c => absurd c.1 (by decide))])
      exact AR.iret hk_220_16 hr_220 ⟨Hg, Fg, i1.st Gg (by decide +kernel) Eg (by decide +kernel), _, rfl, Or.inr ⟨pn, by omega, by omega, by omega⟩⟩
  · rintro E h1 ⟨H1, F1, i1, (⟨e, pn, eg⟩ | ⟨-, -, e⟩)⟩
    · cases e
      refine AX.caught (pre := []) (suf := []) (s0 := 0) (e0 := 9) (hpc := 12) (ct := 19) (by decide +kernel) (by decide) (by decide) (by decide) (ax_wk_mem (ix := 2203) (by decide +kernel)) (by decide +kernel) (fun z hz => absurd hz List.not_mem_nil) ?_
      show AR _ _ _ _ _ _ _ 12 [(0, .ref 0), (1, .int x), (2, .ref 197)] [.retAddr 0] h1 _ _
      refine AR.s (pc' := 13) (lv' := [(3, .retAddr 0), (0, .ref 0), (1, .int x), (2, .ref 197)]) (st' := []) (h' := h1) _ hn_220 hk_220_12 rfl ?_
      refine AR.iconstT hk_220_13 (by decide) (fun z200 ez200 => ?_)
      show AR _ _ _ _ _ _ _ 14 [(3, .retAddr 0), (0, .ref 0), (1, .int x), (2, .ref 197)] [.int z200] h1 _ _
      exact AR.iret hk_220_14 hr_220 ⟨H1, ty_F.sub (by decide +kernel) F1, i1, _, rfl, Or.inl ⟨pn, by omega, eg⟩⟩
    · cases e
def lp_A (g : ax_H) (K : Nat) : Prop := ∃ c, g[K]? = some c ∧ ty_lc 0 c
theorem lp_A.go {a g : ax_H} {W K : Nat} (A : lp_A a K) (G : ty_F W a g) (hK : 198 ≤ K) : lp_A g K := by
  obtain ⟨c, e1, e2⟩ := A
  exact G.2.2.1 K c 0 hK e1 e2
section LPR
variable {d i pc ix K : Nat} {P : ax_P} {X : ax_PX} {lv : List (Nat × Value)} {st : List Value} {g : ax_H} {bc bs' : Nat} {v : Value} {ws : List Nat} {w : Nat × Nat × Nat}
theorem AR.ld5 {j : Int32} (hl : ax_look i pc = some (.iaload, w, v, ws)) (hK : K < 1000000000) (A : lp_A g K) (j0 : 0 ≤ j.toInt) (j5 : j.toInt < 5) (k : ∀ z : Int32, AR ax_ns l (ax_mm i) d ty_R P X (pc + 1) lv (.int z :: st) g bc bs') : AR ax_ns l (ax_mm i) d ty_R P X pc lv (.int j :: .ref K :: st) g bc bs' := by
  obtain ⟨⟨t, vs⟩, e1, e2, e3, e4⟩ := A
  have hq := hj_nn j0
  have hlt : j.toNatClampNeg < vs.length := by
    have : vs.length = 5 := e3
    omega
  obtain ⟨z, hz, -⟩ := e4 _ (List.getElem_mem hlt)
  have et : t = 100 := e2
  subst et
  exact AR.iax (x := .int z) hl hK e1 hq.1 (by rw [List.getElem?_eq_getElem hlt, hz]) (k z)
theorem AR.al5 (hl : ax_look i pc = some (.arraylength, w, v, ws)) (hK : K < 1000000000) (A : lp_A g K) (k : ∀ z : Int32, z.toInt = 5 → AR ax_ns l (ax_mm i) d ty_R P X (pc + 1) lv (.int z :: st) g bc bs') : AR ax_ns l (ax_mm i) d ty_R P X pc lv (.ref K :: st) g bc bs' := by
  obtain ⟨⟨t, vs⟩, e1, e2, e3, e4⟩ := A
  have et : t = 100 := e2
  subst et
  have e3 : vs.length = 5 := e3
  refine AR.s (pc' := pc + 1) (lv' := lv) (st' := .int vs.length.toInt32 :: st) (h' := g) _ rfl hl ?_ (k _ ?_)
  · simp only [ax_one, ax_get_lt hK, e1]
    rfl
  · rw [e3]
    rfl
theorem AR.n5 {b cc : Nat} {t : ArrayType} (hl : ax_look i pc = some (.newarray t, (0, b, cc), v, ws)) (hx : x.toInt = 5) (k : AR ax_ns l (ax_mm i) d ty_R P X (pc + 2) lv (.ref g.length :: st) (g ++ [(100, List.replicate 5 (.int 0))]) bc bs') : AR ax_ns l (ax_mm i) d ty_R P X pc lv (.int x :: st) g (bc + 1) (bs' + 5) := by
  obtain ⟨hd, hok⟩ := ax_look_ok hl
  refine ax_one_ok (pc' := pc + 2) (lv' := lv) (st' := .ref g.length :: st) (h' := g ++ [(100, List.replicate 5 (.int 0))]) (dc := 1) (ds := 5) hd hok ?_ k
  have e : x.toNatClampNeg = 5 := by show x.toInt.toNat = 5; omega
  have hn : ¬ (x < 0 ∨ 60000000 < 5 ∨ 0 = 900) := by
    rintro (z | z | z)
    · exact (hj_nn (by omega)).1 z
    · omega
    · cases z
  have ht : ax_tys[0]? = some .int := rfl
  simp only [ax_one, ht, e]
  rw [if_neg hn, ax_ha_eq]
  rfl
theorem AR.st5 {us : List Value} {j z : Int32} (hl : ax_look i pc = some (.iastore, w, v, ws)) (hK : g.length < 1000000000) (hu : us.length = 5 ∧ ∀ x ∈ us, ∃ i : Int32, x = .int i) (j0 : 0 ≤ j.toInt) (j5 : j.toInt < 5) (k : ∀ us', us'.length = 5 ∧ (∀ x ∈ us', ∃ i : Int32, x = .int i) → AR ax_ns l (ax_mm i) d ty_R P X (pc + 1) lv st (g ++ [(100, us')]) bc bs') : AR ax_ns l (ax_mm i) d ty_R P X pc lv (.int z :: .int j :: .ref g.length :: st) (g ++ [(100, us)]) bc bs' := by
  have hq := hj_nn j0
  refine AR.isx hl hK (hy_getl g _) hq.1 (by omega) rfl ?_
  rw [hy_setl]
  refine k _ ⟨by rw [List.length_set]; exact hu.1, fun x hx => ?_⟩
  rcases List.mem_or_eq_of_mem_set hx with e | e
  · exact hu.2 x e
  · exact ⟨z, e⟩
end LPR
def hq_r2 (h : ax_H) : ax_Q := fun res g => hy_H 0 g ∧ ty_F 2596465341918660686608376606490624 h g ∧ hy_I g ∧ ∃ z : Int32, res = .inl (some (.int z)) ∧ ((180 < hy_z h 181 7 ∧ hy_z g 181 0 = 1 ∧ hy_z g 181 7 = hy_z h 181 7) ∨ (hy_z h 181 7 ≤ 180 ∧ hy_z g 181 0 = 0 ∧ hy_z g 181 7 = hy_z h 181 7 + 20 ∧ z.toInt = hy_z g 181 7))
def hq_r3 (h : ax_H) (x : Int32) : ax_Q := fun res g => hy_H 0 g ∧ ty_F 1189814992754266079232 h g ∧ hy_I g ∧ ∃ z : Int32, res = .inl (some (.int z)) ∧ ((¬ (0 ≤ x.toInt ∧ x.toInt ≤ hy_z h 181 7) ∧ hy_z g 181 0 = 1 ∧ hy_z g 181 7 = hy_z h 181 7) ∨ ((0 ≤ x.toInt ∧ x.toInt ≤ hy_z h 181 7) ∧ hy_z g 181 0 = 0 ∧ hy_z g 181 7 = x.toInt ∧ z.toInt = x.toInt))
theorem lp_no {g g' : ax_H} {W : Nat} {n : Int} {res : Option Value ⊕ String} (q : hq_no 0 g n res g') (hi : hy_I g) (F : ty_F W h g) (hs : ty_sub hy_W0 W = true) : hy_I g' ∧ ty_F W h g' ∧ hy_z g' 181 7 = hy_z g 181 7 := by
  obtain ⟨H, F0, e, -⟩ := q
  refine ⟨?_, ty_F.trans F (ty_F.sub hs F0), hy_zF F0 7 (by decide) (by decide +kernel) (by decide +kernel)⟩
  refine hy_Ik g g' (fun q' j' h1 h2 h3 => F0.2.1 q' j' h1 h2 ?_) (F0.2.2.2 (by decide)) hi
  cases e : hy_W0.testBit (ty_ky q' j') with
  | false => rfl
  | true =>
    have : ty_ky q' j' = 63 := by
      rw [Nat.testBit_two_pow] at e
      exact (of_decide_eq_true e).symm
    rw [this] at h3
    exact absurd h3 (by decide +kernel)
theorem lp_b4 {P : ax_P} {X : ax_PX} {g : ax_H} {K bc bs : Nat} {v j n : Int32} (hK : 198 ≤ K) (Hg : hy_H 0 g) (hi : hy_I g) (Fg : ty_F 2596465341918660686608376606490624 h g) (A : lp_A g K) (h1 : hy_z g 181 7 ≤ 196) (k : ∀ g', hy_H 0 g' → hy_I g' → ty_F 2596465341918660686608376606490624 h g' → lp_A g' K → hy_z g' 181 7 = hy_z g 181 7 + 4 → hy_z g' 181 0 = hy_z g 181 0 → AR ax_ns l (ax_mm 143) 1 ty_R P X 120 [(9, .int j), (8, .int n), (7, .ref K), (0, .ref 181)] [] g' bc bs) : AR ax_ns l (ax_mm 143) 1 ty_R P X 77 [(10, .int v), (9, .int j), (8, .int n), (7, .ref K), (0, .ref 181)] [] g bc bs := by
  show AR _ _ _ _ _ _ _ 77 [(10, .int v), (9, .int j), (8, .int n), (7, .ref K), (0, .ref 181)] [] g _ _
  refine AR.bipushT hk_143_77 (by decide) (fun z201 ez201 => ?_)
  show AR _ _ _ _ _ _ _ 79 [(10, .int v), (9, .int j), (8, .int n), (7, .ref K), (0, .ref 181)] [.int z201] g _ _
  refine AR.s (pc' := 81) (lv' := [(11, .int z201), (10, .int v), (9, .int j), (8, .int n), (7, .ref K), (0, .ref 181)]) (st' := []) (h' := g) _ hn_143 hk_143_79 rfl ?_
  refine AR.s (pc' := 83) (lv' := [(11, .int z201), (10, .int v), (9, .int j), (8, .int n), (7, .ref K), (0, .ref 181)]) (st' := [.int z201]) (h' := g) _ hn_143 hk_143_81 rfl ?_
  refine AR.zlt hk_143_83 (tgt := 120) (by decide) (fun p0 => ?_) (fun q0 => ?_)
  · exact absurd p0 (by omega)
  · refine AR.s (pc' := 87) (lv' := [(11, .int z201), (10, .int v), (9, .int j), (8, .int n), (7, .ref K), (0, .ref 181)]) (st' := [.ref 181]) (h' := g) _ hn_143 hk_143_86 rfl ?_
    refine AR.gR hk_143_87 (by decide) Hg (q := 181) (n := 32) (by decide) (by decide +kernel) (by decide +kernel) (by decide) hy_t181_6 ?_
    show AR _ _ _ _ _ _ _ 90 [(11, .int z201), (10, .int v), (9, .int j), (8, .int n), (7, .ref K), (0, .ref 181)] [.ref 185] g _ _
    refine AR.s (pc' := 91) (lv' := [(11, .int z201), (10, .int v), (9, .int j), (8, .int n), (7, .ref K), (0, .ref 181)]) (st' := [.ref 181, .ref 185]) (h' := g) _ hn_143 hk_143_90 rfl ?_
    refine AR.gI hk_143_91 (by decide) Hg (q := 181) (n := 32) (by decide) (by decide +kernel) (by decide +kernel) (by decide) hy_t181_7 (fun x202 dx202 lx202 ux202 => ?_)
    show AR _ _ _ _ _ _ _ 94 [(11, .int z201), (10, .int v), (9, .int j), (8, .int n), (7, .ref K), (0, .ref 181)] [.int x202, .ref 185] g _ _
    have sx202 := hy_zi dx202
    refine AR.s (pc' := 96) (lv' := [(11, .int z201), (10, .int v), (9, .int j), (8, .int n), (7, .ref K), (0, .ref 181)]) (st' := [.int v, .int x202, .ref 185]) (h' := g) _ hn_143 hk_143_94 rfl ?_
    refine AR.s (pc' := 98) (lv' := [(11, .int z201), (10, .int v), (9, .int j), (8, .int n), (7, .ref K), (0, .ref 181)]) (st' := [.int z201, .int v, .int x202, .ref 185]) (h' := g) _ hn_143 hk_143_96 rfl ?_
    refine AR.ishr (z := .int (v >>> (z201 &&& 31))) (ax_look_ok hk_143_98).1 rfl ?_
    generalize v >>> (z201 &&& 31) = z203
    show AR _ _ _ _ _ _ _ 99 [(11, .int z201), (10, .int v), (9, .int j), (8, .int n), (7, .ref K), (0, .ref 181)] [.int z203, .int x202, .ref 185] g _ _
    refine AR.sipushT hk_143_99 (by decide) (fun z204 ez204 => ?_)
    show AR _ _ _ _ _ _ _ 102 [(11, .int z201), (10, .int v), (9, .int j), (8, .int n), (7, .ref K), (0, .ref 181)] [.int z204, .int z203, .int x202, .ref 185] g _ _
    refine AR.iand (z := .int (z203 &&& z204)) (ax_look_ok hk_143_102).1 rfl ?_
    have ez205 := lp_and (a := z203) ez204
    generalize z203 &&& z204 = z205 at ez205
    show AR _ _ _ _ _ _ _ 103 [(11, .int z201), (10, .int v), (9, .int j), (8, .int n), (7, .ref K), (0, .ref 181)] [.int z205, .int x202, .ref 185] g _ _
    refine AR.isT hk_143_103 Hg Fg (q := 185) (n := 200) (by decide) (by decide +kernel) (by decide +kernel) (by decide +kernel) hy_t185_0 (by omega) (by omega) (by omega) (by omega) (by decide +kernel) ?_
    rintro g206 ⟨Hg206, Fg206, Gg206, Eg206⟩
    show AR _ _ _ _ _ _ _ 104 [(11, .int z201), (10, .int v), (9, .int j), (8, .int n), (7, .ref K), (0, .ref 181)] [] g206 _ _
    have ig206 : hy_I g206 := hi.st Gg206 (by decide) Eg206 (by unfold ty_ky; rw [show ty_ar 185 = true from by decide +kernel]; show ty_IK.testBit ((ty_tab 185).2.2.1 - 1 + 0) = false; decide +kernel)
    have ug206_181_7 : hy_z g206 181 7 = hy_z g 181 7 := hy_ze (by rw [Eg206, if_neg (fun c => absurd c.1 (by decide))])
    have ug206_181_0 : hy_z g206 181 0 = hy_z g 181 0 := hy_ze (by rw [Eg206, if_neg (fun c => absurd c.1 (by decide))])
    have Ag206 := A.go Gg206 hK
    refine AR.s (pc' := 105) (lv' := [(11, .int z201), (10, .int v), (9, .int j), (8, .int n), (7, .ref K), (0, .ref 181)]) (st' := [.ref 181]) (h' := g206) _ hn_143 hk_143_104 rfl ?_
    refine AR.s (pc' := 106) (lv' := [(11, .int z201), (10, .int v), (9, .int j), (8, .int n), (7, .ref K), (0, .ref 181)]) (st' := [.ref 181, .ref 181]) (h' := g206) _ hn_143 hk_143_105 rfl ?_
    refine AR.gI hk_143_106 (by decide) Hg206 (q := 181) (n := 32) (by decide) (by decide +kernel) (by decide +kernel) (by decide) hy_t181_7 (fun x207 dx207 lx207 ux207 => ?_)
    show AR _ _ _ _ _ _ _ 109 [(11, .int z201), (10, .int v), (9, .int j), (8, .int n), (7, .ref K), (0, .ref 181)] [.int x207, .ref 181] g206 _ _
    have sx207 := hy_zi dx207
    refine AR.iconstT hk_143_109 (by decide) (fun z208 ez208 => ?_)
    show AR _ _ _ _ _ _ _ 110 [(11, .int z201), (10, .int v), (9, .int j), (8, .int n), (7, .ref K), (0, .ref 181)] [.int z208, .int x207, .ref 181] g206 _ _
    refine AR.addT hk_143_110 (by omega) (by omega) (fun z209 ez209 => ?_)
    show AR _ _ _ _ _ _ _ 111 [(11, .int z201), (10, .int v), (9, .int j), (8, .int n), (7, .ref K), (0, .ref 181)] [.int z209, .ref 181] g206 _ _
    refine AR.pT hk_143_111 (by decide) Hg206 Fg206 (q := 181) (by decide) (by decide +kernel) (show ax_cls[9]? = some hy_c9 from rfl) (by decide +kernel) (by decide) rfl (by rw [hy_t181_7]; exact ⟨_, rfl, by omega, by omega, Or.inl rfl⟩) (by decide +kernel) (by decide +kernel) ?_
    rintro g210 ⟨Hg210, Fg210, Gg210, Eg210⟩
    show AR _ _ _ _ _ _ _ 114 [(11, .int z201), (10, .int v), (9, .int j), (8, .int n), (7, .ref K), (0, .ref 181)] [] g210 _ _
    have ig210 : hy_I g210 := ig206.st Gg210 (by decide) Eg210 (by decide +kernel)
    have ug210_181_7 : hy_z g210 181 7 = z209.toInt := hy_zi (i := z209) (by rw [Eg210, if_pos ⟨rfl, rfl⟩])
    have ug210_181_0 : hy_z g210 181 0 = hy_z g206 181 0 := hy_ze (by rw [Eg210, if_neg (fun c => absurd c.2 (by decide))])
    have Ag210 := Ag206.go Gg210 hK
    refine AR.iincT hk_143_114 (x := z201) rfl (by rw [hn_143]; decide) (by decide) (by omega) (by omega) (fun z211 ez211 => ?_)
    show AR _ _ _ _ _ _ _ 117 [(11, .int z211), (10, .int v), (9, .int j), (8, .int n), (7, .ref K), (0, .ref 181)] [] g210 _ _
    refine AR.gotoT hk_143_117 (tgt := 81) (by decide) ?_
    refine AR.s (pc' := 83) (lv' := [(11, .int z211), (10, .int v), (9, .int j), (8, .int n), (7, .ref K), (0, .ref 181)]) (st' := [.int z211]) (h' := g210) _ hn_143 hk_143_81 rfl ?_
    refine AR.zlt hk_143_83 (tgt := 120) (by decide) (fun p1 => ?_) (fun q1 => ?_)
    · exact absurd p1 (by omega)
    · refine AR.s (pc' := 87) (lv' := [(11, .int z211), (10, .int v), (9, .int j), (8, .int n), (7, .ref K), (0, .ref 181)]) (st' := [.ref 181]) (h' := g210) _ hn_143 hk_143_86 rfl ?_
      refine AR.gR hk_143_87 (by decide) Hg210 (q := 181) (n := 32) (by decide) (by decide +kernel) (by decide +kernel) (by decide) hy_t181_6 ?_
      show AR _ _ _ _ _ _ _ 90 [(11, .int z211), (10, .int v), (9, .int j), (8, .int n), (7, .ref K), (0, .ref 181)] [.ref 185] g210 _ _
      refine AR.s (pc' := 91) (lv' := [(11, .int z211), (10, .int v), (9, .int j), (8, .int n), (7, .ref K), (0, .ref 181)]) (st' := [.ref 181, .ref 185]) (h' := g210) _ hn_143 hk_143_90 rfl ?_
      refine AR.gI hk_143_91 (by decide) Hg210 (q := 181) (n := 32) (by decide) (by decide +kernel) (by decide +kernel) (by decide) hy_t181_7 (fun x212 dx212 lx212 ux212 => ?_)
      show AR _ _ _ _ _ _ _ 94 [(11, .int z211), (10, .int v), (9, .int j), (8, .int n), (7, .ref K), (0, .ref 181)] [.int x212, .ref 185] g210 _ _
      have sx212 := hy_zi dx212
      refine AR.s (pc' := 96) (lv' := [(11, .int z211), (10, .int v), (9, .int j), (8, .int n), (7, .ref K), (0, .ref 181)]) (st' := [.int v, .int x212, .ref 185]) (h' := g210) _ hn_143 hk_143_94 rfl ?_
      refine AR.s (pc' := 98) (lv' := [(11, .int z211), (10, .int v), (9, .int j), (8, .int n), (7, .ref K), (0, .ref 181)]) (st' := [.int z211, .int v, .int x212, .ref 185]) (h' := g210) _ hn_143 hk_143_96 rfl ?_
      refine AR.ishr (z := .int (v >>> (z211 &&& 31))) (ax_look_ok hk_143_98).1 rfl ?_
      generalize v >>> (z211 &&& 31) = z213
      show AR _ _ _ _ _ _ _ 99 [(11, .int z211), (10, .int v), (9, .int j), (8, .int n), (7, .ref K), (0, .ref 181)] [.int z213, .int x212, .ref 185] g210 _ _
      refine AR.sipushT hk_143_99 (by decide) (fun z214 ez214 => ?_)
      show AR _ _ _ _ _ _ _ 102 [(11, .int z211), (10, .int v), (9, .int j), (8, .int n), (7, .ref K), (0, .ref 181)] [.int z214, .int z213, .int x212, .ref 185] g210 _ _
      refine AR.iand (z := .int (z213 &&& z214)) (ax_look_ok hk_143_102).1 rfl ?_
      have ez215 := lp_and (a := z213) ez214
      generalize z213 &&& z214 = z215 at ez215
      show AR _ _ _ _ _ _ _ 103 [(11, .int z211), (10, .int v), (9, .int j), (8, .int n), (7, .ref K), (0, .ref 181)] [.int z215, .int x212, .ref 185] g210 _ _
      refine AR.isT hk_143_103 Hg210 Fg210 (q := 185) (n := 200) (by decide) (by decide +kernel) (by decide +kernel) (by decide +kernel) hy_t185_0 (by omega) (by omega) (by omega) (by omega) (by decide +kernel) ?_
      rintro g216 ⟨Hg216, Fg216, Gg216, Eg216⟩
      show AR _ _ _ _ _ _ _ 104 [(11, .int z211), (10, .int v), (9, .int j), (8, .int n), (7, .ref K), (0, .ref 181)] [] g216 _ _
      have ig216 : hy_I g216 := ig210.st Gg216 (by decide) Eg216 (by unfold ty_ky; rw [show ty_ar 185 = true from by decide +kernel]; show ty_IK.testBit ((ty_tab 185).2.2.1 - 1 + 0) = false; decide +kernel)
      have ug216_181_7 : hy_z g216 181 7 = hy_z g210 181 7 := hy_ze (by rw [Eg216, if_neg (fun c => absurd c.1 (by decide))])
      have ug216_181_0 : hy_z g216 181 0 = hy_z g210 181 0 := hy_ze (by rw [Eg216, if_neg (fun c => absurd c.1 (by decide))])
      have Ag216 := Ag210.go Gg216 hK
      refine AR.s (pc' := 105) (lv' := [(11, .int z211), (10, .int v), (9, .int j), (8, .int n), (7, .ref K), (0, .ref 181)]) (st' := [.ref 181]) (h' := g216) _ hn_143 hk_143_104 rfl ?_
      refine AR.s (pc' := 106) (lv' := [(11, .int z211), (10, .int v), (9, .int j), (8, .int n), (7, .ref K), (0, .ref 181)]) (st' := [.ref 181, .ref 181]) (h' := g216) _ hn_143 hk_143_105 rfl ?_
      refine AR.gI hk_143_106 (by decide) Hg216 (q := 181) (n := 32) (by decide) (by decide +kernel) (by decide +kernel) (by decide) hy_t181_7 (fun x217 dx217 lx217 ux217 => ?_)
      show AR _ _ _ _ _ _ _ 109 [(11, .int z211), (10, .int v), (9, .int j), (8, .int n), (7, .ref K), (0, .ref 181)] [.int x217, .ref 181] g216 _ _
      have sx217 := hy_zi dx217
      refine AR.iconstT hk_143_109 (by decide) (fun z218 ez218 => ?_)
      show AR _ _ _ _ _ _ _ 110 [(11, .int z211), (10, .int v), (9, .int j), (8, .int n), (7, .ref K), (0, .ref 181)] [.int z218, .int x217, .ref 181] g216 _ _
      refine AR.addT hk_143_110 (by omega) (by omega) (fun z219 ez219 => ?_)
      show AR _ _ _ _ _ _ _ 111 [(11, .int z211), (10, .int v), (9, .int j), (8, .int n), (7, .ref K), (0, .ref 181)] [.int z219, .ref 181] g216 _ _
      refine AR.pT hk_143_111 (by decide) Hg216 Fg216 (q := 181) (by decide) (by decide +kernel) (show ax_cls[9]? = some hy_c9 from rfl) (by decide +kernel) (by decide) rfl (by rw [hy_t181_7]; exact ⟨_, rfl, by omega, by omega, Or.inl rfl⟩) (by decide +kernel) (by decide +kernel) ?_
      rintro g220 ⟨Hg220, Fg220, Gg220, Eg220⟩
      show AR _ _ _ _ _ _ _ 114 [(11, .int z211), (10, .int v), (9, .int j), (8, .int n), (7, .ref K), (0, .ref 181)] [] g220 _ _
      have ig220 : hy_I g220 := ig216.st Gg220 (by decide) Eg220 (by decide +kernel)
      have ug220_181_7 : hy_z g220 181 7 = z219.toInt := hy_zi (i := z219) (by rw [Eg220, if_pos ⟨rfl, rfl⟩])
      have ug220_181_0 : hy_z g220 181 0 = hy_z g216 181 0 := hy_ze (by rw [Eg220, if_neg (fun c => absurd c.2 (by decide))])
      have Ag220 := Ag216.go Gg220 hK
      refine AR.iincT hk_143_114 (x := z211) rfl (by rw [hn_143]; decide) (by decide) (by omega) (by omega) (fun z221 ez221 => ?_)
      show AR _ _ _ _ _ _ _ 117 [(11, .int z221), (10, .int v), (9, .int j), (8, .int n), (7, .ref K), (0, .ref 181)] [] g220 _ _
      refine AR.gotoT hk_143_117 (tgt := 81) (by decide) ?_
      refine AR.s (pc' := 83) (lv' := [(11, .int z221), (10, .int v), (9, .int j), (8, .int n), (7, .ref K), (0, .ref 181)]) (st' := [.int z221]) (h' := g220) _ hn_143 hk_143_81 rfl ?_
      refine AR.zlt hk_143_83 (tgt := 120) (by decide) (fun p2 => ?_) (fun q2 => ?_)
      · exact absurd p2 (by omega)
      · refine AR.s (pc' := 87) (lv' := [(11, .int z221), (10, .int v), (9, .int j), (8, .int n), (7, .ref K), (0, .ref 181)]) (st' := [.ref 181]) (h' := g220) _ hn_143 hk_143_86 rfl ?_
        refine AR.gR hk_143_87 (by decide) Hg220 (q := 181) (n := 32) (by decide) (by decide +kernel) (by decide +kernel) (by decide) hy_t181_6 ?_
        show AR _ _ _ _ _ _ _ 90 [(11, .int z221), (10, .int v), (9, .int j), (8, .int n), (7, .ref K), (0, .ref 181)] [.ref 185] g220 _ _
        refine AR.s (pc' := 91) (lv' := [(11, .int z221), (10, .int v), (9, .int j), (8, .int n), (7, .ref K), (0, .ref 181)]) (st' := [.ref 181, .ref 185]) (h' := g220) _ hn_143 hk_143_90 rfl ?_
        refine AR.gI hk_143_91 (by decide) Hg220 (q := 181) (n := 32) (by decide) (by decide +kernel) (by decide +kernel) (by decide) hy_t181_7 (fun x222 dx222 lx222 ux222 => ?_)
        show AR _ _ _ _ _ _ _ 94 [(11, .int z221), (10, .int v), (9, .int j), (8, .int n), (7, .ref K), (0, .ref 181)] [.int x222, .ref 185] g220 _ _
        have sx222 := hy_zi dx222
        refine AR.s (pc' := 96) (lv' := [(11, .int z221), (10, .int v), (9, .int j), (8, .int n), (7, .ref K), (0, .ref 181)]) (st' := [.int v, .int x222, .ref 185]) (h' := g220) _ hn_143 hk_143_94 rfl ?_
        refine AR.s (pc' := 98) (lv' := [(11, .int z221), (10, .int v), (9, .int j), (8, .int n), (7, .ref K), (0, .ref 181)]) (st' := [.int z221, .int v, .int x222, .ref 185]) (h' := g220) _ hn_143 hk_143_96 rfl ?_
        refine AR.ishr (z := .int (v >>> (z221 &&& 31))) (ax_look_ok hk_143_98).1 rfl ?_
        generalize v >>> (z221 &&& 31) = z223
        show AR _ _ _ _ _ _ _ 99 [(11, .int z221), (10, .int v), (9, .int j), (8, .int n), (7, .ref K), (0, .ref 181)] [.int z223, .int x222, .ref 185] g220 _ _
        refine AR.sipushT hk_143_99 (by decide) (fun z224 ez224 => ?_)
        show AR _ _ _ _ _ _ _ 102 [(11, .int z221), (10, .int v), (9, .int j), (8, .int n), (7, .ref K), (0, .ref 181)] [.int z224, .int z223, .int x222, .ref 185] g220 _ _
        refine AR.iand (z := .int (z223 &&& z224)) (ax_look_ok hk_143_102).1 rfl ?_
        have ez225 := lp_and (a := z223) ez224
        generalize z223 &&& z224 = z225 at ez225
        show AR _ _ _ _ _ _ _ 103 [(11, .int z221), (10, .int v), (9, .int j), (8, .int n), (7, .ref K), (0, .ref 181)] [.int z225, .int x222, .ref 185] g220 _ _
        refine AR.isT hk_143_103 Hg220 Fg220 (q := 185) (n := 200) (by decide) (by decide +kernel) (by decide +kernel) (by decide +kernel) hy_t185_0 (by omega) (by omega) (by omega) (by omega) (by decide +kernel) ?_
        rintro g226 ⟨Hg226, Fg226, Gg226, Eg226⟩
        show AR _ _ _ _ _ _ _ 104 [(11, .int z221), (10, .int v), (9, .int j), (8, .int n), (7, .ref K), (0, .ref 181)] [] g226 _ _
        have ig226 : hy_I g226 := ig220.st Gg226 (by decide) Eg226 (by unfold ty_ky; rw [show ty_ar 185 = true from by decide +kernel]; show ty_IK.testBit ((ty_tab 185).2.2.1 - 1 + 0) = false; decide +kernel)
        have ug226_181_7 : hy_z g226 181 7 = hy_z g220 181 7 := hy_ze (by rw [Eg226, if_neg (fun c => absurd c.1 (by decide))])
        have ug226_181_0 : hy_z g226 181 0 = hy_z g220 181 0 := hy_ze (by rw [Eg226, if_neg (fun c => absurd c.1 (by decide))])
        have Ag226 := Ag220.go Gg226 hK
        refine AR.s (pc' := 105) (lv' := [(11, .int z221), (10, .int v), (9, .int j), (8, .int n), (7, .ref K), (0, .ref 181)]) (st' := [.ref 181]) (h' := g226) _ hn_143 hk_143_104 rfl ?_
        refine AR.s (pc' := 106) (lv' := [(11, .int z221), (10, .int v), (9, .int j), (8, .int n), (7, .ref K), (0, .ref 181)]) (st' := [.ref 181, .ref 181]) (h' := g226) _ hn_143 hk_143_105 rfl ?_
        refine AR.gI hk_143_106 (by decide) Hg226 (q := 181) (n := 32) (by decide) (by decide +kernel) (by decide +kernel) (by decide) hy_t181_7 (fun x227 dx227 lx227 ux227 => ?_)
        show AR _ _ _ _ _ _ _ 109 [(11, .int z221), (10, .int v), (9, .int j), (8, .int n), (7, .ref K), (0, .ref 181)] [.int x227, .ref 181] g226 _ _
        have sx227 := hy_zi dx227
        refine AR.iconstT hk_143_109 (by decide) (fun z228 ez228 => ?_)
        show AR _ _ _ _ _ _ _ 110 [(11, .int z221), (10, .int v), (9, .int j), (8, .int n), (7, .ref K), (0, .ref 181)] [.int z228, .int x227, .ref 181] g226 _ _
        refine AR.addT hk_143_110 (by omega) (by omega) (fun z229 ez229 => ?_)
        show AR _ _ _ _ _ _ _ 111 [(11, .int z221), (10, .int v), (9, .int j), (8, .int n), (7, .ref K), (0, .ref 181)] [.int z229, .ref 181] g226 _ _
        refine AR.pT hk_143_111 (by decide) Hg226 Fg226 (q := 181) (by decide) (by decide +kernel) (show ax_cls[9]? = some hy_c9 from rfl) (by decide +kernel) (by decide) rfl (by rw [hy_t181_7]; exact ⟨_, rfl, by omega, by omega, Or.inl rfl⟩) (by decide +kernel) (by decide +kernel) ?_
        rintro g230 ⟨Hg230, Fg230, Gg230, Eg230⟩
        show AR _ _ _ _ _ _ _ 114 [(11, .int z221), (10, .int v), (9, .int j), (8, .int n), (7, .ref K), (0, .ref 181)] [] g230 _ _
        have ig230 : hy_I g230 := ig226.st Gg230 (by decide) Eg230 (by decide +kernel)
        have ug230_181_7 : hy_z g230 181 7 = z229.toInt := hy_zi (i := z229) (by rw [Eg230, if_pos ⟨rfl, rfl⟩])
        have ug230_181_0 : hy_z g230 181 0 = hy_z g226 181 0 := hy_ze (by rw [Eg230, if_neg (fun c => absurd c.2 (by decide))])
        have Ag230 := Ag226.go Gg230 hK
        refine AR.iincT hk_143_114 (x := z221) rfl (by rw [hn_143]; decide) (by decide) (by omega) (by omega) (fun z231 ez231 => ?_)
        show AR _ _ _ _ _ _ _ 117 [(11, .int z231), (10, .int v), (9, .int j), (8, .int n), (7, .ref K), (0, .ref 181)] [] g230 _ _
        refine AR.gotoT hk_143_117 (tgt := 81) (by decide) ?_
        refine AR.s (pc' := 83) (lv' := [(11, .int z231), (10, .int v), (9, .int j), (8, .int n), (7, .ref K), (0, .ref 181)]) (st' := [.int z231]) (h' := g230) _ hn_143 hk_143_81 rfl ?_
        refine AR.zlt hk_143_83 (tgt := 120) (by decide) (fun p3 => ?_) (fun q3 => ?_)
        · exact absurd p3 (by omega)
        · refine AR.s (pc' := 87) (lv' := [(11, .int z231), (10, .int v), (9, .int j), (8, .int n), (7, .ref K), (0, .ref 181)]) (st' := [.ref 181]) (h' := g230) _ hn_143 hk_143_86 rfl ?_
          refine AR.gR hk_143_87 (by decide) Hg230 (q := 181) (n := 32) (by decide) (by decide +kernel) (by decide +kernel) (by decide) hy_t181_6 ?_
          show AR _ _ _ _ _ _ _ 90 [(11, .int z231), (10, .int v), (9, .int j), (8, .int n), (7, .ref K), (0, .ref 181)] [.ref 185] g230 _ _
          refine AR.s (pc' := 91) (lv' := [(11, .int z231), (10, .int v), (9, .int j), (8, .int n), (7, .ref K), (0, .ref 181)]) (st' := [.ref 181, .ref 185]) (h' := g230) _ hn_143 hk_143_90 rfl ?_
          refine AR.gI hk_143_91 (by decide) Hg230 (q := 181) (n := 32) (by decide) (by decide +kernel) (by decide +kernel) (by decide) hy_t181_7 (fun x232 dx232 lx232 ux232 => ?_)
          show AR _ _ _ _ _ _ _ 94 [(11, .int z231), (10, .int v), (9, .int j), (8, .int n), (7, .ref K), (0, .ref 181)] [.int x232, .ref 185] g230 _ _
          have sx232 := hy_zi dx232
          refine AR.s (pc' := 96) (lv' := [(11, .int z231), (10, .int v), (9, .int j), (8, .int n), (7, .ref K), (0, .ref 181)]) (st' := [.int v, .int x232, .ref 185]) (h' := g230) _ hn_143 hk_143_94 rfl ?_
          refine AR.s (pc' := 98) (lv' := [(11, .int z231), (10, .int v), (9, .int j), (8, .int n), (7, .ref K), (0, .ref 181)]) (st' := [.int z231, .int v, .int x232, .ref 185]) (h' := g230) _ hn_143 hk_143_96 rfl ?_
          refine AR.ishr (z := .int (v >>> (z231 &&& 31))) (ax_look_ok hk_143_98).1 rfl ?_
          generalize v >>> (z231 &&& 31) = z233
          show AR _ _ _ _ _ _ _ 99 [(11, .int z231), (10, .int v), (9, .int j), (8, .int n), (7, .ref K), (0, .ref 181)] [.int z233, .int x232, .ref 185] g230 _ _
          refine AR.sipushT hk_143_99 (by decide) (fun z234 ez234 => ?_)
          show AR _ _ _ _ _ _ _ 102 [(11, .int z231), (10, .int v), (9, .int j), (8, .int n), (7, .ref K), (0, .ref 181)] [.int z234, .int z233, .int x232, .ref 185] g230 _ _
          refine AR.iand (z := .int (z233 &&& z234)) (ax_look_ok hk_143_102).1 rfl ?_
          have ez235 := lp_and (a := z233) ez234
          generalize z233 &&& z234 = z235 at ez235
          show AR _ _ _ _ _ _ _ 103 [(11, .int z231), (10, .int v), (9, .int j), (8, .int n), (7, .ref K), (0, .ref 181)] [.int z235, .int x232, .ref 185] g230 _ _
          refine AR.isT hk_143_103 Hg230 Fg230 (q := 185) (n := 200) (by decide) (by decide +kernel) (by decide +kernel) (by decide +kernel) hy_t185_0 (by omega) (by omega) (by omega) (by omega) (by decide +kernel) ?_
          rintro g236 ⟨Hg236, Fg236, Gg236, Eg236⟩
          show AR _ _ _ _ _ _ _ 104 [(11, .int z231), (10, .int v), (9, .int j), (8, .int n), (7, .ref K), (0, .ref 181)] [] g236 _ _
          have ig236 : hy_I g236 := ig230.st Gg236 (by decide) Eg236 (by unfold ty_ky; rw [show ty_ar 185 = true from by decide +kernel]; show ty_IK.testBit ((ty_tab 185).2.2.1 - 1 + 0) = false; decide +kernel)
          have ug236_181_7 : hy_z g236 181 7 = hy_z g230 181 7 := hy_ze (by rw [Eg236, if_neg (fun c => absurd c.1 (by decide))])
          have ug236_181_0 : hy_z g236 181 0 = hy_z g230 181 0 := hy_ze (by rw [Eg236, if_neg (fun c => absurd c.1 (by decide))])
          have Ag236 := Ag230.go Gg236 hK
          refine AR.s (pc' := 105) (lv' := [(11, .int z231), (10, .int v), (9, .int j), (8, .int n), (7, .ref K), (0, .ref 181)]) (st' := [.ref 181]) (h' := g236) _ hn_143 hk_143_104 rfl ?_
          refine AR.s (pc' := 106) (lv' := [(11, .int z231), (10, .int v), (9, .int j), (8, .int n), (7, .ref K), (0, .ref 181)]) (st' := [.ref 181, .ref 181]) (h' := g236) _ hn_143 hk_143_105 rfl ?_
          refine AR.gI hk_143_106 (by decide) Hg236 (q := 181) (n := 32) (by decide) (by decide +kernel) (by decide +kernel) (by decide) hy_t181_7 (fun x237 dx237 lx237 ux237 => ?_)
          show AR _ _ _ _ _ _ _ 109 [(11, .int z231), (10, .int v), (9, .int j), (8, .int n), (7, .ref K), (0, .ref 181)] [.int x237, .ref 181] g236 _ _
          have sx237 := hy_zi dx237
          refine AR.iconstT hk_143_109 (by decide) (fun z238 ez238 => ?_)
          show AR _ _ _ _ _ _ _ 110 [(11, .int z231), (10, .int v), (9, .int j), (8, .int n), (7, .ref K), (0, .ref 181)] [.int z238, .int x237, .ref 181] g236 _ _
          refine AR.addT hk_143_110 (by omega) (by omega) (fun z239 ez239 => ?_)
          show AR _ _ _ _ _ _ _ 111 [(11, .int z231), (10, .int v), (9, .int j), (8, .int n), (7, .ref K), (0, .ref 181)] [.int z239, .ref 181] g236 _ _
          refine AR.pT hk_143_111 (by decide) Hg236 Fg236 (q := 181) (by decide) (by decide +kernel) (show ax_cls[9]? = some hy_c9 from rfl) (by decide +kernel) (by decide) rfl (by rw [hy_t181_7]; exact ⟨_, rfl, by omega, by omega, Or.inl rfl⟩) (by decide +kernel) (by decide +kernel) ?_
          rintro g240 ⟨Hg240, Fg240, Gg240, Eg240⟩
          show AR _ _ _ _ _ _ _ 114 [(11, .int z231), (10, .int v), (9, .int j), (8, .int n), (7, .ref K), (0, .ref 181)] [] g240 _ _
          have ig240 : hy_I g240 := ig236.st Gg240 (by decide) Eg240 (by decide +kernel)
          have ug240_181_7 : hy_z g240 181 7 = z239.toInt := hy_zi (i := z239) (by rw [Eg240, if_pos ⟨rfl, rfl⟩])
          have ug240_181_0 : hy_z g240 181 0 = hy_z g236 181 0 := hy_ze (by rw [Eg240, if_neg (fun c => absurd c.2 (by decide))])
          have Ag240 := Ag236.go Gg240 hK
          refine AR.iincT hk_143_114 (x := z231) rfl (by rw [hn_143]; decide) (by decide) (by omega) (by omega) (fun z241 ez241 => ?_)
          show AR _ _ _ _ _ _ _ 117 [(11, .int z241), (10, .int v), (9, .int j), (8, .int n), (7, .ref K), (0, .ref 181)] [] g240 _ _
          refine AR.gotoT hk_143_117 (tgt := 81) (by decide) ?_
          refine AR.s (pc' := 83) (lv' := [(11, .int z241), (10, .int v), (9, .int j), (8, .int n), (7, .ref K), (0, .ref 181)]) (st' := [.int z241]) (h' := g240) _ hn_143 hk_143_81 rfl ?_
          refine AR.zlt hk_143_83 (tgt := 120) (by decide) (fun p4 => ?_) (fun q4 => ?_)
          · refine AR.lessL (lv' := [(9, .int j), (8, .int n), (7, .ref K), (0, .ref 181)]) (List.forall_mem_cons.mpr ⟨⟨_, by simp, ax_le_rfl rfl⟩, (List.forall_mem_cons.mpr ⟨⟨_, by simp, ax_le_rfl rfl⟩, (List.forall_mem_cons.mpr ⟨⟨_, by simp, ax_le_rfl rfl⟩, (List.forall_mem_cons.mpr ⟨⟨_, by simp, ax_le_rfl rfl⟩, (fun _ h => absurd h List.not_mem_nil)⟩)⟩)⟩)⟩) ?_
            exact k _ Hg240 ig240 Fg240 Ag240 (by omega) (by omega)
          · exact absurd q4 (by omega)
theorem lp_143 (hlst : l.stackTraces = false) (hH : hy_H 0 h) (hi : hy_I h) : AM ax_ns l (ax_mm 143) 1 ty_R (0 + 1) (0 + 5) [.ref 181, .int y1, .int y2, .int y3, .int y4, .int y5] h (hq_r2 h) := by
  refine AM.of (ax_mfacts (by decide +kernel : ax_has 143 = true)).2.2.2.2.2.2 hlst (by rw [hn_143]; exact Nat.le_of_ble_eq_true rfl) ?_
  show AR ax_ns l (ax_mm 143) 1 ty_R _ _ 0 [(0, .ref 181), (1, .int y1), (2, .int y2), (3, .int y3), (4, .int y4), (5, .int y5)] [] h (0 + 1) (0 + 5)
  have F : ty_F 2596465341918660686608376606490624 h h := ty_F_refl _ _
  refine AR.s (pc' := 1) (lv' := [(0, .ref 181), (1, .int y1), (2, .int y2), (3, .int y3), (4, .int y4), (5, .int y5)]) (st' := [.ref 181]) (h' := h) _ hn_143 hk_143_0 rfl ?_
  refine AR.iconstT hk_143_1 (by decide) (fun z242 ez242 => ?_)
  show AR _ _ _ _ _ _ _ 2 [(0, .ref 181), (1, .int y1), (2, .int y2), (3, .int y3), (4, .int y4), (5, .int y5)] [.int z242, .ref 181] h _ _
  refine AR.pT hk_143_2 (by decide) hH F (q := 181) (by decide) (by decide +kernel) (show ax_cls[9]? = some hy_c9 from rfl) (by decide +kernel) (by decide) rfl (by rw [hy_t181_0]; exact ⟨_, rfl, by omega, by omega, Or.inl rfl⟩) (by decide +kernel) (by decide +kernel) ?_
  rintro g243 ⟨Hg243, Fg243, Gg243, Eg243⟩
  show AR _ _ _ _ _ _ _ 5 [(0, .ref 181), (1, .int y1), (2, .int y2), (3, .int y3), (4, .int y4), (5, .int y5)] [] g243 _ _
  have ig243 : hy_I g243 := hi.st Gg243 (by decide) Eg243 (by decide +kernel)
  have ug243_181_7 : hy_z g243 181 7 = hy_z h 181 7 := hy_ze (by rw [Eg243, if_neg (fun c => absurd c.2 (by decide))])
  have ug243_181_0 : hy_z g243 181 0 = z242.toInt := hy_zi (i := z242) (by rw [Eg243, if_pos ⟨rfl, rfl⟩])
  refine AR.s (pc' := 6) (lv' := [(0, .ref 181), (1, .int y1), (2, .int y2), (3, .int y3), (4, .int y4), (5, .int y5)]) (st' := [.ref 181]) (h' := g243) _ hn_143 hk_143_5 rfl ?_
  refine AR.gI hk_143_6 (by decide) Hg243 (q := 181) (n := 32) (by decide) (by decide +kernel) (by decide +kernel) (by decide) hy_t181_7 (fun x244 dx244 lx244 ux244 => ?_)
  show AR _ _ _ _ _ _ _ 9 [(0, .ref 181), (1, .int y1), (2, .int y2), (3, .int y3), (4, .int y4), (5, .int y5)] [.int x244] g243 _ _
  have sx244 := hy_zi dx244
  refine AR.bipushT hk_143_9 (by decide) (fun z245 ez245 => ?_)
  show AR _ _ _ _ _ _ _ 11 [(0, .ref 181), (1, .int y1), (2, .int y2), (3, .int y3), (4, .int y4), (5, .int y5)] [.int z245, .int x244] g243 _ _
  refine AR.addT hk_143_11 (by omega) (by omega) (fun z246 ez246 => ?_)
  show AR _ _ _ _ _ _ _ 12 [(0, .ref 181), (1, .int y1), (2, .int y2), (3, .int y3), (4, .int y4), (5, .int y5)] [.int z246] g243 _ _
  refine AR.sipushT hk_143_12 (by decide) (fun z247 ez247 => ?_)
  show AR _ _ _ _ _ _ _ 15 [(0, .ref 181), (1, .int y1), (2, .int y2), (3, .int y3), (4, .int y4), (5, .int y5)] [.int z247, .int z246] g243 _ _
  refine AR.jle hk_143_15 (tgt := 24) (by decide) (fun p1 => ?_) (fun p2 => ?_)
  · refine AR.iconstT hk_143_24 (by decide) (fun z249 ez249 => ?_)
    show AR _ _ _ _ _ _ _ 25 [(0, .ref 181), (1, .int y1), (2, .int y2), (3, .int y3), (4, .int y4), (5, .int y5)] [.int z249] g243 _ _
    refine AR.n5 hk_143_25 ez249 ?_
    refine AR.small (fun hsz => ?_)
    rw [List.length_append] at hsz
    have hsz2 : g243.length < 1000000000 := by omega
    have hu0 : (List.replicate 5 (Value.int 0)).length = 5 ∧ ∀ x ∈ List.replicate 5 (Value.int 0), ∃ i : Int32, x = .int i := ⟨rfl, fun x hx => ⟨0, (List.mem_replicate.mp hx).2⟩⟩
    generalize List.replicate 5 (Value.int 0) = us0 at hu0
    show AR _ _ _ _ _ _ _ 27 [(0, .ref 181), (1, .int y1), (2, .int y2), (3, .int y3), (4, .int y4), (5, .int y5)] [.ref g243.length] (g243 ++ [(100, us0)]) _ _
    refine AR.s (pc' := 28) (lv' := [(0, .ref 181), (1, .int y1), (2, .int y2), (3, .int y3), (4, .int y4), (5, .int y5)]) (st' := [.ref g243.length, .ref g243.length]) (h' := (g243 ++ [(100, us0)])) _ hn_143 hk_143_27 rfl ?_
    refine AR.iconstT hk_143_28 (by decide) (fun z250 ez250 => ?_)
    show AR _ _ _ _ _ _ _ 29 [(0, .ref 181), (1, .int y1), (2, .int y2), (3, .int y3), (4, .int y4), (5, .int y5)] [.int z250, .ref g243.length, .ref g243.length] (g243 ++ [(100, us0)]) _ _
    refine AR.s (pc' := 30) (lv' := [(0, .ref 181), (1, .int y1), (2, .int y2), (3, .int y3), (4, .int y4), (5, .int y5)]) (st' := [.int y1, .int z250, .ref g243.length, .ref g243.length]) (h' := (g243 ++ [(100, us0)])) _ hn_143 hk_143_29 rfl ?_
    refine AR.st5 hk_143_30 hsz2 hu0 (by omega) (by omega) (fun us1 hu1 => ?_)
    show AR _ _ _ _ _ _ _ 31 [(0, .ref 181), (1, .int y1), (2, .int y2), (3, .int y3), (4, .int y4), (5, .int y5)] [.ref g243.length] (g243 ++ [(100, us1)]) _ _
    refine AR.s (pc' := 32) (lv' := [(0, .ref 181), (1, .int y1), (2, .int y2), (3, .int y3), (4, .int y4), (5, .int y5)]) (st' := [.ref g243.length, .ref g243.length]) (h' := (g243 ++ [(100, us1)])) _ hn_143 hk_143_31 rfl ?_
    refine AR.iconstT hk_143_32 (by decide) (fun z251 ez251 => ?_)
    show AR _ _ _ _ _ _ _ 33 [(0, .ref 181), (1, .int y1), (2, .int y2), (3, .int y3), (4, .int y4), (5, .int y5)] [.int z251, .ref g243.length, .ref g243.length] (g243 ++ [(100, us1)]) _ _
    refine AR.s (pc' := 34) (lv' := [(0, .ref 181), (1, .int y1), (2, .int y2), (3, .int y3), (4, .int y4), (5, .int y5)]) (st' := [.int y2, .int z251, .ref g243.length, .ref g243.length]) (h' := (g243 ++ [(100, us1)])) _ hn_143 hk_143_33 rfl ?_
    refine AR.st5 hk_143_34 hsz2 hu1 (by omega) (by omega) (fun us2 hu2 => ?_)
    show AR _ _ _ _ _ _ _ 35 [(0, .ref 181), (1, .int y1), (2, .int y2), (3, .int y3), (4, .int y4), (5, .int y5)] [.ref g243.length] (g243 ++ [(100, us2)]) _ _
    refine AR.s (pc' := 36) (lv' := [(0, .ref 181), (1, .int y1), (2, .int y2), (3, .int y3), (4, .int y4), (5, .int y5)]) (st' := [.ref g243.length, .ref g243.length]) (h' := (g243 ++ [(100, us2)])) _ hn_143 hk_143_35 rfl ?_
    refine AR.iconstT hk_143_36 (by decide) (fun z252 ez252 => ?_)
    show AR _ _ _ _ _ _ _ 37 [(0, .ref 181), (1, .int y1), (2, .int y2), (3, .int y3), (4, .int y4), (5, .int y5)] [.int z252, .ref g243.length, .ref g243.length] (g243 ++ [(100, us2)]) _ _
    refine AR.s (pc' := 38) (lv' := [(0, .ref 181), (1, .int y1), (2, .int y2), (3, .int y3), (4, .int y4), (5, .int y5)]) (st' := [.int y3, .int z252, .ref g243.length, .ref g243.length]) (h' := (g243 ++ [(100, us2)])) _ hn_143 hk_143_37 rfl ?_
    refine AR.st5 hk_143_38 hsz2 hu2 (by omega) (by omega) (fun us3 hu3 => ?_)
    show AR _ _ _ _ _ _ _ 39 [(0, .ref 181), (1, .int y1), (2, .int y2), (3, .int y3), (4, .int y4), (5, .int y5)] [.ref g243.length] (g243 ++ [(100, us3)]) _ _
    refine AR.s (pc' := 40) (lv' := [(0, .ref 181), (1, .int y1), (2, .int y2), (3, .int y3), (4, .int y4), (5, .int y5)]) (st' := [.ref g243.length, .ref g243.length]) (h' := (g243 ++ [(100, us3)])) _ hn_143 hk_143_39 rfl ?_
    refine AR.iconstT hk_143_40 (by decide) (fun z253 ez253 => ?_)
    show AR _ _ _ _ _ _ _ 41 [(0, .ref 181), (1, .int y1), (2, .int y2), (3, .int y3), (4, .int y4), (5, .int y5)] [.int z253, .ref g243.length, .ref g243.length] (g243 ++ [(100, us3)]) _ _
    refine AR.s (pc' := 43) (lv' := [(0, .ref 181), (1, .int y1), (2, .int y2), (3, .int y3), (4, .int y4), (5, .int y5)]) (st' := [.int y4, .int z253, .ref g243.length, .ref g243.length]) (h' := (g243 ++ [(100, us3)])) _ hn_143 hk_143_41 rfl ?_
    refine AR.st5 hk_143_43 hsz2 hu3 (by omega) (by omega) (fun us4 hu4 => ?_)
    show AR _ _ _ _ _ _ _ 44 [(0, .ref 181), (1, .int y1), (2, .int y2), (3, .int y3), (4, .int y4), (5, .int y5)] [.ref g243.length] (g243 ++ [(100, us4)]) _ _
    refine AR.s (pc' := 45) (lv' := [(0, .ref 181), (1, .int y1), (2, .int y2), (3, .int y3), (4, .int y4), (5, .int y5)]) (st' := [.ref g243.length, .ref g243.length]) (h' := (g243 ++ [(100, us4)])) _ hn_143 hk_143_44 rfl ?_
    refine AR.iconstT hk_143_45 (by decide) (fun z254 ez254 => ?_)
    show AR _ _ _ _ _ _ _ 46 [(0, .ref 181), (1, .int y1), (2, .int y2), (3, .int y3), (4, .int y4), (5, .int y5)] [.int z254, .ref g243.length, .ref g243.length] (g243 ++ [(100, us4)]) _ _
    refine AR.s (pc' := 48) (lv' := [(0, .ref 181), (1, .int y1), (2, .int y2), (3, .int y3), (4, .int y4), (5, .int y5)]) (st' := [.int y5, .int z254, .ref g243.length, .ref g243.length]) (h' := (g243 ++ [(100, us4)])) _ hn_143 hk_143_46 rfl ?_
    refine AR.st5 hk_143_48 hsz2 hu4 (by omega) (by omega) (fun us5 hu5 => ?_)
    show AR _ _ _ _ _ _ _ 49 [(0, .ref 181), (1, .int y1), (2, .int y2), (3, .int y3), (4, .int y4), (5, .int y5)] [.ref g243.length] (g243 ++ [(100, us5)]) _ _
    have hK : 198 ≤ g243.length := Hg243.1
    have A : lp_A (g243 ++ [(100, us5)]) g243.length := ⟨_, hy_getl g243 _, rfl, hu5.1, fun x hx => by obtain ⟨i, rfl⟩ := hu5.2 x hx; exact ⟨i, rfl, Int32.le_toInt i, by have := Int32.toInt_lt i; show i.toInt ≤ 2147483647; omega⟩⟩
    have Hb := hy_app Hg243 [(100, us5)]
    have ib := ig243.push Hg243 [(100, us5)]
    have Fb : ty_F 2596465341918660686608376606490624 h (g243 ++ [(100, us5)]) := ty_F.trans Fg243 (ty_F.push Hg243.1)
    have ub7 : hy_z (g243 ++ [(100, us5)]) 181 7 = hy_z g243 181 7 := hy_zapp Hg243 _ (by decide) 7
    have ub0 : hy_z (g243 ++ [(100, us5)]) 181 0 = hy_z g243 181 0 := hy_zapp Hg243 _ (by decide) 0
    generalize g243.length = K at hK hsz2 A ⊢
    generalize g243 ++ [(100, us5)] = gb at A Hb ib Fb ub7 ub0 ⊢
    show AR _ _ _ _ _ _ _ 49 [(0, .ref 181), (1, .int y1), (2, .int y2), (3, .int y3), (4, .int y4), (5, .int y5)] [.ref K] gb _ _
    refine AR.s (pc' := 51) (lv' := [(6, .ref K), (0, .ref 181), (1, .int y1), (2, .int y2), (3, .int y3), (4, .int y4), (5, .int y5)]) (st' := []) (h' := gb) _ hn_143 hk_143_49 rfl ?_
    refine AR.s (pc' := 53) (lv' := [(6, .ref K), (0, .ref 181), (1, .int y1), (2, .int y2), (3, .int y3), (4, .int y4), (5, .int y5)]) (st' := [.ref K]) (h' := gb) _ hn_143 hk_143_51 rfl ?_
    refine AR.s (pc' := 55) (lv' := [(7, .ref K), (6, .ref K), (0, .ref 181), (1, .int y1), (2, .int y2), (3, .int y3), (4, .int y4), (5, .int y5)]) (st' := []) (h' := gb) _ hn_143 hk_143_53 rfl ?_
    refine AR.s (pc' := 57) (lv' := [(7, .ref K), (6, .ref K), (0, .ref 181), (1, .int y1), (2, .int y2), (3, .int y3), (4, .int y4), (5, .int y5)]) (st' := [.ref K]) (h' := gb) _ hn_143 hk_143_55 rfl ?_
    refine AR.al5 hk_143_57 hsz2 A (fun n5 en5 => ?_)
    show AR _ _ _ _ _ _ _ 58 [(7, .ref K), (6, .ref K), (0, .ref 181), (1, .int y1), (2, .int y2), (3, .int y3), (4, .int y4), (5, .int y5)] [.int n5] gb _ _
    refine AR.s (pc' := 60) (lv' := [(8, .int n5), (7, .ref K), (6, .ref K), (0, .ref 181), (1, .int y1), (2, .int y2), (3, .int y3), (4, .int y4), (5, .int y5)]) (st' := []) (h' := gb) _ hn_143 hk_143_58 rfl ?_
    refine AR.iconstT hk_143_60 (by decide) (fun z255 ez255 => ?_)
    show AR _ _ _ _ _ _ _ 61 [(8, .int n5), (7, .ref K), (6, .ref K), (0, .ref 181), (1, .int y1), (2, .int y2), (3, .int y3), (4, .int y4), (5, .int y5)] [.int z255] gb _ _
    refine AR.s (pc' := 63) (lv' := [(9, .int z255), (8, .int n5), (7, .ref K), (6, .ref K), (0, .ref 181), (1, .int y1), (2, .int y2), (3, .int y3), (4, .int y4), (5, .int y5)]) (st' := []) (h' := gb) _ hn_143 hk_143_61 rfl ?_
    refine AR.lessL (lv' := [(9, .int z255), (8, .int n5), (7, .ref K), (0, .ref 181)]) (List.forall_mem_cons.mpr ⟨⟨_, by simp, ax_le_rfl rfl⟩, (List.forall_mem_cons.mpr ⟨⟨_, by simp, ax_le_rfl rfl⟩, (List.forall_mem_cons.mpr ⟨⟨_, by simp, ax_le_rfl rfl⟩, (List.forall_mem_cons.mpr ⟨⟨_, by simp, ax_le_rfl rfl⟩, (fun _ h => absurd h List.not_mem_nil)⟩)⟩)⟩)⟩) ?_
    refine AR.s (pc' := 65) (lv' := [(9, .int z255), (8, .int n5), (7, .ref K), (0, .ref 181)]) (st' := [.int z255]) (h' := gb) _ hn_143 hk_143_63 rfl ?_
    refine AR.s (pc' := 67) (lv' := [(9, .int z255), (8, .int n5), (7, .ref K), (0, .ref 181)]) (st' := [.int n5, .int z255]) (h' := gb) _ hn_143 hk_143_65 rfl ?_
    refine AR.jge hk_143_67 (tgt := 126) (by decide) (fun m0 => ?_) (fun n0 => ?_)
    · exact absurd m0 (by omega)
    · refine AR.s (pc' := 72) (lv' := [(9, .int z255), (8, .int n5), (7, .ref K), (0, .ref 181)]) (st' := [.ref K]) (h' := gb) _ hn_143 hk_143_70 rfl ?_
      refine AR.s (pc' := 74) (lv' := [(9, .int z255), (8, .int n5), (7, .ref K), (0, .ref 181)]) (st' := [.int z255, .ref K]) (h' := gb) _ hn_143 hk_143_72 rfl ?_
      refine AR.ld5 hk_143_74 hsz2 A (by omega) (by omega) (fun v0 => ?_)
      show AR _ _ _ _ _ _ _ 75 [(9, .int z255), (8, .int n5), (7, .ref K), (0, .ref 181)] [.int v0] gb _ _
      refine AR.s (pc' := 77) (lv' := [(10, .int v0), (9, .int z255), (8, .int n5), (7, .ref K), (0, .ref 181)]) (st' := []) (h' := gb) _ hn_143 hk_143_75 rfl ?_
      refine AR.lessL (lv' := [(10, .int v0), (9, .int z255), (8, .int n5), (7, .ref K), (0, .ref 181)]) (List.forall_mem_cons.mpr ⟨⟨_, by simp, ax_le_rfl rfl⟩, (List.forall_mem_cons.mpr ⟨⟨_, by simp, ax_le_rfl rfl⟩, (List.forall_mem_cons.mpr ⟨⟨_, by simp, ax_le_rfl rfl⟩, (List.forall_mem_cons.mpr ⟨⟨_, by simp, ax_le_rfl rfl⟩, (List.forall_mem_cons.mpr ⟨⟨_, by simp, ax_le_rfl rfl⟩, (fun _ h => absurd h List.not_mem_nil)⟩)⟩)⟩)⟩)⟩) ?_
      refine lp_b4 hK Hb ib Fb A (by omega) (fun gq0 Hgq0 Igq0 Fgq0 Agq0 s7gq0 s0gq0 => ?_)
      show AR _ _ _ _ _ _ _ 120 [(9, .int z255), (8, .int n5), (7, .ref K), (0, .ref 181)] [] gq0 _ _
      refine AR.iincT hk_143_120 (x := z255) rfl (by rw [hn_143]; decide) (by decide) (by omega) (by omega) (fun z256 ez256 => ?_)
      show AR _ _ _ _ _ _ _ 123 [(9, .int z256), (8, .int n5), (7, .ref K), (0, .ref 181)] [] gq0 _ _
      refine AR.gotoT hk_143_123 (tgt := 63) (by decide) ?_
      refine AR.lessL (lv' := [(9, .int z256), (8, .int n5), (7, .ref K), (0, .ref 181)]) (List.forall_mem_cons.mpr ⟨⟨_, by simp, ax_le_rfl rfl⟩, (List.forall_mem_cons.mpr ⟨⟨_, by simp, ax_le_rfl rfl⟩, (List.forall_mem_cons.mpr ⟨⟨_, by simp, ax_le_rfl rfl⟩, (List.forall_mem_cons.mpr ⟨⟨_, by simp, ax_le_rfl rfl⟩, (fun _ h => absurd h List.not_mem_nil)⟩)⟩)⟩)⟩) ?_
      refine AR.s (pc' := 65) (lv' := [(9, .int z256), (8, .int n5), (7, .ref K), (0, .ref 181)]) (st' := [.int z256]) (h' := gq0) _ hn_143 hk_143_63 rfl ?_
      refine AR.s (pc' := 67) (lv' := [(9, .int z256), (8, .int n5), (7, .ref K), (0, .ref 181)]) (st' := [.int n5, .int z256]) (h' := gq0) _ hn_143 hk_143_65 rfl ?_
      refine AR.jge hk_143_67 (tgt := 126) (by decide) (fun m1 => ?_) (fun n1 => ?_)
      · exact absurd m1 (by omega)
      · refine AR.s (pc' := 72) (lv' := [(9, .int z256), (8, .int n5), (7, .ref K), (0, .ref 181)]) (st' := [.ref K]) (h' := gq0) _ hn_143 hk_143_70 rfl ?_
        refine AR.s (pc' := 74) (lv' := [(9, .int z256), (8, .int n5), (7, .ref K), (0, .ref 181)]) (st' := [.int z256, .ref K]) (h' := gq0) _ hn_143 hk_143_72 rfl ?_
        refine AR.ld5 hk_143_74 hsz2 Agq0 (by omega) (by omega) (fun v1 => ?_)
        show AR _ _ _ _ _ _ _ 75 [(9, .int z256), (8, .int n5), (7, .ref K), (0, .ref 181)] [.int v1] gq0 _ _
        refine AR.s (pc' := 77) (lv' := [(10, .int v1), (9, .int z256), (8, .int n5), (7, .ref K), (0, .ref 181)]) (st' := []) (h' := gq0) _ hn_143 hk_143_75 rfl ?_
        refine AR.lessL (lv' := [(10, .int v1), (9, .int z256), (8, .int n5), (7, .ref K), (0, .ref 181)]) (List.forall_mem_cons.mpr ⟨⟨_, by simp, ax_le_rfl rfl⟩, (List.forall_mem_cons.mpr ⟨⟨_, by simp, ax_le_rfl rfl⟩, (List.forall_mem_cons.mpr ⟨⟨_, by simp, ax_le_rfl rfl⟩, (List.forall_mem_cons.mpr ⟨⟨_, by simp, ax_le_rfl rfl⟩, (List.forall_mem_cons.mpr ⟨⟨_, by simp, ax_le_rfl rfl⟩, (fun _ h => absurd h List.not_mem_nil)⟩)⟩)⟩)⟩)⟩) ?_
        refine lp_b4 hK Hgq0 Igq0 Fgq0 Agq0 (by omega) (fun gq1 Hgq1 Igq1 Fgq1 Agq1 s7gq1 s0gq1 => ?_)
        show AR _ _ _ _ _ _ _ 120 [(9, .int z256), (8, .int n5), (7, .ref K), (0, .ref 181)] [] gq1 _ _
        refine AR.iincT hk_143_120 (x := z256) rfl (by rw [hn_143]; decide) (by decide) (by omega) (by omega) (fun z257 ez257 => ?_)
        show AR _ _ _ _ _ _ _ 123 [(9, .int z257), (8, .int n5), (7, .ref K), (0, .ref 181)] [] gq1 _ _
        refine AR.gotoT hk_143_123 (tgt := 63) (by decide) ?_
        refine AR.lessL (lv' := [(9, .int z257), (8, .int n5), (7, .ref K), (0, .ref 181)]) (List.forall_mem_cons.mpr ⟨⟨_, by simp, ax_le_rfl rfl⟩, (List.forall_mem_cons.mpr ⟨⟨_, by simp, ax_le_rfl rfl⟩, (List.forall_mem_cons.mpr ⟨⟨_, by simp, ax_le_rfl rfl⟩, (List.forall_mem_cons.mpr ⟨⟨_, by simp, ax_le_rfl rfl⟩, (fun _ h => absurd h List.not_mem_nil)⟩)⟩)⟩)⟩) ?_
        refine AR.s (pc' := 65) (lv' := [(9, .int z257), (8, .int n5), (7, .ref K), (0, .ref 181)]) (st' := [.int z257]) (h' := gq1) _ hn_143 hk_143_63 rfl ?_
        refine AR.s (pc' := 67) (lv' := [(9, .int z257), (8, .int n5), (7, .ref K), (0, .ref 181)]) (st' := [.int n5, .int z257]) (h' := gq1) _ hn_143 hk_143_65 rfl ?_
        refine AR.jge hk_143_67 (tgt := 126) (by decide) (fun m2 => ?_) (fun n2 => ?_)
        · exact absurd m2 (by omega)
        · refine AR.s (pc' := 72) (lv' := [(9, .int z257), (8, .int n5), (7, .ref K), (0, .ref 181)]) (st' := [.ref K]) (h' := gq1) _ hn_143 hk_143_70 rfl ?_
          refine AR.s (pc' := 74) (lv' := [(9, .int z257), (8, .int n5), (7, .ref K), (0, .ref 181)]) (st' := [.int z257, .ref K]) (h' := gq1) _ hn_143 hk_143_72 rfl ?_
          refine AR.ld5 hk_143_74 hsz2 Agq1 (by omega) (by omega) (fun v2 => ?_)
          show AR _ _ _ _ _ _ _ 75 [(9, .int z257), (8, .int n5), (7, .ref K), (0, .ref 181)] [.int v2] gq1 _ _
          refine AR.s (pc' := 77) (lv' := [(10, .int v2), (9, .int z257), (8, .int n5), (7, .ref K), (0, .ref 181)]) (st' := []) (h' := gq1) _ hn_143 hk_143_75 rfl ?_
          refine AR.lessL (lv' := [(10, .int v2), (9, .int z257), (8, .int n5), (7, .ref K), (0, .ref 181)]) (List.forall_mem_cons.mpr ⟨⟨_, by simp, ax_le_rfl rfl⟩, (List.forall_mem_cons.mpr ⟨⟨_, by simp, ax_le_rfl rfl⟩, (List.forall_mem_cons.mpr ⟨⟨_, by simp, ax_le_rfl rfl⟩, (List.forall_mem_cons.mpr ⟨⟨_, by simp, ax_le_rfl rfl⟩, (List.forall_mem_cons.mpr ⟨⟨_, by simp, ax_le_rfl rfl⟩, (fun _ h => absurd h List.not_mem_nil)⟩)⟩)⟩)⟩)⟩) ?_
          refine lp_b4 hK Hgq1 Igq1 Fgq1 Agq1 (by omega) (fun gq2 Hgq2 Igq2 Fgq2 Agq2 s7gq2 s0gq2 => ?_)
          show AR _ _ _ _ _ _ _ 120 [(9, .int z257), (8, .int n5), (7, .ref K), (0, .ref 181)] [] gq2 _ _
          refine AR.iincT hk_143_120 (x := z257) rfl (by rw [hn_143]; decide) (by decide) (by omega) (by omega) (fun z258 ez258 => ?_)
          show AR _ _ _ _ _ _ _ 123 [(9, .int z258), (8, .int n5), (7, .ref K), (0, .ref 181)] [] gq2 _ _
          refine AR.gotoT hk_143_123 (tgt := 63) (by decide) ?_
          refine AR.lessL (lv' := [(9, .int z258), (8, .int n5), (7, .ref K), (0, .ref 181)]) (List.forall_mem_cons.mpr ⟨⟨_, by simp, ax_le_rfl rfl⟩, (List.forall_mem_cons.mpr ⟨⟨_, by simp, ax_le_rfl rfl⟩, (List.forall_mem_cons.mpr ⟨⟨_, by simp, ax_le_rfl rfl⟩, (List.forall_mem_cons.mpr ⟨⟨_, by simp, ax_le_rfl rfl⟩, (fun _ h => absurd h List.not_mem_nil)⟩)⟩)⟩)⟩) ?_
          refine AR.s (pc' := 65) (lv' := [(9, .int z258), (8, .int n5), (7, .ref K), (0, .ref 181)]) (st' := [.int z258]) (h' := gq2) _ hn_143 hk_143_63 rfl ?_
          refine AR.s (pc' := 67) (lv' := [(9, .int z258), (8, .int n5), (7, .ref K), (0, .ref 181)]) (st' := [.int n5, .int z258]) (h' := gq2) _ hn_143 hk_143_65 rfl ?_
          refine AR.jge hk_143_67 (tgt := 126) (by decide) (fun m3 => ?_) (fun n3 => ?_)
          · exact absurd m3 (by omega)
          · refine AR.s (pc' := 72) (lv' := [(9, .int z258), (8, .int n5), (7, .ref K), (0, .ref 181)]) (st' := [.ref K]) (h' := gq2) _ hn_143 hk_143_70 rfl ?_
            refine AR.s (pc' := 74) (lv' := [(9, .int z258), (8, .int n5), (7, .ref K), (0, .ref 181)]) (st' := [.int z258, .ref K]) (h' := gq2) _ hn_143 hk_143_72 rfl ?_
            refine AR.ld5 hk_143_74 hsz2 Agq2 (by omega) (by omega) (fun v3 => ?_)
            show AR _ _ _ _ _ _ _ 75 [(9, .int z258), (8, .int n5), (7, .ref K), (0, .ref 181)] [.int v3] gq2 _ _
            refine AR.s (pc' := 77) (lv' := [(10, .int v3), (9, .int z258), (8, .int n5), (7, .ref K), (0, .ref 181)]) (st' := []) (h' := gq2) _ hn_143 hk_143_75 rfl ?_
            refine AR.lessL (lv' := [(10, .int v3), (9, .int z258), (8, .int n5), (7, .ref K), (0, .ref 181)]) (List.forall_mem_cons.mpr ⟨⟨_, by simp, ax_le_rfl rfl⟩, (List.forall_mem_cons.mpr ⟨⟨_, by simp, ax_le_rfl rfl⟩, (List.forall_mem_cons.mpr ⟨⟨_, by simp, ax_le_rfl rfl⟩, (List.forall_mem_cons.mpr ⟨⟨_, by simp, ax_le_rfl rfl⟩, (List.forall_mem_cons.mpr ⟨⟨_, by simp, ax_le_rfl rfl⟩, (fun _ h => absurd h List.not_mem_nil)⟩)⟩)⟩)⟩)⟩) ?_
            refine lp_b4 hK Hgq2 Igq2 Fgq2 Agq2 (by omega) (fun gq3 Hgq3 Igq3 Fgq3 Agq3 s7gq3 s0gq3 => ?_)
            show AR _ _ _ _ _ _ _ 120 [(9, .int z258), (8, .int n5), (7, .ref K), (0, .ref 181)] [] gq3 _ _
            refine AR.iincT hk_143_120 (x := z258) rfl (by rw [hn_143]; decide) (by decide) (by omega) (by omega) (fun z259 ez259 => ?_)
            show AR _ _ _ _ _ _ _ 123 [(9, .int z259), (8, .int n5), (7, .ref K), (0, .ref 181)] [] gq3 _ _
            refine AR.gotoT hk_143_123 (tgt := 63) (by decide) ?_
            refine AR.lessL (lv' := [(9, .int z259), (8, .int n5), (7, .ref K), (0, .ref 181)]) (List.forall_mem_cons.mpr ⟨⟨_, by simp, ax_le_rfl rfl⟩, (List.forall_mem_cons.mpr ⟨⟨_, by simp, ax_le_rfl rfl⟩, (List.forall_mem_cons.mpr ⟨⟨_, by simp, ax_le_rfl rfl⟩, (List.forall_mem_cons.mpr ⟨⟨_, by simp, ax_le_rfl rfl⟩, (fun _ h => absurd h List.not_mem_nil)⟩)⟩)⟩)⟩) ?_
            refine AR.s (pc' := 65) (lv' := [(9, .int z259), (8, .int n5), (7, .ref K), (0, .ref 181)]) (st' := [.int z259]) (h' := gq3) _ hn_143 hk_143_63 rfl ?_
            refine AR.s (pc' := 67) (lv' := [(9, .int z259), (8, .int n5), (7, .ref K), (0, .ref 181)]) (st' := [.int n5, .int z259]) (h' := gq3) _ hn_143 hk_143_65 rfl ?_
            refine AR.jge hk_143_67 (tgt := 126) (by decide) (fun m4 => ?_) (fun n4 => ?_)
            · exact absurd m4 (by omega)
            · refine AR.s (pc' := 72) (lv' := [(9, .int z259), (8, .int n5), (7, .ref K), (0, .ref 181)]) (st' := [.ref K]) (h' := gq3) _ hn_143 hk_143_70 rfl ?_
              refine AR.s (pc' := 74) (lv' := [(9, .int z259), (8, .int n5), (7, .ref K), (0, .ref 181)]) (st' := [.int z259, .ref K]) (h' := gq3) _ hn_143 hk_143_72 rfl ?_
              refine AR.ld5 hk_143_74 hsz2 Agq3 (by omega) (by omega) (fun v4 => ?_)
              show AR _ _ _ _ _ _ _ 75 [(9, .int z259), (8, .int n5), (7, .ref K), (0, .ref 181)] [.int v4] gq3 _ _
              refine AR.s (pc' := 77) (lv' := [(10, .int v4), (9, .int z259), (8, .int n5), (7, .ref K), (0, .ref 181)]) (st' := []) (h' := gq3) _ hn_143 hk_143_75 rfl ?_
              refine AR.lessL (lv' := [(10, .int v4), (9, .int z259), (8, .int n5), (7, .ref K), (0, .ref 181)]) (List.forall_mem_cons.mpr ⟨⟨_, by simp, ax_le_rfl rfl⟩, (List.forall_mem_cons.mpr ⟨⟨_, by simp, ax_le_rfl rfl⟩, (List.forall_mem_cons.mpr ⟨⟨_, by simp, ax_le_rfl rfl⟩, (List.forall_mem_cons.mpr ⟨⟨_, by simp, ax_le_rfl rfl⟩, (List.forall_mem_cons.mpr ⟨⟨_, by simp, ax_le_rfl rfl⟩, (fun _ h => absurd h List.not_mem_nil)⟩)⟩)⟩)⟩)⟩) ?_
              refine lp_b4 hK Hgq3 Igq3 Fgq3 Agq3 (by omega) (fun gq4 Hgq4 Igq4 Fgq4 Agq4 s7gq4 s0gq4 => ?_)
              show AR _ _ _ _ _ _ _ 120 [(9, .int z259), (8, .int n5), (7, .ref K), (0, .ref 181)] [] gq4 _ _
              refine AR.iincT hk_143_120 (x := z259) rfl (by rw [hn_143]; decide) (by decide) (by omega) (by omega) (fun z260 ez260 => ?_)
              show AR _ _ _ _ _ _ _ 123 [(9, .int z260), (8, .int n5), (7, .ref K), (0, .ref 181)] [] gq4 _ _
              refine AR.gotoT hk_143_123 (tgt := 63) (by decide) ?_
              refine AR.lessL (lv' := [(9, .int z260), (8, .int n5), (7, .ref K), (0, .ref 181)]) (List.forall_mem_cons.mpr ⟨⟨_, by simp, ax_le_rfl rfl⟩, (List.forall_mem_cons.mpr ⟨⟨_, by simp, ax_le_rfl rfl⟩, (List.forall_mem_cons.mpr ⟨⟨_, by simp, ax_le_rfl rfl⟩, (List.forall_mem_cons.mpr ⟨⟨_, by simp, ax_le_rfl rfl⟩, (fun _ h => absurd h List.not_mem_nil)⟩)⟩)⟩)⟩) ?_
              refine AR.s (pc' := 65) (lv' := [(9, .int z260), (8, .int n5), (7, .ref K), (0, .ref 181)]) (st' := [.int z260]) (h' := gq4) _ hn_143 hk_143_63 rfl ?_
              refine AR.s (pc' := 67) (lv' := [(9, .int z260), (8, .int n5), (7, .ref K), (0, .ref 181)]) (st' := [.int n5, .int z260]) (h' := gq4) _ hn_143 hk_143_65 rfl ?_
              refine AR.jge hk_143_67 (tgt := 126) (by decide) (fun m5 => ?_) (fun n5 => ?_)
              · refine AR.s (pc' := 127) (lv' := [(9, .int z260), (8, .int n5), (7, .ref K), (0, .ref 181)]) (st' := [.ref 181]) (h' := gq4) _ hn_143 hk_143_126 rfl ?_
                refine AR.gI hk_143_127 (by decide) Hgq4 (q := 181) (n := 32) (by decide) (by decide +kernel) (by decide +kernel) (by decide) hy_t181_7 (fun x261 dx261 lx261 ux261 => ?_)
                show AR _ _ _ _ _ _ _ 130 [(9, .int z260), (8, .int n5), (7, .ref K), (0, .ref 181)] [.int x261] gq4 _ _
                have sx261 := hy_zi dx261
                exact AR.iret hk_143_130 hr_143 ⟨Hgq4, Fgq4, Igq4, _, rfl, Or.inr ⟨by omega, by omega, by omega, by omega⟩⟩
              · exact absurd n5 (by omega)
  · refine AR.s (pc' := 19) (lv' := [(0, .ref 181), (1, .int y1), (2, .int y2), (3, .int y3), (4, .int y4), (5, .int y5)]) (st' := [.ref 181]) (h' := g243) _ hn_143 hk_143_18 rfl ?_
    refine AR.iconstT hk_143_19 (by decide) (fun z248 ez248 => ?_)
    show AR _ _ _ _ _ _ _ 20 [(0, .ref 181), (1, .int y1), (2, .int y2), (3, .int y3), (4, .int y4), (5, .int y5)] [.int z248, .ref 181] g243 _ _
    refine AR.c9 (as := [.int z248]) (rest := []) hk_143_20 Hg243 (by decide +kernel) rfl rfl (Nat.le_of_ble_eq_true rfl) (hf_no hlst Hg243 z248) (by decide) (Nat.zero_le _) (Nat.zero_le _) (fun E h' q => by obtain ⟨-, -, -, z, e, -⟩ := q; cases e) ?_
    rintro w g9 q9
    obtain ⟨i9, F9, c9⟩ := lp_no q9 ig243 Fg243 (by decide +kernel)
    obtain ⟨H9, -, t9, z9, e9, -⟩ := q9
    cases e9
    show AR _ _ _ _ _ _ _ 23 [(0, .ref 181), (1, .int y1), (2, .int y2), (3, .int y3), (4, .int y4), (5, .int y5)] [.int z9] g9 _ _
    exact AR.iret hk_143_23 hr_143 ⟨H9, F9, i9, _, rfl, Or.inl ⟨by omega, by omega, by omega⟩⟩
theorem lp_144 (hlst : l.stackTraces = false) (hH : hy_H 0 h) (hi : hy_I h) : AM ax_ns l (ax_mm 144) 1 ty_R (0) (0) [.ref 181, .int x] h (hq_r3 h x) := by
  refine AM.of (ax_mfacts (by decide +kernel : ax_has 144 = true)).2.2.2.2.2.2 hlst (by rw [hn_144]; exact Nat.le_of_ble_eq_true rfl) ?_
  show AR ax_ns l (ax_mm 144) 1 ty_R _ _ 0 [(0, .ref 181), (1, .int x)] [] h (0) (0)
  have F : ty_F 1189814992754266079232 h h := ty_F_refl _ _
  refine AR.s (pc' := 1) (lv' := [(0, .ref 181), (1, .int x)]) (st' := [.ref 181]) (h' := h) _ hn_144 hk_144_0 rfl ?_
  refine AR.iconstT hk_144_1 (by decide) (fun z262 ez262 => ?_)
  show AR _ _ _ _ _ _ _ 2 [(0, .ref 181), (1, .int x)] [.int z262, .ref 181] h _ _
  refine AR.pT hk_144_2 (by decide) hH F (q := 181) (by decide) (by decide +kernel) (show ax_cls[9]? = some hy_c9 from rfl) (by decide +kernel) (by decide) rfl (by rw [hy_t181_0]; exact ⟨_, rfl, by omega, by omega, Or.inl rfl⟩) (by decide +kernel) (by decide +kernel) ?_
  rintro g263 ⟨Hg263, Fg263, Gg263, Eg263⟩
  show AR _ _ _ _ _ _ _ 5 [(0, .ref 181), (1, .int x)] [] g263 _ _
  have ig263 : hy_I g263 := hi.st Gg263 (by decide) Eg263 (by decide +kernel)
  have ug263_181_7 : hy_z g263 181 7 = hy_z h 181 7 := hy_ze (by rw [Eg263, if_neg (fun c => absurd c.2 (by decide))])
  have ug263_181_0 : hy_z g263 181 0 = z262.toInt := hy_zi (i := z262) (by rw [Eg263, if_pos ⟨rfl, rfl⟩])
  refine AR.s (pc' := 6) (lv' := [(0, .ref 181), (1, .int x)]) (st' := [.int x]) (h' := g263) _ hn_144 hk_144_5 rfl ?_
  refine AR.zlt hk_144_6 (tgt := 17) (by decide) (fun p1 => ?_) (fun p2 => ?_)
  · refine AR.s (pc' := 18) (lv' := [(0, .ref 181), (1, .int x)]) (st' := [.ref 181]) (h' := g263) _ hn_144 hk_144_17 rfl ?_
    refine AR.iconstT hk_144_18 (by decide) (fun z264 ez264 => ?_)
    show AR _ _ _ _ _ _ _ 19 [(0, .ref 181), (1, .int x)] [.int z264, .ref 181] g263 _ _
    refine AR.c9 (as := [.int z264]) (rest := []) hk_144_19 Hg263 (by decide +kernel) rfl rfl (Nat.le_of_ble_eq_true rfl) (hf_no hlst Hg263 z264) (by decide) (Nat.zero_le _) (Nat.zero_le _) (fun E h' q => by obtain ⟨-, -, -, z, e, -⟩ := q; cases e) ?_
    rintro w g9 q9
    obtain ⟨i9, F9, c9⟩ := lp_no q9 ig263 Fg263 (by decide +kernel)
    obtain ⟨H9, -, t9, z9, e9, -⟩ := q9
    cases e9
    show AR _ _ _ _ _ _ _ 22 [(0, .ref 181), (1, .int x)] [.int z9] g9 _ _
    exact AR.iret hk_144_22 hr_144 ⟨H9, F9, i9, _, rfl, Or.inl ⟨fun c => absurd c.1 (by omega), by omega, by omega⟩⟩
  · refine AR.s (pc' := 10) (lv' := [(0, .ref 181), (1, .int x)]) (st' := [.int x]) (h' := g263) _ hn_144 hk_144_9 rfl ?_
    refine AR.s (pc' := 11) (lv' := [(0, .ref 181), (1, .int x)]) (st' := [.ref 181, .int x]) (h' := g263) _ hn_144 hk_144_10 rfl ?_
    refine AR.gI hk_144_11 (by decide) Hg263 (q := 181) (n := 32) (by decide) (by decide +kernel) (by decide +kernel) (by decide) hy_t181_7 (fun x265 dx265 lx265 ux265 => ?_)
    show AR _ _ _ _ _ _ _ 14 [(0, .ref 181), (1, .int x)] [.int x265, .int x] g263 _ _
    have sx265 := hy_zi dx265
    refine AR.jle hk_144_14 (tgt := 23) (by decide) (fun p3 => ?_) (fun p4 => ?_)
    · refine AR.s (pc' := 24) (lv' := [(0, .ref 181), (1, .int x)]) (st' := [.ref 181]) (h' := g263) _ hn_144 hk_144_23 rfl ?_
      refine AR.s (pc' := 25) (lv' := [(0, .ref 181), (1, .int x)]) (st' := [.int x, .ref 181]) (h' := g263) _ hn_144 hk_144_24 rfl ?_
      refine AR.pT hk_144_25 (by decide) Hg263 Fg263 (q := 181) (by decide) (by decide +kernel) (show ax_cls[9]? = some hy_c9 from rfl) (by decide +kernel) (by decide) rfl (by rw [hy_t181_7]; exact ⟨_, rfl, by omega, by omega, Or.inl rfl⟩) (by decide +kernel) (by decide +kernel) ?_
      rintro g267 ⟨Hg267, Fg267, Gg267, Eg267⟩
      show AR _ _ _ _ _ _ _ 28 [(0, .ref 181), (1, .int x)] [] g267 _ _
      have ig267 : hy_I g267 := ig263.st Gg267 (by decide) Eg267 (by decide +kernel)
      have ug267_181_7 : hy_z g267 181 7 = x.toInt := hy_zi (i := x) (by rw [Eg267, if_pos ⟨rfl, rfl⟩])
      have ug267_181_0 : hy_z g267 181 0 = hy_z g263 181 0 := hy_ze (by rw [Eg267, if_neg (fun c => absurd c.2 (by decide))])
      refine AR.s (pc' := 29) (lv' := [(0, .ref 181), (1, .int x)]) (st' := [.int x]) (h' := g267) _ hn_144 hk_144_28 rfl ?_
      exact AR.iret hk_144_29 hr_144 ⟨Hg267, Fg267, ig267, _, rfl, Or.inr ⟨⟨by omega, by omega⟩, by omega, by omega, rfl⟩⟩
    · refine AR.s (pc' := 18) (lv' := [(0, .ref 181), (1, .int x)]) (st' := [.ref 181]) (h' := g263) _ hn_144 hk_144_17 rfl ?_
      refine AR.iconstT hk_144_18 (by decide) (fun z266 ez266 => ?_)
      show AR _ _ _ _ _ _ _ 19 [(0, .ref 181), (1, .int x)] [.int z266, .ref 181] g263 _ _
      refine AR.c9 (as := [.int z266]) (rest := []) hk_144_19 Hg263 (by decide +kernel) rfl rfl (Nat.le_of_ble_eq_true rfl) (hf_no hlst Hg263 z266) (by decide) (Nat.zero_le _) (Nat.zero_le _) (fun E h' q => by obtain ⟨-, -, -, z, e, -⟩ := q; cases e) ?_
      rintro w g9 q9
      obtain ⟨i9, F9, c9⟩ := lp_no q9 ig263 Fg263 (by decide +kernel)
      obtain ⟨H9, -, t9, z9, e9, -⟩ := q9
      cases e9
      show AR _ _ _ _ _ _ _ 22 [(0, .ref 181), (1, .int x)] [.int z9] g9 _ _
      exact AR.iret hk_144_22 hr_144 ⟨H9, F9, i9, _, rfl, Or.inl ⟨fun c => absurd c.2 (by omega), by omega, by omega⟩⟩
end LPP
