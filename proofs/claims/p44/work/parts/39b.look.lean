/-! THE ROWS of the methods, by place -/
theorem hk_119_32 : ax_look 119 32 = some (.putfield 42, (8, 5, 0), .null, [1228]) := by decide +kernel
theorem hk_119_35 : ax_look 119 35 = some (.aload_n 0, (0, 0, 0), .null, []) := by decide +kernel
theorem hk_119_36 : ax_look 119 36 = some (.getfield 60, (8, 8, 0), .null, [1231]) := by decide +kernel
theorem hk_119_39 : ax_look 119 39 = some (.aload_n 0, (0, 0, 0), .null, []) := by decide +kernel
theorem hk_119_40 : ax_look 119 40 = some (.getfield 38, (8, 4, 0), .null, [1227]) := by decide +kernel
theorem hk_119_43 : ax_look 119 43 = some (.iload_n 1, (0, 0, 0), .null, []) := by decide +kernel
theorem hk_119_44 : ax_look 119 44 = some (.aaload, (0, 0, 0), .null, []) := by decide +kernel
theorem hk_119_45 : ax_look 119 45 = some (.invokevirtual 384, (37, 1, 4), .null, [2202, 2204]) := by decide +kernel
theorem hk_119_48 : ax_look 119 48 = some (.aload_n 0, (0, 0, 0), .null, []) := by decide +kernel
theorem hk_119_49 : ax_look 119 49 = some (.invokevirtual 299, (122, 0, 8), .null, [2210, 14]) := by decide +kernel
theorem hk_119_52 : ax_look 119 52 = some (.aload_n 0, (0, 0, 0), .null, []) := by decide +kernel
theorem hk_119_53 : ax_look 119 53 = some (.getfield 60, (8, 8, 0), .null, [1231]) := by decide +kernel
theorem hk_119_56 : ax_look 119 56 = some (.aload_n 0, (0, 0, 0), .null, []) := by decide +kernel
theorem hk_119_57 : ax_look 119 57 = some (.getfield 38, (8, 4, 0), .null, [1227]) := by decide +kernel
theorem hk_119_60 : ax_look 119 60 = some (.iload_n 1, (0, 0, 0), .null, []) := by decide +kernel
theorem hk_119_61 : ax_look 119 61 = some (.aaload, (0, 0, 0), .null, []) := by decide +kernel
theorem hk_119_62 : ax_look 119 62 = some (.getfield 182, (1, 1, 0), .null, [1152]) := by decide +kernel
theorem hk_119_65 : ax_look 119 65 = some (.i2l, (0, 0, 0), .null, []) := by decide +kernel
theorem hk_119_66 : ax_look 119 66 = some (.invokevirtual 388, (42, 2, 5), .null, [3072, 3074]) := by decide +kernel
theorem hk_119_69 : ax_look 119 69 = some (.aload_n 0, (0, 0, 0), .null, []) := by decide +kernel
theorem hk_119_70 : ax_look 119 70 = some (.invokevirtual 285, (121, 0, 8), .null, [3076, 19]) := by decide +kernel
theorem hk_119_73 : ax_look 119 73 = some (.iload_n 1, (0, 0, 0), .null, []) := by decide +kernel
theorem hk_119_74 : ax_look 119 74 = some (.ireturn, (0, 0, 0), .null, []) := by decide +kernel
theorem hn_120 : (ax_mm 120).2.2.1 = 1 := by decide +kernel
theorem hr_120 : (ax_mm 120).2.2.2.1 = (some .boolean) := by decide +kernel
theorem hk_120_0 : ax_look 120 0 = some (.aload_n 0, (0, 0, 0), .null, []) := by decide +kernel
theorem hk_120_1 : ax_look 120 1 = some (.getfield 48, (8, 6, 0), .null, [1229]) := by decide +kernel
theorem hk_120_4 : ax_look 120 4 = some (.invokevirtual 371, (26, 0, 2), .null, [2188, 2190]) := by decide +kernel
theorem hk_120_7 : ax_look 120 7 = some (.aload_n 0, (0, 0, 0), .null, []) := by decide +kernel
theorem hk_120_8 : ax_look 120 8 = some (.getfield 53, (8, 7, 0), .null, [1230]) := by decide +kernel
theorem hk_120_11 : ax_look 120 11 = some (.aload_n 0, (0, 0, 0), .null, []) := by decide +kernel
theorem hk_120_12 : ax_look 120 12 = some (.getfield 48, (8, 6, 0), .null, [1229]) := by decide +kernel
theorem hk_120_15 : ax_look 120 15 = some (.invokevirtual 382, (7, 1, 1), .null, [2198, 2200]) := by decide +kernel
theorem hk_120_18 : ax_look 120 18 = some (.aload_n 0, (0, 0, 0), .null, []) := by decide +kernel
theorem hk_120_19 : ax_look 120 19 = some (.getfield 60, (8, 8, 0), .null, [1231]) := by decide +kernel
theorem hk_120_22 : ax_look 120 22 = some (.aload_n 0, (0, 0, 0), .null, []) := by decide +kernel
theorem hk_120_23 : ax_look 120 23 = some (.getfield 53, (8, 7, 0), .null, [1230]) := by decide +kernel
theorem hk_120_26 : ax_look 120 26 = some (.invokevirtual 384, (37, 1, 4), .null, [2202, 2204]) := by decide +kernel
theorem hk_120_29 : ax_look 120 29 = some (.aload_n 0, (0, 0, 0), .null, []) := by decide +kernel
theorem hk_120_30 : ax_look 120 30 = some (.invokevirtual 299, (122, 0, 8), .null, [2210, 14]) := by decide +kernel
theorem hk_120_33 : ax_look 120 33 = some (.aload_n 0, (0, 0, 0), .null, []) := by decide +kernel
theorem hk_120_34 : ax_look 120 34 = some (.getfield 60, (8, 8, 0), .null, [1231]) := by decide +kernel
theorem hk_120_37 : ax_look 120 37 = some (.aload_n 0, (0, 0, 0), .null, []) := by decide +kernel
theorem hk_120_38 : ax_look 120 38 = some (.getfield 53, (8, 7, 0), .null, [1230]) := by decide +kernel
theorem hk_120_41 : ax_look 120 41 = some (.getfield 182, (1, 1, 0), .null, [1152]) := by decide +kernel
theorem hk_120_44 : ax_look 120 44 = some (.i2l, (0, 0, 0), .null, []) := by decide +kernel
theorem hk_120_45 : ax_look 120 45 = some (.invokevirtual 392, (43, 2, 5), .null, [2214, 2216]) := by decide +kernel
theorem hk_120_48 : ax_look 120 48 = some (.ireturn, (0, 0, 0), .null, []) := by decide +kernel
theorem hn_121 : (ax_mm 121).2.2.1 = 4 := by decide +kernel
theorem hr_121 : (ax_mm 121).2.2.2.1 = none := by decide +kernel
theorem hk_121_0 : ax_look 121 0 = some (.aload_n 0, (0, 0, 0), .null, []) := by decide +kernel
theorem hk_121_1 : ax_look 121 1 = some (.getfield 74, (8, 10, 0), .null, [1233]) := by decide +kernel
theorem hk_121_4 : ax_look 121 4 = some (.invokevirtual 396, (1, 0, 0), .null, [3080, 3082]) := by decide +kernel
theorem hk_121_7 : ax_look 121 7 = some (.iconst 0, (0, 0, 0), .null, []) := by decide +kernel
theorem hk_121_8 : ax_look 121 8 = some (.istore_n 1, (0, 0, 0), .null, []) := by decide +kernel
theorem hk_121_9 : ax_look 121 9 = some (.iload_n 1, (0, 0, 0), .null, []) := by decide +kernel
theorem hk_121_10 : ax_look 121 10 = some (.aload_n 0, (0, 0, 0), .null, []) := by decide +kernel
theorem hk_121_11 : ax_look 121 11 = some (.getfield 67, (8, 9, 0), .null, [1232]) := by decide +kernel
theorem hk_121_14 : ax_look 121 14 = some (.getfield 258, (3, 1, 0), .null, [1183]) := by decide +kernel
theorem hk_121_17 : ax_look 121 17 = some (.if_icmp .ge 25, (0, 0, 0), .null, []) := by decide +kernel
theorem hk_121_20 : ax_look 121 20 = some (.aload_n 0, (0, 0, 0), .null, []) := by decide +kernel
theorem hk_121_21 : ax_look 121 21 = some (.getfield 74, (8, 10, 0), .null, [1233]) := by decide +kernel
theorem hk_121_24 : ax_look 121 24 = some (.aload_n 0, (0, 0, 0), .null, []) := by decide +kernel
theorem hk_121_25 : ax_look 121 25 = some (.getfield 67, (8, 9, 0), .null, [1232]) := by decide +kernel
theorem hk_121_28 : ax_look 121 28 = some (.getfield 265, (3, 0, 0), .null, [1181]) := by decide +kernel
theorem hk_121_31 : ax_look 121 31 = some (.iload_n 1, (0, 0, 0), .null, []) := by decide +kernel
theorem hk_121_32 : ax_look 121 32 = some (.iaload, (0, 0, 0), .null, []) := by decide +kernel
theorem hk_121_33 : ax_look 121 33 = some (.invokevirtual 397, (4, 1, 0), .null, [3084, 3086]) := by decide +kernel
theorem hk_121_36 : ax_look 121 36 = some (.iinc 1 1, (0, 0, 0), .null, []) := by decide +kernel
theorem hk_121_39 : ax_look 121 39 = some (.goto (-30), (0, 0, 0), .null, []) := by decide +kernel
theorem hk_121_42 : ax_look 121 42 = some (.iconst 1, (0, 0, 0), .null, []) := by decide +kernel
theorem hk_121_43 : ax_look 121 43 = some (.istore_n 1, (0, 0, 0), .null, []) := by decide +kernel
theorem hk_121_44 : ax_look 121 44 = some (.iconst 0, (0, 0, 0), .null, []) := by decide +kernel
theorem hk_121_45 : ax_look 121 45 = some (.istore_n 2, (0, 0, 0), .null, []) := by decide +kernel
theorem hk_121_46 : ax_look 121 46 = some (.iload_n 2, (0, 0, 0), .null, []) := by decide +kernel
theorem hk_121_47 : ax_look 121 47 = some (.bipush 12, (0, 0, 0), .null, []) := by decide +kernel
theorem hk_121_49 : ax_look 121 49 = some (.if_icmp .gt 59, (0, 0, 0), .null, []) := by decide +kernel
theorem hk_121_52 : ax_look 121 52 = some (.iload_n 1, (0, 0, 0), .null, []) := by decide +kernel
theorem hk_121_53 : ax_look 121 53 = some (.ifCond .eq 55, (0, 0, 0), .null, []) := by decide +kernel
theorem hk_121_56 : ax_look 121 56 = some (.iconst 0, (0, 0, 0), .null, []) := by decide +kernel
theorem hk_121_57 : ax_look 121 57 = some (.istore_n 1, (0, 0, 0), .null, []) := by decide +kernel
theorem hk_121_58 : ax_look 121 58 = some (.iconst 0, (0, 0, 0), .null, []) := by decide +kernel
theorem hk_121_59 : ax_look 121 59 = some (.istore_n 3, (0, 0, 0), .null, []) := by decide +kernel
theorem hk_121_60 : ax_look 121 60 = some (.iload_n 3, (0, 0, 0), .null, []) := by decide +kernel
theorem hk_121_61 : ax_look 121 61 = some (.aload_n 0, (0, 0, 0), .null, []) := by decide +kernel
theorem hk_121_62 : ax_look 121 62 = some (.getfield 42, (8, 5, 0), .null, [1228]) := by decide +kernel
theorem hk_121_65 : ax_look 121 65 = some (.if_icmp .ge 37, (0, 0, 0), .null, []) := by decide +kernel
theorem hk_121_68 : ax_look 121 68 = some (.aload_n 0, (0, 0, 0), .null, []) := by decide +kernel
theorem hk_121_69 : ax_look 121 69 = some (.getfield 74, (8, 10, 0), .null, [1233]) := by decide +kernel
theorem hk_121_72 : ax_look 121 72 = some (.getfield 273, (0, 1, 0), .null, [1201]) := by decide +kernel
theorem hk_121_75 : ax_look 121 75 = some (.ifCond .ne 27, (0, 0, 0), .null, []) := by decide +kernel
theorem hk_121_78 : ax_look 121 78 = some (.aload_n 0, (0, 0, 0), .null, []) := by decide +kernel
theorem hk_121_79 : ax_look 121 79 = some (.getfield 38, (8, 4, 0), .null, [1227]) := by decide +kernel
theorem hk_121_82 : ax_look 121 82 = some (.iload_n 3, (0, 0, 0), .null, []) := by decide +kernel
theorem hk_121_83 : ax_look 121 83 = some (.aaload, (0, 0, 0), .null, []) := by decide +kernel
theorem hk_121_84 : ax_look 121 84 = some (.aload_n 0, (0, 0, 0), .null, []) := by decide +kernel
theorem hk_121_85 : ax_look 121 85 = some (.getfield 74, (8, 10, 0), .null, [1233]) := by decide +kernel
theorem hk_121_88 : ax_look 121 88 = some (.invokevirtual 400, (13, 1, 1), .null, [3088, 3090]) := by decide +kernel
theorem hk_121_91 : ax_look 121 91 = some (.ifCond .eq 5, (0, 0, 0), .null, []) := by decide +kernel
theorem hk_121_94 : ax_look 121 94 = some (.iconst 1, (0, 0, 0), .null, []) := by decide +kernel
theorem hk_121_95 : ax_look 121 95 = some (.istore_n 1, (0, 0, 0), .null, []) := by decide +kernel
theorem hk_121_96 : ax_look 121 96 = some (.iinc 3 1, (0, 0, 0), .null, []) := by decide +kernel
theorem hk_121_99 : ax_look 121 99 = some (.goto (-39), (0, 0, 0), .null, []) := by decide +kernel
theorem hk_121_102 : ax_look 121 102 = some (.iinc 2 1, (0, 0, 0), .null, []) := by decide +kernel
theorem hk_121_105 : ax_look 121 105 = some (.goto (-59), (0, 0, 0), .null, []) := by decide +kernel
theorem hk_121_108 : ax_look 121 108 = some (.return_, (0, 0, 0), .null, []) := by decide +kernel
theorem hn_122 : (ax_mm 122).2.2.1 = 1 := by decide +kernel
theorem hr_122 : (ax_mm 122).2.2.2.1 = (some (.object "PseudoBoolean$ModelSet")) := by decide +kernel
theorem hk_122_0 : ax_look 122 0 = some (.aload_n 0, (0, 0, 0), .null, []) := by decide +kernel
theorem hk_122_1 : ax_look 122 1 = some (.getfield 90, (8, 14, 0), .null, [1237]) := by decide +kernel
theorem hk_122_4 : ax_look 122 4 = some (.aload_n 0, (0, 0, 0), .null, []) := by decide +kernel
theorem hk_122_5 : ax_look 122 5 = some (.getfield 101, (8, 17, 0), .null, [2000]) := by decide +kernel
theorem hk_122_8 : ax_look 122 8 = some (.aaload, (0, 0, 0), .null, []) := by decide +kernel
theorem hk_122_9 : ax_look 122 9 = some (.areturn, (0, 0, 0), .null, []) := by decide +kernel
theorem hn_123 : (ax_mm 123).2.2.1 = 1 := by decide +kernel
theorem hr_123 : (ax_mm 123).2.2.2.1 = (some .int) := by decide +kernel
theorem hk_123_0 : ax_look 123 0 = some (.aload_n 0, (0, 0, 0), .null, []) := by decide +kernel
theorem hk_123_1 : ax_look 123 1 = some (.getfield 67, (8, 9, 0), .null, [1232]) := by decide +kernel
theorem hk_123_4 : ax_look 123 4 = some (.iconst 0, (0, 0, 0), .null, []) := by decide +kernel
theorem hk_123_5 : ax_look 123 5 = some (.invokevirtual 404, (33, 1, 3), .null, [3144, 3146]) := by decide +kernel
theorem hk_123_8 : ax_look 123 8 = some (.ireturn, (0, 0, 0), .null, []) := by decide +kernel
theorem hn_124 : (ax_mm 124).2.2.1 = 1 := by decide +kernel
theorem hr_124 : (ax_mm 124).2.2.2.1 = (some .int) := by decide +kernel
theorem hk_124_0 : ax_look 124 0 = some (.aload_n 0, (0, 0, 0), .null, []) := by decide +kernel
theorem hk_124_1 : ax_look 124 1 = some (.getfield 67, (8, 9, 0), .null, [1232]) := by decide +kernel
theorem hk_124_4 : ax_look 124 4 = some (.iconst 1, (0, 0, 0), .null, []) := by decide +kernel
theorem hk_124_5 : ax_look 124 5 = some (.invokevirtual 404, (33, 1, 3), .null, [3144, 3146]) := by decide +kernel
theorem hk_124_8 : ax_look 124 8 = some (.ireturn, (0, 0, 0), .null, []) := by decide +kernel
theorem hn_125 : (ax_mm 125).2.2.1 = 3 := by decide +kernel
theorem hr_125 : (ax_mm 125).2.2.2.1 = (some .boolean) := by decide +kernel
theorem hk_125_0 : ax_look 125 0 = some (.aload_n 0, (0, 0, 0), .null, []) := by decide +kernel
theorem hk_125_1 : ax_look 125 1 = some (.invokevirtual 299, (122, 0, 8), .null, [2210, 14]) := by decide +kernel
theorem hk_125_4 : ax_look 125 4 = some (.iconst 0, (0, 0, 0), .null, []) := by decide +kernel
theorem hk_125_5 : ax_look 125 5 = some (.aload_n 0, (0, 0, 0), .null, []) := by decide +kernel
theorem hk_125_6 : ax_look 125 6 = some (.invokevirtual 303, (123, 0, 8), .null, [3140, 21]) := by decide +kernel
theorem hk_125_9 : ax_look 125 9 = some (.iload_n 1, (0, 0, 0), .null, []) := by decide +kernel
theorem hk_125_10 : ax_look 125 10 = some (.ior, (0, 0, 0), .null, []) := by decide +kernel
theorem hk_125_11 : ax_look 125 11 = some (.aload_n 0, (0, 0, 0), .null, []) := by decide +kernel
theorem hk_125_12 : ax_look 125 12 = some (.invokevirtual 306, (124, 0, 8), .null, [3148, 22]) := by decide +kernel
theorem hk_125_15 : ax_look 125 15 = some (.iload_n 2, (0, 0, 0), .null, []) := by decide +kernel
theorem hk_125_16 : ax_look 125 16 = some (.ior, (0, 0, 0), .null, []) := by decide +kernel
theorem hk_125_17 : ax_look 125 17 = some (.invokevirtual 309, (44, 3, 5), .null, [5018, 5020]) := by decide +kernel
theorem hk_125_20 : ax_look 125 20 = some (.ifCond .lt 7, (0, 0, 0), .null, []) := by decide +kernel
theorem hk_125_23 : ax_look 125 23 = some (.iconst 1, (0, 0, 0), .null, []) := by decide +kernel
theorem hk_125_24 : ax_look 125 24 = some (.goto 4, (0, 0, 0), .null, []) := by decide +kernel
theorem hk_125_27 : ax_look 125 27 = some (.iconst 0, (0, 0, 0), .null, []) := by decide +kernel
theorem hk_125_28 : ax_look 125 28 = some (.ireturn, (0, 0, 0), .null, []) := by decide +kernel
theorem hn_130 : (ax_mm 130).2.2.1 = 2 := by decide +kernel
theorem hr_130 : (ax_mm 130).2.2.2.1 = (some .int) := by decide +kernel
theorem hk_130_0 : ax_look 130 0 = some (.iload_n 0, (0, 0, 0), .null, []) := by decide +kernel
theorem hk_130_1 : ax_look 130 1 = some (.ldc 7, (0, 0, 0), .int (2147483647), [3179]) := by decide +kernel
theorem hk_130_3 : ax_look 130 3 = some (.iand, (0, 0, 0), .null, []) := by decide +kernel
theorem hk_130_4 : ax_look 130 4 = some (.iload_n 1, (0, 0, 0), .null, []) := by decide +kernel
theorem hk_130_5 : ax_look 130 5 = some (.irem, (0, 0, 0), .null, []) := by decide +kernel
theorem hk_130_6 : ax_look 130 6 = some (.ireturn, (0, 0, 0), .null, []) := by decide +kernel
theorem hn_131 : (ax_mm 131).2.2.1 = 2 := by decide +kernel
theorem hr_131 : (ax_mm 131).2.2.2.1 = (some .int) := by decide +kernel
theorem hk_131_0 : ax_look 131 0 = some (.iload_n 1, (0, 0, 0), .null, []) := by decide +kernel
theorem hk_131_1 : ax_look 131 1 = some (.aload_n 0, (0, 0, 0), .null, []) := by decide +kernel
theorem hk_131_2 : ax_look 131 2 = some (.arraylength, (0, 0, 0), .null, []) := by decide +kernel
theorem hk_131_3 : ax_look 131 3 = some (.if_icmp .ge 9, (0, 0, 0), .null, []) := by decide +kernel
theorem hk_131_6 : ax_look 131 6 = some (.aload_n 0, (0, 0, 0), .null, []) := by decide +kernel
theorem hk_131_7 : ax_look 131 7 = some (.iload_n 1, (0, 0, 0), .null, []) := by decide +kernel
theorem hk_131_8 : ax_look 131 8 = some (.iaload, (0, 0, 0), .null, []) := by decide +kernel
theorem hk_131_9 : ax_look 131 9 = some (.goto 9, (0, 0, 0), .null, []) := by decide +kernel
theorem hk_131_12 : ax_look 131 12 = some (.ldc 8, (0, 0, 0), .int (790386105), [3183]) := by decide +kernel
theorem hk_131_14 : ax_look 131 14 = some (.iload_n 1, (0, 0, 0), .null, []) := by decide +kernel
theorem hk_131_15 : ax_look 131 15 = some (.iconst 3, (0, 0, 0), .null, []) := by decide +kernel
theorem hk_131_16 : ax_look 131 16 = some (.iadd, (0, 0, 0), .null, []) := by decide +kernel
theorem hk_131_17 : ax_look 131 17 = some (.imul, (0, 0, 0), .null, []) := by decide +kernel
theorem hk_131_18 : ax_look 131 18 = some (.ireturn, (0, 0, 0), .null, []) := by decide +kernel
theorem hn_132 : (ax_mm 132).2.2.1 = 2 := by decide +kernel
theorem hr_132 : (ax_mm 132).2.2.2.1 = (some .int) := by decide +kernel
theorem hk_132_0 : ax_look 132 0 = some (.iload_n 1, (0, 0, 0), .null, []) := by decide +kernel
theorem hk_132_1 : ax_look 132 1 = some (.aload_n 0, (0, 0, 0), .null, []) := by decide +kernel
theorem hk_132_2 : ax_look 132 2 = some (.invokevirtual 9, (275, 0, 11), .null, [3187, 3189]) := by decide +kernel
theorem hk_132_5 : ax_look 132 5 = some (.if_icmp .ge 11, (0, 0, 0), .null, []) := by decide +kernel
theorem hk_132_8 : ax_look 132 8 = some (.aload_n 0, (0, 0, 0), .null, []) := by decide +kernel
theorem hk_132_9 : ax_look 132 9 = some (.iload_n 1, (0, 0, 0), .null, []) := by decide +kernel
theorem hk_132_10 : ax_look 132 10 = some (.invokevirtual 15, (149, 1, 11), .null, [3202, 3204]) := by decide +kernel
theorem hk_132_13 : ax_look 132 13 = some (.goto 4, (0, 0, 0), .null, []) := by decide +kernel
theorem hk_132_16 : ax_look 132 16 = some (.iconst 0, (0, 0, 0), .null, []) := by decide +kernel
theorem hk_132_17 : ax_look 132 17 = some (.ireturn, (0, 0, 0), .null, []) := by decide +kernel
theorem hn_133 : (ax_mm 133).2.2.1 = 2 := by decide +kernel
theorem hr_133 : (ax_mm 133).2.2.2.1 = (some .int) := by decide +kernel
theorem hk_133_0 : ax_look 133 0 = some (.aload_n 0, (0, 0, 0), .null, []) := by decide +kernel
theorem hk_133_1 : ax_look 133 1 = some (.iload_n 1, (0, 0, 0), .null, []) := by decide +kernel
theorem hk_133_2 : ax_look 133 2 = some (.invokestatic 19, (132, 2, 0), .null, [3199]) := by decide +kernel
theorem hk_133_5 : ax_look 133 5 = some (.bipush 24, (0, 0, 0), .null, []) := by decide +kernel
theorem hk_133_7 : ax_look 133 7 = some (.ishl, (0, 0, 0), .null, []) := by decide +kernel
theorem hk_133_8 : ax_look 133 8 = some (.aload_n 0, (0, 0, 0), .null, []) := by decide +kernel
theorem hk_133_9 : ax_look 133 9 = some (.iload_n 1, (0, 0, 0), .null, []) := by decide +kernel
theorem hk_133_10 : ax_look 133 10 = some (.iconst 1, (0, 0, 0), .null, []) := by decide +kernel
theorem hk_133_11 : ax_look 133 11 = some (.iadd, (0, 0, 0), .null, []) := by decide +kernel
theorem hk_133_12 : ax_look 133 12 = some (.invokestatic 19, (132, 2, 0), .null, [3199]) := by decide +kernel
theorem hk_133_15 : ax_look 133 15 = some (.bipush 16, (0, 0, 0), .null, []) := by decide +kernel
theorem hk_133_17 : ax_look 133 17 = some (.ishl, (0, 0, 0), .null, []) := by decide +kernel
theorem hk_133_18 : ax_look 133 18 = some (.ior, (0, 0, 0), .null, []) := by decide +kernel
theorem hk_133_19 : ax_look 133 19 = some (.aload_n 0, (0, 0, 0), .null, []) := by decide +kernel
theorem hk_133_20 : ax_look 133 20 = some (.iload_n 1, (0, 0, 0), .null, []) := by decide +kernel
theorem hk_133_21 : ax_look 133 21 = some (.iconst 2, (0, 0, 0), .null, []) := by decide +kernel
theorem hk_133_22 : ax_look 133 22 = some (.iadd, (0, 0, 0), .null, []) := by decide +kernel
theorem hk_133_23 : ax_look 133 23 = some (.invokestatic 19, (132, 2, 0), .null, [3199]) := by decide +kernel
theorem hk_133_26 : ax_look 133 26 = some (.bipush 8, (0, 0, 0), .null, []) := by decide +kernel
theorem hk_133_28 : ax_look 133 28 = some (.ishl, (0, 0, 0), .null, []) := by decide +kernel
theorem hk_133_29 : ax_look 133 29 = some (.ior, (0, 0, 0), .null, []) := by decide +kernel
theorem hk_133_30 : ax_look 133 30 = some (.aload_n 0, (0, 0, 0), .null, []) := by decide +kernel
theorem hk_133_31 : ax_look 133 31 = some (.iload_n 1, (0, 0, 0), .null, []) := by decide +kernel
theorem hk_133_32 : ax_look 133 32 = some (.iconst 3, (0, 0, 0), .null, []) := by decide +kernel
theorem hk_133_33 : ax_look 133 33 = some (.iadd, (0, 0, 0), .null, []) := by decide +kernel
theorem hk_133_34 : ax_look 133 34 = some (.invokestatic 19, (132, 2, 0), .null, [3199]) := by decide +kernel
theorem hk_133_37 : ax_look 133 37 = some (.ior, (0, 0, 0), .null, []) := by decide +kernel
theorem hk_133_38 : ax_look 133 38 = some (.ireturn, (0, 0, 0), .null, []) := by decide +kernel
theorem hn_134 : (ax_mm 134).2.2.1 = 4 := by decide +kernel
theorem hr_134 : (ax_mm 134).2.2.2.1 = none := by decide +kernel
theorem hk_134_0 : ax_look 134 0 = some (.iconst 0, (0, 0, 0), .null, []) := by decide +kernel
theorem hk_134_1 : ax_look 134 1 = some (.istore_n 3, (0, 0, 0), .null, []) := by decide +kernel
theorem hk_134_2 : ax_look 134 2 = some (.iload_n 3, (0, 0, 0), .null, []) := by decide +kernel
theorem hk_134_3 : ax_look 134 3 = some (.aload_n 1, (0, 0, 0), .null, []) := by decide +kernel
theorem hk_134_4 : ax_look 134 4 = some (.invokevirtual 9, (275, 0, 11), .null, [3187, 3189]) := by decide +kernel
theorem hk_134_7 : ax_look 134 7 = some (.if_icmp .ge 50, (0, 0, 0), .null, []) := by decide +kernel
theorem hk_134_10 : ax_look 134 10 = some (.aload_n 0, (0, 0, 0), .null, []) := by decide +kernel
theorem hk_134_11 : ax_look 134 11 = some (.aload_n 1, (0, 0, 0), .null, []) := by decide +kernel
theorem hk_134_12 : ax_look 134 12 = some (.iload_n 3, (0, 0, 0), .null, []) := by decide +kernel
theorem hk_134_13 : ax_look 134 13 = some (.invokestatic 25, (133, 2, 0), .null, [3196]) := by decide +kernel
theorem hk_134_16 : ax_look 134 16 = some (.aload_n 1, (0, 0, 0), .null, []) := by decide +kernel
theorem hk_134_17 : ax_look 134 17 = some (.iload_n 3, (0, 0, 0), .null, []) := by decide +kernel
theorem hk_134_18 : ax_look 134 18 = some (.iconst 4, (0, 0, 0), .null, []) := by decide +kernel
theorem hk_134_19 : ax_look 134 19 = some (.iadd, (0, 0, 0), .null, []) := by decide +kernel
theorem hk_134_20 : ax_look 134 20 = some (.invokestatic 25, (133, 2, 0), .null, [3196]) := by decide +kernel
theorem hk_134_23 : ax_look 134 23 = some (.aload_n 1, (0, 0, 0), .null, []) := by decide +kernel
theorem hk_134_24 : ax_look 134 24 = some (.iload_n 3, (0, 0, 0), .null, []) := by decide +kernel
theorem hk_134_25 : ax_look 134 25 = some (.bipush 8, (0, 0, 0), .null, []) := by decide +kernel
theorem hk_134_27 : ax_look 134 27 = some (.iadd, (0, 0, 0), .null, []) := by decide +kernel
theorem hk_134_28 : ax_look 134 28 = some (.invokestatic 25, (133, 2, 0), .null, [3196]) := by decide +kernel
theorem hk_134_31 : ax_look 134 31 = some (.aload_n 1, (0, 0, 0), .null, []) := by decide +kernel
theorem hk_134_32 : ax_look 134 32 = some (.iload_n 3, (0, 0, 0), .null, []) := by decide +kernel
theorem hk_134_33 : ax_look 134 33 = some (.bipush 12, (0, 0, 0), .null, []) := by decide +kernel
theorem hk_134_35 : ax_look 134 35 = some (.iadd, (0, 0, 0), .null, []) := by decide +kernel
theorem hk_134_36 : ax_look 134 36 = some (.invokestatic 25, (133, 2, 0), .null, [3196]) := by decide +kernel
theorem hk_134_39 : ax_look 134 39 = some (.aload_n 1, (0, 0, 0), .null, []) := by decide +kernel
theorem hk_134_40 : ax_look 134 40 = some (.iload_n 3, (0, 0, 0), .null, []) := by decide +kernel
theorem hk_134_41 : ax_look 134 41 = some (.bipush 16, (0, 0, 0), .null, []) := by decide +kernel
theorem hk_134_43 : ax_look 134 43 = some (.iadd, (0, 0, 0), .null, []) := by decide +kernel
theorem hk_134_44 : ax_look 134 44 = some (.invokestatic 25, (133, 2, 0), .null, [3196]) := by decide +kernel
theorem hk_134_47 : ax_look 134 47 = some (.invokevirtual 28, (70, 5, 8), .null, [4000, 4002]) := by decide +kernel
theorem hk_134_50 : ax_look 134 50 = some (.pop, (0, 0, 0), .null, []) := by decide +kernel
theorem hk_134_51 : ax_look 134 51 = some (.iinc 3 20, (0, 0, 0), .null, []) := by decide +kernel
theorem hk_134_54 : ax_look 134 54 = some (.goto (-52), (0, 0, 0), .null, []) := by decide +kernel
theorem hk_134_57 : ax_look 134 57 = some (.aload_n 0, (0, 0, 0), .null, []) := by decide +kernel
theorem hk_134_58 : ax_look 134 58 = some (.iload_n 2, (0, 0, 0), .null, []) := by decide +kernel
theorem hk_134_59 : ax_look 134 59 = some (.invokevirtual 34, (71, 1, 8), .null, [4009, 4011]) := by decide +kernel
theorem hk_134_62 : ax_look 134 62 = some (.pop, (0, 0, 0), .null, []) := by decide +kernel
theorem hk_134_63 : ax_look 134 63 = some (.return_, (0, 0, 0), .null, []) := by decide +kernel
theorem hn_135 : (ax_mm 135).2.2.1 = 2 := by decide +kernel
theorem hr_135 : (ax_mm 135).2.2.2.1 = (some .int) := by decide +kernel
theorem hk_135_0 : ax_look 135 0 = some (.iload_n 0, (0, 0, 0), .null, []) := by decide +kernel
theorem hk_135_1 : ax_look 135 1 = some (.iconst 3, (0, 0, 0), .null, []) := by decide +kernel
theorem hk_135_2 : ax_look 135 2 = some (.iload_n 1, (0, 0, 0), .null, []) := by decide +kernel
theorem hk_135_3 : ax_look 135 3 = some (.imul, (0, 0, 0), .null, []) := by decide +kernel
theorem hk_135_4 : ax_look 135 4 = some (.ishr, (0, 0, 0), .null, []) := by decide +kernel
theorem hk_135_5 : ax_look 135 5 = some (.bipush 7, (0, 0, 0), .null, []) := by decide +kernel
theorem hk_135_7 : ax_look 135 7 = some (.invokestatic 38, (130, 2, 0), .null, [3176]) := by decide +kernel
theorem hk_135_10 : ax_look 135 10 = some (.iconst 3, (0, 0, 0), .null, []) := by decide +kernel
theorem hk_135_11 : ax_look 135 11 = some (.isub, (0, 0, 0), .null, []) := by decide +kernel
theorem hk_135_12 : ax_look 135 12 = some (.ireturn, (0, 0, 0), .null, []) := by decide +kernel
theorem hn_136 : (ax_mm 136).2.2.1 = 2 := by decide +kernel
theorem hr_136 : (ax_mm 136).2.2.2.1 = (some .boolean) := by decide +kernel
theorem hk_136_0 : ax_look 136 0 = some (.iload_n 0, (0, 0, 0), .null, []) := by decide +kernel
theorem hk_136_1 : ax_look 136 1 = some (.bipush 20, (0, 0, 0), .null, []) := by decide +kernel
theorem hk_136_3 : ax_look 136 3 = some (.iload_n 1, (0, 0, 0), .null, []) := by decide +kernel
theorem hk_136_4 : ax_look 136 4 = some (.iadd, (0, 0, 0), .null, []) := by decide +kernel
theorem hk_136_5 : ax_look 136 5 = some (.ishr, (0, 0, 0), .null, []) := by decide +kernel
theorem hk_136_6 : ax_look 136 6 = some (.iconst 1, (0, 0, 0), .null, []) := by decide +kernel
theorem hk_136_7 : ax_look 136 7 = some (.iand, (0, 0, 0), .null, []) := by decide +kernel
theorem hk_136_8 : ax_look 136 8 = some (.iconst 1, (0, 0, 0), .null, []) := by decide +kernel
theorem hk_136_9 : ax_look 136 9 = some (.if_icmp .ne 7, (0, 0, 0), .null, []) := by decide +kernel
theorem hk_136_12 : ax_look 136 12 = some (.iconst 1, (0, 0, 0), .null, []) := by decide +kernel
theorem hk_136_13 : ax_look 136 13 = some (.goto 4, (0, 0, 0), .null, []) := by decide +kernel
theorem hk_136_16 : ax_look 136 16 = some (.iconst 0, (0, 0, 0), .null, []) := by decide +kernel
theorem hk_136_17 : ax_look 136 17 = some (.ireturn, (0, 0, 0), .null, []) := by decide +kernel
theorem hn_137 : (ax_mm 137).2.2.1 = 6 := by decide +kernel
theorem hr_137 : (ax_mm 137).2.2.2.1 = (some (.object "java/lang/String")) := by decide +kernel
theorem hk_137_0 : ax_look 137 0 = some (.ldc 42, (900, 0, 0), .null, []) := by decide +kernel
theorem hk_137_2 : ax_look 137 2 = some (.astore_n 3, (0, 0, 0), .null, []) := by decide +kernel
theorem hk_137_3 : ax_look 137 3 = some (.iconst 0, (0, 0, 0), .null, []) := by decide +kernel
theorem hk_137_4 : ax_look 137 4 = some (.istore 4, (0, 0, 0), .null, []) := by decide +kernel
theorem hk_137_6 : ax_look 137 6 = some (.iload 4, (0, 0, 0), .null, []) := by decide +kernel
theorem hk_137_8 : ax_look 137 8 = some (.bipush 6, (0, 0, 0), .null, []) := by decide +kernel
theorem hk_137_10 : ax_look 137 10 = some (.if_icmp .ge 154, (0, 0, 0), .null, []) := by decide +kernel
theorem hk_137_13 : ax_look 137 13 = some (.iload_n 0, (0, 0, 0), .null, []) := by decide +kernel
theorem hk_137_14 : ax_look 137 14 = some (.iload 4, (0, 0, 0), .null, []) := by decide +kernel
theorem hk_137_16 : ax_look 137 16 = some (.invokestatic 44, (135, 2, 0), .null, [4018]) := by decide +kernel
theorem hk_137_19 : ax_look 137 19 = some (.istore 5, (0, 0, 0), .null, []) := by decide +kernel
theorem hk_137_21 : ax_look 137 21 = some (.new 47, (10, 0, 0), .null, [4021, 1090, 1005]) := by decide +kernel
theorem hk_137_24 : ax_look 137 24 = some (.dup, (0, 0, 0), .null, []) := by decide +kernel
theorem hk_137_25 : ax_look 137 25 = some (.invokespecial 49, (256, 0, 0), .null, [4022]) := by decide +kernel
theorem hk_137_28 : ax_look 137 28 = some (.aload_n 3, (0, 0, 0), .null, []) := by decide +kernel
theorem hk_137_29 : ax_look 137 29 = some (.invokevirtual 50, (262, 1, 10), .null, [4023, 4025]) := by decide +kernel
theorem hk_137_32 : ax_look 137 32 = some (.iload 5, (0, 0, 0), .null, []) := by decide +kernel
theorem hk_137_34 : ax_look 137 34 = some (.ifCond .ge 8, (0, 0, 0), .null, []) := by decide +kernel
theorem hk_137_37 : ax_look 137 37 = some (.ldc 54, (900, 0, 0), .null, []) := by decide +kernel
theorem hk_137_39 : ax_look 137 39 = some (.goto 15, (0, 0, 0), .null, []) := by decide +kernel
theorem hk_137_42 : ax_look 137 42 = some (.iload 4, (0, 0, 0), .null, []) := by decide +kernel
theorem hk_137_44 : ax_look 137 44 = some (.ifCond .le 8, (0, 0, 0), .null, []) := by decide +kernel
theorem hk_137_47 : ax_look 137 47 = some (.ldc 56, (900, 0, 0), .null, []) := by decide +kernel
theorem hk_137_49 : ax_look 137 49 = some (.goto 5, (0, 0, 0), .null, []) := by decide +kernel
theorem hk_137_52 : ax_look 137 52 = some (.ldc 42, (900, 0, 0), .null, []) := by decide +kernel
theorem hk_137_54 : ax_look 137 54 = some (.invokevirtual 50, (262, 1, 10), .null, [4023, 4025]) := by decide +kernel
theorem hk_137_57 : ax_look 137 57 = some (.iload 5, (0, 0, 0), .null, []) := by decide +kernel
theorem hk_137_59 : ax_look 137 59 = some (.iconst 1, (0, 0, 0), .null, []) := by decide +kernel
theorem hk_137_60 : ax_look 137 60 = some (.if_icmp .eq 9, (0, 0, 0), .null, []) := by decide +kernel
theorem hk_137_63 : ax_look 137 63 = some (.iload 5, (0, 0, 0), .null, []) := by decide +kernel
theorem hk_137_65 : ax_look 137 65 = some (.iconst (-1), (0, 0, 0), .null, []) := by decide +kernel
theorem hk_137_66 : ax_look 137 66 = some (.if_icmp .ne 8, (0, 0, 0), .null, []) := by decide +kernel
theorem hk_137_69 : ax_look 137 69 = some (.ldc 42, (900, 0, 0), .null, []) := by decide +kernel
theorem hk_137_71 : ax_look 137 71 = some (.goto 52, (0, 0, 0), .null, []) := by decide +kernel
theorem hk_137_74 : ax_look 137 74 = some (.iload 5, (0, 0, 0), .null, []) := by decide +kernel
theorem hk_137_76 : ax_look 137 76 = some (.ifCond .ge 27, (0, 0, 0), .null, []) := by decide +kernel
theorem hk_137_79 : ax_look 137 79 = some (.new 47, (10, 0, 0), .null, [4021, 1090, 1005]) := by decide +kernel
theorem hk_137_82 : ax_look 137 82 = some (.dup, (0, 0, 0), .null, []) := by decide +kernel
theorem hk_137_83 : ax_look 137 83 = some (.invokespecial 49, (256, 0, 0), .null, [4022]) := by decide +kernel
theorem hk_137_86 : ax_look 137 86 = some (.ldc 42, (900, 0, 0), .null, []) := by decide +kernel
theorem hk_137_88 : ax_look 137 88 = some (.invokevirtual 50, (262, 1, 10), .null, [4023, 4025]) := by decide +kernel
theorem hk_137_91 : ax_look 137 91 = some (.iload 5, (0, 0, 0), .null, []) := by decide +kernel
theorem hk_137_93 : ax_look 137 93 = some (.ineg, (0, 0, 0), .null, []) := by decide +kernel
theorem hk_137_94 : ax_look 137 94 = some (.invokevirtual 58, (261, 1, 10), .null, [4126, 4128]) := by decide +kernel
theorem hk_137_97 : ax_look 137 97 = some (.invokevirtual 61, (154, 0, 10), .null, [4151, 4153]) := by decide +kernel
theorem hk_137_100 : ax_look 137 100 = some (.goto 23, (0, 0, 0), .null, []) := by decide +kernel
theorem hk_137_103 : ax_look 137 103 = some (.new 47, (10, 0, 0), .null, [4021, 1090, 1005]) := by decide +kernel
theorem hk_137_106 : ax_look 137 106 = some (.dup, (0, 0, 0), .null, []) := by decide +kernel
theorem hk_137_107 : ax_look 137 107 = some (.invokespecial 49, (256, 0, 0), .null, [4022]) := by decide +kernel
theorem hk_137_110 : ax_look 137 110 = some (.ldc 42, (900, 0, 0), .null, []) := by decide +kernel
theorem hk_137_112 : ax_look 137 112 = some (.invokevirtual 50, (262, 1, 10), .null, [4023, 4025]) := by decide +kernel
theorem hk_137_115 : ax_look 137 115 = some (.iload 5, (0, 0, 0), .null, []) := by decide +kernel
theorem hk_137_117 : ax_look 137 117 = some (.invokevirtual 58, (261, 1, 10), .null, [4126, 4128]) := by decide +kernel
theorem hk_137_120 : ax_look 137 120 = some (.invokevirtual 61, (154, 0, 10), .null, [4151, 4153]) := by decide +kernel
theorem hk_137_123 : ax_look 137 123 = some (.invokevirtual 50, (262, 1, 10), .null, [4023, 4025]) := by decide +kernel
theorem hk_137_126 : ax_look 137 126 = some (.iload_n 0, (0, 0, 0), .null, []) := by decide +kernel
theorem hk_137_127 : ax_look 137 127 = some (.iload 4, (0, 0, 0), .null, []) := by decide +kernel
theorem hk_137_129 : ax_look 137 129 = some (.invokestatic 65, (136, 2, 0), .null, [4208]) := by decide +kernel
theorem hk_137_132 : ax_look 137 132 = some (.ifCond .eq 8, (0, 0, 0), .null, []) := by decide +kernel
theorem hk_137_135 : ax_look 137 135 = some (.ldc 69, (900, 0, 0), .null, []) := by decide +kernel
theorem hk_137_137 : ax_look 137 137 = some (.goto 5, (0, 0, 0), .null, []) := by decide +kernel
theorem hk_137_140 : ax_look 137 140 = some (.ldc 42, (900, 0, 0), .null, []) := by decide +kernel
theorem hk_137_142 : ax_look 137 142 = some (.invokevirtual 50, (262, 1, 10), .null, [4023, 4025]) := by decide +kernel
theorem hk_137_145 : ax_look 137 145 = some (.bipush 97, (0, 0, 0), .null, []) := by decide +kernel
theorem hk_137_147 : ax_look 137 147 = some (.iload 4, (0, 0, 0), .null, []) := by decide +kernel
theorem hk_137_149 : ax_look 137 149 = some (.iadd, (0, 0, 0), .null, []) := by decide +kernel
theorem hk_137_150 : ax_look 137 150 = some (.i2c, (0, 0, 0), .null, []) := by decide +kernel
theorem hk_137_151 : ax_look 137 151 = some (.invokevirtual 71, (260, 1, 10), .null, [4212, 4214]) := by decide +kernel
theorem hk_137_154 : ax_look 137 154 = some (.invokevirtual 61, (154, 0, 10), .null, [4151, 4153]) := by decide +kernel
theorem hk_137_157 : ax_look 137 157 = some (.astore_n 3, (0, 0, 0), .null, []) := by decide +kernel
theorem hk_137_158 : ax_look 137 158 = some (.iinc 4 1, (0, 0, 0), .null, []) := by decide +kernel
theorem hk_137_161 : ax_look 137 161 = some (.goto (-155), (0, 0, 0), .null, []) := by decide +kernel
theorem hk_137_164 : ax_look 137 164 = some (.new 47, (10, 0, 0), .null, [4021, 1090, 1005]) := by decide +kernel
theorem hk_137_167 : ax_look 137 167 = some (.dup, (0, 0, 0), .null, []) := by decide +kernel
theorem hk_137_168 : ax_look 137 168 = some (.invokespecial 49, (256, 0, 0), .null, [4022]) := by decide +kernel
theorem hk_137_171 : ax_look 137 171 = some (.aload_n 3, (0, 0, 0), .null, []) := by decide +kernel
theorem hk_137_172 : ax_look 137 172 = some (.invokevirtual 50, (262, 1, 10), .null, [4023, 4025]) := by decide +kernel
theorem hk_137_175 : ax_look 137 175 = some (.iload_n 1, (0, 0, 0), .null, []) := by decide +kernel
theorem hk_137_176 : ax_look 137 176 = some (.ifCond .ne 8, (0, 0, 0), .null, []) := by decide +kernel
theorem hk_137_179 : ax_look 137 179 = some (.ldc 74, (900, 0, 0), .null, []) := by decide +kernel
theorem hk_137_181 : ax_look 137 181 = some (.goto 15, (0, 0, 0), .null, []) := by decide +kernel
theorem hk_137_184 : ax_look 137 184 = some (.iload_n 1, (0, 0, 0), .null, []) := by decide +kernel
theorem hk_137_185 : ax_look 137 185 = some (.iconst 1, (0, 0, 0), .null, []) := by decide +kernel
theorem hk_137_186 : ax_look 137 186 = some (.if_icmp .ne 8, (0, 0, 0), .null, []) := by decide +kernel
theorem hk_137_189 : ax_look 137 189 = some (.ldc 76, (900, 0, 0), .null, []) := by decide +kernel
theorem hk_137_191 : ax_look 137 191 = some (.goto 5, (0, 0, 0), .null, []) := by decide +kernel
theorem hk_137_194 : ax_look 137 194 = some (.ldc 78, (900, 0, 0), .null, []) := by decide +kernel
theorem hk_137_196 : ax_look 137 196 = some (.invokevirtual 50, (262, 1, 10), .null, [4023, 4025]) := by decide +kernel
theorem hk_137_199 : ax_look 137 199 = some (.iload_n 2, (0, 0, 0), .null, []) := by decide +kernel
theorem hk_137_200 : ax_look 137 200 = some (.invokevirtual 58, (261, 1, 10), .null, [4126, 4128]) := by decide +kernel
theorem hk_137_203 : ax_look 137 203 = some (.invokevirtual 61, (154, 0, 10), .null, [4151, 4153]) := by decide +kernel
theorem hk_137_206 : ax_look 137 206 = some (.areturn, (0, 0, 0), .null, []) := by decide +kernel
theorem hn_138 : (ax_mm 138).2.2.1 = 6 := by decide +kernel
theorem hr_138 : (ax_mm 138).2.2.2.1 = (some .boolean) := by decide +kernel
theorem hk_138_0 : ax_look 138 0 = some (.iconst 0, (0, 0, 0), .null, []) := by decide +kernel
theorem hk_138_1 : ax_look 138 1 = some (.istore 4, (0, 0, 0), .null, []) := by decide +kernel
theorem hk_138_3 : ax_look 138 3 = some (.iconst 0, (0, 0, 0), .null, []) := by decide +kernel
theorem hk_138_4 : ax_look 138 4 = some (.istore 5, (0, 0, 0), .null, []) := by decide +kernel
theorem hk_138_6 : ax_look 138 6 = some (.iload 5, (0, 0, 0), .null, []) := by decide +kernel
theorem hk_138_8 : ax_look 138 8 = some (.bipush 6, (0, 0, 0), .null, []) := by decide +kernel
theorem hk_138_10 : ax_look 138 10 = some (.if_icmp .ge 56, (0, 0, 0), .null, []) := by decide +kernel
theorem hk_138_13 : ax_look 138 13 = some (.iload 4, (0, 0, 0), .null, []) := by decide +kernel
theorem hk_138_15 : ax_look 138 15 = some (.iload_n 3, (0, 0, 0), .null, []) := by decide +kernel
theorem hk_138_16 : ax_look 138 16 = some (.iload 5, (0, 0, 0), .null, []) := by decide +kernel
theorem hk_138_18 : ax_look 138 18 = some (.ishr, (0, 0, 0), .null, []) := by decide +kernel
theorem hk_138_19 : ax_look 138 19 = some (.iconst 1, (0, 0, 0), .null, []) := by decide +kernel
theorem hk_138_20 : ax_look 138 20 = some (.iand, (0, 0, 0), .null, []) := by decide +kernel
theorem hk_138_21 : ax_look 138 21 = some (.iconst 1, (0, 0, 0), .null, []) := by decide +kernel
theorem hk_138_22 : ax_look 138 22 = some (.if_icmp .ne 7, (0, 0, 0), .null, []) := by decide +kernel
theorem hk_138_25 : ax_look 138 25 = some (.iconst 1, (0, 0, 0), .null, []) := by decide +kernel
theorem hk_138_26 : ax_look 138 26 = some (.goto 4, (0, 0, 0), .null, []) := by decide +kernel
theorem hk_138_29 : ax_look 138 29 = some (.iconst 0, (0, 0, 0), .null, []) := by decide +kernel
theorem hk_138_30 : ax_look 138 30 = some (.iload_n 0, (0, 0, 0), .null, []) := by decide +kernel
theorem hk_138_31 : ax_look 138 31 = some (.iload 5, (0, 0, 0), .null, []) := by decide +kernel
theorem hk_138_33 : ax_look 138 33 = some (.invokestatic 65, (136, 2, 0), .null, [4208]) := by decide +kernel
theorem hk_138_36 : ax_look 138 36 = some (.ifCond .ne 7, (0, 0, 0), .null, []) := by decide +kernel
theorem hk_138_39 : ax_look 138 39 = some (.iconst 1, (0, 0, 0), .null, []) := by decide +kernel
theorem hk_138_40 : ax_look 138 40 = some (.goto 4, (0, 0, 0), .null, []) := by decide +kernel
theorem hk_138_43 : ax_look 138 43 = some (.iconst 0, (0, 0, 0), .null, []) := by decide +kernel
theorem hk_138_44 : ax_look 138 44 = some (.if_icmp .ne 12, (0, 0, 0), .null, []) := by decide +kernel
theorem hk_138_47 : ax_look 138 47 = some (.iload_n 0, (0, 0, 0), .null, []) := by decide +kernel
theorem hk_138_48 : ax_look 138 48 = some (.iload 5, (0, 0, 0), .null, []) := by decide +kernel
theorem hk_138_50 : ax_look 138 50 = some (.invokestatic 44, (135, 2, 0), .null, [4018]) := by decide +kernel
theorem hk_138_53 : ax_look 138 53 = some (.goto 4, (0, 0, 0), .null, []) := by decide +kernel
theorem hk_138_56 : ax_look 138 56 = some (.iconst 0, (0, 0, 0), .null, []) := by decide +kernel
theorem hk_138_57 : ax_look 138 57 = some (.iadd, (0, 0, 0), .null, []) := by decide +kernel
theorem hk_138_58 : ax_look 138 58 = some (.istore 4, (0, 0, 0), .null, []) := by decide +kernel
theorem hk_138_60 : ax_look 138 60 = some (.iinc 5 1, (0, 0, 0), .null, []) := by decide +kernel
theorem hk_138_63 : ax_look 138 63 = some (.goto (-57), (0, 0, 0), .null, []) := by decide +kernel
theorem hk_138_66 : ax_look 138 66 = some (.iload_n 1, (0, 0, 0), .null, []) := by decide +kernel
theorem hk_138_67 : ax_look 138 67 = some (.ifCond .ne 17, (0, 0, 0), .null, []) := by decide +kernel
theorem hk_138_70 : ax_look 138 70 = some (.iload 4, (0, 0, 0), .null, []) := by decide +kernel
theorem hk_138_72 : ax_look 138 72 = some (.iload_n 2, (0, 0, 0), .null, []) := by decide +kernel
theorem hk_138_73 : ax_look 138 73 = some (.if_icmp .lt 7, (0, 0, 0), .null, []) := by decide +kernel
theorem hk_138_76 : ax_look 138 76 = some (.iconst 1, (0, 0, 0), .null, []) := by decide +kernel
theorem hk_138_77 : ax_look 138 77 = some (.goto 37, (0, 0, 0), .null, []) := by decide +kernel
theorem hk_138_80 : ax_look 138 80 = some (.iconst 0, (0, 0, 0), .null, []) := by decide +kernel
theorem hk_138_81 : ax_look 138 81 = some (.goto 33, (0, 0, 0), .null, []) := by decide +kernel
theorem hk_138_84 : ax_look 138 84 = some (.iload_n 1, (0, 0, 0), .null, []) := by decide +kernel
theorem hk_138_85 : ax_look 138 85 = some (.iconst 1, (0, 0, 0), .null, []) := by decide +kernel
theorem hk_138_86 : ax_look 138 86 = some (.if_icmp .ne 17, (0, 0, 0), .null, []) := by decide +kernel
theorem hk_138_89 : ax_look 138 89 = some (.iload 4, (0, 0, 0), .null, []) := by decide +kernel
theorem hk_138_91 : ax_look 138 91 = some (.iload_n 2, (0, 0, 0), .null, []) := by decide +kernel
theorem hk_138_92 : ax_look 138 92 = some (.if_icmp .gt 7, (0, 0, 0), .null, []) := by decide +kernel
theorem hk_138_95 : ax_look 138 95 = some (.iconst 1, (0, 0, 0), .null, []) := by decide +kernel
theorem hk_138_96 : ax_look 138 96 = some (.goto 18, (0, 0, 0), .null, []) := by decide +kernel
theorem hk_138_99 : ax_look 138 99 = some (.iconst 0, (0, 0, 0), .null, []) := by decide +kernel
theorem hk_138_100 : ax_look 138 100 = some (.goto 14, (0, 0, 0), .null, []) := by decide +kernel
theorem hk_138_103 : ax_look 138 103 = some (.iload 4, (0, 0, 0), .null, []) := by decide +kernel
theorem hk_138_105 : ax_look 138 105 = some (.iload_n 2, (0, 0, 0), .null, []) := by decide +kernel
theorem hk_138_106 : ax_look 138 106 = some (.if_icmp .ne 7, (0, 0, 0), .null, []) := by decide +kernel
theorem hk_138_109 : ax_look 138 109 = some (.iconst 1, (0, 0, 0), .null, []) := by decide +kernel
theorem hk_138_110 : ax_look 138 110 = some (.goto 4, (0, 0, 0), .null, []) := by decide +kernel
theorem hk_138_113 : ax_look 138 113 = some (.iconst 0, (0, 0, 0), .null, []) := by decide +kernel
theorem hk_138_114 : ax_look 138 114 = some (.ireturn, (0, 0, 0), .null, []) := by decide +kernel
theorem hn_139 : (ax_mm 139).2.2.1 = 5 := by decide +kernel
theorem hr_139 : (ax_mm 139).2.2.2.1 = (some .int) := by decide +kernel
theorem hk_139_0 : ax_look 139 0 = some (.iload_n 1, (0, 0, 0), .null, []) := by decide +kernel
theorem hk_139_1 : ax_look 139 1 = some (.iload_n 2, (0, 0, 0), .null, []) := by decide +kernel
theorem hk_139_2 : ax_look 139 2 = some (.iload_n 3, (0, 0, 0), .null, []) := by decide +kernel
theorem hk_139_3 : ax_look 139 3 = some (.invokestatic 80, (137, 3, 0), .null, [4014]) := by decide +kernel
theorem hk_139_6 : ax_look 139 6 = some (.astore 4, (0, 0, 0), .null, []) := by decide +kernel
theorem hk_139_8 : ax_look 139 8 = some (.aload_n 0, (0, 0, 0), .null, []) := by decide +kernel
theorem hk_139_9 : ax_look 139 9 = some (.aload 4, (0, 0, 0), .null, []) := by decide +kernel
theorem hk_139_11 : ax_look 139 11 = some (.aload 4, (0, 0, 0), .null, []) := by decide +kernel
theorem hk_139_13 : ax_look 139 13 = some (.invokevirtual 9, (275, 0, 11), .null, [3187, 3189]) := by decide +kernel
theorem hk_139_16 : ax_look 139 16 = some (.invokestatic 84, (134, 3, 0), .null, [3184]) := by decide +kernel
theorem hk_139_19 : ax_look 139 19 = some (.aload_n 0, (0, 0, 0), .null, []) := by decide +kernel
theorem hk_139_20 : ax_look 139 20 = some (.invokevirtual 88, (72, 0, 8), .null, [4234, 4236]) := by decide +kernel
theorem hk_139_23 : ax_look 139 23 = some (.ireturn, (0, 0, 0), .null, []) := by decide +kernel
theorem hn_140 : (ax_mm 140).2.2.1 = 4 := by decide +kernel
theorem hr_140 : (ax_mm 140).2.2.2.1 = (some .int) := by decide +kernel
theorem hk_140_0 : ax_look 140 0 = some (.aload_n 0, (0, 0, 0), .null, []) := by decide +kernel
theorem hk_140_1 : ax_look 140 1 = some (.iload_n 1, (0, 0, 0), .null, []) := by decide +kernel
theorem hk_140_2 : ax_look 140 2 = some (.iload_n 2, (0, 0, 0), .null, []) := by decide +kernel
theorem hk_140_3 : ax_look 140 3 = some (.invokevirtual 91, (106, 2, 8), .null, [5006, 5008]) := by decide +kernel
theorem hk_140_6 : ax_look 140 6 = some (.ireturn, (0, 0, 0), .null, []) := by decide +kernel
theorem hk_140_7 : ax_look 140 7 = some (.astore_n 3, (0, 0, 0), .null, []) := by decide +kernel
theorem hk_140_8 : ax_look 140 8 = some (.iconst (-1), (0, 0, 0), .null, []) := by decide +kernel
theorem hk_140_9 : ax_look 140 9 = some (.ireturn, (0, 0, 0), .null, []) := by decide +kernel
theorem hn_141 : (ax_mm 141).2.2.1 = 2 := by decide +kernel
theorem hr_141 : (ax_mm 141).2.2.2.1 = none := by decide +kernel
theorem hk_141_0 : ax_look 141 0 = some (.aload_n 0, (0, 0, 0), .null, []) := by decide +kernel
theorem hk_141_1 : ax_look 141 1 = some (.invokevirtual 83, (900, 0, 99), .null, []) := by decide +kernel
theorem hk_141_4 : ax_look 141 4 = some (.ifCond .ne 4, (0, 0, 0), .null, []) := by decide +kernel
theorem hk_141_7 : ax_look 141 7 = some (.return_, (0, 0, 0), .null, []) := by decide +kernel
theorem hk_141_8 : ax_look 141 8 = some (.aload_n 0, (0, 0, 0), .null, []) := by decide +kernel
theorem hk_141_9 : ax_look 141 9 = some (.getfield 15, (10, 0, 0), .null, [1107]) := by decide +kernel
theorem hk_141_12 : ax_look 141 12 = some (.arraylength, (0, 0, 0), .null, []) := by decide +kernel
theorem hk_141_13 : ax_look 141 13 = some (.invokestatic 26, (157, 1, 0), .null, [1100]) := by decide +kernel
theorem hk_141_16 : ax_look 141 16 = some (.astore_n 1, (0, 0, 0), .null, []) := by decide +kernel
theorem hk_141_17 : ax_look 141 17 = some (.aload_n 0, (0, 0, 0), .null, []) := by decide +kernel
theorem hk_141_18 : ax_look 141 18 = some (.getfield 15, (10, 0, 0), .null, [1107]) := by decide +kernel
theorem hk_141_21 : ax_look 141 21 = some (.iconst 0, (0, 0, 0), .null, []) := by decide +kernel
theorem hk_141_22 : ax_look 141 22 = some (.aload_n 1, (0, 0, 0), .null, []) := by decide +kernel
theorem hk_141_23 : ax_look 141 23 = some (.iconst 0, (0, 0, 0), .null, []) := by decide +kernel
theorem hk_141_24 : ax_look 141 24 = some (.aload_n 0, (0, 0, 0), .null, []) := by decide +kernel
theorem hk_141_25 : ax_look 141 25 = some (.getfield 79, (10, 3, 0), .null, [1110]) := by decide +kernel
theorem hk_141_28 : ax_look 141 28 = some (.invokestatic 125, (156, 5, 0), .null, [4103]) := by decide +kernel
theorem hk_141_31 : ax_look 141 31 = some (.aload_n 0, (0, 0, 0), .null, []) := by decide +kernel
theorem hk_141_32 : ax_look 141 32 = some (.aload_n 1, (0, 0, 0), .null, []) := by decide +kernel
theorem hk_141_33 : ax_look 141 33 = some (.putfield 15, (10, 0, 0), .null, [1107]) := by decide +kernel
theorem hk_141_36 : ax_look 141 36 = some (.aload_n 0, (0, 0, 0), .null, []) := by decide +kernel
theorem hk_141_37 : ax_look 141 37 = some (.iconst 1, (0, 0, 0), .null, []) := by decide +kernel
theorem hk_141_38 : ax_look 141 38 = some (.putfield 22, (10, 1, 0), .null, [1108]) := by decide +kernel
theorem hk_141_41 : ax_look 141 41 = some (.return_, (0, 0, 0), .null, []) := by decide +kernel
theorem hn_142 : (ax_mm 142).2.2.1 = 3 := by decide +kernel
theorem hr_142 : (ax_mm 142).2.2.2.1 = (some (.object "java/lang/AbstractStringBuilder")) := by decide +kernel
theorem hk_142_0 : ax_look 142 0 = some (.aload_n 0, (0, 0, 0), .null, []) := by decide +kernel
theorem hk_142_1 : ax_look 142 1 = some (.aload_n 0, (0, 0, 0), .null, []) := by decide +kernel
theorem hk_142_2 : ax_look 142 2 = some (.getfield 79, (10, 3, 0), .null, [1110]) := by decide +kernel
theorem hk_142_5 : ax_look 142 5 = some (.iconst 4, (0, 0, 0), .null, []) := by decide +kernel
theorem hk_142_6 : ax_look 142 6 = some (.iadd, (0, 0, 0), .null, []) := by decide +kernel
theorem hk_142_7 : ax_look 142 7 = some (.invokevirtual 100, (900, 1, 99), .null, []) := by decide +kernel
theorem hk_142_10 : ax_look 142 10 = some (.aload_n 0, (0, 0, 0), .null, []) := by decide +kernel
theorem hk_142_11 : ax_look 142 11 = some (.getfield 79, (10, 3, 0), .null, [1110]) := by decide +kernel
theorem hk_142_14 : ax_look 142 14 = some (.istore_n 1, (0, 0, 0), .null, []) := by decide +kernel
theorem hk_142_15 : ax_look 142 15 = some (.aload_n 0, (0, 0, 0), .null, []) := by decide +kernel
theorem hk_142_16 : ax_look 142 16 = some (.getfield 15, (10, 0, 0), .null, [1107]) := by decide +kernel
theorem hk_142_19 : ax_look 142 19 = some (.astore_n 2, (0, 0, 0), .null, []) := by decide +kernel
theorem hk_142_20 : ax_look 142 20 = some (.aload_n 0, (0, 0, 0), .null, []) := by decide +kernel
theorem hk_142_21 : ax_look 142 21 = some (.invokevirtual 83, (900, 0, 99), .null, []) := by decide +kernel
theorem hk_142_24 : ax_look 142 24 = some (.ifCond .eq 38, (0, 0, 0), .null, []) := by decide +kernel
theorem hk_142_27 : ax_look 142 27 = some (.aload_n 2, (0, 0, 0), .null, []) := by decide +kernel
theorem hk_142_28 : ax_look 142 28 = some (.iload_n 1, (0, 0, 0), .null, []) := by decide +kernel
theorem hk_142_29 : ax_look 142 29 = some (.iinc 1 1, (0, 0, 0), .null, []) := by decide +kernel
theorem hk_142_32 : ax_look 142 32 = some (.bipush 110, (0, 0, 0), .null, []) := by decide +kernel
theorem hk_142_34 : ax_look 142 34 = some (.bastore, (0, 0, 0), .null, []) := by decide +kernel
theorem hk_142_35 : ax_look 142 35 = some (.aload_n 2, (0, 0, 0), .null, []) := by decide +kernel
theorem hk_142_36 : ax_look 142 36 = some (.iload_n 1, (0, 0, 0), .null, []) := by decide +kernel
theorem hk_142_37 : ax_look 142 37 = some (.iinc 1 1, (0, 0, 0), .null, []) := by decide +kernel
theorem hk_142_40 : ax_look 142 40 = some (.bipush 117, (0, 0, 0), .null, []) := by decide +kernel
theorem hk_142_42 : ax_look 142 42 = some (.bastore, (0, 0, 0), .null, []) := by decide +kernel
theorem hk_142_43 : ax_look 142 43 = some (.aload_n 2, (0, 0, 0), .null, []) := by decide +kernel
theorem hk_142_44 : ax_look 142 44 = some (.iload_n 1, (0, 0, 0), .null, []) := by decide +kernel
theorem hk_142_45 : ax_look 142 45 = some (.iinc 1 1, (0, 0, 0), .null, []) := by decide +kernel
theorem hk_142_48 : ax_look 142 48 = some (.bipush 108, (0, 0, 0), .null, []) := by decide +kernel
theorem hk_142_50 : ax_look 142 50 = some (.bastore, (0, 0, 0), .null, []) := by decide +kernel
theorem hk_142_51 : ax_look 142 51 = some (.aload_n 2, (0, 0, 0), .null, []) := by decide +kernel
theorem hk_142_52 : ax_look 142 52 = some (.iload_n 1, (0, 0, 0), .null, []) := by decide +kernel
theorem hk_142_53 : ax_look 142 53 = some (.iinc 1 1, (0, 0, 0), .null, []) := by decide +kernel
theorem hk_142_56 : ax_look 142 56 = some (.bipush 108, (0, 0, 0), .null, []) := by decide +kernel
theorem hk_142_58 : ax_look 142 58 = some (.bastore, (0, 0, 0), .null, []) := by decide +kernel
theorem hk_142_59 : ax_look 142 59 = some (.goto 17, (0, 0, 0), .null, []) := by decide +kernel
theorem hk_142_62 : ax_look 142 62 = some (.aload_n 2, (0, 0, 0), .null, []) := by decide +kernel
theorem hk_142_63 : ax_look 142 63 = some (.iload_n 1, (0, 0, 0), .null, []) := by decide +kernel
theorem hk_142_64 : ax_look 142 64 = some (.bipush 110, (0, 0, 0), .null, []) := by decide +kernel
theorem hk_142_66 : ax_look 142 66 = some (.bipush 117, (0, 0, 0), .null, []) := by decide +kernel
theorem hk_142_68 : ax_look 142 68 = some (.bipush 108, (0, 0, 0), .null, []) := by decide +kernel
theorem hk_142_70 : ax_look 142 70 = some (.bipush 108, (0, 0, 0), .null, []) := by decide +kernel
theorem hk_142_72 : ax_look 142 72 = some (.invokestatic 226, (167, 6, 0), .null, [4074]) := by decide +kernel
theorem hk_142_75 : ax_look 142 75 = some (.istore_n 1, (0, 0, 0), .null, []) := by decide +kernel
theorem hk_142_76 : ax_look 142 76 = some (.aload_n 0, (0, 0, 0), .null, []) := by decide +kernel
theorem hk_142_77 : ax_look 142 77 = some (.iload_n 1, (0, 0, 0), .null, []) := by decide +kernel
theorem hk_142_78 : ax_look 142 78 = some (.putfield 79, (10, 3, 0), .null, [1110]) := by decide +kernel
theorem hk_142_81 : ax_look 142 81 = some (.aload_n 0, (0, 0, 0), .null, []) := by decide +kernel
theorem hk_142_82 : ax_look 142 82 = some (.areturn, (0, 0, 0), .null, []) := by decide +kernel
theorem hn_143 : (ax_mm 143).2.2.1 = 1 := by decide +kernel
theorem hr_143 : (ax_mm 143).2.2.2.1 = (some (.array .byte)) := by decide +kernel
theorem hk_143_0 : ax_look 143 0 = some (.aload_n 0, (0, 0, 0), .null, []) := by decide +kernel
theorem hk_143_1 : ax_look 143 1 = some (.getfield 15, (10, 0, 0), .null, [1107]) := by decide +kernel
theorem hk_143_4 : ax_look 143 4 = some (.areturn, (0, 0, 0), .null, []) := by decide +kernel
theorem hn_144 : (ax_mm 144).2.2.1 = 1 := by decide +kernel
theorem hr_144 : (ax_mm 144).2.2.2.1 = (some .boolean) := by decide +kernel
theorem hk_144_0 : ax_look 144 0 = some (.aload_n 0, (0, 0, 0), .null, []) := by decide +kernel
theorem hk_144_1 : ax_look 144 1 = some (.getfield 19, (6, 7, 0), .null, [1068]) := by decide +kernel
theorem hk_144_4 : ax_look 144 4 = some (.bipush 9, (0, 0, 0), .null, []) := by decide +kernel
theorem hk_144_6 : ax_look 144 6 = some (.if_icmp .ne 7, (0, 0, 0), .null, []) := by decide +kernel
theorem hk_144_9 : ax_look 144 9 = some (.iconst 1, (0, 0, 0), .null, []) := by decide +kernel
theorem hk_144_10 : ax_look 144 10 = some (.goto 4, (0, 0, 0), .null, []) := by decide +kernel
theorem hk_144_13 : ax_look 144 13 = some (.iconst 0, (0, 0, 0), .null, []) := by decide +kernel
theorem hk_144_14 : ax_look 144 14 = some (.ireturn, (0, 0, 0), .null, []) := by decide +kernel
theorem hn_145 : (ax_mm 145).2.2.1 = 1 := by decide +kernel
theorem hr_145 : (ax_mm 145).2.2.2.1 = (some .boolean) := by decide +kernel
theorem hk_145_0 : ax_look 145 0 = some (.aload_n 0, (0, 0, 0), .null, []) := by decide +kernel
theorem hk_145_1 : ax_look 145 1 = some (.getfield 19, (6, 7, 0), .null, [1068]) := by decide +kernel
theorem hk_145_4 : ax_look 145 4 = some (.bipush 9, (0, 0, 0), .null, []) := by decide +kernel
theorem hk_145_6 : ax_look 145 6 = some (.if_icmp .ne 7, (0, 0, 0), .null, []) := by decide +kernel
theorem hk_145_9 : ax_look 145 9 = some (.iconst 1, (0, 0, 0), .null, []) := by decide +kernel
theorem hk_145_10 : ax_look 145 10 = some (.goto 4, (0, 0, 0), .null, []) := by decide +kernel
theorem hk_145_13 : ax_look 145 13 = some (.iconst 0, (0, 0, 0), .null, []) := by decide +kernel
theorem hk_145_14 : ax_look 145 14 = some (.ireturn, (0, 0, 0), .null, []) := by decide +kernel
theorem hn_146 : (ax_mm 146).2.2.1 = 1 := by decide +kernel
theorem hr_146 : (ax_mm 146).2.2.2.1 = (some .boolean) := by decide +kernel
theorem hk_146_0 : ax_look 146 0 = some (.aload_n 0, (0, 0, 0), .null, []) := by decide +kernel
theorem hk_146_1 : ax_look 146 1 = some (.getfield 19, (6, 7, 0), .null, [1068]) := by decide +kernel
theorem hk_146_4 : ax_look 146 4 = some (.bipush 9, (0, 0, 0), .null, []) := by decide +kernel
theorem hk_146_6 : ax_look 146 6 = some (.if_icmp .ne 7, (0, 0, 0), .null, []) := by decide +kernel
theorem hk_146_9 : ax_look 146 9 = some (.iconst 1, (0, 0, 0), .null, []) := by decide +kernel
theorem hk_146_10 : ax_look 146 10 = some (.goto 4, (0, 0, 0), .null, []) := by decide +kernel
theorem hk_146_13 : ax_look 146 13 = some (.iconst 0, (0, 0, 0), .null, []) := by decide +kernel
theorem hk_146_14 : ax_look 146 14 = some (.ireturn, (0, 0, 0), .null, []) := by decide +kernel
theorem hn_147 : (ax_mm 147).2.2.1 = 1 := by decide +kernel
theorem hr_147 : (ax_mm 147).2.2.2.1 = (some .boolean) := by decide +kernel
theorem hk_147_0 : ax_look 147 0 = some (.aload_n 0, (0, 0, 0), .null, []) := by decide +kernel
theorem hk_147_1 : ax_look 147 1 = some (.getfield 19, (6, 7, 0), .null, [1068]) := by decide +kernel
theorem hk_147_4 : ax_look 147 4 = some (.bipush 9, (0, 0, 0), .null, []) := by decide +kernel
theorem hk_147_6 : ax_look 147 6 = some (.if_icmp .ne 7, (0, 0, 0), .null, []) := by decide +kernel
theorem hk_147_9 : ax_look 147 9 = some (.iconst 1, (0, 0, 0), .null, []) := by decide +kernel
theorem hk_147_10 : ax_look 147 10 = some (.goto 4, (0, 0, 0), .null, []) := by decide +kernel
theorem hk_147_13 : ax_look 147 13 = some (.iconst 0, (0, 0, 0), .null, []) := by decide +kernel
theorem hk_147_14 : ax_look 147 14 = some (.ireturn, (0, 0, 0), .null, []) := by decide +kernel
theorem hn_148 : (ax_mm 148).2.2.1 = 2 := by decide +kernel
theorem hr_148 : (ax_mm 148).2.2.2.1 = none := by decide +kernel
theorem hk_148_0 : ax_look 148 0 = some (.aload_n 0, (0, 0, 0), .null, []) := by decide +kernel
theorem hk_148_1 : ax_look 148 1 = some (.aload_n 1, (0, 0, 0), .null, []) := by decide +kernel
theorem hk_148_2 : ax_look 148 2 = some (.aconst_null, (0, 0, 0), .null, []) := by decide +kernel
theorem hk_148_3 : ax_look 148 3 = some (.invokespecial 489, (150, 2, 0), .null, [4160]) := by decide +kernel
theorem hk_148_6 : ax_look 148 6 = some (.return_, (0, 0, 0), .null, []) := by decide +kernel
theorem hn_149 : (ax_mm 149).2.2.1 = 2 := by decide +kernel
theorem hr_149 : (ax_mm 149).2.2.2.1 = (some .char) := by decide +kernel
theorem hk_149_0 : ax_look 149 0 = some (.aload_n 0, (0, 0, 0), .null, []) := by decide +kernel
theorem hk_149_1 : ax_look 149 1 = some (.invokevirtual 492, (151, 0, 11), .null, [3206, 3208]) := by decide +kernel
theorem hk_149_4 : ax_look 149 4 = some (.ifCond .eq 12, (0, 0, 0), .null, []) := by decide +kernel
theorem hk_149_7 : ax_look 149 7 = some (.aload_n 0, (0, 0, 0), .null, []) := by decide +kernel
theorem hk_149_8 : ax_look 149 8 = some (.getfield 9, (11, 0, 0), .null, [4197]) := by decide +kernel
theorem hk_149_11 : ax_look 149 11 = some (.iload_n 1, (0, 0, 0), .null, []) := by decide +kernel
theorem hk_149_12 : ax_look 149 12 = some (.invokestatic 495, (155, 2, 0), .null, [3210]) := by decide +kernel
theorem hk_149_15 : ax_look 149 15 = some (.ireturn, (0, 0, 0), .null, []) := by decide +kernel
theorem hk_149_16 : ax_look 149 16 = some (.aload_n 0, (0, 0, 0), .null, []) := by decide +kernel
theorem hk_149_17 : ax_look 149 17 = some (.getfield 9, (11, 0, 0), .null, [4197]) := by decide +kernel
theorem hk_149_20 : ax_look 149 20 = some (.iload_n 1, (0, 0, 0), .null, []) := by decide +kernel
theorem hk_149_21 : ax_look 149 21 = some (.invokestatic 498, (168, 2, 0), .null, [3221]) := by decide +kernel
theorem hk_149_24 : ax_look 149 24 = some (.ireturn, (0, 0, 0), .null, []) := by decide +kernel
theorem hn_150 : (ax_mm 150).2.2.1 = 5 := by decide +kernel
theorem hr_150 : (ax_mm 150).2.2.2.1 = none := by decide +kernel
theorem hk_150_0 : ax_look 150 0 = some (.aload_n 0, (0, 0, 0), .null, []) := by decide +kernel
theorem hk_150_1 : ax_look 150 1 = some (.invokespecial 1, (0, 0, 2), .null, [4163]) := by decide +kernel
theorem hk_150_4 : ax_look 150 4 = some (.aload_n 1, (0, 0, 0), .null, []) := by decide +kernel
theorem hk_150_5 : ax_look 150 5 = some (.invokevirtual 552, (900, 0, 99), .null, []) := by decide +kernel
theorem hk_150_8 : ax_look 150 8 = some (.astore_n 3, (0, 0, 0), .null, []) := by decide +kernel
theorem hk_150_9 : ax_look 150 9 = some (.aload_n 1, (0, 0, 0), .null, []) := by decide +kernel
theorem hk_150_10 : ax_look 150 10 = some (.invokevirtual 549, (900, 0, 99), .null, []) := by decide +kernel
theorem hk_150_13 : ax_look 150 13 = some (.istore 4, (0, 0, 0), .null, []) := by decide +kernel
theorem hk_150_15 : ax_look 150 15 = some (.aload_n 1, (0, 0, 0), .null, []) := by decide +kernel
theorem hk_150_16 : ax_look 150 16 = some (.invokevirtual 1047, (900, 0, 99), .null, []) := by decide +kernel
theorem hk_150_19 : ax_look 150 19 = some (.ifCond .eq 22, (0, 0, 0), .null, []) := by decide +kernel
theorem hk_150_22 : ax_look 150 22 = some (.aload_n 0, (0, 0, 0), .null, []) := by decide +kernel
theorem hk_150_23 : ax_look 150 23 = some (.iconst 0, (0, 0, 0), .null, []) := by decide +kernel
theorem hk_150_24 : ax_look 150 24 = some (.putfield 15, (11, 1, 0), .null, [4198]) := by decide +kernel
theorem hk_150_27 : ax_look 150 27 = some (.aload_n 0, (0, 0, 0), .null, []) := by decide +kernel
theorem hk_150_28 : ax_look 150 28 = some (.aload_n 3, (0, 0, 0), .null, []) := by decide +kernel
theorem hk_150_29 : ax_look 150 29 = some (.iconst 0, (0, 0, 0), .null, []) := by decide +kernel
theorem hk_150_30 : ax_look 150 30 = some (.iload 4, (0, 0, 0), .null, []) := by decide +kernel
theorem hk_150_32 : ax_look 150 32 = some (.invokestatic 54, (175, 3, 0), .null, [4178]) := by decide +kernel
theorem hk_150_35 : ax_look 150 35 = some (.putfield 9, (11, 0, 0), .null, [4197]) := by decide +kernel
theorem hk_150_38 : ax_look 150 38 = some (.goto 59, (0, 0, 0), .null, []) := by decide +kernel
theorem hk_150_41 : ax_look 150 41 = some (.getstatic 38, (1, 0, 0), .null, [3195]) := by decide +kernel
theorem hk_150_44 : ax_look 150 44 = some (.ifCond .eq 35, (0, 0, 0), .null, []) := by decide +kernel
theorem hk_150_47 : ax_look 150 47 = some (.aload_n 1, (0, 0, 0), .null, []) := by decide +kernel
theorem hk_150_48 : ax_look 150 48 = some (.getfield 1048, (10, 2, 0), .null, [1109]) := by decide +kernel
theorem hk_150_51 : ax_look 150 51 = some (.ifCond .eq 28, (0, 0, 0), .null, []) := by decide +kernel
theorem hk_150_54 : ax_look 150 54 = some (.aload_n 0, (0, 0, 0), .null, []) := by decide +kernel
theorem hk_150_55 : ax_look 150 55 = some (.aload_n 3, (0, 0, 0), .null, []) := by decide +kernel
theorem hk_150_56 : ax_look 150 56 = some (.iconst 0, (0, 0, 0), .null, []) := by decide +kernel
theorem hk_150_57 : ax_look 150 57 = some (.iload 4, (0, 0, 0), .null, []) := by decide +kernel
theorem hk_150_59 : ax_look 150 59 = some (.invokestatic 1051, (163, 3, 0), .null, [4187]) := by decide +kernel
theorem hk_150_62 : ax_look 150 62 = some (.putfield 9, (11, 0, 0), .null, [4197]) := by decide +kernel
theorem hk_150_65 : ax_look 150 65 = some (.aload_n 0, (0, 0, 0), .null, []) := by decide +kernel
theorem hk_150_66 : ax_look 150 66 = some (.aload_n 0, (0, 0, 0), .null, []) := by decide +kernel
theorem hk_150_67 : ax_look 150 67 = some (.getfield 9, (11, 0, 0), .null, [4197]) := by decide +kernel
theorem hk_150_70 : ax_look 150 70 = some (.iload 4, (0, 0, 0), .null, []) := by decide +kernel
theorem hk_150_72 : ax_look 150 72 = some (.invokestatic 47, (162, 2, 0), .null, [4194]) := by decide +kernel
theorem hk_150_75 : ax_look 150 75 = some (.putfield 15, (11, 1, 0), .null, [4198]) := by decide +kernel
theorem hk_150_78 : ax_look 150 78 = some (.return_, (0, 0, 0), .null, []) := by decide +kernel
theorem hk_150_79 : ax_look 150 79 = some (.aload_n 0, (0, 0, 0), .null, []) := by decide +kernel
theorem hk_150_80 : ax_look 150 80 = some (.iconst 1, (0, 0, 0), .null, []) := by decide +kernel
theorem hk_150_81 : ax_look 150 81 = some (.putfield 15, (11, 1, 0), .null, [4198]) := by decide +kernel
theorem hk_150_84 : ax_look 150 84 = some (.aload_n 0, (0, 0, 0), .null, []) := by decide +kernel
theorem hk_150_85 : ax_look 150 85 = some (.aload_n 3, (0, 0, 0), .null, []) := by decide +kernel
theorem hk_150_86 : ax_look 150 86 = some (.iconst 0, (0, 0, 0), .null, []) := by decide +kernel
theorem hk_150_87 : ax_look 150 87 = some (.iload 4, (0, 0, 0), .null, []) := by decide +kernel
theorem hk_150_89 : ax_look 150 89 = some (.iconst 1, (0, 0, 0), .null, []) := by decide +kernel
theorem hk_150_90 : ax_look 150 90 = some (.ishl, (0, 0, 0), .null, []) := by decide +kernel
theorem hk_150_91 : ax_look 150 91 = some (.invokestatic 54, (175, 3, 0), .null, [4178]) := by decide +kernel
theorem hk_150_94 : ax_look 150 94 = some (.putfield 9, (11, 0, 0), .null, [4197]) := by decide +kernel
theorem hk_150_97 : ax_look 150 97 = some (.return_, (0, 0, 0), .null, []) := by decide +kernel
theorem hn_151 : (ax_mm 151).2.2.1 = 1 := by decide +kernel
theorem hr_151 : (ax_mm 151).2.2.2.1 = (some .boolean) := by decide +kernel
theorem hk_151_0 : ax_look 151 0 = some (.getstatic 38, (1, 0, 0), .null, [3195]) := by decide +kernel
theorem hk_151_3 : ax_look 151 3 = some (.ifCond .eq 14, (0, 0, 0), .null, []) := by decide +kernel
theorem hk_151_6 : ax_look 151 6 = some (.aload_n 0, (0, 0, 0), .null, []) := by decide +kernel
theorem hk_151_7 : ax_look 151 7 = some (.getfield 15, (11, 1, 0), .null, [4198]) := by decide +kernel
theorem hk_151_10 : ax_look 151 10 = some (.ifCond .ne 7, (0, 0, 0), .null, []) := by decide +kernel
theorem hk_151_13 : ax_look 151 13 = some (.iconst 1, (0, 0, 0), .null, []) := by decide +kernel
theorem hk_151_14 : ax_look 151 14 = some (.goto 4, (0, 0, 0), .null, []) := by decide +kernel
theorem hk_151_17 : ax_look 151 17 = some (.iconst 0, (0, 0, 0), .null, []) := by decide +kernel
theorem hk_151_18 : ax_look 151 18 = some (.ireturn, (0, 0, 0), .null, []) := by decide +kernel
theorem hn_152 : (ax_mm 152).2.2.1 = 3 := by decide +kernel
theorem hr_152 : (ax_mm 152).2.2.2.1 = (some .int) := by decide +kernel
theorem hk_152_0 : ax_look 152 0 = some (.iload_n 0, (0, 0, 0), .null, []) := by decide +kernel
theorem hk_152_1 : ax_look 152 1 = some (.iload_n 1, (0, 0, 0), .null, []) := by decide +kernel
theorem hk_152_2 : ax_look 152 2 = some (.iload_n 2, (0, 0, 0), .null, []) := by decide +kernel
theorem hk_152_3 : ax_look 152 3 = some (.getstatic 1053, (900, 0, 0), .null, []) := by decide +kernel
theorem hk_152_6 : ax_look 152 6 = some (.invokestatic 1065, (179, 4, 0), .null, [4115]) := by decide +kernel
theorem hk_152_9 : ax_look 152 9 = some (.ireturn, (0, 0, 0), .null, []) := by decide +kernel
theorem hn_153 : (ax_mm 153).2.2.1 = 3 := by decide +kernel
theorem hr_153 : (ax_mm 153).2.2.2.1 = none := by decide +kernel
theorem hk_153_0 : ax_look 153 0 = some (.iload_n 0, (0, 0, 0), .null, []) := by decide +kernel
theorem hk_153_1 : ax_look 153 1 = some (.iload_n 1, (0, 0, 0), .null, []) := by decide +kernel
theorem hk_153_2 : ax_look 153 2 = some (.iload_n 2, (0, 0, 0), .null, []) := by decide +kernel
theorem hk_153_3 : ax_look 153 3 = some (.getstatic 1053, (900, 0, 0), .null, []) := by decide +kernel
theorem hk_153_6 : ax_look 153 6 = some (.invokestatic 1062, (178, 4, 0), .null, [4083]) := by decide +kernel
theorem hk_153_9 : ax_look 153 9 = some (.pop, (0, 0, 0), .null, []) := by decide +kernel
theorem hk_153_10 : ax_look 153 10 = some (.return_, (0, 0, 0), .null, []) := by decide +kernel
theorem hn_154 : (ax_mm 154).2.2.1 = 1 := by decide +kernel
theorem hr_154 : (ax_mm 154).2.2.2.1 = (some (.object "java/lang/String")) := by decide +kernel
theorem hk_154_0 : ax_look 154 0 = some (.new 18, (11, 0, 0), .null, [4155, 4156, 1006]) := by decide +kernel
theorem hk_154_3 : ax_look 154 3 = some (.dup, (0, 0, 0), .null, []) := by decide +kernel
theorem hk_154_4 : ax_look 154 4 = some (.aload_n 0, (0, 0, 0), .null, []) := by decide +kernel
theorem hk_154_5 : ax_look 154 5 = some (.invokespecial 137, (148, 1, 0), .null, [4157]) := by decide +kernel
theorem hk_154_8 : ax_look 154 8 = some (.areturn, (0, 0, 0), .null, []) := by decide +kernel
theorem hn_155 : (ax_mm 155).2.2.1 = 2 := by decide +kernel
theorem hr_155 : (ax_mm 155).2.2.2.1 = (some .char) := by decide +kernel
theorem hk_155_0 : ax_look 155 0 = some (.iload_n 1, (0, 0, 0), .null, []) := by decide +kernel
theorem hk_155_1 : ax_look 155 1 = some (.aload_n 0, (0, 0, 0), .null, []) := by decide +kernel
theorem hk_155_2 : ax_look 155 2 = some (.arraylength, (0, 0, 0), .null, []) := by decide +kernel
theorem hk_155_3 : ax_look 155 3 = some (.invokestatic 9, (278, 2, 0), .null, [3213]) := by decide +kernel
theorem hk_155_6 : ax_look 155 6 = some (.aload_n 0, (0, 0, 0), .null, []) := by decide +kernel
theorem hk_155_7 : ax_look 155 7 = some (.iload_n 1, (0, 0, 0), .null, []) := by decide +kernel
theorem hk_155_8 : ax_look 155 8 = some (.baload, (0, 0, 0), .null, []) := by decide +kernel
theorem hk_155_9 : ax_look 155 9 = some (.sipush 255, (0, 0, 0), .null, []) := by decide +kernel
theorem hk_155_12 : ax_look 155 12 = some (.iand, (0, 0, 0), .null, []) := by decide +kernel
theorem hk_155_13 : ax_look 155 13 = some (.i2c, (0, 0, 0), .null, []) := by decide +kernel
theorem hk_155_14 : ax_look 155 14 = some (.ireturn, (0, 0, 0), .null, []) := by decide +kernel
theorem hn_174 : (ax_mm 174).2.2.1 = 2 := by decide +kernel
theorem hr_174 : (ax_mm 174).2.2.2.1 = none := by decide +kernel
theorem hk_174_0 : ax_look 174 0 = some (.iload_n 1, (0, 0, 0), .null, []) := by decide +kernel
theorem hk_174_1 : ax_look 174 1 = some (.iload_n 0, (0, 0, 0), .null, []) := by decide +kernel
theorem hk_174_2 : ax_look 174 2 = some (.if_icmp .ge 35, (0, 0, 0), .null, []) := by decide +kernel
theorem hk_174_5 : ax_look 174 5 = some (.new 43, (900, 0, 0), .null, []) := by decide +kernel
theorem hk_174_8 : ax_look 174 8 = some (.dup, (0, 0, 0), .null, []) := by decide +kernel
theorem hk_174_9 : ax_look 174 9 = some (.new 45, (900, 0, 0), .null, []) := by decide +kernel
theorem hk_174_12 : ax_look 174 12 = some (.dup, (0, 0, 0), .null, []) := by decide +kernel
theorem hk_174_13 : ax_look 174 13 = some (.invokespecial 47, (900, 0, 0), .null, []) := by decide +kernel
theorem hk_174_16 : ax_look 174 16 = some (.iload_n 0, (0, 0, 0), .null, []) := by decide +kernel
theorem hk_174_17 : ax_look 174 17 = some (.invokevirtual 54, (900, 0, 0), .null, []) := by decide +kernel
theorem hk_174_20 : ax_look 174 20 = some (.ldc_w 337, (900, 0, 0), .null, []) := by decide +kernel
theorem hk_174_23 : ax_look 174 23 = some (.invokevirtual 50, (900, 0, 0), .null, []) := by decide +kernel
theorem hk_174_26 : ax_look 174 26 = some (.iload_n 1, (0, 0, 0), .null, []) := by decide +kernel
theorem hk_174_27 : ax_look 174 27 = some (.invokevirtual 54, (900, 0, 0), .null, []) := by decide +kernel
theorem hk_174_30 : ax_look 174 30 = some (.invokevirtual 61, (900, 0, 0), .null, []) := by decide +kernel
theorem hk_174_33 : ax_look 174 33 = some (.invokespecial 65, (900, 0, 0), .null, []) := by decide +kernel
theorem hk_174_36 : ax_look 174 36 = some (.athrow, (0, 0, 0), .null, []) := by decide +kernel
theorem hk_174_37 : ax_look 174 37 = some (.return_, (0, 0, 0), .null, []) := by decide +kernel
theorem hn_175 : (ax_mm 175).2.2.1 = 3 := by decide +kernel
theorem hr_175 : (ax_mm 175).2.2.2.1 = (some (.array .byte)) := by decide +kernel
theorem hk_175_0 : ax_look 175 0 = some (.iload_n 1, (0, 0, 0), .null, []) := by decide +kernel
theorem hk_175_1 : ax_look 175 1 = some (.ifCond .ne 9, (0, 0, 0), .null, []) := by decide +kernel
theorem hk_175_4 : ax_look 175 4 = some (.iload_n 2, (0, 0, 0), .null, []) := by decide +kernel
theorem hk_175_5 : ax_look 175 5 = some (.aload_n 0, (0, 0, 0), .null, []) := by decide +kernel
theorem hk_175_6 : ax_look 175 6 = some (.arraylength, (0, 0, 0), .null, []) := by decide +kernel
theorem hk_175_7 : ax_look 175 7 = some (.if_icmp .eq 10, (0, 0, 0), .null, []) := by decide +kernel
theorem hk_175_10 : ax_look 175 10 = some (.aload_n 0, (0, 0, 0), .null, []) := by decide +kernel
theorem hk_175_11 : ax_look 175 11 = some (.iload_n 1, (0, 0, 0), .null, []) := by decide +kernel
theorem hk_175_12 : ax_look 175 12 = some (.iload_n 2, (0, 0, 0), .null, []) := by decide +kernel
theorem hk_175_13 : ax_look 175 13 = some (.invokestatic 339, (176, 3, 0), .null, [4181]) := by decide +kernel
theorem hk_175_16 : ax_look 175 16 = some (.areturn, (0, 0, 0), .null, []) := by decide +kernel
theorem hk_175_17 : ax_look 175 17 = some (.aload_n 0, (0, 0, 0), .null, []) := by decide +kernel
theorem hk_175_18 : ax_look 175 18 = some (.invokevirtual 310, (900, 0, 0), .null, []) := by decide +kernel
theorem hk_175_21 : ax_look 175 21 = some (.checkcast 311, (0, 0, 0), .null, []) := by decide +kernel
theorem hk_175_24 : ax_look 175 24 = some (.areturn, (0, 0, 0), .null, []) := by decide +kernel
theorem hn_176 : (ax_mm 176).2.2.1 = 5 := by decide +kernel
theorem hr_176 : (ax_mm 176).2.2.2.1 = (some (.array .byte)) := by decide +kernel
theorem hk_176_0 : ax_look 176 0 = some (.iload_n 1, (0, 0, 0), .null, []) := by decide +kernel
theorem hk_176_1 : ax_look 176 1 = some (.iload_n 2, (0, 0, 0), .null, []) := by decide +kernel
theorem hk_176_2 : ax_look 176 2 = some (.invokestatic 343, (174, 2, 0), .null, [4184]) := by decide +kernel
theorem hk_176_5 : ax_look 176 5 = some (.iload_n 2, (0, 0, 0), .null, []) := by decide +kernel
theorem hk_176_6 : ax_look 176 6 = some (.iload_n 1, (0, 0, 0), .null, []) := by decide +kernel
theorem hk_176_7 : ax_look 176 7 = some (.isub, (0, 0, 0), .null, []) := by decide +kernel
theorem hk_176_8 : ax_look 176 8 = some (.istore_n 3, (0, 0, 0), .null, []) := by decide +kernel
theorem hk_176_9 : ax_look 176 9 = some (.iload_n 3, (0, 0, 0), .null, []) := by decide +kernel
theorem hk_176_10 : ax_look 176 10 = some (.newarray .byte, (3, 0, 0), .null, [1120]) := by decide +kernel
theorem hk_176_12 : ax_look 176 12 = some (.astore 4, (0, 0, 0), .null, []) := by decide +kernel
theorem hk_176_14 : ax_look 176 14 = some (.aload_n 0, (0, 0, 0), .null, []) := by decide +kernel
theorem hk_176_15 : ax_look 176 15 = some (.iload_n 1, (0, 0, 0), .null, []) := by decide +kernel
theorem hk_176_16 : ax_look 176 16 = some (.aload 4, (0, 0, 0), .null, []) := by decide +kernel
theorem hk_176_18 : ax_look 176 18 = some (.iconst 0, (0, 0, 0), .null, []) := by decide +kernel
theorem hk_176_19 : ax_look 176 19 = some (.aload_n 0, (0, 0, 0), .null, []) := by decide +kernel
theorem hk_176_20 : ax_look 176 20 = some (.arraylength, (0, 0, 0), .null, []) := by decide +kernel
theorem hk_176_21 : ax_look 176 21 = some (.iload_n 1, (0, 0, 0), .null, []) := by decide +kernel
theorem hk_176_22 : ax_look 176 22 = some (.isub, (0, 0, 0), .null, []) := by decide +kernel
theorem hk_176_23 : ax_look 176 23 = some (.iload_n 3, (0, 0, 0), .null, []) := by decide +kernel
theorem hk_176_24 : ax_look 176 24 = some (.invokestatic 304, (900, 0, 0), .null, []) := by decide +kernel
theorem hk_176_27 : ax_look 176 27 = some (.invokestatic 150, (703, 5, 0), .null, [4066]) := by decide +kernel
theorem hk_176_30 : ax_look 176 30 = some (.aload 4, (0, 0, 0), .null, []) := by decide +kernel
theorem hk_176_32 : ax_look 176 32 = some (.areturn, (0, 0, 0), .null, []) := by decide +kernel
theorem hn_253 : (ax_mm 253).2.2.1 = 4 := by decide +kernel
theorem hr_253 : (ax_mm 253).2.2.2.1 = none := by decide +kernel
theorem hk_253_0 : ax_look 253 0 = some (.iconst 0, (0, 0, 0), .null, []) := by decide +kernel
theorem hk_253_1 : ax_look 253 1 = some (.istore_n 2, (0, 0, 0), .null, []) := by decide +kernel
theorem hk_253_2 : ax_look 253 2 = some (.aload_n 0, (0, 0, 0), .null, []) := by decide +kernel
theorem hk_253_3 : ax_look 253 3 = some (.arraylength, (0, 0, 0), .null, []) := by decide +kernel
theorem hk_253_4 : ax_look 253 4 = some (.istore_n 3, (0, 0, 0), .null, []) := by decide +kernel
theorem hk_253_5 : ax_look 253 5 = some (.iload_n 2, (0, 0, 0), .null, []) := by decide +kernel
theorem hk_253_6 : ax_look 253 6 = some (.iload_n 3, (0, 0, 0), .null, []) := by decide +kernel
theorem hk_253_7 : ax_look 253 7 = some (.if_icmp .ge 13, (0, 0, 0), .null, []) := by decide +kernel
theorem hk_253_10 : ax_look 253 10 = some (.aload_n 0, (0, 0, 0), .null, []) := by decide +kernel
theorem hk_253_11 : ax_look 253 11 = some (.iload_n 2, (0, 0, 0), .null, []) := by decide +kernel
theorem hk_253_12 : ax_look 253 12 = some (.iload_n 1, (0, 0, 0), .null, []) := by decide +kernel
theorem hk_253_13 : ax_look 253 13 = some (.iastore, (0, 0, 0), .null, []) := by decide +kernel
theorem hk_253_14 : ax_look 253 14 = some (.iinc 2 1, (0, 0, 0), .null, []) := by decide +kernel
theorem hk_253_17 : ax_look 253 17 = some (.goto (-12), (0, 0, 0), .null, []) := by decide +kernel
theorem hk_253_20 : ax_look 253 20 = some (.return_, (0, 0, 0), .null, []) := by decide +kernel
theorem hn_254 : (ax_mm 254).2.2.1 = 5 := by decide +kernel
theorem hr_254 : (ax_mm 254).2.2.2.1 = none := by decide +kernel
theorem hk_254_0 : ax_look 254 0 = some (.iconst 0, (0, 0, 0), .null, []) := by decide +kernel
theorem hk_254_1 : ax_look 254 1 = some (.istore_n 3, (0, 0, 0), .null, []) := by decide +kernel
theorem hk_254_2 : ax_look 254 2 = some (.aload_n 0, (0, 0, 0), .null, []) := by decide +kernel
theorem hk_254_3 : ax_look 254 3 = some (.arraylength, (0, 0, 0), .null, []) := by decide +kernel
theorem hk_254_4 : ax_look 254 4 = some (.istore 4, (0, 0, 0), .null, []) := by decide +kernel
theorem hk_254_6 : ax_look 254 6 = some (.iload_n 3, (0, 0, 0), .null, []) := by decide +kernel
theorem hk_254_7 : ax_look 254 7 = some (.iload 4, (0, 0, 0), .null, []) := by decide +kernel
theorem hk_254_9 : ax_look 254 9 = some (.if_icmp .ge 13, (0, 0, 0), .null, []) := by decide +kernel
theorem hk_254_12 : ax_look 254 12 = some (.aload_n 0, (0, 0, 0), .null, []) := by decide +kernel
theorem hk_254_13 : ax_look 254 13 = some (.iload_n 3, (0, 0, 0), .null, []) := by decide +kernel
theorem hk_254_14 : ax_look 254 14 = some (.lload_n 1, (0, 0, 0), .null, []) := by decide +kernel
theorem hk_254_15 : ax_look 254 15 = some (.lastore, (0, 0, 0), .null, []) := by decide +kernel
theorem hk_254_16 : ax_look 254 16 = some (.iinc 3 1, (0, 0, 0), .null, []) := by decide +kernel
theorem hk_254_19 : ax_look 254 19 = some (.goto (-13), (0, 0, 0), .null, []) := by decide +kernel
theorem hk_254_22 : ax_look 254 22 = some (.return_, (0, 0, 0), .null, []) := by decide +kernel
theorem hn_255 : (ax_mm 255).2.2.1 = 2 := by decide +kernel
theorem hr_255 : (ax_mm 255).2.2.2.1 = (some .int) := by decide +kernel
theorem hk_255_0 : ax_look 255 0 = some (.lload_n 0, (0, 0, 0), .null, []) := by decide +kernel
theorem hk_255_1 : ax_look 255 1 = some (.lload_n 0, (0, 0, 0), .null, []) := by decide +kernel
theorem hk_255_2 : ax_look 255 2 = some (.iconst 1, (0, 0, 0), .null, []) := by decide +kernel
theorem hk_255_3 : ax_look 255 3 = some (.lushr, (0, 0, 0), .null, []) := by decide +kernel
theorem hk_255_4 : ax_look 255 4 = some (.ldc2_w 314, (0, 0, 0), .long (6148914691236517205), [3165]) := by decide +kernel
theorem hk_255_7 : ax_look 255 7 = some (.land, (0, 0, 0), .null, []) := by decide +kernel
theorem hk_255_8 : ax_look 255 8 = some (.lsub, (0, 0, 0), .null, []) := by decide +kernel
theorem hk_255_9 : ax_look 255 9 = some (.lstore_n 0, (0, 0, 0), .null, []) := by decide +kernel
theorem hk_255_10 : ax_look 255 10 = some (.lload_n 0, (0, 0, 0), .null, []) := by decide +kernel
theorem hk_255_11 : ax_look 255 11 = some (.ldc2_w 316, (0, 0, 0), .long (3689348814741910323), [3166]) := by decide +kernel
theorem hk_255_14 : ax_look 255 14 = some (.land, (0, 0, 0), .null, []) := by decide +kernel
theorem hk_255_15 : ax_look 255 15 = some (.lload_n 0, (0, 0, 0), .null, []) := by decide +kernel
theorem hk_255_16 : ax_look 255 16 = some (.iconst 2, (0, 0, 0), .null, []) := by decide +kernel
theorem hk_255_17 : ax_look 255 17 = some (.lushr, (0, 0, 0), .null, []) := by decide +kernel
theorem hk_255_18 : ax_look 255 18 = some (.ldc2_w 316, (0, 0, 0), .long (3689348814741910323), [3166]) := by decide +kernel
theorem hk_255_21 : ax_look 255 21 = some (.land, (0, 0, 0), .null, []) := by decide +kernel
theorem hk_255_22 : ax_look 255 22 = some (.ladd, (0, 0, 0), .null, []) := by decide +kernel
theorem hk_255_23 : ax_look 255 23 = some (.lstore_n 0, (0, 0, 0), .null, []) := by decide +kernel
theorem hk_255_24 : ax_look 255 24 = some (.lload_n 0, (0, 0, 0), .null, []) := by decide +kernel
theorem hk_255_25 : ax_look 255 25 = some (.lload_n 0, (0, 0, 0), .null, []) := by decide +kernel
theorem hk_255_26 : ax_look 255 26 = some (.iconst 4, (0, 0, 0), .null, []) := by decide +kernel
theorem hk_255_27 : ax_look 255 27 = some (.lushr, (0, 0, 0), .null, []) := by decide +kernel
theorem hk_255_28 : ax_look 255 28 = some (.ladd, (0, 0, 0), .null, []) := by decide +kernel
theorem hk_255_29 : ax_look 255 29 = some (.ldc2_w 318, (0, 0, 0), .long (1085102592571150095), [3167]) := by decide +kernel
theorem hk_255_32 : ax_look 255 32 = some (.land, (0, 0, 0), .null, []) := by decide +kernel
theorem hk_255_33 : ax_look 255 33 = some (.lstore_n 0, (0, 0, 0), .null, []) := by decide +kernel
theorem hk_255_34 : ax_look 255 34 = some (.lload_n 0, (0, 0, 0), .null, []) := by decide +kernel
theorem hk_255_35 : ax_look 255 35 = some (.lload_n 0, (0, 0, 0), .null, []) := by decide +kernel
theorem hk_255_36 : ax_look 255 36 = some (.bipush 8, (0, 0, 0), .null, []) := by decide +kernel
theorem hk_255_38 : ax_look 255 38 = some (.lushr, (0, 0, 0), .null, []) := by decide +kernel
theorem hk_255_39 : ax_look 255 39 = some (.ladd, (0, 0, 0), .null, []) := by decide +kernel
theorem hk_255_40 : ax_look 255 40 = some (.lstore_n 0, (0, 0, 0), .null, []) := by decide +kernel
theorem hk_255_41 : ax_look 255 41 = some (.lload_n 0, (0, 0, 0), .null, []) := by decide +kernel
theorem hk_255_42 : ax_look 255 42 = some (.lload_n 0, (0, 0, 0), .null, []) := by decide +kernel
theorem hk_255_43 : ax_look 255 43 = some (.bipush 16, (0, 0, 0), .null, []) := by decide +kernel
theorem hk_255_45 : ax_look 255 45 = some (.lushr, (0, 0, 0), .null, []) := by decide +kernel
theorem hk_255_46 : ax_look 255 46 = some (.ladd, (0, 0, 0), .null, []) := by decide +kernel
theorem hk_255_47 : ax_look 255 47 = some (.lstore_n 0, (0, 0, 0), .null, []) := by decide +kernel
theorem hk_255_48 : ax_look 255 48 = some (.lload_n 0, (0, 0, 0), .null, []) := by decide +kernel
theorem hk_255_49 : ax_look 255 49 = some (.lload_n 0, (0, 0, 0), .null, []) := by decide +kernel
theorem hk_255_50 : ax_look 255 50 = some (.bipush 32, (0, 0, 0), .null, []) := by decide +kernel
theorem hk_255_52 : ax_look 255 52 = some (.lushr, (0, 0, 0), .null, []) := by decide +kernel
theorem hk_255_53 : ax_look 255 53 = some (.ladd, (0, 0, 0), .null, []) := by decide +kernel
theorem hk_255_54 : ax_look 255 54 = some (.lstore_n 0, (0, 0, 0), .null, []) := by decide +kernel
theorem hk_255_55 : ax_look 255 55 = some (.lload_n 0, (0, 0, 0), .null, []) := by decide +kernel
theorem hk_255_56 : ax_look 255 56 = some (.l2i, (0, 0, 0), .null, []) := by decide +kernel
theorem hk_255_57 : ax_look 255 57 = some (.bipush 127, (0, 0, 0), .null, []) := by decide +kernel
theorem hk_255_59 : ax_look 255 59 = some (.iand, (0, 0, 0), .null, []) := by decide +kernel
theorem hk_255_60 : ax_look 255 60 = some (.ireturn, (0, 0, 0), .null, []) := by decide +kernel
theorem hn_256 : (ax_mm 256).2.2.1 = 1 := by decide +kernel
theorem hr_256 : (ax_mm 256).2.2.2.1 = none := by decide +kernel
theorem hk_256_0 : ax_look 256 0 = some (.aload_n 0, (0, 0, 0), .null, []) := by decide +kernel
theorem hk_256_1 : ax_look 256 1 = some (.bipush 16, (0, 0, 0), .null, []) := by decide +kernel
theorem hk_256_3 : ax_look 256 3 = some (.invokespecial 1, (257, 1, 0), .null, [1094]) := by decide +kernel
theorem hk_256_6 : ax_look 256 6 = some (.return_, (0, 0, 0), .null, []) := by decide +kernel
theorem hn_257 : (ax_mm 257).2.2.1 = 2 := by decide +kernel
theorem hr_257 : (ax_mm 257).2.2.2.1 = none := by decide +kernel
theorem hk_257_0 : ax_look 257 0 = some (.aload_n 0, (0, 0, 0), .null, []) := by decide +kernel
theorem hk_257_1 : ax_look 257 1 = some (.invokespecial 3, (0, 0, 2), .null, [1097]) := by decide +kernel
theorem hk_257_4 : ax_look 257 4 = some (.getstatic 18, (1, 0, 0), .null, [1098]) := by decide +kernel
theorem hk_257_7 : ax_look 257 7 = some (.ifCond .eq 18, (0, 0, 0), .null, []) := by decide +kernel
theorem hk_257_10 : ax_look 257 10 = some (.aload_n 0, (0, 0, 0), .null, []) := by decide +kernel
theorem hk_257_11 : ax_look 257 11 = some (.iload_n 1, (0, 0, 0), .null, []) := by decide +kernel
theorem hk_257_12 : ax_look 257 12 = some (.newarray .byte, (3, 0, 0), .null, [1120]) := by decide +kernel
theorem hk_257_14 : ax_look 257 14 = some (.putfield 15, (10, 0, 0), .null, [1107]) := by decide +kernel
theorem hk_257_17 : ax_look 257 17 = some (.aload_n 0, (0, 0, 0), .null, []) := by decide +kernel
theorem hk_257_18 : ax_look 257 18 = some (.iconst 0, (0, 0, 0), .null, []) := by decide +kernel
theorem hk_257_19 : ax_look 257 19 = some (.putfield 22, (10, 1, 0), .null, [1108]) := by decide +kernel
theorem hk_257_22 : ax_look 257 22 = some (.goto 16, (0, 0, 0), .null, []) := by decide +kernel
theorem hk_257_25 : ax_look 257 25 = some (.aload_n 0, (0, 0, 0), .null, []) := by decide +kernel
theorem hk_257_26 : ax_look 257 26 = some (.iload_n 1, (0, 0, 0), .null, []) := by decide +kernel
theorem hk_257_27 : ax_look 257 27 = some (.invokestatic 26, (157, 1, 0), .null, [1100]) := by decide +kernel
theorem hk_257_30 : ax_look 257 30 = some (.putfield 15, (10, 0, 0), .null, [1107]) := by decide +kernel
theorem hk_257_33 : ax_look 257 33 = some (.aload_n 0, (0, 0, 0), .null, []) := by decide +kernel
theorem hk_257_34 : ax_look 257 34 = some (.iconst 1, (0, 0, 0), .null, []) := by decide +kernel
theorem hk_257_35 : ax_look 257 35 = some (.putfield 22, (10, 1, 0), .null, [1108]) := by decide +kernel
theorem hk_257_38 : ax_look 257 38 = some (.return_, (0, 0, 0), .null, []) := by decide +kernel
theorem hn_258 : (ax_mm 258).2.2.1 = 1 := by decide +kernel
theorem hr_258 : (ax_mm 258).2.2.2.1 = (some .int) := by decide +kernel
theorem hk_258_0 : ax_look 258 0 = some (.aload_n 0, (0, 0, 0), .null, []) := by decide +kernel
theorem hk_258_1 : ax_look 258 1 = some (.invokespecial 343, (259, 0, 3), .null, [4175, 4171, 1119]) := by decide +kernel
theorem hk_258_4 : ax_look 258 4 = some (.ireturn, (0, 0, 0), .null, []) := by decide +kernel
theorem hn_259 : (ax_mm 259).2.2.1 = 1 := by decide +kernel
theorem hr_259 : (ax_mm 259).2.2.2.1 = (some .int) := by decide +kernel
theorem hk_259_0 : ax_look 259 0 = some (.aload_n 0, (0, 0, 0), .null, []) := by decide +kernel
theorem hk_259_1 : ax_look 259 1 = some (.getfield 79, (10, 3, 0), .null, [1110]) := by decide +kernel
theorem hk_259_4 : ax_look 259 4 = some (.ireturn, (0, 0, 0), .null, []) := by decide +kernel
theorem hn_260 : (ax_mm 260).2.2.1 = 2 := by decide +kernel
theorem hr_260 : (ax_mm 260).2.2.2.1 = (some (.object "java/lang/StringBuilder")) := by decide +kernel
theorem hk_260_0 : ax_look 260 0 = some (.aload_n 0, (0, 0, 0), .null, []) := by decide +kernel
theorem hk_260_1 : ax_look 260 1 = some (.iload_n 1, (0, 0, 0), .null, []) := by decide +kernel
theorem hk_260_2 : ax_look 260 2 = some (.invokespecial 50, (265, 1, 3), .null, [4216, 5057, 1119]) := by decide +kernel
theorem hk_260_5 : ax_look 260 5 = some (.pop, (0, 0, 0), .null, []) := by decide +kernel
theorem hk_260_6 : ax_look 260 6 = some (.aload_n 0, (0, 0, 0), .null, []) := by decide +kernel
theorem hk_260_7 : ax_look 260 7 = some (.areturn, (0, 0, 0), .null, []) := by decide +kernel
theorem hn_261 : (ax_mm 261).2.2.1 = 2 := by decide +kernel
theorem hr_261 : (ax_mm 261).2.2.2.1 = (some (.object "java/lang/StringBuilder")) := by decide +kernel
theorem hk_261_0 : ax_look 261 0 = some (.aload_n 0, (0, 0, 0), .null, []) := by decide +kernel
theorem hk_261_1 : ax_look 261 1 = some (.iload_n 1, (0, 0, 0), .null, []) := by decide +kernel
theorem hk_261_2 : ax_look 261 2 = some (.invokespecial 53, (266, 1, 3), .null, [4130, 5056, 1119]) := by decide +kernel
theorem hk_261_5 : ax_look 261 5 = some (.pop, (0, 0, 0), .null, []) := by decide +kernel
theorem hk_261_6 : ax_look 261 6 = some (.aload_n 0, (0, 0, 0), .null, []) := by decide +kernel
theorem hk_261_7 : ax_look 261 7 = some (.areturn, (0, 0, 0), .null, []) := by decide +kernel
theorem hn_262 : (ax_mm 262).2.2.1 = 2 := by decide +kernel
theorem hr_262 : (ax_mm 262).2.2.2.1 = (some (.object "java/lang/StringBuilder")) := by decide +kernel
theorem hk_262_0 : ax_look 262 0 = some (.aload_n 0, (0, 0, 0), .null, []) := by decide +kernel
theorem hk_262_1 : ax_look 262 1 = some (.aload_n 1, (0, 0, 0), .null, []) := by decide +kernel
theorem hk_262_2 : ax_look 262 2 = some (.invokespecial 29, (267, 1, 3), .null, [4027, 5049, 1119]) := by decide +kernel
theorem hk_262_5 : ax_look 262 5 = some (.pop, (0, 0, 0), .null, []) := by decide +kernel
theorem hk_262_6 : ax_look 262 6 = some (.aload_n 0, (0, 0, 0), .null, []) := by decide +kernel
theorem hk_262_7 : ax_look 262 7 = some (.areturn, (0, 0, 0), .null, []) := by decide +kernel
theorem hn_263 : (ax_mm 263).2.2.1 = 1 := by decide +kernel
theorem hr_263 : (ax_mm 263).2.2.2.1 = (some .boolean) := by decide +kernel
theorem hk_263_0 : ax_look 263 0 = some (.aload_n 0, (0, 0, 0), .null, []) := by decide +kernel
theorem hk_263_1 : ax_look 263 1 = some (.getfield 19, (6, 7, 0), .null, [1068]) := by decide +kernel
theorem hk_263_4 : ax_look 263 4 = some (.bipush 9, (0, 0, 0), .null, []) := by decide +kernel
theorem hk_263_6 : ax_look 263 6 = some (.if_icmp .ne 7, (0, 0, 0), .null, []) := by decide +kernel
theorem hk_263_9 : ax_look 263 9 = some (.iconst 1, (0, 0, 0), .null, []) := by decide +kernel
theorem hk_263_10 : ax_look 263 10 = some (.goto 4, (0, 0, 0), .null, []) := by decide +kernel
theorem hk_263_13 : ax_look 263 13 = some (.iconst 0, (0, 0, 0), .null, []) := by decide +kernel
theorem hk_263_14 : ax_look 263 14 = some (.ireturn, (0, 0, 0), .null, []) := by decide +kernel
theorem hn_264 : (ax_mm 264).2.2.1 = 1 := by decide +kernel
theorem hr_264 : (ax_mm 264).2.2.2.1 = (some .boolean) := by decide +kernel
theorem hk_264_0 : ax_look 264 0 = some (.aload_n 0, (0, 0, 0), .null, []) := by decide +kernel
theorem hk_264_1 : ax_look 264 1 = some (.getfield 19, (6, 7, 0), .null, [1068]) := by decide +kernel
theorem hk_264_4 : ax_look 264 4 = some (.bipush 9, (0, 0, 0), .null, []) := by decide +kernel
theorem hk_264_6 : ax_look 264 6 = some (.if_icmp .ne 7, (0, 0, 0), .null, []) := by decide +kernel
theorem hk_264_9 : ax_look 264 9 = some (.iconst 1, (0, 0, 0), .null, []) := by decide +kernel
theorem hk_264_10 : ax_look 264 10 = some (.goto 4, (0, 0, 0), .null, []) := by decide +kernel
theorem hk_264_13 : ax_look 264 13 = some (.iconst 0, (0, 0, 0), .null, []) := by decide +kernel
theorem hk_264_14 : ax_look 264 14 = some (.ireturn, (0, 0, 0), .null, []) := by decide +kernel
theorem hn_265 : (ax_mm 265).2.2.1 = 2 := by decide +kernel
theorem hr_265 : (ax_mm 265).2.2.2.1 = (some (.object "java/lang/AbstractStringBuilder")) := by decide +kernel
theorem hk_265_0 : ax_look 265 0 = some (.aload_n 0, (0, 0, 0), .null, []) := by decide +kernel
theorem hk_265_1 : ax_look 265 1 = some (.aload_n 0, (0, 0, 0), .null, []) := by decide +kernel
theorem hk_265_2 : ax_look 265 2 = some (.getfield 79, (10, 3, 0), .null, [1110]) := by decide +kernel
theorem hk_265_5 : ax_look 265 5 = some (.iconst 1, (0, 0, 0), .null, []) := by decide +kernel
theorem hk_265_6 : ax_look 265 6 = some (.iadd, (0, 0, 0), .null, []) := by decide +kernel
theorem hk_265_7 : ax_look 265 7 = some (.invokevirtual 100, (900, 1, 99), .null, []) := by decide +kernel
theorem hk_265_10 : ax_look 265 10 = some (.aload_n 0, (0, 0, 0), .null, []) := by decide +kernel
theorem hk_265_11 : ax_look 265 11 = some (.invokevirtual 83, (900, 0, 99), .null, []) := by decide +kernel
theorem hk_265_14 : ax_look 265 14 = some (.ifCond .eq 31, (0, 0, 0), .null, []) := by decide +kernel
theorem hk_265_17 : ax_look 265 17 = some (.iload_n 1, (0, 0, 0), .null, []) := by decide +kernel
theorem hk_265_18 : ax_look 265 18 = some (.invokestatic 191, (280, 1, 0), .null, [4219]) := by decide +kernel
theorem hk_265_21 : ax_look 265 21 = some (.ifCond .eq 24, (0, 0, 0), .null, []) := by decide +kernel
theorem hk_265_24 : ax_look 265 24 = some (.aload_n 0, (0, 0, 0), .null, []) := by decide +kernel
theorem hk_265_25 : ax_look 265 25 = some (.getfield 15, (10, 0, 0), .null, [1107]) := by decide +kernel
theorem hk_265_28 : ax_look 265 28 = some (.aload_n 0, (0, 0, 0), .null, []) := by decide +kernel
theorem hk_265_29 : ax_look 265 29 = some (.dup, (0, 0, 0), .null, []) := by decide +kernel
theorem hk_265_30 : ax_look 265 30 = some (.getfield 79, (10, 3, 0), .null, [1110]) := by decide +kernel
theorem hk_265_33 : ax_look 265 33 = some (.dup_x1, (0, 0, 0), .null, []) := by decide +kernel
theorem hk_265_34 : ax_look 265 34 = some (.iconst 1, (0, 0, 0), .null, []) := by decide +kernel
theorem hk_265_35 : ax_look 265 35 = some (.iadd, (0, 0, 0), .null, []) := by decide +kernel
theorem hk_265_36 : ax_look 265 36 = some (.putfield 79, (10, 3, 0), .null, [1110]) := by decide +kernel
theorem hk_265_39 : ax_look 265 39 = some (.iload_n 1, (0, 0, 0), .null, []) := by decide +kernel
theorem hk_265_40 : ax_look 265 40 = some (.i2b, (0, 0, 0), .null, []) := by decide +kernel
theorem hk_265_41 : ax_look 265 41 = some (.bastore, (0, 0, 0), .null, []) := by decide +kernel
theorem hk_265_42 : ax_look 265 42 = some (.goto 33, (0, 0, 0), .null, []) := by decide +kernel
theorem hk_265_45 : ax_look 265 45 = some (.aload_n 0, (0, 0, 0), .null, []) := by decide +kernel
theorem hk_265_46 : ax_look 265 46 = some (.invokevirtual 83, (900, 0, 99), .null, []) := by decide +kernel
theorem hk_265_49 : ax_look 265 49 = some (.ifCond .eq 7, (0, 0, 0), .null, []) := by decide +kernel
theorem hk_265_52 : ax_look 265 52 = some (.aload_n 0, (0, 0, 0), .null, []) := by decide +kernel
theorem hk_265_53 : ax_look 265 53 = some (.invokevirtual 195, (900, 0, 99), .null, []) := by decide +kernel
theorem hk_265_56 : ax_look 265 56 = some (.aload_n 0, (0, 0, 0), .null, []) := by decide +kernel
theorem hk_265_57 : ax_look 265 57 = some (.getfield 15, (10, 0, 0), .null, [1107]) := by decide +kernel
theorem hk_265_60 : ax_look 265 60 = some (.aload_n 0, (0, 0, 0), .null, []) := by decide +kernel
theorem hk_265_61 : ax_look 265 61 = some (.dup, (0, 0, 0), .null, []) := by decide +kernel
theorem hk_265_62 : ax_look 265 62 = some (.getfield 79, (10, 3, 0), .null, [1110]) := by decide +kernel
theorem hk_265_65 : ax_look 265 65 = some (.dup_x1, (0, 0, 0), .null, []) := by decide +kernel
theorem hk_265_66 : ax_look 265 66 = some (.iconst 1, (0, 0, 0), .null, []) := by decide +kernel
theorem hk_265_67 : ax_look 265 67 = some (.iadd, (0, 0, 0), .null, []) := by decide +kernel
theorem hk_265_68 : ax_look 265 68 = some (.putfield 79, (10, 3, 0), .null, [1110]) := by decide +kernel
theorem hk_265_71 : ax_look 265 71 = some (.iload_n 1, (0, 0, 0), .null, []) := by decide +kernel
theorem hk_265_72 : ax_look 265 72 = some (.invokestatic 197, (165, 3, 0), .null, [4222]) := by decide +kernel
theorem hk_265_75 : ax_look 265 75 = some (.aload_n 0, (0, 0, 0), .null, []) := by decide +kernel
theorem hk_265_76 : ax_look 265 76 = some (.areturn, (0, 0, 0), .null, []) := by decide +kernel
theorem hn_266 : (ax_mm 266).2.2.1 = 4 := by decide +kernel
theorem hr_266 : (ax_mm 266).2.2.2.1 = (some (.object "java/lang/AbstractStringBuilder")) := by decide +kernel
theorem hk_266_0 : ax_look 266 0 = some (.aload_n 0, (0, 0, 0), .null, []) := by decide +kernel
theorem hk_266_1 : ax_look 266 1 = some (.getfield 79, (10, 3, 0), .null, [1110]) := by decide +kernel
theorem hk_266_4 : ax_look 266 4 = some (.istore_n 2, (0, 0, 0), .null, []) := by decide +kernel
theorem hk_266_5 : ax_look 266 5 = some (.iload_n 2, (0, 0, 0), .null, []) := by decide +kernel
theorem hk_266_6 : ax_look 266 6 = some (.iload_n 1, (0, 0, 0), .null, []) := by decide +kernel
theorem hk_266_7 : ax_look 266 7 = some (.invokestatic 245, (281, 1, 0), .null, [4133]) := by decide +kernel
theorem hk_266_10 : ax_look 266 10 = some (.iadd, (0, 0, 0), .null, []) := by decide +kernel
theorem hk_266_11 : ax_look 266 11 = some (.istore_n 3, (0, 0, 0), .null, []) := by decide +kernel
theorem hk_266_12 : ax_look 266 12 = some (.aload_n 0, (0, 0, 0), .null, []) := by decide +kernel
theorem hk_266_13 : ax_look 266 13 = some (.iload_n 3, (0, 0, 0), .null, []) := by decide +kernel
theorem hk_266_14 : ax_look 266 14 = some (.invokevirtual 100, (900, 1, 99), .null, []) := by decide +kernel
theorem hk_266_17 : ax_look 266 17 = some (.aload_n 0, (0, 0, 0), .null, []) := by decide +kernel
theorem hk_266_18 : ax_look 266 18 = some (.invokevirtual 83, (900, 0, 99), .null, []) := by decide +kernel
theorem hk_266_21 : ax_look 266 21 = some (.ifCond .eq 16, (0, 0, 0), .null, []) := by decide +kernel
theorem hk_266_24 : ax_look 266 24 = some (.iload_n 1, (0, 0, 0), .null, []) := by decide +kernel
theorem hk_266_25 : ax_look 266 25 = some (.iload_n 3, (0, 0, 0), .null, []) := by decide +kernel
theorem hk_266_26 : ax_look 266 26 = some (.aload_n 0, (0, 0, 0), .null, []) := by decide +kernel
theorem hk_266_27 : ax_look 266 27 = some (.getfield 15, (10, 0, 0), .null, [1107]) := by decide +kernel
theorem hk_266_30 : ax_look 266 30 = some (.invokestatic 248, (282, 3, 0), .null, [4136]) := by decide +kernel
theorem hk_266_33 : ax_look 266 33 = some (.pop, (0, 0, 0), .null, []) := by decide +kernel
theorem hk_266_34 : ax_look 266 34 = some (.goto 14, (0, 0, 0), .null, []) := by decide +kernel
theorem hk_266_37 : ax_look 266 37 = some (.iload_n 1, (0, 0, 0), .null, []) := by decide +kernel
theorem hk_266_38 : ax_look 266 38 = some (.iload_n 2, (0, 0, 0), .null, []) := by decide +kernel
theorem hk_266_39 : ax_look 266 39 = some (.iload_n 3, (0, 0, 0), .null, []) := by decide +kernel
theorem hk_266_40 : ax_look 266 40 = some (.aload_n 0, (0, 0, 0), .null, []) := by decide +kernel
theorem hk_266_41 : ax_look 266 41 = some (.getfield 15, (10, 0, 0), .null, [1107]) := by decide +kernel
theorem hk_266_44 : ax_look 266 44 = some (.invokestatic 251, (166, 4, 0), .null, [4143]) := by decide +kernel
theorem hk_266_47 : ax_look 266 47 = some (.pop, (0, 0, 0), .null, []) := by decide +kernel
theorem hk_266_48 : ax_look 266 48 = some (.aload_n 0, (0, 0, 0), .null, []) := by decide +kernel
theorem hk_266_49 : ax_look 266 49 = some (.iload_n 3, (0, 0, 0), .null, []) := by decide +kernel
theorem hk_266_50 : ax_look 266 50 = some (.putfield 79, (10, 3, 0), .null, [1110]) := by decide +kernel
theorem hk_266_53 : ax_look 266 53 = some (.aload_n 0, (0, 0, 0), .null, []) := by decide +kernel
theorem hk_266_54 : ax_look 266 54 = some (.areturn, (0, 0, 0), .null, []) := by decide +kernel
theorem hn_267 : (ax_mm 267).2.2.1 = 3 := by decide +kernel
theorem hr_267 : (ax_mm 267).2.2.2.1 = (some (.object "java/lang/AbstractStringBuilder")) := by decide +kernel
theorem hk_267_0 : ax_look 267 0 = some (.aload_n 1, (0, 0, 0), .null, []) := by decide +kernel
theorem hk_267_1 : ax_look 267 1 = some (.ifnonnull 8, (0, 0, 0), .null, []) := by decide +kernel
theorem hk_267_4 : ax_look 267 4 = some (.aload_n 0, (0, 0, 0), .null, []) := by decide +kernel
theorem hk_267_5 : ax_look 267 5 = some (.invokevirtual 204, (900, 0, 99), .null, []) := by decide +kernel
theorem hk_267_8 : ax_look 267 8 = some (.areturn, (0, 0, 0), .null, []) := by decide +kernel
theorem hk_267_9 : ax_look 267 9 = some (.aload_n 1, (0, 0, 0), .null, []) := by decide +kernel
theorem hk_267_10 : ax_look 267 10 = some (.invokevirtual 32, (275, 0, 11), .null, [4089, 3189]) := by decide +kernel
theorem hk_267_13 : ax_look 267 13 = some (.istore_n 2, (0, 0, 0), .null, []) := by decide +kernel
theorem hk_267_14 : ax_look 267 14 = some (.aload_n 0, (0, 0, 0), .null, []) := by decide +kernel
theorem hk_267_15 : ax_look 267 15 = some (.aload_n 0, (0, 0, 0), .null, []) := by decide +kernel
theorem hk_267_16 : ax_look 267 16 = some (.getfield 79, (10, 3, 0), .null, [1110]) := by decide +kernel
theorem hk_267_19 : ax_look 267 19 = some (.iload_n 2, (0, 0, 0), .null, []) := by decide +kernel
theorem hk_267_20 : ax_look 267 20 = some (.iadd, (0, 0, 0), .null, []) := by decide +kernel
theorem hk_267_21 : ax_look 267 21 = some (.invokevirtual 100, (900, 1, 99), .null, []) := by decide +kernel
theorem hk_267_24 : ax_look 267 24 = some (.aload_n 0, (0, 0, 0), .null, []) := by decide +kernel
theorem hk_267_25 : ax_look 267 25 = some (.aload_n 0, (0, 0, 0), .null, []) := by decide +kernel
theorem hk_267_26 : ax_look 267 26 = some (.getfield 79, (10, 3, 0), .null, [1110]) := by decide +kernel
theorem hk_267_29 : ax_look 267 29 = some (.aload_n 1, (0, 0, 0), .null, []) := by decide +kernel
theorem hk_267_30 : ax_look 267 30 = some (.invokevirtual 208, (900, 2, 99), .null, []) := by decide +kernel
theorem hk_267_33 : ax_look 267 33 = some (.aload_n 0, (0, 0, 0), .null, []) := by decide +kernel
theorem hk_267_34 : ax_look 267 34 = some (.dup, (0, 0, 0), .null, []) := by decide +kernel
theorem hk_267_35 : ax_look 267 35 = some (.getfield 79, (10, 3, 0), .null, [1110]) := by decide +kernel
theorem hk_267_38 : ax_look 267 38 = some (.iload_n 2, (0, 0, 0), .null, []) := by decide +kernel
theorem hk_267_39 : ax_look 267 39 = some (.iadd, (0, 0, 0), .null, []) := by decide +kernel
theorem hk_267_40 : ax_look 267 40 = some (.putfield 79, (10, 3, 0), .null, [1110]) := by decide +kernel
theorem hk_267_43 : ax_look 267 43 = some (.aload_n 0, (0, 0, 0), .null, []) := by decide +kernel
theorem hk_267_44 : ax_look 267 44 = some (.areturn, (0, 0, 0), .null, []) := by decide +kernel
theorem hn_268 : (ax_mm 268).2.2.1 = 3 := by decide +kernel
theorem hr_268 : (ax_mm 268).2.2.2.1 = none := by decide +kernel
theorem hk_268_0 : ax_look 268 0 = some (.aload_n 0, (0, 0, 0), .null, []) := by decide +kernel
theorem hk_268_1 : ax_look 268 1 = some (.getfield 15, (10, 0, 0), .null, [1107]) := by decide +kernel
theorem hk_268_4 : ax_look 268 4 = some (.arraylength, (0, 0, 0), .null, []) := by decide +kernel
theorem hk_268_5 : ax_look 268 5 = some (.aload_n 0, (0, 0, 0), .null, []) := by decide +kernel
theorem hk_268_6 : ax_look 268 6 = some (.getfield 22, (10, 1, 0), .null, [1108]) := by decide +kernel
theorem hk_268_9 : ax_look 268 9 = some (.ishr, (0, 0, 0), .null, []) := by decide +kernel
theorem hk_268_10 : ax_look 268 10 = some (.istore_n 2, (0, 0, 0), .null, []) := by decide +kernel
theorem hk_268_11 : ax_look 268 11 = some (.iload_n 1, (0, 0, 0), .null, []) := by decide +kernel
theorem hk_268_12 : ax_look 268 12 = some (.iload_n 2, (0, 0, 0), .null, []) := by decide +kernel
theorem hk_268_13 : ax_look 268 13 = some (.isub, (0, 0, 0), .null, []) := by decide +kernel
theorem hk_268_14 : ax_look 268 14 = some (.ifCond .le 24, (0, 0, 0), .null, []) := by decide +kernel
theorem hk_268_17 : ax_look 268 17 = some (.aload_n 0, (0, 0, 0), .null, []) := by decide +kernel
theorem hk_268_18 : ax_look 268 18 = some (.aload_n 0, (0, 0, 0), .null, []) := by decide +kernel
theorem hk_268_19 : ax_look 268 19 = some (.getfield 15, (10, 0, 0), .null, [1107]) := by decide +kernel
theorem hk_268_22 : ax_look 268 22 = some (.aload_n 0, (0, 0, 0), .null, []) := by decide +kernel
theorem hk_268_23 : ax_look 268 23 = some (.iload_n 1, (0, 0, 0), .null, []) := by decide +kernel
theorem hk_268_24 : ax_look 268 24 = some (.invokevirtual 104, (900, 1, 99), .null, []) := by decide +kernel
theorem hk_268_27 : ax_look 268 27 = some (.aload_n 0, (0, 0, 0), .null, []) := by decide +kernel
theorem hk_268_28 : ax_look 268 28 = some (.getfield 22, (10, 1, 0), .null, [1108]) := by decide +kernel
theorem hk_268_31 : ax_look 268 31 = some (.ishl, (0, 0, 0), .null, []) := by decide +kernel
theorem hk_268_32 : ax_look 268 32 = some (.invokestatic 108, (283, 2, 0), .null, [4053]) := by decide +kernel
theorem hk_268_35 : ax_look 268 35 = some (.putfield 15, (10, 0, 0), .null, [1107]) := by decide +kernel
theorem hk_268_38 : ax_look 268 38 = some (.return_, (0, 0, 0), .null, []) := by decide +kernel
theorem hn_269 : (ax_mm 269).2.2.1 = 6 := by decide +kernel
theorem hr_269 : (ax_mm 269).2.2.2.1 = (some .int) := by decide +kernel
theorem hk_269_0 : ax_look 269 0 = some (.aload_n 0, (0, 0, 0), .null, []) := by decide +kernel
theorem hk_269_1 : ax_look 269 1 = some (.getfield 15, (10, 0, 0), .null, [1107]) := by decide +kernel
theorem hk_269_4 : ax_look 269 4 = some (.arraylength, (0, 0, 0), .null, []) := by decide +kernel
theorem hk_269_5 : ax_look 269 5 = some (.istore_n 2, (0, 0, 0), .null, []) := by decide +kernel
theorem hk_269_6 : ax_look 269 6 = some (.iload_n 1, (0, 0, 0), .null, []) := by decide +kernel
theorem hk_269_7 : ax_look 269 7 = some (.aload_n 0, (0, 0, 0), .null, []) := by decide +kernel
theorem hk_269_8 : ax_look 269 8 = some (.getfield 22, (10, 1, 0), .null, [1108]) := by decide +kernel
theorem hk_269_11 : ax_look 269 11 = some (.ishl, (0, 0, 0), .null, []) := by decide +kernel
theorem hk_269_12 : ax_look 269 12 = some (.istore_n 3, (0, 0, 0), .null, []) := by decide +kernel
theorem hk_269_13 : ax_look 269 13 = some (.iload_n 3, (0, 0, 0), .null, []) := by decide +kernel
theorem hk_269_14 : ax_look 269 14 = some (.iload_n 2, (0, 0, 0), .null, []) := by decide +kernel
theorem hk_269_15 : ax_look 269 15 = some (.isub, (0, 0, 0), .null, []) := by decide +kernel
theorem hk_269_16 : ax_look 269 16 = some (.istore 4, (0, 0, 0), .null, []) := by decide +kernel
theorem hk_269_18 : ax_look 269 18 = some (.iload_n 2, (0, 0, 0), .null, []) := by decide +kernel
theorem hk_269_19 : ax_look 269 19 = some (.iload 4, (0, 0, 0), .null, []) := by decide +kernel
theorem hk_269_21 : ax_look 269 21 = some (.iload_n 2, (0, 0, 0), .null, []) := by decide +kernel
theorem hk_269_22 : ax_look 269 22 = some (.iconst 2, (0, 0, 0), .null, []) := by decide +kernel
theorem hk_269_23 : ax_look 269 23 = some (.aload_n 0, (0, 0, 0), .null, []) := by decide +kernel
theorem hk_269_24 : ax_look 269 24 = some (.getfield 22, (10, 1, 0), .null, [1108]) := by decide +kernel
theorem hk_269_27 : ax_look 269 27 = some (.ishl, (0, 0, 0), .null, []) := by decide +kernel
theorem hk_269_28 : ax_look 269 28 = some (.iadd, (0, 0, 0), .null, []) := by decide +kernel
theorem hk_269_29 : ax_look 269 29 = some (.invokestatic 114, (284, 3, 0), .null, [4042]) := by decide +kernel
theorem hk_269_32 : ax_look 269 32 = some (.istore 5, (0, 0, 0), .null, []) := by decide +kernel
theorem hk_269_34 : ax_look 269 34 = some (.iload 5, (0, 0, 0), .null, []) := by decide +kernel
theorem hk_269_36 : ax_look 269 36 = some (.ldc 39, (0, 0, 0), .int (2147483647), [4052]) := by decide +kernel
theorem hk_269_38 : ax_look 269 38 = some (.if_icmp .ne 13, (0, 0, 0), .null, []) := by decide +kernel
theorem hk_269_41 : ax_look 269 41 = some (.new 120, (900, 0, 0), .null, []) := by decide +kernel
theorem hk_269_44 : ax_look 269 44 = some (.dup, (0, 0, 0), .null, []) := by decide +kernel
theorem hk_269_45 : ax_look 269 45 = some (.ldc 122, (900, 0, 0), .null, []) := by decide +kernel
theorem hk_269_47 : ax_look 269 47 = some (.invokespecial 124, (900, 0, 0), .null, []) := by decide +kernel
theorem hk_269_50 : ax_look 269 50 = some (.athrow, (0, 0, 0), .null, []) := by decide +kernel
theorem hk_269_51 : ax_look 269 51 = some (.iload 5, (0, 0, 0), .null, []) := by decide +kernel
theorem hk_269_53 : ax_look 269 53 = some (.aload_n 0, (0, 0, 0), .null, []) := by decide +kernel
theorem hk_269_54 : ax_look 269 54 = some (.getfield 22, (10, 1, 0), .null, [1108]) := by decide +kernel
theorem hk_269_57 : ax_look 269 57 = some (.ishr, (0, 0, 0), .null, []) := by decide +kernel
theorem hk_269_58 : ax_look 269 58 = some (.ireturn, (0, 0, 0), .null, []) := by decide +kernel
theorem hn_270 : (ax_mm 270).2.2.1 = 3 := by decide +kernel
theorem hr_270 : (ax_mm 270).2.2.2.1 = none := by decide +kernel
theorem hk_270_0 : ax_look 270 0 = some (.aload_n 0, (0, 0, 0), .null, []) := by decide +kernel
theorem hk_270_1 : ax_look 270 1 = some (.aload_n 2, (0, 0, 0), .null, []) := by decide +kernel
theorem hk_270_2 : ax_look 270 2 = some (.invokevirtual 397, (900, 1, 99), .null, []) := by decide +kernel
theorem hk_270_5 : ax_look 270 5 = some (.aload_n 2, (0, 0, 0), .null, []) := by decide +kernel
theorem hk_270_6 : ax_look 270 6 = some (.aload_n 0, (0, 0, 0), .null, []) := by decide +kernel
theorem hk_270_7 : ax_look 270 7 = some (.getfield 15, (10, 0, 0), .null, [1107]) := by decide +kernel
theorem hk_270_10 : ax_look 270 10 = some (.iload_n 1, (0, 0, 0), .null, []) := by decide +kernel
theorem hk_270_11 : ax_look 270 11 = some (.aload_n 0, (0, 0, 0), .null, []) := by decide +kernel
theorem hk_270_12 : ax_look 270 12 = some (.getfield 22, (10, 1, 0), .null, [1108]) := by decide +kernel
theorem hk_270_15 : ax_look 270 15 = some (.invokevirtual 399, (277, 3, 11), .null, [4118, 4120]) := by decide +kernel
theorem hk_270_18 : ax_look 270 18 = some (.return_, (0, 0, 0), .null, []) := by decide +kernel
theorem hn_271 : (ax_mm 271).2.2.1 = 2 := by decide +kernel
theorem hr_271 : (ax_mm 271).2.2.2.1 = none := by decide +kernel
theorem hk_271_0 : ax_look 271 0 = some (.getstatic 18, (1, 0, 0), .null, [1098]) := by decide +kernel
theorem hk_271_3 : ax_look 271 3 = some (.ifCond .eq 18, (0, 0, 0), .null, []) := by decide +kernel
theorem hk_271_6 : ax_look 271 6 = some (.aload_n 0, (0, 0, 0), .null, []) := by decide +kernel
theorem hk_271_7 : ax_look 271 7 = some (.getfield 22, (10, 1, 0), .null, [1108]) := by decide +kernel
theorem hk_271_10 : ax_look 271 10 = some (.aload_n 1, (0, 0, 0), .null, []) := by decide +kernel
theorem hk_271_11 : ax_look 271 11 = some (.invokevirtual 40, (276, 0, 11), .null, [4098, 3193]) := by decide +kernel
theorem hk_271_14 : ax_look 271 14 = some (.if_icmp .eq 7, (0, 0, 0), .null, []) := by decide +kernel
theorem hk_271_17 : ax_look 271 17 = some (.aload_n 0, (0, 0, 0), .null, []) := by decide +kernel
theorem hk_271_18 : ax_look 271 18 = some (.invokevirtual 195, (900, 0, 99), .null, []) := by decide +kernel
theorem hk_271_21 : ax_look 271 21 = some (.return_, (0, 0, 0), .null, []) := by decide +kernel
theorem hn_272 : (ax_mm 272).2.2.1 = 1 := by decide +kernel
theorem hr_272 : (ax_mm 272).2.2.2.1 = (some .boolean) := by decide +kernel
theorem hk_272_0 : ax_look 272 0 = some (.getstatic 18, (1, 0, 0), .null, [1098]) := by decide +kernel
theorem hk_272_3 : ax_look 272 3 = some (.ifCond .eq 14, (0, 0, 0), .null, []) := by decide +kernel
theorem hk_272_6 : ax_look 272 6 = some (.aload_n 0, (0, 0, 0), .null, []) := by decide +kernel
theorem hk_272_7 : ax_look 272 7 = some (.getfield 22, (10, 1, 0), .null, [1108]) := by decide +kernel
theorem hk_272_10 : ax_look 272 10 = some (.ifCond .ne 7, (0, 0, 0), .null, []) := by decide +kernel
theorem hk_272_13 : ax_look 272 13 = some (.iconst 1, (0, 0, 0), .null, []) := by decide +kernel
theorem hk_272_14 : ax_look 272 14 = some (.goto 4, (0, 0, 0), .null, []) := by decide +kernel
theorem hk_272_17 : ax_look 272 17 = some (.iconst 0, (0, 0, 0), .null, []) := by decide +kernel
theorem hk_272_18 : ax_look 272 18 = some (.ireturn, (0, 0, 0), .null, []) := by decide +kernel
theorem hn_273 : (ax_mm 273).2.2.1 = 1 := by decide +kernel
theorem hr_273 : (ax_mm 273).2.2.2.1 = (some .boolean) := by decide +kernel
theorem hk_273_0 : ax_look 273 0 = some (.aload_n 0, (0, 0, 0), .null, []) := by decide +kernel
theorem hk_273_1 : ax_look 273 1 = some (.getfield 19, (6, 7, 0), .null, [1068]) := by decide +kernel
theorem hk_273_4 : ax_look 273 4 = some (.bipush 9, (0, 0, 0), .null, []) := by decide +kernel
theorem hk_273_6 : ax_look 273 6 = some (.if_icmp .ne 7, (0, 0, 0), .null, []) := by decide +kernel
theorem hk_273_9 : ax_look 273 9 = some (.iconst 1, (0, 0, 0), .null, []) := by decide +kernel
theorem hk_273_10 : ax_look 273 10 = some (.goto 4, (0, 0, 0), .null, []) := by decide +kernel
theorem hk_273_13 : ax_look 273 13 = some (.iconst 0, (0, 0, 0), .null, []) := by decide +kernel
theorem hk_273_14 : ax_look 273 14 = some (.ireturn, (0, 0, 0), .null, []) := by decide +kernel
theorem hn_274 : (ax_mm 274).2.2.1 = 1 := by decide +kernel
theorem hr_274 : (ax_mm 274).2.2.2.1 = (some .boolean) := by decide +kernel
theorem hk_274_0 : ax_look 274 0 = some (.aload_n 0, (0, 0, 0), .null, []) := by decide +kernel
theorem hk_274_1 : ax_look 274 1 = some (.getfield 19, (6, 7, 0), .null, [1068]) := by decide +kernel
theorem hk_274_4 : ax_look 274 4 = some (.bipush 9, (0, 0, 0), .null, []) := by decide +kernel
theorem hk_274_6 : ax_look 274 6 = some (.if_icmp .ne 7, (0, 0, 0), .null, []) := by decide +kernel
theorem hk_274_9 : ax_look 274 9 = some (.iconst 1, (0, 0, 0), .null, []) := by decide +kernel
theorem hk_274_10 : ax_look 274 10 = some (.goto 4, (0, 0, 0), .null, []) := by decide +kernel
theorem hk_274_13 : ax_look 274 13 = some (.iconst 0, (0, 0, 0), .null, []) := by decide +kernel
theorem hk_274_14 : ax_look 274 14 = some (.ireturn, (0, 0, 0), .null, []) := by decide +kernel
theorem hn_275 : (ax_mm 275).2.2.1 = 1 := by decide +kernel
theorem hr_275 : (ax_mm 275).2.2.2.1 = (some .int) := by decide +kernel
theorem hk_275_0 : ax_look 275 0 = some (.aload_n 0, (0, 0, 0), .null, []) := by decide +kernel
theorem hk_275_1 : ax_look 275 1 = some (.getfield 9, (11, 0, 0), .null, [4197]) := by decide +kernel
theorem hk_275_4 : ax_look 275 4 = some (.arraylength, (0, 0, 0), .null, []) := by decide +kernel
theorem hk_275_5 : ax_look 275 5 = some (.aload_n 0, (0, 0, 0), .null, []) := by decide +kernel
theorem hk_275_6 : ax_look 275 6 = some (.invokevirtual 335, (276, 0, 11), .null, [3191, 3193]) := by decide +kernel
theorem hk_275_9 : ax_look 275 9 = some (.ishr, (0, 0, 0), .null, []) := by decide +kernel
theorem hk_275_10 : ax_look 275 10 = some (.ireturn, (0, 0, 0), .null, []) := by decide +kernel
theorem hn_276 : (ax_mm 276).2.2.1 = 1 := by decide +kernel
theorem hr_276 : (ax_mm 276).2.2.2.1 = (some .byte) := by decide +kernel
theorem hk_276_0 : ax_look 276 0 = some (.getstatic 38, (1, 0, 0), .null, [3195]) := by decide +kernel
theorem hk_276_3 : ax_look 276 3 = some (.ifCond .eq 10, (0, 0, 0), .null, []) := by decide +kernel
theorem hk_276_6 : ax_look 276 6 = some (.aload_n 0, (0, 0, 0), .null, []) := by decide +kernel
theorem hk_276_7 : ax_look 276 7 = some (.getfield 15, (11, 1, 0), .null, [4198]) := by decide +kernel
theorem hk_276_10 : ax_look 276 10 = some (.goto 4, (0, 0, 0), .null, []) := by decide +kernel
theorem hk_276_13 : ax_look 276 13 = some (.iconst 1, (0, 0, 0), .null, []) := by decide +kernel
theorem hk_276_14 : ax_look 276 14 = some (.ireturn, (0, 0, 0), .null, []) := by decide +kernel
theorem hn_277 : (ax_mm 277).2.2.1 = 4 := by decide +kernel
theorem hr_277 : (ax_mm 277).2.2.2.1 = none := by decide +kernel
theorem hk_277_0 : ax_look 277 0 = some (.aload_n 0, (0, 0, 0), .null, []) := by decide +kernel
theorem hk_277_1 : ax_look 277 1 = some (.invokevirtual 335, (276, 0, 11), .null, [3191, 3193]) := by decide +kernel
theorem hk_277_4 : ax_look 277 4 = some (.iload_n 3, (0, 0, 0), .null, []) := by decide +kernel
theorem hk_277_5 : ax_look 277 5 = some (.if_icmp .ne 23, (0, 0, 0), .null, []) := by decide +kernel
theorem hk_277_8 : ax_look 277 8 = some (.aload_n 0, (0, 0, 0), .null, []) := by decide +kernel
theorem hk_277_9 : ax_look 277 9 = some (.getfield 9, (11, 0, 0), .null, [4197]) := by decide +kernel
theorem hk_277_12 : ax_look 277 12 = some (.iconst 0, (0, 0, 0), .null, []) := by decide +kernel
theorem hk_277_13 : ax_look 277 13 = some (.aload_n 1, (0, 0, 0), .null, []) := by decide +kernel
theorem hk_277_14 : ax_look 277 14 = some (.iload_n 2, (0, 0, 0), .null, []) := by decide +kernel
theorem hk_277_15 : ax_look 277 15 = some (.iload_n 3, (0, 0, 0), .null, []) := by decide +kernel
theorem hk_277_16 : ax_look 277 16 = some (.ishl, (0, 0, 0), .null, []) := by decide +kernel
theorem hk_277_17 : ax_look 277 17 = some (.aload_n 0, (0, 0, 0), .null, []) := by decide +kernel
theorem hk_277_18 : ax_look 277 18 = some (.getfield 9, (11, 0, 0), .null, [4197]) := by decide +kernel
theorem hk_277_21 : ax_look 277 21 = some (.arraylength, (0, 0, 0), .null, []) := by decide +kernel
theorem hk_277_22 : ax_look 277 22 = some (.invokestatic 212, (703, 5, 0), .null, [4122]) := by decide +kernel
theorem hk_277_25 : ax_look 277 25 = some (.goto 18, (0, 0, 0), .null, []) := by decide +kernel
theorem hk_277_28 : ax_look 277 28 = some (.aload_n 0, (0, 0, 0), .null, []) := by decide +kernel
theorem hk_277_29 : ax_look 277 29 = some (.getfield 9, (11, 0, 0), .null, [4197]) := by decide +kernel
theorem hk_277_32 : ax_look 277 32 = some (.iconst 0, (0, 0, 0), .null, []) := by decide +kernel
theorem hk_277_33 : ax_look 277 33 = some (.aload_n 1, (0, 0, 0), .null, []) := by decide +kernel
theorem hk_277_34 : ax_look 277 34 = some (.iload_n 2, (0, 0, 0), .null, []) := by decide +kernel
theorem hk_277_35 : ax_look 277 35 = some (.aload_n 0, (0, 0, 0), .null, []) := by decide +kernel
theorem hk_277_36 : ax_look 277 36 = some (.getfield 9, (11, 0, 0), .null, [4197]) := by decide +kernel
theorem hk_277_39 : ax_look 277 39 = some (.arraylength, (0, 0, 0), .null, []) := by decide +kernel
theorem hk_277_40 : ax_look 277 40 = some (.invokestatic 106, (156, 5, 0), .null, [4123]) := by decide +kernel
theorem hk_277_43 : ax_look 277 43 = some (.return_, (0, 0, 0), .null, []) := by decide +kernel
theorem hn_278 : (ax_mm 278).2.2.1 = 2 := by decide +kernel
theorem hr_278 : (ax_mm 278).2.2.2.1 = none := by decide +kernel
theorem hk_278_0 : ax_look 278 0 = some (.iload_n 0, (0, 0, 0), .null, []) := by decide +kernel
theorem hk_278_1 : ax_look 278 1 = some (.iload_n 1, (0, 0, 0), .null, []) := by decide +kernel
theorem hk_278_2 : ax_look 278 2 = some (.getstatic 1053, (900, 0, 0), .null, []) := by decide +kernel
theorem hk_278_5 : ax_look 278 5 = some (.invokestatic 1059, (279, 3, 0), .null, [3218]) := by decide +kernel
theorem hk_278_8 : ax_look 278 8 = some (.pop, (0, 0, 0), .null, []) := by decide +kernel
theorem hk_278_9 : ax_look 278 9 = some (.return_, (0, 0, 0), .null, []) := by decide +kernel
theorem hn_279 : (ax_mm 279).2.2.1 = 3 := by decide +kernel
theorem hr_279 : (ax_mm 279).2.2.2.1 = (some .int) := by decide +kernel
theorem hk_279_0 : ax_look 279 0 = some (.iload_n 0, (0, 0, 0), .null, []) := by decide +kernel
theorem hk_279_1 : ax_look 279 1 = some (.ifCond .lt 8, (0, 0, 0), .null, []) := by decide +kernel
theorem hk_279_4 : ax_look 279 4 = some (.iload_n 0, (0, 0, 0), .null, []) := by decide +kernel
theorem hk_279_5 : ax_look 279 5 = some (.iload_n 1, (0, 0, 0), .null, []) := by decide +kernel
theorem hk_279_6 : ax_look 279 6 = some (.if_icmp .lt 10, (0, 0, 0), .null, []) := by decide +kernel
theorem hk_279_9 : ax_look 279 9 = some (.aload_n 2, (0, 0, 0), .null, []) := by decide +kernel
theorem hk_279_10 : ax_look 279 10 = some (.iload_n 0, (0, 0, 0), .null, []) := by decide +kernel
theorem hk_279_11 : ax_look 279 11 = some (.iload_n 1, (0, 0, 0), .null, []) := by decide +kernel
theorem hk_279_12 : ax_look 279 12 = some (.invokestatic 95, (900, 0, 0), .null, []) := by decide +kernel
theorem hk_279_15 : ax_look 279 15 = some (.athrow, (0, 0, 0), .null, []) := by decide +kernel
theorem hk_279_16 : ax_look 279 16 = some (.iload_n 0, (0, 0, 0), .null, []) := by decide +kernel
theorem hk_279_17 : ax_look 279 17 = some (.ireturn, (0, 0, 0), .null, []) := by decide +kernel
theorem hn_280 : (ax_mm 280).2.2.1 = 1 := by decide +kernel
theorem hr_280 : (ax_mm 280).2.2.2.1 = (some .boolean) := by decide +kernel
theorem hk_280_0 : ax_look 280 0 = some (.iload_n 0, (0, 0, 0), .null, []) := by decide +kernel
theorem hk_280_1 : ax_look 280 1 = some (.sipush 255, (0, 0, 0), .null, []) := by decide +kernel
theorem hk_280_4 : ax_look 280 4 = some (.if_icmp .gt 7, (0, 0, 0), .null, []) := by decide +kernel
theorem hk_280_7 : ax_look 280 7 = some (.iconst 1, (0, 0, 0), .null, []) := by decide +kernel
theorem hk_280_8 : ax_look 280 8 = some (.goto 4, (0, 0, 0), .null, []) := by decide +kernel
theorem hk_280_11 : ax_look 280 11 = some (.iconst 0, (0, 0, 0), .null, []) := by decide +kernel
theorem hk_280_12 : ax_look 280 12 = some (.ireturn, (0, 0, 0), .null, []) := by decide +kernel
theorem hn_281 : (ax_mm 281).2.2.1 = 4 := by decide +kernel
theorem hr_281 : (ax_mm 281).2.2.2.1 = (some .int) := by decide +kernel
theorem hk_281_0 : ax_look 281 0 = some (.iconst 1, (0, 0, 0), .null, []) := by decide +kernel
theorem hk_281_1 : ax_look 281 1 = some (.istore_n 1, (0, 0, 0), .null, []) := by decide +kernel
theorem hk_281_2 : ax_look 281 2 = some (.iload_n 0, (0, 0, 0), .null, []) := by decide +kernel
theorem hk_281_3 : ax_look 281 3 = some (.ifCond .lt 8, (0, 0, 0), .null, []) := by decide +kernel
theorem hk_281_6 : ax_look 281 6 = some (.iconst 0, (0, 0, 0), .null, []) := by decide +kernel
theorem hk_281_7 : ax_look 281 7 = some (.istore_n 1, (0, 0, 0), .null, []) := by decide +kernel
theorem hk_281_8 : ax_look 281 8 = some (.iload_n 0, (0, 0, 0), .null, []) := by decide +kernel
theorem hk_281_9 : ax_look 281 9 = some (.ineg, (0, 0, 0), .null, []) := by decide +kernel
theorem hk_281_10 : ax_look 281 10 = some (.istore_n 0, (0, 0, 0), .null, []) := by decide +kernel
theorem hk_281_11 : ax_look 281 11 = some (.bipush (-10), (0, 0, 0), .null, []) := by decide +kernel
theorem hk_281_13 : ax_look 281 13 = some (.istore_n 2, (0, 0, 0), .null, []) := by decide +kernel
theorem hk_281_14 : ax_look 281 14 = some (.iconst 1, (0, 0, 0), .null, []) := by decide +kernel
theorem hk_281_15 : ax_look 281 15 = some (.istore_n 3, (0, 0, 0), .null, []) := by decide +kernel
theorem hk_281_16 : ax_look 281 16 = some (.iload_n 3, (0, 0, 0), .null, []) := by decide +kernel
theorem hk_281_17 : ax_look 281 17 = some (.bipush 10, (0, 0, 0), .null, []) := by decide +kernel
theorem hk_281_19 : ax_look 281 19 = some (.if_icmp .ge 23, (0, 0, 0), .null, []) := by decide +kernel
theorem hk_281_22 : ax_look 281 22 = some (.iload_n 0, (0, 0, 0), .null, []) := by decide +kernel
theorem hk_281_23 : ax_look 281 23 = some (.iload_n 2, (0, 0, 0), .null, []) := by decide +kernel
theorem hk_281_24 : ax_look 281 24 = some (.if_icmp .le 7, (0, 0, 0), .null, []) := by decide +kernel
theorem hk_281_27 : ax_look 281 27 = some (.iload_n 3, (0, 0, 0), .null, []) := by decide +kernel
theorem hk_281_28 : ax_look 281 28 = some (.iload_n 1, (0, 0, 0), .null, []) := by decide +kernel
theorem hk_281_29 : ax_look 281 29 = some (.iadd, (0, 0, 0), .null, []) := by decide +kernel
theorem hk_281_30 : ax_look 281 30 = some (.ireturn, (0, 0, 0), .null, []) := by decide +kernel
theorem hk_281_31 : ax_look 281 31 = some (.bipush 10, (0, 0, 0), .null, []) := by decide +kernel
theorem hk_281_33 : ax_look 281 33 = some (.iload_n 2, (0, 0, 0), .null, []) := by decide +kernel
theorem hk_281_34 : ax_look 281 34 = some (.imul, (0, 0, 0), .null, []) := by decide +kernel
theorem hk_281_35 : ax_look 281 35 = some (.istore_n 2, (0, 0, 0), .null, []) := by decide +kernel
theorem hk_281_36 : ax_look 281 36 = some (.iinc 3 1, (0, 0, 0), .null, []) := by decide +kernel
theorem hk_281_39 : ax_look 281 39 = some (.goto (-23), (0, 0, 0), .null, []) := by decide +kernel
theorem hk_281_42 : ax_look 281 42 = some (.bipush 10, (0, 0, 0), .null, []) := by decide +kernel
theorem hk_281_44 : ax_look 281 44 = some (.iload_n 1, (0, 0, 0), .null, []) := by decide +kernel
theorem hk_281_45 : ax_look 281 45 = some (.iadd, (0, 0, 0), .null, []) := by decide +kernel
theorem hk_281_46 : ax_look 281 46 = some (.ireturn, (0, 0, 0), .null, []) := by decide +kernel
theorem hn_282 : (ax_mm 282).2.2.1 = 7 := by decide +kernel
theorem hr_282 : (ax_mm 282).2.2.2.1 = (some .int) := by decide +kernel
theorem hk_282_0 : ax_look 282 0 = some (.iload_n 1, (0, 0, 0), .null, []) := by decide +kernel
theorem hk_282_1 : ax_look 282 1 = some (.istore 5, (0, 0, 0), .null, []) := by decide +kernel
theorem hk_282_3 : ax_look 282 3 = some (.iload_n 0, (0, 0, 0), .null, []) := by decide +kernel
theorem hk_282_4 : ax_look 282 4 = some (.ifCond .ge 7, (0, 0, 0), .null, []) := by decide +kernel
theorem hk_282_7 : ax_look 282 7 = some (.iconst 1, (0, 0, 0), .null, []) := by decide +kernel
theorem hk_282_8 : ax_look 282 8 = some (.goto 4, (0, 0, 0), .null, []) := by decide +kernel
theorem hk_282_11 : ax_look 282 11 = some (.iconst 0, (0, 0, 0), .null, []) := by decide +kernel
theorem hk_282_12 : ax_look 282 12 = some (.istore 6, (0, 0, 0), .null, []) := by decide +kernel
theorem hk_282_14 : ax_look 282 14 = some (.iload 6, (0, 0, 0), .null, []) := by decide +kernel
theorem hk_282_16 : ax_look 282 16 = some (.ifCond .ne 6, (0, 0, 0), .null, []) := by decide +kernel
theorem hk_282_19 : ax_look 282 19 = some (.iload_n 0, (0, 0, 0), .null, []) := by decide +kernel
theorem hk_282_20 : ax_look 282 20 = some (.ineg, (0, 0, 0), .null, []) := by decide +kernel
theorem hk_282_21 : ax_look 282 21 = some (.istore_n 0, (0, 0, 0), .null, []) := by decide +kernel
theorem hk_282_22 : ax_look 282 22 = some (.iload_n 0, (0, 0, 0), .null, []) := by decide +kernel
theorem hk_282_23 : ax_look 282 23 = some (.bipush (-100), (0, 0, 0), .null, []) := by decide +kernel
theorem hk_282_25 : ax_look 282 25 = some (.if_icmp .gt 47, (0, 0, 0), .null, []) := by decide +kernel
theorem hk_282_28 : ax_look 282 28 = some (.iload_n 0, (0, 0, 0), .null, []) := by decide +kernel
theorem hk_282_29 : ax_look 282 29 = some (.bipush 100, (0, 0, 0), .null, []) := by decide +kernel
theorem hk_282_31 : ax_look 282 31 = some (.idiv, (0, 0, 0), .null, []) := by decide +kernel
theorem hk_282_32 : ax_look 282 32 = some (.istore_n 3, (0, 0, 0), .null, []) := by decide +kernel
theorem hk_282_33 : ax_look 282 33 = some (.iload_n 3, (0, 0, 0), .null, []) := by decide +kernel
theorem hk_282_34 : ax_look 282 34 = some (.bipush 100, (0, 0, 0), .null, []) := by decide +kernel
theorem hk_282_36 : ax_look 282 36 = some (.imul, (0, 0, 0), .null, []) := by decide +kernel
theorem hk_282_37 : ax_look 282 37 = some (.iload_n 0, (0, 0, 0), .null, []) := by decide +kernel
theorem hk_282_38 : ax_look 282 38 = some (.isub, (0, 0, 0), .null, []) := by decide +kernel
theorem hk_282_39 : ax_look 282 39 = some (.istore 4, (0, 0, 0), .null, []) := by decide +kernel
theorem hk_282_41 : ax_look 282 41 = some (.iload_n 3, (0, 0, 0), .null, []) := by decide +kernel
theorem hk_282_42 : ax_look 282 42 = some (.istore_n 0, (0, 0, 0), .null, []) := by decide +kernel
theorem hk_282_43 : ax_look 282 43 = some (.aload_n 2, (0, 0, 0), .null, []) := by decide +kernel
theorem hk_282_44 : ax_look 282 44 = some (.iinc 5 (-1), (0, 0, 0), .null, []) := by decide +kernel
theorem hk_282_47 : ax_look 282 47 = some (.iload 5, (0, 0, 0), .null, []) := by decide +kernel
theorem hk_282_49 : ax_look 282 49 = some (.getstatic 83, (900, 0, 0), .null, []) := by decide +kernel
theorem hk_282_52 : ax_look 282 52 = some (.iload 4, (0, 0, 0), .null, []) := by decide +kernel
theorem hk_282_54 : ax_look 282 54 = some (.baload, (0, 0, 0), .null, []) := by decide +kernel
theorem hk_282_55 : ax_look 282 55 = some (.bastore, (0, 0, 0), .null, []) := by decide +kernel
theorem hk_282_56 : ax_look 282 56 = some (.aload_n 2, (0, 0, 0), .null, []) := by decide +kernel
theorem hk_282_57 : ax_look 282 57 = some (.iinc 5 (-1), (0, 0, 0), .null, []) := by decide +kernel
theorem hk_282_60 : ax_look 282 60 = some (.iload 5, (0, 0, 0), .null, []) := by decide +kernel
theorem hk_282_62 : ax_look 282 62 = some (.getstatic 87, (900, 0, 0), .null, []) := by decide +kernel
theorem hk_282_65 : ax_look 282 65 = some (.iload 4, (0, 0, 0), .null, []) := by decide +kernel
theorem hk_282_67 : ax_look 282 67 = some (.baload, (0, 0, 0), .null, []) := by decide +kernel
theorem hk_282_68 : ax_look 282 68 = some (.bastore, (0, 0, 0), .null, []) := by decide +kernel
theorem hk_282_69 : ax_look 282 69 = some (.goto (-47), (0, 0, 0), .null, []) := by decide +kernel
theorem hk_282_72 : ax_look 282 72 = some (.aload_n 2, (0, 0, 0), .null, []) := by decide +kernel
theorem hk_282_73 : ax_look 282 73 = some (.iinc 5 (-1), (0, 0, 0), .null, []) := by decide +kernel
theorem hk_282_76 : ax_look 282 76 = some (.iload 5, (0, 0, 0), .null, []) := by decide +kernel
theorem hk_282_78 : ax_look 282 78 = some (.getstatic 83, (900, 0, 0), .null, []) := by decide +kernel
theorem hk_282_81 : ax_look 282 81 = some (.iload_n 0, (0, 0, 0), .null, []) := by decide +kernel
theorem hk_282_82 : ax_look 282 82 = some (.ineg, (0, 0, 0), .null, []) := by decide +kernel
theorem hk_282_83 : ax_look 282 83 = some (.baload, (0, 0, 0), .null, []) := by decide +kernel
theorem hk_282_84 : ax_look 282 84 = some (.bastore, (0, 0, 0), .null, []) := by decide +kernel
theorem hk_282_85 : ax_look 282 85 = some (.iload_n 0, (0, 0, 0), .null, []) := by decide +kernel
theorem hk_282_86 : ax_look 282 86 = some (.bipush (-9), (0, 0, 0), .null, []) := by decide +kernel
theorem hk_282_88 : ax_look 282 88 = some (.if_icmp .ge 16, (0, 0, 0), .null, []) := by decide +kernel
theorem hk_282_91 : ax_look 282 91 = some (.aload_n 2, (0, 0, 0), .null, []) := by decide +kernel
theorem hk_282_92 : ax_look 282 92 = some (.iinc 5 (-1), (0, 0, 0), .null, []) := by decide +kernel
theorem hk_282_95 : ax_look 282 95 = some (.iload 5, (0, 0, 0), .null, []) := by decide +kernel
theorem hk_282_97 : ax_look 282 97 = some (.getstatic 87, (900, 0, 0), .null, []) := by decide +kernel
theorem hk_282_100 : ax_look 282 100 = some (.iload_n 0, (0, 0, 0), .null, []) := by decide +kernel
theorem hk_282_101 : ax_look 282 101 = some (.ineg, (0, 0, 0), .null, []) := by decide +kernel
theorem hk_282_102 : ax_look 282 102 = some (.baload, (0, 0, 0), .null, []) := by decide +kernel
theorem hk_282_103 : ax_look 282 103 = some (.bastore, (0, 0, 0), .null, []) := by decide +kernel
theorem hk_282_104 : ax_look 282 104 = some (.iload 6, (0, 0, 0), .null, []) := by decide +kernel
theorem hk_282_106 : ax_look 282 106 = some (.ifCond .eq 12, (0, 0, 0), .null, []) := by decide +kernel
theorem hk_282_109 : ax_look 282 109 = some (.aload_n 2, (0, 0, 0), .null, []) := by decide +kernel
theorem hk_282_110 : ax_look 282 110 = some (.iinc 5 (-1), (0, 0, 0), .null, []) := by decide +kernel
theorem hk_282_113 : ax_look 282 113 = some (.iload 5, (0, 0, 0), .null, []) := by decide +kernel
theorem hk_282_115 : ax_look 282 115 = some (.bipush 45, (0, 0, 0), .null, []) := by decide +kernel
theorem hk_282_117 : ax_look 282 117 = some (.bastore, (0, 0, 0), .null, []) := by decide +kernel
theorem hk_282_118 : ax_look 282 118 = some (.iload 5, (0, 0, 0), .null, []) := by decide +kernel
theorem hk_282_120 : ax_look 282 120 = some (.ireturn, (0, 0, 0), .null, []) := by decide +kernel
theorem hn_283 : (ax_mm 283).2.2.1 = 3 := by decide +kernel
theorem hr_283 : (ax_mm 283).2.2.2.1 = (some (.array .byte)) := by decide +kernel
theorem hk_283_0 : ax_look 283 0 = some (.iload_n 1, (0, 0, 0), .null, []) := by decide +kernel
theorem hk_283_1 : ax_look 283 1 = some (.aload_n 0, (0, 0, 0), .null, []) := by decide +kernel
theorem hk_283_2 : ax_look 283 2 = some (.arraylength, (0, 0, 0), .null, []) := by decide +kernel
theorem hk_283_3 : ax_look 283 3 = some (.if_icmp .ne 11, (0, 0, 0), .null, []) := by decide +kernel
theorem hk_283_6 : ax_look 283 6 = some (.aload_n 0, (0, 0, 0), .null, []) := by decide +kernel
theorem hk_283_7 : ax_look 283 7 = some (.invokevirtual 310, (900, 0, 0), .null, []) := by decide +kernel
theorem hk_283_10 : ax_look 283 10 = some (.checkcast 311, (0, 0, 0), .null, []) := by decide +kernel
theorem hk_283_13 : ax_look 283 13 = some (.areturn, (0, 0, 0), .null, []) := by decide +kernel
theorem hk_283_14 : ax_look 283 14 = some (.iload_n 1, (0, 0, 0), .null, []) := by decide +kernel
theorem hk_283_15 : ax_look 283 15 = some (.newarray .byte, (3, 0, 0), .null, [1120]) := by decide +kernel
theorem hk_283_17 : ax_look 283 17 = some (.astore_n 2, (0, 0, 0), .null, []) := by decide +kernel
theorem hk_283_18 : ax_look 283 18 = some (.aload_n 0, (0, 0, 0), .null, []) := by decide +kernel
theorem hk_283_19 : ax_look 283 19 = some (.iconst 0, (0, 0, 0), .null, []) := by decide +kernel
theorem hk_283_20 : ax_look 283 20 = some (.aload_n 2, (0, 0, 0), .null, []) := by decide +kernel
theorem hk_283_21 : ax_look 283 21 = some (.iconst 0, (0, 0, 0), .null, []) := by decide +kernel
theorem hk_283_22 : ax_look 283 22 = some (.aload_n 0, (0, 0, 0), .null, []) := by decide +kernel
theorem hk_283_23 : ax_look 283 23 = some (.arraylength, (0, 0, 0), .null, []) := by decide +kernel
theorem hk_283_24 : ax_look 283 24 = some (.iload_n 1, (0, 0, 0), .null, []) := by decide +kernel
theorem hk_283_25 : ax_look 283 25 = some (.invokestatic 304, (900, 0, 0), .null, []) := by decide +kernel
theorem hk_283_28 : ax_look 283 28 = some (.invokestatic 150, (703, 5, 0), .null, [4066]) := by decide +kernel
theorem hk_283_31 : ax_look 283 31 = some (.aload_n 2, (0, 0, 0), .null, []) := by decide +kernel
theorem hk_283_32 : ax_look 283 32 = some (.areturn, (0, 0, 0), .null, []) := by decide +kernel
theorem hn_284 : (ax_mm 284).2.2.1 = 4 := by decide +kernel
theorem hr_284 : (ax_mm 284).2.2.2.1 = (some .int) := by decide +kernel
theorem hk_284_0 : ax_look 284 0 = some (.iload_n 0, (0, 0, 0), .null, []) := by decide +kernel
theorem hk_284_1 : ax_look 284 1 = some (.iload_n 1, (0, 0, 0), .null, []) := by decide +kernel
theorem hk_284_2 : ax_look 284 2 = some (.iload_n 2, (0, 0, 0), .null, []) := by decide +kernel
theorem hk_284_3 : ax_look 284 3 = some (.invokestatic 194, (702, 2, 0), .null, [4045]) := by decide +kernel
theorem hk_284_6 : ax_look 284 6 = some (.iadd, (0, 0, 0), .null, []) := by decide +kernel
theorem hk_284_7 : ax_look 284 7 = some (.istore_n 3, (0, 0, 0), .null, []) := by decide +kernel
theorem hk_284_8 : ax_look 284 8 = some (.iconst 0, (0, 0, 0), .null, []) := by decide +kernel
theorem hk_284_9 : ax_look 284 9 = some (.iload_n 3, (0, 0, 0), .null, []) := by decide +kernel
theorem hk_284_10 : ax_look 284 10 = some (.if_icmp .ge 11, (0, 0, 0), .null, []) := by decide +kernel
theorem hk_284_13 : ax_look 284 13 = some (.iload_n 3, (0, 0, 0), .null, []) := by decide +kernel
theorem hk_284_14 : ax_look 284 14 = some (.ldc 200, (0, 0, 0), .int (2147483639), [4048]) := by decide +kernel
theorem hk_284_16 : ax_look 284 16 = some (.if_icmp .gt 5, (0, 0, 0), .null, []) := by decide +kernel
theorem hk_284_19 : ax_look 284 19 = some (.iload_n 3, (0, 0, 0), .null, []) := by decide +kernel
theorem hk_284_20 : ax_look 284 20 = some (.ireturn, (0, 0, 0), .null, []) := by decide +kernel
theorem hk_284_21 : ax_look 284 21 = some (.iload_n 0, (0, 0, 0), .null, []) := by decide +kernel
theorem hk_284_22 : ax_look 284 22 = some (.iload_n 1, (0, 0, 0), .null, []) := by decide +kernel
theorem hk_284_23 : ax_look 284 23 = some (.invokestatic 201, (177, 2, 0), .null, [4049]) := by decide +kernel
theorem hk_284_26 : ax_look 284 26 = some (.ireturn, (0, 0, 0), .null, []) := by decide +kernel
theorem hn_285 : (ax_mm 285).2.2.1 = 23 := by decide +kernel
theorem hr_285 : (ax_mm 285).2.2.2.1 = (some .boolean) := by decide +kernel
theorem hk_285_0 : ax_look 285 0 = some (.new 29, (8, 0, 0), .null, [1031, 1032, 1001]) := by decide +kernel
theorem hk_285_3 : ax_look 285 3 = some (.dup, (0, 0, 0), .null, []) := by decide +kernel
theorem hk_285_4 : ax_look 285 4 = some (.invokespecial 96, (69, 0, 0), .null, [1033]) := by decide +kernel
theorem hk_285_7 : ax_look 285 7 = some (.astore_n 1, (0, 0, 0), .null, []) := by decide +kernel
theorem hk_285_8 : ax_look 285 8 = some (.iconst 4, (0, 0, 0), .null, []) := by decide +kernel
theorem hk_285_9 : ax_look 285 9 = some (.newarray .int, (0, 0, 0), .null, [1053]) := by decide +kernel
theorem hk_285_11 : ax_look 285 11 = some (.astore_n 2, (0, 0, 0), .null, []) := by decide +kernel
theorem hk_285_12 : ax_look 285 12 = some (.iconst 4, (0, 0, 0), .null, []) := by decide +kernel
theorem hk_285_13 : ax_look 285 13 = some (.newarray .int, (0, 0, 0), .null, [1053]) := by decide +kernel
theorem hk_285_15 : ax_look 285 15 = some (.astore_n 3, (0, 0, 0), .null, []) := by decide +kernel
theorem hk_285_16 : ax_look 285 16 = some (.iconst 4, (0, 0, 0), .null, []) := by decide +kernel
theorem hk_285_17 : ax_look 285 17 = some (.newarray .int, (0, 0, 0), .null, [1053]) := by decide +kernel
theorem hk_285_19 : ax_look 285 19 = some (.astore 4, (0, 0, 0), .null, []) := by decide +kernel
theorem hk_285_21 : ax_look 285 21 = some (.iconst 0, (0, 0, 0), .null, []) := by decide +kernel
theorem hk_285_22 : ax_look 285 22 = some (.istore 5, (0, 0, 0), .null, []) := by decide +kernel
theorem hk_285_24 : ax_look 285 24 = some (.iload 5, (0, 0, 0), .null, []) := by decide +kernel
theorem hk_285_26 : ax_look 285 26 = some (.iconst 4, (0, 0, 0), .null, []) := by decide +kernel
theorem hk_285_27 : ax_look 285 27 = some (.if_icmp .ge 69, (0, 0, 0), .null, []) := by decide +kernel
theorem hk_285_30 : ax_look 285 30 = some (.aload_n 2, (0, 0, 0), .null, []) := by decide +kernel
theorem hk_285_31 : ax_look 285 31 = some (.iload 5, (0, 0, 0), .null, []) := by decide +kernel
theorem hk_285_33 : ax_look 285 33 = some (.aload_n 0, (0, 0, 0), .null, []) := by decide +kernel
theorem hk_285_34 : ax_look 285 34 = some (.iconst 4, (0, 0, 0), .null, []) := by decide +kernel
theorem hk_285_35 : ax_look 285 35 = some (.iload 5, (0, 0, 0), .null, []) := by decide +kernel
theorem hk_285_37 : ax_look 285 37 = some (.iadd, (0, 0, 0), .null, []) := by decide +kernel
theorem hk_285_38 : ax_look 285 38 = some (.invokestatic 97, (131, 2, 0), .null, [3180]) := by decide +kernel
theorem hk_285_41 : ax_look 285 41 = some (.iconst 2, (0, 0, 0), .null, []) := by decide +kernel
theorem hk_285_42 : ax_look 285 42 = some (.invokestatic 38, (130, 2, 0), .null, [3176]) := by decide +kernel
theorem hk_285_45 : ax_look 285 45 = some (.iastore, (0, 0, 0), .null, []) := by decide +kernel
theorem hk_285_46 : ax_look 285 46 = some (.aload_n 3, (0, 0, 0), .null, []) := by decide +kernel
theorem hk_285_47 : ax_look 285 47 = some (.iload 5, (0, 0, 0), .null, []) := by decide +kernel
theorem hk_285_49 : ax_look 285 49 = some (.aload_n 0, (0, 0, 0), .null, []) := by decide +kernel
theorem hk_285_50 : ax_look 285 50 = some (.iconst 4, (0, 0, 0), .null, []) := by decide +kernel
theorem hk_285_51 : ax_look 285 51 = some (.iload 5, (0, 0, 0), .null, []) := by decide +kernel
theorem hk_285_53 : ax_look 285 53 = some (.iadd, (0, 0, 0), .null, []) := by decide +kernel
theorem hk_285_54 : ax_look 285 54 = some (.invokestatic 97, (131, 2, 0), .null, [3180]) := by decide +kernel
theorem hk_285_57 : ax_look 285 57 = some (.iconst 4, (0, 0, 0), .null, []) := by decide +kernel
theorem hk_285_58 : ax_look 285 58 = some (.ishr, (0, 0, 0), .null, []) := by decide +kernel
theorem hk_285_59 : ax_look 285 59 = some (.bipush 6, (0, 0, 0), .null, []) := by decide +kernel
theorem hk_285_61 : ax_look 285 61 = some (.invokestatic 38, (130, 2, 0), .null, [3176]) := by decide +kernel
theorem hk_285_64 : ax_look 285 64 = some (.iconst 3, (0, 0, 0), .null, []) := by decide +kernel
theorem hk_285_65 : ax_look 285 65 = some (.isub, (0, 0, 0), .null, []) := by decide +kernel
theorem hk_285_66 : ax_look 285 66 = some (.iastore, (0, 0, 0), .null, []) := by decide +kernel
theorem hk_285_67 : ax_look 285 67 = some (.aload 4, (0, 0, 0), .null, []) := by decide +kernel
theorem hk_285_69 : ax_look 285 69 = some (.iload 5, (0, 0, 0), .null, []) := by decide +kernel
theorem hk_285_71 : ax_look 285 71 = some (.aload_n 1, (0, 0, 0), .null, []) := by decide +kernel
theorem hk_285_72 : ax_look 285 72 = some (.aload_n 0, (0, 0, 0), .null, []) := by decide +kernel
theorem hk_285_73 : ax_look 285 73 = some (.iload 5, (0, 0, 0), .null, []) := by decide +kernel
theorem hk_285_75 : ax_look 285 75 = some (.invokestatic 97, (131, 2, 0), .null, [3180]) := by decide +kernel
theorem hk_285_78 : ax_look 285 78 = some (.aload_n 2, (0, 0, 0), .null, []) := by decide +kernel
theorem hk_285_79 : ax_look 285 79 = some (.iload 5, (0, 0, 0), .null, []) := by decide +kernel
theorem hk_285_81 : ax_look 285 81 = some (.iaload, (0, 0, 0), .null, []) := by decide +kernel
theorem hk_285_82 : ax_look 285 82 = some (.aload_n 3, (0, 0, 0), .null, []) := by decide +kernel
theorem hk_285_83 : ax_look 285 83 = some (.iload 5, (0, 0, 0), .null, []) := by decide +kernel
theorem hk_285_85 : ax_look 285 85 = some (.iaload, (0, 0, 0), .null, []) := by decide +kernel
theorem hk_285_86 : ax_look 285 86 = some (.invokestatic 101, (139, 4, 0), .null, [4231]) := by decide +kernel
theorem hk_285_89 : ax_look 285 89 = some (.iastore, (0, 0, 0), .null, []) := by decide +kernel
theorem hk_285_90 : ax_look 285 90 = some (.iinc 5 1, (0, 0, 0), .null, []) := by decide +kernel
theorem hk_285_93 : ax_look 285 93 = some (.goto (-69), (0, 0, 0), .null, []) := by decide +kernel
theorem hk_285_96 : ax_look 285 96 = some (.iconst 0, (0, 0, 0), .null, []) := by decide +kernel
theorem hk_285_97 : ax_look 285 97 = some (.istore 5, (0, 0, 0), .null, []) := by decide +kernel
theorem hk_285_99 : ax_look 285 99 = some (.iload 5, (0, 0, 0), .null, []) := by decide +kernel
theorem hk_285_101 : ax_look 285 101 = some (.iconst 5, (0, 0, 0), .null, []) := by decide +kernel
theorem hk_285_102 : ax_look 285 102 = some (.if_icmp .ge 129, (0, 0, 0), .null, []) := by decide +kernel
theorem hk_285_105 : ax_look 285 105 = some (.aload_n 0, (0, 0, 0), .null, []) := by decide +kernel
theorem hk_285_106 : ax_look 285 106 = some (.bipush 8, (0, 0, 0), .null, []) := by decide +kernel
theorem hk_285_108 : ax_look 285 108 = some (.iload 5, (0, 0, 0), .null, []) := by decide +kernel
theorem hk_285_110 : ax_look 285 110 = some (.iadd, (0, 0, 0), .null, []) := by decide +kernel
theorem hk_285_111 : ax_look 285 111 = some (.invokestatic 97, (131, 2, 0), .null, [3180]) := by decide +kernel
theorem hk_285_114 : ax_look 285 114 = some (.istore 6, (0, 0, 0), .null, []) := by decide +kernel
theorem hk_285_116 : ax_look 285 116 = some (.aload_n 1, (0, 0, 0), .null, []) := by decide +kernel
theorem hk_285_117 : ax_look 285 117 = some (.invokevirtual 104, (77, 0, 8), .null, [2230, 2232]) := by decide +kernel
theorem hk_285_120 : ax_look 285 120 = some (.istore 7, (0, 0, 0), .null, []) := by decide +kernel
theorem hk_285_122 : ax_look 285 122 = some (.iload 6, (0, 0, 0), .null, []) := by decide +kernel
theorem hk_285_124 : ax_look 285 124 = some (.iconst 3, (0, 0, 0), .null, []) := by decide +kernel
theorem hk_285_125 : ax_look 285 125 = some (.ishr, (0, 0, 0), .null, []) := by decide +kernel
theorem hk_285_126 : ax_look 285 126 = some (.iload 7, (0, 0, 0), .null, []) := by decide +kernel
theorem hk_285_128 : ax_look 285 128 = some (.invokestatic 38, (130, 2, 0), .null, [3176]) := by decide +kernel
theorem hk_285_131 : ax_look 285 131 = some (.istore 8, (0, 0, 0), .null, []) := by decide +kernel
theorem hk_285_133 : ax_look 285 133 = some (.iload 6, (0, 0, 0), .null, []) := by decide +kernel
theorem hk_285_135 : ax_look 285 135 = some (.bipush 9, (0, 0, 0), .null, []) := by decide +kernel
theorem hk_285_137 : ax_look 285 137 = some (.ishr, (0, 0, 0), .null, []) := by decide +kernel
theorem hk_285_138 : ax_look 285 138 = some (.iload 7, (0, 0, 0), .null, []) := by decide +kernel
theorem hk_285_140 : ax_look 285 140 = some (.invokestatic 38, (130, 2, 0), .null, [3176]) := by decide +kernel
theorem hk_285_143 : ax_look 285 143 = some (.istore 9, (0, 0, 0), .null, []) := by decide +kernel
theorem hk_285_145 : ax_look 285 145 = some (.iload 6, (0, 0, 0), .null, []) := by decide +kernel
theorem hk_285_147 : ax_look 285 147 = some (.iconst 3, (0, 0, 0), .null, []) := by decide +kernel
theorem hk_285_148 : ax_look 285 148 = some (.iand, (0, 0, 0), .null, []) := by decide +kernel
theorem hk_285_149 : ax_look 285 149 = some (.istore 10, (0, 0, 0), .null, []) := by decide +kernel
theorem hk_285_151 : ax_look 285 151 = some (.iload 10, (0, 0, 0), .null, []) := by decide +kernel
theorem hk_285_153 : ax_look 285 153 = some (.ifCond .ne 14, (0, 0, 0), .null, []) := by decide +kernel
theorem hk_285_156 : ax_look 285 156 = some (.aload_n 1, (0, 0, 0), .null, []) := by decide +kernel
theorem hk_285_157 : ax_look 285 157 = some (.iload 8, (0, 0, 0), .null, []) := by decide +kernel
theorem hk_285_159 : ax_look 285 159 = some (.iload 9, (0, 0, 0), .null, []) := by decide +kernel
theorem hk_285_161 : ax_look 285 161 = some (.invokevirtual 107, (83, 2, 8), .null, [2234, 2236]) := by decide +kernel
theorem hk_285_164 : ax_look 285 164 = some (.goto 50, (0, 0, 0), .null, []) := by decide +kernel
theorem hk_285_167 : ax_look 285 167 = some (.iload 10, (0, 0, 0), .null, []) := by decide +kernel
theorem hk_285_169 : ax_look 285 169 = some (.iconst 1, (0, 0, 0), .null, []) := by decide +kernel
theorem hk_285_170 : ax_look 285 170 = some (.if_icmp .ne 23, (0, 0, 0), .null, []) := by decide +kernel
theorem hk_285_173 : ax_look 285 173 = some (.aload_n 1, (0, 0, 0), .null, []) := by decide +kernel
theorem hk_285_174 : ax_look 285 174 = some (.iload 8, (0, 0, 0), .null, []) := by decide +kernel
theorem hk_285_176 : ax_look 285 176 = some (.iconst 1, (0, 0, 0), .null, []) := by decide +kernel
theorem hk_285_177 : ax_look 285 177 = some (.iload 6, (0, 0, 0), .null, []) := by decide +kernel
theorem hk_285_179 : ax_look 285 179 = some (.bipush 15, (0, 0, 0), .null, []) := by decide +kernel
theorem hk_285_181 : ax_look 285 181 = some (.ishr, (0, 0, 0), .null, []) := by decide +kernel
theorem hk_285_182 : ax_look 285 182 = some (.iconst 4, (0, 0, 0), .null, []) := by decide +kernel
theorem hk_285_183 : ax_look 285 183 = some (.invokestatic 38, (130, 2, 0), .null, [3176]) := by decide +kernel
theorem hk_285_186 : ax_look 285 186 = some (.iadd, (0, 0, 0), .null, []) := by decide +kernel
theorem hk_285_187 : ax_look 285 187 = some (.invokevirtual 110, (85, 2, 8), .null, [3106, 3108]) := by decide +kernel
theorem hk_285_190 : ax_look 285 190 = some (.goto 24, (0, 0, 0), .null, []) := by decide +kernel
theorem hk_285_193 : ax_look 285 193 = some (.iload 10, (0, 0, 0), .null, []) := by decide +kernel
theorem hk_285_195 : ax_look 285 195 = some (.iconst 2, (0, 0, 0), .null, []) := by decide +kernel
theorem hk_285_196 : ax_look 285 196 = some (.if_icmp .ne 12, (0, 0, 0), .null, []) := by decide +kernel
theorem hk_285_199 : ax_look 285 199 = some (.aload_n 1, (0, 0, 0), .null, []) := by decide +kernel
theorem hk_285_200 : ax_look 285 200 = some (.iload 8, (0, 0, 0), .null, []) := by decide +kernel
theorem hk_285_202 : ax_look 285 202 = some (.invokevirtual 113, (86, 1, 8), .null, [3115, 3117]) := by decide +kernel
theorem hk_285_205 : ax_look 285 205 = some (.goto 9, (0, 0, 0), .null, []) := by decide +kernel
theorem hk_285_208 : ax_look 285 208 = some (.aload_n 1, (0, 0, 0), .null, []) := by decide +kernel
theorem hk_285_209 : ax_look 285 209 = some (.iload 8, (0, 0, 0), .null, []) := by decide +kernel
theorem hk_285_211 : ax_look 285 211 = some (.invokevirtual 116, (89, 1, 8), .null, [3123, 3125]) := by decide +kernel
theorem hk_285_214 : ax_look 285 214 = some (.istore 11, (0, 0, 0), .null, []) := by decide +kernel
theorem hk_285_216 : ax_look 285 216 = some (.iload 11, (0, 0, 0), .null, []) := by decide +kernel
theorem hk_285_218 : ax_look 285 218 = some (.iload 7, (0, 0, 0), .null, []) := by decide +kernel
theorem hk_285_220 : ax_look 285 220 = some (.if_icmp .eq 5, (0, 0, 0), .null, []) := by decide +kernel
theorem hk_285_223 : ax_look 285 223 = some (.iconst 0, (0, 0, 0), .null, []) := by decide +kernel
theorem hk_285_224 : ax_look 285 224 = some (.ireturn, (0, 0, 0), .null, []) := by decide +kernel
theorem hk_285_225 : ax_look 285 225 = some (.iinc 5 1, (0, 0, 0), .null, []) := by decide +kernel
theorem hk_285_228 : ax_look 285 228 = some (.goto (-129), (0, 0, 0), .null, []) := by decide +kernel
theorem hk_285_231 : ax_look 285 231 = some (.bipush 64, (0, 0, 0), .null, []) := by decide +kernel
theorem hk_285_233 : ax_look 285 233 = some (.newarray .boolean, (2, 0, 0), .null, [5047]) := by decide +kernel
theorem hk_285_235 : ax_look 285 235 = some (.astore 5, (0, 0, 0), .null, []) := by decide +kernel
theorem hk_285_237 : ax_look 285 237 = some (.iconst 0, (0, 0, 0), .null, []) := by decide +kernel
theorem hk_285_238 : ax_look 285 238 = some (.istore 6, (0, 0, 0), .null, []) := by decide +kernel
theorem hk_285_240 : ax_look 285 240 = some (.iconst 0, (0, 0, 0), .null, []) := by decide +kernel
theorem hk_285_241 : ax_look 285 241 = some (.istore 7, (0, 0, 0), .null, []) := by decide +kernel
theorem hk_285_243 : ax_look 285 243 = some (.iload 7, (0, 0, 0), .null, []) := by decide +kernel
theorem hk_285_245 : ax_look 285 245 = some (.bipush 64, (0, 0, 0), .null, []) := by decide +kernel
theorem hk_285_247 : ax_look 285 247 = some (.if_icmp .ge 88, (0, 0, 0), .null, []) := by decide +kernel
theorem hk_285_250 : ax_look 285 250 = some (.aload 5, (0, 0, 0), .null, []) := by decide +kernel
theorem hk_285_252 : ax_look 285 252 = some (.iload 7, (0, 0, 0), .null, []) := by decide +kernel
theorem hk_285_254 : ax_look 285 254 = some (.iconst 1, (0, 0, 0), .null, []) := by decide +kernel
theorem hk_285_255 : ax_look 285 255 = some (.bastore, (0, 0, 0), .null, []) := by decide +kernel
theorem hk_285_256 : ax_look 285 256 = some (.iconst 0, (0, 0, 0), .null, []) := by decide +kernel
theorem hk_285_257 : ax_look 285 257 = some (.istore 8, (0, 0, 0), .null, []) := by decide +kernel
theorem hk_285_259 : ax_look 285 259 = some (.iload 8, (0, 0, 0), .null, []) := by decide +kernel
theorem hk_285_261 : ax_look 285 261 = some (.iconst 4, (0, 0, 0), .null, []) := by decide +kernel
theorem hk_285_262 : ax_look 285 262 = some (.if_icmp .ge 49, (0, 0, 0), .null, []) := by decide +kernel
theorem hk_285_265 : ax_look 285 265 = some (.aload 5, (0, 0, 0), .null, []) := by decide +kernel
theorem hk_285_267 : ax_look 285 267 = some (.iload 7, (0, 0, 0), .null, []) := by decide +kernel
theorem hk_285_269 : ax_look 285 269 = some (.aload 5, (0, 0, 0), .null, []) := by decide +kernel
theorem hk_285_271 : ax_look 285 271 = some (.iload 7, (0, 0, 0), .null, []) := by decide +kernel
theorem hk_285_273 : ax_look 285 273 = some (.baload, (0, 0, 0), .null, []) := by decide +kernel
theorem hk_285_274 : ax_look 285 274 = some (.ifCond .eq 29, (0, 0, 0), .null, []) := by decide +kernel
theorem hk_285_277 : ax_look 285 277 = some (.aload_n 0, (0, 0, 0), .null, []) := by decide +kernel
theorem hk_285_278 : ax_look 285 278 = some (.iload 8, (0, 0, 0), .null, []) := by decide +kernel
theorem hk_285_280 : ax_look 285 280 = some (.invokestatic 97, (131, 2, 0), .null, [3180]) := by decide +kernel
theorem hk_285_283 : ax_look 285 283 = some (.aload_n 2, (0, 0, 0), .null, []) := by decide +kernel
theorem hk_285_284 : ax_look 285 284 = some (.iload 8, (0, 0, 0), .null, []) := by decide +kernel
theorem hk_285_286 : ax_look 285 286 = some (.iaload, (0, 0, 0), .null, []) := by decide +kernel
theorem hk_285_287 : ax_look 285 287 = some (.aload_n 3, (0, 0, 0), .null, []) := by decide +kernel
theorem hk_285_288 : ax_look 285 288 = some (.iload 8, (0, 0, 0), .null, []) := by decide +kernel
theorem hk_285_290 : ax_look 285 290 = some (.iaload, (0, 0, 0), .null, []) := by decide +kernel
theorem hk_285_291 : ax_look 285 291 = some (.iload 7, (0, 0, 0), .null, []) := by decide +kernel
theorem hk_285_293 : ax_look 285 293 = some (.invokestatic 119, (138, 4, 0), .null, [4228]) := by decide +kernel
theorem hk_285_296 : ax_look 285 296 = some (.ifCond .eq 7, (0, 0, 0), .null, []) := by decide +kernel
theorem hk_285_299 : ax_look 285 299 = some (.iconst 1, (0, 0, 0), .null, []) := by decide +kernel
theorem hk_285_300 : ax_look 285 300 = some (.goto 4, (0, 0, 0), .null, []) := by decide +kernel
theorem hk_285_303 : ax_look 285 303 = some (.iconst 0, (0, 0, 0), .null, []) := by decide +kernel
theorem hk_285_304 : ax_look 285 304 = some (.bastore, (0, 0, 0), .null, []) := by decide +kernel
theorem hk_285_305 : ax_look 285 305 = some (.iinc 8 1, (0, 0, 0), .null, []) := by decide +kernel
theorem hk_285_308 : ax_look 285 308 = some (.goto (-49), (0, 0, 0), .null, []) := by decide +kernel
theorem hk_285_311 : ax_look 285 311 = some (.iload 6, (0, 0, 0), .null, []) := by decide +kernel
theorem hk_285_313 : ax_look 285 313 = some (.aload 5, (0, 0, 0), .null, []) := by decide +kernel
theorem hk_285_315 : ax_look 285 315 = some (.iload 7, (0, 0, 0), .null, []) := by decide +kernel
theorem hk_285_317 : ax_look 285 317 = some (.baload, (0, 0, 0), .null, []) := by decide +kernel
theorem hk_285_318 : ax_look 285 318 = some (.ifCond .eq 7, (0, 0, 0), .null, []) := by decide +kernel
theorem hk_285_321 : ax_look 285 321 = some (.iconst 1, (0, 0, 0), .null, []) := by decide +kernel
theorem hk_285_322 : ax_look 285 322 = some (.goto 4, (0, 0, 0), .null, []) := by decide +kernel
theorem hk_285_325 : ax_look 285 325 = some (.iconst 0, (0, 0, 0), .null, []) := by decide +kernel
theorem hk_285_326 : ax_look 285 326 = some (.iadd, (0, 0, 0), .null, []) := by decide +kernel
theorem hk_285_327 : ax_look 285 327 = some (.istore 6, (0, 0, 0), .null, []) := by decide +kernel
theorem hk_285_329 : ax_look 285 329 = some (.iinc 7 1, (0, 0, 0), .null, []) := by decide +kernel
theorem hk_285_332 : ax_look 285 332 = some (.goto (-89), (0, 0, 0), .null, []) := by decide +kernel
theorem hk_285_335 : ax_look 285 335 = some (.aload_n 1, (0, 0, 0), .null, []) := by decide +kernel
theorem hk_285_336 : ax_look 285 336 = some (.invokevirtual 123, (101, 0, 8), .null, [3136, 3138]) := by decide +kernel
theorem hk_285_339 : ax_look 285 339 = some (.bipush 64, (0, 0, 0), .null, []) := by decide +kernel
theorem hk_285_341 : ax_look 285 341 = some (.iload 6, (0, 0, 0), .null, []) := by decide +kernel
theorem hk_285_343 : ax_look 285 343 = some (.imul, (0, 0, 0), .null, []) := by decide +kernel
theorem hk_285_344 : ax_look 285 344 = some (.if_icmp .eq 5, (0, 0, 0), .null, []) := by decide +kernel
theorem hk_285_347 : ax_look 285 347 = some (.iconst 0, (0, 0, 0), .null, []) := by decide +kernel
theorem hk_285_348 : ax_look 285 348 = some (.ireturn, (0, 0, 0), .null, []) := by decide +kernel
theorem hk_285_349 : ax_look 285 349 = some (.aload_n 0, (0, 0, 0), .null, []) := by decide +kernel
theorem hk_285_350 : ax_look 285 350 = some (.bipush 13, (0, 0, 0), .null, []) := by decide +kernel
theorem hk_285_352 : ax_look 285 352 = some (.invokestatic 97, (131, 2, 0), .null, [3180]) := by decide +kernel
theorem hk_285_355 : ax_look 285 355 = some (.istore 7, (0, 0, 0), .null, []) := by decide +kernel
theorem hk_285_357 : ax_look 285 357 = some (.aload_n 0, (0, 0, 0), .null, []) := by decide +kernel
theorem hk_285_358 : ax_look 285 358 = some (.bipush 14, (0, 0, 0), .null, []) := by decide +kernel
theorem hk_285_360 : ax_look 285 360 = some (.invokestatic 97, (131, 2, 0), .null, [3180]) := by decide +kernel
theorem hk_285_363 : ax_look 285 363 = some (.bipush 7, (0, 0, 0), .null, []) := by decide +kernel
theorem hk_285_365 : ax_look 285 365 = some (.invokestatic 38, (130, 2, 0), .null, [3176]) := by decide +kernel
theorem hk_285_368 : ax_look 285 368 = some (.iconst 3, (0, 0, 0), .null, []) := by decide +kernel
theorem hk_285_369 : ax_look 285 369 = some (.isub, (0, 0, 0), .null, []) := by decide +kernel
theorem hk_285_370 : ax_look 285 370 = some (.istore 8, (0, 0, 0), .null, []) := by decide +kernel
theorem hk_285_372 : ax_look 285 372 = some (.iconst 1, (0, 0, 0), .null, []) := by decide +kernel
theorem hk_285_373 : ax_look 285 373 = some (.istore 9, (0, 0, 0), .null, []) := by decide +kernel
theorem hk_285_375 : ax_look 285 375 = some (.iconst 0, (0, 0, 0), .null, []) := by decide +kernel
theorem hk_285_376 : ax_look 285 376 = some (.istore 10, (0, 0, 0), .null, []) := by decide +kernel
theorem hk_285_378 : ax_look 285 378 = some (.iload 10, (0, 0, 0), .null, []) := by decide +kernel
theorem hk_285_380 : ax_look 285 380 = some (.bipush 64, (0, 0, 0), .null, []) := by decide +kernel
theorem hk_285_382 : ax_look 285 382 = some (.if_icmp .ge 42, (0, 0, 0), .null, []) := by decide +kernel
theorem hk_285_385 : ax_look 285 385 = some (.iload 9, (0, 0, 0), .null, []) := by decide +kernel
theorem hk_285_387 : ax_look 285 387 = some (.ifCond .eq 28, (0, 0, 0), .null, []) := by decide +kernel
theorem hk_285_390 : ax_look 285 390 = some (.aload 5, (0, 0, 0), .null, []) := by decide +kernel
theorem hk_285_392 : ax_look 285 392 = some (.iload 10, (0, 0, 0), .null, []) := by decide +kernel
theorem hk_285_394 : ax_look 285 394 = some (.baload, (0, 0, 0), .null, []) := by decide +kernel
theorem hk_285_395 : ax_look 285 395 = some (.ifCond .eq 16, (0, 0, 0), .null, []) := by decide +kernel
theorem hk_285_398 : ax_look 285 398 = some (.iload 7, (0, 0, 0), .null, []) := by decide +kernel
theorem hk_285_400 : ax_look 285 400 = some (.iconst 0, (0, 0, 0), .null, []) := by decide +kernel
theorem hk_285_401 : ax_look 285 401 = some (.iload 8, (0, 0, 0), .null, []) := by decide +kernel
theorem hk_285_403 : ax_look 285 403 = some (.iload 10, (0, 0, 0), .null, []) := by decide +kernel
theorem hk_285_405 : ax_look 285 405 = some (.invokestatic 119, (138, 4, 0), .null, [4228]) := by decide +kernel
theorem hk_285_408 : ax_look 285 408 = some (.ifCond .eq 7, (0, 0, 0), .null, []) := by decide +kernel
theorem hk_285_411 : ax_look 285 411 = some (.iconst 1, (0, 0, 0), .null, []) := by decide +kernel
theorem hk_285_412 : ax_look 285 412 = some (.goto 4, (0, 0, 0), .null, []) := by decide +kernel
theorem hk_285_415 : ax_look 285 415 = some (.iconst 0, (0, 0, 0), .null, []) := by decide +kernel
theorem hk_285_416 : ax_look 285 416 = some (.istore 9, (0, 0, 0), .null, []) := by decide +kernel
theorem hk_285_418 : ax_look 285 418 = some (.iinc 10 1, (0, 0, 0), .null, []) := by decide +kernel
theorem hk_285_421 : ax_look 285 421 = some (.goto (-43), (0, 0, 0), .null, []) := by decide +kernel
theorem hk_285_424 : ax_look 285 424 = some (.iload 7, (0, 0, 0), .null, []) := by decide +kernel
theorem hk_285_426 : ax_look 285 426 = some (.iconst 0, (0, 0, 0), .null, []) := by decide +kernel
theorem hk_285_427 : ax_look 285 427 = some (.iload 8, (0, 0, 0), .null, []) := by decide +kernel
theorem hk_285_429 : ax_look 285 429 = some (.invokestatic 80, (137, 3, 0), .null, [4014]) := by decide +kernel
theorem hk_285_432 : ax_look 285 432 = some (.astore 10, (0, 0, 0), .null, []) := by decide +kernel
theorem hk_285_434 : ax_look 285 434 = some (.aload_n 1, (0, 0, 0), .null, []) := by decide +kernel
theorem hk_285_435 : ax_look 285 435 = some (.aload 10, (0, 0, 0), .null, []) := by decide +kernel
theorem hk_285_437 : ax_look 285 437 = some (.aload 10, (0, 0, 0), .null, []) := by decide +kernel
theorem hk_285_439 : ax_look 285 439 = some (.invokevirtual 9, (275, 0, 11), .null, [3187, 3189]) := by decide +kernel
theorem hk_285_442 : ax_look 285 442 = some (.invokestatic 84, (134, 3, 0), .null, [3184]) := by decide +kernel
theorem hk_285_445 : ax_look 285 445 = some (.aload_n 1, (0, 0, 0), .null, []) := by decide +kernel
theorem hk_285_446 : ax_look 285 446 = some (.invokevirtual 126, (73, 0, 8), .null, [2038, 2040]) := by decide +kernel
theorem hk_285_449 : ax_look 285 449 = some (.iload 9, (0, 0, 0), .null, []) := by decide +kernel
theorem hk_285_451 : ax_look 285 451 = some (.if_icmp .eq 5, (0, 0, 0), .null, []) := by decide +kernel
theorem hk_285_454 : ax_look 285 454 = some (.iconst 0, (0, 0, 0), .null, []) := by decide +kernel
theorem hk_285_455 : ax_look 285 455 = some (.ireturn, (0, 0, 0), .null, []) := by decide +kernel
theorem hk_285_456 : ax_look 285 456 = some (.aload_n 0, (0, 0, 0), .null, []) := by decide +kernel
theorem hk_285_457 : ax_look 285 457 = some (.bipush 15, (0, 0, 0), .null, []) := by decide +kernel
theorem hk_285_459 : ax_look 285 459 = some (.invokestatic 97, (131, 2, 0), .null, [3180]) := by decide +kernel
theorem hk_285_462 : ax_look 285 462 = some (.bipush 64, (0, 0, 0), .null, []) := by decide +kernel
theorem hk_285_464 : ax_look 285 464 = some (.invokestatic 38, (130, 2, 0), .null, [3176]) := by decide +kernel
theorem hk_285_467 : ax_look 285 467 = some (.istore 11, (0, 0, 0), .null, []) := by decide +kernel
theorem hk_285_469 : ax_look 285 469 = some (.aload_n 0, (0, 0, 0), .null, []) := by decide +kernel
theorem hk_285_470 : ax_look 285 470 = some (.bipush 16, (0, 0, 0), .null, []) := by decide +kernel
theorem hk_285_472 : ax_look 285 472 = some (.invokestatic 97, (131, 2, 0), .null, [3180]) := by decide +kernel
theorem hk_285_475 : ax_look 285 475 = some (.bipush 64, (0, 0, 0), .null, []) := by decide +kernel
theorem hk_285_477 : ax_look 285 477 = some (.invokestatic 38, (130, 2, 0), .null, [3176]) := by decide +kernel
theorem hk_285_480 : ax_look 285 480 = some (.iload 11, (0, 0, 0), .null, []) := by decide +kernel
theorem hk_285_482 : ax_look 285 482 = some (.iconst (-1), (0, 0, 0), .null, []) := by decide +kernel
theorem hk_285_483 : ax_look 285 483 = some (.ixor, (0, 0, 0), .null, []) := by decide +kernel
theorem hk_285_484 : ax_look 285 484 = some (.iand, (0, 0, 0), .null, []) := by decide +kernel
theorem hk_285_485 : ax_look 285 485 = some (.istore 12, (0, 0, 0), .null, []) := by decide +kernel
theorem hk_285_487 : ax_look 285 487 = some (.iconst 0, (0, 0, 0), .null, []) := by decide +kernel
theorem hk_285_488 : ax_look 285 488 = some (.istore 13, (0, 0, 0), .null, []) := by decide +kernel
theorem hk_285_490 : ax_look 285 490 = some (.iconst 0, (0, 0, 0), .null, []) := by decide +kernel
theorem hk_285_491 : ax_look 285 491 = some (.istore 14, (0, 0, 0), .null, []) := by decide +kernel
theorem hk_285_493 : ax_look 285 493 = some (.iload 14, (0, 0, 0), .null, []) := by decide +kernel
theorem hk_285_495 : ax_look 285 495 = some (.bipush 64, (0, 0, 0), .null, []) := by decide +kernel
theorem hk_285_497 : ax_look 285 497 = some (.if_icmp .ge 47, (0, 0, 0), .null, []) := by decide +kernel
theorem hk_285_500 : ax_look 285 500 = some (.iload 13, (0, 0, 0), .null, []) := by decide +kernel
theorem hk_285_502 : ax_look 285 502 = some (.ifCond .ne 29, (0, 0, 0), .null, []) := by decide +kernel
theorem hk_285_505 : ax_look 285 505 = some (.aload 5, (0, 0, 0), .null, []) := by decide +kernel
theorem hk_285_507 : ax_look 285 507 = some (.iload 14, (0, 0, 0), .null, []) := by decide +kernel
theorem hk_285_509 : ax_look 285 509 = some (.baload, (0, 0, 0), .null, []) := by decide +kernel
theorem hk_285_510 : ax_look 285 510 = some (.ifCond .eq 25, (0, 0, 0), .null, []) := by decide +kernel
theorem hk_285_513 : ax_look 285 513 = some (.iload 14, (0, 0, 0), .null, []) := by decide +kernel
theorem hk_285_515 : ax_look 285 515 = some (.iload 11, (0, 0, 0), .null, []) := by decide +kernel
theorem hk_285_517 : ax_look 285 517 = some (.iand, (0, 0, 0), .null, []) := by decide +kernel
theorem hk_285_518 : ax_look 285 518 = some (.iload 11, (0, 0, 0), .null, []) := by decide +kernel
theorem hk_285_520 : ax_look 285 520 = some (.if_icmp .ne 15, (0, 0, 0), .null, []) := by decide +kernel
theorem hk_285_523 : ax_look 285 523 = some (.iload 14, (0, 0, 0), .null, []) := by decide +kernel
theorem hk_285_525 : ax_look 285 525 = some (.iload 12, (0, 0, 0), .null, []) := by decide +kernel
theorem hk_285_527 : ax_look 285 527 = some (.iand, (0, 0, 0), .null, []) := by decide +kernel
theorem hk_285_528 : ax_look 285 528 = some (.ifCond .ne 7, (0, 0, 0), .null, []) := by decide +kernel
theorem hk_285_531 : ax_look 285 531 = some (.iconst 1, (0, 0, 0), .null, []) := by decide +kernel
theorem hk_285_532 : ax_look 285 532 = some (.goto 4, (0, 0, 0), .null, []) := by decide +kernel
theorem hk_285_535 : ax_look 285 535 = some (.iconst 0, (0, 0, 0), .null, []) := by decide +kernel
theorem hk_285_536 : ax_look 285 536 = some (.istore 13, (0, 0, 0), .null, []) := by decide +kernel
theorem hk_285_538 : ax_look 285 538 = some (.iinc 14 1, (0, 0, 0), .null, []) := by decide +kernel
theorem hk_285_541 : ax_look 285 541 = some (.goto (-48), (0, 0, 0), .null, []) := by decide +kernel
theorem hk_285_544 : ax_look 285 544 = some (.aload_n 1, (0, 0, 0), .null, []) := by decide +kernel
theorem hk_285_545 : ax_look 285 545 = some (.iload 11, (0, 0, 0), .null, []) := by decide +kernel
theorem hk_285_547 : ax_look 285 547 = some (.iload 12, (0, 0, 0), .null, []) := by decide +kernel
theorem hk_285_549 : ax_look 285 549 = some (.invokestatic 130, (140, 3, 0), .null, [5002]) := by decide +kernel
theorem hk_285_552 : ax_look 285 552 = some (.istore 14, (0, 0, 0), .null, []) := by decide +kernel
theorem hk_285_554 : ax_look 285 554 = some (.iload 14, (0, 0, 0), .null, []) := by decide +kernel
theorem hk_285_556 : ax_look 285 556 = some (.ifCond .ge 7, (0, 0, 0), .null, []) := by decide +kernel
theorem hk_285_559 : ax_look 285 559 = some (.iconst 1, (0, 0, 0), .null, []) := by decide +kernel
theorem hk_285_560 : ax_look 285 560 = some (.goto 4, (0, 0, 0), .null, []) := by decide +kernel
theorem hk_285_563 : ax_look 285 563 = some (.iconst 0, (0, 0, 0), .null, []) := by decide +kernel
theorem hk_285_564 : ax_look 285 564 = some (.iload 13, (0, 0, 0), .null, []) := by decide +kernel
theorem hk_285_566 : ax_look 285 566 = some (.if_icmp .eq 5, (0, 0, 0), .null, []) := by decide +kernel
theorem hk_285_569 : ax_look 285 569 = some (.iconst 0, (0, 0, 0), .null, []) := by decide +kernel
theorem hk_285_570 : ax_look 285 570 = some (.ireturn, (0, 0, 0), .null, []) := by decide +kernel
theorem hk_285_571 : ax_look 285 571 = some (.iconst 0, (0, 0, 0), .null, []) := by decide +kernel
theorem hk_285_572 : ax_look 285 572 = some (.istore 15, (0, 0, 0), .null, []) := by decide +kernel
theorem hk_285_574 : ax_look 285 574 = some (.iconst 0, (0, 0, 0), .null, []) := by decide +kernel
theorem hk_285_575 : ax_look 285 575 = some (.istore 16, (0, 0, 0), .null, []) := by decide +kernel
theorem hk_285_577 : ax_look 285 577 = some (.iconst 0, (0, 0, 0), .null, []) := by decide +kernel
theorem hk_285_578 : ax_look 285 578 = some (.istore 17, (0, 0, 0), .null, []) := by decide +kernel
theorem hk_285_580 : ax_look 285 580 = some (.iload 17, (0, 0, 0), .null, []) := by decide +kernel
theorem hk_285_582 : ax_look 285 582 = some (.iload 14, (0, 0, 0), .null, []) := by decide +kernel
theorem hk_285_584 : ax_look 285 584 = some (.if_icmp .ge 49, (0, 0, 0), .null, []) := by decide +kernel
theorem hk_285_587 : ax_look 285 587 = some (.aload_n 1, (0, 0, 0), .null, []) := by decide +kernel
theorem hk_285_588 : ax_look 285 588 = some (.iload 17, (0, 0, 0), .null, []) := by decide +kernel
theorem hk_285_590 : ax_look 285 590 = some (.invokevirtual 133, (107, 1, 8), .null, [3168, 3170]) := by decide +kernel
theorem hk_285_593 : ax_look 285 593 = some (.istore 18, (0, 0, 0), .null, []) := by decide +kernel
theorem hk_285_595 : ax_look 285 595 = some (.iload 18, (0, 0, 0), .null, []) := by decide +kernel
theorem hk_285_597 : ax_look 285 597 = some (.iconst 2, (0, 0, 0), .null, []) := by decide +kernel
theorem hk_285_598 : ax_look 285 598 = some (.irem, (0, 0, 0), .null, []) := by decide +kernel
theorem hk_285_599 : ax_look 285 599 = some (.ifCond .ne 17, (0, 0, 0), .null, []) := by decide +kernel
theorem hk_285_602 : ax_look 285 602 = some (.iload 15, (0, 0, 0), .null, []) := by decide +kernel
theorem hk_285_604 : ax_look 285 604 = some (.iconst 1, (0, 0, 0), .null, []) := by decide +kernel
theorem hk_285_605 : ax_look 285 605 = some (.iload 18, (0, 0, 0), .null, []) := by decide +kernel
theorem hk_285_607 : ax_look 285 607 = some (.iconst 2, (0, 0, 0), .null, []) := by decide +kernel
theorem hk_285_608 : ax_look 285 608 = some (.idiv, (0, 0, 0), .null, []) := by decide +kernel
theorem hk_285_609 : ax_look 285 609 = some (.ishl, (0, 0, 0), .null, []) := by decide +kernel
theorem hk_285_610 : ax_look 285 610 = some (.ior, (0, 0, 0), .null, []) := by decide +kernel
theorem hk_285_611 : ax_look 285 611 = some (.istore 15, (0, 0, 0), .null, []) := by decide +kernel
theorem hk_285_613 : ax_look 285 613 = some (.goto 14, (0, 0, 0), .null, []) := by decide +kernel
theorem hk_285_616 : ax_look 285 616 = some (.iload 16, (0, 0, 0), .null, []) := by decide +kernel
theorem hk_285_618 : ax_look 285 618 = some (.iconst 1, (0, 0, 0), .null, []) := by decide +kernel
theorem hk_285_619 : ax_look 285 619 = some (.iload 18, (0, 0, 0), .null, []) := by decide +kernel
theorem hk_285_621 : ax_look 285 621 = some (.iconst 2, (0, 0, 0), .null, []) := by decide +kernel
theorem hk_285_622 : ax_look 285 622 = some (.idiv, (0, 0, 0), .null, []) := by decide +kernel
theorem hk_285_623 : ax_look 285 623 = some (.ishl, (0, 0, 0), .null, []) := by decide +kernel
theorem hk_285_624 : ax_look 285 624 = some (.ior, (0, 0, 0), .null, []) := by decide +kernel
theorem hk_285_625 : ax_look 285 625 = some (.istore 16, (0, 0, 0), .null, []) := by decide +kernel
theorem hk_285_627 : ax_look 285 627 = some (.iinc 17 1, (0, 0, 0), .null, []) := by decide +kernel
theorem hk_285_630 : ax_look 285 630 = some (.goto (-50), (0, 0, 0), .null, []) := by decide +kernel
theorem hk_285_633 : ax_look 285 633 = some (.iload 15, (0, 0, 0), .null, []) := by decide +kernel
theorem hk_285_635 : ax_look 285 635 = some (.iload 11, (0, 0, 0), .null, []) := by decide +kernel
theorem hk_285_637 : ax_look 285 637 = some (.iconst (-1), (0, 0, 0), .null, []) := by decide +kernel
theorem hk_285_638 : ax_look 285 638 = some (.ixor, (0, 0, 0), .null, []) := by decide +kernel
theorem hk_285_639 : ax_look 285 639 = some (.iand, (0, 0, 0), .null, []) := by decide +kernel
theorem hk_285_640 : ax_look 285 640 = some (.ifCond .ne 13, (0, 0, 0), .null, []) := by decide +kernel
theorem hk_285_643 : ax_look 285 643 = some (.iload 16, (0, 0, 0), .null, []) := by decide +kernel
theorem hk_285_645 : ax_look 285 645 = some (.iload 12, (0, 0, 0), .null, []) := by decide +kernel
theorem hk_285_647 : ax_look 285 647 = some (.iconst (-1), (0, 0, 0), .null, []) := by decide +kernel
theorem hk_285_648 : ax_look 285 648 = some (.ixor, (0, 0, 0), .null, []) := by decide +kernel
theorem hk_285_649 : ax_look 285 649 = some (.iand, (0, 0, 0), .null, []) := by decide +kernel
theorem hk_285_650 : ax_look 285 650 = some (.ifCond .eq 5, (0, 0, 0), .null, []) := by decide +kernel
theorem hk_285_653 : ax_look 285 653 = some (.iconst 0, (0, 0, 0), .null, []) := by decide +kernel
theorem hk_285_654 : ax_look 285 654 = some (.ireturn, (0, 0, 0), .null, []) := by decide +kernel
theorem hk_285_655 : ax_look 285 655 = some (.iconst (-1), (0, 0, 0), .null, []) := by decide +kernel
theorem hk_285_656 : ax_look 285 656 = some (.istore 17, (0, 0, 0), .null, []) := by decide +kernel
theorem hk_285_658 : ax_look 285 658 = some (.iload 17, (0, 0, 0), .null, []) := by decide +kernel
theorem hk_285_660 : ax_look 285 660 = some (.iload 14, (0, 0, 0), .null, []) := by decide +kernel
theorem hk_285_662 : ax_look 285 662 = some (.if_icmp .ge 157, (0, 0, 0), .null, []) := by decide +kernel
theorem hk_285_665 : ax_look 285 665 = some (.iload 17, (0, 0, 0), .null, []) := by decide +kernel
theorem hk_285_667 : ax_look 285 667 = some (.ifCond .ge 8, (0, 0, 0), .null, []) := by decide +kernel
theorem hk_285_670 : ax_look 285 670 = some (.bipush 24, (0, 0, 0), .null, []) := by decide +kernel
theorem hk_285_672 : ax_look 285 672 = some (.goto 9, (0, 0, 0), .null, []) := by decide +kernel
theorem hk_285_675 : ax_look 285 675 = some (.aload_n 1, (0, 0, 0), .null, []) := by decide +kernel
theorem hk_285_676 : ax_look 285 676 = some (.iload 17, (0, 0, 0), .null, []) := by decide +kernel
theorem hk_285_678 : ax_look 285 678 = some (.invokevirtual 133, (107, 1, 8), .null, [3168, 3170]) := by decide +kernel
theorem hk_285_681 : ax_look 285 681 = some (.istore 18, (0, 0, 0), .null, []) := by decide +kernel
theorem hk_285_683 : ax_look 285 683 = some (.iload 18, (0, 0, 0), .null, []) := by decide +kernel
theorem hk_285_685 : ax_look 285 685 = some (.iconst 2, (0, 0, 0), .null, []) := by decide +kernel
theorem hk_285_686 : ax_look 285 686 = some (.irem, (0, 0, 0), .null, []) := by decide +kernel
theorem hk_285_687 : ax_look 285 687 = some (.ifCond .ne 17, (0, 0, 0), .null, []) := by decide +kernel
theorem hk_285_690 : ax_look 285 690 = some (.iload 15, (0, 0, 0), .null, []) := by decide +kernel
theorem hk_285_692 : ax_look 285 692 = some (.iconst 1, (0, 0, 0), .null, []) := by decide +kernel
theorem hk_285_693 : ax_look 285 693 = some (.iload 18, (0, 0, 0), .null, []) := by decide +kernel
theorem hk_285_695 : ax_look 285 695 = some (.iconst 2, (0, 0, 0), .null, []) := by decide +kernel
theorem hk_285_696 : ax_look 285 696 = some (.idiv, (0, 0, 0), .null, []) := by decide +kernel
theorem hk_285_697 : ax_look 285 697 = some (.ishl, (0, 0, 0), .null, []) := by decide +kernel
theorem hk_285_698 : ax_look 285 698 = some (.iconst (-1), (0, 0, 0), .null, []) := by decide +kernel
theorem hk_285_699 : ax_look 285 699 = some (.ixor, (0, 0, 0), .null, []) := by decide +kernel
theorem hk_285_700 : ax_look 285 700 = some (.iand, (0, 0, 0), .null, []) := by decide +kernel
theorem hk_285_701 : ax_look 285 701 = some (.goto 5, (0, 0, 0), .null, []) := by decide +kernel
theorem hk_285_704 : ax_look 285 704 = some (.iload 15, (0, 0, 0), .null, []) := by decide +kernel
theorem hk_285_706 : ax_look 285 706 = some (.istore 19, (0, 0, 0), .null, []) := by decide +kernel
theorem hk_285_708 : ax_look 285 708 = some (.iload 18, (0, 0, 0), .null, []) := by decide +kernel
theorem hk_285_710 : ax_look 285 710 = some (.iconst 2, (0, 0, 0), .null, []) := by decide +kernel
theorem hk_285_711 : ax_look 285 711 = some (.irem, (0, 0, 0), .null, []) := by decide +kernel
theorem hk_285_712 : ax_look 285 712 = some (.iconst 1, (0, 0, 0), .null, []) := by decide +kernel
theorem hk_285_713 : ax_look 285 713 = some (.if_icmp .ne 17, (0, 0, 0), .null, []) := by decide +kernel
theorem hk_285_716 : ax_look 285 716 = some (.iload 16, (0, 0, 0), .null, []) := by decide +kernel
theorem hk_285_718 : ax_look 285 718 = some (.iconst 1, (0, 0, 0), .null, []) := by decide +kernel
theorem hk_285_719 : ax_look 285 719 = some (.iload 18, (0, 0, 0), .null, []) := by decide +kernel
theorem hk_285_721 : ax_look 285 721 = some (.iconst 2, (0, 0, 0), .null, []) := by decide +kernel
theorem hk_285_722 : ax_look 285 722 = some (.idiv, (0, 0, 0), .null, []) := by decide +kernel
theorem hk_285_723 : ax_look 285 723 = some (.ishl, (0, 0, 0), .null, []) := by decide +kernel
theorem hk_285_724 : ax_look 285 724 = some (.iconst (-1), (0, 0, 0), .null, []) := by decide +kernel
theorem hk_285_725 : ax_look 285 725 = some (.ixor, (0, 0, 0), .null, []) := by decide +kernel
theorem hk_285_726 : ax_look 285 726 = some (.iand, (0, 0, 0), .null, []) := by decide +kernel
theorem hk_285_727 : ax_look 285 727 = some (.goto 5, (0, 0, 0), .null, []) := by decide +kernel
theorem hk_285_730 : ax_look 285 730 = some (.iload 16, (0, 0, 0), .null, []) := by decide +kernel
theorem hk_285_732 : ax_look 285 732 = some (.istore 20, (0, 0, 0), .null, []) := by decide +kernel
theorem hk_285_734 : ax_look 285 734 = some (.iconst 0, (0, 0, 0), .null, []) := by decide +kernel
theorem hk_285_735 : ax_look 285 735 = some (.istore 21, (0, 0, 0), .null, []) := by decide +kernel
theorem hk_285_737 : ax_look 285 737 = some (.iconst 0, (0, 0, 0), .null, []) := by decide +kernel
theorem hk_285_738 : ax_look 285 738 = some (.istore 22, (0, 0, 0), .null, []) := by decide +kernel
theorem hk_285_740 : ax_look 285 740 = some (.iload 22, (0, 0, 0), .null, []) := by decide +kernel
theorem hk_285_742 : ax_look 285 742 = some (.bipush 64, (0, 0, 0), .null, []) := by decide +kernel
theorem hk_285_744 : ax_look 285 744 = some (.if_icmp .ge 47, (0, 0, 0), .null, []) := by decide +kernel
theorem hk_285_747 : ax_look 285 747 = some (.iload 21, (0, 0, 0), .null, []) := by decide +kernel
theorem hk_285_749 : ax_look 285 749 = some (.ifCond .ne 29, (0, 0, 0), .null, []) := by decide +kernel
theorem hk_285_752 : ax_look 285 752 = some (.aload 5, (0, 0, 0), .null, []) := by decide +kernel
theorem hk_285_754 : ax_look 285 754 = some (.iload 22, (0, 0, 0), .null, []) := by decide +kernel
theorem hk_285_756 : ax_look 285 756 = some (.baload, (0, 0, 0), .null, []) := by decide +kernel
theorem hk_285_757 : ax_look 285 757 = some (.ifCond .eq 25, (0, 0, 0), .null, []) := by decide +kernel
theorem hk_285_760 : ax_look 285 760 = some (.iload 22, (0, 0, 0), .null, []) := by decide +kernel
theorem hk_285_762 : ax_look 285 762 = some (.iload 19, (0, 0, 0), .null, []) := by decide +kernel
theorem hk_285_764 : ax_look 285 764 = some (.iand, (0, 0, 0), .null, []) := by decide +kernel
theorem hk_285_765 : ax_look 285 765 = some (.iload 19, (0, 0, 0), .null, []) := by decide +kernel
theorem hk_285_767 : ax_look 285 767 = some (.if_icmp .ne 15, (0, 0, 0), .null, []) := by decide +kernel
theorem hk_285_770 : ax_look 285 770 = some (.iload 22, (0, 0, 0), .null, []) := by decide +kernel
theorem hk_285_772 : ax_look 285 772 = some (.iload 20, (0, 0, 0), .null, []) := by decide +kernel
theorem hk_285_774 : ax_look 285 774 = some (.iand, (0, 0, 0), .null, []) := by decide +kernel
theorem hk_285_775 : ax_look 285 775 = some (.ifCond .ne 7, (0, 0, 0), .null, []) := by decide +kernel
theorem hk_285_778 : ax_look 285 778 = some (.iconst 1, (0, 0, 0), .null, []) := by decide +kernel
theorem hk_285_779 : ax_look 285 779 = some (.goto 4, (0, 0, 0), .null, []) := by decide +kernel
theorem hk_285_782 : ax_look 285 782 = some (.iconst 0, (0, 0, 0), .null, []) := by decide +kernel
theorem hk_285_783 : ax_look 285 783 = some (.istore 21, (0, 0, 0), .null, []) := by decide +kernel
theorem hk_285_785 : ax_look 285 785 = some (.iinc 22 1, (0, 0, 0), .null, []) := by decide +kernel
theorem hk_285_788 : ax_look 285 788 = some (.goto (-48), (0, 0, 0), .null, []) := by decide +kernel
theorem hk_285_791 : ax_look 285 791 = some (.iload 21, (0, 0, 0), .null, []) := by decide +kernel
theorem hk_285_793 : ax_look 285 793 = some (.iload 17, (0, 0, 0), .null, []) := by decide +kernel
theorem hk_285_795 : ax_look 285 795 = some (.ifCond .lt 7, (0, 0, 0), .null, []) := by decide +kernel
theorem hk_285_798 : ax_look 285 798 = some (.iconst 1, (0, 0, 0), .null, []) := by decide +kernel
theorem hk_285_799 : ax_look 285 799 = some (.goto 4, (0, 0, 0), .null, []) := by decide +kernel
theorem hk_285_802 : ax_look 285 802 = some (.iconst 0, (0, 0, 0), .null, []) := by decide +kernel
theorem hk_285_803 : ax_look 285 803 = some (.if_icmp .eq 10, (0, 0, 0), .null, []) := by decide +kernel
theorem hk_285_806 : ax_look 285 806 = some (.iload 14, (0, 0, 0), .null, []) := by decide +kernel
theorem hk_285_808 : ax_look 285 808 = some (.ifCond .lt 5, (0, 0, 0), .null, []) := by decide +kernel
theorem hk_285_811 : ax_look 285 811 = some (.iconst 0, (0, 0, 0), .null, []) := by decide +kernel
theorem hk_285_812 : ax_look 285 812 = some (.ireturn, (0, 0, 0), .null, []) := by decide +kernel
theorem hk_285_813 : ax_look 285 813 = some (.iinc 17 1, (0, 0, 0), .null, []) := by decide +kernel
theorem hk_285_816 : ax_look 285 816 = some (.goto (-158), (0, 0, 0), .null, []) := by decide +kernel
theorem hk_285_819 : ax_look 285 819 = some (.aload 4, (0, 0, 0), .null, []) := by decide +kernel
theorem hk_285_821 : ax_look 285 821 = some (.iconst 0, (0, 0, 0), .null, []) := by decide +kernel
theorem hk_285_822 : ax_look 285 822 = some (.iaload, (0, 0, 0), .null, []) := by decide +kernel
theorem hk_285_823 : ax_look 285 823 = some (.ifCond .ne 15, (0, 0, 0), .null, []) := by decide +kernel
theorem hk_285_826 : ax_look 285 826 = some (.aload 4, (0, 0, 0), .null, []) := by decide +kernel
theorem hk_285_828 : ax_look 285 828 = some (.iconst 3, (0, 0, 0), .null, []) := by decide +kernel
theorem hk_285_829 : ax_look 285 829 = some (.iaload, (0, 0, 0), .null, []) := by decide +kernel
theorem hk_285_830 : ax_look 285 830 = some (.iconst 3, (0, 0, 0), .null, []) := by decide +kernel
theorem hk_285_831 : ax_look 285 831 = some (.if_icmp .ne 7, (0, 0, 0), .null, []) := by decide +kernel
theorem hk_285_834 : ax_look 285 834 = some (.iconst 1, (0, 0, 0), .null, []) := by decide +kernel
theorem hk_285_835 : ax_look 285 835 = some (.goto 4, (0, 0, 0), .null, []) := by decide +kernel
theorem hk_285_838 : ax_look 285 838 = some (.iconst 0, (0, 0, 0), .null, []) := by decide +kernel
theorem hk_285_839 : ax_look 285 839 = some (.ireturn, (0, 0, 0), .null, []) := by decide +kernel

