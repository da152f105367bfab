/-! BY HAND, 6: add, decide, undo, push, pop -/
theorem hn_135 : (ax_mm 135).2.2.1 = 1 := by decide +kernel
theorem hr_135 : (ax_mm 135).2.2.2.1 = some .boolean := by decide +kernel
theorem hk_135_0 : ax_look 135 0 = some (.iload_n 0, (0, 0, 0), .null, []) := by decide +kernel
theorem hk_135_1 : ax_look 135 1 = some (.ifCond .lt 13, (0, 0, 0), .null, []) := by decide +kernel
theorem hk_135_4 : ax_look 135 4 = some (.iload_n 0, (0, 0, 0), .null, []) := by decide +kernel
theorem hk_135_5 : ax_look 135 5 = some (.bipush 24, (0, 0, 0), .null, []) := by decide +kernel
theorem hk_135_7 : ax_look 135 7 = some (.if_icmp .ge 7, (0, 0, 0), .null, []) := by decide +kernel
theorem hk_135_10 : ax_look 135 10 = some (.iconst 1, (0, 0, 0), .null, []) := by decide +kernel
theorem hk_135_11 : ax_look 135 11 = some (.goto 4, (0, 0, 0), .null, []) := by decide +kernel
theorem hk_135_14 : ax_look 135 14 = some (.iconst 0, (0, 0, 0), .null, []) := by decide +kernel
theorem hk_135_15 : ax_look 135 15 = some (.ireturn, (0, 0, 0), .null, []) := by decide +kernel
theorem hn_132 : (ax_mm 132).2.2.1 = 2 := by decide +kernel
theorem hr_132 : (ax_mm 132).2.2.2.1 = some .int := by decide +kernel
theorem hk_132_0 : ax_look 132 0 = some (.aload_n 0, (0, 0, 0), .null, []) := by decide +kernel
theorem hk_132_1 : ax_look 132 1 = some (.iload_n 1, (0, 0, 0), .null, []) := by decide +kernel
theorem hk_132_2 : ax_look 132 2 = some (.putfield 61, (9, 0, 0), .null, [999999]) := by decide +kernel
theorem hk_132_5 : ax_look 132 5 = some (.iconst 0, (0, 0, 0), .null, []) := by decide +kernel
theorem hk_132_6 : ax_look 132 6 = some (.ireturn, (0, 0, 0), .null, []) := by decide +kernel
theorem hn_193 : (ax_mm 193).2.2.1 = 3 := by decide +kernel
theorem hr_193 : (ax_mm 193).2.2.2.1 = some .int := by decide +kernel
theorem hk_193_0 : ax_look 193 0 = some (.iconst 0, (0, 0, 0), .null, []) := by decide +kernel
theorem hk_193_1 : ax_look 193 1 = some (.istore_n 1, (0, 0, 0), .null, []) := by decide +kernel
theorem hk_193_2 : ax_look 193 2 = some (.iconst 0, (0, 0, 0), .null, []) := by decide +kernel
theorem hk_193_3 : ax_look 193 3 = some (.istore_n 2, (0, 0, 0), .null, []) := by decide +kernel
theorem hk_193_4 : ax_look 193 4 = some (.iload_n 2, (0, 0, 0), .null, []) := by decide +kernel
theorem hk_193_5 : ax_look 193 5 = some (.bipush 12, (0, 0, 0), .null, []) := by decide +kernel
theorem hk_193_7 : ax_look 193 7 = some (.if_icmp .ge 26, (0, 0, 0), .null, []) := by decide +kernel
theorem hk_193_10 : ax_look 193 10 = some (.iload_n 1, (0, 0, 0), .null, []) := by decide +kernel
theorem hk_193_11 : ax_look 193 11 = some (.aload_n 0, (0, 0, 0), .null, []) := by decide +kernel
theorem hk_193_12 : ax_look 193 12 = some (.getfield 43, (9, 23, 0), .null, [999999]) := by decide +kernel
theorem hk_193_15 : ax_look 193 15 = some (.iload_n 2, (0, 0, 0), .null, []) := by decide +kernel
theorem hk_193_16 : ax_look 193 16 = some (.iaload, (0, 0, 0), .null, []) := by decide +kernel
theorem hk_193_17 : ax_look 193 17 = some (.ifCond .lt 7, (0, 0, 0), .null, []) := by decide +kernel
theorem hk_193_20 : ax_look 193 20 = some (.iconst 1, (0, 0, 0), .null, []) := by decide +kernel
theorem hk_193_21 : ax_look 193 21 = some (.goto 4, (0, 0, 0), .null, []) := by decide +kernel
theorem hk_193_24 : ax_look 193 24 = some (.iconst 0, (0, 0, 0), .null, []) := by decide +kernel
theorem hk_193_25 : ax_look 193 25 = some (.iadd, (0, 0, 0), .null, []) := by decide +kernel
theorem hk_193_26 : ax_look 193 26 = some (.istore_n 1, (0, 0, 0), .null, []) := by decide +kernel
theorem hk_193_27 : ax_look 193 27 = some (.iinc 2 1, (0, 0, 0), .null, []) := by decide +kernel
theorem hk_193_30 : ax_look 193 30 = some (.goto (-26), (0, 0, 0), .null, []) := by decide +kernel
theorem hk_193_33 : ax_look 193 33 = some (.iload_n 1, (0, 0, 0), .null, []) := by decide +kernel
theorem hk_193_34 : ax_look 193 34 = some (.ireturn, (0, 0, 0), .null, []) := by decide +kernel
theorem hn_142 : (ax_mm 142).2.2.1 = 2 := by decide +kernel
theorem hr_142 : (ax_mm 142).2.2.2.1 = some .int := by decide +kernel
theorem hk_142_0 : ax_look 142 0 = some (.iconst 0, (0, 0, 0), .null, []) := by decide +kernel
theorem hk_142_1 : ax_look 142 1 = some (.istore_n 1, (0, 0, 0), .null, []) := by decide +kernel
theorem hk_142_2 : ax_look 142 2 = some (.iload_n 1, (0, 0, 0), .null, []) := by decide +kernel
theorem hk_142_3 : ax_look 142 3 = some (.bipush 24, (0, 0, 0), .null, []) := by decide +kernel
theorem hk_142_5 : ax_look 142 5 = some (.if_icmp .ge 29, (0, 0, 0), .null, []) := by decide +kernel
theorem hk_142_8 : ax_look 142 8 = some (.aload_n 0, (0, 0, 0), .null, []) := by decide +kernel
theorem hk_142_9 : ax_look 142 9 = some (.getfield 9, (9, 2, 0), .null, [999999]) := by decide +kernel
theorem hk_142_12 : ax_look 142 12 = some (.bipush 24, (0, 0, 0), .null, []) := by decide +kernel
theorem hk_142_14 : ax_look 142 14 = some (.aload_n 0, (0, 0, 0), .null, []) := by decide +kernel
theorem hk_142_15 : ax_look 142 15 = some (.getfield 64, (9, 1, 0), .null, [999999]) := by decide +kernel
theorem hk_142_18 : ax_look 142 18 = some (.imul, (0, 0, 0), .null, []) := by decide +kernel
theorem hk_142_19 : ax_look 142 19 = some (.iload_n 1, (0, 0, 0), .null, []) := by decide +kernel
theorem hk_142_20 : ax_look 142 20 = some (.iadd, (0, 0, 0), .null, []) := by decide +kernel
theorem hk_142_21 : ax_look 142 21 = some (.aload_n 0, (0, 0, 0), .null, []) := by decide +kernel
theorem hk_142_22 : ax_look 142 22 = some (.getfield 16, (9, 4, 0), .null, [999999]) := by decide +kernel
theorem hk_142_25 : ax_look 142 25 = some (.iload_n 1, (0, 0, 0), .null, []) := by decide +kernel
theorem hk_142_26 : ax_look 142 26 = some (.laload, (0, 0, 0), .null, []) := by decide +kernel
theorem hk_142_27 : ax_look 142 27 = some (.lastore, (0, 0, 0), .null, []) := by decide +kernel
theorem hk_142_28 : ax_look 142 28 = some (.iinc 1 1, (0, 0, 0), .null, []) := by decide +kernel
theorem hk_142_31 : ax_look 142 31 = some (.goto (-29), (0, 0, 0), .null, []) := by decide +kernel
theorem hk_142_34 : ax_look 142 34 = some (.aload_n 0, (0, 0, 0), .null, []) := by decide +kernel
theorem hk_142_35 : ax_look 142 35 = some (.getfield 13, (9, 3, 0), .null, [999999]) := by decide +kernel
theorem hk_142_38 : ax_look 142 38 = some (.aload_n 0, (0, 0, 0), .null, []) := by decide +kernel
theorem hk_142_39 : ax_look 142 39 = some (.getfield 64, (9, 1, 0), .null, [999999]) := by decide +kernel
theorem hk_142_42 : ax_look 142 42 = some (.aload_n 0, (0, 0, 0), .null, []) := by decide +kernel
theorem hk_142_43 : ax_look 142 43 = some (.getfield 67, (9, 5, 0), .null, [999999]) := by decide +kernel
theorem hk_142_46 : ax_look 142 46 = some (.lastore, (0, 0, 0), .null, []) := by decide +kernel
theorem hk_142_47 : ax_look 142 47 = some (.aload_n 0, (0, 0, 0), .null, []) := by decide +kernel
theorem hk_142_48 : ax_look 142 48 = some (.dup, (0, 0, 0), .null, []) := by decide +kernel
theorem hk_142_49 : ax_look 142 49 = some (.getfield 64, (9, 1, 0), .null, [999999]) := by decide +kernel
theorem hk_142_52 : ax_look 142 52 = some (.iconst 1, (0, 0, 0), .null, []) := by decide +kernel
theorem hk_142_53 : ax_look 142 53 = some (.iadd, (0, 0, 0), .null, []) := by decide +kernel
theorem hk_142_54 : ax_look 142 54 = some (.putfield 64, (9, 1, 0), .null, [999999]) := by decide +kernel
theorem hk_142_57 : ax_look 142 57 = some (.aload_n 0, (0, 0, 0), .null, []) := by decide +kernel
theorem hk_142_58 : ax_look 142 58 = some (.invokevirtual 90, (191, 0, 9), .null, [999999, 999999]) := by decide +kernel
theorem hk_142_61 : ax_look 142 61 = some (.aload_n 0, (0, 0, 0), .null, []) := by decide +kernel
theorem hk_142_62 : ax_look 142 62 = some (.getfield 64, (9, 1, 0), .null, [999999]) := by decide +kernel
theorem hk_142_65 : ax_look 142 65 = some (.iconst 1, (0, 0, 0), .null, []) := by decide +kernel
theorem hk_142_66 : ax_look 142 66 = some (.isub, (0, 0, 0), .null, []) := by decide +kernel
theorem hk_142_67 : ax_look 142 67 = some (.ireturn, (0, 0, 0), .null, []) := by decide +kernel
theorem hn_194 : (ax_mm 194).2.2.1 = 2 := by decide +kernel
theorem hr_194 : (ax_mm 194).2.2.2.1 = some .int := by decide +kernel
theorem hk_194_0 : ax_look 194 0 = some (.aload_n 0, (0, 0, 0), .null, []) := by decide +kernel
theorem hk_194_1 : ax_look 194 1 = some (.iconst 0, (0, 0, 0), .null, []) := by decide +kernel
theorem hk_194_2 : ax_look 194 2 = some (.putfield 61, (9, 0, 0), .null, [999999]) := by decide +kernel
theorem hk_194_5 : ax_look 194 5 = some (.iload_n 1, (0, 0, 0), .null, []) := by decide +kernel
theorem hk_194_6 : ax_look 194 6 = some (.invokestatic 201, (135, 1, 0), .null, [999999]) := by decide +kernel
theorem hk_194_9 : ax_look 194 9 = some (.ifCond .ne 9, (0, 0, 0), .null, []) := by decide +kernel
theorem hk_194_12 : ax_look 194 12 = some (.aload_n 0, (0, 0, 0), .null, []) := by decide +kernel
theorem hk_194_13 : ax_look 194 13 = some (.iconst 1, (0, 0, 0), .null, []) := by decide +kernel
theorem hk_194_14 : ax_look 194 14 = some (.invokevirtual 96, (132, 1, 9), .null, [999999, 999999]) := by decide +kernel
theorem hk_194_17 : ax_look 194 17 = some (.ireturn, (0, 0, 0), .null, []) := by decide +kernel
theorem hk_194_18 : ax_look 194 18 = some (.aload_n 0, (0, 0, 0), .null, []) := by decide +kernel
theorem hk_194_19 : ax_look 194 19 = some (.getfield 43, (9, 23, 0), .null, [999999]) := by decide +kernel
theorem hk_194_22 : ax_look 194 22 = some (.iload_n 1, (0, 0, 0), .null, []) := by decide +kernel
theorem hk_194_23 : ax_look 194 23 = some (.iconst 2, (0, 0, 0), .null, []) := by decide +kernel
theorem hk_194_24 : ax_look 194 24 = some (.idiv, (0, 0, 0), .null, []) := by decide +kernel
theorem hk_194_25 : ax_look 194 25 = some (.iaload, (0, 0, 0), .null, []) := by decide +kernel
theorem hk_194_26 : ax_look 194 26 = some (.ifCond .ge 10, (0, 0, 0), .null, []) := by decide +kernel
theorem hk_194_29 : ax_look 194 29 = some (.aload_n 0, (0, 0, 0), .null, []) := by decide +kernel
theorem hk_194_30 : ax_look 194 30 = some (.getfield 247, (9, 24, 0), .null, [999999]) := by decide +kernel
theorem hk_194_33 : ax_look 194 33 = some (.ifCond .eq 9, (0, 0, 0), .null, []) := by decide +kernel
theorem hk_194_36 : ax_look 194 36 = some (.aload_n 0, (0, 0, 0), .null, []) := by decide +kernel
theorem hk_194_37 : ax_look 194 37 = some (.iconst 2, (0, 0, 0), .null, []) := by decide +kernel
theorem hk_194_38 : ax_look 194 38 = some (.invokevirtual 96, (132, 1, 9), .null, [999999, 999999]) := by decide +kernel
theorem hk_194_41 : ax_look 194 41 = some (.ireturn, (0, 0, 0), .null, []) := by decide +kernel
theorem hk_194_42 : ax_look 194 42 = some (.aload_n 0, (0, 0, 0), .null, []) := by decide +kernel
theorem hk_194_43 : ax_look 194 43 = some (.getfield 40, (9, 22, 0), .null, [999999]) := by decide +kernel
theorem hk_194_46 : ax_look 194 46 = some (.aload_n 0, (0, 0, 0), .null, []) := by decide +kernel
theorem hk_194_47 : ax_look 194 47 = some (.getfield 244, (9, 21, 0), .null, [999999]) := by decide +kernel
theorem hk_194_50 : ax_look 194 50 = some (.iload_n 1, (0, 0, 0), .null, []) := by decide +kernel
theorem hk_194_51 : ax_look 194 51 = some (.iastore, (0, 0, 0), .null, []) := by decide +kernel
theorem hk_194_52 : ax_look 194 52 = some (.aload_n 0, (0, 0, 0), .null, []) := by decide +kernel
theorem hk_194_53 : ax_look 194 53 = some (.dup, (0, 0, 0), .null, []) := by decide +kernel
theorem hk_194_54 : ax_look 194 54 = some (.getfield 244, (9, 21, 0), .null, [999999]) := by decide +kernel
theorem hk_194_57 : ax_look 194 57 = some (.iconst 1, (0, 0, 0), .null, []) := by decide +kernel
theorem hk_194_58 : ax_look 194 58 = some (.iadd, (0, 0, 0), .null, []) := by decide +kernel
theorem hk_194_59 : ax_look 194 59 = some (.putfield 244, (9, 21, 0), .null, [999999]) := by decide +kernel
theorem hk_194_62 : ax_look 194 62 = some (.aload_n 0, (0, 0, 0), .null, []) := by decide +kernel
theorem hk_194_63 : ax_look 194 63 = some (.invokevirtual 90, (191, 0, 9), .null, [999999, 999999]) := by decide +kernel
theorem hk_194_66 : ax_look 194 66 = some (.aload_n 0, (0, 0, 0), .null, []) := by decide +kernel
theorem hk_194_67 : ax_look 194 67 = some (.getfield 247, (9, 24, 0), .null, [999999]) := by decide +kernel
theorem hk_194_70 : ax_look 194 70 = some (.ifCond .ne 8, (0, 0, 0), .null, []) := by decide +kernel
theorem hk_194_73 : ax_look 194 73 = some (.aload_n 0, (0, 0, 0), .null, []) := by decide +kernel
theorem hk_194_74 : ax_look 194 74 = some (.invokevirtual 253, (193, 0, 9), .null, [999999, 999999]) := by decide +kernel
theorem hk_194_77 : ax_look 194 77 = some (.ireturn, (0, 0, 0), .null, []) := by decide +kernel
theorem hk_194_78 : ax_look 194 78 = some (.aload_n 0, (0, 0, 0), .null, []) := by decide +kernel
theorem hk_194_79 : ax_look 194 79 = some (.dup, (0, 0, 0), .null, []) := by decide +kernel
theorem hk_194_80 : ax_look 194 80 = some (.getfield 244, (9, 21, 0), .null, [999999]) := by decide +kernel
theorem hk_194_83 : ax_look 194 83 = some (.iconst 1, (0, 0, 0), .null, []) := by decide +kernel
theorem hk_194_84 : ax_look 194 84 = some (.isub, (0, 0, 0), .null, []) := by decide +kernel
theorem hk_194_85 : ax_look 194 85 = some (.putfield 244, (9, 21, 0), .null, [999999]) := by decide +kernel
theorem hk_194_88 : ax_look 194 88 = some (.aload_n 0, (0, 0, 0), .null, []) := by decide +kernel
theorem hk_194_89 : ax_look 194 89 = some (.invokevirtual 90, (191, 0, 9), .null, [999999, 999999]) := by decide +kernel
theorem hk_194_92 : ax_look 194 92 = some (.iconst (-1), (0, 0, 0), .null, []) := by decide +kernel
theorem hk_194_93 : ax_look 194 93 = some (.ireturn, (0, 0, 0), .null, []) := by decide +kernel
theorem hn_195 : (ax_mm 195).2.2.1 = 1 := by decide +kernel
theorem hr_195 : (ax_mm 195).2.2.2.1 = some .int := by decide +kernel
theorem hk_195_0 : ax_look 195 0 = some (.aload_n 0, (0, 0, 0), .null, []) := by decide +kernel
theorem hk_195_1 : ax_look 195 1 = some (.iconst 0, (0, 0, 0), .null, []) := by decide +kernel
theorem hk_195_2 : ax_look 195 2 = some (.putfield 61, (9, 0, 0), .null, [999999]) := by decide +kernel
theorem hk_195_5 : ax_look 195 5 = some (.aload_n 0, (0, 0, 0), .null, []) := by decide +kernel
theorem hk_195_6 : ax_look 195 6 = some (.getfield 244, (9, 21, 0), .null, [999999]) := by decide +kernel
theorem hk_195_9 : ax_look 195 9 = some (.ifCond .ne 9, (0, 0, 0), .null, []) := by decide +kernel
theorem hk_195_12 : ax_look 195 12 = some (.aload_n 0, (0, 0, 0), .null, []) := by decide +kernel
theorem hk_195_13 : ax_look 195 13 = some (.iconst 1, (0, 0, 0), .null, []) := by decide +kernel
theorem hk_195_14 : ax_look 195 14 = some (.invokevirtual 96, (132, 1, 9), .null, [999999, 999999]) := by decide +kernel
theorem hk_195_17 : ax_look 195 17 = some (.ireturn, (0, 0, 0), .null, []) := by decide +kernel
theorem hk_195_18 : ax_look 195 18 = some (.aload_n 0, (0, 0, 0), .null, []) := by decide +kernel
theorem hk_195_19 : ax_look 195 19 = some (.dup, (0, 0, 0), .null, []) := by decide +kernel
theorem hk_195_20 : ax_look 195 20 = some (.getfield 244, (9, 21, 0), .null, [999999]) := by decide +kernel
theorem hk_195_23 : ax_look 195 23 = some (.iconst 1, (0, 0, 0), .null, []) := by decide +kernel
theorem hk_195_24 : ax_look 195 24 = some (.isub, (0, 0, 0), .null, []) := by decide +kernel
theorem hk_195_25 : ax_look 195 25 = some (.putfield 244, (9, 21, 0), .null, [999999]) := by decide +kernel
theorem hk_195_28 : ax_look 195 28 = some (.aload_n 0, (0, 0, 0), .null, []) := by decide +kernel
theorem hk_195_29 : ax_look 195 29 = some (.invokevirtual 90, (191, 0, 9), .null, [999999, 999999]) := by decide +kernel
theorem hk_195_32 : ax_look 195 32 = some (.aload_n 0, (0, 0, 0), .null, []) := by decide +kernel
theorem hk_195_33 : ax_look 195 33 = some (.getfield 244, (9, 21, 0), .null, [999999]) := by decide +kernel
theorem hk_195_36 : ax_look 195 36 = some (.ireturn, (0, 0, 0), .null, []) := by decide +kernel
theorem hn_216 : (ax_mm 216).2.2.1 = 2 := by decide +kernel
theorem hr_216 : (ax_mm 216).2.2.2.1 = some .int := by decide +kernel
theorem hk_216_0 : ax_look 216 0 = some (.aload_n 0, (0, 0, 0), .null, []) := by decide +kernel
theorem hk_216_1 : ax_look 216 1 = some (.iconst 0, (0, 0, 0), .null, []) := by decide +kernel
theorem hk_216_2 : ax_look 216 2 = some (.putfield 61, (9, 0, 0), .null, [999999]) := by decide +kernel
theorem hk_216_5 : ax_look 216 5 = some (.aload_n 0, (0, 0, 0), .null, []) := by decide +kernel
theorem hk_216_6 : ax_look 216 6 = some (.getfield 278, (9, 28, 0), .null, [999999]) := by decide +kernel
theorem hk_216_9 : ax_look 216 9 = some (.bipush 8, (0, 0, 0), .null, []) := by decide +kernel
theorem hk_216_11 : ax_look 216 11 = some (.if_icmp .ne 9, (0, 0, 0), .null, []) := by decide +kernel
theorem hk_216_14 : ax_look 216 14 = some (.aload_n 0, (0, 0, 0), .null, []) := by decide +kernel
theorem hk_216_15 : ax_look 216 15 = some (.iconst 1, (0, 0, 0), .null, []) := by decide +kernel
theorem hk_216_16 : ax_look 216 16 = some (.invokevirtual 96, (132, 1, 9), .null, [999999, 999999]) := by decide +kernel
theorem hk_216_19 : ax_look 216 19 = some (.ireturn, (0, 0, 0), .null, []) := by decide +kernel
theorem hk_216_20 : ax_look 216 20 = some (.aload_n 0, (0, 0, 0), .null, []) := by decide +kernel
theorem hk_216_21 : ax_look 216 21 = some (.getfield 52, (9, 29, 0), .null, [999999]) := by decide +kernel
theorem hk_216_24 : ax_look 216 24 = some (.aload_n 0, (0, 0, 0), .null, []) := by decide +kernel
theorem hk_216_25 : ax_look 216 25 = some (.getfield 278, (9, 28, 0), .null, [999999]) := by decide +kernel
theorem hk_216_28 : ax_look 216 28 = some (.aload_n 0, (0, 0, 0), .null, []) := by decide +kernel
theorem hk_216_29 : ax_look 216 29 = some (.getfield 64, (9, 1, 0), .null, [999999]) := by decide +kernel
theorem hk_216_32 : ax_look 216 32 = some (.iastore, (0, 0, 0), .null, []) := by decide +kernel
theorem hk_216_33 : ax_look 216 33 = some (.aload_n 0, (0, 0, 0), .null, []) := by decide +kernel
theorem hk_216_34 : ax_look 216 34 = some (.getfield 55, (9, 30, 0), .null, [999999]) := by decide +kernel
theorem hk_216_37 : ax_look 216 37 = some (.aload_n 0, (0, 0, 0), .null, []) := by decide +kernel
theorem hk_216_38 : ax_look 216 38 = some (.getfield 278, (9, 28, 0), .null, [999999]) := by decide +kernel
theorem hk_216_41 : ax_look 216 41 = some (.aload_n 0, (0, 0, 0), .null, []) := by decide +kernel
theorem hk_216_42 : ax_look 216 42 = some (.getfield 244, (9, 21, 0), .null, [999999]) := by decide +kernel
theorem hk_216_45 : ax_look 216 45 = some (.iastore, (0, 0, 0), .null, []) := by decide +kernel
theorem hk_216_46 : ax_look 216 46 = some (.iconst 0, (0, 0, 0), .null, []) := by decide +kernel
theorem hk_216_47 : ax_look 216 47 = some (.istore_n 1, (0, 0, 0), .null, []) := by decide +kernel
theorem hk_216_48 : ax_look 216 48 = some (.iload_n 1, (0, 0, 0), .null, []) := by decide +kernel
theorem hk_216_49 : ax_look 216 49 = some (.aload_n 0, (0, 0, 0), .null, []) := by decide +kernel
theorem hk_216_50 : ax_look 216 50 = some (.getfield 244, (9, 21, 0), .null, [999999]) := by decide +kernel
theorem hk_216_53 : ax_look 216 53 = some (.if_icmp .ge 29, (0, 0, 0), .null, []) := by decide +kernel
theorem hk_216_56 : ax_look 216 56 = some (.aload_n 0, (0, 0, 0), .null, []) := by decide +kernel
theorem hk_216_57 : ax_look 216 57 = some (.getfield 58, (9, 31, 0), .null, [999999]) := by decide +kernel
theorem hk_216_60 : ax_look 216 60 = some (.bipush 12, (0, 0, 0), .null, []) := by decide +kernel
theorem hk_216_62 : ax_look 216 62 = some (.aload_n 0, (0, 0, 0), .null, []) := by decide +kernel
theorem hk_216_63 : ax_look 216 63 = some (.getfield 278, (9, 28, 0), .null, [999999]) := by decide +kernel
theorem hk_216_66 : ax_look 216 66 = some (.imul, (0, 0, 0), .null, []) := by decide +kernel
theorem hk_216_67 : ax_look 216 67 = some (.iload_n 1, (0, 0, 0), .null, []) := by decide +kernel
theorem hk_216_68 : ax_look 216 68 = some (.iadd, (0, 0, 0), .null, []) := by decide +kernel
theorem hk_216_69 : ax_look 216 69 = some (.aload_n 0, (0, 0, 0), .null, []) := by decide +kernel
theorem hk_216_70 : ax_look 216 70 = some (.getfield 40, (9, 22, 0), .null, [999999]) := by decide +kernel
theorem hk_216_73 : ax_look 216 73 = some (.iload_n 1, (0, 0, 0), .null, []) := by decide +kernel
theorem hk_216_74 : ax_look 216 74 = some (.iaload, (0, 0, 0), .null, []) := by decide +kernel
theorem hk_216_75 : ax_look 216 75 = some (.iastore, (0, 0, 0), .null, []) := by decide +kernel
theorem hk_216_76 : ax_look 216 76 = some (.iinc 1 1, (0, 0, 0), .null, []) := by decide +kernel
theorem hk_216_79 : ax_look 216 79 = some (.goto (-31), (0, 0, 0), .null, []) := by decide +kernel
theorem hk_216_82 : ax_look 216 82 = some (.aload_n 0, (0, 0, 0), .null, []) := by decide +kernel
theorem hk_216_83 : ax_look 216 83 = some (.dup, (0, 0, 0), .null, []) := by decide +kernel
theorem hk_216_84 : ax_look 216 84 = some (.getfield 278, (9, 28, 0), .null, [999999]) := by decide +kernel
theorem hk_216_87 : ax_look 216 87 = some (.iconst 1, (0, 0, 0), .null, []) := by decide +kernel
theorem hk_216_88 : ax_look 216 88 = some (.iadd, (0, 0, 0), .null, []) := by decide +kernel
theorem hk_216_89 : ax_look 216 89 = some (.putfield 278, (9, 28, 0), .null, [999999]) := by decide +kernel
theorem hk_216_92 : ax_look 216 92 = some (.aload_n 0, (0, 0, 0), .null, []) := by decide +kernel
theorem hk_216_93 : ax_look 216 93 = some (.getfield 278, (9, 28, 0), .null, [999999]) := by decide +kernel
theorem hk_216_96 : ax_look 216 96 = some (.ireturn, (0, 0, 0), .null, []) := by decide +kernel
theorem hn_217 : (ax_mm 217).2.2.1 = 2 := by decide +kernel
theorem hr_217 : (ax_mm 217).2.2.2.1 = some .int := by decide +kernel
theorem hk_217_0 : ax_look 217 0 = some (.aload_n 0, (0, 0, 0), .null, []) := by decide +kernel
theorem hk_217_1 : ax_look 217 1 = some (.iconst 0, (0, 0, 0), .null, []) := by decide +kernel
theorem hk_217_2 : ax_look 217 2 = some (.putfield 61, (9, 0, 0), .null, [999999]) := by decide +kernel
theorem hk_217_5 : ax_look 217 5 = some (.aload_n 0, (0, 0, 0), .null, []) := by decide +kernel
theorem hk_217_6 : ax_look 217 6 = some (.getfield 278, (9, 28, 0), .null, [999999]) := by decide +kernel
theorem hk_217_9 : ax_look 217 9 = some (.ifCond .ne 9, (0, 0, 0), .null, []) := by decide +kernel
theorem hk_217_12 : ax_look 217 12 = some (.aload_n 0, (0, 0, 0), .null, []) := by decide +kernel
theorem hk_217_13 : ax_look 217 13 = some (.iconst 1, (0, 0, 0), .null, []) := by decide +kernel
theorem hk_217_14 : ax_look 217 14 = some (.invokevirtual 96, (132, 1, 9), .null, [999999, 999999]) := by decide +kernel
theorem hk_217_17 : ax_look 217 17 = some (.ireturn, (0, 0, 0), .null, []) := by decide +kernel
theorem hk_217_18 : ax_look 217 18 = some (.aload_n 0, (0, 0, 0), .null, []) := by decide +kernel
theorem hk_217_19 : ax_look 217 19 = some (.dup, (0, 0, 0), .null, []) := by decide +kernel
theorem hk_217_20 : ax_look 217 20 = some (.getfield 278, (9, 28, 0), .null, [999999]) := by decide +kernel
theorem hk_217_23 : ax_look 217 23 = some (.iconst 1, (0, 0, 0), .null, []) := by decide +kernel
theorem hk_217_24 : ax_look 217 24 = some (.isub, (0, 0, 0), .null, []) := by decide +kernel
theorem hk_217_25 : ax_look 217 25 = some (.putfield 278, (9, 28, 0), .null, [999999]) := by decide +kernel
theorem hk_217_28 : ax_look 217 28 = some (.aload_n 0, (0, 0, 0), .null, []) := by decide +kernel
theorem hk_217_29 : ax_look 217 29 = some (.aload_n 0, (0, 0, 0), .null, []) := by decide +kernel
theorem hk_217_30 : ax_look 217 30 = some (.getfield 52, (9, 29, 0), .null, [999999]) := by decide +kernel
theorem hk_217_33 : ax_look 217 33 = some (.aload_n 0, (0, 0, 0), .null, []) := by decide +kernel
theorem hk_217_34 : ax_look 217 34 = some (.getfield 278, (9, 28, 0), .null, [999999]) := by decide +kernel
theorem hk_217_37 : ax_look 217 37 = some (.iaload, (0, 0, 0), .null, []) := by decide +kernel
theorem hk_217_38 : ax_look 217 38 = some (.putfield 64, (9, 1, 0), .null, [999999]) := by decide +kernel
theorem hk_217_41 : ax_look 217 41 = some (.aload_n 0, (0, 0, 0), .null, []) := by decide +kernel
theorem hk_217_42 : ax_look 217 42 = some (.aload_n 0, (0, 0, 0), .null, []) := by decide +kernel
theorem hk_217_43 : ax_look 217 43 = some (.getfield 55, (9, 30, 0), .null, [999999]) := by decide +kernel
theorem hk_217_46 : ax_look 217 46 = some (.aload_n 0, (0, 0, 0), .null, []) := by decide +kernel
theorem hk_217_47 : ax_look 217 47 = some (.getfield 278, (9, 28, 0), .null, [999999]) := by decide +kernel
theorem hk_217_50 : ax_look 217 50 = some (.iaload, (0, 0, 0), .null, []) := by decide +kernel
theorem hk_217_51 : ax_look 217 51 = some (.putfield 244, (9, 21, 0), .null, [999999]) := by decide +kernel
theorem hk_217_54 : ax_look 217 54 = some (.iconst 0, (0, 0, 0), .null, []) := by decide +kernel
theorem hk_217_55 : ax_look 217 55 = some (.istore_n 1, (0, 0, 0), .null, []) := by decide +kernel
theorem hk_217_56 : ax_look 217 56 = some (.iload_n 1, (0, 0, 0), .null, []) := by decide +kernel
theorem hk_217_57 : ax_look 217 57 = some (.aload_n 0, (0, 0, 0), .null, []) := by decide +kernel
theorem hk_217_58 : ax_look 217 58 = some (.getfield 244, (9, 21, 0), .null, [999999]) := by decide +kernel
theorem hk_217_61 : ax_look 217 61 = some (.if_icmp .ge 29, (0, 0, 0), .null, []) := by decide +kernel
theorem hk_217_64 : ax_look 217 64 = some (.aload_n 0, (0, 0, 0), .null, []) := by decide +kernel
theorem hk_217_65 : ax_look 217 65 = some (.getfield 40, (9, 22, 0), .null, [999999]) := by decide +kernel
theorem hk_217_68 : ax_look 217 68 = some (.iload_n 1, (0, 0, 0), .null, []) := by decide +kernel
theorem hk_217_69 : ax_look 217 69 = some (.aload_n 0, (0, 0, 0), .null, []) := by decide +kernel
theorem hk_217_70 : ax_look 217 70 = some (.getfield 58, (9, 31, 0), .null, [999999]) := by decide +kernel
theorem hk_217_73 : ax_look 217 73 = some (.bipush 12, (0, 0, 0), .null, []) := by decide +kernel
theorem hk_217_75 : ax_look 217 75 = some (.aload_n 0, (0, 0, 0), .null, []) := by decide +kernel
theorem hk_217_76 : ax_look 217 76 = some (.getfield 278, (9, 28, 0), .null, [999999]) := by decide +kernel
theorem hk_217_79 : ax_look 217 79 = some (.imul, (0, 0, 0), .null, []) := by decide +kernel
theorem hk_217_80 : ax_look 217 80 = some (.iload_n 1, (0, 0, 0), .null, []) := by decide +kernel
theorem hk_217_81 : ax_look 217 81 = some (.iadd, (0, 0, 0), .null, []) := by decide +kernel
theorem hk_217_82 : ax_look 217 82 = some (.iaload, (0, 0, 0), .null, []) := by decide +kernel
theorem hk_217_83 : ax_look 217 83 = some (.iastore, (0, 0, 0), .null, []) := by decide +kernel
theorem hk_217_84 : ax_look 217 84 = some (.iinc 1 1, (0, 0, 0), .null, []) := by decide +kernel
theorem hk_217_87 : ax_look 217 87 = some (.goto (-31), (0, 0, 0), .null, []) := by decide +kernel
theorem hk_217_90 : ax_look 217 90 = some (.aload_n 0, (0, 0, 0), .null, []) := by decide +kernel
theorem hk_217_91 : ax_look 217 91 = some (.invokevirtual 90, (191, 0, 9), .null, [999999, 999999]) := by decide +kernel
theorem hk_217_94 : ax_look 217 94 = some (.aload_n 0, (0, 0, 0), .null, []) := by decide +kernel
theorem hk_217_95 : ax_look 217 95 = some (.getfield 278, (9, 28, 0), .null, [999999]) := by decide +kernel
theorem hk_217_98 : ax_look 217 98 = some (.ireturn, (0, 0, 0), .null, []) := by decide +kernel
theorem hy_t181_0 : ty_tt 181 0 = (0, 0, 0, (-2147483648), 2147483647) := by decide +kernel
theorem hy_t181_3 : ty_tt 181 3 = (2, 183, 0, 0, 0) := by decide +kernel
theorem hy_t181_5 : ty_tt 181 5 = (1, 0, 0, (-9223372036854775808), 9223372036854775807) := by decide +kernel
theorem hy_t183_0 : ty_tt 183 0 = (1, 0, 0, 0, 9999999999) := by decide +kernel
theorem hy_t181_4 : ty_tt 181 4 = (2, 184, 0, 0, 0) := by decide +kernel
theorem hy_t184_0 : ty_tt 184 0 = (1, 0, 0, (-9223372036854775808), 9223372036854775807) := by decide +kernel
theorem hy_t181_28 : ty_tt 181 28 = (0, 0, 0, 0, 8) := by decide +kernel
theorem hy_t181_31 : ty_tt 181 31 = (2, 196, 0, 0, 0) := by decide +kernel
theorem hy_t196_0 : ty_tt 196 0 = (0, 0, 0, 0, 23) := by decide +kernel
theorem hy_t181_29 : ty_tt 181 29 = (2, 194, 0, 0, 0) := by decide +kernel
theorem hy_t194_0 : ty_tt 194 0 = (0, 0, 0, 0, 60) := by decide +kernel
theorem hy_t181_30 : ty_tt 181 30 = (2, 195, 0, 0, 0) := by decide +kernel
theorem hy_t195_0 : ty_tt 195 0 = (0, 0, 0, 0, 12) := by decide +kernel
theorem AM.mono {ns : ax_NS} {l : Launch} {k : ax_M} {d : Nat} {r : ax_H} {mc ms : Nat} {as : List Value} {h : ax_H} {Q Q' : ax_Q} (hq : ∀ res h, Q res h → Q' res h) (K : AM ns l k d r mc ms as h Q) : AM ns l k d r mc ms as h Q' := by
  intro D b o
  refine MetFree.mono (K D b o) (fun a U hp => hp) (fun _ _ _ _ _ h9 => h9) (fun a st oc t _ hq9 => ?_)
  rcases hq9 with ⟨⟨v, vc, h', e1, e2, e3, e4, e5⟩, hL⟩ | ⟨q, e, E, ce, L, ⟨h', x1, x2, x3⟩, x4⟩
  · exact Or.inl ⟨⟨v, vc, h', e1, e2, hq _ _ e3, e4, e5⟩, hL⟩
  · exact Or.inr ⟨q, e, E, ce, L, ⟨h', hq _ _ x1, x2, x3⟩, x4⟩
section HM3
variable {l : Launch} {K : Int} {h h0 g g' : ax_H} {c y : Int32} {cn yn W : Nat}
/-! what stays -/
theorem hy_zA (F : ty_F W g g') {q : Nat} (ha : ty_ar q = true) (hq : q < 198) (hk : (ty_tab q).2.2.1 ≠ 0) (hw : W.testBit (ty_ky q 0) = false) (j : Nat) : hy_z g' q j = hy_z g q j := hy_zF F j hq hk (hy_kA ha hw j)
theorem hy_Id.go (a : ∀ j, hy_z g' 190 j = hy_z g 190 j) (b : hy_z g' 181 21 = hy_z g 181 21) (hi : hy_Id g) : hy_Id g' := by
  unfold hy_Id at hi ⊢
  simp only [a, b]
  exact hi
theorem hy_Il.go (a : ∀ j, hy_z g' 195 j = hy_z g 195 j) (b : ∀ j, hy_z g' 196 j = hy_z g 196 j) (hi : hy_Il g) : hy_Il g' := by
  unfold hy_Il at hi ⊢
  simp only [a, b]
  exact hi
theorem hy_Ip.go (a : ∀ j, hy_z g' 182 j = hy_z g 182 j) (hi : hy_Ip g) : hy_Ip g' := by
  unfold hy_Ip at hi ⊢
  simp only [a]
  exact hi
theorem hy_Is.gF (F : ty_F W g g') (h31 : W.testBit 31 = false) (h32 : W.testBit 32 = false) (h34 : W.testBit 34 = false) (hs : hy_Is g) : hy_Is g' := by
  obtain ⟨k, bs, n, a1, a2, a3, a4, a5⟩ := hs
  have e : ∀ j, W.testBit (ty_ky 5 j) = false → ty_fd g' 5 j = ty_fd g 5 j := fun j hj => F.2.1 5 j (by decide) (by decide +kernel) hj
  have k0 : ty_ky 5 0 = 31 := by decide +kernel
  have k1 : ty_ky 5 1 = 32 := by decide +kernel
  have k3 : ty_ky 5 3 = 34 := by decide +kernel
  exact ⟨k, bs, n, by rw [e 0 (by rw [k0]; exact h31)]; exact a1, by rw [e 1 (by rw [k1]; exact h32)]; exact a2, by rw [e 3 (by rw [k3]; exact h34)]; exact a3, F.2.2.2 h31 k bs a4, a5⟩
theorem hy_l195 (hH : hy_H K h) {j : Nat} (hj : j < 8) : 0 ≤ hy_z h 195 j ∧ hy_z h 195 j ≤ 12 := by
  obtain ⟨i, e, a, b⟩ := hy_int hH (q := 195) (n := 8) (by decide) (by decide +kernel) hj (by rw [ty_tt_ar (q := 195) (by decide +kernel)]; exact hy_t195_0)
  rw [hy_zi e]
  exact ⟨a, b⟩
/-- no injection of n + 1 into n -/
theorem hy_pig : ∀ (n : Nat) (f : Nat → Nat), (∀ i, i ≤ n → f i < n) → ¬ ∀ i j, i < j → j ≤ n → f i ≠ f j
  | 0, f, h, _ => absurd (h 0 (Nat.le_refl _)) (Nat.not_lt_zero _)
  | n + 1, f, h, hi => by
    refine hy_pig n (fun i => if f i = n then f (n + 1) else f i) (fun i hin => ?_) (fun i j hij hjn => ?_)
    · skip
      split
      · rename_i e
        have h1 := h (n + 1) (Nat.le_refl _)
        have h2 := hi i (n + 1) (by omega) (Nat.le_refl _)
        omega
      · have := h i (by omega)
        omega
    · skip
      have h1 := hi i j hij (by omega)
      have h2 := hi i (n + 1) (by omega) (Nat.le_refl _)
      have h3 := hi j (n + 1) (by omega) (Nat.le_refl _)
      split <;> split <;> omega
def hq_il (h : ax_H) (x : Int) : ax_Q := fun res g => g = h ∧ ∃ z : Int32, res = .inl (some (.int z)) ∧ ((z.toInt = 1 ∧ 0 ≤ x ∧ x ≤ 23) ∨ (z.toInt = 0 ∧ (x < 0 ∨ 23 < x)))
theorem hf_il (hlst : l.stackTraces = false) (y : Int32) : AM ax_ns l (ax_mm 135) 0 ty_R 0 0 [.int y] h (hq_il h y.toInt) := by
  refine AM.of (ax_mfacts (by decide +kernel : ax_has 135 = true)).2.2.2.2.2.2 hlst (by rw [hn_135]; exact Nat.le_of_ble_eq_true rfl) ?_
  show AR ax_ns l (ax_mm 135) 0 ty_R _ _ 0 [(0, .int y)] [] h 0 0
  refine AR.s (pc' := 1) (lv' := [(0, .int y)]) (st' := [.int y]) (h' := h) _ hn_135 hk_135_0 rfl ?_
  refine AR.zlt hk_135_1 (tgt := 14) (by decide) (fun p0 => ?_) (fun n0 => ?_)
  · refine AR.iconstT hk_135_14 (by decide) (fun z1 ez1 => ?_)
    show AR _ _ _ _ _ _ _ 15 [(0, .int y)] [.int z1] h _ _
    exact AR.zret hk_135_15 hr_135 (by omega) ⟨rfl, z1, rfl, by omega⟩
  · refine AR.s (pc' := 5) (lv' := [(0, .int y)]) (st' := [.int y]) (h' := h) _ hn_135 hk_135_4 rfl ?_
    refine AR.bipushT hk_135_5 (by decide) (fun z2 ez2 => ?_)
    show AR _ _ _ _ _ _ _ 7 [(0, .int y)] [.int z2, .int y] h _ _
    refine AR.jge hk_135_7 (tgt := 14) (by decide) (fun p1 => ?_) (fun n1 => ?_)
    · refine AR.iconstT hk_135_14 (by decide) (fun z3 ez3 => ?_)
      show AR _ _ _ _ _ _ _ 15 [(0, .int y)] [.int z3] h _ _
      exact AR.zret hk_135_15 hr_135 (by omega) ⟨rfl, z3, rfl, by omega⟩
    · refine AR.iconstT hk_135_10 (by decide) (fun z4 ez4 => ?_)
      show AR _ _ _ _ _ _ _ 11 [(0, .int y)] [.int z4] h _ _
      refine AR.gotoT hk_135_11 (tgt := 15) (by decide) ?_
      exact AR.zret hk_135_15 hr_135 (by omega) ⟨rfl, z4, rfl, by omega⟩
abbrev hy_W0 : Nat := 2 ^ 63
def hq_no (K : Int) (h : ax_H) (x : Int) : ax_Q := fun res g => hy_H K g ∧ ty_F hy_W0 h g ∧ hy_z g 181 0 = x ∧ ∃ z : Int32, res = .inl (some (.int z)) ∧ z.toInt = 0
theorem hf_no (hlst : l.stackTraces = false) (hH : hy_H K h) (y : Int32) : AM ax_ns l (ax_mm 132) 0 ty_R 0 0 [.ref 181, .int y] h (hq_no K h y.toInt) := by
  refine AM.of (ax_mfacts (by decide +kernel : ax_has 132 = true)).2.2.2.2.2.2 hlst (by rw [hn_132]; exact Nat.le_of_ble_eq_true rfl) ?_
  have F : ty_F hy_W0 h h := ty_F_refl _ _
  have b1 := Int32.le_toInt y
  have b2 := Int32.toInt_lt y
  show AR ax_ns l (ax_mm 132) 0 ty_R _ _ 0 [(0, .ref 181), (1, .int y)] [] h 0 0
  refine AR.s (pc' := 1) (lv' := [(0, .ref 181), (1, .int y)]) (st' := [.ref 181]) (h' := h) _ hn_132 hk_132_0 rfl ?_
  refine AR.s (pc' := 2) (lv' := [(0, .ref 181), (1, .int y)]) (st' := [.int y, .ref 181]) (h' := h) _ hn_132 hk_132_1 rfl ?_
  refine AR.pT hk_132_2 (by decide) hH F (q := 181) (by decide) (by decide +kernel) (show ax_cls[9]? = some hy_c9 from rfl) (by decide +kernel) (by decide) rfl (by rw [hy_t181_0]; exact ⟨_, rfl, by omega, by omega, Or.inl rfl⟩) (by decide +kernel) (by decide +kernel) ?_
  rintro g5 ⟨Hg5, Fg5, Gg5, Eg5⟩
  show AR _ _ _ _ _ _ _ 5 [(0, .ref 181), (1, .int y)] [] g5 _ _
  refine AR.iconstT hk_132_5 (by decide) (fun z6 ez6 => ?_)
  show AR _ _ _ _ _ _ _ 6 [(0, .ref 181), (1, .int y)] [.int z6] g5 _ _
  refine AR.iret hk_132_6 hr_132 ⟨Hg5, Fg5, ?_, z6, rfl, by omega⟩
  rw [hy_zput Eg5, if_pos ⟨rfl, rfl⟩]
def hq_va (h : ax_H) : ax_Q := fun res g => g = h ∧ ∃ z : Int32, res = .inl (some (.int z))
theorem hf_vaL {X : ax_PX} (hH : hy_H K h) : ∀ (m t : Nat) (n y : Int32), t + m = 12 → y.toInt = (t : Nat) → (0 ≤ n.toInt ∧ n.toInt ≤ t) → AR ax_ns l (ax_mm 193) 0 ty_R (ax_ret ax_ns (ax_mm 193) (hq_va h)) X 4 [(2, .int y), (1, .int n), (0, .ref 181)] [] h 0 0 := by
  intro m
  induction m with
  | zero =>
    intro t n y ht hy hn
    refine AR.s (pc' := 5) (lv' := [(2, .int y), (1, .int n), (0, .ref 181)]) (st' := [.int y]) (h' := h) _ hn_193 hk_193_4 rfl ?_
    refine AR.bipushT hk_193_5 (by decide) (fun z7 ez7 => ?_)
    show AR _ _ _ _ _ _ _ 7 [(2, .int y), (1, .int n), (0, .ref 181)] [.int z7, .int y] h _ _
    refine AR.jge hk_193_7 (tgt := 33) (by decide) (fun j1 => ?_) (fun j2 => ?_)
    · refine AR.s (pc' := 34) (lv' := [(2, .int y), (1, .int n), (0, .ref 181)]) (st' := [.int n]) (h' := h) _ hn_193 hk_193_33 rfl ?_
      exact AR.iret hk_193_34 hr_193 ⟨rfl, n, rfl⟩
    · exact absurd j2 (by omega)
  | succ m ih =>
    intro t n y ht hy hn
    refine AR.s (pc' := 5) (lv' := [(2, .int y), (1, .int n), (0, .ref 181)]) (st' := [.int y]) (h' := h) _ hn_193 hk_193_4 rfl ?_
    refine AR.bipushT hk_193_5 (by decide) (fun z8 ez8 => ?_)
    show AR _ _ _ _ _ _ _ 7 [(2, .int y), (1, .int n), (0, .ref 181)] [.int z8, .int y] h _ _
    refine AR.jge hk_193_7 (tgt := 33) (by decide) (fun j1 => ?_) (fun j2 => ?_)
    · exact absurd j1 (by omega)
    · refine AR.s (pc' := 11) (lv' := [(2, .int y), (1, .int n), (0, .ref 181)]) (st' := [.int n]) (h' := h) _ hn_193 hk_193_10 rfl ?_
      refine AR.s (pc' := 12) (lv' := [(2, .int y), (1, .int n), (0, .ref 181)]) (st' := [.ref 181, .int n]) (h' := h) _ hn_193 hk_193_11 rfl ?_
      refine AR.gR hk_193_12 (by decide) hH (q := 181) (n := 32) (by decide) (by decide +kernel) (by decide +kernel) (by decide) hy_t181_23 ?_
      show AR _ _ _ _ _ _ _ 15 [(2, .int y), (1, .int n), (0, .ref 181)] [.ref 191, .int n] h _ _
      refine AR.s (pc' := 16) (lv' := [(2, .int y), (1, .int n), (0, .ref 181)]) (st' := [.int y, .ref 191, .int n]) (h' := h) _ hn_193 hk_193_15 rfl ?_
      refine AR.iaI hk_193_16 hH (q := 191) (n := 12) (by decide) (by decide +kernel) (by decide +kernel) (by decide +kernel) hy_t191_0 (by omega) (by omega) (fun x9 dx9 lx9 ux9 => ?_)
      show AR _ _ _ _ _ _ _ 17 [(2, .int y), (1, .int n), (0, .ref 181)] [.int x9, .int n] h _ _
      refine AR.zlt hk_193_17 (tgt := 24) (by decide) (fun q1 => ?_) (fun q2 => ?_)
      · refine AR.iconstT hk_193_24 (by decide) (fun z10 ez10 => ?_)
        show AR _ _ _ _ _ _ _ 25 [(2, .int y), (1, .int n), (0, .ref 181)] [.int z10, .int n] h _ _
        refine AR.addT hk_193_25 (by omega) (by omega) (fun z11 ez11 => ?_)
        show AR _ _ _ _ _ _ _ 26 [(2, .int y), (1, .int n), (0, .ref 181)] [.int z11] h _ _
        refine AR.s (pc' := 27) (lv' := [(1, .int z11), (2, .int y), (0, .ref 181)]) (st' := []) (h' := h) _ hn_193 hk_193_26 rfl ?_
        refine AR.iincT hk_193_27 (x := y) rfl (by rw [hn_193]; decide) (by decide) (by omega) (by omega) (fun z12 ez12 => ?_)
        show AR _ _ _ _ _ _ _ 30 [(2, .int z12), (1, .int z11), (0, .ref 181)] [] h _ _
        refine AR.gotoT hk_193_30 (tgt := 4) (by decide) ?_
        exact ih (t + 1) z11 z12 (by omega) (by omega) (by omega)
      · refine AR.iconstT hk_193_20 (by decide) (fun z13 ez13 => ?_)
        show AR _ _ _ _ _ _ _ 21 [(2, .int y), (1, .int n), (0, .ref 181)] [.int z13, .int n] h _ _
        refine AR.gotoT hk_193_21 (tgt := 25) (by decide) ?_
        refine AR.addT hk_193_25 (by omega) (by omega) (fun z14 ez14 => ?_)
        show AR _ _ _ _ _ _ _ 26 [(2, .int y), (1, .int n), (0, .ref 181)] [.int z14] h _ _
        refine AR.s (pc' := 27) (lv' := [(1, .int z14), (2, .int y), (0, .ref 181)]) (st' := []) (h' := h) _ hn_193 hk_193_26 rfl ?_
        refine AR.iincT hk_193_27 (x := y) rfl (by rw [hn_193]; decide) (by decide) (by omega) (by omega) (fun z15 ez15 => ?_)
        show AR _ _ _ _ _ _ _ 30 [(2, .int z15), (1, .int z14), (0, .ref 181)] [] h _ _
        refine AR.gotoT hk_193_30 (tgt := 4) (by decide) ?_
        exact ih (t + 1) z14 z15 (by omega) (by omega) (by omega)
theorem hf_va (hlst : l.stackTraces = false) (hH : hy_H K h) : AM ax_ns l (ax_mm 193) 0 ty_R 0 0 [.ref 181] h (hq_va h) := by
  refine AM.of (ax_mfacts (by decide +kernel : ax_has 193 = true)).2.2.2.2.2.2 hlst (by rw [hn_193]; exact Nat.le_of_ble_eq_true rfl) ?_
  show AR ax_ns l (ax_mm 193) 0 ty_R _ _ 0 [(0, .ref 181)] [] h 0 0
  refine AR.iconstT hk_193_0 (by decide) (fun z16 ez16 => ?_)
  show AR _ _ _ _ _ _ _ 1 [(0, .ref 181)] [.int z16] h _ _
  refine AR.s (pc' := 2) (lv' := [(1, .int z16), (0, .ref 181)]) (st' := []) (h' := h) _ hn_193 hk_193_1 rfl ?_
  refine AR.iconstT hk_193_2 (by decide) (fun z17 ez17 => ?_)
  show AR _ _ _ _ _ _ _ 3 [(1, .int z16), (0, .ref 181)] [.int z17] h _ _
  refine AR.s (pc' := 4) (lv' := [(2, .int z17), (1, .int z16), (0, .ref 181)]) (st' := []) (h' := h) _ hn_193 hk_193_3 rfl ?_
  exact hf_vaL hH 12 0 z16 z17 rfl (by omega) (by omega)
abbrev hy_W5 : Nat := 2 ^ 64 + 2 ^ 95 + 2 ^ 96 + 2 ^ 104 + 2 ^ 87
abbrev hy_W3 : Nat := 2 ^ 95
def hq_add (K : Int) (h : ax_H) (C : Nat) : ax_Q := fun res g => hy_H K g ∧ ty_F hy_W5 h g ∧ hy_I g ∧ hy_z g 181 1 = C + 1 ∧ ∃ z : Int32, res = .inl (some (.int z)) ∧ z.toInt = C
theorem hf_addL (hp : ty_pkM l) (hlst : l.stackTraces = false) {X : ax_PX} {C : Nat} (hC : C < 60) (hcon : hy_z h0 181 1 = C) (hmd : ∀ j, j < 24 → hy_z h0 184 j ≤ 9999999999) (hdg : 0 ≤ hy_z h0 181 5 ∧ hy_z h0 181 5 ≤ 9999999999) (hpr : hy_z h0 184 0 ≤ 0 ∨ hy_z h0 184 1 ≤ 0) (hI : hy_I h0) : ∀ (m t : Nat) (h : ax_H) (y : Int32), t + m = 24 → y.toInt = (t : Nat) → hy_H K h → ty_F hy_W3 h0 h → (∀ j, j < t → hy_z h 182 (24 * C + j) = hy_z h0 184 j) → (∀ p, p < 24 * C ∨ 24 * C + 24 ≤ p → hy_z h 182 p = hy_z h0 182 p) → AR ax_ns l (ax_mm 142) 4 ty_R (ax_ret ax_ns (ax_mm 142) (hq_add K h0 C)) X 2 [(1, .int y), (0, .ref 181)] [] h 0 0 := by
  intro m
  induction m with
  | zero =>
    intro t h y ht hy hH F e1 e2
    have ec : hy_z h 181 1 = C := by rw [hy_zF F 1 (by decide) (by decide +kernel) (by decide +kernel)]; exact hcon
    have em : ∀ j, hy_z h 184 j = hy_z h0 184 j := hy_zA F (by decide +kernel) (by decide) (by decide +kernel) (by decide +kernel)
    have ed : hy_z h 181 5 = hy_z h0 181 5 := hy_zF F 5 (by decide) (by decide +kernel) (by decide +kernel)
    refine AR.s (pc' := 3) (lv' := [(1, .int y), (0, .ref 181)]) (st' := [.int y]) (h' := h) _ hn_142 hk_142_2 rfl ?_
    refine AR.bipushT hk_142_3 (by decide) (fun z18 ez18 => ?_)
    show AR _ _ _ _ _ _ _ 5 [(1, .int y), (0, .ref 181)] [.int z18, .int y] h _ _
    refine AR.jge hk_142_5 (tgt := 34) (by decide) (fun j1 => ?_) (fun j2 => ?_)
    · have F5 : ty_F hy_W5 h0 h := ty_F.sub (by decide +kernel) F
      refine AR.s (pc' := 35) (lv' := [(1, .int y), (0, .ref 181)]) (st' := [.ref 181]) (h' := h) _ hn_142 hk_142_34 rfl ?_
      refine AR.gR hk_142_35 (by decide) hH (q := 181) (n := 32) (by decide) (by decide +kernel) (by decide +kernel) (by decide) hy_t181_3 ?_
      show AR _ _ _ _ _ _ _ 38 [(1, .int y), (0, .ref 181)] [.ref 183] h _ _
      refine AR.s (pc' := 39) (lv' := [(1, .int y), (0, .ref 181)]) (st' := [.ref 181, .ref 183]) (h' := h) _ hn_142 hk_142_38 rfl ?_
      refine AR.gI hk_142_39 (by decide) hH (q := 181) (n := 32) (by decide) (by decide +kernel) (by decide +kernel) (by decide) hy_t181_1 (fun x19 dx19 lx19 ux19 => ?_)
      show AR _ _ _ _ _ _ _ 42 [(1, .int y), (0, .ref 181)] [.int x19, .ref 183] h _ _
      refine AR.s (pc' := 43) (lv' := [(1, .int y), (0, .ref 181)]) (st' := [.ref 181, .int x19, .ref 183]) (h' := h) _ hn_142 hk_142_42 rfl ?_
      refine AR.gL hk_142_43 (by decide) hH (q := 181) (n := 32) (by decide) (by decide +kernel) (by decide +kernel) (by decide) hy_t181_5 (fun x20 dx20 lx20 ux20 => ?_)
      show AR _ _ _ _ _ _ _ 46 [(1, .int y), (0, .ref 181)] [.long x20, .int x19, .ref 183] h _ _
      have k1 : x19.toInt = C := by rw [← hy_zi dx19]; exact ec
      have k2 : x20.toInt ≤ 9999999999 ∧ 0 ≤ x20.toInt := by rw [← hy_zl dx20, ed]; exact ⟨hdg.2, hdg.1⟩
      refine AR.lsT hk_142_46 hH F5 (q := 183) (n := 60) (by decide) (by decide +kernel) (by decide +kernel) (by decide +kernel) hy_t183_0 (by omega) (by omega) (by omega) (by omega) (by decide +kernel) ?_
      rintro g21 ⟨Hg21, Fg21, Gg21, Eg21⟩
      show AR _ _ _ _ _ _ _ 47 [(1, .int y), (0, .ref 181)] [] g21 _ _
      refine AR.s (pc' := 48) (lv' := [(1, .int y), (0, .ref 181)]) (st' := [.ref 181]) (h' := g21) _ hn_142 hk_142_47 rfl ?_
      refine AR.s (pc' := 49) (lv' := [(1, .int y), (0, .ref 181)]) (st' := [.ref 181, .ref 181]) (h' := g21) _ hn_142 hk_142_48 rfl ?_
      have z1 := hy_zputl Eg21
      refine AR.gI hk_142_49 (by decide) Hg21 (q := 181) (n := 32) (by decide) (by decide +kernel) (by decide +kernel) (by decide) hy_t181_1 (fun x22 dx22 lx22 ux22 => ?_)
      show AR _ _ _ _ _ _ _ 52 [(1, .int y), (0, .ref 181)] [.int x22, .ref 181] g21 _ _
      refine AR.iconstT hk_142_52 (by decide) (fun z23 ez23 => ?_)
      show AR _ _ _ _ _ _ _ 53 [(1, .int y), (0, .ref 181)] [.int z23, .int x22, .ref 181] g21 _ _
      refine AR.addT hk_142_53 (by omega) (by omega) (fun z24 ez24 => ?_)
      show AR _ _ _ _ _ _ _ 54 [(1, .int y), (0, .ref 181)] [.int z24, .ref 181] g21 _ _
      have k3 : x22.toInt = C := by rw [← hy_zi dx22, z1, if_neg (by omega)]; exact ec
      refine AR.pT hk_142_54 (by decide) Hg21 Fg21 (q := 181) (by decide) (by decide +kernel) (show ax_cls[9]? = some hy_c9 from rfl) (by decide +kernel) (by decide) rfl (by rw [hy_t181_1]; exact ⟨_, rfl, by omega, by omega, Or.inl rfl⟩) (by decide +kernel) (by decide +kernel) ?_
      rintro g25 ⟨Hg25, Fg25, Gg25, Eg25⟩
      show AR _ _ _ _ _ _ _ 57 [(1, .int y), (0, .ref 181)] [] g25 _ _
      refine AR.s (pc' := 58) (lv' := [(1, .int y), (0, .ref 181)]) (st' := [.ref 181]) (h' := g25) _ hn_142 hk_142_57 rfl ?_
      have z2 := hy_zput Eg25
      refine AR.c9 (as := []) (rest := []) hk_142_58 Hg25 (by decide +kernel) rfl rfl (Nat.le_of_ble_eq_true rfl) (hf_prop hp hlst Hg25) (by decide) (Nat.le_refl _) (Nat.le_refl _) (fun E h' q => by cases q.1) ?_
      rintro x2 g3 ⟨e, hg3, F3, v3⟩
      cases e
      show AR _ _ _ _ _ _ _ 61 [(1, .int y), (0, .ref 181)] [] g3 _ _
      have c3 : hy_z g3 181 1 = C + 1 := by rw [hy_zF F3 1 (by decide) (by decide +kernel) (by decide +kernel), z2, if_pos ⟨rfl, rfl⟩]; omega
      refine AR.s (pc' := 62) (lv' := [(1, .int y), (0, .ref 181)]) (st' := [.ref 181]) (h' := g3) _ hn_142 hk_142_61 rfl ?_
      refine AR.gI hk_142_62 (by decide) hg3 (q := 181) (n := 32) (by decide) (by decide +kernel) (by decide +kernel) (by decide) hy_t181_1 (fun x26 dx26 lx26 ux26 => ?_)
      show AR _ _ _ _ _ _ _ 65 [(1, .int y), (0, .ref 181)] [.int x26] g3 _ _
      have k4 : x26.toInt = C + 1 := by rw [← hy_zi dx26]; exact c3
      refine AR.iconstT hk_142_65 (by decide) (fun z27 ez27 => ?_)
      show AR _ _ _ _ _ _ _ 66 [(1, .int y), (0, .ref 181)] [.int z27, .int x26] g3 _ _
      refine AR.subT hk_142_66 (by omega) (by omega) (fun z28 ez28 => ?_)
      show AR _ _ _ _ _ _ _ 67 [(1, .int y), (0, .ref 181)] [.int z28] g3 _ _
      have FF : ty_F hy_W5 h0 g3 := ty_F.trans Fg25 (ty_F.sub (by decide +kernel) F3)
      obtain ⟨i1, i2, i3, i4, i5⟩ := hI
      refine AR.iret hk_142_67 hr_142 ⟨hg3, FF, ⟨hy_Id.go (hy_zA FF (by decide +kernel) (by decide) (by decide +kernel) (by decide +kernel)) (hy_zF FF 21 (by decide) (by decide +kernel) (by decide +kernel)) i1, v3, hy_Il.go (hy_zA FF (by decide +kernel) (by decide) (by decide +kernel) (by decide +kernel)) (hy_zA FF (by decide +kernel) (by decide) (by decide +kernel) (by decide +kernel)) i3, ?_, hy_Is.gF FF (by decide +kernel) (by decide +kernel) (by decide +kernel) i5⟩, c3, z28, rfl, by omega⟩
      have z3 : ∀ p, hy_z g3 182 p = hy_z h 182 p := fun p => by rw [hy_zA F3 (q := 182) (by decide +kernel) (by decide) (by decide +kernel) (by decide +kernel) p, z2, if_neg (by omega), z1, if_neg (by omega)]
      intro c hc
      rw [z3, z3]
      by_cases e : c = C
      · subst e
        have u0 := e1 0 (by omega)
        have u1 := e1 1 (by omega)
        rw [Nat.add_zero] at u0
        rw [u0, u1]
        exact hpr
      · rw [e2 _ (by omega), e2 _ (by omega)]
        exact i4 c hc
    · exact absurd j2 (by omega)
  | succ m ih =>
    intro t h y ht hy hH F e1 e2
    have ec : hy_z h 181 1 = C := by rw [hy_zF F 1 (by decide) (by decide +kernel) (by decide +kernel)]; exact hcon
    have em : ∀ j, hy_z h 184 j = hy_z h0 184 j := hy_zA F (by decide +kernel) (by decide) (by decide +kernel) (by decide +kernel)
    have ed : hy_z h 181 5 = hy_z h0 181 5 := hy_zF F 5 (by decide) (by decide +kernel) (by decide +kernel)
    refine AR.s (pc' := 3) (lv' := [(1, .int y), (0, .ref 181)]) (st' := [.int y]) (h' := h) _ hn_142 hk_142_2 rfl ?_
    refine AR.bipushT hk_142_3 (by decide) (fun z29 ez29 => ?_)
    show AR _ _ _ _ _ _ _ 5 [(1, .int y), (0, .ref 181)] [.int z29, .int y] h _ _
    refine AR.jge hk_142_5 (tgt := 34) (by decide) (fun j1 => ?_) (fun j2 => ?_)
    · exact absurd j1 (by omega)
    · refine AR.s (pc' := 9) (lv' := [(1, .int y), (0, .ref 181)]) (st' := [.ref 181]) (h' := h) _ hn_142 hk_142_8 rfl ?_
      refine AR.gR hk_142_9 (by decide) hH (q := 181) (n := 32) (by decide) (by decide +kernel) (by decide +kernel) (by decide) hy_t181_2 ?_
      show AR _ _ _ _ _ _ _ 12 [(1, .int y), (0, .ref 181)] [.ref 182] h _ _
      refine AR.bipushT hk_142_12 (by decide) (fun z30 ez30 => ?_)
      show AR _ _ _ _ _ _ _ 14 [(1, .int y), (0, .ref 181)] [.int z30, .ref 182] h _ _
      refine AR.s (pc' := 15) (lv' := [(1, .int y), (0, .ref 181)]) (st' := [.ref 181, .int z30, .ref 182]) (h' := h) _ hn_142 hk_142_14 rfl ?_
      refine AR.gI hk_142_15 (by decide) hH (q := 181) (n := 32) (by decide) (by decide +kernel) (by decide +kernel) (by decide) hy_t181_1 (fun x31 dx31 lx31 ux31 => ?_)
      have k1 : x31.toInt = C := by rw [← hy_zi dx31]; exact ec
      show AR _ _ _ _ _ _ _ 18 [(1, .int y), (0, .ref 181)] [.int x31, .int z30, .ref 182] h _ _
      refine AR.mulcT hk_142_18 ez30 (by omega) (by omega) (fun z32 ez32 => ?_)
      show AR _ _ _ _ _ _ _ 19 [(1, .int y), (0, .ref 181)] [.int z32, .ref 182] h _ _
      refine AR.s (pc' := 20) (lv' := [(1, .int y), (0, .ref 181)]) (st' := [.int y, .int z32, .ref 182]) (h' := h) _ hn_142 hk_142_19 rfl ?_
      refine AR.addT hk_142_20 (by omega) (by omega) (fun z33 ez33 => ?_)
      show AR _ _ _ _ _ _ _ 21 [(1, .int y), (0, .ref 181)] [.int z33, .ref 182] h _ _
      refine AR.s (pc' := 22) (lv' := [(1, .int y), (0, .ref 181)]) (st' := [.ref 181, .int z33, .ref 182]) (h' := h) _ hn_142 hk_142_21 rfl ?_
      refine AR.gR hk_142_22 (by decide) hH (q := 181) (n := 32) (by decide) (by decide +kernel) (by decide +kernel) (by decide) hy_t181_4 ?_
      show AR _ _ _ _ _ _ _ 25 [(1, .int y), (0, .ref 181)] [.ref 184, .int z33, .ref 182] h _ _
      refine AR.s (pc' := 26) (lv' := [(1, .int y), (0, .ref 181)]) (st' := [.int y, .ref 184, .int z33, .ref 182]) (h' := h) _ hn_142 hk_142_25 rfl ?_
      refine AR.laI hk_142_26 hH (q := 184) (n := 24) (by decide) (by decide +kernel) (by decide +kernel) (by decide +kernel) hy_t184_0 (by omega) (by omega) (fun x34 dx34 lx34 ux34 => ?_)
      show AR _ _ _ _ _ _ _ 27 [(1, .int y), (0, .ref 181)] [.long x34, .int z33, .ref 182] h _ _
      have k2 : x34.toInt = hy_z h0 184 t := by
        have e9 : y.toNatClampNeg = t := by show y.toInt.toNat = t; omega
        rw [← em t, ← e9]
        exact (hy_zl dx34).symm
      have k3 := hmd t (by omega)
      refine AR.lsT hk_142_27 hH F (q := 182) (n := 1440) (by decide) (by decide +kernel) (by decide +kernel) (by decide +kernel) hy_t182_0 (by omega) (by omega) (by omega) (by omega) (by decide +kernel) ?_
      rintro g35 ⟨Hg35, Fg35, Gg35, Eg35⟩
      show AR _ _ _ _ _ _ _ 28 [(1, .int y), (0, .ref 181)] [] g35 _ _
      have z1 := hy_zputl Eg35
      refine AR.iincT hk_142_28 (x := y) rfl (by rw [hn_142]; decide) (by decide) (by omega) (by omega) (fun z36 ez36 => ?_)
      show AR _ _ _ _ _ _ _ 31 [(1, .int z36), (0, .ref 181)] [] g35 _ _
      refine AR.gotoT hk_142_31 (tgt := 2) (by decide) ?_
      have ei : z33.toNatClampNeg = 24 * C + t := by show z33.toInt.toNat = 24 * C + t; omega
      rw [ei] at z1
      refine ih (t + 1) g35 z36 (by omega) (by omega) Hg35 Fg35 (fun j hj => ?_) (fun p hq => ?_)
      · rw [z1]
        split
        · rename_i e; obtain rfl : j = t := by omega
          exact k2
        · exact e1 j (by omega)
      · rw [z1, if_neg (by omega)]
        exact e2 p hq
theorem hf_add (hp : ty_pkM l) (hlst : l.stackTraces = false) (hH : hy_H K h0) {C : Nat} (hC : C < 60) (hcon : hy_z h0 181 1 = C) (hmd : ∀ j, j < 24 → hy_z h0 184 j ≤ 9999999999) (hdg : 0 ≤ hy_z h0 181 5 ∧ hy_z h0 181 5 ≤ 9999999999) (hpr : hy_z h0 184 0 ≤ 0 ∨ hy_z h0 184 1 ≤ 0) (hI : hy_I h0) : AM ax_ns l (ax_mm 142) 4 ty_R 0 0 [.ref 181] h0 (hq_add K h0 C) := by
  refine AM.of (ax_mfacts (by decide +kernel : ax_has 142 = true)).2.2.2.2.2.2 hlst (by rw [hn_142]; exact Nat.le_of_ble_eq_true rfl) ?_
  show AR ax_ns l (ax_mm 142) 4 ty_R _ _ 0 [(0, .ref 181)] [] h0 0 0
  refine AR.iconstT hk_142_0 (by decide) (fun z37 ez37 => ?_)
  show AR _ _ _ _ _ _ _ 1 [(0, .ref 181)] [.int z37] h0 _ _
  refine AR.s (pc' := 2) (lv' := [(1, .int z37), (0, .ref 181)]) (st' := []) (h' := h0) _ hn_142 hk_142_1 rfl ?_
  exact hf_addL hp hlst hC hcon hmd hdg hpr hI 24 0 h0 z37 rfl (by omega) hH (ty_F_refl _ _) (fun j hj => absurd hj (Nat.not_lt_zero _)) (fun _ _ => rfl)
/-- all that holds, where nothing of it was touched -/
theorem hy_I.same (F : ty_F hy_W0 h g) (hi : hy_I h) : hy_I g := by
  obtain ⟨i1, i2, i3, i4, i5⟩ := hi
  refine ⟨hy_Id.go (hy_zA F (by decide +kernel) (by decide) (by decide +kernel) (by decide +kernel)) (hy_zF F 21 (by decide) (by decide +kernel) (by decide +kernel)) i1, ?_, hy_Il.go (hy_zA F (by decide +kernel) (by decide) (by decide +kernel) (by decide +kernel)) (hy_zA F (by decide +kernel) (by decide) (by decide +kernel) (by decide +kernel)) i3, hy_Ip.go (hy_zA F (by decide +kernel) (by decide) (by decide +kernel) (by decide +kernel)) i4, hy_Is.gF F (by decide +kernel) (by decide +kernel) (by decide +kernel) i5⟩
  have a := hy_zA F (q := 190) (by decide +kernel) (by decide) (by decide +kernel) (by decide +kernel)
  have b := hy_zA F (q := 191) (by decide +kernel) (by decide) (by decide +kernel) (by decide +kernel)
  have c := hy_zF F 21 (q := 181) (by decide) (by decide +kernel) (by decide +kernel)
  have d := hy_zF F 24 (q := 181) (by decide) (by decide +kernel) (by decide +kernel)
  unfold hy_Iv at i2 ⊢
  simp only [a, b, c, d]
  exact i2
abbrev hy_W6 : Nat := 2 ^ 63 + 2 ^ 84 + 2 ^ 87 + 2 ^ 103 + 2 ^ 104
abbrev hy_W7 : Nat := 2 ^ 63 + 2 ^ 84 + 2 ^ 87 + 2 ^ 104
def hq_7 (K : Int) (W : Nat) (h : ax_H) : ax_Q := fun res g => hy_H K g ∧ ty_F W h g ∧ hy_I g ∧ ∃ z : Int32, res = .inl (some (.int z))
/-- a store to one field alone -/
theorem hy_F0 {x : Int32} {j : Nat} {W9 : Nat} (hH : hy_H K h) (hg : hy_H K g) (E : ∀ q' j', ty_fd g q' j' = if q' = 181 ∧ j' = j then some (.int x) else ty_fd h q' j') (G : ty_F W9 h g) (h31 : W9.testBit 31 = false := by decide +kernel) (hj : ty_ky 181 j = 63 := by decide +kernel) : ty_F hy_W0 h g := by
  refine ⟨G.1, fun q j' hq hk hw => ?_, G.2.2.1, fun _ => G.2.2.2 h31⟩
  rw [E, if_neg]
  rintro ⟨rfl, rfl⟩
  rw [hj] at hw
  exact absurd hw (by decide +kernel)
theorem hf_undo (hp : ty_pkM l) (hlst : l.stackTraces = false) (hH : hy_H K h) (hI : hy_I h) : AM ax_ns l (ax_mm 195) 4 ty_R 0 0 [.ref 181] h (hq_7 K hy_W7 h) := by
  refine AM.of (ax_mfacts (by decide +kernel : ax_has 195 = true)).2.2.2.2.2.2 hlst (by rw [hn_195]; exact Nat.le_of_ble_eq_true rfl) ?_
  have F : ty_F hy_W7 h h := ty_F_refl _ _
  show AR ax_ns l (ax_mm 195) 4 ty_R _ _ 0 [(0, .ref 181)] [] h 0 0
  refine AR.s (pc' := 1) (lv' := [(0, .ref 181)]) (st' := [.ref 181]) (h' := h) _ hn_195 hk_195_0 rfl ?_
  refine AR.iconstT hk_195_1 (by decide) (fun z38 ez38 => ?_)
  show AR _ _ _ _ _ _ _ 2 [(0, .ref 181)] [.int z38, .ref 181] h _ _
  refine AR.pT hk_195_2 (by decide) hH F (q := 181) (by decide) (by decide +kernel) (show ax_cls[9]? = some hy_c9 from rfl) (by decide +kernel) (by decide) rfl (by rw [hy_t181_0]; exact ⟨_, rfl, by omega, by omega, Or.inl rfl⟩) (by decide +kernel) (by decide +kernel) ?_
  rintro g39 ⟨Hg39, Fg39, Gg39, Eg39⟩
  show AR _ _ _ _ _ _ _ 5 [(0, .ref 181)] [] g39 _ _
  have S0 : ty_F hy_W0 h g39 := hy_F0 hH Hg39 Eg39 Gg39
  have z0 := hy_zput Eg39
  refine AR.s (pc' := 6) (lv' := [(0, .ref 181)]) (st' := [.ref 181]) (h' := g39) _ hn_195 hk_195_5 rfl ?_
  refine AR.gI hk_195_6 (by decide) Hg39 (q := 181) (n := 32) (by decide) (by decide +kernel) (by decide +kernel) (by decide) hy_t181_21 (fun x40 dx40 lx40 ux40 => ?_)
  show AR _ _ _ _ _ _ _ 9 [(0, .ref 181)] [.int x40] g39 _ _
  refine AR.zne hk_195_9 (tgt := 18) (by decide) (fun j1 => ?_) (fun j2 => ?_)
  · refine AR.s (pc' := 19) (lv' := [(0, .ref 181)]) (st' := [.ref 181]) (h' := g39) _ hn_195 hk_195_18 rfl ?_
    refine AR.s (pc' := 20) (lv' := [(0, .ref 181)]) (st' := [.ref 181, .ref 181]) (h' := g39) _ hn_195 hk_195_19 rfl ?_
    refine AR.gI hk_195_20 (by decide) Hg39 (q := 181) (n := 32) (by decide) (by decide +kernel) (by decide +kernel) (by decide) hy_t181_21 (fun x42 dx42 lx42 ux42 => ?_)
    show AR _ _ _ _ _ _ _ 23 [(0, .ref 181)] [.int x42, .ref 181] g39 _ _
    have y1 : x42.toInt = x40.toInt := (hy_zi dx42).symm.trans (hy_zi dx40)
    refine AR.iconstT hk_195_23 (by decide) (fun z43 ez43 => ?_)
    show AR _ _ _ _ _ _ _ 24 [(0, .ref 181)] [.int z43, .int x42, .ref 181] g39 _ _
    refine AR.subT hk_195_24 (by omega) (by omega) (fun z44 ez44 => ?_)
    show AR _ _ _ _ _ _ _ 25 [(0, .ref 181)] [.int z44, .ref 181] g39 _ _
    refine AR.pT hk_195_25 (by decide) Hg39 Fg39 (q := 181) (by decide) (by decide +kernel) (show ax_cls[9]? = some hy_c9 from rfl) (by decide +kernel) (by decide) rfl (by rw [hy_t181_21]; exact ⟨_, rfl, by omega, by omega, Or.inl rfl⟩) (by decide +kernel) (by decide +kernel) ?_
    rintro g45 ⟨Hg45, Fg45, Gg45, Eg45⟩
    show AR _ _ _ _ _ _ _ 28 [(0, .ref 181)] [] g45 _ _
    have z1 := hy_zput Eg45
    have n0 : x42.toInt = hy_z h 181 21 := by rw [← hy_zi dx42, z0, if_neg (by omega)]
    refine AR.s (pc' := 29) (lv' := [(0, .ref 181)]) (st' := [.ref 181]) (h' := g45) _ hn_195 hk_195_28 rfl ?_
    refine AR.c9 (as := []) (rest := []) hk_195_29 Hg45 (by decide +kernel) rfl rfl (Nat.le_of_ble_eq_true rfl) (hf_prop hp hlst Hg45) (by decide) (Nat.le_refl _) (Nat.le_refl _) (fun E h' q => by cases q.1) ?_
    rintro x1 p1 ⟨e, hp1, Fp1, vp1⟩
    cases e
    show AR _ _ _ _ _ _ _ 32 [(0, .ref 181)] [] p1 _ _
    have FF : ty_F hy_W7 h p1 := ty_F.trans Fg45 (ty_F.sub (by decide +kernel) Fp1)
    refine AR.s (pc' := 33) (lv' := [(0, .ref 181)]) (st' := [.ref 181]) (h' := p1) _ hn_195 hk_195_32 rfl ?_
    refine AR.gI hk_195_33 (by decide) hp1 (q := 181) (n := 32) (by decide) (by decide +kernel) (by decide +kernel) (by decide) hy_t181_21 (fun x46 dx46 lx46 ux46 => ?_)
    show AR _ _ _ _ _ _ _ 36 [(0, .ref 181)] [.int x46] p1 _ _
    obtain ⟨i1, i2, i3, i4, i5⟩ := hI
    refine AR.iret hk_195_36 hr_195 ⟨hp1, FF, ⟨?_, vp1, hy_Il.go (hy_zA FF (by decide +kernel) (by decide) (by decide +kernel) (by decide +kernel)) (hy_zA FF (by decide +kernel) (by decide) (by decide +kernel) (by decide +kernel)) i3, hy_Ip.go (hy_zA FF (by decide +kernel) (by decide) (by decide +kernel) (by decide +kernel)) i4, hy_Is.gF FF (by decide +kernel) (by decide +kernel) (by decide +kernel) i5⟩, x46, rfl⟩
    have e1 : hy_z p1 181 21 = hy_z h 181 21 - 1 := by rw [hy_zF Fp1 21 (by decide) (by decide +kernel) (by decide +kernel), z1, if_pos ⟨rfl, rfl⟩]; omega
    have e2 : ∀ j, hy_z p1 190 j = hy_z h 190 j := (hy_zA FF (by decide +kernel) (by decide) (by decide +kernel) (by decide +kernel))
    intro j k hjk hk
    rw [e1] at hk
    rw [e2, e2]
    exact i1 j k hjk (by omega)
  · refine AR.s (pc' := 13) (lv' := [(0, .ref 181)]) (st' := [.ref 181]) (h' := g39) _ hn_195 hk_195_12 rfl ?_
    refine AR.iconstT hk_195_13 (by decide) (fun z41 ez41 => ?_)
    show AR _ _ _ _ _ _ _ 14 [(0, .ref 181)] [.int z41, .ref 181] g39 _ _
    refine AR.c9 (as := [.int z41]) (rest := []) hk_195_14 Hg39 (by decide +kernel) rfl rfl (Nat.le_of_ble_eq_true rfl) (hf_no hlst Hg39 z41) (by decide) (Nat.le_refl _) (Nat.le_refl _) (fun E h' q => by obtain ⟨-, -, -, z, e, -⟩ := q; cases e) ?_
    rintro x9 g9 ⟨hg9, F9, t9, z9, e, hz9⟩
    cases e
    show AR _ _ _ _ _ _ _ 17 [(0, .ref 181)] [.int z9] g9 _ _
    exact AR.iret hk_195_17 hr_195 ⟨hg9, ty_F.trans Fg39 (ty_F.sub (by decide +kernel) F9), hy_I.same (ty_F.trans S0 F9) hI, z9, rfl⟩
theorem hf_dec (hp : ty_pkM l) (hlst : l.stackTraces = false) (hH : hy_H K h) (hI : hy_I h) : AM ax_ns l (ax_mm 194) 4 ty_R 0 0 [.ref 181, .int y] h (hq_7 K hy_W6 h) := by
  refine AM.of (ax_mfacts (by decide +kernel : ax_has 194 = true)).2.2.2.2.2.2 hlst (by rw [hn_194]; exact Nat.le_of_ble_eq_true rfl) ?_
  have F : ty_F hy_W6 h h := ty_F_refl _ _
  show AR ax_ns l (ax_mm 194) 4 ty_R _ _ 0 [(0, .ref 181), (1, .int y)] [] h 0 0
  refine AR.s (pc' := 1) (lv' := [(0, .ref 181), (1, .int y)]) (st' := [.ref 181]) (h' := h) _ hn_194 hk_194_0 rfl ?_
  refine AR.iconstT hk_194_1 (by decide) (fun z47 ez47 => ?_)
  show AR _ _ _ _ _ _ _ 2 [(0, .ref 181), (1, .int y)] [.int z47, .ref 181] h _ _
  refine AR.pT hk_194_2 (by decide) hH F (q := 181) (by decide) (by decide +kernel) (show ax_cls[9]? = some hy_c9 from rfl) (by decide +kernel) (by decide) rfl (by rw [hy_t181_0]; exact ⟨_, rfl, by omega, by omega, Or.inl rfl⟩) (by decide +kernel) (by decide +kernel) ?_
  rintro g48 ⟨Hg48, Fg48, Gg48, Eg48⟩
  show AR _ _ _ _ _ _ _ 5 [(0, .ref 181), (1, .int y)] [] g48 _ _
  have S0 : ty_F hy_W0 h g48 := hy_F0 hH Hg48 Eg48 Gg48
  have z0 := hy_zput Eg48
  have J0 : hy_I g48 := hy_I.same S0 hI
  refine AR.s (pc' := 6) (lv' := [(0, .ref 181), (1, .int y)]) (st' := [.int y]) (h' := g48) _ hn_194 hk_194_5 rfl ?_
  refine AR.cs (as := [.int y]) (rest := []) hk_194_6 (by decide +kernel) rfl rfl (Nat.le_of_ble_eq_true rfl) (hf_il hlst y) (by decide) (Nat.le_refl _) (Nat.le_refl _) (fun E h' q => by obtain ⟨-, z, e, -⟩ := q; cases e) ?_
  rintro x8 g8 ⟨e8, z8, e, hz8⟩
  cases e
  rw [e8]
  show AR _ _ _ _ _ _ _ 9 [(0, .ref 181), (1, .int y)] [.int z8] g48 _ _
  refine AR.zne hk_194_9 (tgt := 18) (by decide) (fun j1 => ?_) (fun j2 => ?_)
  · refine AR.s (pc' := 19) (lv' := [(0, .ref 181), (1, .int y)]) (st' := [.ref 181]) (h' := g48) _ hn_194 hk_194_18 rfl ?_
    refine AR.gR hk_194_19 (by decide) Hg48 (q := 181) (n := 32) (by decide) (by decide +kernel) (by decide +kernel) (by decide) hy_t181_23 ?_
    show AR _ _ _ _ _ _ _ 22 [(0, .ref 181), (1, .int y)] [.ref 191] g48 _ _
    refine AR.s (pc' := 23) (lv' := [(0, .ref 181), (1, .int y)]) (st' := [.int y, .ref 191]) (h' := g48) _ hn_194 hk_194_22 rfl ?_
    refine AR.iconstT hk_194_23 (by decide) (fun z50 ez50 => ?_)
    show AR _ _ _ _ _ _ _ 24 [(0, .ref 181), (1, .int y)] [.int z50, .int y, .ref 191] g48 _ _
    refine AR.halfT hk_194_24 ez50 (by omega) (fun z51 ez51 => ?_)
    show AR _ _ _ _ _ _ _ 25 [(0, .ref 181), (1, .int y)] [.int z51, .ref 191] g48 _ _
    refine AR.iaI hk_194_25 Hg48 (q := 191) (n := 12) (by decide) (by decide +kernel) (by decide +kernel) (by decide +kernel) hy_t191_0 (by omega) (by omega) (fun x52 dx52 lx52 ux52 => ?_)
    show AR _ _ _ _ _ _ _ 26 [(0, .ref 181), (1, .int y)] [.int x52] g48 _ _
    refine AR.zge hk_194_26 (tgt := 36) (by decide) (fun q1 => ?_) (fun q2 => ?_)
    · refine AR.s (pc' := 37) (lv' := [(0, .ref 181), (1, .int y)]) (st' := [.ref 181]) (h' := g48) _ hn_194 hk_194_36 rfl ?_
      refine AR.iconstT hk_194_37 (by decide) (fun z53 ez53 => ?_)
      show AR _ _ _ _ _ _ _ 38 [(0, .ref 181), (1, .int y)] [.int z53, .ref 181] g48 _ _
      refine AR.c9 (as := [.int z53]) (rest := []) hk_194_38 Hg48 (by decide +kernel) rfl rfl (Nat.le_of_ble_eq_true rfl) (hf_no hlst Hg48 z53) (by decide) (Nat.le_refl _) (Nat.le_refl _) (fun E h' q => by obtain ⟨-, -, -, z, e, -⟩ := q; cases e) ?_
      rintro x9 g9 ⟨hg9, F9, t9, z9, e, hz9⟩
      cases e
      show AR _ _ _ _ _ _ _ 41 [(0, .ref 181), (1, .int y)] [.int z9] g9 _ _
      exact AR.iret hk_194_41 hr_194 ⟨hg9, ty_F.trans Fg48 (ty_F.sub (by decide +kernel) F9), hy_I.same (ty_F.trans S0 F9) hI, z9, rfl⟩
    · refine AR.s (pc' := 30) (lv' := [(0, .ref 181), (1, .int y)]) (st' := [.ref 181]) (h' := g48) _ hn_194 hk_194_29 rfl ?_
      refine AR.gI hk_194_30 (by decide) Hg48 (q := 181) (n := 32) (by decide) (by decide +kernel) (by decide +kernel) (by decide) hy_t181_24 (fun x54 dx54 lx54 ux54 => ?_)
      show AR _ _ _ _ _ _ _ 33 [(0, .ref 181), (1, .int y)] [.int x54] g48 _ _
      refine AR.zeq hk_194_33 (tgt := 42) (by decide) (fun r1 => ?_) (fun r2 => ?_)
      · refine AR.s (pc' := 43) (lv' := [(0, .ref 181), (1, .int y)]) (st' := [.ref 181]) (h' := g48) _ hn_194 hk_194_42 rfl ?_
        refine AR.gR hk_194_43 (by decide) Hg48 (q := 181) (n := 32) (by decide) (by decide +kernel) (by decide +kernel) (by decide) hy_t181_22 ?_
        show AR _ _ _ _ _ _ _ 46 [(0, .ref 181), (1, .int y)] [.ref 190] g48 _ _
        refine AR.s (pc' := 47) (lv' := [(0, .ref 181), (1, .int y)]) (st' := [.ref 181, .ref 190]) (h' := g48) _ hn_194 hk_194_46 rfl ?_
        refine AR.gI hk_194_47 (by decide) Hg48 (q := 181) (n := 32) (by decide) (by decide +kernel) (by decide +kernel) (by decide) hy_t181_21 (fun x56 dx56 lx56 ux56 => ?_)
        show AR _ _ _ _ _ _ _ 50 [(0, .ref 181), (1, .int y)] [.int x56, .ref 190] g48 _ _
        obtain ⟨i1, i2, i3, i4, i5⟩ := J0
        have nz : hy_z g48 181 21 = x56.toInt := hy_zi dx56
        have VV : hy_VV g48 := i2 (by rw [hy_zi dx54]; exact r1)
        have uv : hy_z g48 191 (y.toInt / 2).toNat < 0 := by
          have e9 : (y.toInt / 2).toNat = z51.toNatClampNeg := by show (y.toInt / 2).toNat = z51.toInt.toNat; omega
          rw [e9, hy_zi dx52]
          exact q2
        have dr : ∀ j : Nat, (j : Int) < hy_z g48 181 21 → hy_z g48 190 j / 2 ≠ y.toInt / 2 := fun j hj e => by
          have := VV j hj
          rw [e] at this
          omega
        have n11 : x56.toInt ≤ 11 := by
          refine Int.not_lt.mp (fun hlt => ?_)
          have h12 : hy_z g48 181 21 = 12 := by omega
          refine hy_pig 12 (fun i => if i = 12 then (y.toInt / 2).toNat else (hy_z g48 190 i / 2).toNat) (fun i hi => ?_) (fun i j hij hj => ?_)
          · skip
            split
            · omega
            · have := hy_dec Hg48 (j := i) (by omega)
              omega
          · skip
            rw [if_neg (by omega)]
            have a1 := hy_dec Hg48 (j := i) (by omega)
            split
            · have := dr i (by omega)
              omega
            · have a2 := hy_dec Hg48 (j := j) (by omega)
              have := i1 i j hij (by omega)
              omega
        refine AR.s (pc' := 51) (lv' := [(0, .ref 181), (1, .int y)]) (st' := [.int y, .int x56, .ref 190]) (h' := g48) _ hn_194 hk_194_50 rfl ?_
        refine AR.isT hk_194_51 Hg48 Fg48 (q := 190) (n := 12) (by decide) (by decide +kernel) (by decide +kernel) (by decide +kernel) hy_t190_0 (by omega) (by omega) (by omega) (by omega) (by decide +kernel) ?_
        rintro g57 ⟨Hg57, Fg57, Gg57, Eg57⟩
        show AR _ _ _ _ _ _ _ 52 [(0, .ref 181), (1, .int y)] [] g57 _ _
        have z1 := hy_zput Eg57
        refine AR.s (pc' := 53) (lv' := [(0, .ref 181), (1, .int y)]) (st' := [.ref 181]) (h' := g57) _ hn_194 hk_194_52 rfl ?_
        refine AR.s (pc' := 54) (lv' := [(0, .ref 181), (1, .int y)]) (st' := [.ref 181, .ref 181]) (h' := g57) _ hn_194 hk_194_53 rfl ?_
        refine AR.gI hk_194_54 (by decide) Hg57 (q := 181) (n := 32) (by decide) (by decide +kernel) (by decide +kernel) (by decide) hy_t181_21 (fun x58 dx58 lx58 ux58 => ?_)
        show AR _ _ _ _ _ _ _ 57 [(0, .ref 181), (1, .int y)] [.int x58, .ref 181] g57 _ _
        have n2 : x58.toInt = x56.toInt := by rw [← hy_zi dx58, z1, if_neg (by omega)]; exact nz
        refine AR.iconstT hk_194_57 (by decide) (fun z59 ez59 => ?_)
        show AR _ _ _ _ _ _ _ 58 [(0, .ref 181), (1, .int y)] [.int z59, .int x58, .ref 181] g57 _ _
        refine AR.addT hk_194_58 (by omega) (by omega) (fun z60 ez60 => ?_)
        show AR _ _ _ _ _ _ _ 59 [(0, .ref 181), (1, .int y)] [.int z60, .ref 181] g57 _ _
        refine AR.pT hk_194_59 (by decide) Hg57 Fg57 (q := 181) (by decide) (by decide +kernel) (show ax_cls[9]? = some hy_c9 from rfl) (by decide +kernel) (by decide) rfl (by rw [hy_t181_21]; exact ⟨_, rfl, by omega, by omega, Or.inl rfl⟩) (by decide +kernel) (by decide +kernel) ?_
        rintro g61 ⟨Hg61, Fg61, Gg61, Eg61⟩
        show AR _ _ _ _ _ _ _ 62 [(0, .ref 181), (1, .int y)] [] g61 _ _
        have z2 := hy_zput Eg61
        have ei : x56.toNatClampNeg = x56.toInt.toNat := rfl
        have d2 : ∀ j, hy_z g61 190 j = if j = x56.toInt.toNat then y.toInt else hy_z g48 190 j := fun j => by
          rw [z2, if_neg (by omega), z1, ei]
          by_cases e : j = x56.toInt.toNat
          · rw [if_pos ⟨rfl, e⟩, if_pos e]
          · rw [if_neg (fun c => e c.2), if_neg e]
        have s2 : hy_z g61 181 21 = x56.toInt + 1 := by rw [z2, if_pos ⟨rfl, rfl⟩]; omega
        have id2 : hy_Id g61 := by
          intro j k hjk hk
          rw [s2] at hk
          rw [d2, d2, if_neg (by omega)]
          split
          · exact dr j (by omega)
          · exact i1 j k hjk (by omega)
        refine AR.s (pc' := 63) (lv' := [(0, .ref 181), (1, .int y)]) (st' := [.ref 181]) (h' := g61) _ hn_194 hk_194_62 rfl ?_
        refine AR.c9 (as := []) (rest := []) hk_194_63 Hg61 (by decide +kernel) rfl rfl (Nat.le_of_ble_eq_true rfl) (hf_prop hp hlst Hg61) (by decide) (Nat.le_refl _) (Nat.le_refl _) (fun E h' q => by cases q.1) ?_
        rintro x1 p1 ⟨e, hp1, Fp1, vp1⟩
        cases e
        show AR _ _ _ _ _ _ _ 66 [(0, .ref 181), (1, .int y)] [] p1 _ _
        have FF : ty_F hy_W6 h p1 := ty_F.trans Fg61 (ty_F.sub (by decide +kernel) Fp1)
        have FG : ty_F hy_W6 g48 p1 := ty_F.trans (ty_F.trans Gg57 Gg61) (ty_F.sub (by decide +kernel) Fp1)
        have id3 : hy_Id p1 := hy_Id.go (hy_zA Fp1 (by decide +kernel) (by decide) (by decide +kernel) (by decide +kernel)) (hy_zF Fp1 21 (by decide) (by decide +kernel) (by decide +kernel)) id2
        have J1 : hy_I p1 := ⟨id3, vp1, hy_Il.go (hy_zA FG (by decide +kernel) (by decide) (by decide +kernel) (by decide +kernel)) (hy_zA FG (by decide +kernel) (by decide) (by decide +kernel) (by decide +kernel)) i3, hy_Ip.go (hy_zA FG (by decide +kernel) (by decide) (by decide +kernel) (by decide +kernel)) i4, hy_Is.gF FG (by decide +kernel) (by decide +kernel) (by decide +kernel) i5⟩
        refine AR.s (pc' := 67) (lv' := [(0, .ref 181), (1, .int y)]) (st' := [.ref 181]) (h' := p1) _ hn_194 hk_194_66 rfl ?_
        refine AR.gI hk_194_67 (by decide) hp1 (q := 181) (n := 32) (by decide) (by decide +kernel) (by decide +kernel) (by decide) hy_t181_24 (fun x62 dx62 lx62 ux62 => ?_)
        show AR _ _ _ _ _ _ _ 70 [(0, .ref 181), (1, .int y)] [.int x62] p1 _ _
        refine AR.zne hk_194_70 (tgt := 78) (by decide) (fun t1 => ?_) (fun t2 => ?_)
        · have sp : hy_z p1 181 21 = x56.toInt + 1 := by rw [hy_zF Fp1 21 (by decide) (by decide +kernel) (by decide +kernel)]; exact s2
          refine AR.s (pc' := 79) (lv' := [(0, .ref 181), (1, .int y)]) (st' := [.ref 181]) (h' := p1) _ hn_194 hk_194_78 rfl ?_
          refine AR.s (pc' := 80) (lv' := [(0, .ref 181), (1, .int y)]) (st' := [.ref 181, .ref 181]) (h' := p1) _ hn_194 hk_194_79 rfl ?_
          refine AR.gI hk_194_80 (by decide) hp1 (q := 181) (n := 32) (by decide) (by decide +kernel) (by decide +kernel) (by decide) hy_t181_21 (fun x63 dx63 lx63 ux63 => ?_)
          show AR _ _ _ _ _ _ _ 83 [(0, .ref 181), (1, .int y)] [.int x63, .ref 181] p1 _ _
          have n3 : x63.toInt = x56.toInt + 1 := by rw [← hy_zi dx63]; exact sp
          refine AR.iconstT hk_194_83 (by decide) (fun z64 ez64 => ?_)
          show AR _ _ _ _ _ _ _ 84 [(0, .ref 181), (1, .int y)] [.int z64, .int x63, .ref 181] p1 _ _
          refine AR.subT hk_194_84 (by omega) (by omega) (fun z65 ez65 => ?_)
          show AR _ _ _ _ _ _ _ 85 [(0, .ref 181), (1, .int y)] [.int z65, .ref 181] p1 _ _
          refine AR.pT hk_194_85 (by decide) hp1 FF (q := 181) (by decide) (by decide +kernel) (show ax_cls[9]? = some hy_c9 from rfl) (by decide +kernel) (by decide) rfl (by rw [hy_t181_21]; exact ⟨_, rfl, by omega, by omega, Or.inl rfl⟩) (by decide +kernel) (by decide +kernel) ?_
          rintro g66 ⟨Hg66, Fg66, Gg66, Eg66⟩
          show AR _ _ _ _ _ _ _ 88 [(0, .ref 181), (1, .int y)] [] g66 _ _
          have z3 := hy_zput Eg66
          refine AR.s (pc' := 89) (lv' := [(0, .ref 181), (1, .int y)]) (st' := [.ref 181]) (h' := g66) _ hn_194 hk_194_88 rfl ?_
          refine AR.c9 (as := []) (rest := []) hk_194_89 Hg66 (by decide +kernel) rfl rfl (Nat.le_of_ble_eq_true rfl) (hf_prop hp hlst Hg66) (by decide) (Nat.le_refl _) (Nat.le_refl _) (fun E h' q => by cases q.1) ?_
          rintro x2 p2 ⟨e, hp2, Fp2, vp2⟩
          cases e
          show AR _ _ _ _ _ _ _ 92 [(0, .ref 181), (1, .int y)] [] p2 _ _
          refine AR.iconstT hk_194_92 (by decide) (fun z67 ez67 => ?_)
          show AR _ _ _ _ _ _ _ 93 [(0, .ref 181), (1, .int y)] [.int z67] p2 _ _
          have FF2 : ty_F hy_W6 h p2 := ty_F.trans Fg66 (ty_F.sub (by decide +kernel) Fp2)
          have FG2 : ty_F hy_W6 g48 p2 := ty_F.trans (ty_F.trans FG Gg66) (ty_F.sub (by decide +kernel) Fp2)
          refine AR.iret hk_194_93 hr_194 ⟨hp2, FF2, ⟨?_, vp2, hy_Il.go (hy_zA FG2 (by decide +kernel) (by decide) (by decide +kernel) (by decide +kernel)) (hy_zA FG2 (by decide +kernel) (by decide) (by decide +kernel) (by decide +kernel)) i3, hy_Ip.go (hy_zA FG2 (by decide +kernel) (by decide) (by decide +kernel) (by decide +kernel)) i4, hy_Is.gF FG2 (by decide +kernel) (by decide +kernel) (by decide +kernel) i5⟩, z67, rfl⟩
          have w1 : ∀ j, hy_z p2 190 j = hy_z p1 190 j := fun j => by rw [hy_zA Fp2 (q := 190) (by decide +kernel) (by decide) (by decide +kernel) (by decide +kernel) j, z3, if_neg (by omega)]
          have w2 : hy_z p2 181 21 = hy_z p1 181 21 - 1 := by rw [hy_zF Fp2 21 (by decide) (by decide +kernel) (by decide +kernel), z3, if_pos ⟨rfl, rfl⟩]; omega
          intro j k hjk hk
          rw [w2] at hk
          rw [w1, w1]
          exact id3 j k hjk (by omega)
        · refine AR.s (pc' := 74) (lv' := [(0, .ref 181), (1, .int y)]) (st' := [.ref 181]) (h' := p1) _ hn_194 hk_194_73 rfl ?_
          refine AR.c9 (as := []) (rest := []) hk_194_74 hp1 (by decide +kernel) rfl rfl (Nat.le_of_ble_eq_true rfl) (hf_va hlst hp1) (by decide) (Nat.le_refl _) (Nat.le_refl _) (fun E h' q => by obtain ⟨-, z, e⟩ := q; cases e) ?_
          rintro x7 g7 ⟨e7, z7, e⟩
          cases e
          subst e7
          exact AR.iret hk_194_77 hr_194 ⟨hp1, FF, J1, z7, rfl⟩
      · refine AR.s (pc' := 37) (lv' := [(0, .ref 181), (1, .int y)]) (st' := [.ref 181]) (h' := g48) _ hn_194 hk_194_36 rfl ?_
        refine AR.iconstT hk_194_37 (by decide) (fun z55 ez55 => ?_)
        show AR _ _ _ _ _ _ _ 38 [(0, .ref 181), (1, .int y)] [.int z55, .ref 181] g48 _ _
        refine AR.c9 (as := [.int z55]) (rest := []) hk_194_38 Hg48 (by decide +kernel) rfl rfl (Nat.le_of_ble_eq_true rfl) (hf_no hlst Hg48 z55) (by decide) (Nat.le_refl _) (Nat.le_refl _) (fun E h' q => by obtain ⟨-, -, -, z, e, -⟩ := q; cases e) ?_
        rintro x9 g9 ⟨hg9, F9, t9, z9, e, hz9⟩
        cases e
        show AR _ _ _ _ _ _ _ 41 [(0, .ref 181), (1, .int y)] [.int z9] g9 _ _
        exact AR.iret hk_194_41 hr_194 ⟨hg9, ty_F.trans Fg48 (ty_F.sub (by decide +kernel) F9), hy_I.same (ty_F.trans S0 F9) hI, z9, rfl⟩
  · refine AR.s (pc' := 13) (lv' := [(0, .ref 181), (1, .int y)]) (st' := [.ref 181]) (h' := g48) _ hn_194 hk_194_12 rfl ?_
    refine AR.iconstT hk_194_13 (by decide) (fun z49 ez49 => ?_)
    show AR _ _ _ _ _ _ _ 14 [(0, .ref 181), (1, .int y)] [.int z49, .ref 181] g48 _ _
    refine AR.c9 (as := [.int z49]) (rest := []) hk_194_14 Hg48 (by decide +kernel) rfl rfl (Nat.le_of_ble_eq_true rfl) (hf_no hlst Hg48 z49) (by decide) (Nat.le_refl _) (Nat.le_refl _) (fun E h' q => by obtain ⟨-, -, -, z, e, -⟩ := q; cases e) ?_
    rintro x9 g9 ⟨hg9, F9, t9, z9, e, hz9⟩
    cases e
    show AR _ _ _ _ _ _ _ 17 [(0, .ref 181), (1, .int y)] [.int z9] g9 _ _
    exact AR.iret hk_194_17 hr_194 ⟨hg9, ty_F.trans Fg48 (ty_F.sub (by decide +kernel) F9), hy_I.same (ty_F.trans S0 F9) hI, z9, rfl⟩
abbrev hy_W8 : Nat := 2 ^ 63 + 2 ^ 91 + 2 ^ 107 + 2 ^ 108 + 2 ^ 109
/-- levels and answers of push and pop -/
def hq_lv (K : Int) (W : Nat) (h : ax_H) (p : Bool) : ax_Q := fun res g => hy_H K g ∧ ty_F W h g ∧ hy_I g ∧ ∃ z : Int32, res = .inl (some (.int z)) ∧ (((if p then hy_z h 181 28 = 8 else hy_z h 181 28 = 0) ∧ hy_z g 181 0 = 1 ∧ hy_z g 181 28 = hy_z h 181 28 ∧ z.toInt = 0) ∨ (¬ (if p then hy_z h 181 28 = 8 else hy_z h 181 28 = 0) ∧ hy_z g 181 0 = 0 ∧ hy_z g 181 28 = (if p then hy_z h 181 28 + 1 else hy_z h 181 28 - 1) ∧ z.toInt = (if p then hy_z h 181 28 + 1 else hy_z h 181 28 - 1)))
theorem hf_puL (hlst : l.stackTraces = false) {X : ax_PX} {L n : Nat} (hH0 : hy_H K h0) (hL : L < 8) (hl : hy_z h0 181 28 = L) (hI : hy_I h0) (hn : hy_z h0 181 21 = n) : ∀ (m t : Nat) (h : ax_H) (y : Int32), t + m = n → y.toInt = (t : Nat) → hy_H K h → ty_F hy_W8 h0 h → hy_z h 181 0 = 0 → hy_z h 181 28 = L → hy_z h 195 L = n → (∀ j, j ≠ L → hy_z h 195 j = hy_z h0 195 j) → (∀ j, j < t → hy_z h 196 (12 * L + j) = hy_z h0 190 j) → (∀ p, p < 12 * L ∨ 12 * L + 12 ≤ p → hy_z h 196 p = hy_z h0 196 p) → AR ax_ns l (ax_mm 216) 4 ty_R (ax_ret ax_ns (ax_mm 216) (hq_lv K hy_W8 h0 true)) X 48 [(1, .int y), (0, .ref 181)] [] h 0 0 := by
  intro m
  induction m with
  | zero =>
    intro t h y ht hy hH F th lv e1 e2 e3 e4
    have en : hy_z h 181 21 = n := by rw [hy_zF F 21 (by decide) (by decide +kernel) (by decide +kernel)]; exact hn
    have ed : ∀ j, hy_z h 190 j = hy_z h0 190 j := (hy_zA F (by decide +kernel) (by decide) (by decide +kernel) (by decide +kernel))
    refine AR.s (pc' := 49) (lv' := [(1, .int y), (0, .ref 181)]) (st' := [.int y]) (h' := h) _ hn_216 hk_216_48 rfl ?_
    refine AR.s (pc' := 50) (lv' := [(1, .int y), (0, .ref 181)]) (st' := [.ref 181, .int y]) (h' := h) _ hn_216 hk_216_49 rfl ?_
    refine AR.gI hk_216_50 (by decide) hH (q := 181) (n := 32) (by decide) (by decide +kernel) (by decide +kernel) (by decide) hy_t181_21 (fun x68 dx68 lx68 ux68 => ?_)
    show AR _ _ _ _ _ _ _ 53 [(1, .int y), (0, .ref 181)] [.int x68, .int y] h _ _
    have k1 : x68.toInt = n := by rw [← hy_zi dx68]; exact en
    refine AR.jge hk_216_53 (tgt := 82) (by decide) (fun j1 => ?_) (fun j2 => ?_)
    · refine AR.s (pc' := 83) (lv' := [(1, .int y), (0, .ref 181)]) (st' := [.ref 181]) (h' := h) _ hn_216 hk_216_82 rfl ?_
      refine AR.s (pc' := 84) (lv' := [(1, .int y), (0, .ref 181)]) (st' := [.ref 181, .ref 181]) (h' := h) _ hn_216 hk_216_83 rfl ?_
      refine AR.gI hk_216_84 (by decide) hH (q := 181) (n := 32) (by decide) (by decide +kernel) (by decide +kernel) (by decide) hy_t181_28 (fun x69 dx69 lx69 ux69 => ?_)
      show AR _ _ _ _ _ _ _ 87 [(1, .int y), (0, .ref 181)] [.int x69, .ref 181] h _ _
      have k2 : x69.toInt = L := by rw [← hy_zi dx69]; exact lv
      refine AR.iconstT hk_216_87 (by decide) (fun z70 ez70 => ?_)
      show AR _ _ _ _ _ _ _ 88 [(1, .int y), (0, .ref 181)] [.int z70, .int x69, .ref 181] h _ _
      refine AR.addT hk_216_88 (by omega) (by omega) (fun z71 ez71 => ?_)
      show AR _ _ _ _ _ _ _ 89 [(1, .int y), (0, .ref 181)] [.int z71, .ref 181] h _ _
      refine AR.pT hk_216_89 (by decide) hH F (q := 181) (by decide) (by decide +kernel) (show ax_cls[9]? = some hy_c9 from rfl) (by decide +kernel) (by decide) rfl (by rw [hy_t181_28]; exact ⟨_, rfl, by omega, by omega, Or.inl rfl⟩) (by decide +kernel) (by decide +kernel) ?_
      rintro g72 ⟨Hg72, Fg72, Gg72, Eg72⟩
      show AR _ _ _ _ _ _ _ 92 [(1, .int y), (0, .ref 181)] [] g72 _ _
      have z1 := hy_zput Eg72
      refine AR.s (pc' := 93) (lv' := [(1, .int y), (0, .ref 181)]) (st' := [.ref 181]) (h' := g72) _ hn_216 hk_216_92 rfl ?_
      refine AR.gI hk_216_93 (by decide) Hg72 (q := 181) (n := 32) (by decide) (by decide +kernel) (by decide +kernel) (by decide) hy_t181_28 (fun x73 dx73 lx73 ux73 => ?_)
      show AR _ _ _ _ _ _ _ 96 [(1, .int y), (0, .ref 181)] [.int x73] g72 _ _
      have k3 : x73.toInt = L + 1 := by rw [← hy_zi dx73, z1, if_pos ⟨rfl, rfl⟩]; omega
      obtain ⟨i1, i2, i3, i4, i5⟩ := hI
      have q190 := hy_zA Fg72 (q := 190) (by decide +kernel) (by decide) (by decide +kernel) (by decide +kernel)
      have q191 := hy_zA Fg72 (q := 191) (by decide +kernel) (by decide) (by decide +kernel) (by decide +kernel)
      have q21 := hy_zF Fg72 21 (q := 181) (by decide) (by decide +kernel) (by decide +kernel)
      have q24 := hy_zF Fg72 24 (q := 181) (by decide) (by decide +kernel) (by decide +kernel)
      refine AR.iret hk_216_96 hr_216 ⟨Hg72, Fg72, ⟨hy_Id.go q190 q21 i1, ?_, ?_, hy_Ip.go (hy_zA Fg72 (by decide +kernel) (by decide) (by decide +kernel) (by decide +kernel)) i4, hy_Is.gF Fg72 (by decide +kernel) (by decide +kernel) (by decide +kernel) i5⟩, x73, rfl, Or.inr ⟨?_, ?_, ?_, ?_⟩⟩
      · unfold hy_Iv at i2 ⊢
        simp only [q190, q191, q21, q24]
        exact i2
      · have w5 : ∀ j, hy_z g72 195 j = hy_z h 195 j := fun j => by rw [z1, if_neg (by omega)]
        have w6 : ∀ j, hy_z g72 196 j = hy_z h 196 j := fun j => by rw [z1, if_neg (by omega)]
        intro L2 hL2 j k hjk hk
        rw [w5] at hk
        rw [w6, w6]
        by_cases e : L2 = L
        · subst e
          rw [e1] at hk
          rw [e3 j (by omega), e3 k (by omega)]
          exact i1 j k hjk (by omega)
        · rw [e2 _ e] at hk
          have := hy_l195 hH0 (j := L2) hL2
          rw [e4 _ (by omega), e4 _ (by omega)]
          exact i3 L2 hL2 j k hjk hk
      · rw [if_pos rfl]; omega
      · rw [z1, if_neg (by omega)]; exact th
      · rw [if_pos rfl, z1, if_pos ⟨rfl, rfl⟩]; omega
      · rw [if_pos rfl]; omega
    · exact absurd j2 (by omega)
  | succ m ih =>
    intro t h y ht hy hH F th lv e1 e2 e3 e4
    have en : hy_z h 181 21 = n := by rw [hy_zF F 21 (by decide) (by decide +kernel) (by decide +kernel)]; exact hn
    have ed : ∀ j, hy_z h 190 j = hy_z h0 190 j := (hy_zA F (by decide +kernel) (by decide) (by decide +kernel) (by decide +kernel))
    refine AR.s (pc' := 49) (lv' := [(1, .int y), (0, .ref 181)]) (st' := [.int y]) (h' := h) _ hn_216 hk_216_48 rfl ?_
    refine AR.s (pc' := 50) (lv' := [(1, .int y), (0, .ref 181)]) (st' := [.ref 181, .int y]) (h' := h) _ hn_216 hk_216_49 rfl ?_
    refine AR.gI hk_216_50 (by decide) hH (q := 181) (n := 32) (by decide) (by decide +kernel) (by decide +kernel) (by decide) hy_t181_21 (fun x74 dx74 lx74 ux74 => ?_)
    show AR _ _ _ _ _ _ _ 53 [(1, .int y), (0, .ref 181)] [.int x74, .int y] h _ _
    have k1 : x74.toInt = n := by rw [← hy_zi dx74]; exact en
    refine AR.jge hk_216_53 (tgt := 82) (by decide) (fun j1 => ?_) (fun j2 => ?_)
    · exact absurd j1 (by omega)
    · refine AR.s (pc' := 57) (lv' := [(1, .int y), (0, .ref 181)]) (st' := [.ref 181]) (h' := h) _ hn_216 hk_216_56 rfl ?_
      refine AR.gR hk_216_57 (by decide) hH (q := 181) (n := 32) (by decide) (by decide +kernel) (by decide +kernel) (by decide) hy_t181_31 ?_
      show AR _ _ _ _ _ _ _ 60 [(1, .int y), (0, .ref 181)] [.ref 196] h _ _
      refine AR.bipushT hk_216_60 (by decide) (fun z75 ez75 => ?_)
      show AR _ _ _ _ _ _ _ 62 [(1, .int y), (0, .ref 181)] [.int z75, .ref 196] h _ _
      refine AR.s (pc' := 63) (lv' := [(1, .int y), (0, .ref 181)]) (st' := [.ref 181, .int z75, .ref 196]) (h' := h) _ hn_216 hk_216_62 rfl ?_
      refine AR.gI hk_216_63 (by decide) hH (q := 181) (n := 32) (by decide) (by decide +kernel) (by decide +kernel) (by decide) hy_t181_28 (fun x76 dx76 lx76 ux76 => ?_)
      show AR _ _ _ _ _ _ _ 66 [(1, .int y), (0, .ref 181)] [.int x76, .int z75, .ref 196] h _ _
      have k2 : x76.toInt = L := by rw [← hy_zi dx76]; exact lv
      have n12 : n ≤ 12 := by omega
      refine AR.mulcT hk_216_66 ez75 (by omega) (by omega) (fun z77 ez77 => ?_)
      show AR _ _ _ _ _ _ _ 67 [(1, .int y), (0, .ref 181)] [.int z77, .ref 196] h _ _
      refine AR.s (pc' := 68) (lv' := [(1, .int y), (0, .ref 181)]) (st' := [.int y, .int z77, .ref 196]) (h' := h) _ hn_216 hk_216_67 rfl ?_
      refine AR.addT hk_216_68 (by omega) (by omega) (fun z78 ez78 => ?_)
      show AR _ _ _ _ _ _ _ 69 [(1, .int y), (0, .ref 181)] [.int z78, .ref 196] h _ _
      refine AR.s (pc' := 70) (lv' := [(1, .int y), (0, .ref 181)]) (st' := [.ref 181, .int z78, .ref 196]) (h' := h) _ hn_216 hk_216_69 rfl ?_
      refine AR.gR hk_216_70 (by decide) hH (q := 181) (n := 32) (by decide) (by decide +kernel) (by decide +kernel) (by decide) hy_t181_22 ?_
      show AR _ _ _ _ _ _ _ 73 [(1, .int y), (0, .ref 181)] [.ref 190, .int z78, .ref 196] h _ _
      refine AR.s (pc' := 74) (lv' := [(1, .int y), (0, .ref 181)]) (st' := [.int y, .ref 190, .int z78, .ref 196]) (h' := h) _ hn_216 hk_216_73 rfl ?_
      refine AR.iaI hk_216_74 hH (q := 190) (n := 12) (by decide) (by decide +kernel) (by decide +kernel) (by decide +kernel) hy_t190_0 (by omega) (by omega) (fun x79 dx79 lx79 ux79 => ?_)
      show AR _ _ _ _ _ _ _ 75 [(1, .int y), (0, .ref 181)] [.int x79, .int z78, .ref 196] h _ _
      have k3 : x79.toInt = hy_z h0 190 t := by
        have e9 : y.toNatClampNeg = t := by show y.toInt.toNat = t; omega
        rw [← ed t, ← e9]
        exact (hy_zi dx79).symm
      refine AR.isT hk_216_75 hH F (q := 196) (n := 96) (by decide) (by decide +kernel) (by decide +kernel) (by decide +kernel) hy_t196_0 (by omega) (by omega) (by omega) (by omega) (by decide +kernel) ?_
      rintro g80 ⟨Hg80, Fg80, Gg80, Eg80⟩
      show AR _ _ _ _ _ _ _ 76 [(1, .int y), (0, .ref 181)] [] g80 _ _
      have z1 := hy_zput Eg80
      refine AR.iincT hk_216_76 (x := y) rfl (by rw [hn_216]; decide) (by decide) (by omega) (by omega) (fun z81 ez81 => ?_)
      show AR _ _ _ _ _ _ _ 79 [(1, .int z81), (0, .ref 181)] [] g80 _ _
      refine AR.gotoT hk_216_79 (tgt := 48) (by decide) ?_
      have ei : z78.toNatClampNeg = 12 * L + t := by show z78.toInt.toNat = 12 * L + t; omega
      rw [ei] at z1
      refine ih (t + 1) g80 z81 (by omega) (by omega) Hg80 Fg80 (by rw [z1, if_neg (by omega)]; exact th) (by rw [z1, if_neg (by omega)]; exact lv) (by rw [z1, if_neg (by omega)]; exact e1) (fun j hj => by rw [z1, if_neg (by omega)]; exact e2 j hj) (fun j hj => ?_) (fun p hq => ?_)
      · rw [z1]
        split
        · rename_i e; obtain rfl : j = t := by omega
          exact k3
        · exact e3 j (by omega)
      · rw [z1, if_neg (by omega)]
        exact e4 p hq
theorem hf_push (hlst : l.stackTraces = false) (hH : hy_H K h) (hI : hy_I h) : AM ax_ns l (ax_mm 216) 4 ty_R 0 0 [.ref 181] h (hq_lv K hy_W8 h true) := by
  refine AM.of (ax_mfacts (by decide +kernel : ax_has 216 = true)).2.2.2.2.2.2 hlst (by rw [hn_216]; exact Nat.le_of_ble_eq_true rfl) ?_
  have F : ty_F hy_W8 h h := ty_F_refl _ _
  show AR ax_ns l (ax_mm 216) 4 ty_R _ _ 0 [(0, .ref 181)] [] h 0 0
  refine AR.s (pc' := 1) (lv' := [(0, .ref 181)]) (st' := [.ref 181]) (h' := h) _ hn_216 hk_216_0 rfl ?_
  refine AR.iconstT hk_216_1 (by decide) (fun z82 ez82 => ?_)
  show AR _ _ _ _ _ _ _ 2 [(0, .ref 181)] [.int z82, .ref 181] h _ _
  refine AR.pT hk_216_2 (by decide) hH F (q := 181) (by decide) (by decide +kernel) (show ax_cls[9]? = some hy_c9 from rfl) (by decide +kernel) (by decide) rfl (by rw [hy_t181_0]; exact ⟨_, rfl, by omega, by omega, Or.inl rfl⟩) (by decide +kernel) (by decide +kernel) ?_
  rintro g83 ⟨Hg83, Fg83, Gg83, Eg83⟩
  show AR _ _ _ _ _ _ _ 5 [(0, .ref 181)] [] g83 _ _
  have S0 : ty_F hy_W0 h g83 := hy_F0 hH Hg83 Eg83 Gg83
  have z0 := hy_zput Eg83
  refine AR.s (pc' := 6) (lv' := [(0, .ref 181)]) (st' := [.ref 181]) (h' := g83) _ hn_216 hk_216_5 rfl ?_
  refine AR.gI hk_216_6 (by decide) Hg83 (q := 181) (n := 32) (by decide) (by decide +kernel) (by decide +kernel) (by decide) hy_t181_28 (fun x84 dx84 lx84 ux84 => ?_)
  show AR _ _ _ _ _ _ _ 9 [(0, .ref 181)] [.int x84] g83 _ _
  refine AR.bipushT hk_216_9 (by decide) (fun z85 ez85 => ?_)
  show AR _ _ _ _ _ _ _ 11 [(0, .ref 181)] [.int z85, .int x84] g83 _ _
  have kl : hy_z h 181 28 = x84.toInt := by rw [← hy_zi dx84, z0, if_neg (by omega)]
  refine AR.jne hk_216_11 (tgt := 20) (by decide) (fun j1 => ?_) (fun j2 => ?_)
  · obtain ⟨i1, i2, i3, i4, i5⟩ := id hI
    have nd := hy_ndec hH
    obtain ⟨n, hn⟩ : ∃ n : Nat, hy_z h 181 21 = n := ⟨(hy_z h 181 21).toNat, by omega⟩
    obtain ⟨L, hL⟩ : ∃ L : Nat, hy_z h 181 28 = L := ⟨(hy_z h 181 28).toNat, by omega⟩
    refine AR.s (pc' := 21) (lv' := [(0, .ref 181)]) (st' := [.ref 181]) (h' := g83) _ hn_216 hk_216_20 rfl ?_
    refine AR.gR hk_216_21 (by decide) Hg83 (q := 181) (n := 32) (by decide) (by decide +kernel) (by decide +kernel) (by decide) hy_t181_29 ?_
    show AR _ _ _ _ _ _ _ 24 [(0, .ref 181)] [.ref 194] g83 _ _
    refine AR.s (pc' := 25) (lv' := [(0, .ref 181)]) (st' := [.ref 181, .ref 194]) (h' := g83) _ hn_216 hk_216_24 rfl ?_
    refine AR.gI hk_216_25 (by decide) Hg83 (q := 181) (n := 32) (by decide) (by decide +kernel) (by decide +kernel) (by decide) hy_t181_28 (fun x87 dx87 lx87 ux87 => ?_)
    show AR _ _ _ _ _ _ _ 28 [(0, .ref 181)] [.int x87, .ref 194] g83 _ _
    have kl0 : x87.toInt = L := by rw [← hL, ← hy_zi dx87, z0, if_neg (by omega)]
    refine AR.s (pc' := 29) (lv' := [(0, .ref 181)]) (st' := [.ref 181, .int x87, .ref 194]) (h' := g83) _ hn_216 hk_216_28 rfl ?_
    refine AR.gI hk_216_29 (by decide) Hg83 (q := 181) (n := 32) (by decide) (by decide +kernel) (by decide +kernel) (by decide) hy_t181_1 (fun x88 dx88 lx88 ux88 => ?_)
    show AR _ _ _ _ _ _ _ 32 [(0, .ref 181)] [.int x88, .int x87, .ref 194] g83 _ _
    refine AR.isT hk_216_32 Hg83 Fg83 (q := 194) (n := 8) (by decide) (by decide +kernel) (by decide +kernel) (by decide +kernel) hy_t194_0 (by omega) (by omega) (by omega) (by omega) (by decide +kernel) ?_
    rintro g89 ⟨Hg89, Fg89, Gg89, Eg89⟩
    show AR _ _ _ _ _ _ _ 33 [(0, .ref 181)] [] g89 _ _
    have z1 := hy_zput Eg89
    refine AR.s (pc' := 34) (lv' := [(0, .ref 181)]) (st' := [.ref 181]) (h' := g89) _ hn_216 hk_216_33 rfl ?_
    refine AR.gR hk_216_34 (by decide) Hg89 (q := 181) (n := 32) (by decide) (by decide +kernel) (by decide +kernel) (by decide) hy_t181_30 ?_
    show AR _ _ _ _ _ _ _ 37 [(0, .ref 181)] [.ref 195] g89 _ _
    refine AR.s (pc' := 38) (lv' := [(0, .ref 181)]) (st' := [.ref 181, .ref 195]) (h' := g89) _ hn_216 hk_216_37 rfl ?_
    refine AR.gI hk_216_38 (by decide) Hg89 (q := 181) (n := 32) (by decide) (by decide +kernel) (by decide +kernel) (by decide) hy_t181_28 (fun x90 dx90 lx90 ux90 => ?_)
    show AR _ _ _ _ _ _ _ 41 [(0, .ref 181)] [.int x90, .ref 195] g89 _ _
    have kl2 : x90.toInt = L := by rw [← hL, ← hy_zi dx90, z1, if_neg (by omega), z0, if_neg (by omega)]
    refine AR.s (pc' := 42) (lv' := [(0, .ref 181)]) (st' := [.ref 181, .int x90, .ref 195]) (h' := g89) _ hn_216 hk_216_41 rfl ?_
    refine AR.gI hk_216_42 (by decide) Hg89 (q := 181) (n := 32) (by decide) (by decide +kernel) (by decide +kernel) (by decide) hy_t181_21 (fun x91 dx91 lx91 ux91 => ?_)
    show AR _ _ _ _ _ _ _ 45 [(0, .ref 181)] [.int x91, .int x90, .ref 195] g89 _ _
    have kd : x91.toInt = n := by rw [← hn, ← hy_zi dx91, z1, if_neg (by omega), z0, if_neg (by omega)]
    refine AR.isT hk_216_45 Hg89 Fg89 (q := 195) (n := 8) (by decide) (by decide +kernel) (by decide +kernel) (by decide +kernel) hy_t195_0 (by omega) (by omega) (by omega) (by omega) (by decide +kernel) ?_
    rintro g92 ⟨Hg92, Fg92, Gg92, Eg92⟩
    show AR _ _ _ _ _ _ _ 46 [(0, .ref 181)] [] g92 _ _
    have z2 := hy_zput Eg92
    have e9 : x90.toNatClampNeg = L := by show x90.toInt.toNat = L; omega
    rw [e9] at z2
    refine AR.iconstT hk_216_46 (by decide) (fun z93 ez93 => ?_)
    show AR _ _ _ _ _ _ _ 47 [(0, .ref 181)] [.int z93] g92 _ _
    refine AR.s (pc' := 48) (lv' := [(1, .int z93), (0, .ref 181)]) (st' := []) (h' := g92) _ hn_216 hk_216_47 rfl ?_
    refine hf_puL hlst hH (L := L) (n := n) (by omega) hL hI hn n 0 g92 z93 (by omega) (by omega) Hg92 Fg92 ?_ ?_ ?_ (fun j hj => ?_) (fun j hj => absurd hj (Nat.not_lt_zero _)) (fun p hq => ?_)
    · rw [z2, if_neg (by omega), z1, if_neg (by omega), z0, if_pos ⟨rfl, rfl⟩]; omega
    · rw [z2, if_neg (by omega), z1, if_neg (by omega), z0, if_neg (by omega)]; exact hL
    · rw [z2, if_pos ⟨rfl, rfl⟩]; exact kd
    · rw [z2, if_neg (by omega), z1, if_neg (by omega), z0, if_neg (by omega)]
    · rw [z2, if_neg (by omega), z1, if_neg (by omega), z0, if_neg (by omega)]
  · refine AR.s (pc' := 15) (lv' := [(0, .ref 181)]) (st' := [.ref 181]) (h' := g83) _ hn_216 hk_216_14 rfl ?_
    refine AR.iconstT hk_216_15 (by decide) (fun z86 ez86 => ?_)
    show AR _ _ _ _ _ _ _ 16 [(0, .ref 181)] [.int z86, .ref 181] g83 _ _
    refine AR.c9 (as := [.int z86]) (rest := []) hk_216_16 Hg83 (by decide +kernel) rfl rfl (Nat.le_of_ble_eq_true rfl) (hf_no hlst Hg83 z86) (by decide) (Nat.le_refl _) (Nat.le_refl _) (fun E h' q => by obtain ⟨-, -, -, z, e, -⟩ := q; cases e) ?_
    rintro x9 g9 ⟨hg9, F9, t9, z9, e, hz9⟩
    cases e
    show AR _ _ _ _ _ _ _ 19 [(0, .ref 181)] [.int z9] g9 _ _
    refine AR.iret hk_216_19 hr_216 ⟨hg9, ty_F.trans Fg83 (ty_F.sub (by decide +kernel) F9), hy_I.same (ty_F.trans S0 F9) hI, z9, rfl, Or.inl ⟨?_, ?_, ?_, hz9⟩⟩
    · rw [if_pos rfl]; omega
    · omega
    · rw [hy_zF F9 28 (by decide) (by decide +kernel) (by decide +kernel), z0, if_neg (by omega)]
abbrev hy_W9 : Nat := 2 ^ 63 + 2 ^ 91 + 2 ^ 64 + 2 ^ 84 + 2 ^ 103 + 2 ^ 104 + 2 ^ 87
theorem hf_poL (hp : ty_pkM l) (hlst : l.stackTraces = false) {X : ax_PX} {L n : Nat} (hL : L < 8) (hl : hy_z h0 181 28 = L + 1) (hI : hy_I h0) (hH0 : hy_H K h0) (hn : hy_z h0 195 L = n) : ∀ (m t : Nat) (h : ax_H) (y : Int32), t + m = n → y.toInt = (t : Nat) → hy_H K h → ty_F hy_W9 h0 h → hy_z h 181 0 = 0 → hy_z h 181 28 = L → hy_z h 181 21 = n → (∀ j, j < t → hy_z h 190 j = hy_z h0 196 (12 * L + j)) → AR ax_ns l (ax_mm 217) 4 ty_R (ax_ret ax_ns (ax_mm 217) (hq_lv K hy_W9 h0 false)) X 56 [(1, .int y), (0, .ref 181)] [] h 0 0 := by
  intro m
  induction m with
  | zero =>
    intro t h y ht hy hH F th lv en e1
    have n12 := hy_l195 hH0 hL
    have e196 := hy_zA F (q := 196) (by decide +kernel) (by decide) (by decide +kernel) (by decide +kernel)
    refine AR.s (pc' := 57) (lv' := [(1, .int y), (0, .ref 181)]) (st' := [.int y]) (h' := h) _ hn_217 hk_217_56 rfl ?_
    refine AR.s (pc' := 58) (lv' := [(1, .int y), (0, .ref 181)]) (st' := [.ref 181, .int y]) (h' := h) _ hn_217 hk_217_57 rfl ?_
    refine AR.gI hk_217_58 (by decide) hH (q := 181) (n := 32) (by decide) (by decide +kernel) (by decide +kernel) (by decide) hy_t181_21 (fun x94 dx94 lx94 ux94 => ?_)
    show AR _ _ _ _ _ _ _ 61 [(1, .int y), (0, .ref 181)] [.int x94, .int y] h _ _
    have k1 : x94.toInt = n := by rw [← hy_zi dx94]; exact en
    refine AR.jge hk_217_61 (tgt := 90) (by decide) (fun j1 => ?_) (fun j2 => ?_)
    · refine AR.s (pc' := 91) (lv' := [(1, .int y), (0, .ref 181)]) (st' := [.ref 181]) (h' := h) _ hn_217 hk_217_90 rfl ?_
      refine AR.c9 (as := []) (rest := []) hk_217_91 hH (by decide +kernel) rfl rfl (Nat.le_of_ble_eq_true rfl) (hf_prop hp hlst hH) (by decide) (Nat.le_refl _) (Nat.le_refl _) (fun E h' q => by cases q.1) ?_
      rintro x1 p1 ⟨e, hp1, Fp1, vp1⟩
      cases e
      show AR _ _ _ _ _ _ _ 94 [(1, .int y), (0, .ref 181)] [] p1 _ _
      have FF : ty_F hy_W9 h0 p1 := ty_F.trans F (ty_F.sub (by decide +kernel) Fp1)
      refine AR.s (pc' := 95) (lv' := [(1, .int y), (0, .ref 181)]) (st' := [.ref 181]) (h' := p1) _ hn_217 hk_217_94 rfl ?_
      refine AR.gI hk_217_95 (by decide) hp1 (q := 181) (n := 32) (by decide) (by decide +kernel) (by decide +kernel) (by decide) hy_t181_28 (fun x95 dx95 lx95 ux95 => ?_)
      show AR _ _ _ _ _ _ _ 98 [(1, .int y), (0, .ref 181)] [.int x95] p1 _ _
      have l1 : hy_z p1 181 28 = L := by rw [hy_zF Fp1 28 (by decide) (by decide +kernel) (by decide +kernel)]; exact lv
      have k3 : x95.toInt = L := by rw [← hy_zi dx95]; exact l1
      obtain ⟨i1, i2, i3, i4, i5⟩ := hI
      refine AR.iret hk_217_98 hr_217 ⟨hp1, FF, ⟨?_, vp1, hy_Il.go (hy_zA FF (by decide +kernel) (by decide) (by decide +kernel) (by decide +kernel)) (hy_zA FF (by decide +kernel) (by decide) (by decide +kernel) (by decide +kernel)) i3, hy_Ip.go (hy_zA FF (by decide +kernel) (by decide) (by decide +kernel) (by decide +kernel)) i4, hy_Is.gF FF (by decide +kernel) (by decide +kernel) (by decide +kernel) i5⟩, x95, rfl, Or.inr ⟨?_, ?_, ?_, ?_⟩⟩
      · intro j k hjk hk
        rw [hy_zF Fp1 21 (by decide) (by decide +kernel) (by decide +kernel), en] at hk
        have w := hy_zA Fp1 (q := 190) (by decide +kernel) (by decide) (by decide +kernel) (by decide +kernel)
        rw [w, w, e1 j (by omega), e1 k (by omega)]
        exact i3 L hL j k hjk (by omega)
      · rw [if_neg (by decide)]; omega
      · rw [hy_zF Fp1 0 (by decide) (by decide +kernel) (by decide +kernel)]; exact th
      · rw [if_neg (by decide)]; omega
      · rw [if_neg (by decide)]; omega
    · exact absurd j2 (by omega)
  | succ m ih =>
    intro t h y ht hy hH F th lv en e1
    have n12 := hy_l195 hH0 hL
    have e196 := hy_zA F (q := 196) (by decide +kernel) (by decide) (by decide +kernel) (by decide +kernel)
    refine AR.s (pc' := 57) (lv' := [(1, .int y), (0, .ref 181)]) (st' := [.int y]) (h' := h) _ hn_217 hk_217_56 rfl ?_
    refine AR.s (pc' := 58) (lv' := [(1, .int y), (0, .ref 181)]) (st' := [.ref 181, .int y]) (h' := h) _ hn_217 hk_217_57 rfl ?_
    refine AR.gI hk_217_58 (by decide) hH (q := 181) (n := 32) (by decide) (by decide +kernel) (by decide +kernel) (by decide) hy_t181_21 (fun x96 dx96 lx96 ux96 => ?_)
    show AR _ _ _ _ _ _ _ 61 [(1, .int y), (0, .ref 181)] [.int x96, .int y] h _ _
    have k1 : x96.toInt = n := by rw [← hy_zi dx96]; exact en
    refine AR.jge hk_217_61 (tgt := 90) (by decide) (fun j1 => ?_) (fun j2 => ?_)
    · exact absurd j1 (by omega)
    · refine AR.s (pc' := 65) (lv' := [(1, .int y), (0, .ref 181)]) (st' := [.ref 181]) (h' := h) _ hn_217 hk_217_64 rfl ?_
      refine AR.gR hk_217_65 (by decide) hH (q := 181) (n := 32) (by decide) (by decide +kernel) (by decide +kernel) (by decide) hy_t181_22 ?_
      show AR _ _ _ _ _ _ _ 68 [(1, .int y), (0, .ref 181)] [.ref 190] h _ _
      refine AR.s (pc' := 69) (lv' := [(1, .int y), (0, .ref 181)]) (st' := [.int y, .ref 190]) (h' := h) _ hn_217 hk_217_68 rfl ?_
      refine AR.s (pc' := 70) (lv' := [(1, .int y), (0, .ref 181)]) (st' := [.ref 181, .int y, .ref 190]) (h' := h) _ hn_217 hk_217_69 rfl ?_
      refine AR.gR hk_217_70 (by decide) hH (q := 181) (n := 32) (by decide) (by decide +kernel) (by decide +kernel) (by decide) hy_t181_31 ?_
      show AR _ _ _ _ _ _ _ 73 [(1, .int y), (0, .ref 181)] [.ref 196, .int y, .ref 190] h _ _
      refine AR.bipushT hk_217_73 (by decide) (fun z97 ez97 => ?_)
      show AR _ _ _ _ _ _ _ 75 [(1, .int y), (0, .ref 181)] [.int z97, .ref 196, .int y, .ref 190] h _ _
      refine AR.s (pc' := 76) (lv' := [(1, .int y), (0, .ref 181)]) (st' := [.ref 181, .int z97, .ref 196, .int y, .ref 190]) (h' := h) _ hn_217 hk_217_75 rfl ?_
      refine AR.gI hk_217_76 (by decide) hH (q := 181) (n := 32) (by decide) (by decide +kernel) (by decide +kernel) (by decide) hy_t181_28 (fun x98 dx98 lx98 ux98 => ?_)
      show AR _ _ _ _ _ _ _ 79 [(1, .int y), (0, .ref 181)] [.int x98, .int z97, .ref 196, .int y, .ref 190] h _ _
      have k2 : x98.toInt = L := by rw [← hy_zi dx98]; exact lv
      refine AR.mulcT hk_217_79 ez97 (by omega) (by omega) (fun z99 ez99 => ?_)
      show AR _ _ _ _ _ _ _ 80 [(1, .int y), (0, .ref 181)] [.int z99, .ref 196, .int y, .ref 190] h _ _
      refine AR.s (pc' := 81) (lv' := [(1, .int y), (0, .ref 181)]) (st' := [.int y, .int z99, .ref 196, .int y, .ref 190]) (h' := h) _ hn_217 hk_217_80 rfl ?_
      refine AR.addT hk_217_81 (by omega) (by omega) (fun z100 ez100 => ?_)
      show AR _ _ _ _ _ _ _ 82 [(1, .int y), (0, .ref 181)] [.int z100, .ref 196, .int y, .ref 190] h _ _
      refine AR.iaI hk_217_82 hH (q := 196) (n := 96) (by decide) (by decide +kernel) (by decide +kernel) (by decide +kernel) hy_t196_0 (by omega) (by omega) (fun x101 dx101 lx101 ux101 => ?_)
      show AR _ _ _ _ _ _ _ 83 [(1, .int y), (0, .ref 181)] [.int x101, .int y, .ref 190] h _ _
      have k3 : x101.toInt = hy_z h0 196 (12 * L + t) := by
        have e9 : z100.toNatClampNeg = 12 * L + t := by show z100.toInt.toNat = 12 * L + t; omega
        rw [← e196, ← e9]
        exact (hy_zi dx101).symm
      refine AR.isT hk_217_83 hH F (q := 190) (n := 12) (by decide) (by decide +kernel) (by decide +kernel) (by decide +kernel) hy_t190_0 (by omega) (by omega) (by omega) (by omega) (by decide +kernel) ?_
      rintro g102 ⟨Hg102, Fg102, Gg102, Eg102⟩
      show AR _ _ _ _ _ _ _ 84 [(1, .int y), (0, .ref 181)] [] g102 _ _
      have z1 := hy_zput Eg102
      refine AR.iincT hk_217_84 (x := y) rfl (by rw [hn_217]; decide) (by decide) (by omega) (by omega) (fun z103 ez103 => ?_)
      show AR _ _ _ _ _ _ _ 87 [(1, .int z103), (0, .ref 181)] [] g102 _ _
      refine AR.gotoT hk_217_87 (tgt := 56) (by decide) ?_
      have ei : y.toNatClampNeg = t := by show y.toInt.toNat = t; omega
      rw [ei] at z1
      refine ih (t + 1) g102 z103 (by omega) (by omega) Hg102 Fg102 (by rw [z1, if_neg (by omega)]; exact th) (by rw [z1, if_neg (by omega)]; exact lv) (by rw [z1, if_neg (by omega)]; exact en) (fun j hj => ?_)
      rw [z1]
      split
      · rename_i e; obtain rfl : j = t := by omega
        exact k3
      · exact e1 j (by omega)
theorem hf_pop (hp : ty_pkM l) (hlst : l.stackTraces = false) (hH : hy_H K h) (hI : hy_I h) : AM ax_ns l (ax_mm 217) 4 ty_R 0 0 [.ref 181] h (hq_lv K hy_W9 h false) := by
  refine AM.of (ax_mfacts (by decide +kernel : ax_has 217 = true)).2.2.2.2.2.2 hlst (by rw [hn_217]; exact Nat.le_of_ble_eq_true rfl) ?_
  have F : ty_F hy_W9 h h := ty_F_refl _ _
  show AR ax_ns l (ax_mm 217) 4 ty_R _ _ 0 [(0, .ref 181)] [] h 0 0
  refine AR.s (pc' := 1) (lv' := [(0, .ref 181)]) (st' := [.ref 181]) (h' := h) _ hn_217 hk_217_0 rfl ?_
  refine AR.iconstT hk_217_1 (by decide) (fun z104 ez104 => ?_)
  show AR _ _ _ _ _ _ _ 2 [(0, .ref 181)] [.int z104, .ref 181] h _ _
  refine AR.pT hk_217_2 (by decide) hH F (q := 181) (by decide) (by decide +kernel) (show ax_cls[9]? = some hy_c9 from rfl) (by decide +kernel) (by decide) rfl (by rw [hy_t181_0]; exact ⟨_, rfl, by omega, by omega, Or.inl rfl⟩) (by decide +kernel) (by decide +kernel) ?_
  rintro g105 ⟨Hg105, Fg105, Gg105, Eg105⟩
  show AR _ _ _ _ _ _ _ 5 [(0, .ref 181)] [] g105 _ _
  have S0 : ty_F hy_W0 h g105 := hy_F0 hH Hg105 Eg105 Gg105
  have z0 := hy_zput Eg105
  refine AR.s (pc' := 6) (lv' := [(0, .ref 181)]) (st' := [.ref 181]) (h' := g105) _ hn_217 hk_217_5 rfl ?_
  refine AR.gI hk_217_6 (by decide) Hg105 (q := 181) (n := 32) (by decide) (by decide +kernel) (by decide +kernel) (by decide) hy_t181_28 (fun x106 dx106 lx106 ux106 => ?_)
  show AR _ _ _ _ _ _ _ 9 [(0, .ref 181)] [.int x106] g105 _ _
  have kl : hy_z h 181 28 = x106.toInt := by rw [← hy_zi dx106, z0, if_neg (by omega)]
  refine AR.zne hk_217_9 (tgt := 18) (by decide) (fun j1 => ?_) (fun j2 => ?_)
  · obtain ⟨L, hL⟩ : ∃ L : Nat, hy_z h 181 28 = L + 1 := ⟨(hy_z h 181 28).toNat - 1, by omega⟩
    have nl := hy_l195 hH (j := L) (by omega)
    obtain ⟨n, hn⟩ : ∃ n : Nat, hy_z h 195 L = n := ⟨(hy_z h 195 L).toNat, by omega⟩
    refine AR.s (pc' := 19) (lv' := [(0, .ref 181)]) (st' := [.ref 181]) (h' := g105) _ hn_217 hk_217_18 rfl ?_
    refine AR.s (pc' := 20) (lv' := [(0, .ref 181)]) (st' := [.ref 181, .ref 181]) (h' := g105) _ hn_217 hk_217_19 rfl ?_
    refine AR.gI hk_217_20 (by decide) Hg105 (q := 181) (n := 32) (by decide) (by decide +kernel) (by decide +kernel) (by decide) hy_t181_28 (fun x108 dx108 lx108 ux108 => ?_)
    show AR _ _ _ _ _ _ _ 23 [(0, .ref 181)] [.int x108, .ref 181] g105 _ _
    have kl2 : x108.toInt = L + 1 := by rw [← hL, ← hy_zi dx108, z0, if_neg (by omega)]
    refine AR.iconstT hk_217_23 (by decide) (fun z109 ez109 => ?_)
    show AR _ _ _ _ _ _ _ 24 [(0, .ref 181)] [.int z109, .int x108, .ref 181] g105 _ _
    refine AR.subT hk_217_24 (by omega) (by omega) (fun z110 ez110 => ?_)
    show AR _ _ _ _ _ _ _ 25 [(0, .ref 181)] [.int z110, .ref 181] g105 _ _
    refine AR.pT hk_217_25 (by decide) Hg105 Fg105 (q := 181) (by decide) (by decide +kernel) (show ax_cls[9]? = some hy_c9 from rfl) (by decide +kernel) (by decide) rfl (by rw [hy_t181_28]; exact ⟨_, rfl, by omega, by omega, Or.inl rfl⟩) (by decide +kernel) (by decide +kernel) ?_
    rintro g111 ⟨Hg111, Fg111, Gg111, Eg111⟩
    show AR _ _ _ _ _ _ _ 28 [(0, .ref 181)] [] g111 _ _
    have z1 := hy_zput Eg111
    refine AR.s (pc' := 29) (lv' := [(0, .ref 181)]) (st' := [.ref 181]) (h' := g111) _ hn_217 hk_217_28 rfl ?_
    refine AR.s (pc' := 30) (lv' := [(0, .ref 181)]) (st' := [.ref 181, .ref 181]) (h' := g111) _ hn_217 hk_217_29 rfl ?_
    refine AR.gR hk_217_30 (by decide) Hg111 (q := 181) (n := 32) (by decide) (by decide +kernel) (by decide +kernel) (by decide) hy_t181_29 ?_
    show AR _ _ _ _ _ _ _ 33 [(0, .ref 181)] [.ref 194, .ref 181] g111 _ _
    refine AR.s (pc' := 34) (lv' := [(0, .ref 181)]) (st' := [.ref 181, .ref 194, .ref 181]) (h' := g111) _ hn_217 hk_217_33 rfl ?_
    refine AR.gI hk_217_34 (by decide) Hg111 (q := 181) (n := 32) (by decide) (by decide +kernel) (by decide +kernel) (by decide) hy_t181_28 (fun x112 dx112 lx112 ux112 => ?_)
    show AR _ _ _ _ _ _ _ 37 [(0, .ref 181)] [.int x112, .ref 194, .ref 181] g111 _ _
    have kl3 : x112.toInt = L := by rw [← hy_zi dx112, z1, if_pos ⟨rfl, rfl⟩]; omega
    refine AR.iaI hk_217_37 Hg111 (q := 194) (n := 8) (by decide) (by decide +kernel) (by decide +kernel) (by decide +kernel) hy_t194_0 (by omega) (by omega) (fun x113 dx113 lx113 ux113 => ?_)
    show AR _ _ _ _ _ _ _ 38 [(0, .ref 181)] [.int x113, .ref 181] g111 _ _
    refine AR.pT hk_217_38 (by decide) Hg111 Fg111 (q := 181) (by decide) (by decide +kernel) (show ax_cls[9]? = some hy_c9 from rfl) (by decide +kernel) (by decide) rfl (by rw [hy_t181_1]; exact ⟨_, rfl, by omega, by omega, Or.inl rfl⟩) (by decide +kernel) (by decide +kernel) ?_
    rintro g114 ⟨Hg114, Fg114, Gg114, Eg114⟩
    show AR _ _ _ _ _ _ _ 41 [(0, .ref 181)] [] g114 _ _
    have z2 := hy_zput Eg114
    refine AR.s (pc' := 42) (lv' := [(0, .ref 181)]) (st' := [.ref 181]) (h' := g114) _ hn_217 hk_217_41 rfl ?_
    refine AR.s (pc' := 43) (lv' := [(0, .ref 181)]) (st' := [.ref 181, .ref 181]) (h' := g114) _ hn_217 hk_217_42 rfl ?_
    refine AR.gR hk_217_43 (by decide) Hg114 (q := 181) (n := 32) (by decide) (by decide +kernel) (by decide +kernel) (by decide) hy_t181_30 ?_
    show AR _ _ _ _ _ _ _ 46 [(0, .ref 181)] [.ref 195, .ref 181] g114 _ _
    refine AR.s (pc' := 47) (lv' := [(0, .ref 181)]) (st' := [.ref 181, .ref 195, .ref 181]) (h' := g114) _ hn_217 hk_217_46 rfl ?_
    refine AR.gI hk_217_47 (by decide) Hg114 (q := 181) (n := 32) (by decide) (by decide +kernel) (by decide +kernel) (by decide) hy_t181_28 (fun x115 dx115 lx115 ux115 => ?_)
    show AR _ _ _ _ _ _ _ 50 [(0, .ref 181)] [.int x115, .ref 195, .ref 181] g114 _ _
    have kl4 : x115.toInt = L := by rw [← hy_zi dx115, z2, if_neg (by omega), z1, if_pos ⟨rfl, rfl⟩]; omega
    refine AR.iaI hk_217_50 Hg114 (q := 195) (n := 8) (by decide) (by decide +kernel) (by decide +kernel) (by decide +kernel) hy_t195_0 (by omega) (by omega) (fun x116 dx116 lx116 ux116 => ?_)
    show AR _ _ _ _ _ _ _ 51 [(0, .ref 181)] [.int x116, .ref 181] g114 _ _
    have kd : x116.toInt = n := by
      have e9 : x115.toNatClampNeg = L := by show x115.toInt.toNat = L; omega
      rw [← hn, ← hy_zi dx116, e9, z2, if_neg (by omega), z1, if_neg (by omega), z0, if_neg (by omega)]
    refine AR.pT hk_217_51 (by decide) Hg114 Fg114 (q := 181) (by decide) (by decide +kernel) (show ax_cls[9]? = some hy_c9 from rfl) (by decide +kernel) (by decide) rfl (by rw [hy_t181_21]; exact ⟨_, rfl, by omega, by omega, Or.inl rfl⟩) (by decide +kernel) (by decide +kernel) ?_
    rintro g117 ⟨Hg117, Fg117, Gg117, Eg117⟩
    show AR _ _ _ _ _ _ _ 54 [(0, .ref 181)] [] g117 _ _
    have z3 := hy_zput Eg117
    refine AR.iconstT hk_217_54 (by decide) (fun z118 ez118 => ?_)
    show AR _ _ _ _ _ _ _ 55 [(0, .ref 181)] [.int z118] g117 _ _
    refine AR.s (pc' := 56) (lv' := [(1, .int z118), (0, .ref 181)]) (st' := []) (h' := g117) _ hn_217 hk_217_55 rfl ?_
    refine hf_poL hp hlst (L := L) (n := n) (by omega) hL hI hH hn n 0 g117 z118 (by omega) (by omega) Hg117 Fg117 ?_ ?_ ?_ (fun j hj => absurd hj (Nat.not_lt_zero _))
    · rw [z3, if_neg (by omega), z2, if_neg (by omega), z1, if_neg (by omega), z0, if_pos ⟨rfl, rfl⟩]; omega
    · rw [z3, if_neg (by omega), z2, if_neg (by omega), z1, if_pos ⟨rfl, rfl⟩]; omega
    · rw [z3, if_pos ⟨rfl, rfl⟩]; exact kd
  · refine AR.s (pc' := 13) (lv' := [(0, .ref 181)]) (st' := [.ref 181]) (h' := g105) _ hn_217 hk_217_12 rfl ?_
    refine AR.iconstT hk_217_13 (by decide) (fun z107 ez107 => ?_)
    show AR _ _ _ _ _ _ _ 14 [(0, .ref 181)] [.int z107, .ref 181] g105 _ _
    refine AR.c9 (as := [.int z107]) (rest := []) hk_217_14 Hg105 (by decide +kernel) rfl rfl (Nat.le_of_ble_eq_true rfl) (hf_no hlst Hg105 z107) (by decide) (Nat.le_refl _) (Nat.le_refl _) (fun E h' q => by obtain ⟨-, -, -, z, e, -⟩ := q; cases e) ?_
    rintro x9 g9 ⟨hg9, F9, t9, z9, e, hz9⟩
    cases e
    show AR _ _ _ _ _ _ _ 17 [(0, .ref 181)] [.int z9] g9 _ _
    refine AR.iret hk_217_17 hr_217 ⟨hg9, ty_F.trans Fg105 (ty_F.sub (by decide +kernel) F9), hy_I.same (ty_F.trans S0 F9) hI, z9, rfl, Or.inl ⟨?_, ?_, ?_, hz9⟩⟩
    · rw [if_neg (by decide)]; omega
    · omega
    · rw [hy_zF F9 28 (by decide) (by decide +kernel) (by decide +kernel), z0, if_neg (by omega)]
end HM3
