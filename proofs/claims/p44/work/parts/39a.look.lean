/-! THE ROWS of the methods, by place -/
theorem hn_1 : (ax_mm 1).2.2.1 = 1 := by decide +kernel
theorem hr_1 : (ax_mm 1).2.2.2.1 = none := by decide +kernel
theorem hk_1_0 : ax_look 1 0 = some (.aload_n 0, (0, 0, 0), .null, []) := by decide +kernel
theorem hk_1_1 : ax_look 1 1 = some (.getfield 9, (0, 0, 0), .null, [1198]) := by decide +kernel
theorem hk_1_4 : ax_look 1 4 = some (.iconst (-1), (0, 0, 0), .null, []) := by decide +kernel
theorem hk_1_5 : ax_look 1 5 = some (.invokestatic 19, (253, 2, 0), .null, [1195]) := by decide +kernel
theorem hk_1_8 : ax_look 1 8 = some (.aload_n 0, (0, 0, 0), .null, []) := by decide +kernel
theorem hk_1_9 : ax_look 1 9 = some (.iconst 0, (0, 0, 0), .null, []) := by decide +kernel
theorem hk_1_10 : ax_look 1 10 = some (.putfield 15, (0, 1, 0), .null, [1199]) := by decide +kernel
theorem hk_1_13 : ax_look 1 13 = some (.return_, (0, 0, 0), .null, []) := by decide +kernel
theorem hn_2 : (ax_mm 2).2.2.1 = 2 := by decide +kernel
theorem hr_2 : (ax_mm 2).2.2.2.1 = (some .boolean) := by decide +kernel
theorem hk_2_0 : ax_look 2 0 = some (.aload_n 0, (0, 0, 0), .null, []) := by decide +kernel
theorem hk_2_1 : ax_look 2 1 = some (.getfield 9, (0, 0, 0), .null, [1198]) := by decide +kernel
theorem hk_2_4 : ax_look 2 4 = some (.iload_n 1, (0, 0, 0), .null, []) := by decide +kernel
theorem hk_2_5 : ax_look 2 5 = some (.iaload, (0, 0, 0), .null, []) := by decide +kernel
theorem hk_2_6 : ax_look 2 6 = some (.ifCond .lt 7, (0, 0, 0), .null, []) := by decide +kernel
theorem hk_2_9 : ax_look 2 9 = some (.iconst 1, (0, 0, 0), .null, []) := by decide +kernel
theorem hk_2_10 : ax_look 2 10 = some (.goto 4, (0, 0, 0), .null, []) := by decide +kernel
theorem hk_2_13 : ax_look 2 13 = some (.iconst 0, (0, 0, 0), .null, []) := by decide +kernel
theorem hk_2_14 : ax_look 2 14 = some (.ireturn, (0, 0, 0), .null, []) := by decide +kernel
theorem hn_3 : (ax_mm 3).2.2.1 = 2 := by decide +kernel
theorem hr_3 : (ax_mm 3).2.2.2.1 = (some .boolean) := by decide +kernel
theorem hk_3_0 : ax_look 3 0 = some (.aload_n 0, (0, 0, 0), .null, []) := by decide +kernel
theorem hk_3_1 : ax_look 3 1 = some (.getfield 9, (0, 0, 0), .null, [1198]) := by decide +kernel
theorem hk_3_4 : ax_look 3 4 = some (.iload_n 1, (0, 0, 0), .null, []) := by decide +kernel
theorem hk_3_5 : ax_look 3 5 = some (.iconst 1, (0, 0, 0), .null, []) := by decide +kernel
theorem hk_3_6 : ax_look 3 6 = some (.ishr, (0, 0, 0), .null, []) := by decide +kernel
theorem hk_3_7 : ax_look 3 7 = some (.iaload, (0, 0, 0), .null, []) := by decide +kernel
theorem hk_3_8 : ax_look 3 8 = some (.iload_n 1, (0, 0, 0), .null, []) := by decide +kernel
theorem hk_3_9 : ax_look 3 9 = some (.iconst 1, (0, 0, 0), .null, []) := by decide +kernel
theorem hk_3_10 : ax_look 3 10 = some (.iand, (0, 0, 0), .null, []) := by decide +kernel
theorem hk_3_11 : ax_look 3 11 = some (.if_icmp .ne 7, (0, 0, 0), .null, []) := by decide +kernel
theorem hk_3_14 : ax_look 3 14 = some (.iconst 1, (0, 0, 0), .null, []) := by decide +kernel
theorem hk_3_15 : ax_look 3 15 = some (.goto 4, (0, 0, 0), .null, []) := by decide +kernel
theorem hk_3_18 : ax_look 3 18 = some (.iconst 0, (0, 0, 0), .null, []) := by decide +kernel
theorem hk_3_19 : ax_look 3 19 = some (.ireturn, (0, 0, 0), .null, []) := by decide +kernel
theorem hn_4 : (ax_mm 4).2.2.1 = 2 := by decide +kernel
theorem hr_4 : (ax_mm 4).2.2.2.1 = none := by decide +kernel
theorem hk_4_0 : ax_look 4 0 = some (.aload_n 0, (0, 0, 0), .null, []) := by decide +kernel
theorem hk_4_1 : ax_look 4 1 = some (.getfield 9, (0, 0, 0), .null, [1198]) := by decide +kernel
theorem hk_4_4 : ax_look 4 4 = some (.iload_n 1, (0, 0, 0), .null, []) := by decide +kernel
theorem hk_4_5 : ax_look 4 5 = some (.iconst 1, (0, 0, 0), .null, []) := by decide +kernel
theorem hk_4_6 : ax_look 4 6 = some (.ishr, (0, 0, 0), .null, []) := by decide +kernel
theorem hk_4_7 : ax_look 4 7 = some (.iconst 1, (0, 0, 0), .null, []) := by decide +kernel
theorem hk_4_8 : ax_look 4 8 = some (.iload_n 1, (0, 0, 0), .null, []) := by decide +kernel
theorem hk_4_9 : ax_look 4 9 = some (.iconst 1, (0, 0, 0), .null, []) := by decide +kernel
theorem hk_4_10 : ax_look 4 10 = some (.iand, (0, 0, 0), .null, []) := by decide +kernel
theorem hk_4_11 : ax_look 4 11 = some (.isub, (0, 0, 0), .null, []) := by decide +kernel
theorem hk_4_12 : ax_look 4 12 = some (.iastore, (0, 0, 0), .null, []) := by decide +kernel
theorem hk_4_13 : ax_look 4 13 = some (.return_, (0, 0, 0), .null, []) := by decide +kernel
theorem hn_7 : (ax_mm 7).2.2.1 = 3 := by decide +kernel
theorem hr_7 : (ax_mm 7).2.2.2.1 = none := by decide +kernel
theorem hk_7_0 : ax_look 7 0 = some (.aload_n 0, (0, 0, 0), .null, []) := by decide +kernel
theorem hk_7_1 : ax_look 7 1 = some (.lconst 0, (0, 0, 0), .null, []) := by decide +kernel
theorem hk_7_2 : ax_look 7 2 = some (.putfield 19, (1, 2, 0), .null, [1153]) := by decide +kernel
theorem hk_7_5 : ax_look 7 5 = some (.iconst 0, (0, 0, 0), .null, []) := by decide +kernel
theorem hk_7_6 : ax_look 7 6 = some (.istore_n 2, (0, 0, 0), .null, []) := by decide +kernel
theorem hk_7_7 : ax_look 7 7 = some (.iload_n 2, (0, 0, 0), .null, []) := by decide +kernel
theorem hk_7_8 : ax_look 7 8 = some (.bipush 24, (0, 0, 0), .null, []) := by decide +kernel
theorem hk_7_10 : ax_look 7 10 = some (.if_icmp .ge 38, (0, 0, 0), .null, []) := by decide +kernel
theorem hk_7_13 : ax_look 7 13 = some (.aload_n 0, (0, 0, 0), .null, []) := by decide +kernel
theorem hk_7_14 : ax_look 7 14 = some (.getfield 9, (1, 0, 0), .null, [1146]) := by decide +kernel
theorem hk_7_17 : ax_look 7 17 = some (.iload_n 2, (0, 0, 0), .null, []) := by decide +kernel
theorem hk_7_18 : ax_look 7 18 = some (.aload_n 1, (0, 0, 0), .null, []) := by decide +kernel
theorem hk_7_19 : ax_look 7 19 = some (.getfield 23, (2, 0, 0), .null, [1130]) := by decide +kernel
theorem hk_7_22 : ax_look 7 22 = some (.iload_n 2, (0, 0, 0), .null, []) := by decide +kernel
theorem hk_7_23 : ax_look 7 23 = some (.laload, (0, 0, 0), .null, []) := by decide +kernel
theorem hk_7_24 : ax_look 7 24 = some (.l2i, (0, 0, 0), .null, []) := by decide +kernel
theorem hk_7_25 : ax_look 7 25 = some (.iastore, (0, 0, 0), .null, []) := by decide +kernel
theorem hk_7_26 : ax_look 7 26 = some (.aload_n 0, (0, 0, 0), .null, []) := by decide +kernel
theorem hk_7_27 : ax_look 7 27 = some (.dup, (0, 0, 0), .null, []) := by decide +kernel
theorem hk_7_28 : ax_look 7 28 = some (.getfield 19, (1, 2, 0), .null, [1153]) := by decide +kernel
theorem hk_7_31 : ax_look 7 31 = some (.aload_n 0, (0, 0, 0), .null, []) := by decide +kernel
theorem hk_7_32 : ax_look 7 32 = some (.getfield 9, (1, 0, 0), .null, [1146]) := by decide +kernel
theorem hk_7_35 : ax_look 7 35 = some (.iload_n 2, (0, 0, 0), .null, []) := by decide +kernel
theorem hk_7_36 : ax_look 7 36 = some (.iaload, (0, 0, 0), .null, []) := by decide +kernel
theorem hk_7_37 : ax_look 7 37 = some (.i2l, (0, 0, 0), .null, []) := by decide +kernel
theorem hk_7_38 : ax_look 7 38 = some (.ladd, (0, 0, 0), .null, []) := by decide +kernel
theorem hk_7_39 : ax_look 7 39 = some (.putfield 19, (1, 2, 0), .null, [1153]) := by decide +kernel
theorem hk_7_42 : ax_look 7 42 = some (.iinc 2 1, (0, 0, 0), .null, []) := by decide +kernel
theorem hk_7_45 : ax_look 7 45 = some (.goto (-38), (0, 0, 0), .null, []) := by decide +kernel
theorem hk_7_48 : ax_look 7 48 = some (.aload_n 0, (0, 0, 0), .null, []) := by decide +kernel
theorem hk_7_49 : ax_look 7 49 = some (.aload_n 1, (0, 0, 0), .null, []) := by decide +kernel
theorem hk_7_50 : ax_look 7 50 = some (.getfield 28, (2, 1, 0), .null, [1132]) := by decide +kernel
theorem hk_7_53 : ax_look 7 53 = some (.l2i, (0, 0, 0), .null, []) := by decide +kernel
theorem hk_7_54 : ax_look 7 54 = some (.putfield 15, (1, 1, 0), .null, [1150]) := by decide +kernel
theorem hk_7_57 : ax_look 7 57 = some (.return_, (0, 0, 0), .null, []) := by decide +kernel
theorem hn_11 : (ax_mm 11).2.2.1 = 5 := by decide +kernel
theorem hr_11 : (ax_mm 11).2.2.2.1 = (some .long) := by decide +kernel
theorem hk_11_0 : ax_look 11 0 = some (.aload_n 0, (0, 0, 0), .null, []) := by decide +kernel
theorem hk_11_1 : ax_look 11 1 = some (.getfield 19, (1, 2, 0), .null, [1153]) := by decide +kernel
theorem hk_11_4 : ax_look 11 4 = some (.lstore_n 2, (0, 0, 0), .null, []) := by decide +kernel
theorem hk_11_5 : ax_look 11 5 = some (.iconst 0, (0, 0, 0), .null, []) := by decide +kernel
theorem hk_11_6 : ax_look 11 6 = some (.istore 4, (0, 0, 0), .null, []) := by decide +kernel
theorem hk_11_8 : ax_look 11 8 = some (.iload 4, (0, 0, 0), .null, []) := by decide +kernel
theorem hk_11_10 : ax_look 11 10 = some (.bipush 24, (0, 0, 0), .null, []) := by decide +kernel
theorem hk_11_12 : ax_look 11 12 = some (.if_icmp .ge 29, (0, 0, 0), .null, []) := by decide +kernel
theorem hk_11_15 : ax_look 11 15 = some (.aload_n 1, (0, 0, 0), .null, []) := by decide +kernel
theorem hk_11_16 : ax_look 11 16 = some (.iload 4, (0, 0, 0), .null, []) := by decide +kernel
theorem hk_11_18 : ax_look 11 18 = some (.invokevirtual 34, (3, 1, 0), .null, [3096, 3098]) := by decide +kernel
theorem hk_11_21 : ax_look 11 21 = some (.ifCond .eq 14, (0, 0, 0), .null, []) := by decide +kernel
theorem hk_11_24 : ax_look 11 24 = some (.lload_n 2, (0, 0, 0), .null, []) := by decide +kernel
theorem hk_11_25 : ax_look 11 25 = some (.aload_n 0, (0, 0, 0), .null, []) := by decide +kernel
theorem hk_11_26 : ax_look 11 26 = some (.getfield 9, (1, 0, 0), .null, [1146]) := by decide +kernel
theorem hk_11_29 : ax_look 11 29 = some (.iload 4, (0, 0, 0), .null, []) := by decide +kernel
theorem hk_11_31 : ax_look 11 31 = some (.iaload, (0, 0, 0), .null, []) := by decide +kernel
theorem hk_11_32 : ax_look 11 32 = some (.i2l, (0, 0, 0), .null, []) := by decide +kernel
theorem hk_11_33 : ax_look 11 33 = some (.lsub, (0, 0, 0), .null, []) := by decide +kernel
theorem hk_11_34 : ax_look 11 34 = some (.lstore_n 2, (0, 0, 0), .null, []) := by decide +kernel
theorem hk_11_35 : ax_look 11 35 = some (.iinc 4 1, (0, 0, 0), .null, []) := by decide +kernel
theorem hk_11_38 : ax_look 11 38 = some (.goto (-30), (0, 0, 0), .null, []) := by decide +kernel
theorem hk_11_41 : ax_look 11 41 = some (.lload_n 2, (0, 0, 0), .null, []) := by decide +kernel
theorem hk_11_42 : ax_look 11 42 = some (.aload_n 0, (0, 0, 0), .null, []) := by decide +kernel
theorem hk_11_43 : ax_look 11 43 = some (.getfield 15, (1, 1, 0), .null, [1150]) := by decide +kernel
theorem hk_11_46 : ax_look 11 46 = some (.i2l, (0, 0, 0), .null, []) := by decide +kernel
theorem hk_11_47 : ax_look 11 47 = some (.lsub, (0, 0, 0), .null, []) := by decide +kernel
theorem hk_11_48 : ax_look 11 48 = some (.lreturn, (0, 0, 0), .null, []) := by decide +kernel
theorem hn_13 : (ax_mm 13).2.2.1 = 6 := by decide +kernel
theorem hr_13 : (ax_mm 13).2.2.2.1 = (some .boolean) := by decide +kernel
theorem hk_13_0 : ax_look 13 0 = some (.aload_n 0, (0, 0, 0), .null, []) := by decide +kernel
theorem hk_13_1 : ax_look 13 1 = some (.aload_n 1, (0, 0, 0), .null, []) := by decide +kernel
theorem hk_13_2 : ax_look 13 2 = some (.invokevirtual 40, (11, 1, 1), .null, [3092, 3094]) := by decide +kernel
theorem hk_13_5 : ax_look 13 5 = some (.lstore_n 2, (0, 0, 0), .null, []) := by decide +kernel
theorem hk_13_6 : ax_look 13 6 = some (.lload_n 2, (0, 0, 0), .null, []) := by decide +kernel
theorem hk_13_7 : ax_look 13 7 = some (.lconst 0, (0, 0, 0), .null, []) := by decide +kernel
theorem hk_13_8 : ax_look 13 8 = some (.lcmp, (0, 0, 0), .null, []) := by decide +kernel
theorem hk_13_9 : ax_look 13 9 = some (.ifCond .ge 14, (0, 0, 0), .null, []) := by decide +kernel
theorem hk_13_12 : ax_look 13 12 = some (.aload_n 1, (0, 0, 0), .null, []) := by decide +kernel
theorem hk_13_13 : ax_look 13 13 = some (.invokevirtual 44, (1, 0, 0), .null, [3100, 3082]) := by decide +kernel
theorem hk_13_16 : ax_look 13 16 = some (.aload_n 1, (0, 0, 0), .null, []) := by decide +kernel
theorem hk_13_17 : ax_look 13 17 = some (.iconst 1, (0, 0, 0), .null, []) := by decide +kernel
theorem hk_13_18 : ax_look 13 18 = some (.putfield 47, (0, 1, 0), .null, [1200]) := by decide +kernel
theorem hk_13_21 : ax_look 13 21 = some (.iconst 0, (0, 0, 0), .null, []) := by decide +kernel
theorem hk_13_22 : ax_look 13 22 = some (.ireturn, (0, 0, 0), .null, []) := by decide +kernel
theorem hk_13_23 : ax_look 13 23 = some (.iconst 0, (0, 0, 0), .null, []) := by decide +kernel
theorem hk_13_24 : ax_look 13 24 = some (.istore 4, (0, 0, 0), .null, []) := by decide +kernel
theorem hk_13_26 : ax_look 13 26 = some (.iconst 0, (0, 0, 0), .null, []) := by decide +kernel
theorem hk_13_27 : ax_look 13 27 = some (.istore 5, (0, 0, 0), .null, []) := by decide +kernel
theorem hk_13_29 : ax_look 13 29 = some (.iload 5, (0, 0, 0), .null, []) := by decide +kernel
theorem hk_13_31 : ax_look 13 31 = some (.bipush 24, (0, 0, 0), .null, []) := by decide +kernel
theorem hk_13_33 : ax_look 13 33 = some (.if_icmp .ge 42, (0, 0, 0), .null, []) := by decide +kernel
theorem hk_13_36 : ax_look 13 36 = some (.aload_n 0, (0, 0, 0), .null, []) := by decide +kernel
theorem hk_13_37 : ax_look 13 37 = some (.getfield 9, (1, 0, 0), .null, [1146]) := by decide +kernel
theorem hk_13_40 : ax_look 13 40 = some (.iload 5, (0, 0, 0), .null, []) := by decide +kernel
theorem hk_13_42 : ax_look 13 42 = some (.iaload, (0, 0, 0), .null, []) := by decide +kernel
theorem hk_13_43 : ax_look 13 43 = some (.i2l, (0, 0, 0), .null, []) := by decide +kernel
theorem hk_13_44 : ax_look 13 44 = some (.lload_n 2, (0, 0, 0), .null, []) := by decide +kernel
theorem hk_13_45 : ax_look 13 45 = some (.lcmp, (0, 0, 0), .null, []) := by decide +kernel
theorem hk_13_46 : ax_look 13 46 = some (.ifCond .le 23, (0, 0, 0), .null, []) := by decide +kernel
theorem hk_13_49 : ax_look 13 49 = some (.aload_n 1, (0, 0, 0), .null, []) := by decide +kernel
theorem hk_13_50 : ax_look 13 50 = some (.iload 5, (0, 0, 0), .null, []) := by decide +kernel
theorem hk_13_52 : ax_look 13 52 = some (.iconst 1, (0, 0, 0), .null, []) := by decide +kernel
theorem hk_13_53 : ax_look 13 53 = some (.ishr, (0, 0, 0), .null, []) := by decide +kernel
theorem hk_13_54 : ax_look 13 54 = some (.invokevirtual 51, (2, 1, 0), .null, [3101, 3103]) := by decide +kernel
theorem hk_13_57 : ax_look 13 57 = some (.ifCond .ne 12, (0, 0, 0), .null, []) := by decide +kernel
theorem hk_13_60 : ax_look 13 60 = some (.aload_n 1, (0, 0, 0), .null, []) := by decide +kernel
theorem hk_13_61 : ax_look 13 61 = some (.iload 5, (0, 0, 0), .null, []) := by decide +kernel
theorem hk_13_63 : ax_look 13 63 = some (.invokevirtual 54, (4, 1, 0), .null, [3105, 3086]) := by decide +kernel
theorem hk_13_66 : ax_look 13 66 = some (.iconst 1, (0, 0, 0), .null, []) := by decide +kernel
theorem hk_13_67 : ax_look 13 67 = some (.istore 4, (0, 0, 0), .null, []) := by decide +kernel
theorem hk_13_69 : ax_look 13 69 = some (.iinc 5 1, (0, 0, 0), .null, []) := by decide +kernel
theorem hk_13_72 : ax_look 13 72 = some (.goto (-43), (0, 0, 0), .null, []) := by decide +kernel
theorem hk_13_75 : ax_look 13 75 = some (.iload 4, (0, 0, 0), .null, []) := by decide +kernel
theorem hk_13_77 : ax_look 13 77 = some (.ireturn, (0, 0, 0), .null, []) := by decide +kernel
theorem hn_14 : (ax_mm 14).2.2.1 = 7 := by decide +kernel
theorem hr_14 : (ax_mm 14).2.2.2.1 = (some .int) := by decide +kernel
theorem hk_14_0 : ax_look 14 0 = some (.aload_n 0, (0, 0, 0), .null, []) := by decide +kernel
theorem hk_14_1 : ax_look 14 1 = some (.getfield 15, (1, 1, 0), .null, [1150]) := by decide +kernel
theorem hk_14_4 : ax_look 14 4 = some (.i2l, (0, 0, 0), .null, []) := by decide +kernel
theorem hk_14_5 : ax_look 14 5 = some (.lstore_n 1, (0, 0, 0), .null, []) := by decide +kernel
theorem hk_14_6 : ax_look 14 6 = some (.iconst 0, (0, 0, 0), .null, []) := by decide +kernel
theorem hk_14_7 : ax_look 14 7 = some (.istore_n 3, (0, 0, 0), .null, []) := by decide +kernel
theorem hk_14_8 : ax_look 14 8 = some (.iconst 0, (0, 0, 0), .null, []) := by decide +kernel
theorem hk_14_9 : ax_look 14 9 = some (.istore 4, (0, 0, 0), .null, []) := by decide +kernel
theorem hk_14_11 : ax_look 14 11 = some (.iconst 0, (0, 0, 0), .null, []) := by decide +kernel
theorem hk_14_12 : ax_look 14 12 = some (.istore 5, (0, 0, 0), .null, []) := by decide +kernel
theorem hk_14_14 : ax_look 14 14 = some (.iload 5, (0, 0, 0), .null, []) := by decide +kernel
theorem hk_14_16 : ax_look 14 16 = some (.bipush 24, (0, 0, 0), .null, []) := by decide +kernel
theorem hk_14_18 : ax_look 14 18 = some (.if_icmp .ge 53, (0, 0, 0), .null, []) := by decide +kernel
theorem hk_14_21 : ax_look 14 21 = some (.lload_n 1, (0, 0, 0), .null, []) := by decide +kernel
theorem hk_14_22 : ax_look 14 22 = some (.lconst 0, (0, 0, 0), .null, []) := by decide +kernel
theorem hk_14_23 : ax_look 14 23 = some (.lcmp, (0, 0, 0), .null, []) := by decide +kernel
theorem hk_14_24 : ax_look 14 24 = some (.ifCond .le 47, (0, 0, 0), .null, []) := by decide +kernel
theorem hk_14_27 : ax_look 14 27 = some (.aload_n 0, (0, 0, 0), .null, []) := by decide +kernel
theorem hk_14_28 : ax_look 14 28 = some (.iload_n 3, (0, 0, 0), .null, []) := by decide +kernel
theorem hk_14_29 : ax_look 14 29 = some (.invokevirtual 58, (15, 1, 1), .null, [3132, 20]) := by decide +kernel
theorem hk_14_32 : ax_look 14 32 = some (.istore 6, (0, 0, 0), .null, []) := by decide +kernel
theorem hk_14_34 : ax_look 14 34 = some (.iload 6, (0, 0, 0), .null, []) := by decide +kernel
theorem hk_14_36 : ax_look 14 36 = some (.ifCond .ge 8, (0, 0, 0), .null, []) := by decide +kernel
theorem hk_14_39 : ax_look 14 39 = some (.iload 4, (0, 0, 0), .null, []) := by decide +kernel
theorem hk_14_41 : ax_look 14 41 = some (.iconst 1, (0, 0, 0), .null, []) := by decide +kernel
theorem hk_14_42 : ax_look 14 42 = some (.iadd, (0, 0, 0), .null, []) := by decide +kernel
theorem hk_14_43 : ax_look 14 43 = some (.ireturn, (0, 0, 0), .null, []) := by decide +kernel
theorem hk_14_44 : ax_look 14 44 = some (.lload_n 1, (0, 0, 0), .null, []) := by decide +kernel
theorem hk_14_45 : ax_look 14 45 = some (.aload_n 0, (0, 0, 0), .null, []) := by decide +kernel
theorem hk_14_46 : ax_look 14 46 = some (.getfield 9, (1, 0, 0), .null, [1146]) := by decide +kernel
theorem hk_14_49 : ax_look 14 49 = some (.iload 6, (0, 0, 0), .null, []) := by decide +kernel
theorem hk_14_51 : ax_look 14 51 = some (.iaload, (0, 0, 0), .null, []) := by decide +kernel
theorem hk_14_52 : ax_look 14 52 = some (.i2l, (0, 0, 0), .null, []) := by decide +kernel
theorem hk_14_53 : ax_look 14 53 = some (.lsub, (0, 0, 0), .null, []) := by decide +kernel
theorem hk_14_54 : ax_look 14 54 = some (.lstore_n 1, (0, 0, 0), .null, []) := by decide +kernel
theorem hk_14_55 : ax_look 14 55 = some (.iload_n 3, (0, 0, 0), .null, []) := by decide +kernel
theorem hk_14_56 : ax_look 14 56 = some (.iconst 1, (0, 0, 0), .null, []) := by decide +kernel
theorem hk_14_57 : ax_look 14 57 = some (.iload 6, (0, 0, 0), .null, []) := by decide +kernel
theorem hk_14_59 : ax_look 14 59 = some (.ishl, (0, 0, 0), .null, []) := by decide +kernel
theorem hk_14_60 : ax_look 14 60 = some (.ior, (0, 0, 0), .null, []) := by decide +kernel
theorem hk_14_61 : ax_look 14 61 = some (.istore_n 3, (0, 0, 0), .null, []) := by decide +kernel
theorem hk_14_62 : ax_look 14 62 = some (.iinc 4 1, (0, 0, 0), .null, []) := by decide +kernel
theorem hk_14_65 : ax_look 14 65 = some (.iinc 5 1, (0, 0, 0), .null, []) := by decide +kernel
theorem hk_14_68 : ax_look 14 68 = some (.goto (-54), (0, 0, 0), .null, []) := by decide +kernel
theorem hk_14_71 : ax_look 14 71 = some (.iload 4, (0, 0, 0), .null, []) := by decide +kernel
theorem hk_14_73 : ax_look 14 73 = some (.ireturn, (0, 0, 0), .null, []) := by decide +kernel
theorem hn_15 : (ax_mm 15).2.2.1 = 5 := by decide +kernel
theorem hr_15 : (ax_mm 15).2.2.2.1 = (some .int) := by decide +kernel
theorem hk_15_0 : ax_look 15 0 = some (.iconst (-1), (0, 0, 0), .null, []) := by decide +kernel
theorem hk_15_1 : ax_look 15 1 = some (.istore_n 2, (0, 0, 0), .null, []) := by decide +kernel
theorem hk_15_2 : ax_look 15 2 = some (.iconst 0, (0, 0, 0), .null, []) := by decide +kernel
theorem hk_15_3 : ax_look 15 3 = some (.istore_n 3, (0, 0, 0), .null, []) := by decide +kernel
theorem hk_15_4 : ax_look 15 4 = some (.iconst 0, (0, 0, 0), .null, []) := by decide +kernel
theorem hk_15_5 : ax_look 15 5 = some (.istore 4, (0, 0, 0), .null, []) := by decide +kernel
theorem hk_15_7 : ax_look 15 7 = some (.iload 4, (0, 0, 0), .null, []) := by decide +kernel
theorem hk_15_9 : ax_look 15 9 = some (.bipush 24, (0, 0, 0), .null, []) := by decide +kernel
theorem hk_15_11 : ax_look 15 11 = some (.if_icmp .ge 40, (0, 0, 0), .null, []) := by decide +kernel
theorem hk_15_14 : ax_look 15 14 = some (.iload_n 1, (0, 0, 0), .null, []) := by decide +kernel
theorem hk_15_15 : ax_look 15 15 = some (.iload 4, (0, 0, 0), .null, []) := by decide +kernel
theorem hk_15_17 : ax_look 15 17 = some (.ishr, (0, 0, 0), .null, []) := by decide +kernel
theorem hk_15_18 : ax_look 15 18 = some (.iconst 1, (0, 0, 0), .null, []) := by decide +kernel
theorem hk_15_19 : ax_look 15 19 = some (.iand, (0, 0, 0), .null, []) := by decide +kernel
theorem hk_15_20 : ax_look 15 20 = some (.ifCond .ne 25, (0, 0, 0), .null, []) := by decide +kernel
theorem hk_15_23 : ax_look 15 23 = some (.aload_n 0, (0, 0, 0), .null, []) := by decide +kernel
theorem hk_15_24 : ax_look 15 24 = some (.getfield 9, (1, 0, 0), .null, [1146]) := by decide +kernel
theorem hk_15_27 : ax_look 15 27 = some (.iload 4, (0, 0, 0), .null, []) := by decide +kernel
theorem hk_15_29 : ax_look 15 29 = some (.iaload, (0, 0, 0), .null, []) := by decide +kernel
theorem hk_15_30 : ax_look 15 30 = some (.iload_n 3, (0, 0, 0), .null, []) := by decide +kernel
theorem hk_15_31 : ax_look 15 31 = some (.if_icmp .le 14, (0, 0, 0), .null, []) := by decide +kernel
theorem hk_15_34 : ax_look 15 34 = some (.iload 4, (0, 0, 0), .null, []) := by decide +kernel
theorem hk_15_36 : ax_look 15 36 = some (.istore_n 2, (0, 0, 0), .null, []) := by decide +kernel
theorem hk_15_37 : ax_look 15 37 = some (.aload_n 0, (0, 0, 0), .null, []) := by decide +kernel
theorem hk_15_38 : ax_look 15 38 = some (.getfield 9, (1, 0, 0), .null, [1146]) := by decide +kernel
theorem hk_15_41 : ax_look 15 41 = some (.iload 4, (0, 0, 0), .null, []) := by decide +kernel
theorem hk_15_43 : ax_look 15 43 = some (.iaload, (0, 0, 0), .null, []) := by decide +kernel
theorem hk_15_44 : ax_look 15 44 = some (.istore_n 3, (0, 0, 0), .null, []) := by decide +kernel
theorem hk_15_45 : ax_look 15 45 = some (.iinc 4 1, (0, 0, 0), .null, []) := by decide +kernel
theorem hk_15_48 : ax_look 15 48 = some (.goto (-41), (0, 0, 0), .null, []) := by decide +kernel
theorem hk_15_51 : ax_look 15 51 = some (.iload_n 2, (0, 0, 0), .null, []) := by decide +kernel
theorem hk_15_52 : ax_look 15 52 = some (.ireturn, (0, 0, 0), .null, []) := by decide +kernel
theorem hn_20 : (ax_mm 20).2.2.1 = 1 := by decide +kernel
theorem hr_20 : (ax_mm 20).2.2.2.1 = none := by decide +kernel
theorem hk_20_0 : ax_look 20 0 = some (.aload_n 0, (0, 0, 0), .null, []) := by decide +kernel
theorem hk_20_1 : ax_look 20 1 = some (.getfield 9, (2, 0, 0), .null, [1129]) := by decide +kernel
theorem hk_20_4 : ax_look 20 4 = some (.lconst 0, (0, 0, 0), .null, []) := by decide +kernel
theorem hk_20_5 : ax_look 20 5 = some (.invokestatic 19, (254, 2, 0), .null, [2179]) := by decide +kernel
theorem hk_20_8 : ax_look 20 8 = some (.aload_n 0, (0, 0, 0), .null, []) := by decide +kernel
theorem hk_20_9 : ax_look 20 9 = some (.lconst 0, (0, 0, 0), .null, []) := by decide +kernel
theorem hk_20_10 : ax_look 20 10 = some (.putfield 15, (2, 1, 0), .null, [1131]) := by decide +kernel
theorem hk_20_13 : ax_look 20 13 = some (.return_, (0, 0, 0), .null, []) := by decide +kernel
theorem hn_21 : (ax_mm 21).2.2.1 = 4 := by decide +kernel
theorem hr_21 : (ax_mm 21).2.2.2.1 = none := by decide +kernel
theorem hk_21_0 : ax_look 21 0 = some (.lload_n 2, (0, 0, 0), .null, []) := by decide +kernel
theorem hk_21_1 : ax_look 21 1 = some (.lconst 0, (0, 0, 0), .null, []) := by decide +kernel
theorem hk_21_2 : ax_look 21 2 = some (.lcmp, (0, 0, 0), .null, []) := by decide +kernel
theorem hk_21_3 : ax_look 21 3 = some (.ifCond .ge 28, (0, 0, 0), .null, []) := by decide +kernel
theorem hk_21_6 : ax_look 21 6 = some (.aload_n 0, (0, 0, 0), .null, []) := by decide +kernel
theorem hk_21_7 : ax_look 21 7 = some (.getfield 9, (2, 0, 0), .null, [1129]) := by decide +kernel
theorem hk_21_10 : ax_look 21 10 = some (.iload_n 1, (0, 0, 0), .null, []) := by decide +kernel
theorem hk_21_11 : ax_look 21 11 = some (.iconst 1, (0, 0, 0), .null, []) := by decide +kernel
theorem hk_21_12 : ax_look 21 12 = some (.ixor, (0, 0, 0), .null, []) := by decide +kernel
theorem hk_21_13 : ax_look 21 13 = some (.dup2, (0, 0, 0), .null, []) := by decide +kernel
theorem hk_21_14 : ax_look 21 14 = some (.laload, (0, 0, 0), .null, []) := by decide +kernel
theorem hk_21_15 : ax_look 21 15 = some (.lload_n 2, (0, 0, 0), .null, []) := by decide +kernel
theorem hk_21_16 : ax_look 21 16 = some (.lsub, (0, 0, 0), .null, []) := by decide +kernel
theorem hk_21_17 : ax_look 21 17 = some (.lastore, (0, 0, 0), .null, []) := by decide +kernel
theorem hk_21_18 : ax_look 21 18 = some (.aload_n 0, (0, 0, 0), .null, []) := by decide +kernel
theorem hk_21_19 : ax_look 21 19 = some (.dup, (0, 0, 0), .null, []) := by decide +kernel
theorem hk_21_20 : ax_look 21 20 = some (.getfield 15, (2, 1, 0), .null, [1131]) := by decide +kernel
theorem hk_21_23 : ax_look 21 23 = some (.lload_n 2, (0, 0, 0), .null, []) := by decide +kernel
theorem hk_21_24 : ax_look 21 24 = some (.lsub, (0, 0, 0), .null, []) := by decide +kernel
theorem hk_21_25 : ax_look 21 25 = some (.putfield 15, (2, 1, 0), .null, [1131]) := by decide +kernel
theorem hk_21_28 : ax_look 21 28 = some (.goto 13, (0, 0, 0), .null, []) := by decide +kernel
theorem hk_21_31 : ax_look 21 31 = some (.aload_n 0, (0, 0, 0), .null, []) := by decide +kernel
theorem hk_21_32 : ax_look 21 32 = some (.getfield 9, (2, 0, 0), .null, [1129]) := by decide +kernel
theorem hk_21_35 : ax_look 21 35 = some (.iload_n 1, (0, 0, 0), .null, []) := by decide +kernel
theorem hk_21_36 : ax_look 21 36 = some (.dup2, (0, 0, 0), .null, []) := by decide +kernel
theorem hk_21_37 : ax_look 21 37 = some (.laload, (0, 0, 0), .null, []) := by decide +kernel
theorem hk_21_38 : ax_look 21 38 = some (.lload_n 2, (0, 0, 0), .null, []) := by decide +kernel
theorem hk_21_39 : ax_look 21 39 = some (.ladd, (0, 0, 0), .null, []) := by decide +kernel
theorem hk_21_40 : ax_look 21 40 = some (.lastore, (0, 0, 0), .null, []) := by decide +kernel
theorem hk_21_41 : ax_look 21 41 = some (.return_, (0, 0, 0), .null, []) := by decide +kernel
theorem hn_22 : (ax_mm 22).2.2.1 = 5 := by decide +kernel
theorem hr_22 : (ax_mm 22).2.2.2.1 = none := by decide +kernel
theorem hk_22_0 : ax_look 22 0 = some (.iconst 0, (0, 0, 0), .null, []) := by decide +kernel
theorem hk_22_1 : ax_look 22 1 = some (.istore 4, (0, 0, 0), .null, []) := by decide +kernel
theorem hk_22_3 : ax_look 22 3 = some (.iload 4, (0, 0, 0), .null, []) := by decide +kernel
theorem hk_22_5 : ax_look 22 5 = some (.bipush 24, (0, 0, 0), .null, []) := by decide +kernel
theorem hk_22_7 : ax_look 22 7 = some (.if_icmp .ge 29, (0, 0, 0), .null, []) := by decide +kernel
theorem hk_22_10 : ax_look 22 10 = some (.aload_n 0, (0, 0, 0), .null, []) := by decide +kernel
theorem hk_22_11 : ax_look 22 11 = some (.getfield 9, (2, 0, 0), .null, [1129]) := by decide +kernel
theorem hk_22_14 : ax_look 22 14 = some (.iload 4, (0, 0, 0), .null, []) := by decide +kernel
theorem hk_22_16 : ax_look 22 16 = some (.dup2, (0, 0, 0), .null, []) := by decide +kernel
theorem hk_22_17 : ax_look 22 17 = some (.laload, (0, 0, 0), .null, []) := by decide +kernel
theorem hk_22_18 : ax_look 22 18 = some (.aload_n 1, (0, 0, 0), .null, []) := by decide +kernel
theorem hk_22_19 : ax_look 22 19 = some (.getfield 25, (1, 0, 0), .null, [1147]) := by decide +kernel
theorem hk_22_22 : ax_look 22 22 = some (.iload 4, (0, 0, 0), .null, []) := by decide +kernel
theorem hk_22_24 : ax_look 22 24 = some (.iaload, (0, 0, 0), .null, []) := by decide +kernel
theorem hk_22_25 : ax_look 22 25 = some (.i2l, (0, 0, 0), .null, []) := by decide +kernel
theorem hk_22_26 : ax_look 22 26 = some (.lload_n 2, (0, 0, 0), .null, []) := by decide +kernel
theorem hk_22_27 : ax_look 22 27 = some (.lmul, (0, 0, 0), .null, []) := by decide +kernel
theorem hk_22_28 : ax_look 22 28 = some (.ladd, (0, 0, 0), .null, []) := by decide +kernel
theorem hk_22_29 : ax_look 22 29 = some (.lastore, (0, 0, 0), .null, []) := by decide +kernel
theorem hk_22_30 : ax_look 22 30 = some (.iinc 4 1, (0, 0, 0), .null, []) := by decide +kernel
theorem hk_22_33 : ax_look 22 33 = some (.goto (-30), (0, 0, 0), .null, []) := by decide +kernel
theorem hk_22_36 : ax_look 22 36 = some (.aload_n 0, (0, 0, 0), .null, []) := by decide +kernel
theorem hk_22_37 : ax_look 22 37 = some (.dup, (0, 0, 0), .null, []) := by decide +kernel
theorem hk_22_38 : ax_look 22 38 = some (.getfield 15, (2, 1, 0), .null, [1131]) := by decide +kernel
theorem hk_22_41 : ax_look 22 41 = some (.aload_n 1, (0, 0, 0), .null, []) := by decide +kernel
theorem hk_22_42 : ax_look 22 42 = some (.getfield 30, (1, 1, 0), .null, [1151]) := by decide +kernel
theorem hk_22_45 : ax_look 22 45 = some (.i2l, (0, 0, 0), .null, []) := by decide +kernel
theorem hk_22_46 : ax_look 22 46 = some (.lload_n 2, (0, 0, 0), .null, []) := by decide +kernel
theorem hk_22_47 : ax_look 22 47 = some (.lmul, (0, 0, 0), .null, []) := by decide +kernel
theorem hk_22_48 : ax_look 22 48 = some (.ladd, (0, 0, 0), .null, []) := by decide +kernel
theorem hk_22_49 : ax_look 22 49 = some (.putfield 15, (2, 1, 0), .null, [1131]) := by decide +kernel
theorem hk_22_52 : ax_look 22 52 = some (.return_, (0, 0, 0), .null, []) := by decide +kernel
theorem hn_23 : (ax_mm 23).2.2.1 = 6 := by decide +kernel
theorem hr_23 : (ax_mm 23).2.2.2.1 = none := by decide +kernel
theorem hk_23_0 : ax_look 23 0 = some (.lconst 1, (0, 0, 0), .null, []) := by decide +kernel
theorem hk_23_1 : ax_look 23 1 = some (.lload_n 1, (0, 0, 0), .null, []) := by decide +kernel
theorem hk_23_2 : ax_look 23 2 = some (.invokestatic 33, (701, 2, 0), .null, [2195]) := by decide +kernel
theorem hk_23_5 : ax_look 23 5 = some (.lstore_n 3, (0, 0, 0), .null, []) := by decide +kernel
theorem hk_23_6 : ax_look 23 6 = some (.iconst 0, (0, 0, 0), .null, []) := by decide +kernel
theorem hk_23_7 : ax_look 23 7 = some (.istore 5, (0, 0, 0), .null, []) := by decide +kernel
theorem hk_23_9 : ax_look 23 9 = some (.iload 5, (0, 0, 0), .null, []) := by decide +kernel
theorem hk_23_11 : ax_look 23 11 = some (.bipush 24, (0, 0, 0), .null, []) := by decide +kernel
theorem hk_23_13 : ax_look 23 13 = some (.if_icmp .ge 29, (0, 0, 0), .null, []) := by decide +kernel
theorem hk_23_16 : ax_look 23 16 = some (.aload_n 0, (0, 0, 0), .null, []) := by decide +kernel
theorem hk_23_17 : ax_look 23 17 = some (.getfield 9, (2, 0, 0), .null, [1129]) := by decide +kernel
theorem hk_23_20 : ax_look 23 20 = some (.iload 5, (0, 0, 0), .null, []) := by decide +kernel
theorem hk_23_22 : ax_look 23 22 = some (.aload_n 0, (0, 0, 0), .null, []) := by decide +kernel
theorem hk_23_23 : ax_look 23 23 = some (.getfield 9, (2, 0, 0), .null, [1129]) := by decide +kernel
theorem hk_23_26 : ax_look 23 26 = some (.iload 5, (0, 0, 0), .null, []) := by decide +kernel
theorem hk_23_28 : ax_look 23 28 = some (.laload, (0, 0, 0), .null, []) := by decide +kernel
theorem hk_23_29 : ax_look 23 29 = some (.lload_n 3, (0, 0, 0), .null, []) := by decide +kernel
theorem hk_23_30 : ax_look 23 30 = some (.ladd, (0, 0, 0), .null, []) := by decide +kernel
theorem hk_23_31 : ax_look 23 31 = some (.lconst 1, (0, 0, 0), .null, []) := by decide +kernel
theorem hk_23_32 : ax_look 23 32 = some (.lsub, (0, 0, 0), .null, []) := by decide +kernel
theorem hk_23_33 : ax_look 23 33 = some (.lload_n 3, (0, 0, 0), .null, []) := by decide +kernel
theorem hk_23_34 : ax_look 23 34 = some (.ldiv, (0, 0, 0), .null, []) := by decide +kernel
theorem hk_23_35 : ax_look 23 35 = some (.lastore, (0, 0, 0), .null, []) := by decide +kernel
theorem hk_23_36 : ax_look 23 36 = some (.iinc 5 1, (0, 0, 0), .null, []) := by decide +kernel
theorem hk_23_39 : ax_look 23 39 = some (.goto (-30), (0, 0, 0), .null, []) := by decide +kernel
theorem hk_23_42 : ax_look 23 42 = some (.aload_n 0, (0, 0, 0), .null, []) := by decide +kernel
theorem hk_23_43 : ax_look 23 43 = some (.aload_n 0, (0, 0, 0), .null, []) := by decide +kernel
theorem hk_23_44 : ax_look 23 44 = some (.getfield 15, (2, 1, 0), .null, [1131]) := by decide +kernel
theorem hk_23_47 : ax_look 23 47 = some (.lload_n 3, (0, 0, 0), .null, []) := by decide +kernel
theorem hk_23_48 : ax_look 23 48 = some (.ladd, (0, 0, 0), .null, []) := by decide +kernel
theorem hk_23_49 : ax_look 23 49 = some (.lconst 1, (0, 0, 0), .null, []) := by decide +kernel
theorem hk_23_50 : ax_look 23 50 = some (.lsub, (0, 0, 0), .null, []) := by decide +kernel
theorem hk_23_51 : ax_look 23 51 = some (.lload_n 3, (0, 0, 0), .null, []) := by decide +kernel
theorem hk_23_52 : ax_look 23 52 = some (.ldiv, (0, 0, 0), .null, []) := by decide +kernel
theorem hk_23_53 : ax_look 23 53 = some (.putfield 15, (2, 1, 0), .null, [1131]) := by decide +kernel
theorem hk_23_56 : ax_look 23 56 = some (.return_, (0, 0, 0), .null, []) := by decide +kernel
theorem hn_24 : (ax_mm 24).2.2.1 = 2 := by decide +kernel
theorem hr_24 : (ax_mm 24).2.2.2.1 = none := by decide +kernel
theorem hk_24_0 : ax_look 24 0 = some (.iconst 0, (0, 0, 0), .null, []) := by decide +kernel
theorem hk_24_1 : ax_look 24 1 = some (.istore_n 1, (0, 0, 0), .null, []) := by decide +kernel
theorem hk_24_2 : ax_look 24 2 = some (.iload_n 1, (0, 0, 0), .null, []) := by decide +kernel
theorem hk_24_3 : ax_look 24 3 = some (.bipush 24, (0, 0, 0), .null, []) := by decide +kernel
theorem hk_24_5 : ax_look 24 5 = some (.if_icmp .ge 28, (0, 0, 0), .null, []) := by decide +kernel
theorem hk_24_8 : ax_look 24 8 = some (.aload_n 0, (0, 0, 0), .null, []) := by decide +kernel
theorem hk_24_9 : ax_look 24 9 = some (.getfield 9, (2, 0, 0), .null, [1129]) := by decide +kernel
theorem hk_24_12 : ax_look 24 12 = some (.iload_n 1, (0, 0, 0), .null, []) := by decide +kernel
theorem hk_24_13 : ax_look 24 13 = some (.aload_n 0, (0, 0, 0), .null, []) := by decide +kernel
theorem hk_24_14 : ax_look 24 14 = some (.getfield 9, (2, 0, 0), .null, [1129]) := by decide +kernel
theorem hk_24_17 : ax_look 24 17 = some (.iload_n 1, (0, 0, 0), .null, []) := by decide +kernel
theorem hk_24_18 : ax_look 24 18 = some (.laload, (0, 0, 0), .null, []) := by decide +kernel
theorem hk_24_19 : ax_look 24 19 = some (.aload_n 0, (0, 0, 0), .null, []) := by decide +kernel
theorem hk_24_20 : ax_look 24 20 = some (.getfield 15, (2, 1, 0), .null, [1131]) := by decide +kernel
theorem hk_24_23 : ax_look 24 23 = some (.invokestatic 39, (700, 2, 0), .null, [2192]) := by decide +kernel
theorem hk_24_26 : ax_look 24 26 = some (.lastore, (0, 0, 0), .null, []) := by decide +kernel
theorem hk_24_27 : ax_look 24 27 = some (.iinc 1 1, (0, 0, 0), .null, []) := by decide +kernel
theorem hk_24_30 : ax_look 24 30 = some (.goto (-28), (0, 0, 0), .null, []) := by decide +kernel
theorem hk_24_33 : ax_look 24 33 = some (.return_, (0, 0, 0), .null, []) := by decide +kernel
theorem hn_26 : (ax_mm 26).2.2.1 = 4 := by decide +kernel
theorem hr_26 : (ax_mm 26).2.2.2.1 = none := by decide +kernel
theorem hk_26_0 : ax_look 26 0 = some (.iconst 0, (0, 0, 0), .null, []) := by decide +kernel
theorem hk_26_1 : ax_look 26 1 = some (.istore_n 1, (0, 0, 0), .null, []) := by decide +kernel
theorem hk_26_2 : ax_look 26 2 = some (.iload_n 1, (0, 0, 0), .null, []) := by decide +kernel
theorem hk_26_3 : ax_look 26 3 = some (.bipush 24, (0, 0, 0), .null, []) := by decide +kernel
theorem hk_26_5 : ax_look 26 5 = some (.if_icmp .ge 63, (0, 0, 0), .null, []) := by decide +kernel
theorem hk_26_8 : ax_look 26 8 = some (.aload_n 0, (0, 0, 0), .null, []) := by decide +kernel
theorem hk_26_9 : ax_look 26 9 = some (.getfield 9, (2, 0, 0), .null, [1129]) := by decide +kernel
theorem hk_26_12 : ax_look 26 12 = some (.iload_n 1, (0, 0, 0), .null, []) := by decide +kernel
theorem hk_26_13 : ax_look 26 13 = some (.laload, (0, 0, 0), .null, []) := by decide +kernel
theorem hk_26_14 : ax_look 26 14 = some (.aload_n 0, (0, 0, 0), .null, []) := by decide +kernel
theorem hk_26_15 : ax_look 26 15 = some (.getfield 9, (2, 0, 0), .null, [1129]) := by decide +kernel
theorem hk_26_18 : ax_look 26 18 = some (.iload_n 1, (0, 0, 0), .null, []) := by decide +kernel
theorem hk_26_19 : ax_look 26 19 = some (.iconst 1, (0, 0, 0), .null, []) := by decide +kernel
theorem hk_26_20 : ax_look 26 20 = some (.iadd, (0, 0, 0), .null, []) := by decide +kernel
theorem hk_26_21 : ax_look 26 21 = some (.laload, (0, 0, 0), .null, []) := by decide +kernel
theorem hk_26_22 : ax_look 26 22 = some (.invokestatic 39, (700, 2, 0), .null, [2192]) := by decide +kernel
theorem hk_26_25 : ax_look 26 25 = some (.lstore_n 2, (0, 0, 0), .null, []) := by decide +kernel
theorem hk_26_26 : ax_look 26 26 = some (.aload_n 0, (0, 0, 0), .null, []) := by decide +kernel
theorem hk_26_27 : ax_look 26 27 = some (.getfield 9, (2, 0, 0), .null, [1129]) := by decide +kernel
theorem hk_26_30 : ax_look 26 30 = some (.iload_n 1, (0, 0, 0), .null, []) := by decide +kernel
theorem hk_26_31 : ax_look 26 31 = some (.dup2, (0, 0, 0), .null, []) := by decide +kernel
theorem hk_26_32 : ax_look 26 32 = some (.laload, (0, 0, 0), .null, []) := by decide +kernel
theorem hk_26_33 : ax_look 26 33 = some (.lload_n 2, (0, 0, 0), .null, []) := by decide +kernel
theorem hk_26_34 : ax_look 26 34 = some (.lsub, (0, 0, 0), .null, []) := by decide +kernel
theorem hk_26_35 : ax_look 26 35 = some (.lastore, (0, 0, 0), .null, []) := by decide +kernel
theorem hk_26_36 : ax_look 26 36 = some (.aload_n 0, (0, 0, 0), .null, []) := by decide +kernel
theorem hk_26_37 : ax_look 26 37 = some (.getfield 9, (2, 0, 0), .null, [1129]) := by decide +kernel
theorem hk_26_40 : ax_look 26 40 = some (.iload_n 1, (0, 0, 0), .null, []) := by decide +kernel
theorem hk_26_41 : ax_look 26 41 = some (.iconst 1, (0, 0, 0), .null, []) := by decide +kernel
theorem hk_26_42 : ax_look 26 42 = some (.iadd, (0, 0, 0), .null, []) := by decide +kernel
theorem hk_26_43 : ax_look 26 43 = some (.dup2, (0, 0, 0), .null, []) := by decide +kernel
theorem hk_26_44 : ax_look 26 44 = some (.laload, (0, 0, 0), .null, []) := by decide +kernel
theorem hk_26_45 : ax_look 26 45 = some (.lload_n 2, (0, 0, 0), .null, []) := by decide +kernel
theorem hk_26_46 : ax_look 26 46 = some (.lsub, (0, 0, 0), .null, []) := by decide +kernel
theorem hk_26_47 : ax_look 26 47 = some (.lastore, (0, 0, 0), .null, []) := by decide +kernel
theorem hk_26_48 : ax_look 26 48 = some (.aload_n 0, (0, 0, 0), .null, []) := by decide +kernel
theorem hk_26_49 : ax_look 26 49 = some (.lconst 0, (0, 0, 0), .null, []) := by decide +kernel
theorem hk_26_50 : ax_look 26 50 = some (.aload_n 0, (0, 0, 0), .null, []) := by decide +kernel
theorem hk_26_51 : ax_look 26 51 = some (.getfield 15, (2, 1, 0), .null, [1131]) := by decide +kernel
theorem hk_26_54 : ax_look 26 54 = some (.lload_n 2, (0, 0, 0), .null, []) := by decide +kernel
theorem hk_26_55 : ax_look 26 55 = some (.lsub, (0, 0, 0), .null, []) := by decide +kernel
theorem hk_26_56 : ax_look 26 56 = some (.invokestatic 33, (701, 2, 0), .null, [2195]) := by decide +kernel
theorem hk_26_59 : ax_look 26 59 = some (.putfield 15, (2, 1, 0), .null, [1131]) := by decide +kernel
theorem hk_26_62 : ax_look 26 62 = some (.iinc 1 2, (0, 0, 0), .null, []) := by decide +kernel
theorem hk_26_65 : ax_look 26 65 = some (.goto (-63), (0, 0, 0), .null, []) := by decide +kernel
theorem hk_26_68 : ax_look 26 68 = some (.return_, (0, 0, 0), .null, []) := by decide +kernel
theorem hn_27 : (ax_mm 27).2.2.1 = 2 := by decide +kernel
theorem hr_27 : (ax_mm 27).2.2.2.1 = (some .boolean) := by decide +kernel
theorem hk_27_0 : ax_look 27 0 = some (.iconst 0, (0, 0, 0), .null, []) := by decide +kernel
theorem hk_27_1 : ax_look 27 1 = some (.istore_n 1, (0, 0, 0), .null, []) := by decide +kernel
theorem hk_27_2 : ax_look 27 2 = some (.iload_n 1, (0, 0, 0), .null, []) := by decide +kernel
theorem hk_27_3 : ax_look 27 3 = some (.bipush 24, (0, 0, 0), .null, []) := by decide +kernel
theorem hk_27_5 : ax_look 27 5 = some (.if_icmp .ge 24, (0, 0, 0), .null, []) := by decide +kernel
theorem hk_27_8 : ax_look 27 8 = some (.aload_n 0, (0, 0, 0), .null, []) := by decide +kernel
theorem hk_27_9 : ax_look 27 9 = some (.getfield 9, (2, 0, 0), .null, [1129]) := by decide +kernel
theorem hk_27_12 : ax_look 27 12 = some (.iload_n 1, (0, 0, 0), .null, []) := by decide +kernel
theorem hk_27_13 : ax_look 27 13 = some (.laload, (0, 0, 0), .null, []) := by decide +kernel
theorem hk_27_14 : ax_look 27 14 = some (.ldc2_w 42, (0, 0, 0), .long (1000000000), [3051]) := by decide +kernel
theorem hk_27_17 : ax_look 27 17 = some (.lcmp, (0, 0, 0), .null, []) := by decide +kernel
theorem hk_27_18 : ax_look 27 18 = some (.ifCond .le 5, (0, 0, 0), .null, []) := by decide +kernel
theorem hk_27_21 : ax_look 27 21 = some (.iconst 0, (0, 0, 0), .null, []) := by decide +kernel
theorem hk_27_22 : ax_look 27 22 = some (.ireturn, (0, 0, 0), .null, []) := by decide +kernel
theorem hk_27_23 : ax_look 27 23 = some (.iinc 1 1, (0, 0, 0), .null, []) := by decide +kernel
theorem hk_27_26 : ax_look 27 26 = some (.goto (-24), (0, 0, 0), .null, []) := by decide +kernel
theorem hk_27_29 : ax_look 27 29 = some (.aload_n 0, (0, 0, 0), .null, []) := by decide +kernel
theorem hk_27_30 : ax_look 27 30 = some (.getfield 15, (2, 1, 0), .null, [1131]) := by decide +kernel
theorem hk_27_33 : ax_look 27 33 = some (.ldc2_w 42, (0, 0, 0), .long (1000000000), [3051]) := by decide +kernel
theorem hk_27_36 : ax_look 27 36 = some (.lcmp, (0, 0, 0), .null, []) := by decide +kernel
theorem hk_27_37 : ax_look 27 37 = some (.ifCond .gt 7, (0, 0, 0), .null, []) := by decide +kernel
theorem hk_27_40 : ax_look 27 40 = some (.iconst 1, (0, 0, 0), .null, []) := by decide +kernel
theorem hk_27_41 : ax_look 27 41 = some (.goto 4, (0, 0, 0), .null, []) := by decide +kernel
theorem hk_27_44 : ax_look 27 44 = some (.iconst 0, (0, 0, 0), .null, []) := by decide +kernel
theorem hk_27_45 : ax_look 27 45 = some (.ireturn, (0, 0, 0), .null, []) := by decide +kernel
theorem hn_29 : (ax_mm 29).2.2.1 = 2 := by decide +kernel
theorem hr_29 : (ax_mm 29).2.2.2.1 = none := by decide +kernel
theorem hk_29_0 : ax_look 29 0 = some (.aload_n 0, (0, 0, 0), .null, []) := by decide +kernel
theorem hk_29_1 : ax_look 29 1 = some (.getfield 15, (3, 1, 0), .null, [1182]) := by decide +kernel
theorem hk_29_4 : ax_look 29 4 = some (.bipush 24, (0, 0, 0), .null, []) := by decide +kernel
theorem hk_29_6 : ax_look 29 6 = some (.if_icmp .ge 23, (0, 0, 0), .null, []) := by decide +kernel
theorem hk_29_9 : ax_look 29 9 = some (.aload_n 0, (0, 0, 0), .null, []) := by decide +kernel
theorem hk_29_10 : ax_look 29 10 = some (.getfield 9, (3, 0, 0), .null, [1180]) := by decide +kernel
theorem hk_29_13 : ax_look 29 13 = some (.aload_n 0, (0, 0, 0), .null, []) := by decide +kernel
theorem hk_29_14 : ax_look 29 14 = some (.getfield 15, (3, 1, 0), .null, [1182]) := by decide +kernel
theorem hk_29_17 : ax_look 29 17 = some (.iload_n 1, (0, 0, 0), .null, []) := by decide +kernel
theorem hk_29_18 : ax_look 29 18 = some (.iastore, (0, 0, 0), .null, []) := by decide +kernel
theorem hk_29_19 : ax_look 29 19 = some (.aload_n 0, (0, 0, 0), .null, []) := by decide +kernel
theorem hk_29_20 : ax_look 29 20 = some (.dup, (0, 0, 0), .null, []) := by decide +kernel
theorem hk_29_21 : ax_look 29 21 = some (.getfield 15, (3, 1, 0), .null, [1182]) := by decide +kernel
theorem hk_29_24 : ax_look 29 24 = some (.iconst 1, (0, 0, 0), .null, []) := by decide +kernel
theorem hk_29_25 : ax_look 29 25 = some (.iadd, (0, 0, 0), .null, []) := by decide +kernel
theorem hk_29_26 : ax_look 29 26 = some (.putfield 15, (3, 1, 0), .null, [1182]) := by decide +kernel
theorem hk_29_29 : ax_look 29 29 = some (.return_, (0, 0, 0), .null, []) := by decide +kernel
theorem hn_32 : (ax_mm 32).2.2.1 = 3 := by decide +kernel
theorem hr_32 : (ax_mm 32).2.2.2.1 = none := by decide +kernel
theorem hk_32_0 : ax_look 32 0 = some (.aload_n 0, (0, 0, 0), .null, []) := by decide +kernel
theorem hk_32_1 : ax_look 32 1 = some (.iconst 0, (0, 0, 0), .null, []) := by decide +kernel
theorem hk_32_2 : ax_look 32 2 = some (.putfield 15, (3, 1, 0), .null, [1182]) := by decide +kernel
theorem hk_32_5 : ax_look 32 5 = some (.iconst 0, (0, 0, 0), .null, []) := by decide +kernel
theorem hk_32_6 : ax_look 32 6 = some (.istore_n 2, (0, 0, 0), .null, []) := by decide +kernel
theorem hk_32_7 : ax_look 32 7 = some (.iload_n 2, (0, 0, 0), .null, []) := by decide +kernel
theorem hk_32_8 : ax_look 32 8 = some (.bipush 24, (0, 0, 0), .null, []) := by decide +kernel
theorem hk_32_10 : ax_look 32 10 = some (.if_icmp .ge 23, (0, 0, 0), .null, []) := by decide +kernel
theorem hk_32_13 : ax_look 32 13 = some (.iload_n 1, (0, 0, 0), .null, []) := by decide +kernel
theorem hk_32_14 : ax_look 32 14 = some (.iload_n 2, (0, 0, 0), .null, []) := by decide +kernel
theorem hk_32_15 : ax_look 32 15 = some (.ishr, (0, 0, 0), .null, []) := by decide +kernel
theorem hk_32_16 : ax_look 32 16 = some (.iconst 1, (0, 0, 0), .null, []) := by decide +kernel
theorem hk_32_17 : ax_look 32 17 = some (.iand, (0, 0, 0), .null, []) := by decide +kernel
theorem hk_32_18 : ax_look 32 18 = some (.iconst 1, (0, 0, 0), .null, []) := by decide +kernel
theorem hk_32_19 : ax_look 32 19 = some (.if_icmp .ne 8, (0, 0, 0), .null, []) := by decide +kernel
theorem hk_32_22 : ax_look 32 22 = some (.aload_n 0, (0, 0, 0), .null, []) := by decide +kernel
theorem hk_32_23 : ax_look 32 23 = some (.iload_n 2, (0, 0, 0), .null, []) := by decide +kernel
theorem hk_32_24 : ax_look 32 24 = some (.invokevirtual 25, (29, 1, 3), .null, [5043, 5045]) := by decide +kernel
theorem hk_32_27 : ax_look 32 27 = some (.iinc 2 1, (0, 0, 0), .null, []) := by decide +kernel
theorem hk_32_30 : ax_look 32 30 = some (.goto (-23), (0, 0, 0), .null, []) := by decide +kernel
theorem hk_32_33 : ax_look 32 33 = some (.return_, (0, 0, 0), .null, []) := by decide +kernel
theorem hn_33 : (ax_mm 33).2.2.1 = 4 := by decide +kernel
theorem hr_33 : (ax_mm 33).2.2.2.1 = (some .int) := by decide +kernel
theorem hk_33_0 : ax_look 33 0 = some (.iconst 0, (0, 0, 0), .null, []) := by decide +kernel
theorem hk_33_1 : ax_look 33 1 = some (.istore_n 2, (0, 0, 0), .null, []) := by decide +kernel
theorem hk_33_2 : ax_look 33 2 = some (.iconst 0, (0, 0, 0), .null, []) := by decide +kernel
theorem hk_33_3 : ax_look 33 3 = some (.istore_n 3, (0, 0, 0), .null, []) := by decide +kernel
theorem hk_33_4 : ax_look 33 4 = some (.iload_n 3, (0, 0, 0), .null, []) := by decide +kernel
theorem hk_33_5 : ax_look 33 5 = some (.aload_n 0, (0, 0, 0), .null, []) := by decide +kernel
theorem hk_33_6 : ax_look 33 6 = some (.getfield 15, (3, 1, 0), .null, [1182]) := by decide +kernel
theorem hk_33_9 : ax_look 33 9 = some (.if_icmp .ge 34, (0, 0, 0), .null, []) := by decide +kernel
theorem hk_33_12 : ax_look 33 12 = some (.aload_n 0, (0, 0, 0), .null, []) := by decide +kernel
theorem hk_33_13 : ax_look 33 13 = some (.getfield 9, (3, 0, 0), .null, [1180]) := by decide +kernel
theorem hk_33_16 : ax_look 33 16 = some (.iload_n 3, (0, 0, 0), .null, []) := by decide +kernel
theorem hk_33_17 : ax_look 33 17 = some (.iaload, (0, 0, 0), .null, []) := by decide +kernel
theorem hk_33_18 : ax_look 33 18 = some (.iconst 1, (0, 0, 0), .null, []) := by decide +kernel
theorem hk_33_19 : ax_look 33 19 = some (.iand, (0, 0, 0), .null, []) := by decide +kernel
theorem hk_33_20 : ax_look 33 20 = some (.iload_n 1, (0, 0, 0), .null, []) := by decide +kernel
theorem hk_33_21 : ax_look 33 21 = some (.if_icmp .ne 16, (0, 0, 0), .null, []) := by decide +kernel
theorem hk_33_24 : ax_look 33 24 = some (.iload_n 2, (0, 0, 0), .null, []) := by decide +kernel
theorem hk_33_25 : ax_look 33 25 = some (.iconst 1, (0, 0, 0), .null, []) := by decide +kernel
theorem hk_33_26 : ax_look 33 26 = some (.aload_n 0, (0, 0, 0), .null, []) := by decide +kernel
theorem hk_33_27 : ax_look 33 27 = some (.getfield 9, (3, 0, 0), .null, [1180]) := by decide +kernel
theorem hk_33_30 : ax_look 33 30 = some (.iload_n 3, (0, 0, 0), .null, []) := by decide +kernel
theorem hk_33_31 : ax_look 33 31 = some (.iaload, (0, 0, 0), .null, []) := by decide +kernel
theorem hk_33_32 : ax_look 33 32 = some (.iconst 1, (0, 0, 0), .null, []) := by decide +kernel
theorem hk_33_33 : ax_look 33 33 = some (.ishr, (0, 0, 0), .null, []) := by decide +kernel
theorem hk_33_34 : ax_look 33 34 = some (.ishl, (0, 0, 0), .null, []) := by decide +kernel
theorem hk_33_35 : ax_look 33 35 = some (.ior, (0, 0, 0), .null, []) := by decide +kernel
theorem hk_33_36 : ax_look 33 36 = some (.istore_n 2, (0, 0, 0), .null, []) := by decide +kernel
theorem hk_33_37 : ax_look 33 37 = some (.iinc 3 1, (0, 0, 0), .null, []) := by decide +kernel
theorem hk_33_40 : ax_look 33 40 = some (.goto (-36), (0, 0, 0), .null, []) := by decide +kernel
theorem hk_33_43 : ax_look 33 43 = some (.iload_n 2, (0, 0, 0), .null, []) := by decide +kernel
theorem hk_33_44 : ax_look 33 44 = some (.ireturn, (0, 0, 0), .null, []) := by decide +kernel
theorem hn_36 : (ax_mm 36).2.2.1 = 9 := by decide +kernel
theorem hr_36 : (ax_mm 36).2.2.2.1 = (some .long) := by decide +kernel
theorem hk_36_0 : ax_look 36 0 = some (.lload_n 2, (0, 0, 0), .null, []) := by decide +kernel
theorem hk_36_1 : ax_look 36 1 = some (.aload_n 0, (0, 0, 0), .null, []) := by decide +kernel
theorem hk_36_2 : ax_look 36 2 = some (.getfield 15, (4, 1, 0), .null, [1168]) := by decide +kernel
theorem hk_36_5 : ax_look 36 5 = some (.iload_n 1, (0, 0, 0), .null, []) := by decide +kernel
theorem hk_36_6 : ax_look 36 6 = some (.bipush 63, (0, 0, 0), .null, []) := by decide +kernel
theorem hk_36_8 : ax_look 36 8 = some (.iand, (0, 0, 0), .null, []) := by decide +kernel
theorem hk_36_9 : ax_look 36 9 = some (.laload, (0, 0, 0), .null, []) := by decide +kernel
theorem hk_36_10 : ax_look 36 10 = some (.lsub, (0, 0, 0), .null, []) := by decide +kernel
theorem hk_36_11 : ax_look 36 11 = some (.lstore 4, (0, 0, 0), .null, []) := by decide +kernel
theorem hk_36_13 : ax_look 36 13 = some (.lconst 0, (0, 0, 0), .null, []) := by decide +kernel
theorem hk_36_14 : ax_look 36 14 = some (.lstore 6, (0, 0, 0), .null, []) := by decide +kernel
theorem hk_36_16 : ax_look 36 16 = some (.iconst 0, (0, 0, 0), .null, []) := by decide +kernel
theorem hk_36_17 : ax_look 36 17 = some (.istore 8, (0, 0, 0), .null, []) := by decide +kernel
theorem hk_36_19 : ax_look 36 19 = some (.iload 8, (0, 0, 0), .null, []) := by decide +kernel
theorem hk_36_21 : ax_look 36 21 = some (.bipush 64, (0, 0, 0), .null, []) := by decide +kernel
theorem hk_36_23 : ax_look 36 23 = some (.if_icmp .ge 31, (0, 0, 0), .null, []) := by decide +kernel
theorem hk_36_26 : ax_look 36 26 = some (.aload_n 0, (0, 0, 0), .null, []) := by decide +kernel
theorem hk_36_27 : ax_look 36 27 = some (.getfield 11, (4, 0, 0), .null, [1167]) := by decide +kernel
theorem hk_36_30 : ax_look 36 30 = some (.iload 8, (0, 0, 0), .null, []) := by decide +kernel
theorem hk_36_32 : ax_look 36 32 = some (.laload, (0, 0, 0), .null, []) := by decide +kernel
theorem hk_36_33 : ax_look 36 33 = some (.lload 4, (0, 0, 0), .null, []) := by decide +kernel
theorem hk_36_35 : ax_look 36 35 = some (.lcmp, (0, 0, 0), .null, []) := by decide +kernel
theorem hk_36_36 : ax_look 36 36 = some (.ifCond .lt 12, (0, 0, 0), .null, []) := by decide +kernel
theorem hk_36_39 : ax_look 36 39 = some (.lload 6, (0, 0, 0), .null, []) := by decide +kernel
theorem hk_36_41 : ax_look 36 41 = some (.lconst 1, (0, 0, 0), .null, []) := by decide +kernel
theorem hk_36_42 : ax_look 36 42 = some (.iload 8, (0, 0, 0), .null, []) := by decide +kernel
theorem hk_36_44 : ax_look 36 44 = some (.lshl, (0, 0, 0), .null, []) := by decide +kernel
theorem hk_36_45 : ax_look 36 45 = some (.lor, (0, 0, 0), .null, []) := by decide +kernel
theorem hk_36_46 : ax_look 36 46 = some (.lstore 6, (0, 0, 0), .null, []) := by decide +kernel
theorem hk_36_48 : ax_look 36 48 = some (.iinc 8 1, (0, 0, 0), .null, []) := by decide +kernel
theorem hk_36_51 : ax_look 36 51 = some (.goto (-32), (0, 0, 0), .null, []) := by decide +kernel
theorem hk_36_54 : ax_look 36 54 = some (.lload 6, (0, 0, 0), .null, []) := by decide +kernel
theorem hk_36_56 : ax_look 36 56 = some (.lreturn, (0, 0, 0), .null, []) := by decide +kernel
theorem hn_37 : (ax_mm 37).2.2.1 = 7 := by decide +kernel
theorem hr_37 : (ax_mm 37).2.2.2.1 = none := by decide +kernel
theorem hk_37_0 : ax_look 37 0 = some (.aload_n 0, (0, 0, 0), .null, []) := by decide +kernel
theorem hk_37_1 : ax_look 37 1 = some (.getfield 11, (4, 0, 0), .null, [1167]) := by decide +kernel
theorem hk_37_4 : ax_look 37 4 = some (.iconst 0, (0, 0, 0), .null, []) := by decide +kernel
theorem hk_37_5 : ax_look 37 5 = some (.lconst 0, (0, 0, 0), .null, []) := by decide +kernel
theorem hk_37_6 : ax_look 37 6 = some (.lastore, (0, 0, 0), .null, []) := by decide +kernel
theorem hk_37_7 : ax_look 37 7 = some (.aload_n 0, (0, 0, 0), .null, []) := by decide +kernel
theorem hk_37_8 : ax_look 37 8 = some (.getfield 15, (4, 1, 0), .null, [1168]) := by decide +kernel
theorem hk_37_11 : ax_look 37 11 = some (.iconst 0, (0, 0, 0), .null, []) := by decide +kernel
theorem hk_37_12 : ax_look 37 12 = some (.lconst 0, (0, 0, 0), .null, []) := by decide +kernel
theorem hk_37_13 : ax_look 37 13 = some (.lastore, (0, 0, 0), .null, []) := by decide +kernel
theorem hk_37_14 : ax_look 37 14 = some (.iconst 0, (0, 0, 0), .null, []) := by decide +kernel
theorem hk_37_15 : ax_look 37 15 = some (.istore_n 2, (0, 0, 0), .null, []) := by decide +kernel
theorem hk_37_16 : ax_look 37 16 = some (.iload_n 2, (0, 0, 0), .null, []) := by decide +kernel
theorem hk_37_17 : ax_look 37 17 = some (.bipush 12, (0, 0, 0), .null, []) := by decide +kernel
theorem hk_37_19 : ax_look 37 19 = some (.if_icmp .ge 40, (0, 0, 0), .null, []) := by decide +kernel
theorem hk_37_22 : ax_look 37 22 = some (.aload_n 1, (0, 0, 0), .null, []) := by decide +kernel
theorem hk_37_23 : ax_look 37 23 = some (.getfield 18, (1, 0, 0), .null, [1148]) := by decide +kernel
theorem hk_37_26 : ax_look 37 26 = some (.iconst 2, (0, 0, 0), .null, []) := by decide +kernel
theorem hk_37_27 : ax_look 37 27 = some (.iload_n 2, (0, 0, 0), .null, []) := by decide +kernel
theorem hk_37_28 : ax_look 37 28 = some (.imul, (0, 0, 0), .null, []) := by decide +kernel
theorem hk_37_29 : ax_look 37 29 = some (.iaload, (0, 0, 0), .null, []) := by decide +kernel
theorem hk_37_30 : ax_look 37 30 = some (.i2l, (0, 0, 0), .null, []) := by decide +kernel
theorem hk_37_31 : ax_look 37 31 = some (.lstore_n 3, (0, 0, 0), .null, []) := by decide +kernel
theorem hk_37_32 : ax_look 37 32 = some (.aload_n 1, (0, 0, 0), .null, []) := by decide +kernel
theorem hk_37_33 : ax_look 37 33 = some (.getfield 18, (1, 0, 0), .null, [1148]) := by decide +kernel
theorem hk_37_36 : ax_look 37 36 = some (.iconst 2, (0, 0, 0), .null, []) := by decide +kernel
theorem hk_37_37 : ax_look 37 37 = some (.iload_n 2, (0, 0, 0), .null, []) := by decide +kernel
theorem hk_37_38 : ax_look 37 38 = some (.imul, (0, 0, 0), .null, []) := by decide +kernel
theorem hk_37_39 : ax_look 37 39 = some (.iconst 1, (0, 0, 0), .null, []) := by decide +kernel
theorem hk_37_40 : ax_look 37 40 = some (.iadd, (0, 0, 0), .null, []) := by decide +kernel
theorem hk_37_41 : ax_look 37 41 = some (.iaload, (0, 0, 0), .null, []) := by decide +kernel
theorem hk_37_42 : ax_look 37 42 = some (.i2l, (0, 0, 0), .null, []) := by decide +kernel
theorem hk_37_43 : ax_look 37 43 = some (.lstore 5, (0, 0, 0), .null, []) := by decide +kernel
theorem hk_37_45 : ax_look 37 45 = some (.aload_n 0, (0, 0, 0), .null, []) := by decide +kernel
theorem hk_37_46 : ax_look 37 46 = some (.iload_n 2, (0, 0, 0), .null, []) := by decide +kernel
theorem hk_37_47 : ax_look 37 47 = some (.lload_n 3, (0, 0, 0), .null, []) := by decide +kernel
theorem hk_37_48 : ax_look 37 48 = some (.lload 5, (0, 0, 0), .null, []) := by decide +kernel
theorem hk_37_50 : ax_look 37 50 = some (.invokevirtual 24, (39, 3, 4), .null, [2206, 13]) := by decide +kernel
theorem hk_37_53 : ax_look 37 53 = some (.iinc 2 1, (0, 0, 0), .null, []) := by decide +kernel
theorem hk_37_56 : ax_look 37 56 = some (.goto (-40), (0, 0, 0), .null, []) := by decide +kernel
theorem hk_37_59 : ax_look 37 59 = some (.return_, (0, 0, 0), .null, []) := by decide +kernel
theorem hn_39 : (ax_mm 39).2.2.1 = 9 := by decide +kernel
theorem hr_39 : (ax_mm 39).2.2.2.1 = none := by decide +kernel
theorem hk_39_0 : ax_look 39 0 = some (.iload_n 1, (0, 0, 0), .null, []) := by decide +kernel
theorem hk_39_1 : ax_look 39 1 = some (.bipush 6, (0, 0, 0), .null, []) := by decide +kernel
theorem hk_39_3 : ax_look 39 3 = some (.if_icmp .ge 10, (0, 0, 0), .null, []) := by decide +kernel
theorem hk_39_6 : ax_look 39 6 = some (.aload_n 0, (0, 0, 0), .null, []) := by decide +kernel
theorem hk_39_7 : ax_look 39 7 = some (.getfield 11, (4, 0, 0), .null, [1167]) := by decide +kernel
theorem hk_39_10 : ax_look 39 10 = some (.goto 7, (0, 0, 0), .null, []) := by decide +kernel
theorem hk_39_13 : ax_look 39 13 = some (.aload_n 0, (0, 0, 0), .null, []) := by decide +kernel
theorem hk_39_14 : ax_look 39 14 = some (.getfield 15, (4, 1, 0), .null, [1168]) := by decide +kernel
theorem hk_39_17 : ax_look 39 17 = some (.astore 6, (0, 0, 0), .null, []) := by decide +kernel
theorem hk_39_19 : ax_look 39 19 = some (.iconst 1, (0, 0, 0), .null, []) := by decide +kernel
theorem hk_39_20 : ax_look 39 20 = some (.iload_n 1, (0, 0, 0), .null, []) := by decide +kernel
theorem hk_39_21 : ax_look 39 21 = some (.bipush 6, (0, 0, 0), .null, []) := by decide +kernel
theorem hk_39_23 : ax_look 39 23 = some (.irem, (0, 0, 0), .null, []) := by decide +kernel
theorem hk_39_24 : ax_look 39 24 = some (.ishl, (0, 0, 0), .null, []) := by decide +kernel
theorem hk_39_25 : ax_look 39 25 = some (.istore 7, (0, 0, 0), .null, []) := by decide +kernel
theorem hk_39_27 : ax_look 39 27 = some (.iconst 0, (0, 0, 0), .null, []) := by decide +kernel
theorem hk_39_28 : ax_look 39 28 = some (.istore 8, (0, 0, 0), .null, []) := by decide +kernel
theorem hk_39_30 : ax_look 39 30 = some (.iload 8, (0, 0, 0), .null, []) := by decide +kernel
theorem hk_39_32 : ax_look 39 32 = some (.iload 7, (0, 0, 0), .null, []) := by decide +kernel
theorem hk_39_34 : ax_look 39 34 = some (.if_icmp .ge 34, (0, 0, 0), .null, []) := by decide +kernel
theorem hk_39_37 : ax_look 39 37 = some (.aload 6, (0, 0, 0), .null, []) := by decide +kernel
theorem hk_39_39 : ax_look 39 39 = some (.iload 8, (0, 0, 0), .null, []) := by decide +kernel
theorem hk_39_41 : ax_look 39 41 = some (.iload 7, (0, 0, 0), .null, []) := by decide +kernel
theorem hk_39_43 : ax_look 39 43 = some (.iadd, (0, 0, 0), .null, []) := by decide +kernel
theorem hk_39_44 : ax_look 39 44 = some (.aload 6, (0, 0, 0), .null, []) := by decide +kernel
theorem hk_39_46 : ax_look 39 46 = some (.iload 8, (0, 0, 0), .null, []) := by decide +kernel
theorem hk_39_48 : ax_look 39 48 = some (.laload, (0, 0, 0), .null, []) := by decide +kernel
theorem hk_39_49 : ax_look 39 49 = some (.lload_n 2, (0, 0, 0), .null, []) := by decide +kernel
theorem hk_39_50 : ax_look 39 50 = some (.ladd, (0, 0, 0), .null, []) := by decide +kernel
theorem hk_39_51 : ax_look 39 51 = some (.lastore, (0, 0, 0), .null, []) := by decide +kernel
theorem hk_39_52 : ax_look 39 52 = some (.aload 6, (0, 0, 0), .null, []) := by decide +kernel
theorem hk_39_54 : ax_look 39 54 = some (.iload 8, (0, 0, 0), .null, []) := by decide +kernel
theorem hk_39_56 : ax_look 39 56 = some (.dup2, (0, 0, 0), .null, []) := by decide +kernel
theorem hk_39_57 : ax_look 39 57 = some (.laload, (0, 0, 0), .null, []) := by decide +kernel
theorem hk_39_58 : ax_look 39 58 = some (.lload 4, (0, 0, 0), .null, []) := by decide +kernel
theorem hk_39_60 : ax_look 39 60 = some (.ladd, (0, 0, 0), .null, []) := by decide +kernel
theorem hk_39_61 : ax_look 39 61 = some (.lastore, (0, 0, 0), .null, []) := by decide +kernel
theorem hk_39_62 : ax_look 39 62 = some (.iinc 8 1, (0, 0, 0), .null, []) := by decide +kernel
theorem hk_39_65 : ax_look 39 65 = some (.goto (-35), (0, 0, 0), .null, []) := by decide +kernel
theorem hk_39_68 : ax_look 39 68 = some (.return_, (0, 0, 0), .null, []) := by decide +kernel
theorem hn_42 : (ax_mm 42).2.2.1 = 5 := by decide +kernel
theorem hr_42 : (ax_mm 42).2.2.2.1 = none := by decide +kernel
theorem hk_42_0 : ax_look 42 0 = some (.iconst 0, (0, 0, 0), .null, []) := by decide +kernel
theorem hk_42_1 : ax_look 42 1 = some (.istore 4, (0, 0, 0), .null, []) := by decide +kernel
theorem hk_42_3 : ax_look 42 3 = some (.iload 4, (0, 0, 0), .null, []) := by decide +kernel
theorem hk_42_5 : ax_look 42 5 = some (.bipush 64, (0, 0, 0), .null, []) := by decide +kernel
theorem hk_42_7 : ax_look 42 7 = some (.if_icmp .ge 26, (0, 0, 0), .null, []) := by decide +kernel
theorem hk_42_10 : ax_look 42 10 = some (.aload_n 0, (0, 0, 0), .null, []) := by decide +kernel
theorem hk_42_11 : ax_look 42 11 = some (.getfield 9, (5, 0, 0), .null, [1219]) := by decide +kernel
theorem hk_42_14 : ax_look 42 14 = some (.iload 4, (0, 0, 0), .null, []) := by decide +kernel
theorem hk_42_16 : ax_look 42 16 = some (.dup2, (0, 0, 0), .null, []) := by decide +kernel
theorem hk_42_17 : ax_look 42 17 = some (.laload, (0, 0, 0), .null, []) := by decide +kernel
theorem hk_42_18 : ax_look 42 18 = some (.aload_n 1, (0, 0, 0), .null, []) := by decide +kernel
theorem hk_42_19 : ax_look 42 19 = some (.iload 4, (0, 0, 0), .null, []) := by decide +kernel
theorem hk_42_21 : ax_look 42 21 = some (.lload_n 2, (0, 0, 0), .null, []) := by decide +kernel
theorem hk_42_22 : ax_look 42 22 = some (.invokevirtual 27, (36, 2, 4), .null, [2218, 2220]) := by decide +kernel
theorem hk_42_25 : ax_look 42 25 = some (.land, (0, 0, 0), .null, []) := by decide +kernel
theorem hk_42_26 : ax_look 42 26 = some (.lastore, (0, 0, 0), .null, []) := by decide +kernel
theorem hk_42_27 : ax_look 42 27 = some (.iinc 4 1, (0, 0, 0), .null, []) := by decide +kernel
theorem hk_42_30 : ax_look 42 30 = some (.goto (-27), (0, 0, 0), .null, []) := by decide +kernel
theorem hk_42_33 : ax_look 42 33 = some (.return_, (0, 0, 0), .null, []) := by decide +kernel
theorem hn_43 : (ax_mm 43).2.2.1 = 5 := by decide +kernel
theorem hr_43 : (ax_mm 43).2.2.2.1 = (some .boolean) := by decide +kernel
theorem hk_43_0 : ax_look 43 0 = some (.iconst 0, (0, 0, 0), .null, []) := by decide +kernel
theorem hk_43_1 : ax_look 43 1 = some (.istore 4, (0, 0, 0), .null, []) := by decide +kernel
theorem hk_43_3 : ax_look 43 3 = some (.iload 4, (0, 0, 0), .null, []) := by decide +kernel
theorem hk_43_5 : ax_look 43 5 = some (.bipush 64, (0, 0, 0), .null, []) := by decide +kernel
theorem hk_43_7 : ax_look 43 7 = some (.if_icmp .ge 35, (0, 0, 0), .null, []) := by decide +kernel
theorem hk_43_10 : ax_look 43 10 = some (.aload_n 0, (0, 0, 0), .null, []) := by decide +kernel
theorem hk_43_11 : ax_look 43 11 = some (.getfield 9, (5, 0, 0), .null, [1219]) := by decide +kernel
theorem hk_43_14 : ax_look 43 14 = some (.iload 4, (0, 0, 0), .null, []) := by decide +kernel
theorem hk_43_16 : ax_look 43 16 = some (.laload, (0, 0, 0), .null, []) := by decide +kernel
theorem hk_43_17 : ax_look 43 17 = some (.aload_n 1, (0, 0, 0), .null, []) := by decide +kernel
theorem hk_43_18 : ax_look 43 18 = some (.iload 4, (0, 0, 0), .null, []) := by decide +kernel
theorem hk_43_20 : ax_look 43 20 = some (.lload_n 2, (0, 0, 0), .null, []) := by decide +kernel
theorem hk_43_21 : ax_look 43 21 = some (.invokevirtual 27, (36, 2, 4), .null, [2218, 2220]) := by decide +kernel
theorem hk_43_24 : ax_look 43 24 = some (.ldc2_w 13, (0, 0, 0), .long (-1), [1215]) := by decide +kernel
theorem hk_43_27 : ax_look 43 27 = some (.lxor, (0, 0, 0), .null, []) := by decide +kernel
theorem hk_43_28 : ax_look 43 28 = some (.land, (0, 0, 0), .null, []) := by decide +kernel
theorem hk_43_29 : ax_look 43 29 = some (.lconst 0, (0, 0, 0), .null, []) := by decide +kernel
theorem hk_43_30 : ax_look 43 30 = some (.lcmp, (0, 0, 0), .null, []) := by decide +kernel
theorem hk_43_31 : ax_look 43 31 = some (.ifCond .eq 5, (0, 0, 0), .null, []) := by decide +kernel
theorem hk_43_34 : ax_look 43 34 = some (.iconst 0, (0, 0, 0), .null, []) := by decide +kernel
theorem hk_43_35 : ax_look 43 35 = some (.ireturn, (0, 0, 0), .null, []) := by decide +kernel
theorem hk_43_36 : ax_look 43 36 = some (.iinc 4 1, (0, 0, 0), .null, []) := by decide +kernel
theorem hk_43_39 : ax_look 43 39 = some (.goto (-36), (0, 0, 0), .null, []) := by decide +kernel
theorem hk_43_42 : ax_look 43 42 = some (.iconst 1, (0, 0, 0), .null, []) := by decide +kernel
theorem hk_43_43 : ax_look 43 43 = some (.ireturn, (0, 0, 0), .null, []) := by decide +kernel
theorem hn_44 : (ax_mm 44).2.2.1 = 9 := by decide +kernel
theorem hr_44 : (ax_mm 44).2.2.2.1 = (some .int) := by decide +kernel
theorem hk_44_0 : ax_look 44 0 = some (.iconst 0, (0, 0, 0), .null, []) := by decide +kernel
theorem hk_44_1 : ax_look 44 1 = some (.iload_n 1, (0, 0, 0), .null, []) := by decide +kernel
theorem hk_44_2 : ax_look 44 2 = some (.bipush 64, (0, 0, 0), .null, []) := by decide +kernel
theorem hk_44_4 : ax_look 44 4 = some (.idiv, (0, 0, 0), .null, []) := by decide +kernel
theorem hk_44_5 : ax_look 44 5 = some (.invokestatic 33, (702, 2, 0), .null, [5022]) := by decide +kernel
theorem hk_44_8 : ax_look 44 8 = some (.istore 4, (0, 0, 0), .null, []) := by decide +kernel
theorem hk_44_10 : ax_look 44 10 = some (.iload 4, (0, 0, 0), .null, []) := by decide +kernel
theorem hk_44_12 : ax_look 44 12 = some (.bipush 64, (0, 0, 0), .null, []) := by decide +kernel
theorem hk_44_14 : ax_look 44 14 = some (.if_icmp .ge 70, (0, 0, 0), .null, []) := by decide +kernel
theorem hk_44_17 : ax_look 44 17 = some (.aload_n 0, (0, 0, 0), .null, []) := by decide +kernel
theorem hk_44_18 : ax_look 44 18 = some (.iload 4, (0, 0, 0), .null, []) := by decide +kernel
theorem hk_44_20 : ax_look 44 20 = some (.iload_n 2, (0, 0, 0), .null, []) := by decide +kernel
theorem hk_44_21 : ax_look 44 21 = some (.iload_n 3, (0, 0, 0), .null, []) := by decide +kernel
theorem hk_44_22 : ax_look 44 22 = some (.invokevirtual 39, (47, 3, 5), .null, [3156, 23]) := by decide +kernel
theorem hk_44_25 : ax_look 44 25 = some (.lstore 5, (0, 0, 0), .null, []) := by decide +kernel
theorem hk_44_27 : ax_look 44 27 = some (.iload 4, (0, 0, 0), .null, []) := by decide +kernel
theorem hk_44_29 : ax_look 44 29 = some (.iload_n 1, (0, 0, 0), .null, []) := by decide +kernel
theorem hk_44_30 : ax_look 44 30 = some (.bipush 64, (0, 0, 0), .null, []) := by decide +kernel
theorem hk_44_32 : ax_look 44 32 = some (.idiv, (0, 0, 0), .null, []) := by decide +kernel
theorem hk_44_33 : ax_look 44 33 = some (.if_icmp .ne 16, (0, 0, 0), .null, []) := by decide +kernel
theorem hk_44_36 : ax_look 44 36 = some (.lload 5, (0, 0, 0), .null, []) := by decide +kernel
theorem hk_44_38 : ax_look 44 38 = some (.ldc2_w 13, (0, 0, 0), .long (-1), [1215]) := by decide +kernel
theorem hk_44_41 : ax_look 44 41 = some (.iload_n 1, (0, 0, 0), .null, []) := by decide +kernel
theorem hk_44_42 : ax_look 44 42 = some (.bipush 64, (0, 0, 0), .null, []) := by decide +kernel
theorem hk_44_44 : ax_look 44 44 = some (.irem, (0, 0, 0), .null, []) := by decide +kernel
theorem hk_44_45 : ax_look 44 45 = some (.lshl, (0, 0, 0), .null, []) := by decide +kernel
theorem hk_44_46 : ax_look 44 46 = some (.land, (0, 0, 0), .null, []) := by decide +kernel
theorem hk_44_47 : ax_look 44 47 = some (.lstore 5, (0, 0, 0), .null, []) := by decide +kernel
theorem hk_44_49 : ax_look 44 49 = some (.lload 5, (0, 0, 0), .null, []) := by decide +kernel
theorem hk_44_51 : ax_look 44 51 = some (.lconst 0, (0, 0, 0), .null, []) := by decide +kernel
theorem hk_44_52 : ax_look 44 52 = some (.lcmp, (0, 0, 0), .null, []) := by decide +kernel
theorem hk_44_53 : ax_look 44 53 = some (.ifCond .eq 25, (0, 0, 0), .null, []) := by decide +kernel
theorem hk_44_56 : ax_look 44 56 = some (.lload 5, (0, 0, 0), .null, []) := by decide +kernel
theorem hk_44_58 : ax_look 44 58 = some (.lload 5, (0, 0, 0), .null, []) := by decide +kernel
theorem hk_44_60 : ax_look 44 60 = some (.lneg, (0, 0, 0), .null, []) := by decide +kernel
theorem hk_44_61 : ax_look 44 61 = some (.land, (0, 0, 0), .null, []) := by decide +kernel
theorem hk_44_62 : ax_look 44 62 = some (.lstore 7, (0, 0, 0), .null, []) := by decide +kernel
theorem hk_44_64 : ax_look 44 64 = some (.iload 4, (0, 0, 0), .null, []) := by decide +kernel
theorem hk_44_66 : ax_look 44 66 = some (.bipush 64, (0, 0, 0), .null, []) := by decide +kernel
theorem hk_44_68 : ax_look 44 68 = some (.imul, (0, 0, 0), .null, []) := by decide +kernel
theorem hk_44_69 : ax_look 44 69 = some (.lload 7, (0, 0, 0), .null, []) := by decide +kernel
theorem hk_44_71 : ax_look 44 71 = some (.lconst 1, (0, 0, 0), .null, []) := by decide +kernel
theorem hk_44_72 : ax_look 44 72 = some (.lsub, (0, 0, 0), .null, []) := by decide +kernel
theorem hk_44_73 : ax_look 44 73 = some (.invokestatic 43, (255, 1, 0), .null, [3162]) := by decide +kernel
theorem hk_44_76 : ax_look 44 76 = some (.iadd, (0, 0, 0), .null, []) := by decide +kernel
theorem hk_44_77 : ax_look 44 77 = some (.ireturn, (0, 0, 0), .null, []) := by decide +kernel
theorem hk_44_78 : ax_look 44 78 = some (.iinc 4 1, (0, 0, 0), .null, []) := by decide +kernel
theorem hk_44_81 : ax_look 44 81 = some (.goto (-71), (0, 0, 0), .null, []) := by decide +kernel
theorem hk_44_84 : ax_look 44 84 = some (.iconst (-1), (0, 0, 0), .null, []) := by decide +kernel
theorem hk_44_85 : ax_look 44 85 = some (.ireturn, (0, 0, 0), .null, []) := by decide +kernel
theorem hn_45 : (ax_mm 45).2.2.1 = 5 := by decide +kernel
theorem hr_45 : (ax_mm 45).2.2.2.1 = (some .int) := by decide +kernel
theorem hk_45_0 : ax_look 45 0 = some (.iconst 0, (0, 0, 0), .null, []) := by decide +kernel
theorem hk_45_1 : ax_look 45 1 = some (.istore_n 3, (0, 0, 0), .null, []) := by decide +kernel
theorem hk_45_2 : ax_look 45 2 = some (.iconst 0, (0, 0, 0), .null, []) := by decide +kernel
theorem hk_45_3 : ax_look 45 3 = some (.istore 4, (0, 0, 0), .null, []) := by decide +kernel
theorem hk_45_5 : ax_look 45 5 = some (.iload 4, (0, 0, 0), .null, []) := by decide +kernel
theorem hk_45_7 : ax_look 45 7 = some (.bipush 64, (0, 0, 0), .null, []) := by decide +kernel
theorem hk_45_9 : ax_look 45 9 = some (.if_icmp .ge 23, (0, 0, 0), .null, []) := by decide +kernel
theorem hk_45_12 : ax_look 45 12 = some (.iload_n 3, (0, 0, 0), .null, []) := by decide +kernel
theorem hk_45_13 : ax_look 45 13 = some (.aload_n 0, (0, 0, 0), .null, []) := by decide +kernel
theorem hk_45_14 : ax_look 45 14 = some (.iload 4, (0, 0, 0), .null, []) := by decide +kernel
theorem hk_45_16 : ax_look 45 16 = some (.iload_n 1, (0, 0, 0), .null, []) := by decide +kernel
theorem hk_45_17 : ax_look 45 17 = some (.iload_n 2, (0, 0, 0), .null, []) := by decide +kernel
theorem hk_45_18 : ax_look 45 18 = some (.invokevirtual 39, (47, 3, 5), .null, [3156, 23]) := by decide +kernel
theorem hk_45_21 : ax_look 45 21 = some (.invokestatic 43, (255, 1, 0), .null, [3162]) := by decide +kernel
theorem hk_45_24 : ax_look 45 24 = some (.iadd, (0, 0, 0), .null, []) := by decide +kernel
theorem hk_45_25 : ax_look 45 25 = some (.istore_n 3, (0, 0, 0), .null, []) := by decide +kernel
theorem hk_45_26 : ax_look 45 26 = some (.iinc 4 1, (0, 0, 0), .null, []) := by decide +kernel
theorem hk_45_29 : ax_look 45 29 = some (.goto (-24), (0, 0, 0), .null, []) := by decide +kernel
theorem hk_45_32 : ax_look 45 32 = some (.iload_n 3, (0, 0, 0), .null, []) := by decide +kernel
theorem hk_45_33 : ax_look 45 33 = some (.ireturn, (0, 0, 0), .null, []) := by decide +kernel
theorem hn_47 : (ax_mm 47).2.2.1 = 7 := by decide +kernel
theorem hr_47 : (ax_mm 47).2.2.2.1 = (some .long) := by decide +kernel
theorem hk_47_0 : ax_look 47 0 = some (.iload_n 1, (0, 0, 0), .null, []) := by decide +kernel
theorem hk_47_1 : ax_look 47 1 = some (.iload_n 2, (0, 0, 0), .null, []) := by decide +kernel
theorem hk_47_2 : ax_look 47 2 = some (.bipush 6, (0, 0, 0), .null, []) := by decide +kernel
theorem hk_47_4 : ax_look 47 4 = some (.ishr, (0, 0, 0), .null, []) := by decide +kernel
theorem hk_47_5 : ax_look 47 5 = some (.iand, (0, 0, 0), .null, []) := by decide +kernel
theorem hk_47_6 : ax_look 47 6 = some (.iload_n 2, (0, 0, 0), .null, []) := by decide +kernel
theorem hk_47_7 : ax_look 47 7 = some (.bipush 6, (0, 0, 0), .null, []) := by decide +kernel
theorem hk_47_9 : ax_look 47 9 = some (.ishr, (0, 0, 0), .null, []) := by decide +kernel
theorem hk_47_10 : ax_look 47 10 = some (.if_icmp .ne 12, (0, 0, 0), .null, []) := by decide +kernel
theorem hk_47_13 : ax_look 47 13 = some (.iload_n 1, (0, 0, 0), .null, []) := by decide +kernel
theorem hk_47_14 : ax_look 47 14 = some (.iload_n 3, (0, 0, 0), .null, []) := by decide +kernel
theorem hk_47_15 : ax_look 47 15 = some (.bipush 6, (0, 0, 0), .null, []) := by decide +kernel
theorem hk_47_17 : ax_look 47 17 = some (.ishr, (0, 0, 0), .null, []) := by decide +kernel
theorem hk_47_18 : ax_look 47 18 = some (.iand, (0, 0, 0), .null, []) := by decide +kernel
theorem hk_47_19 : ax_look 47 19 = some (.ifCond .eq 5, (0, 0, 0), .null, []) := by decide +kernel
theorem hk_47_22 : ax_look 47 22 = some (.lconst 0, (0, 0, 0), .null, []) := by decide +kernel
theorem hk_47_23 : ax_look 47 23 = some (.lreturn, (0, 0, 0), .null, []) := by decide +kernel
theorem hk_47_24 : ax_look 47 24 = some (.aload_n 0, (0, 0, 0), .null, []) := by decide +kernel
theorem hk_47_25 : ax_look 47 25 = some (.getfield 9, (5, 0, 0), .null, [1219]) := by decide +kernel
theorem hk_47_28 : ax_look 47 28 = some (.iload_n 1, (0, 0, 0), .null, []) := by decide +kernel
theorem hk_47_29 : ax_look 47 29 = some (.laload, (0, 0, 0), .null, []) := by decide +kernel
theorem hk_47_30 : ax_look 47 30 = some (.lstore 4, (0, 0, 0), .null, []) := by decide +kernel
theorem hk_47_32 : ax_look 47 32 = some (.iconst 0, (0, 0, 0), .null, []) := by decide +kernel
theorem hk_47_33 : ax_look 47 33 = some (.istore 6, (0, 0, 0), .null, []) := by decide +kernel
theorem hk_47_35 : ax_look 47 35 = some (.iload 6, (0, 0, 0), .null, []) := by decide +kernel
theorem hk_47_37 : ax_look 47 37 = some (.bipush 6, (0, 0, 0), .null, []) := by decide +kernel
theorem hk_47_39 : ax_look 47 39 = some (.if_icmp .ge 55, (0, 0, 0), .null, []) := by decide +kernel
theorem hk_47_42 : ax_look 47 42 = some (.iload_n 2, (0, 0, 0), .null, []) := by decide +kernel
theorem hk_47_43 : ax_look 47 43 = some (.iload 6, (0, 0, 0), .null, []) := by decide +kernel
theorem hk_47_45 : ax_look 47 45 = some (.ishr, (0, 0, 0), .null, []) := by decide +kernel
theorem hk_47_46 : ax_look 47 46 = some (.iconst 1, (0, 0, 0), .null, []) := by decide +kernel
theorem hk_47_47 : ax_look 47 47 = some (.iand, (0, 0, 0), .null, []) := by decide +kernel
theorem hk_47_48 : ax_look 47 48 = some (.iconst 1, (0, 0, 0), .null, []) := by decide +kernel
theorem hk_47_49 : ax_look 47 49 = some (.if_icmp .ne 14, (0, 0, 0), .null, []) := by decide +kernel
theorem hk_47_52 : ax_look 47 52 = some (.lload 4, (0, 0, 0), .null, []) := by decide +kernel
theorem hk_47_54 : ax_look 47 54 = some (.getstatic 53, (0, 0, 0), .null, [3160]) := by decide +kernel
theorem hk_47_57 : ax_look 47 57 = some (.iload 6, (0, 0, 0), .null, []) := by decide +kernel
theorem hk_47_59 : ax_look 47 59 = some (.laload, (0, 0, 0), .null, []) := by decide +kernel
theorem hk_47_60 : ax_look 47 60 = some (.land, (0, 0, 0), .null, []) := by decide +kernel
theorem hk_47_61 : ax_look 47 61 = some (.lstore 4, (0, 0, 0), .null, []) := by decide +kernel
theorem hk_47_63 : ax_look 47 63 = some (.iload_n 3, (0, 0, 0), .null, []) := by decide +kernel
theorem hk_47_64 : ax_look 47 64 = some (.iload 6, (0, 0, 0), .null, []) := by decide +kernel
theorem hk_47_66 : ax_look 47 66 = some (.ishr, (0, 0, 0), .null, []) := by decide +kernel
theorem hk_47_67 : ax_look 47 67 = some (.iconst 1, (0, 0, 0), .null, []) := by decide +kernel
theorem hk_47_68 : ax_look 47 68 = some (.iand, (0, 0, 0), .null, []) := by decide +kernel
theorem hk_47_69 : ax_look 47 69 = some (.iconst 1, (0, 0, 0), .null, []) := by decide +kernel
theorem hk_47_70 : ax_look 47 70 = some (.if_icmp .ne 18, (0, 0, 0), .null, []) := by decide +kernel
theorem hk_47_73 : ax_look 47 73 = some (.lload 4, (0, 0, 0), .null, []) := by decide +kernel
theorem hk_47_75 : ax_look 47 75 = some (.getstatic 53, (0, 0, 0), .null, [3160]) := by decide +kernel
theorem hk_47_78 : ax_look 47 78 = some (.iload 6, (0, 0, 0), .null, []) := by decide +kernel
theorem hk_47_80 : ax_look 47 80 = some (.laload, (0, 0, 0), .null, []) := by decide +kernel
theorem hk_47_81 : ax_look 47 81 = some (.ldc2_w 13, (0, 0, 0), .long (-1), [1215]) := by decide +kernel
theorem hk_47_84 : ax_look 47 84 = some (.lxor, (0, 0, 0), .null, []) := by decide +kernel
theorem hk_47_85 : ax_look 47 85 = some (.land, (0, 0, 0), .null, []) := by decide +kernel
theorem hk_47_86 : ax_look 47 86 = some (.lstore 4, (0, 0, 0), .null, []) := by decide +kernel
theorem hk_47_88 : ax_look 47 88 = some (.iinc 6 1, (0, 0, 0), .null, []) := by decide +kernel
theorem hk_47_91 : ax_look 47 91 = some (.goto (-56), (0, 0, 0), .null, []) := by decide +kernel
theorem hk_47_94 : ax_look 47 94 = some (.lload 4, (0, 0, 0), .null, []) := by decide +kernel
theorem hk_47_96 : ax_look 47 96 = some (.lreturn, (0, 0, 0), .null, []) := by decide +kernel
theorem hn_49 : (ax_mm 49).2.2.1 = 1 := by decide +kernel
theorem hr_49 : (ax_mm 49).2.2.2.1 = (some .boolean) := by decide +kernel
theorem hk_49_0 : ax_look 49 0 = some (.aload_n 0, (0, 0, 0), .null, []) := by decide +kernel
theorem hk_49_1 : ax_look 49 1 = some (.getfield 19, (6, 7, 0), .null, [1068]) := by decide +kernel
theorem hk_49_4 : ax_look 49 4 = some (.bipush 9, (0, 0, 0), .null, []) := by decide +kernel
theorem hk_49_6 : ax_look 49 6 = some (.if_icmp .ne 7, (0, 0, 0), .null, []) := by decide +kernel
theorem hk_49_9 : ax_look 49 9 = some (.iconst 1, (0, 0, 0), .null, []) := by decide +kernel
theorem hk_49_10 : ax_look 49 10 = some (.goto 4, (0, 0, 0), .null, []) := by decide +kernel
theorem hk_49_13 : ax_look 49 13 = some (.iconst 0, (0, 0, 0), .null, []) := by decide +kernel
theorem hk_49_14 : ax_look 49 14 = some (.ireturn, (0, 0, 0), .null, []) := by decide +kernel
theorem hn_50 : (ax_mm 50).2.2.1 = 1 := by decide +kernel
theorem hr_50 : (ax_mm 50).2.2.2.1 = (some .boolean) := by decide +kernel
theorem hk_50_0 : ax_look 50 0 = some (.aload_n 0, (0, 0, 0), .null, []) := by decide +kernel
theorem hk_50_1 : ax_look 50 1 = some (.getfield 19, (6, 7, 0), .null, [1068]) := by decide +kernel
theorem hk_50_4 : ax_look 50 4 = some (.bipush 8, (0, 0, 0), .null, []) := by decide +kernel
theorem hk_50_6 : ax_look 50 6 = some (.if_icmp .eq 7, (0, 0, 0), .null, []) := by decide +kernel
theorem hk_50_9 : ax_look 50 9 = some (.iconst 1, (0, 0, 0), .null, []) := by decide +kernel
theorem hk_50_10 : ax_look 50 10 = some (.goto 4, (0, 0, 0), .null, []) := by decide +kernel
theorem hk_50_13 : ax_look 50 13 = some (.iconst 0, (0, 0, 0), .null, []) := by decide +kernel
theorem hk_50_14 : ax_look 50 14 = some (.ireturn, (0, 0, 0), .null, []) := by decide +kernel
theorem hn_51 : (ax_mm 51).2.2.1 = 1 := by decide +kernel
theorem hr_51 : (ax_mm 51).2.2.2.1 = (some .boolean) := by decide +kernel
theorem hk_51_0 : ax_look 51 0 = some (.aload_n 0, (0, 0, 0), .null, []) := by decide +kernel
theorem hk_51_1 : ax_look 51 1 = some (.getfield 19, (6, 7, 0), .null, [1068]) := by decide +kernel
theorem hk_51_4 : ax_look 51 4 = some (.bipush 7, (0, 0, 0), .null, []) := by decide +kernel
theorem hk_51_6 : ax_look 51 6 = some (.if_icmp .eq 7, (0, 0, 0), .null, []) := by decide +kernel
theorem hk_51_9 : ax_look 51 9 = some (.iconst 1, (0, 0, 0), .null, []) := by decide +kernel
theorem hk_51_10 : ax_look 51 10 = some (.goto 4, (0, 0, 0), .null, []) := by decide +kernel
theorem hk_51_13 : ax_look 51 13 = some (.iconst 0, (0, 0, 0), .null, []) := by decide +kernel
theorem hk_51_14 : ax_look 51 14 = some (.ireturn, (0, 0, 0), .null, []) := by decide +kernel
theorem hn_52 : (ax_mm 52).2.2.1 = 2 := by decide +kernel
theorem hr_52 : (ax_mm 52).2.2.2.1 = none := by decide +kernel
theorem hk_52_0 : ax_look 52 0 = some (.aload_n 0, (0, 0, 0), .null, []) := by decide +kernel
theorem hk_52_1 : ax_look 52 1 = some (.aload_n 1, (0, 0, 0), .null, []) := by decide +kernel
theorem hk_52_2 : ax_look 52 2 = some (.iconst 1, (0, 0, 0), .null, []) := by decide +kernel
theorem hk_52_3 : ax_look 52 3 = some (.invokevirtual 23, (54, 2, 6), .null, [2171, 11]) := by decide +kernel
theorem hk_52_6 : ax_look 52 6 = some (.return_, (0, 0, 0), .null, []) := by decide +kernel
theorem hn_53 : (ax_mm 53).2.2.1 = 2 := by decide +kernel
theorem hr_53 : (ax_mm 53).2.2.2.1 = none := by decide +kernel
theorem hk_53_0 : ax_look 53 0 = some (.aload_n 0, (0, 0, 0), .null, []) := by decide +kernel
theorem hk_53_1 : ax_look 53 1 = some (.aload_n 1, (0, 0, 0), .null, []) := by decide +kernel
theorem hk_53_2 : ax_look 53 2 = some (.iconst (-1), (0, 0, 0), .null, []) := by decide +kernel
theorem hk_53_3 : ax_look 53 3 = some (.invokevirtual 23, (54, 2, 6), .null, [2171, 11]) := by decide +kernel
theorem hk_53_6 : ax_look 53 6 = some (.return_, (0, 0, 0), .null, []) := by decide +kernel
theorem hn_54 : (ax_mm 54).2.2.1 = 4 := by decide +kernel
theorem hr_54 : (ax_mm 54).2.2.2.1 = none := by decide +kernel
theorem hk_54_0 : ax_look 54 0 = some (.aload_n 1, (0, 0, 0), .null, []) := by decide +kernel
theorem hk_54_1 : ax_look 54 1 = some (.invokevirtual 27, (20, 0, 2), .null, [2175, 2177]) := by decide +kernel
theorem hk_54_4 : ax_look 54 4 = some (.aload_n 1, (0, 0, 0), .null, []) := by decide +kernel
theorem hk_54_5 : ax_look 54 5 = some (.iload_n 2, (0, 0, 0), .null, []) := by decide +kernel
theorem hk_54_6 : ax_look 54 6 = some (.aload_n 0, (0, 0, 0), .null, []) := by decide +kernel
theorem hk_54_7 : ax_look 54 7 = some (.getfield 32, (6, 8, 0), .null, [1069]) := by decide +kernel
theorem hk_54_10 : ax_look 54 10 = some (.imul, (0, 0, 0), .null, []) := by decide +kernel
theorem hk_54_11 : ax_look 54 11 = some (.i2l, (0, 0, 0), .null, []) := by decide +kernel
theorem hk_54_12 : ax_look 54 12 = some (.putfield 35, (2, 1, 0), .null, [1133]) := by decide +kernel
theorem hk_54_15 : ax_look 54 15 = some (.iconst 0, (0, 0, 0), .null, []) := by decide +kernel
theorem hk_54_16 : ax_look 54 16 = some (.istore_n 3, (0, 0, 0), .null, []) := by decide +kernel
theorem hk_54_17 : ax_look 54 17 = some (.iload_n 3, (0, 0, 0), .null, []) := by decide +kernel
theorem hk_54_18 : ax_look 54 18 = some (.bipush 24, (0, 0, 0), .null, []) := by decide +kernel
theorem hk_54_20 : ax_look 54 20 = some (.if_icmp .ge 23, (0, 0, 0), .null, []) := by decide +kernel
theorem hk_54_23 : ax_look 54 23 = some (.aload_n 1, (0, 0, 0), .null, []) := by decide +kernel
theorem hk_54_24 : ax_look 54 24 = some (.iload_n 3, (0, 0, 0), .null, []) := by decide +kernel
theorem hk_54_25 : ax_look 54 25 = some (.iload_n 2, (0, 0, 0), .null, []) := by decide +kernel
theorem hk_54_26 : ax_look 54 26 = some (.aload_n 0, (0, 0, 0), .null, []) := by decide +kernel
theorem hk_54_27 : ax_look 54 27 = some (.getfield 9, (6, 6, 0), .null, [1067]) := by decide +kernel
theorem hk_54_30 : ax_look 54 30 = some (.iload_n 3, (0, 0, 0), .null, []) := by decide +kernel
theorem hk_54_31 : ax_look 54 31 = some (.iaload, (0, 0, 0), .null, []) := by decide +kernel
theorem hk_54_32 : ax_look 54 32 = some (.imul, (0, 0, 0), .null, []) := by decide +kernel
theorem hk_54_33 : ax_look 54 33 = some (.i2l, (0, 0, 0), .null, []) := by decide +kernel
theorem hk_54_34 : ax_look 54 34 = some (.invokevirtual 39, (21, 2, 2), .null, [2180, 2182]) := by decide +kernel
theorem hk_54_37 : ax_look 54 37 = some (.iinc 3 1, (0, 0, 0), .null, []) := by decide +kernel
theorem hk_54_40 : ax_look 54 40 = some (.goto (-23), (0, 0, 0), .null, []) := by decide +kernel
theorem hk_54_43 : ax_look 54 43 = some (.return_, (0, 0, 0), .null, []) := by decide +kernel
theorem hn_55 : (ax_mm 55).2.2.1 = 1 := by decide +kernel
theorem hr_55 : (ax_mm 55).2.2.2.1 = (some .boolean) := by decide +kernel
theorem hk_55_0 : ax_look 55 0 = some (.aload_n 0, (0, 0, 0), .null, []) := by decide +kernel
theorem hk_55_1 : ax_look 55 1 = some (.getfield 9, (6, 6, 0), .null, [1067]) := by decide +kernel
theorem hk_55_4 : ax_look 55 4 = some (.iconst 0, (0, 0, 0), .null, []) := by decide +kernel
theorem hk_55_5 : ax_look 55 5 = some (.invokestatic 43, (253, 2, 0), .null, [2046]) := by decide +kernel
theorem hk_55_8 : ax_look 55 8 = some (.aload_n 0, (0, 0, 0), .null, []) := by decide +kernel
theorem hk_55_9 : ax_look 55 9 = some (.iconst 0, (0, 0, 0), .null, []) := by decide +kernel
theorem hk_55_10 : ax_look 55 10 = some (.putfield 49, (6, 1, 0), .null, [1061]) := by decide +kernel
theorem hk_55_13 : ax_look 55 13 = some (.aload_n 0, (0, 0, 0), .null, []) := by decide +kernel
theorem hk_55_14 : ax_look 55 14 = some (.invokevirtual 52, (61, 0, 6), .null, [2047, 0]) := by decide +kernel
theorem hk_55_17 : ax_look 55 17 = some (.aload_n 0, (0, 0, 0), .null, []) := by decide +kernel
theorem hk_55_18 : ax_look 55 18 = some (.invokevirtual 55, (56, 0, 6), .null, [2070, 4]) := by decide +kernel
theorem hk_55_21 : ax_look 55 21 = some (.ifCond .eq 28, (0, 0, 0), .null, []) := by decide +kernel
theorem hk_55_24 : ax_look 55 24 = some (.aload_n 0, (0, 0, 0), .null, []) := by decide +kernel
theorem hk_55_25 : ax_look 55 25 = some (.invokevirtual 59, (58, 0, 6), .null, [2082, 7]) := by decide +kernel
theorem hk_55_28 : ax_look 55 28 = some (.ifCond .eq 21, (0, 0, 0), .null, []) := by decide +kernel
theorem hk_55_31 : ax_look 55 31 = some (.aload_n 0, (0, 0, 0), .null, []) := by decide +kernel
theorem hk_55_32 : ax_look 55 32 = some (.invokevirtual 62, (59, 0, 6), .null, [2086, 8]) := by decide +kernel
theorem hk_55_35 : ax_look 55 35 = some (.ifCond .eq 14, (0, 0, 0), .null, []) := by decide +kernel
theorem hk_55_38 : ax_look 55 38 = some (.aload_n 0, (0, 0, 0), .null, []) := by decide +kernel
theorem hk_55_39 : ax_look 55 39 = some (.getfield 65, (6, 2, 0), .null, [1062]) := by decide +kernel
theorem hk_55_42 : ax_look 55 42 = some (.ifCond .ne 7, (0, 0, 0), .null, []) := by decide +kernel
theorem hk_55_45 : ax_look 55 45 = some (.iconst 1, (0, 0, 0), .null, []) := by decide +kernel
theorem hk_55_46 : ax_look 55 46 = some (.goto 4, (0, 0, 0), .null, []) := by decide +kernel
theorem hk_55_49 : ax_look 55 49 = some (.iconst 0, (0, 0, 0), .null, []) := by decide +kernel
theorem hk_55_50 : ax_look 55 50 = some (.ireturn, (0, 0, 0), .null, []) := by decide +kernel
theorem hn_56 : (ax_mm 56).2.2.1 = 4 := by decide +kernel
theorem hr_56 : (ax_mm 56).2.2.2.1 = (some .boolean) := by decide +kernel
theorem hk_56_0 : ax_look 56 0 = some (.aload_n 0, (0, 0, 0), .null, []) := by decide +kernel
theorem hk_56_1 : ax_look 56 1 = some (.aload_n 0, (0, 0, 0), .null, []) := by decide +kernel
theorem hk_56_2 : ax_look 56 2 = some (.invokevirtual 68, (60, 0, 6), .null, [2074, 5]) := by decide +kernel
theorem hk_56_5 : ax_look 56 5 = some (.invokevirtual 71, (57, 1, 6), .null, [2078, 6]) := by decide +kernel
theorem hk_56_8 : ax_look 56 8 = some (.istore_n 1, (0, 0, 0), .null, []) := by decide +kernel
theorem hk_56_9 : ax_look 56 9 = some (.iconst 0, (0, 0, 0), .null, []) := by decide +kernel
theorem hk_56_10 : ax_look 56 10 = some (.istore_n 2, (0, 0, 0), .null, []) := by decide +kernel
theorem hk_56_11 : ax_look 56 11 = some (.iload_n 2, (0, 0, 0), .null, []) := by decide +kernel
theorem hk_56_12 : ax_look 56 12 = some (.sipush 200, (0, 0, 0), .null, []) := by decide +kernel
theorem hk_56_15 : ax_look 56 15 = some (.if_icmp .ge 55, (0, 0, 0), .null, []) := by decide +kernel
theorem hk_56_18 : ax_look 56 18 = some (.iload_n 1, (0, 0, 0), .null, []) := by decide +kernel
theorem hk_56_19 : ax_look 56 19 = some (.ifCond .eq 51, (0, 0, 0), .null, []) := by decide +kernel
theorem hk_56_22 : ax_look 56 22 = some (.aload_n 0, (0, 0, 0), .null, []) := by decide +kernel
theorem hk_56_23 : ax_look 56 23 = some (.getfield 65, (6, 2, 0), .null, [1062]) := by decide +kernel
theorem hk_56_26 : ax_look 56 26 = some (.iconst 4, (0, 0, 0), .null, []) := by decide +kernel
theorem hk_56_27 : ax_look 56 27 = some (.if_icmp .eq 13, (0, 0, 0), .null, []) := by decide +kernel
theorem hk_56_30 : ax_look 56 30 = some (.aload_n 0, (0, 0, 0), .null, []) := by decide +kernel
theorem hk_56_31 : ax_look 56 31 = some (.getfield 65, (6, 2, 0), .null, [1062]) := by decide +kernel
theorem hk_56_34 : ax_look 56 34 = some (.iconst 5, (0, 0, 0), .null, []) := by decide +kernel
theorem hk_56_35 : ax_look 56 35 = some (.if_icmp .eq 5, (0, 0, 0), .null, []) := by decide +kernel
theorem hk_56_38 : ax_look 56 38 = some (.iconst 1, (0, 0, 0), .null, []) := by decide +kernel
theorem hk_56_39 : ax_look 56 39 = some (.ireturn, (0, 0, 0), .null, []) := by decide +kernel
theorem hk_56_40 : ax_look 56 40 = some (.aload_n 0, (0, 0, 0), .null, []) := by decide +kernel
theorem hk_56_41 : ax_look 56 41 = some (.getfield 65, (6, 2, 0), .null, [1062]) := by decide +kernel
theorem hk_56_44 : ax_look 56 44 = some (.iconst 5, (0, 0, 0), .null, []) := by decide +kernel
theorem hk_56_45 : ax_look 56 45 = some (.if_icmp .ne 7, (0, 0, 0), .null, []) := by decide +kernel
theorem hk_56_48 : ax_look 56 48 = some (.iconst 1, (0, 0, 0), .null, []) := by decide +kernel
theorem hk_56_49 : ax_look 56 49 = some (.goto 4, (0, 0, 0), .null, []) := by decide +kernel
theorem hk_56_52 : ax_look 56 52 = some (.iconst 0, (0, 0, 0), .null, []) := by decide +kernel
theorem hk_56_53 : ax_look 56 53 = some (.istore_n 3, (0, 0, 0), .null, []) := by decide +kernel
theorem hk_56_54 : ax_look 56 54 = some (.aload_n 0, (0, 0, 0), .null, []) := by decide +kernel
theorem hk_56_55 : ax_look 56 55 = some (.invokevirtual 52, (61, 0, 6), .null, [2047, 0]) := by decide +kernel
theorem hk_56_58 : ax_look 56 58 = some (.aload_n 0, (0, 0, 0), .null, []) := by decide +kernel
theorem hk_56_59 : ax_look 56 59 = some (.iload_n 3, (0, 0, 0), .null, []) := by decide +kernel
theorem hk_56_60 : ax_look 56 60 = some (.invokevirtual 71, (57, 1, 6), .null, [2078, 6]) := by decide +kernel
theorem hk_56_63 : ax_look 56 63 = some (.istore_n 1, (0, 0, 0), .null, []) := by decide +kernel
theorem hk_56_64 : ax_look 56 64 = some (.iinc 2 1, (0, 0, 0), .null, []) := by decide +kernel
theorem hk_56_67 : ax_look 56 67 = some (.goto (-56), (0, 0, 0), .null, []) := by decide +kernel
theorem hk_56_70 : ax_look 56 70 = some (.iload_n 1, (0, 0, 0), .null, []) := by decide +kernel
theorem hk_56_71 : ax_look 56 71 = some (.ireturn, (0, 0, 0), .null, []) := by decide +kernel
theorem hn_57 : (ax_mm 57).2.2.1 = 4 := by decide +kernel
theorem hr_57 : (ax_mm 57).2.2.2.1 = (some .boolean) := by decide +kernel
theorem hk_57_0 : ax_look 57 0 = some (.iconst 1, (0, 0, 0), .null, []) := by decide +kernel
theorem hk_57_1 : ax_look 57 1 = some (.istore_n 2, (0, 0, 0), .null, []) := by decide +kernel
theorem hk_57_2 : ax_look 57 2 = some (.aload_n 0, (0, 0, 0), .null, []) := by decide +kernel
theorem hk_57_3 : ax_look 57 3 = some (.getfield 65, (6, 2, 0), .null, [1062]) := by decide +kernel
theorem hk_57_6 : ax_look 57 6 = some (.iconst 2, (0, 0, 0), .null, []) := by decide +kernel
theorem hk_57_7 : ax_look 57 7 = some (.if_icmp .ne 12, (0, 0, 0), .null, []) := by decide +kernel
theorem hk_57_10 : ax_look 57 10 = some (.aload_n 0, (0, 0, 0), .null, []) := by decide +kernel
theorem hk_57_11 : ax_look 57 11 = some (.getfield 77, (6, 4, 0), .null, [1065]) := by decide +kernel
theorem hk_57_14 : ax_look 57 14 = some (.istore_n 2, (0, 0, 0), .null, []) := by decide +kernel
theorem hk_57_15 : ax_look 57 15 = some (.aload_n 0, (0, 0, 0), .null, []) := by decide +kernel
theorem hk_57_16 : ax_look 57 16 = some (.invokevirtual 52, (61, 0, 6), .null, [2047, 0]) := by decide +kernel
theorem hk_57_19 : ax_look 57 19 = some (.iconst 0, (0, 0, 0), .null, []) := by decide +kernel
theorem hk_57_20 : ax_look 57 20 = some (.istore_n 3, (0, 0, 0), .null, []) := by decide +kernel
theorem hk_57_21 : ax_look 57 21 = some (.aload_n 0, (0, 0, 0), .null, []) := by decide +kernel
theorem hk_57_22 : ax_look 57 22 = some (.getfield 65, (6, 2, 0), .null, [1062]) := by decide +kernel
theorem hk_57_25 : ax_look 57 25 = some (.bipush 6, (0, 0, 0), .null, []) := by decide +kernel
theorem hk_57_27 : ax_look 57 27 = some (.if_icmp .ne 9, (0, 0, 0), .null, []) := by decide +kernel
theorem hk_57_30 : ax_look 57 30 = some (.iconst 1, (0, 0, 0), .null, []) := by decide +kernel
theorem hk_57_31 : ax_look 57 31 = some (.istore_n 3, (0, 0, 0), .null, []) := by decide +kernel
theorem hk_57_32 : ax_look 57 32 = some (.aload_n 0, (0, 0, 0), .null, []) := by decide +kernel
theorem hk_57_33 : ax_look 57 33 = some (.invokevirtual 52, (61, 0, 6), .null, [2047, 0]) := by decide +kernel
theorem hk_57_36 : ax_look 57 36 = some (.aload_n 0, (0, 0, 0), .null, []) := by decide +kernel
theorem hk_57_37 : ax_look 57 37 = some (.getfield 65, (6, 2, 0), .null, [1062]) := by decide +kernel
theorem hk_57_40 : ax_look 57 40 = some (.iconst 3, (0, 0, 0), .null, []) := by decide +kernel
theorem hk_57_41 : ax_look 57 41 = some (.if_icmp .eq 5, (0, 0, 0), .null, []) := by decide +kernel
theorem hk_57_44 : ax_look 57 44 = some (.iconst 0, (0, 0, 0), .null, []) := by decide +kernel
theorem hk_57_45 : ax_look 57 45 = some (.ireturn, (0, 0, 0), .null, []) := by decide +kernel
theorem hk_57_46 : ax_look 57 46 = some (.aload_n 0, (0, 0, 0), .null, []) := by decide +kernel
theorem hk_57_47 : ax_look 57 47 = some (.getfield 9, (6, 6, 0), .null, [1067]) := by decide +kernel
theorem hk_57_50 : ax_look 57 50 = some (.iconst 2, (0, 0, 0), .null, []) := by decide +kernel
theorem hk_57_51 : ax_look 57 51 = some (.aload_n 0, (0, 0, 0), .null, []) := by decide +kernel
theorem hk_57_52 : ax_look 57 52 = some (.getfield 80, (6, 5, 0), .null, [1066]) := by decide +kernel
theorem hk_57_55 : ax_look 57 55 = some (.imul, (0, 0, 0), .null, []) := by decide +kernel
theorem hk_57_56 : ax_look 57 56 = some (.iload_n 3, (0, 0, 0), .null, []) := by decide +kernel
theorem hk_57_57 : ax_look 57 57 = some (.iadd, (0, 0, 0), .null, []) := by decide +kernel
theorem hk_57_58 : ax_look 57 58 = some (.dup2, (0, 0, 0), .null, []) := by decide +kernel
theorem hk_57_59 : ax_look 57 59 = some (.iaload, (0, 0, 0), .null, []) := by decide +kernel
theorem hk_57_60 : ax_look 57 60 = some (.iload_n 1, (0, 0, 0), .null, []) := by decide +kernel
theorem hk_57_61 : ax_look 57 61 = some (.ifCond .eq 8, (0, 0, 0), .null, []) := by decide +kernel
theorem hk_57_64 : ax_look 57 64 = some (.iload_n 2, (0, 0, 0), .null, []) := by decide +kernel
theorem hk_57_65 : ax_look 57 65 = some (.ineg, (0, 0, 0), .null, []) := by decide +kernel
theorem hk_57_66 : ax_look 57 66 = some (.goto 4, (0, 0, 0), .null, []) := by decide +kernel
theorem hk_57_69 : ax_look 57 69 = some (.iload_n 2, (0, 0, 0), .null, []) := by decide +kernel
theorem hk_57_70 : ax_look 57 70 = some (.iadd, (0, 0, 0), .null, []) := by decide +kernel
theorem hk_57_71 : ax_look 57 71 = some (.iastore, (0, 0, 0), .null, []) := by decide +kernel
theorem hk_57_72 : ax_look 57 72 = some (.aload_n 0, (0, 0, 0), .null, []) := by decide +kernel
theorem hk_57_73 : ax_look 57 73 = some (.invokevirtual 52, (61, 0, 6), .null, [2047, 0]) := by decide +kernel
theorem hk_57_76 : ax_look 57 76 = some (.iconst 1, (0, 0, 0), .null, []) := by decide +kernel
theorem hk_57_77 : ax_look 57 77 = some (.ireturn, (0, 0, 0), .null, []) := by decide +kernel
theorem hn_58 : (ax_mm 58).2.2.1 = 1 := by decide +kernel
theorem hr_58 : (ax_mm 58).2.2.2.1 = (some .boolean) := by decide +kernel
theorem hk_58_0 : ax_look 58 0 = some (.aload_n 0, (0, 0, 0), .null, []) := by decide +kernel
theorem hk_58_1 : ax_look 58 1 = some (.getfield 65, (6, 2, 0), .null, [1062]) := by decide +kernel
theorem hk_58_4 : ax_look 58 4 = some (.bipush 7, (0, 0, 0), .null, []) := by decide +kernel
theorem hk_58_6 : ax_look 58 6 = some (.if_icmp .eq 23, (0, 0, 0), .null, []) := by decide +kernel
theorem hk_58_9 : ax_look 58 9 = some (.aload_n 0, (0, 0, 0), .null, []) := by decide +kernel
theorem hk_58_10 : ax_look 58 10 = some (.getfield 65, (6, 2, 0), .null, [1062]) := by decide +kernel
theorem hk_58_13 : ax_look 58 13 = some (.bipush 8, (0, 0, 0), .null, []) := by decide +kernel
theorem hk_58_15 : ax_look 58 15 = some (.if_icmp .eq 14, (0, 0, 0), .null, []) := by decide +kernel
theorem hk_58_18 : ax_look 58 18 = some (.aload_n 0, (0, 0, 0), .null, []) := by decide +kernel
theorem hk_58_19 : ax_look 58 19 = some (.getfield 65, (6, 2, 0), .null, [1062]) := by decide +kernel
theorem hk_58_22 : ax_look 58 22 = some (.bipush 9, (0, 0, 0), .null, []) := by decide +kernel
theorem hk_58_24 : ax_look 58 24 = some (.if_icmp .eq 5, (0, 0, 0), .null, []) := by decide +kernel
theorem hk_58_27 : ax_look 58 27 = some (.iconst 0, (0, 0, 0), .null, []) := by decide +kernel
theorem hk_58_28 : ax_look 58 28 = some (.ireturn, (0, 0, 0), .null, []) := by decide +kernel
theorem hk_58_29 : ax_look 58 29 = some (.aload_n 0, (0, 0, 0), .null, []) := by decide +kernel
theorem hk_58_30 : ax_look 58 30 = some (.aload_n 0, (0, 0, 0), .null, []) := by decide +kernel
theorem hk_58_31 : ax_look 58 31 = some (.getfield 65, (6, 2, 0), .null, [1062]) := by decide +kernel
theorem hk_58_34 : ax_look 58 34 = some (.putfield 19, (6, 7, 0), .null, [1068]) := by decide +kernel
theorem hk_58_37 : ax_look 58 37 = some (.aload_n 0, (0, 0, 0), .null, []) := by decide +kernel
theorem hk_58_38 : ax_look 58 38 = some (.invokevirtual 52, (61, 0, 6), .null, [2047, 0]) := by decide +kernel
theorem hk_58_41 : ax_look 58 41 = some (.iconst 1, (0, 0, 0), .null, []) := by decide +kernel
theorem hk_58_42 : ax_look 58 42 = some (.ireturn, (0, 0, 0), .null, []) := by decide +kernel
theorem hn_59 : (ax_mm 59).2.2.1 = 2 := by decide +kernel
theorem hr_59 : (ax_mm 59).2.2.2.1 = (some .boolean) := by decide +kernel
theorem hk_59_0 : ax_look 59 0 = some (.aload_n 0, (0, 0, 0), .null, []) := by decide +kernel
theorem hk_59_1 : ax_look 59 1 = some (.invokevirtual 68, (60, 0, 6), .null, [2074, 5]) := by decide +kernel
theorem hk_59_4 : ax_look 59 4 = some (.istore_n 1, (0, 0, 0), .null, []) := by decide +kernel
theorem hk_59_5 : ax_look 59 5 = some (.aload_n 0, (0, 0, 0), .null, []) := by decide +kernel
theorem hk_59_6 : ax_look 59 6 = some (.getfield 65, (6, 2, 0), .null, [1062]) := by decide +kernel
theorem hk_59_9 : ax_look 59 9 = some (.iconst 2, (0, 0, 0), .null, []) := by decide +kernel
theorem hk_59_10 : ax_look 59 10 = some (.if_icmp .eq 5, (0, 0, 0), .null, []) := by decide +kernel
theorem hk_59_13 : ax_look 59 13 = some (.iconst 0, (0, 0, 0), .null, []) := by decide +kernel
theorem hk_59_14 : ax_look 59 14 = some (.ireturn, (0, 0, 0), .null, []) := by decide +kernel
theorem hk_59_15 : ax_look 59 15 = some (.aload_n 0, (0, 0, 0), .null, []) := by decide +kernel
theorem hk_59_16 : ax_look 59 16 = some (.iload_n 1, (0, 0, 0), .null, []) := by decide +kernel
theorem hk_59_17 : ax_look 59 17 = some (.ifCond .eq 11, (0, 0, 0), .null, []) := by decide +kernel
theorem hk_59_20 : ax_look 59 20 = some (.aload_n 0, (0, 0, 0), .null, []) := by decide +kernel
theorem hk_59_21 : ax_look 59 21 = some (.getfield 77, (6, 4, 0), .null, [1065]) := by decide +kernel
theorem hk_59_24 : ax_look 59 24 = some (.ineg, (0, 0, 0), .null, []) := by decide +kernel
theorem hk_59_25 : ax_look 59 25 = some (.goto 7, (0, 0, 0), .null, []) := by decide +kernel
theorem hk_59_28 : ax_look 59 28 = some (.aload_n 0, (0, 0, 0), .null, []) := by decide +kernel
theorem hk_59_29 : ax_look 59 29 = some (.getfield 77, (6, 4, 0), .null, [1065]) := by decide +kernel
theorem hk_59_32 : ax_look 59 32 = some (.putfield 32, (6, 8, 0), .null, [1069]) := by decide +kernel
theorem hk_59_35 : ax_look 59 35 = some (.aload_n 0, (0, 0, 0), .null, []) := by decide +kernel
theorem hk_59_36 : ax_look 59 36 = some (.invokevirtual 52, (61, 0, 6), .null, [2047, 0]) := by decide +kernel
theorem hk_59_39 : ax_look 59 39 = some (.iconst 1, (0, 0, 0), .null, []) := by decide +kernel
theorem hk_59_40 : ax_look 59 40 = some (.ireturn, (0, 0, 0), .null, []) := by decide +kernel
theorem hn_60 : (ax_mm 60).2.2.1 = 1 := by decide +kernel
theorem hr_60 : (ax_mm 60).2.2.2.1 = (some .boolean) := by decide +kernel
theorem hk_60_0 : ax_look 60 0 = some (.aload_n 0, (0, 0, 0), .null, []) := by decide +kernel
theorem hk_60_1 : ax_look 60 1 = some (.getfield 65, (6, 2, 0), .null, [1062]) := by decide +kernel
theorem hk_60_4 : ax_look 60 4 = some (.iconst 5, (0, 0, 0), .null, []) := by decide +kernel
theorem hk_60_5 : ax_look 60 5 = some (.if_icmp .eq 5, (0, 0, 0), .null, []) := by decide +kernel
theorem hk_60_8 : ax_look 60 8 = some (.iconst 0, (0, 0, 0), .null, []) := by decide +kernel
theorem hk_60_9 : ax_look 60 9 = some (.ireturn, (0, 0, 0), .null, []) := by decide +kernel
theorem hk_60_10 : ax_look 60 10 = some (.aload_n 0, (0, 0, 0), .null, []) := by decide +kernel
theorem hk_60_11 : ax_look 60 11 = some (.invokevirtual 52, (61, 0, 6), .null, [2047, 0]) := by decide +kernel
theorem hk_60_14 : ax_look 60 14 = some (.iconst 1, (0, 0, 0), .null, []) := by decide +kernel
theorem hk_60_15 : ax_look 60 15 = some (.ireturn, (0, 0, 0), .null, []) := by decide +kernel
theorem hn_61 : (ax_mm 61).2.2.1 = 2 := by decide +kernel
theorem hr_61 : (ax_mm 61).2.2.2.1 = none := by decide +kernel
theorem hk_61_0 : ax_look 61 0 = some (.aload_n 0, (0, 0, 0), .null, []) := by decide +kernel
theorem hk_61_1 : ax_look 61 1 = some (.getfield 49, (6, 1, 0), .null, [1061]) := by decide +kernel
theorem hk_61_4 : ax_look 61 4 = some (.sipush 200, (0, 0, 0), .null, []) := by decide +kernel
theorem hk_61_7 : ax_look 61 7 = some (.if_icmp .ge 32, (0, 0, 0), .null, []) := by decide +kernel
theorem hk_61_10 : ax_look 61 10 = some (.aload_n 0, (0, 0, 0), .null, []) := by decide +kernel
theorem hk_61_11 : ax_look 61 11 = some (.getfield 15, (6, 0, 0), .null, [1060]) := by decide +kernel
theorem hk_61_14 : ax_look 61 14 = some (.aload_n 0, (0, 0, 0), .null, []) := by decide +kernel
theorem hk_61_15 : ax_look 61 15 = some (.getfield 49, (6, 1, 0), .null, [1061]) := by decide +kernel
theorem hk_61_18 : ax_look 61 18 = some (.invokevirtual 83, (68, 1, 7), .null, [2051, 2053]) := by decide +kernel
theorem hk_61_21 : ax_look 61 21 = some (.bipush 32, (0, 0, 0), .null, []) := by decide +kernel
theorem hk_61_23 : ax_look 61 23 = some (.if_icmp .ne 16, (0, 0, 0), .null, []) := by decide +kernel
theorem hk_61_26 : ax_look 61 26 = some (.aload_n 0, (0, 0, 0), .null, []) := by decide +kernel
theorem hk_61_27 : ax_look 61 27 = some (.dup, (0, 0, 0), .null, []) := by decide +kernel
theorem hk_61_28 : ax_look 61 28 = some (.getfield 49, (6, 1, 0), .null, [1061]) := by decide +kernel
theorem hk_61_31 : ax_look 61 31 = some (.iconst 1, (0, 0, 0), .null, []) := by decide +kernel
theorem hk_61_32 : ax_look 61 32 = some (.iadd, (0, 0, 0), .null, []) := by decide +kernel
theorem hk_61_33 : ax_look 61 33 = some (.putfield 49, (6, 1, 0), .null, [1061]) := by decide +kernel
theorem hk_61_36 : ax_look 61 36 = some (.goto (-36), (0, 0, 0), .null, []) := by decide +kernel
theorem hk_61_39 : ax_look 61 39 = some (.aload_n 0, (0, 0, 0), .null, []) := by decide +kernel
theorem hk_61_40 : ax_look 61 40 = some (.aload_n 0, (0, 0, 0), .null, []) := by decide +kernel
theorem hk_61_41 : ax_look 61 41 = some (.getfield 49, (6, 1, 0), .null, [1061]) := by decide +kernel
theorem hk_61_44 : ax_look 61 44 = some (.putfield 87, (6, 3, 0), .null, [1063]) := by decide +kernel
theorem hk_61_47 : ax_look 61 47 = some (.aload_n 0, (0, 0, 0), .null, []) := by decide +kernel
theorem hk_61_48 : ax_look 61 48 = some (.getfield 15, (6, 0, 0), .null, [1060]) := by decide +kernel
theorem hk_61_51 : ax_look 61 51 = some (.aload_n 0, (0, 0, 0), .null, []) := by decide +kernel
theorem hk_61_52 : ax_look 61 52 = some (.getfield 49, (6, 1, 0), .null, [1061]) := by decide +kernel
theorem hk_61_55 : ax_look 61 55 = some (.invokevirtual 83, (68, 1, 7), .null, [2051, 2053]) := by decide +kernel
theorem hk_61_58 : ax_look 61 58 = some (.istore_n 1, (0, 0, 0), .null, []) := by decide +kernel
theorem hk_61_59 : ax_look 61 59 = some (.iload_n 1, (0, 0, 0), .null, []) := by decide +kernel
theorem hk_61_60 : ax_look 61 60 = some (.invokestatic 90, (65, 1, 0), .null, [2055]) := by decide +kernel
theorem hk_61_63 : ax_look 61 63 = some (.ifCond .eq 10, (0, 0, 0), .null, []) := by decide +kernel
theorem hk_61_66 : ax_look 61 66 = some (.aload_n 0, (0, 0, 0), .null, []) := by decide +kernel
theorem hk_61_67 : ax_look 61 67 = some (.invokevirtual 94, (62, 0, 6), .null, [2058, 1]) := by decide +kernel
theorem hk_61_70 : ax_look 61 70 = some (.goto 37, (0, 0, 0), .null, []) := by decide +kernel
theorem hk_61_73 : ax_look 61 73 = some (.iload_n 1, (0, 0, 0), .null, []) := by decide +kernel
theorem hk_61_74 : ax_look 61 74 = some (.bipush 97, (0, 0, 0), .null, []) := by decide +kernel
theorem hk_61_76 : ax_look 61 76 = some (.if_icmp .lt 26, (0, 0, 0), .null, []) := by decide +kernel
theorem hk_61_79 : ax_look 61 79 = some (.iload_n 1, (0, 0, 0), .null, []) := by decide +kernel
theorem hk_61_80 : ax_look 61 80 = some (.bipush 108, (0, 0, 0), .null, []) := by decide +kernel
theorem hk_61_82 : ax_look 61 82 = some (.if_icmp .gt 20, (0, 0, 0), .null, []) := by decide +kernel
theorem hk_61_85 : ax_look 61 85 = some (.aload_n 0, (0, 0, 0), .null, []) := by decide +kernel
theorem hk_61_86 : ax_look 61 86 = some (.iload_n 1, (0, 0, 0), .null, []) := by decide +kernel
theorem hk_61_87 : ax_look 61 87 = some (.bipush 97, (0, 0, 0), .null, []) := by decide +kernel
theorem hk_61_89 : ax_look 61 89 = some (.isub, (0, 0, 0), .null, []) := by decide +kernel
theorem hk_61_90 : ax_look 61 90 = some (.putfield 80, (6, 5, 0), .null, [1066]) := by decide +kernel
theorem hk_61_93 : ax_look 61 93 = some (.aload_n 0, (0, 0, 0), .null, []) := by decide +kernel
theorem hk_61_94 : ax_look 61 94 = some (.iconst 3, (0, 0, 0), .null, []) := by decide +kernel
theorem hk_61_95 : ax_look 61 95 = some (.iconst 1, (0, 0, 0), .null, []) := by decide +kernel
theorem hk_61_96 : ax_look 61 96 = some (.invokevirtual 97, (64, 2, 6), .null, [2062, 2]) := by decide +kernel
theorem hk_61_99 : ax_look 61 99 = some (.goto 8, (0, 0, 0), .null, []) := by decide +kernel
theorem hk_61_102 : ax_look 61 102 = some (.aload_n 0, (0, 0, 0), .null, []) := by decide +kernel
theorem hk_61_103 : ax_look 61 103 = some (.iload_n 1, (0, 0, 0), .null, []) := by decide +kernel
theorem hk_61_104 : ax_look 61 104 = some (.invokevirtual 101, (63, 1, 6), .null, [2066, 3]) := by decide +kernel
theorem hk_61_107 : ax_look 61 107 = some (.return_, (0, 0, 0), .null, []) := by decide +kernel
theorem hn_62 : (ax_mm 62).2.2.1 = 2 := by decide +kernel
theorem hr_62 : (ax_mm 62).2.2.2.1 = none := by decide +kernel
theorem hk_62_0 : ax_look 62 0 = some (.iconst 0, (0, 0, 0), .null, []) := by decide +kernel
theorem hk_62_1 : ax_look 62 1 = some (.istore_n 1, (0, 0, 0), .null, []) := by decide +kernel
theorem hk_62_2 : ax_look 62 2 = some (.aload_n 0, (0, 0, 0), .null, []) := by decide +kernel
theorem hk_62_3 : ax_look 62 3 = some (.iconst 0, (0, 0, 0), .null, []) := by decide +kernel
theorem hk_62_4 : ax_look 62 4 = some (.putfield 77, (6, 4, 0), .null, [1065]) := by decide +kernel
theorem hk_62_7 : ax_look 62 7 = some (.aload_n 0, (0, 0, 0), .null, []) := by decide +kernel
theorem hk_62_8 : ax_look 62 8 = some (.getfield 49, (6, 1, 0), .null, [1061]) := by decide +kernel
theorem hk_62_11 : ax_look 62 11 = some (.sipush 200, (0, 0, 0), .null, []) := by decide +kernel
theorem hk_62_14 : ax_look 62 14 = some (.if_icmp .ge 68, (0, 0, 0), .null, []) := by decide +kernel
theorem hk_62_17 : ax_look 62 17 = some (.aload_n 0, (0, 0, 0), .null, []) := by decide +kernel
theorem hk_62_18 : ax_look 62 18 = some (.getfield 15, (6, 0, 0), .null, [1060]) := by decide +kernel
theorem hk_62_21 : ax_look 62 21 = some (.aload_n 0, (0, 0, 0), .null, []) := by decide +kernel
theorem hk_62_22 : ax_look 62 22 = some (.getfield 49, (6, 1, 0), .null, [1061]) := by decide +kernel
theorem hk_62_25 : ax_look 62 25 = some (.invokevirtual 83, (68, 1, 7), .null, [2051, 2053]) := by decide +kernel
theorem hk_62_28 : ax_look 62 28 = some (.invokestatic 90, (65, 1, 0), .null, [2055]) := by decide +kernel
theorem hk_62_31 : ax_look 62 31 = some (.ifCond .eq 51, (0, 0, 0), .null, []) := by decide +kernel
theorem hk_62_34 : ax_look 62 34 = some (.iload_n 1, (0, 0, 0), .null, []) := by decide +kernel
theorem hk_62_35 : ax_look 62 35 = some (.bipush 6, (0, 0, 0), .null, []) := by decide +kernel
theorem hk_62_37 : ax_look 62 37 = some (.if_icmp .ge 29, (0, 0, 0), .null, []) := by decide +kernel
theorem hk_62_40 : ax_look 62 40 = some (.aload_n 0, (0, 0, 0), .null, []) := by decide +kernel
theorem hk_62_41 : ax_look 62 41 = some (.aload_n 0, (0, 0, 0), .null, []) := by decide +kernel
theorem hk_62_42 : ax_look 62 42 = some (.getfield 77, (6, 4, 0), .null, [1065]) := by decide +kernel
theorem hk_62_45 : ax_look 62 45 = some (.bipush 10, (0, 0, 0), .null, []) := by decide +kernel
theorem hk_62_47 : ax_look 62 47 = some (.imul, (0, 0, 0), .null, []) := by decide +kernel
theorem hk_62_48 : ax_look 62 48 = some (.aload_n 0, (0, 0, 0), .null, []) := by decide +kernel
theorem hk_62_49 : ax_look 62 49 = some (.getfield 15, (6, 0, 0), .null, [1060]) := by decide +kernel
theorem hk_62_52 : ax_look 62 52 = some (.aload_n 0, (0, 0, 0), .null, []) := by decide +kernel
theorem hk_62_53 : ax_look 62 53 = some (.getfield 49, (6, 1, 0), .null, [1061]) := by decide +kernel
theorem hk_62_56 : ax_look 62 56 = some (.invokevirtual 83, (68, 1, 7), .null, [2051, 2053]) := by decide +kernel
theorem hk_62_59 : ax_look 62 59 = some (.iadd, (0, 0, 0), .null, []) := by decide +kernel
theorem hk_62_60 : ax_look 62 60 = some (.bipush 48, (0, 0, 0), .null, []) := by decide +kernel
theorem hk_62_62 : ax_look 62 62 = some (.isub, (0, 0, 0), .null, []) := by decide +kernel
theorem hk_62_63 : ax_look 62 63 = some (.putfield 77, (6, 4, 0), .null, [1065]) := by decide +kernel
theorem hk_62_66 : ax_look 62 66 = some (.iinc 1 1, (0, 0, 0), .null, []) := by decide +kernel
theorem hk_62_69 : ax_look 62 69 = some (.aload_n 0, (0, 0, 0), .null, []) := by decide +kernel
theorem hk_62_70 : ax_look 62 70 = some (.dup, (0, 0, 0), .null, []) := by decide +kernel
theorem hk_62_71 : ax_look 62 71 = some (.getfield 49, (6, 1, 0), .null, [1061]) := by decide +kernel
theorem hk_62_74 : ax_look 62 74 = some (.iconst 1, (0, 0, 0), .null, []) := by decide +kernel
theorem hk_62_75 : ax_look 62 75 = some (.iadd, (0, 0, 0), .null, []) := by decide +kernel
theorem hk_62_76 : ax_look 62 76 = some (.putfield 49, (6, 1, 0), .null, [1061]) := by decide +kernel
theorem hk_62_79 : ax_look 62 79 = some (.goto (-72), (0, 0, 0), .null, []) := by decide +kernel
theorem hk_62_82 : ax_look 62 82 = some (.aload_n 0, (0, 0, 0), .null, []) := by decide +kernel
theorem hk_62_83 : ax_look 62 83 = some (.iload_n 1, (0, 0, 0), .null, []) := by decide +kernel
theorem hk_62_84 : ax_look 62 84 = some (.bipush 6, (0, 0, 0), .null, []) := by decide +kernel
theorem hk_62_86 : ax_look 62 86 = some (.if_icmp .gt 7, (0, 0, 0), .null, []) := by decide +kernel
theorem hk_62_89 : ax_look 62 89 = some (.iconst 2, (0, 0, 0), .null, []) := by decide +kernel
theorem hk_62_90 : ax_look 62 90 = some (.goto 4, (0, 0, 0), .null, []) := by decide +kernel
theorem hk_62_93 : ax_look 62 93 = some (.iconst 1, (0, 0, 0), .null, []) := by decide +kernel
theorem hk_62_94 : ax_look 62 94 = some (.putfield 65, (6, 2, 0), .null, [1062]) := by decide +kernel
theorem hk_62_97 : ax_look 62 97 = some (.return_, (0, 0, 0), .null, []) := by decide +kernel
theorem hn_63 : (ax_mm 63).2.2.1 = 3 := by decide +kernel
theorem hr_63 : (ax_mm 63).2.2.2.1 = none := by decide +kernel
theorem hk_63_0 : ax_look 63 0 = some (.aload_n 0, (0, 0, 0), .null, []) := by decide +kernel
theorem hk_63_1 : ax_look 63 1 = some (.getfield 15, (6, 0, 0), .null, [1060]) := by decide +kernel
theorem hk_63_4 : ax_look 63 4 = some (.aload_n 0, (0, 0, 0), .null, []) := by decide +kernel
theorem hk_63_5 : ax_look 63 5 = some (.getfield 49, (6, 1, 0), .null, [1061]) := by decide +kernel
theorem hk_63_8 : ax_look 63 8 = some (.iconst 1, (0, 0, 0), .null, []) := by decide +kernel
theorem hk_63_9 : ax_look 63 9 = some (.iadd, (0, 0, 0), .null, []) := by decide +kernel
theorem hk_63_10 : ax_look 63 10 = some (.invokevirtual 83, (68, 1, 7), .null, [2051, 2053]) := by decide +kernel
theorem hk_63_13 : ax_look 63 13 = some (.bipush 61, (0, 0, 0), .null, []) := by decide +kernel
theorem hk_63_15 : ax_look 63 15 = some (.if_icmp .ne 7, (0, 0, 0), .null, []) := by decide +kernel
theorem hk_63_18 : ax_look 63 18 = some (.iconst 1, (0, 0, 0), .null, []) := by decide +kernel
theorem hk_63_19 : ax_look 63 19 = some (.goto 4, (0, 0, 0), .null, []) := by decide +kernel
theorem hk_63_22 : ax_look 63 22 = some (.iconst 0, (0, 0, 0), .null, []) := by decide +kernel
theorem hk_63_23 : ax_look 63 23 = some (.istore_n 2, (0, 0, 0), .null, []) := by decide +kernel
theorem hk_63_24 : ax_look 63 24 = some (.iload_n 1, (0, 0, 0), .null, []) := by decide +kernel
theorem hk_63_25 : ax_look 63 25 = some (.ifCond .ge 12, (0, 0, 0), .null, []) := by decide +kernel
theorem hk_63_28 : ax_look 63 28 = some (.aload_n 0, (0, 0, 0), .null, []) := by decide +kernel
theorem hk_63_29 : ax_look 63 29 = some (.iconst 0, (0, 0, 0), .null, []) := by decide +kernel
theorem hk_63_30 : ax_look 63 30 = some (.iconst 0, (0, 0, 0), .null, []) := by decide +kernel
theorem hk_63_31 : ax_look 63 31 = some (.invokevirtual 97, (64, 2, 6), .null, [2062, 2]) := by decide +kernel
theorem hk_63_34 : ax_look 63 34 = some (.goto 111, (0, 0, 0), .null, []) := by decide +kernel
theorem hk_63_37 : ax_look 63 37 = some (.iload_n 1, (0, 0, 0), .null, []) := by decide +kernel
theorem hk_63_38 : ax_look 63 38 = some (.bipush 43, (0, 0, 0), .null, []) := by decide +kernel
theorem hk_63_40 : ax_look 63 40 = some (.if_icmp .ne 12, (0, 0, 0), .null, []) := by decide +kernel
theorem hk_63_43 : ax_look 63 43 = some (.aload_n 0, (0, 0, 0), .null, []) := by decide +kernel
theorem hk_63_44 : ax_look 63 44 = some (.iconst 4, (0, 0, 0), .null, []) := by decide +kernel
theorem hk_63_45 : ax_look 63 45 = some (.iconst 1, (0, 0, 0), .null, []) := by decide +kernel
theorem hk_63_46 : ax_look 63 46 = some (.invokevirtual 97, (64, 2, 6), .null, [2062, 2]) := by decide +kernel
theorem hk_63_49 : ax_look 63 49 = some (.goto 96, (0, 0, 0), .null, []) := by decide +kernel
theorem hk_63_52 : ax_look 63 52 = some (.iload_n 1, (0, 0, 0), .null, []) := by decide +kernel
theorem hk_63_53 : ax_look 63 53 = some (.bipush 45, (0, 0, 0), .null, []) := by decide +kernel
theorem hk_63_55 : ax_look 63 55 = some (.if_icmp .ne 12, (0, 0, 0), .null, []) := by decide +kernel
theorem hk_63_58 : ax_look 63 58 = some (.aload_n 0, (0, 0, 0), .null, []) := by decide +kernel
theorem hk_63_59 : ax_look 63 59 = some (.iconst 5, (0, 0, 0), .null, []) := by decide +kernel
theorem hk_63_60 : ax_look 63 60 = some (.iconst 1, (0, 0, 0), .null, []) := by decide +kernel
theorem hk_63_61 : ax_look 63 61 = some (.invokevirtual 97, (64, 2, 6), .null, [2062, 2]) := by decide +kernel
theorem hk_63_64 : ax_look 63 64 = some (.goto 81, (0, 0, 0), .null, []) := by decide +kernel
theorem hk_63_67 : ax_look 63 67 = some (.iload_n 1, (0, 0, 0), .null, []) := by decide +kernel
theorem hk_63_68 : ax_look 63 68 = some (.bipush 126, (0, 0, 0), .null, []) := by decide +kernel
theorem hk_63_70 : ax_look 63 70 = some (.if_icmp .ne 13, (0, 0, 0), .null, []) := by decide +kernel
theorem hk_63_73 : ax_look 63 73 = some (.aload_n 0, (0, 0, 0), .null, []) := by decide +kernel
theorem hk_63_74 : ax_look 63 74 = some (.bipush 6, (0, 0, 0), .null, []) := by decide +kernel
theorem hk_63_76 : ax_look 63 76 = some (.iconst 1, (0, 0, 0), .null, []) := by decide +kernel
theorem hk_63_77 : ax_look 63 77 = some (.invokevirtual 97, (64, 2, 6), .null, [2062, 2]) := by decide +kernel
theorem hk_63_80 : ax_look 63 80 = some (.goto 65, (0, 0, 0), .null, []) := by decide +kernel
theorem hk_63_83 : ax_look 63 83 = some (.iload_n 1, (0, 0, 0), .null, []) := by decide +kernel
theorem hk_63_84 : ax_look 63 84 = some (.bipush 61, (0, 0, 0), .null, []) := by decide +kernel
theorem hk_63_86 : ax_look 63 86 = some (.if_icmp .ne 13, (0, 0, 0), .null, []) := by decide +kernel
theorem hk_63_89 : ax_look 63 89 = some (.aload_n 0, (0, 0, 0), .null, []) := by decide +kernel
theorem hk_63_90 : ax_look 63 90 = some (.bipush 9, (0, 0, 0), .null, []) := by decide +kernel
theorem hk_63_92 : ax_look 63 92 = some (.iconst 1, (0, 0, 0), .null, []) := by decide +kernel
theorem hk_63_93 : ax_look 63 93 = some (.invokevirtual 97, (64, 2, 6), .null, [2062, 2]) := by decide +kernel
theorem hk_63_96 : ax_look 63 96 = some (.goto 49, (0, 0, 0), .null, []) := by decide +kernel
theorem hk_63_99 : ax_look 63 99 = some (.iload_n 1, (0, 0, 0), .null, []) := by decide +kernel
theorem hk_63_100 : ax_look 63 100 = some (.bipush 62, (0, 0, 0), .null, []) := by decide +kernel
theorem hk_63_102 : ax_look 63 102 = some (.if_icmp .ne 17, (0, 0, 0), .null, []) := by decide +kernel
theorem hk_63_105 : ax_look 63 105 = some (.iload_n 2, (0, 0, 0), .null, []) := by decide +kernel
theorem hk_63_106 : ax_look 63 106 = some (.ifCond .eq 13, (0, 0, 0), .null, []) := by decide +kernel
theorem hk_63_109 : ax_look 63 109 = some (.aload_n 0, (0, 0, 0), .null, []) := by decide +kernel
theorem hk_63_110 : ax_look 63 110 = some (.bipush 7, (0, 0, 0), .null, []) := by decide +kernel
theorem hk_63_112 : ax_look 63 112 = some (.iconst 2, (0, 0, 0), .null, []) := by decide +kernel
theorem hk_63_113 : ax_look 63 113 = some (.invokevirtual 97, (64, 2, 6), .null, [2062, 2]) := by decide +kernel
theorem hk_63_116 : ax_look 63 116 = some (.goto 29, (0, 0, 0), .null, []) := by decide +kernel
theorem hk_63_119 : ax_look 63 119 = some (.iload_n 1, (0, 0, 0), .null, []) := by decide +kernel
theorem hk_63_120 : ax_look 63 120 = some (.bipush 60, (0, 0, 0), .null, []) := by decide +kernel
theorem hk_63_122 : ax_look 63 122 = some (.if_icmp .ne 17, (0, 0, 0), .null, []) := by decide +kernel
theorem hk_63_125 : ax_look 63 125 = some (.iload_n 2, (0, 0, 0), .null, []) := by decide +kernel
theorem hk_63_126 : ax_look 63 126 = some (.ifCond .eq 13, (0, 0, 0), .null, []) := by decide +kernel
theorem hk_63_129 : ax_look 63 129 = some (.aload_n 0, (0, 0, 0), .null, []) := by decide +kernel
theorem hk_63_130 : ax_look 63 130 = some (.bipush 8, (0, 0, 0), .null, []) := by decide +kernel
theorem hk_63_132 : ax_look 63 132 = some (.iconst 2, (0, 0, 0), .null, []) := by decide +kernel
theorem hk_63_133 : ax_look 63 133 = some (.invokevirtual 97, (64, 2, 6), .null, [2062, 2]) := by decide +kernel
theorem hk_63_136 : ax_look 63 136 = some (.goto 9, (0, 0, 0), .null, []) := by decide +kernel
theorem hk_63_139 : ax_look 63 139 = some (.aload_n 0, (0, 0, 0), .null, []) := by decide +kernel
theorem hk_63_140 : ax_look 63 140 = some (.iconst 1, (0, 0, 0), .null, []) := by decide +kernel
theorem hk_63_141 : ax_look 63 141 = some (.iconst 0, (0, 0, 0), .null, []) := by decide +kernel
theorem hk_63_142 : ax_look 63 142 = some (.invokevirtual 97, (64, 2, 6), .null, [2062, 2]) := by decide +kernel
theorem hk_63_145 : ax_look 63 145 = some (.return_, (0, 0, 0), .null, []) := by decide +kernel
theorem hn_64 : (ax_mm 64).2.2.1 = 3 := by decide +kernel
theorem hr_64 : (ax_mm 64).2.2.2.1 = none := by decide +kernel
theorem hk_64_0 : ax_look 64 0 = some (.aload_n 0, (0, 0, 0), .null, []) := by decide +kernel
theorem hk_64_1 : ax_look 64 1 = some (.iload_n 1, (0, 0, 0), .null, []) := by decide +kernel
theorem hk_64_2 : ax_look 64 2 = some (.putfield 65, (6, 2, 0), .null, [1062]) := by decide +kernel
theorem hk_64_5 : ax_look 64 5 = some (.aload_n 0, (0, 0, 0), .null, []) := by decide +kernel
theorem hk_64_6 : ax_look 64 6 = some (.dup, (0, 0, 0), .null, []) := by decide +kernel
theorem hk_64_7 : ax_look 64 7 = some (.getfield 49, (6, 1, 0), .null, [1061]) := by decide +kernel
theorem hk_64_10 : ax_look 64 10 = some (.iload_n 2, (0, 0, 0), .null, []) := by decide +kernel
theorem hk_64_11 : ax_look 64 11 = some (.iadd, (0, 0, 0), .null, []) := by decide +kernel
theorem hk_64_12 : ax_look 64 12 = some (.putfield 49, (6, 1, 0), .null, [1061]) := by decide +kernel
theorem hk_64_15 : ax_look 64 15 = some (.return_, (0, 0, 0), .null, []) := by decide +kernel
theorem hn_65 : (ax_mm 65).2.2.1 = 1 := by decide +kernel
theorem hr_65 : (ax_mm 65).2.2.2.1 = (some .boolean) := by decide +kernel
theorem hk_65_0 : ax_look 65 0 = some (.iload_n 0, (0, 0, 0), .null, []) := by decide +kernel
theorem hk_65_1 : ax_look 65 1 = some (.bipush 48, (0, 0, 0), .null, []) := by decide +kernel
theorem hk_65_3 : ax_look 65 3 = some (.if_icmp .lt 13, (0, 0, 0), .null, []) := by decide +kernel
theorem hk_65_6 : ax_look 65 6 = some (.iload_n 0, (0, 0, 0), .null, []) := by decide +kernel
theorem hk_65_7 : ax_look 65 7 = some (.bipush 57, (0, 0, 0), .null, []) := by decide +kernel
theorem hk_65_9 : ax_look 65 9 = some (.if_icmp .gt 7, (0, 0, 0), .null, []) := by decide +kernel
theorem hk_65_12 : ax_look 65 12 = some (.iconst 1, (0, 0, 0), .null, []) := by decide +kernel
theorem hk_65_13 : ax_look 65 13 = some (.goto 4, (0, 0, 0), .null, []) := by decide +kernel
theorem hk_65_16 : ax_look 65 16 = some (.iconst 0, (0, 0, 0), .null, []) := by decide +kernel
theorem hk_65_17 : ax_look 65 17 = some (.ireturn, (0, 0, 0), .null, []) := by decide +kernel
theorem hn_67 : (ax_mm 67).2.2.1 = 3 := by decide +kernel
theorem hr_67 : (ax_mm 67).2.2.2.1 = none := by decide +kernel
theorem hk_67_0 : ax_look 67 0 = some (.bipush 24, (0, 0, 0), .null, []) := by decide +kernel
theorem hk_67_2 : ax_look 67 2 = some (.istore_n 2, (0, 0, 0), .null, []) := by decide +kernel
theorem hk_67_3 : ax_look 67 3 = some (.iload_n 2, (0, 0, 0), .null, []) := by decide +kernel
theorem hk_67_4 : ax_look 67 4 = some (.ifCond .lt 45, (0, 0, 0), .null, []) := by decide +kernel
theorem hk_67_7 : ax_look 67 7 = some (.aload_n 0, (0, 0, 0), .null, []) := by decide +kernel
theorem hk_67_8 : ax_look 67 8 = some (.getfield 13, (7, 1, 0), .null, [1046]) := by decide +kernel
theorem hk_67_11 : ax_look 67 11 = some (.sipush 200, (0, 0, 0), .null, []) := by decide +kernel
theorem hk_67_14 : ax_look 67 14 = some (.if_icmp .ge 35, (0, 0, 0), .null, []) := by decide +kernel
theorem hk_67_17 : ax_look 67 17 = some (.aload_n 0, (0, 0, 0), .null, []) := by decide +kernel
theorem hk_67_18 : ax_look 67 18 = some (.getfield 9, (7, 0, 0), .null, [1045]) := by decide +kernel
theorem hk_67_21 : ax_look 67 21 = some (.aload_n 0, (0, 0, 0), .null, []) := by decide +kernel
theorem hk_67_22 : ax_look 67 22 = some (.getfield 13, (7, 1, 0), .null, [1046]) := by decide +kernel
theorem hk_67_25 : ax_look 67 25 = some (.iload_n 1, (0, 0, 0), .null, []) := by decide +kernel
theorem hk_67_26 : ax_look 67 26 = some (.iload_n 2, (0, 0, 0), .null, []) := by decide +kernel
theorem hk_67_27 : ax_look 67 27 = some (.ishr, (0, 0, 0), .null, []) := by decide +kernel
theorem hk_67_28 : ax_look 67 28 = some (.sipush 255, (0, 0, 0), .null, []) := by decide +kernel
theorem hk_67_31 : ax_look 67 31 = some (.iand, (0, 0, 0), .null, []) := by decide +kernel
theorem hk_67_32 : ax_look 67 32 = some (.iastore, (0, 0, 0), .null, []) := by decide +kernel
theorem hk_67_33 : ax_look 67 33 = some (.aload_n 0, (0, 0, 0), .null, []) := by decide +kernel
theorem hk_67_34 : ax_look 67 34 = some (.dup, (0, 0, 0), .null, []) := by decide +kernel
theorem hk_67_35 : ax_look 67 35 = some (.getfield 13, (7, 1, 0), .null, [1046]) := by decide +kernel
theorem hk_67_38 : ax_look 67 38 = some (.iconst 1, (0, 0, 0), .null, []) := by decide +kernel
theorem hk_67_39 : ax_look 67 39 = some (.iadd, (0, 0, 0), .null, []) := by decide +kernel
theorem hk_67_40 : ax_look 67 40 = some (.putfield 13, (7, 1, 0), .null, [1046]) := by decide +kernel
theorem hk_67_43 : ax_look 67 43 = some (.iinc 2 (-8), (0, 0, 0), .null, []) := by decide +kernel
theorem hk_67_46 : ax_look 67 46 = some (.goto (-43), (0, 0, 0), .null, []) := by decide +kernel
theorem hk_67_49 : ax_look 67 49 = some (.return_, (0, 0, 0), .null, []) := by decide +kernel
theorem hn_68 : (ax_mm 68).2.2.1 = 2 := by decide +kernel
theorem hr_68 : (ax_mm 68).2.2.2.1 = (some .int) := by decide +kernel
theorem hk_68_0 : ax_look 68 0 = some (.iload_n 1, (0, 0, 0), .null, []) := by decide +kernel
theorem hk_68_1 : ax_look 68 1 = some (.ifCond .lt 20, (0, 0, 0), .null, []) := by decide +kernel
theorem hk_68_4 : ax_look 68 4 = some (.iload_n 1, (0, 0, 0), .null, []) := by decide +kernel
theorem hk_68_5 : ax_look 68 5 = some (.aload_n 0, (0, 0, 0), .null, []) := by decide +kernel
theorem hk_68_6 : ax_look 68 6 = some (.getfield 13, (7, 1, 0), .null, [1046]) := by decide +kernel
theorem hk_68_9 : ax_look 68 9 = some (.if_icmp .ge 12, (0, 0, 0), .null, []) := by decide +kernel
theorem hk_68_12 : ax_look 68 12 = some (.aload_n 0, (0, 0, 0), .null, []) := by decide +kernel
theorem hk_68_13 : ax_look 68 13 = some (.getfield 9, (7, 0, 0), .null, [1045]) := by decide +kernel
theorem hk_68_16 : ax_look 68 16 = some (.iload_n 1, (0, 0, 0), .null, []) := by decide +kernel
theorem hk_68_17 : ax_look 68 17 = some (.iaload, (0, 0, 0), .null, []) := by decide +kernel
theorem hk_68_18 : ax_look 68 18 = some (.goto 4, (0, 0, 0), .null, []) := by decide +kernel
theorem hk_68_21 : ax_look 68 21 = some (.iconst (-1), (0, 0, 0), .null, []) := by decide +kernel
theorem hk_68_22 : ax_look 68 22 = some (.ireturn, (0, 0, 0), .null, []) := by decide +kernel
theorem hn_70 : (ax_mm 70).2.2.1 = 6 := by decide +kernel
theorem hr_70 : (ax_mm 70).2.2.2.1 = (some .int) := by decide +kernel
theorem hk_70_0 : ax_look 70 0 = some (.aload_n 0, (0, 0, 0), .null, []) := by decide +kernel
theorem hk_70_1 : ax_look 70 1 = some (.getfield 10, (8, 0, 0), .null, [1223]) := by decide +kernel
theorem hk_70_4 : ax_look 70 4 = some (.getfield 105, (7, 1, 0), .null, [1047]) := by decide +kernel
theorem hk_70_7 : ax_look 70 7 = some (.bipush 20, (0, 0, 0), .null, []) := by decide +kernel
theorem hk_70_9 : ax_look 70 9 = some (.iadd, (0, 0, 0), .null, []) := by decide +kernel
theorem hk_70_10 : ax_look 70 10 = some (.sipush 200, (0, 0, 0), .null, []) := by decide +kernel
theorem hk_70_13 : ax_look 70 13 = some (.if_icmp .le 13, (0, 0, 0), .null, []) := by decide +kernel
theorem hk_70_16 : ax_look 70 16 = some (.new 108, (800, 0, 0), .null, []) := by decide +kernel
theorem hk_70_19 : ax_look 70 19 = some (.dup, (0, 0, 0), .null, []) := by decide +kernel
theorem hk_70_20 : ax_look 70 20 = some (.ldc 110, (900, 0, 0), .null, []) := by decide +kernel
theorem hk_70_22 : ax_look 70 22 = some (.invokespecial 112, (900, 0, 0), .null, []) := by decide +kernel
theorem hk_70_25 : ax_look 70 25 = some (.athrow, (0, 0, 0), .null, []) := by decide +kernel
theorem hk_70_26 : ax_look 70 26 = some (.aload_n 0, (0, 0, 0), .null, []) := by decide +kernel
theorem hk_70_27 : ax_look 70 27 = some (.getfield 10, (8, 0, 0), .null, [1223]) := by decide +kernel
theorem hk_70_30 : ax_look 70 30 = some (.iload_n 1, (0, 0, 0), .null, []) := by decide +kernel
theorem hk_70_31 : ax_look 70 31 = some (.invokevirtual 115, (67, 1, 7), .null, [4005, 4007]) := by decide +kernel
theorem hk_70_34 : ax_look 70 34 = some (.aload_n 0, (0, 0, 0), .null, []) := by decide +kernel
theorem hk_70_35 : ax_look 70 35 = some (.getfield 10, (8, 0, 0), .null, [1223]) := by decide +kernel
theorem hk_70_38 : ax_look 70 38 = some (.iload_n 2, (0, 0, 0), .null, []) := by decide +kernel
theorem hk_70_39 : ax_look 70 39 = some (.invokevirtual 115, (67, 1, 7), .null, [4005, 4007]) := by decide +kernel
theorem hk_70_42 : ax_look 70 42 = some (.aload_n 0, (0, 0, 0), .null, []) := by decide +kernel
theorem hk_70_43 : ax_look 70 43 = some (.getfield 10, (8, 0, 0), .null, [1223]) := by decide +kernel
theorem hk_70_46 : ax_look 70 46 = some (.iload_n 3, (0, 0, 0), .null, []) := by decide +kernel
theorem hk_70_47 : ax_look 70 47 = some (.invokevirtual 115, (67, 1, 7), .null, [4005, 4007]) := by decide +kernel
theorem hk_70_50 : ax_look 70 50 = some (.aload_n 0, (0, 0, 0), .null, []) := by decide +kernel
theorem hk_70_51 : ax_look 70 51 = some (.getfield 10, (8, 0, 0), .null, [1223]) := by decide +kernel
theorem hk_70_54 : ax_look 70 54 = some (.iload 4, (0, 0, 0), .null, []) := by decide +kernel
theorem hk_70_56 : ax_look 70 56 = some (.invokevirtual 115, (67, 1, 7), .null, [4005, 4007]) := by decide +kernel
theorem hk_70_59 : ax_look 70 59 = some (.aload_n 0, (0, 0, 0), .null, []) := by decide +kernel
theorem hk_70_60 : ax_look 70 60 = some (.getfield 10, (8, 0, 0), .null, [1223]) := by decide +kernel
theorem hk_70_63 : ax_look 70 63 = some (.iload 5, (0, 0, 0), .null, []) := by decide +kernel
theorem hk_70_65 : ax_look 70 65 = some (.invokevirtual 115, (67, 1, 7), .null, [4005, 4007]) := by decide +kernel
theorem hk_70_68 : ax_look 70 68 = some (.aload_n 0, (0, 0, 0), .null, []) := by decide +kernel
theorem hk_70_69 : ax_look 70 69 = some (.getfield 10, (8, 0, 0), .null, [1223]) := by decide +kernel
theorem hk_70_72 : ax_look 70 72 = some (.getfield 105, (7, 1, 0), .null, [1047]) := by decide +kernel
theorem hk_70_75 : ax_look 70 75 = some (.ireturn, (0, 0, 0), .null, []) := by decide +kernel
theorem hn_71 : (ax_mm 71).2.2.1 = 2 := by decide +kernel
theorem hr_71 : (ax_mm 71).2.2.2.1 = (some .int) := by decide +kernel
theorem hk_71_0 : ax_look 71 0 = some (.iload_n 1, (0, 0, 0), .null, []) := by decide +kernel
theorem hk_71_1 : ax_look 71 1 = some (.ifCond .lt 14, (0, 0, 0), .null, []) := by decide +kernel
theorem hk_71_4 : ax_look 71 4 = some (.iload_n 1, (0, 0, 0), .null, []) := by decide +kernel
theorem hk_71_5 : ax_look 71 5 = some (.aload_n 0, (0, 0, 0), .null, []) := by decide +kernel
theorem hk_71_6 : ax_look 71 6 = some (.getfield 10, (8, 0, 0), .null, [1223]) := by decide +kernel
theorem hk_71_9 : ax_look 71 9 = some (.getfield 105, (7, 1, 0), .null, [1047]) := by decide +kernel
theorem hk_71_12 : ax_look 71 12 = some (.if_icmp .le 13, (0, 0, 0), .null, []) := by decide +kernel
theorem hk_71_15 : ax_look 71 15 = some (.new 119, (801, 0, 0), .null, []) := by decide +kernel
theorem hk_71_18 : ax_look 71 18 = some (.dup, (0, 0, 0), .null, []) := by decide +kernel
theorem hk_71_19 : ax_look 71 19 = some (.ldc 121, (900, 0, 0), .null, []) := by decide +kernel
theorem hk_71_21 : ax_look 71 21 = some (.invokespecial 123, (900, 0, 0), .null, []) := by decide +kernel
theorem hk_71_24 : ax_look 71 24 = some (.athrow, (0, 0, 0), .null, []) := by decide +kernel
theorem hk_71_25 : ax_look 71 25 = some (.aload_n 0, (0, 0, 0), .null, []) := by decide +kernel
theorem hk_71_26 : ax_look 71 26 = some (.getfield 10, (8, 0, 0), .null, [1223]) := by decide +kernel
theorem hk_71_29 : ax_look 71 29 = some (.iload_n 1, (0, 0, 0), .null, []) := by decide +kernel
theorem hk_71_30 : ax_look 71 30 = some (.putfield 105, (7, 1, 0), .null, [1047]) := by decide +kernel
theorem hk_71_33 : ax_look 71 33 = some (.iload_n 1, (0, 0, 0), .null, []) := by decide +kernel
theorem hk_71_34 : ax_look 71 34 = some (.ireturn, (0, 0, 0), .null, []) := by decide +kernel
theorem hn_72 : (ax_mm 72).2.2.1 = 2 := by decide +kernel
theorem hr_72 : (ax_mm 72).2.2.2.1 = (some .int) := by decide +kernel
theorem hk_72_0 : ax_look 72 0 = some (.aload_n 0, (0, 0, 0), .null, []) := by decide +kernel
theorem hk_72_1 : ax_look 72 1 = some (.aload_n 0, (0, 0, 0), .null, []) := by decide +kernel
theorem hk_72_2 : ax_look 72 2 = some (.getfield 21, (8, 1, 0), .null, [1224]) := by decide +kernel
theorem hk_72_5 : ax_look 72 5 = some (.invokevirtual 124, (55, 0, 6), .null, [2042, 2044]) := by decide +kernel
theorem hk_72_8 : ax_look 72 8 = some (.invokevirtual 128, (117, 1, 8), .null, [2090, 9]) := by decide +kernel
theorem hk_72_11 : ax_look 72 11 = some (.aload_n 0, (0, 0, 0), .null, []) := by decide +kernel
theorem hk_72_12 : ax_look 72 12 = some (.aload_n 0, (0, 0, 0), .null, []) := by decide +kernel
theorem hk_72_13 : ax_look 72 13 = some (.getfield 21, (8, 1, 0), .null, [1224]) := by decide +kernel
theorem hk_72_16 : ax_look 72 16 = some (.invokevirtual 132, (49, 0, 6), .null, [4238, 5000]) := by decide +kernel
theorem hk_72_19 : ax_look 72 19 = some (.ifCond .eq 7, (0, 0, 0), .null, []) := by decide +kernel
theorem hk_72_22 : ax_look 72 22 = some (.iconst 2, (0, 0, 0), .null, []) := by decide +kernel
theorem hk_72_23 : ax_look 72 23 = some (.goto 4, (0, 0, 0), .null, []) := by decide +kernel
theorem hk_72_26 : ax_look 72 26 = some (.iconst 1, (0, 0, 0), .null, []) := by decide +kernel
theorem hk_72_27 : ax_look 72 27 = some (.invokevirtual 135, (115, 1, 8), .null, [3018, 16]) := by decide +kernel
theorem hk_72_30 : ax_look 72 30 = some (.aload_n 0, (0, 0, 0), .null, []) := by decide +kernel
theorem hk_72_31 : ax_look 72 31 = some (.getfield 42, (8, 5, 0), .null, [1228]) := by decide +kernel
theorem hk_72_34 : ax_look 72 34 = some (.istore_n 1, (0, 0, 0), .null, []) := by decide +kernel
theorem hk_72_35 : ax_look 72 35 = some (.aload_n 0, (0, 0, 0), .null, []) := by decide +kernel
theorem hk_72_36 : ax_look 72 36 = some (.getfield 21, (8, 1, 0), .null, [1224]) := by decide +kernel
theorem hk_72_39 : ax_look 72 39 = some (.invokevirtual 138, (50, 0, 6), .null, [2163, 2165]) := by decide +kernel
theorem hk_72_42 : ax_look 72 42 = some (.ifCond .eq 19, (0, 0, 0), .null, []) := by decide +kernel
theorem hk_72_45 : ax_look 72 45 = some (.aload_n 0, (0, 0, 0), .null, []) := by decide +kernel
theorem hk_72_46 : ax_look 72 46 = some (.getfield 21, (8, 1, 0), .null, [1224]) := by decide +kernel
theorem hk_72_49 : ax_look 72 49 = some (.aload_n 0, (0, 0, 0), .null, []) := by decide +kernel
theorem hk_72_50 : ax_look 72 50 = some (.getfield 48, (8, 6, 0), .null, [1229]) := by decide +kernel
theorem hk_72_53 : ax_look 72 53 = some (.invokevirtual 141, (52, 1, 6), .null, [2167, 2169]) := by decide +kernel
theorem hk_72_56 : ax_look 72 56 = some (.aload_n 0, (0, 0, 0), .null, []) := by decide +kernel
theorem hk_72_57 : ax_look 72 57 = some (.invokevirtual 145, (119, 0, 8), .null, [3068, 18]) := by decide +kernel
theorem hk_72_60 : ax_look 72 60 = some (.pop, (0, 0, 0), .null, []) := by decide +kernel
theorem hk_72_61 : ax_look 72 61 = some (.aload_n 0, (0, 0, 0), .null, []) := by decide +kernel
theorem hk_72_62 : ax_look 72 62 = some (.getfield 21, (8, 1, 0), .null, [1224]) := by decide +kernel
theorem hk_72_65 : ax_look 72 65 = some (.invokevirtual 149, (51, 0, 6), .null, [2222, 2224]) := by decide +kernel
theorem hk_72_68 : ax_look 72 68 = some (.ifCond .eq 19, (0, 0, 0), .null, []) := by decide +kernel
theorem hk_72_71 : ax_look 72 71 = some (.aload_n 0, (0, 0, 0), .null, []) := by decide +kernel
theorem hk_72_72 : ax_look 72 72 = some (.getfield 21, (8, 1, 0), .null, [1224]) := by decide +kernel
theorem hk_72_75 : ax_look 72 75 = some (.aload_n 0, (0, 0, 0), .null, []) := by decide +kernel
theorem hk_72_76 : ax_look 72 76 = some (.getfield 48, (8, 6, 0), .null, [1229]) := by decide +kernel
theorem hk_72_79 : ax_look 72 79 = some (.invokevirtual 152, (53, 1, 6), .null, [2226, 2228]) := by decide +kernel
theorem hk_72_82 : ax_look 72 82 = some (.aload_n 0, (0, 0, 0), .null, []) := by decide +kernel
theorem hk_72_83 : ax_look 72 83 = some (.invokevirtual 145, (119, 0, 8), .null, [3068, 18]) := by decide +kernel
theorem hk_72_86 : ax_look 72 86 = some (.pop, (0, 0, 0), .null, []) := by decide +kernel
theorem hk_72_87 : ax_look 72 87 = some (.iload_n 1, (0, 0, 0), .null, []) := by decide +kernel
theorem hk_72_88 : ax_look 72 88 = some (.ireturn, (0, 0, 0), .null, []) := by decide +kernel
theorem hn_73 : (ax_mm 73).2.2.1 = 2 := by decide +kernel
theorem hr_73 : (ax_mm 73).2.2.2.1 = (some .boolean) := by decide +kernel
theorem hk_73_0 : ax_look 73 0 = some (.aload_n 0, (0, 0, 0), .null, []) := by decide +kernel
theorem hk_73_1 : ax_look 73 1 = some (.aload_n 0, (0, 0, 0), .null, []) := by decide +kernel
theorem hk_73_2 : ax_look 73 2 = some (.getfield 21, (8, 1, 0), .null, [1224]) := by decide +kernel
theorem hk_73_5 : ax_look 73 5 = some (.invokevirtual 124, (55, 0, 6), .null, [2042, 2044]) := by decide +kernel
theorem hk_73_8 : ax_look 73 8 = some (.invokevirtual 128, (117, 1, 8), .null, [2090, 9]) := by decide +kernel
theorem hk_73_11 : ax_look 73 11 = some (.iconst 1, (0, 0, 0), .null, []) := by decide +kernel
theorem hk_73_12 : ax_look 73 12 = some (.istore_n 1, (0, 0, 0), .null, []) := by decide +kernel
theorem hk_73_13 : ax_look 73 13 = some (.aload_n 0, (0, 0, 0), .null, []) := by decide +kernel
theorem hk_73_14 : ax_look 73 14 = some (.getfield 21, (8, 1, 0), .null, [1224]) := by decide +kernel
theorem hk_73_17 : ax_look 73 17 = some (.invokevirtual 138, (50, 0, 6), .null, [2163, 2165]) := by decide +kernel
theorem hk_73_20 : ax_look 73 20 = some (.ifCond .eq 19, (0, 0, 0), .null, []) := by decide +kernel
theorem hk_73_23 : ax_look 73 23 = some (.aload_n 0, (0, 0, 0), .null, []) := by decide +kernel
theorem hk_73_24 : ax_look 73 24 = some (.getfield 21, (8, 1, 0), .null, [1224]) := by decide +kernel
theorem hk_73_27 : ax_look 73 27 = some (.aload_n 0, (0, 0, 0), .null, []) := by decide +kernel
theorem hk_73_28 : ax_look 73 28 = some (.getfield 48, (8, 6, 0), .null, [1229]) := by decide +kernel
theorem hk_73_31 : ax_look 73 31 = some (.invokevirtual 141, (52, 1, 6), .null, [2167, 2169]) := by decide +kernel
theorem hk_73_34 : ax_look 73 34 = some (.aload_n 0, (0, 0, 0), .null, []) := by decide +kernel
theorem hk_73_35 : ax_look 73 35 = some (.invokevirtual 155, (120, 0, 8), .null, [2184, 12]) := by decide +kernel
theorem hk_73_38 : ax_look 73 38 = some (.istore_n 1, (0, 0, 0), .null, []) := by decide +kernel
theorem hk_73_39 : ax_look 73 39 = some (.iload_n 1, (0, 0, 0), .null, []) := by decide +kernel
theorem hk_73_40 : ax_look 73 40 = some (.ifCond .eq 29, (0, 0, 0), .null, []) := by decide +kernel
theorem hk_73_43 : ax_look 73 43 = some (.aload_n 0, (0, 0, 0), .null, []) := by decide +kernel
theorem hk_73_44 : ax_look 73 44 = some (.getfield 21, (8, 1, 0), .null, [1224]) := by decide +kernel
theorem hk_73_47 : ax_look 73 47 = some (.invokevirtual 149, (51, 0, 6), .null, [2222, 2224]) := by decide +kernel
theorem hk_73_50 : ax_look 73 50 = some (.ifCond .eq 19, (0, 0, 0), .null, []) := by decide +kernel
theorem hk_73_53 : ax_look 73 53 = some (.aload_n 0, (0, 0, 0), .null, []) := by decide +kernel
theorem hk_73_54 : ax_look 73 54 = some (.getfield 21, (8, 1, 0), .null, [1224]) := by decide +kernel
theorem hk_73_57 : ax_look 73 57 = some (.aload_n 0, (0, 0, 0), .null, []) := by decide +kernel
theorem hk_73_58 : ax_look 73 58 = some (.getfield 48, (8, 6, 0), .null, [1229]) := by decide +kernel
theorem hk_73_61 : ax_look 73 61 = some (.invokevirtual 152, (53, 1, 6), .null, [2226, 2228]) := by decide +kernel
theorem hk_73_64 : ax_look 73 64 = some (.aload_n 0, (0, 0, 0), .null, []) := by decide +kernel
theorem hk_73_65 : ax_look 73 65 = some (.invokevirtual 155, (120, 0, 8), .null, [2184, 12]) := by decide +kernel
theorem hk_73_68 : ax_look 73 68 = some (.istore_n 1, (0, 0, 0), .null, []) := by decide +kernel
theorem hk_73_69 : ax_look 73 69 = some (.iload_n 1, (0, 0, 0), .null, []) := by decide +kernel
theorem hk_73_70 : ax_look 73 70 = some (.ireturn, (0, 0, 0), .null, []) := by decide +kernel
theorem hn_83 : (ax_mm 83).2.2.1 = 3 := by decide +kernel
theorem hr_83 : (ax_mm 83).2.2.2.1 = (some .int) := by decide +kernel
theorem hk_83_0 : ax_look 83 0 = some (.aload_n 0, (0, 0, 0), .null, []) := by decide +kernel
theorem hk_83_1 : ax_look 83 1 = some (.iload_n 1, (0, 0, 0), .null, []) := by decide +kernel
theorem hk_83_2 : ax_look 83 2 = some (.invokevirtual 158, (111, 1, 8), .null, [2238, 15]) := by decide +kernel
theorem hk_83_5 : ax_look 83 5 = some (.aload_n 0, (0, 0, 0), .null, []) := by decide +kernel
theorem hk_83_6 : ax_look 83 6 = some (.iload_n 2, (0, 0, 0), .null, []) := by decide +kernel
theorem hk_83_7 : ax_look 83 7 = some (.invokevirtual 158, (111, 1, 8), .null, [2238, 15]) := by decide +kernel
theorem hk_83_10 : ax_look 83 10 = some (.aload_n 0, (0, 0, 0), .null, []) := by decide +kernel
theorem hk_83_11 : ax_look 83 11 = some (.iconst 1, (0, 0, 0), .null, []) := by decide +kernel
theorem hk_83_12 : ax_look 83 12 = some (.invokevirtual 135, (115, 1, 8), .null, [3018, 16]) := by decide +kernel
theorem hk_83_15 : ax_look 83 15 = some (.aload_n 0, (0, 0, 0), .null, []) := by decide +kernel
theorem hk_83_16 : ax_look 83 16 = some (.getfield 48, (8, 6, 0), .null, [1229]) := by decide +kernel
theorem hk_83_19 : ax_look 83 19 = some (.invokevirtual 198, (20, 0, 2), .null, [3038, 2177]) := by decide +kernel
theorem hk_83_22 : ax_look 83 22 = some (.aload_n 0, (0, 0, 0), .null, []) := by decide +kernel
theorem hk_83_23 : ax_look 83 23 = some (.getfield 48, (8, 6, 0), .null, [1229]) := by decide +kernel
theorem hk_83_26 : ax_look 83 26 = some (.aload_n 0, (0, 0, 0), .null, []) := by decide +kernel
theorem hk_83_27 : ax_look 83 27 = some (.getfield 38, (8, 4, 0), .null, [1227]) := by decide +kernel
theorem hk_83_30 : ax_look 83 30 = some (.iload_n 1, (0, 0, 0), .null, []) := by decide +kernel
theorem hk_83_31 : ax_look 83 31 = some (.aaload, (0, 0, 0), .null, []) := by decide +kernel
theorem hk_83_32 : ax_look 83 32 = some (.lconst 1, (0, 0, 0), .null, []) := by decide +kernel
theorem hk_83_33 : ax_look 83 33 = some (.invokevirtual 201, (22, 2, 2), .null, [3039, 3041]) := by decide +kernel
theorem hk_83_36 : ax_look 83 36 = some (.aload_n 0, (0, 0, 0), .null, []) := by decide +kernel
theorem hk_83_37 : ax_look 83 37 = some (.getfield 48, (8, 6, 0), .null, [1229]) := by decide +kernel
theorem hk_83_40 : ax_look 83 40 = some (.aload_n 0, (0, 0, 0), .null, []) := by decide +kernel
theorem hk_83_41 : ax_look 83 41 = some (.getfield 38, (8, 4, 0), .null, [1227]) := by decide +kernel
theorem hk_83_44 : ax_look 83 44 = some (.iload_n 2, (0, 0, 0), .null, []) := by decide +kernel
theorem hk_83_45 : ax_look 83 45 = some (.aaload, (0, 0, 0), .null, []) := by decide +kernel
theorem hk_83_46 : ax_look 83 46 = some (.lconst 1, (0, 0, 0), .null, []) := by decide +kernel
theorem hk_83_47 : ax_look 83 47 = some (.invokevirtual 201, (22, 2, 2), .null, [3039, 3041]) := by decide +kernel
theorem hk_83_50 : ax_look 83 50 = some (.aload_n 0, (0, 0, 0), .null, []) := by decide +kernel
theorem hk_83_51 : ax_look 83 51 = some (.invokevirtual 205, (118, 0, 8), .null, [3043, 17]) := by decide +kernel
theorem hk_83_54 : ax_look 83 54 = some (.ireturn, (0, 0, 0), .null, []) := by decide +kernel
theorem hn_85 : (ax_mm 85).2.2.1 = 3 := by decide +kernel
theorem hr_85 : (ax_mm 85).2.2.2.1 = (some .int) := by decide +kernel
theorem hk_85_0 : ax_look 85 0 = some (.aload_n 0, (0, 0, 0), .null, []) := by decide +kernel
theorem hk_85_1 : ax_look 85 1 = some (.iload_n 1, (0, 0, 0), .null, []) := by decide +kernel
theorem hk_85_2 : ax_look 85 2 = some (.invokevirtual 158, (111, 1, 8), .null, [2238, 15]) := by decide +kernel
theorem hk_85_5 : ax_look 85 5 = some (.iload_n 2, (0, 0, 0), .null, []) := by decide +kernel
theorem hk_85_6 : ax_look 85 6 = some (.iconst 1, (0, 0, 0), .null, []) := by decide +kernel
theorem hk_85_7 : ax_look 85 7 = some (.if_icmp .ge 13, (0, 0, 0), .null, []) := by decide +kernel
theorem hk_85_10 : ax_look 85 10 = some (.new 119, (801, 0, 0), .null, []) := by decide +kernel
theorem hk_85_13 : ax_look 85 13 = some (.dup, (0, 0, 0), .null, []) := by decide +kernel
theorem hk_85_14 : ax_look 85 14 = some (.ldc 210, (900, 0, 0), .null, []) := by decide +kernel
theorem hk_85_16 : ax_look 85 16 = some (.invokespecial 123, (900, 0, 0), .null, []) := by decide +kernel
theorem hk_85_19 : ax_look 85 19 = some (.athrow, (0, 0, 0), .null, []) := by decide +kernel
theorem hk_85_20 : ax_look 85 20 = some (.aload_n 0, (0, 0, 0), .null, []) := by decide +kernel
theorem hk_85_21 : ax_look 85 21 = some (.iconst 1, (0, 0, 0), .null, []) := by decide +kernel
theorem hk_85_22 : ax_look 85 22 = some (.invokevirtual 135, (115, 1, 8), .null, [3018, 16]) := by decide +kernel
theorem hk_85_25 : ax_look 85 25 = some (.aload_n 0, (0, 0, 0), .null, []) := by decide +kernel
theorem hk_85_26 : ax_look 85 26 = some (.getfield 48, (8, 6, 0), .null, [1229]) := by decide +kernel
theorem hk_85_29 : ax_look 85 29 = some (.invokevirtual 198, (20, 0, 2), .null, [3038, 2177]) := by decide +kernel
theorem hk_85_32 : ax_look 85 32 = some (.aload_n 0, (0, 0, 0), .null, []) := by decide +kernel
theorem hk_85_33 : ax_look 85 33 = some (.getfield 48, (8, 6, 0), .null, [1229]) := by decide +kernel
theorem hk_85_36 : ax_look 85 36 = some (.aload_n 0, (0, 0, 0), .null, []) := by decide +kernel
theorem hk_85_37 : ax_look 85 37 = some (.getfield 38, (8, 4, 0), .null, [1227]) := by decide +kernel
theorem hk_85_40 : ax_look 85 40 = some (.iload_n 1, (0, 0, 0), .null, []) := by decide +kernel
theorem hk_85_41 : ax_look 85 41 = some (.aaload, (0, 0, 0), .null, []) := by decide +kernel
theorem hk_85_42 : ax_look 85 42 = some (.lconst 1, (0, 0, 0), .null, []) := by decide +kernel
theorem hk_85_43 : ax_look 85 43 = some (.invokevirtual 201, (22, 2, 2), .null, [3039, 3041]) := by decide +kernel
theorem hk_85_46 : ax_look 85 46 = some (.aload_n 0, (0, 0, 0), .null, []) := by decide +kernel
theorem hk_85_47 : ax_look 85 47 = some (.getfield 48, (8, 6, 0), .null, [1229]) := by decide +kernel
theorem hk_85_50 : ax_look 85 50 = some (.iload_n 2, (0, 0, 0), .null, []) := by decide +kernel
theorem hk_85_51 : ax_look 85 51 = some (.i2l, (0, 0, 0), .null, []) := by decide +kernel
theorem hk_85_52 : ax_look 85 52 = some (.invokevirtual 212, (23, 1, 2), .null, [3111, 3113]) := by decide +kernel
theorem hk_85_55 : ax_look 85 55 = some (.aload_n 0, (0, 0, 0), .null, []) := by decide +kernel
theorem hk_85_56 : ax_look 85 56 = some (.invokevirtual 145, (119, 0, 8), .null, [3068, 18]) := by decide +kernel
theorem hk_85_59 : ax_look 85 59 = some (.ireturn, (0, 0, 0), .null, []) := by decide +kernel
theorem hn_86 : (ax_mm 86).2.2.1 = 2 := by decide +kernel
theorem hr_86 : (ax_mm 86).2.2.2.1 = (some .int) := by decide +kernel
theorem hk_86_0 : ax_look 86 0 = some (.aload_n 0, (0, 0, 0), .null, []) := by decide +kernel
theorem hk_86_1 : ax_look 86 1 = some (.iload_n 1, (0, 0, 0), .null, []) := by decide +kernel
theorem hk_86_2 : ax_look 86 2 = some (.invokevirtual 158, (111, 1, 8), .null, [2238, 15]) := by decide +kernel
theorem hk_86_5 : ax_look 86 5 = some (.aload_n 0, (0, 0, 0), .null, []) := by decide +kernel
theorem hk_86_6 : ax_look 86 6 = some (.iconst 1, (0, 0, 0), .null, []) := by decide +kernel
theorem hk_86_7 : ax_look 86 7 = some (.invokevirtual 135, (115, 1, 8), .null, [3018, 16]) := by decide +kernel
theorem hk_86_10 : ax_look 86 10 = some (.aload_n 0, (0, 0, 0), .null, []) := by decide +kernel
theorem hk_86_11 : ax_look 86 11 = some (.getfield 48, (8, 6, 0), .null, [1229]) := by decide +kernel
theorem hk_86_14 : ax_look 86 14 = some (.invokevirtual 198, (20, 0, 2), .null, [3038, 2177]) := by decide +kernel
theorem hk_86_17 : ax_look 86 17 = some (.aload_n 0, (0, 0, 0), .null, []) := by decide +kernel
theorem hk_86_18 : ax_look 86 18 = some (.getfield 48, (8, 6, 0), .null, [1229]) := by decide +kernel
theorem hk_86_21 : ax_look 86 21 = some (.aload_n 0, (0, 0, 0), .null, []) := by decide +kernel
theorem hk_86_22 : ax_look 86 22 = some (.getfield 38, (8, 4, 0), .null, [1227]) := by decide +kernel
theorem hk_86_25 : ax_look 86 25 = some (.iload_n 1, (0, 0, 0), .null, []) := by decide +kernel
theorem hk_86_26 : ax_look 86 26 = some (.aaload, (0, 0, 0), .null, []) := by decide +kernel
theorem hk_86_27 : ax_look 86 27 = some (.lconst 1, (0, 0, 0), .null, []) := by decide +kernel
theorem hk_86_28 : ax_look 86 28 = some (.invokevirtual 201, (22, 2, 2), .null, [3039, 3041]) := by decide +kernel
theorem hk_86_31 : ax_look 86 31 = some (.aload_n 0, (0, 0, 0), .null, []) := by decide +kernel
theorem hk_86_32 : ax_look 86 32 = some (.getfield 48, (8, 6, 0), .null, [1229]) := by decide +kernel
theorem hk_86_35 : ax_look 86 35 = some (.invokevirtual 216, (24, 0, 2), .null, [3119, 3121]) := by decide +kernel
theorem hk_86_38 : ax_look 86 38 = some (.aload_n 0, (0, 0, 0), .null, []) := by decide +kernel
theorem hk_86_39 : ax_look 86 39 = some (.invokevirtual 145, (119, 0, 8), .null, [3068, 18]) := by decide +kernel
theorem hk_86_42 : ax_look 86 42 = some (.ireturn, (0, 0, 0), .null, []) := by decide +kernel
theorem hn_89 : (ax_mm 89).2.2.1 = 3 := by decide +kernel
theorem hr_89 : (ax_mm 89).2.2.2.1 = (some .int) := by decide +kernel
theorem hk_89_0 : ax_look 89 0 = some (.aload_n 0, (0, 0, 0), .null, []) := by decide +kernel
theorem hk_89_1 : ax_look 89 1 = some (.iload_n 1, (0, 0, 0), .null, []) := by decide +kernel
theorem hk_89_2 : ax_look 89 2 = some (.invokevirtual 158, (111, 1, 8), .null, [2238, 15]) := by decide +kernel
theorem hk_89_5 : ax_look 89 5 = some (.aload_n 0, (0, 0, 0), .null, []) := by decide +kernel
theorem hk_89_6 : ax_look 89 6 = some (.iconst 1, (0, 0, 0), .null, []) := by decide +kernel
theorem hk_89_7 : ax_look 89 7 = some (.invokevirtual 135, (115, 1, 8), .null, [3018, 16]) := by decide +kernel
theorem hk_89_10 : ax_look 89 10 = some (.aload_n 0, (0, 0, 0), .null, []) := by decide +kernel
theorem hk_89_11 : ax_look 89 11 = some (.getfield 48, (8, 6, 0), .null, [1229]) := by decide +kernel
theorem hk_89_14 : ax_look 89 14 = some (.invokevirtual 198, (20, 0, 2), .null, [3038, 2177]) := by decide +kernel
theorem hk_89_17 : ax_look 89 17 = some (.iconst 0, (0, 0, 0), .null, []) := by decide +kernel
theorem hk_89_18 : ax_look 89 18 = some (.istore_n 2, (0, 0, 0), .null, []) := by decide +kernel
theorem hk_89_19 : ax_look 89 19 = some (.iload_n 2, (0, 0, 0), .null, []) := by decide +kernel
theorem hk_89_20 : ax_look 89 20 = some (.bipush 24, (0, 0, 0), .null, []) := by decide +kernel
theorem hk_89_22 : ax_look 89 22 = some (.if_icmp .ge 32, (0, 0, 0), .null, []) := by decide +kernel
theorem hk_89_25 : ax_look 89 25 = some (.aload_n 0, (0, 0, 0), .null, []) := by decide +kernel
theorem hk_89_26 : ax_look 89 26 = some (.getfield 38, (8, 4, 0), .null, [1227]) := by decide +kernel
theorem hk_89_29 : ax_look 89 29 = some (.iload_n 1, (0, 0, 0), .null, []) := by decide +kernel
theorem hk_89_30 : ax_look 89 30 = some (.aaload, (0, 0, 0), .null, []) := by decide +kernel
theorem hk_89_31 : ax_look 89 31 = some (.getfield 188, (1, 0, 0), .null, [1149]) := by decide +kernel
theorem hk_89_34 : ax_look 89 34 = some (.iload_n 2, (0, 0, 0), .null, []) := by decide +kernel
theorem hk_89_35 : ax_look 89 35 = some (.iaload, (0, 0, 0), .null, []) := by decide +kernel
theorem hk_89_36 : ax_look 89 36 = some (.ifCond .le 12, (0, 0, 0), .null, []) := by decide +kernel
theorem hk_89_39 : ax_look 89 39 = some (.aload_n 0, (0, 0, 0), .null, []) := by decide +kernel
theorem hk_89_40 : ax_look 89 40 = some (.getfield 48, (8, 6, 0), .null, [1229]) := by decide +kernel
theorem hk_89_43 : ax_look 89 43 = some (.iload_n 2, (0, 0, 0), .null, []) := by decide +kernel
theorem hk_89_44 : ax_look 89 44 = some (.lconst 1, (0, 0, 0), .null, []) := by decide +kernel
theorem hk_89_45 : ax_look 89 45 = some (.invokevirtual 241, (21, 2, 2), .null, [3127, 2182]) := by decide +kernel
theorem hk_89_48 : ax_look 89 48 = some (.iinc 2 1, (0, 0, 0), .null, []) := by decide +kernel
theorem hk_89_51 : ax_look 89 51 = some (.goto (-32), (0, 0, 0), .null, []) := by decide +kernel
theorem hk_89_54 : ax_look 89 54 = some (.aload_n 0, (0, 0, 0), .null, []) := by decide +kernel
theorem hk_89_55 : ax_look 89 55 = some (.getfield 48, (8, 6, 0), .null, [1229]) := by decide +kernel
theorem hk_89_58 : ax_look 89 58 = some (.aload_n 0, (0, 0, 0), .null, []) := by decide +kernel
theorem hk_89_59 : ax_look 89 59 = some (.getfield 38, (8, 4, 0), .null, [1227]) := by decide +kernel
theorem hk_89_62 : ax_look 89 62 = some (.iload_n 1, (0, 0, 0), .null, []) := by decide +kernel
theorem hk_89_63 : ax_look 89 63 = some (.aaload, (0, 0, 0), .null, []) := by decide +kernel
theorem hk_89_64 : ax_look 89 64 = some (.invokevirtual 195, (14, 0, 1), .null, [3128, 3130]) := by decide +kernel
theorem hk_89_67 : ax_look 89 67 = some (.i2l, (0, 0, 0), .null, []) := by decide +kernel
theorem hk_89_68 : ax_look 89 68 = some (.putfield 245, (2, 1, 0), .null, [1134]) := by decide +kernel
theorem hk_89_71 : ax_look 89 71 = some (.aload_n 0, (0, 0, 0), .null, []) := by decide +kernel
theorem hk_89_72 : ax_look 89 72 = some (.invokevirtual 145, (119, 0, 8), .null, [3068, 18]) := by decide +kernel
theorem hk_89_75 : ax_look 89 75 = some (.ireturn, (0, 0, 0), .null, []) := by decide +kernel
theorem hn_101 : (ax_mm 101).2.2.1 = 1 := by decide +kernel
theorem hr_101 : (ax_mm 101).2.2.2.1 = (some .int) := by decide +kernel
theorem hk_101_0 : ax_look 101 0 = some (.aload_n 0, (0, 0, 0), .null, []) := by decide +kernel
theorem hk_101_1 : ax_look 101 1 = some (.invokevirtual 299, (122, 0, 8), .null, [2210, 14]) := by decide +kernel
theorem hk_101_4 : ax_look 101 4 = some (.aload_n 0, (0, 0, 0), .null, []) := by decide +kernel
theorem hk_101_5 : ax_look 101 5 = some (.invokevirtual 303, (123, 0, 8), .null, [3140, 21]) := by decide +kernel
theorem hk_101_8 : ax_look 101 8 = some (.aload_n 0, (0, 0, 0), .null, []) := by decide +kernel
theorem hk_101_9 : ax_look 101 9 = some (.invokevirtual 306, (124, 0, 8), .null, [3148, 22]) := by decide +kernel
theorem hk_101_12 : ax_look 101 12 = some (.invokevirtual 318, (45, 2, 5), .null, [3152, 3154]) := by decide +kernel
theorem hk_101_15 : ax_look 101 15 = some (.ireturn, (0, 0, 0), .null, []) := by decide +kernel
theorem hn_106 : (ax_mm 106).2.2.1 = 8 := by decide +kernel
theorem hr_106 : (ax_mm 106).2.2.2.1 = (some .int) := by decide +kernel
theorem hk_106_0 : ax_look 106 0 = some (.iload_n 1, (0, 0, 0), .null, []) := by decide +kernel
theorem hk_106_1 : ax_look 106 1 = some (.invokestatic 313, (116, 1, 0), .null, [5010]) := by decide +kernel
theorem hk_106_4 : ax_look 106 4 = some (.ifCond .eq 16, (0, 0, 0), .null, []) := by decide +kernel
theorem hk_106_7 : ax_look 106 7 = some (.iload_n 2, (0, 0, 0), .null, []) := by decide +kernel
theorem hk_106_8 : ax_look 106 8 = some (.invokestatic 313, (116, 1, 0), .null, [5010]) := by decide +kernel
theorem hk_106_11 : ax_look 106 11 = some (.ifCond .eq 9, (0, 0, 0), .null, []) := by decide +kernel
theorem hk_106_14 : ax_look 106 14 = some (.iload_n 1, (0, 0, 0), .null, []) := by decide +kernel
theorem hk_106_15 : ax_look 106 15 = some (.iload_n 2, (0, 0, 0), .null, []) := by decide +kernel
theorem hk_106_16 : ax_look 106 16 = some (.iand, (0, 0, 0), .null, []) := by decide +kernel
theorem hk_106_17 : ax_look 106 17 = some (.ifCond .eq 14, (0, 0, 0), .null, []) := by decide +kernel
theorem hk_106_20 : ax_look 106 20 = some (.new 119, (801, 0, 0), .null, []) := by decide +kernel
theorem hk_106_23 : ax_look 106 23 = some (.dup, (0, 0, 0), .null, []) := by decide +kernel
theorem hk_106_24 : ax_look 106 24 = some (.ldc_w 333, (900, 0, 0), .null, []) := by decide +kernel
theorem hk_106_27 : ax_look 106 27 = some (.invokespecial 123, (900, 0, 0), .null, []) := by decide +kernel
theorem hk_106_30 : ax_look 106 30 = some (.athrow, (0, 0, 0), .null, []) := by decide +kernel
theorem hk_106_31 : ax_look 106 31 = some (.aload_n 0, (0, 0, 0), .null, []) := by decide +kernel
theorem hk_106_32 : ax_look 106 32 = some (.iload_n 1, (0, 0, 0), .null, []) := by decide +kernel
theorem hk_106_33 : ax_look 106 33 = some (.iload_n 2, (0, 0, 0), .null, []) := by decide +kernel
theorem hk_106_34 : ax_look 106 34 = some (.invokevirtual 321, (125, 2, 8), .null, [5014, 24]) := by decide +kernel
theorem hk_106_37 : ax_look 106 37 = some (.ifCond .eq 14, (0, 0, 0), .null, []) := by decide +kernel
theorem hk_106_40 : ax_look 106 40 = some (.new 268, (804, 0, 0), .null, []) := by decide +kernel
theorem hk_106_43 : ax_look 106 43 = some (.dup, (0, 0, 0), .null, []) := by decide +kernel
theorem hk_106_44 : ax_look 106 44 = some (.ldc_w 335, (900, 0, 0), .null, []) := by decide +kernel
theorem hk_106_47 : ax_look 106 47 = some (.invokespecial 272, (900, 0, 0), .null, []) := by decide +kernel
theorem hk_106_50 : ax_look 106 50 = some (.athrow, (0, 0, 0), .null, []) := by decide +kernel
theorem hk_106_51 : ax_look 106 51 = some (.iload_n 1, (0, 0, 0), .null, []) := by decide +kernel
theorem hk_106_52 : ax_look 106 52 = some (.iload_n 2, (0, 0, 0), .null, []) := by decide +kernel
theorem hk_106_53 : ax_look 106 53 = some (.ior, (0, 0, 0), .null, []) := by decide +kernel
theorem hk_106_54 : ax_look 106 54 = some (.istore_n 3, (0, 0, 0), .null, []) := by decide +kernel
theorem hk_106_55 : ax_look 106 55 = some (.iconst 0, (0, 0, 0), .null, []) := by decide +kernel
theorem hk_106_56 : ax_look 106 56 = some (.istore 4, (0, 0, 0), .null, []) := by decide +kernel
theorem hk_106_58 : ax_look 106 58 = some (.iconst 0, (0, 0, 0), .null, []) := by decide +kernel
theorem hk_106_59 : ax_look 106 59 = some (.istore 5, (0, 0, 0), .null, []) := by decide +kernel
theorem hk_106_61 : ax_look 106 61 = some (.iload 5, (0, 0, 0), .null, []) := by decide +kernel
theorem hk_106_63 : ax_look 106 63 = some (.bipush 12, (0, 0, 0), .null, []) := by decide +kernel
theorem hk_106_65 : ax_look 106 65 = some (.if_icmp .ge 78, (0, 0, 0), .null, []) := by decide +kernel
theorem hk_106_68 : ax_look 106 68 = some (.iconst 1, (0, 0, 0), .null, []) := by decide +kernel
theorem hk_106_69 : ax_look 106 69 = some (.iload 5, (0, 0, 0), .null, []) := by decide +kernel
theorem hk_106_71 : ax_look 106 71 = some (.ishl, (0, 0, 0), .null, []) := by decide +kernel
theorem hk_106_72 : ax_look 106 72 = some (.istore 6, (0, 0, 0), .null, []) := by decide +kernel
theorem hk_106_74 : ax_look 106 74 = some (.iload_n 3, (0, 0, 0), .null, []) := by decide +kernel
theorem hk_106_75 : ax_look 106 75 = some (.iload 6, (0, 0, 0), .null, []) := by decide +kernel
theorem hk_106_77 : ax_look 106 77 = some (.iand, (0, 0, 0), .null, []) := by decide +kernel
theorem hk_106_78 : ax_look 106 78 = some (.ifCond .ne 6, (0, 0, 0), .null, []) := by decide +kernel
theorem hk_106_81 : ax_look 106 81 = some (.goto 56, (0, 0, 0), .null, []) := by decide +kernel
theorem hk_106_84 : ax_look 106 84 = some (.iload_n 3, (0, 0, 0), .null, []) := by decide +kernel
theorem hk_106_85 : ax_look 106 85 = some (.iload 6, (0, 0, 0), .null, []) := by decide +kernel
theorem hk_106_87 : ax_look 106 87 = some (.iconst (-1), (0, 0, 0), .null, []) := by decide +kernel
theorem hk_106_88 : ax_look 106 88 = some (.ixor, (0, 0, 0), .null, []) := by decide +kernel
theorem hk_106_89 : ax_look 106 89 = some (.iand, (0, 0, 0), .null, []) := by decide +kernel
theorem hk_106_90 : ax_look 106 90 = some (.istore 7, (0, 0, 0), .null, []) := by decide +kernel
theorem hk_106_92 : ax_look 106 92 = some (.aload_n 0, (0, 0, 0), .null, []) := by decide +kernel
theorem hk_106_93 : ax_look 106 93 = some (.iload_n 1, (0, 0, 0), .null, []) := by decide +kernel
theorem hk_106_94 : ax_look 106 94 = some (.iload 7, (0, 0, 0), .null, []) := by decide +kernel
theorem hk_106_96 : ax_look 106 96 = some (.iand, (0, 0, 0), .null, []) := by decide +kernel
theorem hk_106_97 : ax_look 106 97 = some (.iload_n 2, (0, 0, 0), .null, []) := by decide +kernel
theorem hk_106_98 : ax_look 106 98 = some (.iload 7, (0, 0, 0), .null, []) := by decide +kernel
theorem hk_106_100 : ax_look 106 100 = some (.iand, (0, 0, 0), .null, []) := by decide +kernel
theorem hk_106_101 : ax_look 106 101 = some (.invokevirtual 321, (125, 2, 8), .null, [5014, 24]) := by decide +kernel
theorem hk_106_104 : ax_look 106 104 = some (.ifCond .eq 30, (0, 0, 0), .null, []) := by decide +kernel
theorem hk_106_107 : ax_look 106 107 = some (.iload 4, (0, 0, 0), .null, []) := by decide +kernel
theorem hk_106_109 : ax_look 106 109 = some (.iconst 1, (0, 0, 0), .null, []) := by decide +kernel
theorem hk_106_110 : ax_look 106 110 = some (.iconst 2, (0, 0, 0), .null, []) := by decide +kernel
theorem hk_106_111 : ax_look 106 111 = some (.iload 5, (0, 0, 0), .null, []) := by decide +kernel
theorem hk_106_113 : ax_look 106 113 = some (.imul, (0, 0, 0), .null, []) := by decide +kernel
theorem hk_106_114 : ax_look 106 114 = some (.iload_n 2, (0, 0, 0), .null, []) := by decide +kernel
theorem hk_106_115 : ax_look 106 115 = some (.iload 6, (0, 0, 0), .null, []) := by decide +kernel
theorem hk_106_117 : ax_look 106 117 = some (.iand, (0, 0, 0), .null, []) := by decide +kernel
theorem hk_106_118 : ax_look 106 118 = some (.ifCond .ne 7, (0, 0, 0), .null, []) := by decide +kernel
theorem hk_106_121 : ax_look 106 121 = some (.iconst 0, (0, 0, 0), .null, []) := by decide +kernel
theorem hk_106_122 : ax_look 106 122 = some (.goto 4, (0, 0, 0), .null, []) := by decide +kernel
theorem hk_106_125 : ax_look 106 125 = some (.iconst 1, (0, 0, 0), .null, []) := by decide +kernel
theorem hk_106_126 : ax_look 106 126 = some (.iadd, (0, 0, 0), .null, []) := by decide +kernel
theorem hk_106_127 : ax_look 106 127 = some (.ishl, (0, 0, 0), .null, []) := by decide +kernel
theorem hk_106_128 : ax_look 106 128 = some (.ior, (0, 0, 0), .null, []) := by decide +kernel
theorem hk_106_129 : ax_look 106 129 = some (.istore 4, (0, 0, 0), .null, []) := by decide +kernel
theorem hk_106_131 : ax_look 106 131 = some (.goto 6, (0, 0, 0), .null, []) := by decide +kernel
theorem hk_106_134 : ax_look 106 134 = some (.iload 7, (0, 0, 0), .null, []) := by decide +kernel
theorem hk_106_136 : ax_look 106 136 = some (.istore_n 3, (0, 0, 0), .null, []) := by decide +kernel
theorem hk_106_137 : ax_look 106 137 = some (.iinc 5 1, (0, 0, 0), .null, []) := by decide +kernel
theorem hk_106_140 : ax_look 106 140 = some (.goto (-79), (0, 0, 0), .null, []) := by decide +kernel
theorem hk_106_143 : ax_look 106 143 = some (.aload_n 0, (0, 0, 0), .null, []) := by decide +kernel
theorem hk_106_144 : ax_look 106 144 = some (.getfield 81, (8, 12, 0), .null, [1235]) := by decide +kernel
theorem hk_106_147 : ax_look 106 147 = some (.iload 4, (0, 0, 0), .null, []) := by decide +kernel
theorem hk_106_149 : ax_look 106 149 = some (.invokevirtual 255, (32, 1, 3), .null, [5039, 5041]) := by decide +kernel
theorem hk_106_152 : ax_look 106 152 = some (.aload_n 0, (0, 0, 0), .null, []) := by decide +kernel
theorem hk_106_153 : ax_look 106 153 = some (.getfield 81, (8, 12, 0), .null, [1235]) := by decide +kernel
theorem hk_106_156 : ax_look 106 156 = some (.getfield 258, (3, 1, 0), .null, [1183]) := by decide +kernel
theorem hk_106_159 : ax_look 106 159 = some (.ireturn, (0, 0, 0), .null, []) := by decide +kernel
theorem hn_107 : (ax_mm 107).2.2.1 = 2 := by decide +kernel
theorem hr_107 : (ax_mm 107).2.2.2.1 = (some .int) := by decide +kernel
theorem hk_107_0 : ax_look 107 0 = some (.iload_n 1, (0, 0, 0), .null, []) := by decide +kernel
theorem hk_107_1 : ax_look 107 1 = some (.aload_n 0, (0, 0, 0), .null, []) := by decide +kernel
theorem hk_107_2 : ax_look 107 2 = some (.getfield 81, (8, 12, 0), .null, [1235]) := by decide +kernel
theorem hk_107_5 : ax_look 107 5 = some (.invokestatic 261, (114, 2, 0), .null, [3172]) := by decide +kernel
theorem hk_107_8 : ax_look 107 8 = some (.aload_n 0, (0, 0, 0), .null, []) := by decide +kernel
theorem hk_107_9 : ax_look 107 9 = some (.getfield 81, (8, 12, 0), .null, [1235]) := by decide +kernel
theorem hk_107_12 : ax_look 107 12 = some (.getfield 265, (3, 0, 0), .null, [1181]) := by decide +kernel
theorem hk_107_15 : ax_look 107 15 = some (.iload_n 1, (0, 0, 0), .null, []) := by decide +kernel
theorem hk_107_16 : ax_look 107 16 = some (.iaload, (0, 0, 0), .null, []) := by decide +kernel
theorem hk_107_17 : ax_look 107 17 = some (.ireturn, (0, 0, 0), .null, []) := by decide +kernel
theorem hn_111 : (ax_mm 111).2.2.1 = 2 := by decide +kernel
theorem hr_111 : (ax_mm 111).2.2.2.1 = none := by decide +kernel
theorem hk_111_0 : ax_look 111 0 = some (.iload_n 1, (0, 0, 0), .null, []) := by decide +kernel
theorem hk_111_1 : ax_look 111 1 = some (.ifCond .lt 11, (0, 0, 0), .null, []) := by decide +kernel
theorem hk_111_4 : ax_look 111 4 = some (.iload_n 1, (0, 0, 0), .null, []) := by decide +kernel
theorem hk_111_5 : ax_look 111 5 = some (.aload_n 0, (0, 0, 0), .null, []) := by decide +kernel
theorem hk_111_6 : ax_look 111 6 = some (.getfield 42, (8, 5, 0), .null, [1228]) := by decide +kernel
theorem hk_111_9 : ax_look 111 9 = some (.if_icmp .lt 14, (0, 0, 0), .null, []) := by decide +kernel
theorem hk_111_12 : ax_look 111 12 = some (.new 170, (802, 0, 0), .null, []) := by decide +kernel
theorem hk_111_15 : ax_look 111 15 = some (.dup, (0, 0, 0), .null, []) := by decide +kernel
theorem hk_111_16 : ax_look 111 16 = some (.ldc_w 356, (900, 0, 0), .null, []) := by decide +kernel
theorem hk_111_19 : ax_look 111 19 = some (.invokespecial 174, (900, 0, 0), .null, []) := by decide +kernel
theorem hk_111_22 : ax_look 111 22 = some (.athrow, (0, 0, 0), .null, []) := by decide +kernel
theorem hk_111_23 : ax_look 111 23 = some (.return_, (0, 0, 0), .null, []) := by decide +kernel
theorem hn_114 : (ax_mm 114).2.2.1 = 2 := by decide +kernel
theorem hr_114 : (ax_mm 114).2.2.2.1 = none := by decide +kernel
theorem hk_114_0 : ax_look 114 0 = some (.iload_n 0, (0, 0, 0), .null, []) := by decide +kernel
theorem hk_114_1 : ax_look 114 1 = some (.ifCond .lt 11, (0, 0, 0), .null, []) := by decide +kernel
theorem hk_114_4 : ax_look 114 4 = some (.iload_n 0, (0, 0, 0), .null, []) := by decide +kernel
theorem hk_114_5 : ax_look 114 5 = some (.aload_n 1, (0, 0, 0), .null, []) := by decide +kernel
theorem hk_114_6 : ax_look 114 6 = some (.getfield 258, (3, 1, 0), .null, [1183]) := by decide +kernel
theorem hk_114_9 : ax_look 114 9 = some (.if_icmp .lt 14, (0, 0, 0), .null, []) := by decide +kernel
theorem hk_114_12 : ax_look 114 12 = some (.new 170, (802, 0, 0), .null, []) := by decide +kernel
theorem hk_114_15 : ax_look 114 15 = some (.dup, (0, 0, 0), .null, []) := by decide +kernel
theorem hk_114_16 : ax_look 114 16 = some (.ldc_w 362, (900, 0, 0), .null, []) := by decide +kernel
theorem hk_114_19 : ax_look 114 19 = some (.invokespecial 174, (900, 0, 0), .null, []) := by decide +kernel
theorem hk_114_22 : ax_look 114 22 = some (.athrow, (0, 0, 0), .null, []) := by decide +kernel
theorem hk_114_23 : ax_look 114 23 = some (.return_, (0, 0, 0), .null, []) := by decide +kernel
theorem hn_115 : (ax_mm 115).2.2.1 = 2 := by decide +kernel
theorem hr_115 : (ax_mm 115).2.2.2.1 = none := by decide +kernel
theorem hk_115_0 : ax_look 115 0 = some (.aload_n 0, (0, 0, 0), .null, []) := by decide +kernel
theorem hk_115_1 : ax_look 115 1 = some (.getfield 42, (8, 5, 0), .null, [1228]) := by decide +kernel
theorem hk_115_4 : ax_look 115 4 = some (.iload_n 1, (0, 0, 0), .null, []) := by decide +kernel
theorem hk_115_5 : ax_look 115 5 = some (.iadd, (0, 0, 0), .null, []) := by decide +kernel
theorem hk_115_6 : ax_look 115 6 = some (.bipush 60, (0, 0, 0), .null, []) := by decide +kernel
theorem hk_115_8 : ax_look 115 8 = some (.if_icmp .le 14, (0, 0, 0), .null, []) := by decide +kernel
theorem hk_115_11 : ax_look 115 11 = some (.new 108, (800, 0, 0), .null, []) := by decide +kernel
theorem hk_115_14 : ax_look 115 14 = some (.dup, (0, 0, 0), .null, []) := by decide +kernel
theorem hk_115_15 : ax_look 115 15 = some (.ldc_w 364, (900, 0, 0), .null, []) := by decide +kernel
theorem hk_115_18 : ax_look 115 18 = some (.invokespecial 112, (900, 0, 0), .null, []) := by decide +kernel
theorem hk_115_21 : ax_look 115 21 = some (.athrow, (0, 0, 0), .null, []) := by decide +kernel
theorem hk_115_22 : ax_look 115 22 = some (.return_, (0, 0, 0), .null, []) := by decide +kernel
theorem hn_116 : (ax_mm 116).2.2.1 = 1 := by decide +kernel
theorem hr_116 : (ax_mm 116).2.2.2.1 = (some .boolean) := by decide +kernel
theorem hk_116_0 : ax_look 116 0 = some (.iload_n 0, (0, 0, 0), .null, []) := by decide +kernel
theorem hk_116_1 : ax_look 116 1 = some (.ifCond .lt 14, (0, 0, 0), .null, []) := by decide +kernel
theorem hk_116_4 : ax_look 116 4 = some (.iload_n 0, (0, 0, 0), .null, []) := by decide +kernel
theorem hk_116_5 : ax_look 116 5 = some (.sipush 4095, (0, 0, 0), .null, []) := by decide +kernel
theorem hk_116_8 : ax_look 116 8 = some (.if_icmp .gt 7, (0, 0, 0), .null, []) := by decide +kernel
theorem hk_116_11 : ax_look 116 11 = some (.iconst 1, (0, 0, 0), .null, []) := by decide +kernel
theorem hk_116_12 : ax_look 116 12 = some (.goto 4, (0, 0, 0), .null, []) := by decide +kernel
theorem hk_116_15 : ax_look 116 15 = some (.iconst 0, (0, 0, 0), .null, []) := by decide +kernel
theorem hk_116_16 : ax_look 116 16 = some (.ireturn, (0, 0, 0), .null, []) := by decide +kernel
theorem hn_117 : (ax_mm 117).2.2.1 = 2 := by decide +kernel
theorem hr_117 : (ax_mm 117).2.2.2.1 = none := by decide +kernel
theorem hk_117_0 : ax_look 117 0 = some (.aload_n 0, (0, 0, 0), .null, []) := by decide +kernel
theorem hk_117_1 : ax_look 117 1 = some (.iload_n 1, (0, 0, 0), .null, []) := by decide +kernel
theorem hk_117_2 : ax_look 117 2 = some (.ifCond .eq 7, (0, 0, 0), .null, []) := by decide +kernel
theorem hk_117_5 : ax_look 117 5 = some (.iconst (-1), (0, 0, 0), .null, []) := by decide +kernel
theorem hk_117_6 : ax_look 117 6 = some (.goto 10, (0, 0, 0), .null, []) := by decide +kernel
theorem hk_117_9 : ax_look 117 9 = some (.aload_n 0, (0, 0, 0), .null, []) := by decide +kernel
theorem hk_117_10 : ax_look 117 10 = some (.getfield 21, (8, 1, 0), .null, [1224]) := by decide +kernel
theorem hk_117_13 : ax_look 117 13 = some (.getfield 366, (6, 3, 0), .null, [1064]) := by decide +kernel
theorem hk_117_16 : ax_look 117 16 = some (.putfield 25, (8, 2, 0), .null, [1225]) := by decide +kernel
theorem hk_117_19 : ax_look 117 19 = some (.aload_n 0, (0, 0, 0), .null, []) := by decide +kernel
theorem hk_117_20 : ax_look 117 20 = some (.getfield 10, (8, 0, 0), .null, [1223]) := by decide +kernel
theorem hk_117_23 : ax_look 117 23 = some (.iconst 0, (0, 0, 0), .null, []) := by decide +kernel
theorem hk_117_24 : ax_look 117 24 = some (.putfield 105, (7, 1, 0), .null, [1047]) := by decide +kernel
theorem hk_117_27 : ax_look 117 27 = some (.iload_n 1, (0, 0, 0), .null, []) := by decide +kernel
theorem hk_117_28 : ax_look 117 28 = some (.ifCond .ne 14, (0, 0, 0), .null, []) := by decide +kernel
theorem hk_117_31 : ax_look 117 31 = some (.new 119, (801, 0, 0), .null, []) := by decide +kernel
theorem hk_117_34 : ax_look 117 34 = some (.dup, (0, 0, 0), .null, []) := by decide +kernel
theorem hk_117_35 : ax_look 117 35 = some (.ldc_w 369, (900, 0, 0), .null, []) := by decide +kernel
theorem hk_117_38 : ax_look 117 38 = some (.invokespecial 123, (900, 0, 0), .null, []) := by decide +kernel
theorem hk_117_41 : ax_look 117 41 = some (.athrow, (0, 0, 0), .null, []) := by decide +kernel
theorem hk_117_42 : ax_look 117 42 = some (.return_, (0, 0, 0), .null, []) := by decide +kernel
theorem hn_118 : (ax_mm 118).2.2.1 = 1 := by decide +kernel
theorem hr_118 : (ax_mm 118).2.2.2.1 = (some .int) := by decide +kernel
theorem hk_118_0 : ax_look 118 0 = some (.aload_n 0, (0, 0, 0), .null, []) := by decide +kernel
theorem hk_118_1 : ax_look 118 1 = some (.getfield 48, (8, 6, 0), .null, [1229]) := by decide +kernel
theorem hk_118_4 : ax_look 118 4 = some (.invokevirtual 371, (26, 0, 2), .null, [2188, 2190]) := by decide +kernel
theorem hk_118_7 : ax_look 118 7 = some (.aload_n 0, (0, 0, 0), .null, []) := by decide +kernel
theorem hk_118_8 : ax_look 118 8 = some (.getfield 48, (8, 6, 0), .null, [1229]) := by decide +kernel
theorem hk_118_11 : ax_look 118 11 = some (.invokevirtual 374, (27, 0, 2), .null, [3047, 3049]) := by decide +kernel
theorem hk_118_14 : ax_look 118 14 = some (.ifCond .ne 14, (0, 0, 0), .null, []) := by decide +kernel
theorem hk_118_17 : ax_look 118 17 = some (.new 377, (803, 0, 0), .null, []) := by decide +kernel
theorem hk_118_20 : ax_look 118 20 = some (.dup, (0, 0, 0), .null, []) := by decide +kernel
theorem hk_118_21 : ax_look 118 21 = some (.ldc_w 379, (900, 0, 0), .null, []) := by decide +kernel
theorem hk_118_24 : ax_look 118 24 = some (.invokespecial 381, (900, 0, 0), .null, []) := by decide +kernel
theorem hk_118_27 : ax_look 118 27 = some (.athrow, (0, 0, 0), .null, []) := by decide +kernel
theorem hk_118_28 : ax_look 118 28 = some (.aload_n 0, (0, 0, 0), .null, []) := by decide +kernel
theorem hk_118_29 : ax_look 118 29 = some (.invokevirtual 145, (119, 0, 8), .null, [3068, 18]) := by decide +kernel
theorem hk_118_32 : ax_look 118 32 = some (.ireturn, (0, 0, 0), .null, []) := by decide +kernel
theorem hn_119 : (ax_mm 119).2.2.1 = 2 := by decide +kernel
theorem hr_119 : (ax_mm 119).2.2.2.1 = (some .int) := by decide +kernel
theorem hk_119_0 : ax_look 119 0 = some (.aload_n 0, (0, 0, 0), .null, []) := by decide +kernel
theorem hk_119_1 : ax_look 119 1 = some (.getfield 48, (8, 6, 0), .null, [1229]) := by decide +kernel
theorem hk_119_4 : ax_look 119 4 = some (.invokevirtual 371, (26, 0, 2), .null, [2188, 2190]) := by decide +kernel
theorem hk_119_7 : ax_look 119 7 = some (.aload_n 0, (0, 0, 0), .null, []) := by decide +kernel
theorem hk_119_8 : ax_look 119 8 = some (.getfield 42, (8, 5, 0), .null, [1228]) := by decide +kernel
theorem hk_119_11 : ax_look 119 11 = some (.istore_n 1, (0, 0, 0), .null, []) := by decide +kernel
theorem hk_119_12 : ax_look 119 12 = some (.aload_n 0, (0, 0, 0), .null, []) := by decide +kernel
theorem hk_119_13 : ax_look 119 13 = some (.getfield 38, (8, 4, 0), .null, [1227]) := by decide +kernel
theorem hk_119_16 : ax_look 119 16 = some (.iload_n 1, (0, 0, 0), .null, []) := by decide +kernel
theorem hk_119_17 : ax_look 119 17 = some (.aaload, (0, 0, 0), .null, []) := by decide +kernel
theorem hk_119_18 : ax_look 119 18 = some (.aload_n 0, (0, 0, 0), .null, []) := by decide +kernel
theorem hk_119_19 : ax_look 119 19 = some (.getfield 48, (8, 6, 0), .null, [1229]) := by decide +kernel
theorem hk_119_22 : ax_look 119 22 = some (.invokevirtual 382, (7, 1, 1), .null, [2198, 2200]) := by decide +kernel
theorem hk_119_25 : ax_look 119 25 = some (.aload_n 0, (0, 0, 0), .null, []) := by decide +kernel
theorem hk_119_26 : ax_look 119 26 = some (.dup, (0, 0, 0), .null, []) := by decide +kernel
theorem hk_119_27 : ax_look 119 27 = some (.getfield 42, (8, 5, 0), .null, [1228]) := by decide +kernel
theorem hk_119_30 : ax_look 119 30 = some (.iconst 1, (0, 0, 0), .null, []) := by decide +kernel
theorem hk_119_31 : ax_look 119 31 = some (.iadd, (0, 0, 0), .null, []) := by decide +kernel
