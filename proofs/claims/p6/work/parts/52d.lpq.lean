/-! THE LAW, 4: the place of the error -/
theorem hn_55 : (ax_mm 55).2.2.1 = 1 := by decide +kernel
theorem hr_55 : (ax_mm 55).2.2.2.1 = (some .boolean) := by decide +kernel
theorem hk_55_0 : ax_look 55 0 = some (.aload_n 0, (0, 0, 0), .null, []) := by decide +kernel
theorem hk_55_1 : ax_look 55 1 = some (.getfield 9, (6, 6, 0), .null, [1070]) := by decide +kernel
theorem hk_55_4 : ax_look 55 4 = some (.iconst 0, (0, 0, 0), .null, []) := by decide +kernel
theorem hk_55_5 : ax_look 55 5 = some (.invokestatic 43, (253, 2, 0), .null, [2235]) := by decide +kernel
theorem hk_55_8 : ax_look 55 8 = some (.aload_n 0, (0, 0, 0), .null, []) := by decide +kernel
theorem hk_55_9 : ax_look 55 9 = some (.iconst 0, (0, 0, 0), .null, []) := by decide +kernel
theorem hk_55_10 : ax_look 55 10 = some (.putfield 49, (6, 1, 0), .null, [1064]) := by decide +kernel
theorem hk_55_13 : ax_look 55 13 = some (.aload_n 0, (0, 0, 0), .null, []) := by decide +kernel
theorem hk_55_14 : ax_look 55 14 = some (.invokevirtual 52, (61, 0, 6), .null, [2236, 5]) := by decide +kernel
theorem hk_55_17 : ax_look 55 17 = some (.aload_n 0, (0, 0, 0), .null, []) := by decide +kernel
theorem hk_55_18 : ax_look 55 18 = some (.invokevirtual 55, (56, 0, 6), .null, [3019, 9]) := by decide +kernel
theorem hk_55_21 : ax_look 55 21 = some (.ifCond .eq 28, (0, 0, 0), .null, []) := by decide +kernel
theorem hk_55_24 : ax_look 55 24 = some (.aload_n 0, (0, 0, 0), .null, []) := by decide +kernel
theorem hk_55_25 : ax_look 55 25 = some (.invokevirtual 59, (58, 0, 6), .null, [3031, 12]) := by decide +kernel
theorem hk_55_28 : ax_look 55 28 = some (.ifCond .eq 21, (0, 0, 0), .null, []) := by decide +kernel
theorem hk_55_31 : ax_look 55 31 = some (.aload_n 0, (0, 0, 0), .null, []) := by decide +kernel
theorem hk_55_32 : ax_look 55 32 = some (.invokevirtual 62, (59, 0, 6), .null, [3035, 13]) := by decide +kernel
theorem hk_55_35 : ax_look 55 35 = some (.ifCond .eq 14, (0, 0, 0), .null, []) := by decide +kernel
theorem hk_55_38 : ax_look 55 38 = some (.aload_n 0, (0, 0, 0), .null, []) := by decide +kernel
theorem hk_55_39 : ax_look 55 39 = some (.getfield 65, (6, 2, 0), .null, [1065]) := by decide +kernel
theorem hk_55_42 : ax_look 55 42 = some (.ifCond .ne 7, (0, 0, 0), .null, []) := by decide +kernel
theorem hk_55_45 : ax_look 55 45 = some (.iconst 1, (0, 0, 0), .null, []) := by decide +kernel
theorem hk_55_46 : ax_look 55 46 = some (.goto 4, (0, 0, 0), .null, []) := by decide +kernel
theorem hk_55_49 : ax_look 55 49 = some (.iconst 0, (0, 0, 0), .null, []) := by decide +kernel
theorem hk_55_50 : ax_look 55 50 = some (.ireturn, (0, 0, 0), .null, []) := by decide +kernel
theorem hn_56 : (ax_mm 56).2.2.1 = 4 := by decide +kernel
theorem hr_56 : (ax_mm 56).2.2.2.1 = (some .boolean) := by decide +kernel
theorem hk_56_0 : ax_look 56 0 = some (.aload_n 0, (0, 0, 0), .null, []) := by decide +kernel
theorem hk_56_1 : ax_look 56 1 = some (.aload_n 0, (0, 0, 0), .null, []) := by decide +kernel
theorem hk_56_2 : ax_look 56 2 = some (.invokevirtual 68, (60, 0, 6), .null, [3023, 10]) := by decide +kernel
theorem hk_56_5 : ax_look 56 5 = some (.invokevirtual 71, (57, 1, 6), .null, [3027, 11]) := by decide +kernel
theorem hk_56_8 : ax_look 56 8 = some (.istore_n 1, (0, 0, 0), .null, []) := by decide +kernel
theorem hk_56_9 : ax_look 56 9 = some (.iconst 0, (0, 0, 0), .null, []) := by decide +kernel
theorem hk_56_10 : ax_look 56 10 = some (.istore_n 2, (0, 0, 0), .null, []) := by decide +kernel
theorem hk_56_11 : ax_look 56 11 = some (.iload_n 2, (0, 0, 0), .null, []) := by decide +kernel
theorem hk_56_12 : ax_look 56 12 = some (.sipush 200, (0, 0, 0), .null, []) := by decide +kernel
theorem hk_56_15 : ax_look 56 15 = some (.if_icmp .ge 55, (0, 0, 0), .null, []) := by decide +kernel
theorem hk_56_18 : ax_look 56 18 = some (.iload_n 1, (0, 0, 0), .null, []) := by decide +kernel
theorem hk_56_19 : ax_look 56 19 = some (.ifCond .eq 51, (0, 0, 0), .null, []) := by decide +kernel
theorem hk_56_22 : ax_look 56 22 = some (.aload_n 0, (0, 0, 0), .null, []) := by decide +kernel
theorem hk_56_23 : ax_look 56 23 = some (.getfield 65, (6, 2, 0), .null, [1065]) := by decide +kernel
theorem hk_56_26 : ax_look 56 26 = some (.iconst 4, (0, 0, 0), .null, []) := by decide +kernel
theorem hk_56_27 : ax_look 56 27 = some (.if_icmp .eq 13, (0, 0, 0), .null, []) := by decide +kernel
theorem hk_56_30 : ax_look 56 30 = some (.aload_n 0, (0, 0, 0), .null, []) := by decide +kernel
theorem hk_56_31 : ax_look 56 31 = some (.getfield 65, (6, 2, 0), .null, [1065]) := by decide +kernel
theorem hk_56_34 : ax_look 56 34 = some (.iconst 5, (0, 0, 0), .null, []) := by decide +kernel
theorem hk_56_35 : ax_look 56 35 = some (.if_icmp .eq 5, (0, 0, 0), .null, []) := by decide +kernel
theorem hk_56_38 : ax_look 56 38 = some (.iconst 1, (0, 0, 0), .null, []) := by decide +kernel
theorem hk_56_39 : ax_look 56 39 = some (.ireturn, (0, 0, 0), .null, []) := by decide +kernel
theorem hk_56_40 : ax_look 56 40 = some (.aload_n 0, (0, 0, 0), .null, []) := by decide +kernel
theorem hk_56_41 : ax_look 56 41 = some (.getfield 65, (6, 2, 0), .null, [1065]) := by decide +kernel
theorem hk_56_44 : ax_look 56 44 = some (.iconst 5, (0, 0, 0), .null, []) := by decide +kernel
theorem hk_56_45 : ax_look 56 45 = some (.if_icmp .ne 7, (0, 0, 0), .null, []) := by decide +kernel
theorem hk_56_48 : ax_look 56 48 = some (.iconst 1, (0, 0, 0), .null, []) := by decide +kernel
theorem hk_56_49 : ax_look 56 49 = some (.goto 4, (0, 0, 0), .null, []) := by decide +kernel
theorem hk_56_52 : ax_look 56 52 = some (.iconst 0, (0, 0, 0), .null, []) := by decide +kernel
theorem hk_56_53 : ax_look 56 53 = some (.istore_n 3, (0, 0, 0), .null, []) := by decide +kernel
theorem hk_56_54 : ax_look 56 54 = some (.aload_n 0, (0, 0, 0), .null, []) := by decide +kernel
theorem hk_56_55 : ax_look 56 55 = some (.invokevirtual 52, (61, 0, 6), .null, [2236, 5]) := by decide +kernel
theorem hk_56_58 : ax_look 56 58 = some (.aload_n 0, (0, 0, 0), .null, []) := by decide +kernel
theorem hk_56_59 : ax_look 56 59 = some (.iload_n 3, (0, 0, 0), .null, []) := by decide +kernel
theorem hk_56_60 : ax_look 56 60 = some (.invokevirtual 71, (57, 1, 6), .null, [3027, 11]) := by decide +kernel
theorem hk_56_63 : ax_look 56 63 = some (.istore_n 1, (0, 0, 0), .null, []) := by decide +kernel
theorem hk_56_64 : ax_look 56 64 = some (.iinc 2 1, (0, 0, 0), .null, []) := by decide +kernel
theorem hk_56_67 : ax_look 56 67 = some (.goto (-56), (0, 0, 0), .null, []) := by decide +kernel
theorem hk_56_70 : ax_look 56 70 = some (.iload_n 1, (0, 0, 0), .null, []) := by decide +kernel
theorem hk_56_71 : ax_look 56 71 = some (.ireturn, (0, 0, 0), .null, []) := by decide +kernel
theorem hn_57 : (ax_mm 57).2.2.1 = 4 := by decide +kernel
theorem hr_57 : (ax_mm 57).2.2.2.1 = (some .boolean) := by decide +kernel
theorem hk_57_0 : ax_look 57 0 = some (.iconst 1, (0, 0, 0), .null, []) := by decide +kernel
theorem hk_57_1 : ax_look 57 1 = some (.istore_n 2, (0, 0, 0), .null, []) := by decide +kernel
theorem hk_57_2 : ax_look 57 2 = some (.aload_n 0, (0, 0, 0), .null, []) := by decide +kernel
theorem hk_57_3 : ax_look 57 3 = some (.getfield 65, (6, 2, 0), .null, [1065]) := by decide +kernel
theorem hk_57_6 : ax_look 57 6 = some (.iconst 2, (0, 0, 0), .null, []) := by decide +kernel
theorem hk_57_7 : ax_look 57 7 = some (.if_icmp .ne 12, (0, 0, 0), .null, []) := by decide +kernel
theorem hk_57_10 : ax_look 57 10 = some (.aload_n 0, (0, 0, 0), .null, []) := by decide +kernel
theorem hk_57_11 : ax_look 57 11 = some (.getfield 77, (6, 4, 0), .null, [1068]) := by decide +kernel
theorem hk_57_14 : ax_look 57 14 = some (.istore_n 2, (0, 0, 0), .null, []) := by decide +kernel
theorem hk_57_15 : ax_look 57 15 = some (.aload_n 0, (0, 0, 0), .null, []) := by decide +kernel
theorem hk_57_16 : ax_look 57 16 = some (.invokevirtual 52, (61, 0, 6), .null, [2236, 5]) := by decide +kernel
theorem hk_57_19 : ax_look 57 19 = some (.iconst 0, (0, 0, 0), .null, []) := by decide +kernel
theorem hk_57_20 : ax_look 57 20 = some (.istore_n 3, (0, 0, 0), .null, []) := by decide +kernel
theorem hk_57_21 : ax_look 57 21 = some (.aload_n 0, (0, 0, 0), .null, []) := by decide +kernel
theorem hk_57_22 : ax_look 57 22 = some (.getfield 65, (6, 2, 0), .null, [1065]) := by decide +kernel
theorem hk_57_25 : ax_look 57 25 = some (.bipush 6, (0, 0, 0), .null, []) := by decide +kernel
theorem hk_57_27 : ax_look 57 27 = some (.if_icmp .ne 9, (0, 0, 0), .null, []) := by decide +kernel
theorem hk_57_30 : ax_look 57 30 = some (.iconst 1, (0, 0, 0), .null, []) := by decide +kernel
theorem hk_57_31 : ax_look 57 31 = some (.istore_n 3, (0, 0, 0), .null, []) := by decide +kernel
theorem hk_57_32 : ax_look 57 32 = some (.aload_n 0, (0, 0, 0), .null, []) := by decide +kernel
theorem hk_57_33 : ax_look 57 33 = some (.invokevirtual 52, (61, 0, 6), .null, [2236, 5]) := by decide +kernel
theorem hk_57_36 : ax_look 57 36 = some (.aload_n 0, (0, 0, 0), .null, []) := by decide +kernel
theorem hk_57_37 : ax_look 57 37 = some (.getfield 65, (6, 2, 0), .null, [1065]) := by decide +kernel
theorem hk_57_40 : ax_look 57 40 = some (.iconst 3, (0, 0, 0), .null, []) := by decide +kernel
theorem hk_57_41 : ax_look 57 41 = some (.if_icmp .eq 5, (0, 0, 0), .null, []) := by decide +kernel
theorem hk_57_44 : ax_look 57 44 = some (.iconst 0, (0, 0, 0), .null, []) := by decide +kernel
theorem hk_57_45 : ax_look 57 45 = some (.ireturn, (0, 0, 0), .null, []) := by decide +kernel
theorem hk_57_46 : ax_look 57 46 = some (.aload_n 0, (0, 0, 0), .null, []) := by decide +kernel
theorem hk_57_47 : ax_look 57 47 = some (.getfield 9, (6, 6, 0), .null, [1070]) := by decide +kernel
theorem hk_57_50 : ax_look 57 50 = some (.iconst 2, (0, 0, 0), .null, []) := by decide +kernel
theorem hk_57_51 : ax_look 57 51 = some (.aload_n 0, (0, 0, 0), .null, []) := by decide +kernel
theorem hk_57_52 : ax_look 57 52 = some (.getfield 80, (6, 5, 0), .null, [1069]) := by decide +kernel
theorem hk_57_55 : ax_look 57 55 = some (.imul, (0, 0, 0), .null, []) := by decide +kernel
theorem hk_57_56 : ax_look 57 56 = some (.iload_n 3, (0, 0, 0), .null, []) := by decide +kernel
theorem hk_57_57 : ax_look 57 57 = some (.iadd, (0, 0, 0), .null, []) := by decide +kernel
theorem hk_57_58 : ax_look 57 58 = some (.dup2, (0, 0, 0), .null, []) := by decide +kernel
theorem hk_57_59 : ax_look 57 59 = some (.iaload, (0, 0, 0), .null, []) := by decide +kernel
theorem hk_57_60 : ax_look 57 60 = some (.iload_n 1, (0, 0, 0), .null, []) := by decide +kernel
theorem hk_57_61 : ax_look 57 61 = some (.ifCond .eq 8, (0, 0, 0), .null, []) := by decide +kernel
theorem hk_57_64 : ax_look 57 64 = some (.iload_n 2, (0, 0, 0), .null, []) := by decide +kernel
theorem hk_57_65 : ax_look 57 65 = some (.ineg, (0, 0, 0), .null, []) := by decide +kernel
theorem hk_57_66 : ax_look 57 66 = some (.goto 4, (0, 0, 0), .null, []) := by decide +kernel
theorem hk_57_69 : ax_look 57 69 = some (.iload_n 2, (0, 0, 0), .null, []) := by decide +kernel
theorem hk_57_70 : ax_look 57 70 = some (.iadd, (0, 0, 0), .null, []) := by decide +kernel
theorem hk_57_71 : ax_look 57 71 = some (.iastore, (0, 0, 0), .null, []) := by decide +kernel
theorem hk_57_72 : ax_look 57 72 = some (.aload_n 0, (0, 0, 0), .null, []) := by decide +kernel
theorem hk_57_73 : ax_look 57 73 = some (.invokevirtual 52, (61, 0, 6), .null, [2236, 5]) := by decide +kernel
theorem hk_57_76 : ax_look 57 76 = some (.iconst 1, (0, 0, 0), .null, []) := by decide +kernel
theorem hk_57_77 : ax_look 57 77 = some (.ireturn, (0, 0, 0), .null, []) := by decide +kernel
theorem hn_58 : (ax_mm 58).2.2.1 = 1 := by decide +kernel
theorem hr_58 : (ax_mm 58).2.2.2.1 = (some .boolean) := by decide +kernel
theorem hk_58_0 : ax_look 58 0 = some (.aload_n 0, (0, 0, 0), .null, []) := by decide +kernel
theorem hk_58_1 : ax_look 58 1 = some (.getfield 65, (6, 2, 0), .null, [1065]) := by decide +kernel
theorem hk_58_4 : ax_look 58 4 = some (.bipush 7, (0, 0, 0), .null, []) := by decide +kernel
theorem hk_58_6 : ax_look 58 6 = some (.if_icmp .eq 23, (0, 0, 0), .null, []) := by decide +kernel
theorem hk_58_9 : ax_look 58 9 = some (.aload_n 0, (0, 0, 0), .null, []) := by decide +kernel
theorem hk_58_10 : ax_look 58 10 = some (.getfield 65, (6, 2, 0), .null, [1065]) := by decide +kernel
theorem hk_58_13 : ax_look 58 13 = some (.bipush 8, (0, 0, 0), .null, []) := by decide +kernel
theorem hk_58_15 : ax_look 58 15 = some (.if_icmp .eq 14, (0, 0, 0), .null, []) := by decide +kernel
theorem hk_58_18 : ax_look 58 18 = some (.aload_n 0, (0, 0, 0), .null, []) := by decide +kernel
theorem hk_58_19 : ax_look 58 19 = some (.getfield 65, (6, 2, 0), .null, [1065]) := by decide +kernel
theorem hk_58_22 : ax_look 58 22 = some (.bipush 9, (0, 0, 0), .null, []) := by decide +kernel
theorem hk_58_24 : ax_look 58 24 = some (.if_icmp .eq 5, (0, 0, 0), .null, []) := by decide +kernel
theorem hk_58_27 : ax_look 58 27 = some (.iconst 0, (0, 0, 0), .null, []) := by decide +kernel
theorem hk_58_28 : ax_look 58 28 = some (.ireturn, (0, 0, 0), .null, []) := by decide +kernel
theorem hk_58_29 : ax_look 58 29 = some (.aload_n 0, (0, 0, 0), .null, []) := by decide +kernel
theorem hk_58_30 : ax_look 58 30 = some (.aload_n 0, (0, 0, 0), .null, []) := by decide +kernel
theorem hk_58_31 : ax_look 58 31 = some (.getfield 65, (6, 2, 0), .null, [1065]) := by decide +kernel
theorem hk_58_34 : ax_look 58 34 = some (.putfield 19, (6, 7, 0), .null, [1071]) := by decide +kernel
theorem hk_58_37 : ax_look 58 37 = some (.aload_n 0, (0, 0, 0), .null, []) := by decide +kernel
theorem hk_58_38 : ax_look 58 38 = some (.invokevirtual 52, (61, 0, 6), .null, [2236, 5]) := by decide +kernel
theorem hk_58_41 : ax_look 58 41 = some (.iconst 1, (0, 0, 0), .null, []) := by decide +kernel
theorem hk_58_42 : ax_look 58 42 = some (.ireturn, (0, 0, 0), .null, []) := by decide +kernel
theorem hn_59 : (ax_mm 59).2.2.1 = 2 := by decide +kernel
theorem hr_59 : (ax_mm 59).2.2.2.1 = (some .boolean) := by decide +kernel
theorem hk_59_0 : ax_look 59 0 = some (.aload_n 0, (0, 0, 0), .null, []) := by decide +kernel
theorem hk_59_1 : ax_look 59 1 = some (.invokevirtual 68, (60, 0, 6), .null, [3023, 10]) := by decide +kernel
theorem hk_59_4 : ax_look 59 4 = some (.istore_n 1, (0, 0, 0), .null, []) := by decide +kernel
theorem hk_59_5 : ax_look 59 5 = some (.aload_n 0, (0, 0, 0), .null, []) := by decide +kernel
theorem hk_59_6 : ax_look 59 6 = some (.getfield 65, (6, 2, 0), .null, [1065]) := by decide +kernel
theorem hk_59_9 : ax_look 59 9 = some (.iconst 2, (0, 0, 0), .null, []) := by decide +kernel
theorem hk_59_10 : ax_look 59 10 = some (.if_icmp .eq 5, (0, 0, 0), .null, []) := by decide +kernel
theorem hk_59_13 : ax_look 59 13 = some (.iconst 0, (0, 0, 0), .null, []) := by decide +kernel
theorem hk_59_14 : ax_look 59 14 = some (.ireturn, (0, 0, 0), .null, []) := by decide +kernel
theorem hk_59_15 : ax_look 59 15 = some (.aload_n 0, (0, 0, 0), .null, []) := by decide +kernel
theorem hk_59_16 : ax_look 59 16 = some (.iload_n 1, (0, 0, 0), .null, []) := by decide +kernel
theorem hk_59_17 : ax_look 59 17 = some (.ifCond .eq 11, (0, 0, 0), .null, []) := by decide +kernel
theorem hk_59_20 : ax_look 59 20 = some (.aload_n 0, (0, 0, 0), .null, []) := by decide +kernel
theorem hk_59_21 : ax_look 59 21 = some (.getfield 77, (6, 4, 0), .null, [1068]) := by decide +kernel
theorem hk_59_24 : ax_look 59 24 = some (.ineg, (0, 0, 0), .null, []) := by decide +kernel
theorem hk_59_25 : ax_look 59 25 = some (.goto 7, (0, 0, 0), .null, []) := by decide +kernel
theorem hk_59_28 : ax_look 59 28 = some (.aload_n 0, (0, 0, 0), .null, []) := by decide +kernel
theorem hk_59_29 : ax_look 59 29 = some (.getfield 77, (6, 4, 0), .null, [1068]) := by decide +kernel
theorem hk_59_32 : ax_look 59 32 = some (.putfield 32, (6, 8, 0), .null, [1072]) := by decide +kernel
theorem hk_59_35 : ax_look 59 35 = some (.aload_n 0, (0, 0, 0), .null, []) := by decide +kernel
theorem hk_59_36 : ax_look 59 36 = some (.invokevirtual 52, (61, 0, 6), .null, [2236, 5]) := by decide +kernel
theorem hk_59_39 : ax_look 59 39 = some (.iconst 1, (0, 0, 0), .null, []) := by decide +kernel
theorem hk_59_40 : ax_look 59 40 = some (.ireturn, (0, 0, 0), .null, []) := by decide +kernel
theorem hn_60 : (ax_mm 60).2.2.1 = 1 := by decide +kernel
theorem hr_60 : (ax_mm 60).2.2.2.1 = (some .boolean) := by decide +kernel
theorem hk_60_0 : ax_look 60 0 = some (.aload_n 0, (0, 0, 0), .null, []) := by decide +kernel
theorem hk_60_1 : ax_look 60 1 = some (.getfield 65, (6, 2, 0), .null, [1065]) := by decide +kernel
theorem hk_60_4 : ax_look 60 4 = some (.iconst 5, (0, 0, 0), .null, []) := by decide +kernel
theorem hk_60_5 : ax_look 60 5 = some (.if_icmp .eq 5, (0, 0, 0), .null, []) := by decide +kernel
theorem hk_60_8 : ax_look 60 8 = some (.iconst 0, (0, 0, 0), .null, []) := by decide +kernel
theorem hk_60_9 : ax_look 60 9 = some (.ireturn, (0, 0, 0), .null, []) := by decide +kernel
theorem hk_60_10 : ax_look 60 10 = some (.aload_n 0, (0, 0, 0), .null, []) := by decide +kernel
theorem hk_60_11 : ax_look 60 11 = some (.invokevirtual 52, (61, 0, 6), .null, [2236, 5]) := by decide +kernel
theorem hk_60_14 : ax_look 60 14 = some (.iconst 1, (0, 0, 0), .null, []) := by decide +kernel
theorem hk_60_15 : ax_look 60 15 = some (.ireturn, (0, 0, 0), .null, []) := by decide +kernel
theorem hn_61 : (ax_mm 61).2.2.1 = 2 := by decide +kernel
theorem hr_61 : (ax_mm 61).2.2.2.1 = none := by decide +kernel
theorem hk_61_0 : ax_look 61 0 = some (.aload_n 0, (0, 0, 0), .null, []) := by decide +kernel
theorem hk_61_1 : ax_look 61 1 = some (.getfield 49, (6, 1, 0), .null, [1064]) := by decide +kernel
theorem hk_61_4 : ax_look 61 4 = some (.sipush 200, (0, 0, 0), .null, []) := by decide +kernel
theorem hk_61_7 : ax_look 61 7 = some (.if_icmp .ge 32, (0, 0, 0), .null, []) := by decide +kernel
theorem hk_61_10 : ax_look 61 10 = some (.aload_n 0, (0, 0, 0), .null, []) := by decide +kernel
theorem hk_61_11 : ax_look 61 11 = some (.getfield 15, (6, 0, 0), .null, [1063]) := by decide +kernel
theorem hk_61_14 : ax_look 61 14 = some (.aload_n 0, (0, 0, 0), .null, []) := by decide +kernel
theorem hk_61_15 : ax_look 61 15 = some (.getfield 49, (6, 1, 0), .null, [1064]) := by decide +kernel
theorem hk_61_18 : ax_look 61 18 = some (.invokevirtual 83, (68, 1, 7), .null, [3000, 3002]) := by decide +kernel
theorem hk_61_21 : ax_look 61 21 = some (.bipush 32, (0, 0, 0), .null, []) := by decide +kernel
theorem hk_61_23 : ax_look 61 23 = some (.if_icmp .ne 16, (0, 0, 0), .null, []) := by decide +kernel
theorem hk_61_26 : ax_look 61 26 = some (.aload_n 0, (0, 0, 0), .null, []) := by decide +kernel
theorem hk_61_27 : ax_look 61 27 = some (.dup, (0, 0, 0), .null, []) := by decide +kernel
theorem hk_61_28 : ax_look 61 28 = some (.getfield 49, (6, 1, 0), .null, [1064]) := by decide +kernel
theorem hk_61_31 : ax_look 61 31 = some (.iconst 1, (0, 0, 0), .null, []) := by decide +kernel
theorem hk_61_32 : ax_look 61 32 = some (.iadd, (0, 0, 0), .null, []) := by decide +kernel
theorem hk_61_33 : ax_look 61 33 = some (.putfield 49, (6, 1, 0), .null, [1064]) := by decide +kernel
theorem hk_61_36 : ax_look 61 36 = some (.goto (-36), (0, 0, 0), .null, []) := by decide +kernel
theorem hk_61_39 : ax_look 61 39 = some (.aload_n 0, (0, 0, 0), .null, []) := by decide +kernel
theorem hk_61_40 : ax_look 61 40 = some (.aload_n 0, (0, 0, 0), .null, []) := by decide +kernel
theorem hk_61_41 : ax_look 61 41 = some (.getfield 49, (6, 1, 0), .null, [1064]) := by decide +kernel
theorem hk_61_44 : ax_look 61 44 = some (.putfield 87, (6, 3, 0), .null, [1066]) := by decide +kernel
theorem hk_61_47 : ax_look 61 47 = some (.aload_n 0, (0, 0, 0), .null, []) := by decide +kernel
theorem hk_61_48 : ax_look 61 48 = some (.getfield 15, (6, 0, 0), .null, [1063]) := by decide +kernel
theorem hk_61_51 : ax_look 61 51 = some (.aload_n 0, (0, 0, 0), .null, []) := by decide +kernel
theorem hk_61_52 : ax_look 61 52 = some (.getfield 49, (6, 1, 0), .null, [1064]) := by decide +kernel
theorem hk_61_55 : ax_look 61 55 = some (.invokevirtual 83, (68, 1, 7), .null, [3000, 3002]) := by decide +kernel
theorem hk_61_58 : ax_look 61 58 = some (.istore_n 1, (0, 0, 0), .null, []) := by decide +kernel
theorem hk_61_59 : ax_look 61 59 = some (.iload_n 1, (0, 0, 0), .null, []) := by decide +kernel
theorem hk_61_60 : ax_look 61 60 = some (.invokestatic 90, (65, 1, 0), .null, [3004]) := by decide +kernel
theorem hk_61_63 : ax_look 61 63 = some (.ifCond .eq 10, (0, 0, 0), .null, []) := by decide +kernel
theorem hk_61_66 : ax_look 61 66 = some (.aload_n 0, (0, 0, 0), .null, []) := by decide +kernel
theorem hk_61_67 : ax_look 61 67 = some (.invokevirtual 94, (62, 0, 6), .null, [3007, 6]) := by decide +kernel
theorem hk_61_70 : ax_look 61 70 = some (.goto 37, (0, 0, 0), .null, []) := by decide +kernel
theorem hk_61_73 : ax_look 61 73 = some (.iload_n 1, (0, 0, 0), .null, []) := by decide +kernel
theorem hk_61_74 : ax_look 61 74 = some (.bipush 97, (0, 0, 0), .null, []) := by decide +kernel
theorem hk_61_76 : ax_look 61 76 = some (.if_icmp .lt 26, (0, 0, 0), .null, []) := by decide +kernel
theorem hk_61_79 : ax_look 61 79 = some (.iload_n 1, (0, 0, 0), .null, []) := by decide +kernel
theorem hk_61_80 : ax_look 61 80 = some (.bipush 108, (0, 0, 0), .null, []) := by decide +kernel
theorem hk_61_82 : ax_look 61 82 = some (.if_icmp .gt 20, (0, 0, 0), .null, []) := by decide +kernel
theorem hk_61_85 : ax_look 61 85 = some (.aload_n 0, (0, 0, 0), .null, []) := by decide +kernel
theorem hk_61_86 : ax_look 61 86 = some (.iload_n 1, (0, 0, 0), .null, []) := by decide +kernel
theorem hk_61_87 : ax_look 61 87 = some (.bipush 97, (0, 0, 0), .null, []) := by decide +kernel
theorem hk_61_89 : ax_look 61 89 = some (.isub, (0, 0, 0), .null, []) := by decide +kernel
theorem hk_61_90 : ax_look 61 90 = some (.putfield 80, (6, 5, 0), .null, [1069]) := by decide +kernel
theorem hk_61_93 : ax_look 61 93 = some (.aload_n 0, (0, 0, 0), .null, []) := by decide +kernel
theorem hk_61_94 : ax_look 61 94 = some (.iconst 3, (0, 0, 0), .null, []) := by decide +kernel
theorem hk_61_95 : ax_look 61 95 = some (.iconst 1, (0, 0, 0), .null, []) := by decide +kernel
theorem hk_61_96 : ax_look 61 96 = some (.invokevirtual 97, (64, 2, 6), .null, [3011, 7]) := by decide +kernel
theorem hk_61_99 : ax_look 61 99 = some (.goto 8, (0, 0, 0), .null, []) := by decide +kernel
theorem hk_61_102 : ax_look 61 102 = some (.aload_n 0, (0, 0, 0), .null, []) := by decide +kernel
theorem hk_61_103 : ax_look 61 103 = some (.iload_n 1, (0, 0, 0), .null, []) := by decide +kernel
theorem hk_61_104 : ax_look 61 104 = some (.invokevirtual 101, (63, 1, 6), .null, [3015, 8]) := by decide +kernel
theorem hk_61_107 : ax_look 61 107 = some (.return_, (0, 0, 0), .null, []) := by decide +kernel
theorem hn_62 : (ax_mm 62).2.2.1 = 2 := by decide +kernel
theorem hr_62 : (ax_mm 62).2.2.2.1 = none := by decide +kernel
theorem hk_62_0 : ax_look 62 0 = some (.iconst 0, (0, 0, 0), .null, []) := by decide +kernel
theorem hk_62_1 : ax_look 62 1 = some (.istore_n 1, (0, 0, 0), .null, []) := by decide +kernel
theorem hk_62_2 : ax_look 62 2 = some (.aload_n 0, (0, 0, 0), .null, []) := by decide +kernel
theorem hk_62_3 : ax_look 62 3 = some (.iconst 0, (0, 0, 0), .null, []) := by decide +kernel
theorem hk_62_4 : ax_look 62 4 = some (.putfield 77, (6, 4, 0), .null, [1068]) := by decide +kernel
theorem hk_62_7 : ax_look 62 7 = some (.aload_n 0, (0, 0, 0), .null, []) := by decide +kernel
theorem hk_62_8 : ax_look 62 8 = some (.getfield 49, (6, 1, 0), .null, [1064]) := by decide +kernel
theorem hk_62_11 : ax_look 62 11 = some (.sipush 200, (0, 0, 0), .null, []) := by decide +kernel
theorem hk_62_14 : ax_look 62 14 = some (.if_icmp .ge 68, (0, 0, 0), .null, []) := by decide +kernel
theorem hk_62_17 : ax_look 62 17 = some (.aload_n 0, (0, 0, 0), .null, []) := by decide +kernel
theorem hk_62_18 : ax_look 62 18 = some (.getfield 15, (6, 0, 0), .null, [1063]) := by decide +kernel
theorem hk_62_21 : ax_look 62 21 = some (.aload_n 0, (0, 0, 0), .null, []) := by decide +kernel
theorem hk_62_22 : ax_look 62 22 = some (.getfield 49, (6, 1, 0), .null, [1064]) := by decide +kernel
theorem hk_62_25 : ax_look 62 25 = some (.invokevirtual 83, (68, 1, 7), .null, [3000, 3002]) := by decide +kernel
theorem hk_62_28 : ax_look 62 28 = some (.invokestatic 90, (65, 1, 0), .null, [3004]) := by decide +kernel
theorem hk_62_31 : ax_look 62 31 = some (.ifCond .eq 51, (0, 0, 0), .null, []) := by decide +kernel
theorem hk_62_34 : ax_look 62 34 = some (.iload_n 1, (0, 0, 0), .null, []) := by decide +kernel
theorem hk_62_35 : ax_look 62 35 = some (.bipush 6, (0, 0, 0), .null, []) := by decide +kernel
theorem hk_62_37 : ax_look 62 37 = some (.if_icmp .ge 29, (0, 0, 0), .null, []) := by decide +kernel
theorem hk_62_40 : ax_look 62 40 = some (.aload_n 0, (0, 0, 0), .null, []) := by decide +kernel
theorem hk_62_41 : ax_look 62 41 = some (.aload_n 0, (0, 0, 0), .null, []) := by decide +kernel
theorem hk_62_42 : ax_look 62 42 = some (.getfield 77, (6, 4, 0), .null, [1068]) := by decide +kernel
theorem hk_62_45 : ax_look 62 45 = some (.bipush 10, (0, 0, 0), .null, []) := by decide +kernel
theorem hk_62_47 : ax_look 62 47 = some (.imul, (0, 0, 0), .null, []) := by decide +kernel
theorem hk_62_48 : ax_look 62 48 = some (.aload_n 0, (0, 0, 0), .null, []) := by decide +kernel
theorem hk_62_49 : ax_look 62 49 = some (.getfield 15, (6, 0, 0), .null, [1063]) := by decide +kernel
theorem hk_62_52 : ax_look 62 52 = some (.aload_n 0, (0, 0, 0), .null, []) := by decide +kernel
theorem hk_62_53 : ax_look 62 53 = some (.getfield 49, (6, 1, 0), .null, [1064]) := by decide +kernel
theorem hk_62_56 : ax_look 62 56 = some (.invokevirtual 83, (68, 1, 7), .null, [3000, 3002]) := by decide +kernel
theorem hk_62_59 : ax_look 62 59 = some (.iadd, (0, 0, 0), .null, []) := by decide +kernel
theorem hk_62_60 : ax_look 62 60 = some (.bipush 48, (0, 0, 0), .null, []) := by decide +kernel
theorem hk_62_62 : ax_look 62 62 = some (.isub, (0, 0, 0), .null, []) := by decide +kernel
theorem hk_62_63 : ax_look 62 63 = some (.putfield 77, (6, 4, 0), .null, [1068]) := by decide +kernel
theorem hk_62_66 : ax_look 62 66 = some (.iinc 1 1, (0, 0, 0), .null, []) := by decide +kernel
theorem hk_62_69 : ax_look 62 69 = some (.aload_n 0, (0, 0, 0), .null, []) := by decide +kernel
theorem hk_62_70 : ax_look 62 70 = some (.dup, (0, 0, 0), .null, []) := by decide +kernel
theorem hk_62_71 : ax_look 62 71 = some (.getfield 49, (6, 1, 0), .null, [1064]) := by decide +kernel
theorem hk_62_74 : ax_look 62 74 = some (.iconst 1, (0, 0, 0), .null, []) := by decide +kernel
theorem hk_62_75 : ax_look 62 75 = some (.iadd, (0, 0, 0), .null, []) := by decide +kernel
theorem hk_62_76 : ax_look 62 76 = some (.putfield 49, (6, 1, 0), .null, [1064]) := by decide +kernel
theorem hk_62_79 : ax_look 62 79 = some (.goto (-72), (0, 0, 0), .null, []) := by decide +kernel
theorem hk_62_82 : ax_look 62 82 = some (.aload_n 0, (0, 0, 0), .null, []) := by decide +kernel
theorem hk_62_83 : ax_look 62 83 = some (.iload_n 1, (0, 0, 0), .null, []) := by decide +kernel
theorem hk_62_84 : ax_look 62 84 = some (.bipush 6, (0, 0, 0), .null, []) := by decide +kernel
theorem hk_62_86 : ax_look 62 86 = some (.if_icmp .gt 7, (0, 0, 0), .null, []) := by decide +kernel
theorem hk_62_89 : ax_look 62 89 = some (.iconst 2, (0, 0, 0), .null, []) := by decide +kernel
theorem hk_62_90 : ax_look 62 90 = some (.goto 4, (0, 0, 0), .null, []) := by decide +kernel
theorem hk_62_93 : ax_look 62 93 = some (.iconst 1, (0, 0, 0), .null, []) := by decide +kernel
theorem hk_62_94 : ax_look 62 94 = some (.putfield 65, (6, 2, 0), .null, [1065]) := by decide +kernel
theorem hk_62_97 : ax_look 62 97 = some (.return_, (0, 0, 0), .null, []) := by decide +kernel
theorem hn_63 : (ax_mm 63).2.2.1 = 3 := by decide +kernel
theorem hr_63 : (ax_mm 63).2.2.2.1 = none := by decide +kernel
theorem hk_63_0 : ax_look 63 0 = some (.aload_n 0, (0, 0, 0), .null, []) := by decide +kernel
theorem hk_63_1 : ax_look 63 1 = some (.getfield 15, (6, 0, 0), .null, [1063]) := by decide +kernel
theorem hk_63_4 : ax_look 63 4 = some (.aload_n 0, (0, 0, 0), .null, []) := by decide +kernel
theorem hk_63_5 : ax_look 63 5 = some (.getfield 49, (6, 1, 0), .null, [1064]) := by decide +kernel
theorem hk_63_8 : ax_look 63 8 = some (.iconst 1, (0, 0, 0), .null, []) := by decide +kernel
theorem hk_63_9 : ax_look 63 9 = some (.iadd, (0, 0, 0), .null, []) := by decide +kernel
theorem hk_63_10 : ax_look 63 10 = some (.invokevirtual 83, (68, 1, 7), .null, [3000, 3002]) := by decide +kernel
theorem hk_63_13 : ax_look 63 13 = some (.bipush 61, (0, 0, 0), .null, []) := by decide +kernel
theorem hk_63_15 : ax_look 63 15 = some (.if_icmp .ne 7, (0, 0, 0), .null, []) := by decide +kernel
theorem hk_63_18 : ax_look 63 18 = some (.iconst 1, (0, 0, 0), .null, []) := by decide +kernel
theorem hk_63_19 : ax_look 63 19 = some (.goto 4, (0, 0, 0), .null, []) := by decide +kernel
theorem hk_63_22 : ax_look 63 22 = some (.iconst 0, (0, 0, 0), .null, []) := by decide +kernel
theorem hk_63_23 : ax_look 63 23 = some (.istore_n 2, (0, 0, 0), .null, []) := by decide +kernel
theorem hk_63_24 : ax_look 63 24 = some (.iload_n 1, (0, 0, 0), .null, []) := by decide +kernel
theorem hk_63_25 : ax_look 63 25 = some (.ifCond .ge 12, (0, 0, 0), .null, []) := by decide +kernel
theorem hk_63_28 : ax_look 63 28 = some (.aload_n 0, (0, 0, 0), .null, []) := by decide +kernel
theorem hk_63_29 : ax_look 63 29 = some (.iconst 0, (0, 0, 0), .null, []) := by decide +kernel
theorem hk_63_30 : ax_look 63 30 = some (.iconst 0, (0, 0, 0), .null, []) := by decide +kernel
theorem hk_63_31 : ax_look 63 31 = some (.invokevirtual 97, (64, 2, 6), .null, [3011, 7]) := by decide +kernel
theorem hk_63_34 : ax_look 63 34 = some (.goto 111, (0, 0, 0), .null, []) := by decide +kernel
theorem hk_63_37 : ax_look 63 37 = some (.iload_n 1, (0, 0, 0), .null, []) := by decide +kernel
theorem hk_63_38 : ax_look 63 38 = some (.bipush 43, (0, 0, 0), .null, []) := by decide +kernel
theorem hk_63_40 : ax_look 63 40 = some (.if_icmp .ne 12, (0, 0, 0), .null, []) := by decide +kernel
theorem hk_63_43 : ax_look 63 43 = some (.aload_n 0, (0, 0, 0), .null, []) := by decide +kernel
theorem hk_63_44 : ax_look 63 44 = some (.iconst 4, (0, 0, 0), .null, []) := by decide +kernel
theorem hk_63_45 : ax_look 63 45 = some (.iconst 1, (0, 0, 0), .null, []) := by decide +kernel
theorem hk_63_46 : ax_look 63 46 = some (.invokevirtual 97, (64, 2, 6), .null, [3011, 7]) := by decide +kernel
theorem hk_63_49 : ax_look 63 49 = some (.goto 96, (0, 0, 0), .null, []) := by decide +kernel
theorem hk_63_52 : ax_look 63 52 = some (.iload_n 1, (0, 0, 0), .null, []) := by decide +kernel
theorem hk_63_53 : ax_look 63 53 = some (.bipush 45, (0, 0, 0), .null, []) := by decide +kernel
theorem hk_63_55 : ax_look 63 55 = some (.if_icmp .ne 12, (0, 0, 0), .null, []) := by decide +kernel
theorem hk_63_58 : ax_look 63 58 = some (.aload_n 0, (0, 0, 0), .null, []) := by decide +kernel
theorem hk_63_59 : ax_look 63 59 = some (.iconst 5, (0, 0, 0), .null, []) := by decide +kernel
theorem hk_63_60 : ax_look 63 60 = some (.iconst 1, (0, 0, 0), .null, []) := by decide +kernel
theorem hk_63_61 : ax_look 63 61 = some (.invokevirtual 97, (64, 2, 6), .null, [3011, 7]) := by decide +kernel
theorem hk_63_64 : ax_look 63 64 = some (.goto 81, (0, 0, 0), .null, []) := by decide +kernel
theorem hk_63_67 : ax_look 63 67 = some (.iload_n 1, (0, 0, 0), .null, []) := by decide +kernel
theorem hk_63_68 : ax_look 63 68 = some (.bipush 126, (0, 0, 0), .null, []) := by decide +kernel
theorem hk_63_70 : ax_look 63 70 = some (.if_icmp .ne 13, (0, 0, 0), .null, []) := by decide +kernel
theorem hk_63_73 : ax_look 63 73 = some (.aload_n 0, (0, 0, 0), .null, []) := by decide +kernel
theorem hk_63_74 : ax_look 63 74 = some (.bipush 6, (0, 0, 0), .null, []) := by decide +kernel
theorem hk_63_76 : ax_look 63 76 = some (.iconst 1, (0, 0, 0), .null, []) := by decide +kernel
theorem hk_63_77 : ax_look 63 77 = some (.invokevirtual 97, (64, 2, 6), .null, [3011, 7]) := by decide +kernel
theorem hk_63_80 : ax_look 63 80 = some (.goto 65, (0, 0, 0), .null, []) := by decide +kernel
theorem hk_63_83 : ax_look 63 83 = some (.iload_n 1, (0, 0, 0), .null, []) := by decide +kernel
theorem hk_63_84 : ax_look 63 84 = some (.bipush 61, (0, 0, 0), .null, []) := by decide +kernel
theorem hk_63_86 : ax_look 63 86 = some (.if_icmp .ne 13, (0, 0, 0), .null, []) := by decide +kernel
theorem hk_63_89 : ax_look 63 89 = some (.aload_n 0, (0, 0, 0), .null, []) := by decide +kernel
theorem hk_63_90 : ax_look 63 90 = some (.bipush 9, (0, 0, 0), .null, []) := by decide +kernel
theorem hk_63_92 : ax_look 63 92 = some (.iconst 1, (0, 0, 0), .null, []) := by decide +kernel
theorem hk_63_93 : ax_look 63 93 = some (.invokevirtual 97, (64, 2, 6), .null, [3011, 7]) := by decide +kernel
theorem hk_63_96 : ax_look 63 96 = some (.goto 49, (0, 0, 0), .null, []) := by decide +kernel
theorem hk_63_99 : ax_look 63 99 = some (.iload_n 1, (0, 0, 0), .null, []) := by decide +kernel
theorem hk_63_100 : ax_look 63 100 = some (.bipush 62, (0, 0, 0), .null, []) := by decide +kernel
theorem hk_63_102 : ax_look 63 102 = some (.if_icmp .ne 17, (0, 0, 0), .null, []) := by decide +kernel
theorem hk_63_105 : ax_look 63 105 = some (.iload_n 2, (0, 0, 0), .null, []) := by decide +kernel
theorem hk_63_106 : ax_look 63 106 = some (.ifCond .eq 13, (0, 0, 0), .null, []) := by decide +kernel
theorem hk_63_109 : ax_look 63 109 = some (.aload_n 0, (0, 0, 0), .null, []) := by decide +kernel
theorem hk_63_110 : ax_look 63 110 = some (.bipush 7, (0, 0, 0), .null, []) := by decide +kernel
theorem hk_63_112 : ax_look 63 112 = some (.iconst 2, (0, 0, 0), .null, []) := by decide +kernel
theorem hk_63_113 : ax_look 63 113 = some (.invokevirtual 97, (64, 2, 6), .null, [3011, 7]) := by decide +kernel
theorem hk_63_116 : ax_look 63 116 = some (.goto 29, (0, 0, 0), .null, []) := by decide +kernel
theorem hk_63_119 : ax_look 63 119 = some (.iload_n 1, (0, 0, 0), .null, []) := by decide +kernel
theorem hk_63_120 : ax_look 63 120 = some (.bipush 60, (0, 0, 0), .null, []) := by decide +kernel
theorem hk_63_122 : ax_look 63 122 = some (.if_icmp .ne 17, (0, 0, 0), .null, []) := by decide +kernel
theorem hk_63_125 : ax_look 63 125 = some (.iload_n 2, (0, 0, 0), .null, []) := by decide +kernel
theorem hk_63_126 : ax_look 63 126 = some (.ifCond .eq 13, (0, 0, 0), .null, []) := by decide +kernel
theorem hk_63_129 : ax_look 63 129 = some (.aload_n 0, (0, 0, 0), .null, []) := by decide +kernel
theorem hk_63_130 : ax_look 63 130 = some (.bipush 8, (0, 0, 0), .null, []) := by decide +kernel
theorem hk_63_132 : ax_look 63 132 = some (.iconst 2, (0, 0, 0), .null, []) := by decide +kernel
theorem hk_63_133 : ax_look 63 133 = some (.invokevirtual 97, (64, 2, 6), .null, [3011, 7]) := by decide +kernel
theorem hk_63_136 : ax_look 63 136 = some (.goto 9, (0, 0, 0), .null, []) := by decide +kernel
theorem hk_63_139 : ax_look 63 139 = some (.aload_n 0, (0, 0, 0), .null, []) := by decide +kernel
theorem hk_63_140 : ax_look 63 140 = some (.iconst 1, (0, 0, 0), .null, []) := by decide +kernel
theorem hk_63_141 : ax_look 63 141 = some (.iconst 0, (0, 0, 0), .null, []) := by decide +kernel
theorem hk_63_142 : ax_look 63 142 = some (.invokevirtual 97, (64, 2, 6), .null, [3011, 7]) := by decide +kernel
theorem hk_63_145 : ax_look 63 145 = some (.return_, (0, 0, 0), .null, []) := by decide +kernel
theorem hn_64 : (ax_mm 64).2.2.1 = 3 := by decide +kernel
theorem hr_64 : (ax_mm 64).2.2.2.1 = none := by decide +kernel
theorem hk_64_0 : ax_look 64 0 = some (.aload_n 0, (0, 0, 0), .null, []) := by decide +kernel
theorem hk_64_1 : ax_look 64 1 = some (.iload_n 1, (0, 0, 0), .null, []) := by decide +kernel
theorem hk_64_2 : ax_look 64 2 = some (.putfield 65, (6, 2, 0), .null, [1065]) := by decide +kernel
theorem hk_64_5 : ax_look 64 5 = some (.aload_n 0, (0, 0, 0), .null, []) := by decide +kernel
theorem hk_64_6 : ax_look 64 6 = some (.dup, (0, 0, 0), .null, []) := by decide +kernel
theorem hk_64_7 : ax_look 64 7 = some (.getfield 49, (6, 1, 0), .null, [1064]) := by decide +kernel
theorem hk_64_10 : ax_look 64 10 = some (.iload_n 2, (0, 0, 0), .null, []) := by decide +kernel
theorem hk_64_11 : ax_look 64 11 = some (.iadd, (0, 0, 0), .null, []) := by decide +kernel
theorem hk_64_12 : ax_look 64 12 = some (.putfield 49, (6, 1, 0), .null, [1064]) := by decide +kernel
theorem hk_64_15 : ax_look 64 15 = some (.return_, (0, 0, 0), .null, []) := by decide +kernel
theorem hn_65 : (ax_mm 65).2.2.1 = 1 := by decide +kernel
theorem hr_65 : (ax_mm 65).2.2.2.1 = (some .boolean) := by decide +kernel
theorem hk_65_0 : ax_look 65 0 = some (.iload_n 0, (0, 0, 0), .null, []) := by decide +kernel
theorem hk_65_1 : ax_look 65 1 = some (.bipush 48, (0, 0, 0), .null, []) := by decide +kernel
theorem hk_65_3 : ax_look 65 3 = some (.if_icmp .lt 13, (0, 0, 0), .null, []) := by decide +kernel
theorem hk_65_6 : ax_look 65 6 = some (.iload_n 0, (0, 0, 0), .null, []) := by decide +kernel
theorem hk_65_7 : ax_look 65 7 = some (.bipush 57, (0, 0, 0), .null, []) := by decide +kernel
theorem hk_65_9 : ax_look 65 9 = some (.if_icmp .gt 7, (0, 0, 0), .null, []) := by decide +kernel
theorem hk_65_12 : ax_look 65 12 = some (.iconst 1, (0, 0, 0), .null, []) := by decide +kernel
theorem hk_65_13 : ax_look 65 13 = some (.goto 4, (0, 0, 0), .null, []) := by decide +kernel
theorem hk_65_16 : ax_look 65 16 = some (.iconst 0, (0, 0, 0), .null, []) := by decide +kernel
theorem hk_65_17 : ax_look 65 17 = some (.ireturn, (0, 0, 0), .null, []) := by decide +kernel
theorem hn_66 : (ax_mm 66).2.2.1 = 1 := by decide +kernel
theorem hr_66 : (ax_mm 66).2.2.2.1 = none := by decide +kernel
theorem hk_66_0 : ax_look 66 0 = some (.aload_n 0, (0, 0, 0), .null, []) := by decide +kernel
theorem hk_66_1 : ax_look 66 1 = some (.invokespecial 1, (0, 0, 2), .null, [1047]) := by decide +kernel
theorem hk_66_4 : ax_look 66 4 = some (.aload_n 0, (0, 0, 0), .null, []) := by decide +kernel
theorem hk_66_5 : ax_look 66 5 = some (.sipush 200, (0, 0, 0), .null, []) := by decide +kernel
theorem hk_66_8 : ax_look 66 8 = some (.newarray .int, (0, 0, 0), .null, [1056]) := by decide +kernel
theorem hk_66_10 : ax_look 66 10 = some (.putfield 9, (7, 0, 0), .null, [1048]) := by decide +kernel
theorem hk_66_13 : ax_look 66 13 = some (.aload_n 0, (0, 0, 0), .null, []) := by decide +kernel
theorem hk_66_14 : ax_look 66 14 = some (.iconst 0, (0, 0, 0), .null, []) := by decide +kernel
theorem hk_66_15 : ax_look 66 15 = some (.putfield 13, (7, 1, 0), .null, [1049]) := by decide +kernel
theorem hk_66_18 : ax_look 66 18 = some (.return_, (0, 0, 0), .null, []) := by decide +kernel
theorem hn_67 : (ax_mm 67).2.2.1 = 3 := by decide +kernel
theorem hr_67 : (ax_mm 67).2.2.2.1 = none := by decide +kernel
theorem hk_67_0 : ax_look 67 0 = some (.bipush 24, (0, 0, 0), .null, []) := by decide +kernel
theorem hk_67_2 : ax_look 67 2 = some (.istore_n 2, (0, 0, 0), .null, []) := by decide +kernel
theorem hk_67_3 : ax_look 67 3 = some (.iload_n 2, (0, 0, 0), .null, []) := by decide +kernel
theorem hk_67_4 : ax_look 67 4 = some (.ifCond .lt 45, (0, 0, 0), .null, []) := by decide +kernel
theorem hk_67_7 : ax_look 67 7 = some (.aload_n 0, (0, 0, 0), .null, []) := by decide +kernel
theorem hk_67_8 : ax_look 67 8 = some (.getfield 13, (7, 1, 0), .null, [1049]) := by decide +kernel
theorem hk_67_11 : ax_look 67 11 = some (.sipush 200, (0, 0, 0), .null, []) := by decide +kernel
theorem hk_67_14 : ax_look 67 14 = some (.if_icmp .ge 35, (0, 0, 0), .null, []) := by decide +kernel
theorem hk_67_17 : ax_look 67 17 = some (.aload_n 0, (0, 0, 0), .null, []) := by decide +kernel
theorem hk_67_18 : ax_look 67 18 = some (.getfield 9, (7, 0, 0), .null, [1048]) := by decide +kernel
theorem hk_67_21 : ax_look 67 21 = some (.aload_n 0, (0, 0, 0), .null, []) := by decide +kernel
theorem hk_67_22 : ax_look 67 22 = some (.getfield 13, (7, 1, 0), .null, [1049]) := by decide +kernel
theorem hk_67_25 : ax_look 67 25 = some (.iload_n 1, (0, 0, 0), .null, []) := by decide +kernel
theorem hk_67_26 : ax_look 67 26 = some (.iload_n 2, (0, 0, 0), .null, []) := by decide +kernel
theorem hk_67_27 : ax_look 67 27 = some (.ishr, (0, 0, 0), .null, []) := by decide +kernel
theorem hk_67_28 : ax_look 67 28 = some (.sipush 255, (0, 0, 0), .null, []) := by decide +kernel
theorem hk_67_31 : ax_look 67 31 = some (.iand, (0, 0, 0), .null, []) := by decide +kernel
theorem hk_67_32 : ax_look 67 32 = some (.iastore, (0, 0, 0), .null, []) := by decide +kernel
theorem hk_67_33 : ax_look 67 33 = some (.aload_n 0, (0, 0, 0), .null, []) := by decide +kernel
theorem hk_67_34 : ax_look 67 34 = some (.dup, (0, 0, 0), .null, []) := by decide +kernel
theorem hk_67_35 : ax_look 67 35 = some (.getfield 13, (7, 1, 0), .null, [1049]) := by decide +kernel
theorem hk_67_38 : ax_look 67 38 = some (.iconst 1, (0, 0, 0), .null, []) := by decide +kernel
theorem hk_67_39 : ax_look 67 39 = some (.iadd, (0, 0, 0), .null, []) := by decide +kernel
theorem hk_67_40 : ax_look 67 40 = some (.putfield 13, (7, 1, 0), .null, [1049]) := by decide +kernel
theorem hk_67_43 : ax_look 67 43 = some (.iinc 2 (-8), (0, 0, 0), .null, []) := by decide +kernel
theorem hk_67_46 : ax_look 67 46 = some (.goto (-43), (0, 0, 0), .null, []) := by decide +kernel
theorem hk_67_49 : ax_look 67 49 = some (.return_, (0, 0, 0), .null, []) := by decide +kernel
theorem hn_68 : (ax_mm 68).2.2.1 = 2 := by decide +kernel
theorem hr_68 : (ax_mm 68).2.2.2.1 = (some .int) := by decide +kernel
theorem hk_68_0 : ax_look 68 0 = some (.iload_n 1, (0, 0, 0), .null, []) := by decide +kernel
theorem hk_68_1 : ax_look 68 1 = some (.ifCond .lt 20, (0, 0, 0), .null, []) := by decide +kernel
theorem hk_68_4 : ax_look 68 4 = some (.iload_n 1, (0, 0, 0), .null, []) := by decide +kernel
theorem hk_68_5 : ax_look 68 5 = some (.aload_n 0, (0, 0, 0), .null, []) := by decide +kernel
theorem hk_68_6 : ax_look 68 6 = some (.getfield 13, (7, 1, 0), .null, [1049]) := by decide +kernel
theorem hk_68_9 : ax_look 68 9 = some (.if_icmp .ge 12, (0, 0, 0), .null, []) := by decide +kernel
theorem hk_68_12 : ax_look 68 12 = some (.aload_n 0, (0, 0, 0), .null, []) := by decide +kernel
theorem hk_68_13 : ax_look 68 13 = some (.getfield 9, (7, 0, 0), .null, [1048]) := by decide +kernel
theorem hk_68_16 : ax_look 68 16 = some (.iload_n 1, (0, 0, 0), .null, []) := by decide +kernel
theorem hk_68_17 : ax_look 68 17 = some (.iaload, (0, 0, 0), .null, []) := by decide +kernel
theorem hk_68_18 : ax_look 68 18 = some (.goto 4, (0, 0, 0), .null, []) := by decide +kernel
theorem hk_68_21 : ax_look 68 21 = some (.iconst (-1), (0, 0, 0), .null, []) := by decide +kernel
theorem hk_68_22 : ax_look 68 22 = some (.ireturn, (0, 0, 0), .null, []) := by decide +kernel
theorem hn_72 : (ax_mm 72).2.2.1 = 2 := by decide +kernel
theorem hr_72 : (ax_mm 72).2.2.2.1 = (some .int) := by decide +kernel
theorem hk_72_0 : ax_look 72 0 = some (.aload_n 0, (0, 0, 0), .null, []) := by decide +kernel
theorem hk_72_1 : ax_look 72 1 = some (.aload_n 0, (0, 0, 0), .null, []) := by decide +kernel
theorem hk_72_2 : ax_look 72 2 = some (.getfield 21, (8, 1, 0), .null, [1229]) := by decide +kernel
theorem hk_72_5 : ax_look 72 5 = some (.invokevirtual 124, (55, 0, 6), .null, [2231, 2233]) := by decide +kernel
theorem hk_72_8 : ax_look 72 8 = some (.invokevirtual 128, (117, 1, 8), .null, [3039, 14]) := by decide +kernel
theorem hk_72_11 : ax_look 72 11 = some (.aload_n 0, (0, 0, 0), .null, []) := by decide +kernel
theorem hk_72_12 : ax_look 72 12 = some (.aload_n 0, (0, 0, 0), .null, []) := by decide +kernel
theorem hk_72_13 : ax_look 72 13 = some (.getfield 21, (8, 1, 0), .null, [1229]) := by decide +kernel
theorem hk_72_16 : ax_look 72 16 = some (.invokevirtual 132, (49, 0, 6), .null, [3044, 3046]) := by decide +kernel
theorem hk_72_19 : ax_look 72 19 = some (.ifCond .eq 7, (0, 0, 0), .null, []) := by decide +kernel
theorem hk_72_22 : ax_look 72 22 = some (.iconst 2, (0, 0, 0), .null, []) := by decide +kernel
theorem hk_72_23 : ax_look 72 23 = some (.goto 4, (0, 0, 0), .null, []) := by decide +kernel
theorem hk_72_26 : ax_look 72 26 = some (.iconst 1, (0, 0, 0), .null, []) := by decide +kernel
theorem hk_72_27 : ax_look 72 27 = some (.invokevirtual 135, (115, 1, 8), .null, [3048, 15]) := by decide +kernel
theorem hk_72_30 : ax_look 72 30 = some (.aload_n 0, (0, 0, 0), .null, []) := by decide +kernel
theorem hk_72_31 : ax_look 72 31 = some (.getfield 42, (8, 5, 0), .null, [1233]) := by decide +kernel
theorem hk_72_34 : ax_look 72 34 = some (.istore_n 1, (0, 0, 0), .null, []) := by decide +kernel
theorem hk_72_35 : ax_look 72 35 = some (.aload_n 0, (0, 0, 0), .null, []) := by decide +kernel
theorem hk_72_36 : ax_look 72 36 = some (.getfield 21, (8, 1, 0), .null, [1229]) := by decide +kernel
theorem hk_72_39 : ax_look 72 39 = some (.invokevirtual 138, (50, 0, 6), .null, [3053, 3055]) := by decide +kernel
theorem hk_72_42 : ax_look 72 42 = some (.ifCond .eq 19, (0, 0, 0), .null, []) := by decide +kernel
theorem hk_72_45 : ax_look 72 45 = some (.aload_n 0, (0, 0, 0), .null, []) := by decide +kernel
theorem hk_72_46 : ax_look 72 46 = some (.getfield 21, (8, 1, 0), .null, [1229]) := by decide +kernel
theorem hk_72_49 : ax_look 72 49 = some (.aload_n 0, (0, 0, 0), .null, []) := by decide +kernel
theorem hk_72_50 : ax_look 72 50 = some (.getfield 48, (8, 6, 0), .null, [1234]) := by decide +kernel
theorem hk_72_53 : ax_look 72 53 = some (.invokevirtual 141, (52, 1, 6), .null, [3057, 3059]) := by decide +kernel
theorem hk_72_56 : ax_look 72 56 = some (.aload_n 0, (0, 0, 0), .null, []) := by decide +kernel
theorem hk_72_57 : ax_look 72 57 = some (.invokevirtual 145, (119, 0, 8), .null, [3074, 17]) := by decide +kernel
theorem hk_72_60 : ax_look 72 60 = some (.pop, (0, 0, 0), .null, []) := by decide +kernel
theorem hk_72_61 : ax_look 72 61 = some (.aload_n 0, (0, 0, 0), .null, []) := by decide +kernel
theorem hk_72_62 : ax_look 72 62 = some (.getfield 21, (8, 1, 0), .null, [1229]) := by decide +kernel
theorem hk_72_65 : ax_look 72 65 = some (.invokevirtual 149, (51, 0, 6), .null, [3138, 3140]) := by decide +kernel
theorem hk_72_68 : ax_look 72 68 = some (.ifCond .eq 19, (0, 0, 0), .null, []) := by decide +kernel
theorem hk_72_71 : ax_look 72 71 = some (.aload_n 0, (0, 0, 0), .null, []) := by decide +kernel
theorem hk_72_72 : ax_look 72 72 = some (.getfield 21, (8, 1, 0), .null, [1229]) := by decide +kernel
theorem hk_72_75 : ax_look 72 75 = some (.aload_n 0, (0, 0, 0), .null, []) := by decide +kernel
theorem hk_72_76 : ax_look 72 76 = some (.getfield 48, (8, 6, 0), .null, [1234]) := by decide +kernel
theorem hk_72_79 : ax_look 72 79 = some (.invokevirtual 152, (53, 1, 6), .null, [3142, 3144]) := by decide +kernel
theorem hk_72_82 : ax_look 72 82 = some (.aload_n 0, (0, 0, 0), .null, []) := by decide +kernel
theorem hk_72_83 : ax_look 72 83 = some (.invokevirtual 145, (119, 0, 8), .null, [3074, 17]) := by decide +kernel
theorem hk_72_86 : ax_look 72 86 = some (.pop, (0, 0, 0), .null, []) := by decide +kernel
theorem hk_72_87 : ax_look 72 87 = some (.iload_n 1, (0, 0, 0), .null, []) := by decide +kernel
theorem hk_72_88 : ax_look 72 88 = some (.ireturn, (0, 0, 0), .null, []) := by decide +kernel
theorem hn_73 : (ax_mm 73).2.2.1 = 2 := by decide +kernel
theorem hr_73 : (ax_mm 73).2.2.2.1 = (some .boolean) := by decide +kernel
theorem hk_73_0 : ax_look 73 0 = some (.aload_n 0, (0, 0, 0), .null, []) := by decide +kernel
theorem hk_73_1 : ax_look 73 1 = some (.aload_n 0, (0, 0, 0), .null, []) := by decide +kernel
theorem hk_73_2 : ax_look 73 2 = some (.getfield 21, (8, 1, 0), .null, [1229]) := by decide +kernel
theorem hk_73_5 : ax_look 73 5 = some (.invokevirtual 124, (55, 0, 6), .null, [2231, 2233]) := by decide +kernel
theorem hk_73_8 : ax_look 73 8 = some (.invokevirtual 128, (117, 1, 8), .null, [3039, 14]) := by decide +kernel
theorem hk_73_11 : ax_look 73 11 = some (.iconst 1, (0, 0, 0), .null, []) := by decide +kernel
theorem hk_73_12 : ax_look 73 12 = some (.istore_n 1, (0, 0, 0), .null, []) := by decide +kernel
theorem hk_73_13 : ax_look 73 13 = some (.aload_n 0, (0, 0, 0), .null, []) := by decide +kernel
theorem hk_73_14 : ax_look 73 14 = some (.getfield 21, (8, 1, 0), .null, [1229]) := by decide +kernel
theorem hk_73_17 : ax_look 73 17 = some (.invokevirtual 138, (50, 0, 6), .null, [3053, 3055]) := by decide +kernel
theorem hk_73_20 : ax_look 73 20 = some (.ifCond .eq 19, (0, 0, 0), .null, []) := by decide +kernel
theorem hk_73_23 : ax_look 73 23 = some (.aload_n 0, (0, 0, 0), .null, []) := by decide +kernel
theorem hk_73_24 : ax_look 73 24 = some (.getfield 21, (8, 1, 0), .null, [1229]) := by decide +kernel
theorem hk_73_27 : ax_look 73 27 = some (.aload_n 0, (0, 0, 0), .null, []) := by decide +kernel
theorem hk_73_28 : ax_look 73 28 = some (.getfield 48, (8, 6, 0), .null, [1234]) := by decide +kernel
theorem hk_73_31 : ax_look 73 31 = some (.invokevirtual 141, (52, 1, 6), .null, [3057, 3059]) := by decide +kernel
theorem hk_73_34 : ax_look 73 34 = some (.aload_n 0, (0, 0, 0), .null, []) := by decide +kernel
theorem hk_73_35 : ax_look 73 35 = some (.invokevirtual 155, (120, 0, 8), .null, [3153, 20]) := by decide +kernel
theorem hk_73_38 : ax_look 73 38 = some (.istore_n 1, (0, 0, 0), .null, []) := by decide +kernel
theorem hk_73_39 : ax_look 73 39 = some (.iload_n 1, (0, 0, 0), .null, []) := by decide +kernel
theorem hk_73_40 : ax_look 73 40 = some (.ifCond .eq 29, (0, 0, 0), .null, []) := by decide +kernel
theorem hk_73_43 : ax_look 73 43 = some (.aload_n 0, (0, 0, 0), .null, []) := by decide +kernel
theorem hk_73_44 : ax_look 73 44 = some (.getfield 21, (8, 1, 0), .null, [1229]) := by decide +kernel
theorem hk_73_47 : ax_look 73 47 = some (.invokevirtual 149, (51, 0, 6), .null, [3138, 3140]) := by decide +kernel
theorem hk_73_50 : ax_look 73 50 = some (.ifCond .eq 19, (0, 0, 0), .null, []) := by decide +kernel
theorem hk_73_53 : ax_look 73 53 = some (.aload_n 0, (0, 0, 0), .null, []) := by decide +kernel
theorem hk_73_54 : ax_look 73 54 = some (.getfield 21, (8, 1, 0), .null, [1229]) := by decide +kernel
theorem hk_73_57 : ax_look 73 57 = some (.aload_n 0, (0, 0, 0), .null, []) := by decide +kernel
theorem hk_73_58 : ax_look 73 58 = some (.getfield 48, (8, 6, 0), .null, [1234]) := by decide +kernel
theorem hk_73_61 : ax_look 73 61 = some (.invokevirtual 152, (53, 1, 6), .null, [3142, 3144]) := by decide +kernel
theorem hk_73_64 : ax_look 73 64 = some (.aload_n 0, (0, 0, 0), .null, []) := by decide +kernel
theorem hk_73_65 : ax_look 73 65 = some (.invokevirtual 155, (120, 0, 8), .null, [3153, 20]) := by decide +kernel
theorem hk_73_68 : ax_look 73 68 = some (.istore_n 1, (0, 0, 0), .null, []) := by decide +kernel
theorem hk_73_69 : ax_look 73 69 = some (.iload_n 1, (0, 0, 0), .null, []) := by decide +kernel
theorem hk_73_70 : ax_look 73 70 = some (.ireturn, (0, 0, 0), .null, []) := by decide +kernel
theorem hn_74 : (ax_mm 74).2.2.1 = 1 := by decide +kernel
theorem hr_74 : (ax_mm 74).2.2.2.1 = (some .int) := by decide +kernel
theorem hk_74_0 : ax_look 74 0 = some (.aload_n 0, (0, 0, 0), .null, []) := by decide +kernel
theorem hk_74_1 : ax_look 74 1 = some (.getfield 25, (8, 2, 0), .null, [1230]) := by decide +kernel
theorem hk_74_4 : ax_look 74 4 = some (.ireturn, (0, 0, 0), .null, []) := by decide +kernel
theorem hn_117 : (ax_mm 117).2.2.1 = 2 := by decide +kernel
theorem hr_117 : (ax_mm 117).2.2.2.1 = none := by decide +kernel
theorem hk_117_0 : ax_look 117 0 = some (.aload_n 0, (0, 0, 0), .null, []) := by decide +kernel
theorem hk_117_1 : ax_look 117 1 = some (.iload_n 1, (0, 0, 0), .null, []) := by decide +kernel
theorem hk_117_2 : ax_look 117 2 = some (.ifCond .eq 7, (0, 0, 0), .null, []) := by decide +kernel
theorem hk_117_5 : ax_look 117 5 = some (.iconst (-1), (0, 0, 0), .null, []) := by decide +kernel
theorem hk_117_6 : ax_look 117 6 = some (.goto 10, (0, 0, 0), .null, []) := by decide +kernel
theorem hk_117_9 : ax_look 117 9 = some (.aload_n 0, (0, 0, 0), .null, []) := by decide +kernel
theorem hk_117_10 : ax_look 117 10 = some (.getfield 21, (8, 1, 0), .null, [1229]) := by decide +kernel
theorem hk_117_13 : ax_look 117 13 = some (.getfield 366, (6, 3, 0), .null, [1067]) := by decide +kernel
theorem hk_117_16 : ax_look 117 16 = some (.putfield 25, (8, 2, 0), .null, [1230]) := by decide +kernel
theorem hk_117_19 : ax_look 117 19 = some (.aload_n 0, (0, 0, 0), .null, []) := by decide +kernel
theorem hk_117_20 : ax_look 117 20 = some (.getfield 10, (8, 0, 0), .null, [1228]) := by decide +kernel
theorem hk_117_23 : ax_look 117 23 = some (.iconst 0, (0, 0, 0), .null, []) := by decide +kernel
theorem hk_117_24 : ax_look 117 24 = some (.putfield 105, (7, 1, 0), .null, [1050]) := by decide +kernel
theorem hk_117_27 : ax_look 117 27 = some (.iload_n 1, (0, 0, 0), .null, []) := by decide +kernel
theorem hk_117_28 : ax_look 117 28 = some (.ifCond .ne 14, (0, 0, 0), .null, []) := by decide +kernel
theorem hk_117_31 : ax_look 117 31 = some (.new 119, (801, 0, 0), .null, []) := by decide +kernel
theorem hk_117_34 : ax_look 117 34 = some (.dup, (0, 0, 0), .null, []) := by decide +kernel
theorem hk_117_35 : ax_look 117 35 = some (.ldc_w 369, (900, 0, 0), .null, []) := by decide +kernel
theorem hk_117_38 : ax_look 117 38 = some (.invokespecial 123, (900, 0, 0), .null, []) := by decide +kernel
theorem hk_117_41 : ax_look 117 41 = some (.athrow, (0, 0, 0), .null, []) := by decide +kernel
theorem hk_117_42 : ax_look 117 42 = some (.return_, (0, 0, 0), .null, []) := by decide +kernel
theorem hn_145 : (ax_mm 145).2.2.1 = 2 := by decide +kernel
theorem hr_145 : (ax_mm 145).2.2.2.1 = (some .int) := by decide +kernel
theorem hk_145_0 : ax_look 145 0 = some (.iload_n 1, (0, 0, 0), .null, []) := by decide +kernel
theorem hk_145_1 : ax_look 145 1 = some (.aload_n 0, (0, 0, 0), .null, []) := by decide +kernel
theorem hk_145_2 : ax_look 145 2 = some (.getfield 93, (9, 7, 0), .null, [6183]) := by decide +kernel
theorem hk_145_5 : ax_look 145 5 = some (.if_icmp .ge 12, (0, 0, 0), .null, []) := by decide +kernel
theorem hk_145_8 : ax_look 145 8 = some (.aload_n 0, (0, 0, 0), .null, []) := by decide +kernel
theorem hk_145_9 : ax_look 145 9 = some (.getfield 19, (9, 6, 0), .null, [6182]) := by decide +kernel
theorem hk_145_12 : ax_look 145 12 = some (.iload_n 1, (0, 0, 0), .null, []) := by decide +kernel
theorem hk_145_13 : ax_look 145 13 = some (.iaload, (0, 0, 0), .null, []) := by decide +kernel
theorem hk_145_14 : ax_look 145 14 = some (.goto 4, (0, 0, 0), .null, []) := by decide +kernel
theorem hk_145_17 : ax_look 145 17 = some (.iconst (-1), (0, 0, 0), .null, []) := by decide +kernel
theorem hk_145_18 : ax_look 145 18 = some (.ireturn, (0, 0, 0), .null, []) := by decide +kernel
theorem hn_146 : (ax_mm 146).2.2.1 = 1 := by decide +kernel
theorem hr_146 : (ax_mm 146).2.2.2.1 = (some .boolean) := by decide +kernel
theorem hk_146_0 : ax_look 146 0 = some (.iload_n 0, (0, 0, 0), .null, []) := by decide +kernel
theorem hk_146_1 : ax_look 146 1 = some (.bipush 48, (0, 0, 0), .null, []) := by decide +kernel
theorem hk_146_3 : ax_look 146 3 = some (.if_icmp .lt 13, (0, 0, 0), .null, []) := by decide +kernel
theorem hk_146_6 : ax_look 146 6 = some (.iload_n 0, (0, 0, 0), .null, []) := by decide +kernel
theorem hk_146_7 : ax_look 146 7 = some (.bipush 57, (0, 0, 0), .null, []) := by decide +kernel
theorem hk_146_9 : ax_look 146 9 = some (.if_icmp .gt 7, (0, 0, 0), .null, []) := by decide +kernel
theorem hk_146_12 : ax_look 146 12 = some (.iconst 1, (0, 0, 0), .null, []) := by decide +kernel
theorem hk_146_13 : ax_look 146 13 = some (.goto 4, (0, 0, 0), .null, []) := by decide +kernel
theorem hk_146_16 : ax_look 146 16 = some (.iconst 0, (0, 0, 0), .null, []) := by decide +kernel
theorem hk_146_17 : ax_look 146 17 = some (.ireturn, (0, 0, 0), .null, []) := by decide +kernel
theorem hn_147 : (ax_mm 147).2.2.1 = 2 := by decide +kernel
theorem hr_147 : (ax_mm 147).2.2.2.1 = none := by decide +kernel
theorem hk_147_0 : ax_look 147 0 = some (.aload_n 0, (0, 0, 0), .null, []) := by decide +kernel
theorem hk_147_1 : ax_look 147 1 = some (.aload_n 0, (0, 0, 0), .null, []) := by decide +kernel
theorem hk_147_2 : ax_look 147 2 = some (.getfield 100, (9, 8, 0), .null, [6184]) := by decide +kernel
theorem hk_147_5 : ax_look 147 5 = some (.invokevirtual 103, (145, 1, 9), .null, [7058, 32]) := by decide +kernel
theorem hk_147_8 : ax_look 147 8 = some (.bipush 32, (0, 0, 0), .null, []) := by decide +kernel
theorem hk_147_10 : ax_look 147 10 = some (.if_icmp .ne 16, (0, 0, 0), .null, []) := by decide +kernel
theorem hk_147_13 : ax_look 147 13 = some (.aload_n 0, (0, 0, 0), .null, []) := by decide +kernel
theorem hk_147_14 : ax_look 147 14 = some (.dup, (0, 0, 0), .null, []) := by decide +kernel
theorem hk_147_15 : ax_look 147 15 = some (.getfield 100, (9, 8, 0), .null, [6184]) := by decide +kernel
theorem hk_147_18 : ax_look 147 18 = some (.iconst 1, (0, 0, 0), .null, []) := by decide +kernel
theorem hk_147_19 : ax_look 147 19 = some (.iadd, (0, 0, 0), .null, []) := by decide +kernel
theorem hk_147_20 : ax_look 147 20 = some (.putfield 100, (9, 8, 0), .null, [6184]) := by decide +kernel
theorem hk_147_23 : ax_look 147 23 = some (.goto (-23), (0, 0, 0), .null, []) := by decide +kernel
theorem hk_147_26 : ax_look 147 26 = some (.aload_n 0, (0, 0, 0), .null, []) := by decide +kernel
theorem hk_147_27 : ax_look 147 27 = some (.aload_n 0, (0, 0, 0), .null, []) := by decide +kernel
theorem hk_147_28 : ax_look 147 28 = some (.getfield 100, (9, 8, 0), .null, [6184]) := by decide +kernel
theorem hk_147_31 : ax_look 147 31 = some (.putfield 106, (9, 9, 0), .null, [6185]) := by decide +kernel
theorem hk_147_34 : ax_look 147 34 = some (.aload_n 0, (0, 0, 0), .null, []) := by decide +kernel
theorem hk_147_35 : ax_look 147 35 = some (.aload_n 0, (0, 0, 0), .null, []) := by decide +kernel
theorem hk_147_36 : ax_look 147 36 = some (.getfield 100, (9, 8, 0), .null, [6184]) := by decide +kernel
theorem hk_147_39 : ax_look 147 39 = some (.invokevirtual 103, (145, 1, 9), .null, [7058, 32]) := by decide +kernel
theorem hk_147_42 : ax_look 147 42 = some (.istore_n 1, (0, 0, 0), .null, []) := by decide +kernel
theorem hk_147_43 : ax_look 147 43 = some (.aload_n 0, (0, 0, 0), .null, []) := by decide +kernel
theorem hk_147_44 : ax_look 147 44 = some (.iconst 5, (0, 0, 0), .null, []) := by decide +kernel
theorem hk_147_45 : ax_look 147 45 = some (.putfield 109, (9, 10, 0), .null, [6186]) := by decide +kernel
theorem hk_147_48 : ax_look 147 48 = some (.iload_n 1, (0, 0, 0), .null, []) := by decide +kernel
theorem hk_147_49 : ax_look 147 49 = some (.ifCond .ge 11, (0, 0, 0), .null, []) := by decide +kernel
theorem hk_147_52 : ax_look 147 52 = some (.aload_n 0, (0, 0, 0), .null, []) := by decide +kernel
theorem hk_147_53 : ax_look 147 53 = some (.iconst (-1), (0, 0, 0), .null, []) := by decide +kernel
theorem hk_147_54 : ax_look 147 54 = some (.putfield 109, (9, 10, 0), .null, [6186]) := by decide +kernel
theorem hk_147_57 : ax_look 147 57 = some (.goto 169, (0, 0, 0), .null, []) := by decide +kernel
theorem hk_147_60 : ax_look 147 60 = some (.iload_n 1, (0, 0, 0), .null, []) := by decide +kernel
theorem hk_147_61 : ax_look 147 61 = some (.invokestatic 112, (146, 1, 0), .null, [7062]) := by decide +kernel
theorem hk_147_64 : ax_look 147 64 = some (.ifCond .eq 38, (0, 0, 0), .null, []) := by decide +kernel
theorem hk_147_67 : ax_look 147 67 = some (.aload_n 0, (0, 0, 0), .null, []) := by decide +kernel
theorem hk_147_68 : ax_look 147 68 = some (.aload_n 0, (0, 0, 0), .null, []) := by decide +kernel
theorem hk_147_69 : ax_look 147 69 = some (.getfield 100, (9, 8, 0), .null, [6184]) := by decide +kernel
theorem hk_147_72 : ax_look 147 72 = some (.invokevirtual 103, (145, 1, 9), .null, [7058, 32]) := by decide +kernel
theorem hk_147_75 : ax_look 147 75 = some (.invokestatic 112, (146, 1, 0), .null, [7062]) := by decide +kernel
theorem hk_147_78 : ax_look 147 78 = some (.ifCond .eq 16, (0, 0, 0), .null, []) := by decide +kernel
theorem hk_147_81 : ax_look 147 81 = some (.aload_n 0, (0, 0, 0), .null, []) := by decide +kernel
theorem hk_147_82 : ax_look 147 82 = some (.dup, (0, 0, 0), .null, []) := by decide +kernel
theorem hk_147_83 : ax_look 147 83 = some (.getfield 100, (9, 8, 0), .null, [6184]) := by decide +kernel
theorem hk_147_86 : ax_look 147 86 = some (.iconst 1, (0, 0, 0), .null, []) := by decide +kernel
theorem hk_147_87 : ax_look 147 87 = some (.iadd, (0, 0, 0), .null, []) := by decide +kernel
theorem hk_147_88 : ax_look 147 88 = some (.putfield 100, (9, 8, 0), .null, [6184]) := by decide +kernel
theorem hk_147_91 : ax_look 147 91 = some (.goto (-24), (0, 0, 0), .null, []) := by decide +kernel
theorem hk_147_94 : ax_look 147 94 = some (.aload_n 0, (0, 0, 0), .null, []) := by decide +kernel
theorem hk_147_95 : ax_look 147 95 = some (.iconst 1, (0, 0, 0), .null, []) := by decide +kernel
theorem hk_147_96 : ax_look 147 96 = some (.putfield 109, (9, 10, 0), .null, [6186]) := by decide +kernel
theorem hk_147_99 : ax_look 147 99 = some (.goto 127, (0, 0, 0), .null, []) := by decide +kernel
theorem hk_147_102 : ax_look 147 102 = some (.iload_n 1, (0, 0, 0), .null, []) := by decide +kernel
theorem hk_147_103 : ax_look 147 103 = some (.bipush 97, (0, 0, 0), .null, []) := by decide +kernel
theorem hk_147_105 : ax_look 147 105 = some (.if_icmp .lt 27, (0, 0, 0), .null, []) := by decide +kernel
theorem hk_147_108 : ax_look 147 108 = some (.iload_n 1, (0, 0, 0), .null, []) := by decide +kernel
theorem hk_147_109 : ax_look 147 109 = some (.bipush 108, (0, 0, 0), .null, []) := by decide +kernel
theorem hk_147_111 : ax_look 147 111 = some (.if_icmp .gt 21, (0, 0, 0), .null, []) := by decide +kernel
theorem hk_147_114 : ax_look 147 114 = some (.aload_n 0, (0, 0, 0), .null, []) := by decide +kernel
theorem hk_147_115 : ax_look 147 115 = some (.dup, (0, 0, 0), .null, []) := by decide +kernel
theorem hk_147_116 : ax_look 147 116 = some (.getfield 100, (9, 8, 0), .null, [6184]) := by decide +kernel
theorem hk_147_119 : ax_look 147 119 = some (.iconst 1, (0, 0, 0), .null, []) := by decide +kernel
theorem hk_147_120 : ax_look 147 120 = some (.iadd, (0, 0, 0), .null, []) := by decide +kernel
theorem hk_147_121 : ax_look 147 121 = some (.putfield 100, (9, 8, 0), .null, [6184]) := by decide +kernel
theorem hk_147_124 : ax_look 147 124 = some (.aload_n 0, (0, 0, 0), .null, []) := by decide +kernel
theorem hk_147_125 : ax_look 147 125 = some (.iconst 2, (0, 0, 0), .null, []) := by decide +kernel
theorem hk_147_126 : ax_look 147 126 = some (.putfield 109, (9, 10, 0), .null, [6186]) := by decide +kernel
theorem hk_147_129 : ax_look 147 129 = some (.goto 97, (0, 0, 0), .null, []) := by decide +kernel
theorem hk_147_132 : ax_look 147 132 = some (.iload_n 1, (0, 0, 0), .null, []) := by decide +kernel
theorem hk_147_133 : ax_look 147 133 = some (.bipush 43, (0, 0, 0), .null, []) := by decide +kernel
theorem hk_147_135 : ax_look 147 135 = some (.if_icmp .eq 21, (0, 0, 0), .null, []) := by decide +kernel
theorem hk_147_138 : ax_look 147 138 = some (.iload_n 1, (0, 0, 0), .null, []) := by decide +kernel
theorem hk_147_139 : ax_look 147 139 = some (.bipush 45, (0, 0, 0), .null, []) := by decide +kernel
theorem hk_147_141 : ax_look 147 141 = some (.if_icmp .eq 15, (0, 0, 0), .null, []) := by decide +kernel
theorem hk_147_144 : ax_look 147 144 = some (.iload_n 1, (0, 0, 0), .null, []) := by decide +kernel
theorem hk_147_145 : ax_look 147 145 = some (.bipush 126, (0, 0, 0), .null, []) := by decide +kernel
theorem hk_147_147 : ax_look 147 147 = some (.if_icmp .eq 9, (0, 0, 0), .null, []) := by decide +kernel
theorem hk_147_150 : ax_look 147 150 = some (.iload_n 1, (0, 0, 0), .null, []) := by decide +kernel
theorem hk_147_151 : ax_look 147 151 = some (.bipush 61, (0, 0, 0), .null, []) := by decide +kernel
theorem hk_147_153 : ax_look 147 153 = some (.if_icmp .ne 21, (0, 0, 0), .null, []) := by decide +kernel
theorem hk_147_156 : ax_look 147 156 = some (.aload_n 0, (0, 0, 0), .null, []) := by decide +kernel
theorem hk_147_157 : ax_look 147 157 = some (.dup, (0, 0, 0), .null, []) := by decide +kernel
theorem hk_147_158 : ax_look 147 158 = some (.getfield 100, (9, 8, 0), .null, [6184]) := by decide +kernel
theorem hk_147_161 : ax_look 147 161 = some (.iconst 1, (0, 0, 0), .null, []) := by decide +kernel
theorem hk_147_162 : ax_look 147 162 = some (.iadd, (0, 0, 0), .null, []) := by decide +kernel
theorem hk_147_163 : ax_look 147 163 = some (.putfield 100, (9, 8, 0), .null, [6184]) := by decide +kernel
theorem hk_147_166 : ax_look 147 166 = some (.aload_n 0, (0, 0, 0), .null, []) := by decide +kernel
theorem hk_147_167 : ax_look 147 167 = some (.iload_n 1, (0, 0, 0), .null, []) := by decide +kernel
theorem hk_147_168 : ax_look 147 168 = some (.putfield 109, (9, 10, 0), .null, [6186]) := by decide +kernel
theorem hk_147_171 : ax_look 147 171 = some (.goto 55, (0, 0, 0), .null, []) := by decide +kernel
theorem hk_147_174 : ax_look 147 174 = some (.iload_n 1, (0, 0, 0), .null, []) := by decide +kernel
theorem hk_147_175 : ax_look 147 175 = some (.bipush 60, (0, 0, 0), .null, []) := by decide +kernel
theorem hk_147_177 : ax_look 147 177 = some (.if_icmp .eq 9, (0, 0, 0), .null, []) := by decide +kernel
theorem hk_147_180 : ax_look 147 180 = some (.iload_n 1, (0, 0, 0), .null, []) := by decide +kernel
theorem hk_147_181 : ax_look 147 181 = some (.bipush 62, (0, 0, 0), .null, []) := by decide +kernel
theorem hk_147_183 : ax_look 147 183 = some (.if_icmp .ne 43, (0, 0, 0), .null, []) := by decide +kernel
theorem hk_147_186 : ax_look 147 186 = some (.aload_n 0, (0, 0, 0), .null, []) := by decide +kernel
theorem hk_147_187 : ax_look 147 187 = some (.aload_n 0, (0, 0, 0), .null, []) := by decide +kernel
theorem hk_147_188 : ax_look 147 188 = some (.getfield 100, (9, 8, 0), .null, [6184]) := by decide +kernel
theorem hk_147_191 : ax_look 147 191 = some (.iconst 1, (0, 0, 0), .null, []) := by decide +kernel
theorem hk_147_192 : ax_look 147 192 = some (.iadd, (0, 0, 0), .null, []) := by decide +kernel
theorem hk_147_193 : ax_look 147 193 = some (.invokevirtual 103, (145, 1, 9), .null, [7058, 32]) := by decide +kernel
theorem hk_147_196 : ax_look 147 196 = some (.bipush 61, (0, 0, 0), .null, []) := by decide +kernel
theorem hk_147_198 : ax_look 147 198 = some (.if_icmp .ne 28, (0, 0, 0), .null, []) := by decide +kernel
theorem hk_147_201 : ax_look 147 201 = some (.aload_n 0, (0, 0, 0), .null, []) := by decide +kernel
theorem hk_147_202 : ax_look 147 202 = some (.dup, (0, 0, 0), .null, []) := by decide +kernel
theorem hk_147_203 : ax_look 147 203 = some (.getfield 100, (9, 8, 0), .null, [6184]) := by decide +kernel
theorem hk_147_206 : ax_look 147 206 = some (.iconst 2, (0, 0, 0), .null, []) := by decide +kernel
theorem hk_147_207 : ax_look 147 207 = some (.iadd, (0, 0, 0), .null, []) := by decide +kernel
theorem hk_147_208 : ax_look 147 208 = some (.putfield 100, (9, 8, 0), .null, [6184]) := by decide +kernel
theorem hk_147_211 : ax_look 147 211 = some (.aload_n 0, (0, 0, 0), .null, []) := by decide +kernel
theorem hk_147_212 : ax_look 147 212 = some (.iload_n 1, (0, 0, 0), .null, []) := by decide +kernel
theorem hk_147_213 : ax_look 147 213 = some (.bipush 60, (0, 0, 0), .null, []) := by decide +kernel
theorem hk_147_215 : ax_look 147 215 = some (.if_icmp .ne 7, (0, 0, 0), .null, []) := by decide +kernel
theorem hk_147_218 : ax_look 147 218 = some (.iconst 4, (0, 0, 0), .null, []) := by decide +kernel
theorem hk_147_219 : ax_look 147 219 = some (.goto 4, (0, 0, 0), .null, []) := by decide +kernel
theorem hk_147_222 : ax_look 147 222 = some (.iconst 3, (0, 0, 0), .null, []) := by decide +kernel
theorem hk_147_223 : ax_look 147 223 = some (.putfield 109, (9, 10, 0), .null, [6186]) := by decide +kernel
theorem hk_147_226 : ax_look 147 226 = some (.return_, (0, 0, 0), .null, []) := by decide +kernel
theorem hn_148 : (ax_mm 148).2.2.1 = 1 := by decide +kernel
theorem hr_148 : (ax_mm 148).2.2.2.1 = none := by decide +kernel
theorem hk_148_0 : ax_look 148 0 = some (.aload_n 0, (0, 0, 0), .null, []) := by decide +kernel
theorem hk_148_1 : ax_look 148 1 = some (.getfield 23, (9, 11, 0), .null, [6187]) := by decide +kernel
theorem hk_148_4 : ax_look 148 4 = some (.ifCond .ge 11, (0, 0, 0), .null, []) := by decide +kernel
theorem hk_148_7 : ax_look 148 7 = some (.aload_n 0, (0, 0, 0), .null, []) := by decide +kernel
theorem hk_148_8 : ax_look 148 8 = some (.aload_n 0, (0, 0, 0), .null, []) := by decide +kernel
theorem hk_148_9 : ax_look 148 9 = some (.getfield 106, (9, 9, 0), .null, [6185]) := by decide +kernel
theorem hk_148_12 : ax_look 148 12 = some (.putfield 23, (9, 11, 0), .null, [6187]) := by decide +kernel
theorem hk_148_15 : ax_look 148 15 = some (.return_, (0, 0, 0), .null, []) := by decide +kernel
theorem hn_149 : (ax_mm 149).2.2.1 = 1 := by decide +kernel
theorem hr_149 : (ax_mm 149).2.2.2.1 = (some .boolean) := by decide +kernel
theorem hk_149_0 : ax_look 149 0 = some (.aload_n 0, (0, 0, 0), .null, []) := by decide +kernel
theorem hk_149_1 : ax_look 149 1 = some (.getfield 23, (9, 11, 0), .null, [6187]) := by decide +kernel
theorem hk_149_4 : ax_look 149 4 = some (.ifCond .ge 7, (0, 0, 0), .null, []) := by decide +kernel
theorem hk_149_7 : ax_look 149 7 = some (.iconst 1, (0, 0, 0), .null, []) := by decide +kernel
theorem hk_149_8 : ax_look 149 8 = some (.goto 4, (0, 0, 0), .null, []) := by decide +kernel
theorem hk_149_11 : ax_look 149 11 = some (.iconst 0, (0, 0, 0), .null, []) := by decide +kernel
theorem hk_149_12 : ax_look 149 12 = some (.ireturn, (0, 0, 0), .null, []) := by decide +kernel
theorem hn_150 : (ax_mm 150).2.2.1 = 4 := by decide +kernel
theorem hr_150 : (ax_mm 150).2.2.2.1 = (some .long) := by decide +kernel
theorem hk_150_0 : ax_look 150 0 = some (.aload_n 0, (0, 0, 0), .null, []) := by decide +kernel
theorem hk_150_1 : ax_look 150 1 = some (.getfield 100, (9, 8, 0), .null, [6184]) := by decide +kernel
theorem hk_150_4 : ax_look 150 4 = some (.aload_n 0, (0, 0, 0), .null, []) := by decide +kernel
theorem hk_150_5 : ax_look 150 5 = some (.getfield 106, (9, 9, 0), .null, [6185]) := by decide +kernel
theorem hk_150_8 : ax_look 150 8 = some (.isub, (0, 0, 0), .null, []) := by decide +kernel
theorem hk_150_9 : ax_look 150 9 = some (.bipush 6, (0, 0, 0), .null, []) := by decide +kernel
theorem hk_150_11 : ax_look 150 11 = some (.if_icmp .le 9, (0, 0, 0), .null, []) := by decide +kernel
theorem hk_150_14 : ax_look 150 14 = some (.aload_n 0, (0, 0, 0), .null, []) := by decide +kernel
theorem hk_150_15 : ax_look 150 15 = some (.invokevirtual 116, (148, 0, 9), .null, [7073, 35]) := by decide +kernel
theorem hk_150_18 : ax_look 150 18 = some (.lconst 0, (0, 0, 0), .null, []) := by decide +kernel
theorem hk_150_19 : ax_look 150 19 = some (.lreturn, (0, 0, 0), .null, []) := by decide +kernel
theorem hk_150_20 : ax_look 150 20 = some (.lconst 0, (0, 0, 0), .null, []) := by decide +kernel
theorem hk_150_21 : ax_look 150 21 = some (.lstore_n 1, (0, 0, 0), .null, []) := by decide +kernel
theorem hk_150_22 : ax_look 150 22 = some (.aload_n 0, (0, 0, 0), .null, []) := by decide +kernel
theorem hk_150_23 : ax_look 150 23 = some (.getfield 106, (9, 9, 0), .null, [6185]) := by decide +kernel
theorem hk_150_26 : ax_look 150 26 = some (.istore_n 3, (0, 0, 0), .null, []) := by decide +kernel
theorem hk_150_27 : ax_look 150 27 = some (.iload_n 3, (0, 0, 0), .null, []) := by decide +kernel
theorem hk_150_28 : ax_look 150 28 = some (.aload_n 0, (0, 0, 0), .null, []) := by decide +kernel
theorem hk_150_29 : ax_look 150 29 = some (.getfield 100, (9, 8, 0), .null, [6184]) := by decide +kernel
theorem hk_150_32 : ax_look 150 32 = some (.if_icmp .ge 27, (0, 0, 0), .null, []) := by decide +kernel
theorem hk_150_35 : ax_look 150 35 = some (.ldc2_w 119, (0, 0, 0), .long (10), [7077]) := by decide +kernel
theorem hk_150_38 : ax_look 150 38 = some (.lload_n 1, (0, 0, 0), .null, []) := by decide +kernel
theorem hk_150_39 : ax_look 150 39 = some (.lmul, (0, 0, 0), .null, []) := by decide +kernel
theorem hk_150_40 : ax_look 150 40 = some (.aload_n 0, (0, 0, 0), .null, []) := by decide +kernel
theorem hk_150_41 : ax_look 150 41 = some (.getfield 19, (9, 6, 0), .null, [6182]) := by decide +kernel
theorem hk_150_44 : ax_look 150 44 = some (.iload_n 3, (0, 0, 0), .null, []) := by decide +kernel
theorem hk_150_45 : ax_look 150 45 = some (.iaload, (0, 0, 0), .null, []) := by decide +kernel
theorem hk_150_46 : ax_look 150 46 = some (.i2l, (0, 0, 0), .null, []) := by decide +kernel
theorem hk_150_47 : ax_look 150 47 = some (.ladd, (0, 0, 0), .null, []) := by decide +kernel
theorem hk_150_48 : ax_look 150 48 = some (.ldc2_w 121, (0, 0, 0), .long (48), [7078]) := by decide +kernel
theorem hk_150_51 : ax_look 150 51 = some (.lsub, (0, 0, 0), .null, []) := by decide +kernel
theorem hk_150_52 : ax_look 150 52 = some (.lstore_n 1, (0, 0, 0), .null, []) := by decide +kernel
theorem hk_150_53 : ax_look 150 53 = some (.iinc 3 1, (0, 0, 0), .null, []) := by decide +kernel
theorem hk_150_56 : ax_look 150 56 = some (.goto (-29), (0, 0, 0), .null, []) := by decide +kernel
theorem hk_150_59 : ax_look 150 59 = some (.lload_n 1, (0, 0, 0), .null, []) := by decide +kernel
theorem hk_150_60 : ax_look 150 60 = some (.lreturn, (0, 0, 0), .null, []) := by decide +kernel
theorem hn_151 : (ax_mm 151).2.2.1 = 5 := by decide +kernel
theorem hr_151 : (ax_mm 151).2.2.2.1 = none := by decide +kernel
theorem hk_151_0 : ax_look 151 0 = some (.lconst 1, (0, 0, 0), .null, []) := by decide +kernel
theorem hk_151_1 : ax_look 151 1 = some (.lstore_n 2, (0, 0, 0), .null, []) := by decide +kernel
theorem hk_151_2 : ax_look 151 2 = some (.aload_n 0, (0, 0, 0), .null, []) := by decide +kernel
theorem hk_151_3 : ax_look 151 3 = some (.getfield 109, (9, 10, 0), .null, [6186]) := by decide +kernel
theorem hk_151_6 : ax_look 151 6 = some (.iconst 1, (0, 0, 0), .null, []) := by decide +kernel
theorem hk_151_7 : ax_look 151 7 = some (.if_icmp .ne 19, (0, 0, 0), .null, []) := by decide +kernel
theorem hk_151_10 : ax_look 151 10 = some (.aload_n 0, (0, 0, 0), .null, []) := by decide +kernel
theorem hk_151_11 : ax_look 151 11 = some (.invokevirtual 123, (150, 0, 9), .null, [7069, 34]) := by decide +kernel
theorem hk_151_14 : ax_look 151 14 = some (.lstore_n 2, (0, 0, 0), .null, []) := by decide +kernel
theorem hk_151_15 : ax_look 151 15 = some (.aload_n 0, (0, 0, 0), .null, []) := by decide +kernel
theorem hk_151_16 : ax_look 151 16 = some (.invokevirtual 127, (149, 0, 9), .null, [7079, 36]) := by decide +kernel
theorem hk_151_19 : ax_look 151 19 = some (.ifCond .eq 7, (0, 0, 0), .null, []) := by decide +kernel
theorem hk_151_22 : ax_look 151 22 = some (.aload_n 0, (0, 0, 0), .null, []) := by decide +kernel
theorem hk_151_23 : ax_look 151 23 = some (.invokevirtual 131, (147, 0, 9), .null, [7054, 31]) := by decide +kernel
theorem hk_151_26 : ax_look 151 26 = some (.iconst 0, (0, 0, 0), .null, []) := by decide +kernel
theorem hk_151_27 : ax_look 151 27 = some (.istore 4, (0, 0, 0), .null, []) := by decide +kernel
theorem hk_151_29 : ax_look 151 29 = some (.aload_n 0, (0, 0, 0), .null, []) := by decide +kernel
theorem hk_151_30 : ax_look 151 30 = some (.invokevirtual 127, (149, 0, 9), .null, [7079, 36]) := by decide +kernel
theorem hk_151_33 : ax_look 151 33 = some (.ifCond .eq 19, (0, 0, 0), .null, []) := by decide +kernel
theorem hk_151_36 : ax_look 151 36 = some (.aload_n 0, (0, 0, 0), .null, []) := by decide +kernel
theorem hk_151_37 : ax_look 151 37 = some (.getfield 109, (9, 10, 0), .null, [6186]) := by decide +kernel
theorem hk_151_40 : ax_look 151 40 = some (.bipush 126, (0, 0, 0), .null, []) := by decide +kernel
theorem hk_151_42 : ax_look 151 42 = some (.if_icmp .ne 10, (0, 0, 0), .null, []) := by decide +kernel
theorem hk_151_45 : ax_look 151 45 = some (.iconst 1, (0, 0, 0), .null, []) := by decide +kernel
theorem hk_151_46 : ax_look 151 46 = some (.istore 4, (0, 0, 0), .null, []) := by decide +kernel
theorem hk_151_48 : ax_look 151 48 = some (.aload_n 0, (0, 0, 0), .null, []) := by decide +kernel
theorem hk_151_49 : ax_look 151 49 = some (.invokevirtual 131, (147, 0, 9), .null, [7054, 31]) := by decide +kernel
theorem hk_151_52 : ax_look 151 52 = some (.aload_n 0, (0, 0, 0), .null, []) := by decide +kernel
theorem hk_151_53 : ax_look 151 53 = some (.invokevirtual 127, (149, 0, 9), .null, [7079, 36]) := by decide +kernel
theorem hk_151_56 : ax_look 151 56 = some (.ifCond .eq 15, (0, 0, 0), .null, []) := by decide +kernel
theorem hk_151_59 : ax_look 151 59 = some (.aload_n 0, (0, 0, 0), .null, []) := by decide +kernel
theorem hk_151_60 : ax_look 151 60 = some (.getfield 109, (9, 10, 0), .null, [6186]) := by decide +kernel
theorem hk_151_63 : ax_look 151 63 = some (.iconst 2, (0, 0, 0), .null, []) := by decide +kernel
theorem hk_151_64 : ax_look 151 64 = some (.if_icmp .eq 7, (0, 0, 0), .null, []) := by decide +kernel
theorem hk_151_67 : ax_look 151 67 = some (.aload_n 0, (0, 0, 0), .null, []) := by decide +kernel
theorem hk_151_68 : ax_look 151 68 = some (.invokevirtual 116, (148, 0, 9), .null, [7073, 35]) := by decide +kernel
theorem hk_151_71 : ax_look 151 71 = some (.aload_n 0, (0, 0, 0), .null, []) := by decide +kernel
theorem hk_151_72 : ax_look 151 72 = some (.invokevirtual 127, (149, 0, 9), .null, [7079, 36]) := by decide +kernel
theorem hk_151_75 : ax_look 151 75 = some (.ifCond .ne 4, (0, 0, 0), .null, []) := by decide +kernel
theorem hk_151_78 : ax_look 151 78 = some (.return_, (0, 0, 0), .null, []) := by decide +kernel
theorem hk_151_79 : ax_look 151 79 = some (.aload_n 0, (0, 0, 0), .null, []) := by decide +kernel
theorem hk_151_80 : ax_look 151 80 = some (.getfield 27, (9, 12, 0), .null, [6188]) := by decide +kernel
theorem hk_151_83 : ax_look 151 83 = some (.aload_n 0, (0, 0, 0), .null, []) := by decide +kernel
theorem hk_151_84 : ax_look 151 84 = some (.getfield 134, (9, 14, 0), .null, [6190]) := by decide +kernel
theorem hk_151_87 : ax_look 151 87 = some (.iload_n 1, (0, 0, 0), .null, []) := by decide +kernel
theorem hk_151_88 : ax_look 151 88 = some (.ifCond .eq 8, (0, 0, 0), .null, []) := by decide +kernel
theorem hk_151_91 : ax_look 151 91 = some (.lload_n 2, (0, 0, 0), .null, []) := by decide +kernel
theorem hk_151_92 : ax_look 151 92 = some (.lneg, (0, 0, 0), .null, []) := by decide +kernel
theorem hk_151_93 : ax_look 151 93 = some (.goto 4, (0, 0, 0), .null, []) := by decide +kernel
theorem hk_151_96 : ax_look 151 96 = some (.lload_n 2, (0, 0, 0), .null, []) := by decide +kernel
theorem hk_151_97 : ax_look 151 97 = some (.lastore, (0, 0, 0), .null, []) := by decide +kernel
theorem hk_151_98 : ax_look 151 98 = some (.aload_n 0, (0, 0, 0), .null, []) := by decide +kernel
theorem hk_151_99 : ax_look 151 99 = some (.getfield 30, (9, 13, 0), .null, [6189]) := by decide +kernel
theorem hk_151_102 : ax_look 151 102 = some (.aload_n 0, (0, 0, 0), .null, []) := by decide +kernel
theorem hk_151_103 : ax_look 151 103 = some (.getfield 134, (9, 14, 0), .null, [6190]) := by decide +kernel
theorem hk_151_106 : ax_look 151 106 = some (.iconst 2, (0, 0, 0), .null, []) := by decide +kernel
theorem hk_151_107 : ax_look 151 107 = some (.aload_n 0, (0, 0, 0), .null, []) := by decide +kernel
theorem hk_151_108 : ax_look 151 108 = some (.getfield 19, (9, 6, 0), .null, [6182]) := by decide +kernel
theorem hk_151_111 : ax_look 151 111 = some (.aload_n 0, (0, 0, 0), .null, []) := by decide +kernel
theorem hk_151_112 : ax_look 151 112 = some (.getfield 106, (9, 9, 0), .null, [6185]) := by decide +kernel
theorem hk_151_115 : ax_look 151 115 = some (.iaload, (0, 0, 0), .null, []) := by decide +kernel
theorem hk_151_116 : ax_look 151 116 = some (.bipush 97, (0, 0, 0), .null, []) := by decide +kernel
theorem hk_151_118 : ax_look 151 118 = some (.isub, (0, 0, 0), .null, []) := by decide +kernel
theorem hk_151_119 : ax_look 151 119 = some (.imul, (0, 0, 0), .null, []) := by decide +kernel
theorem hk_151_120 : ax_look 151 120 = some (.iload 4, (0, 0, 0), .null, []) := by decide +kernel
theorem hk_151_122 : ax_look 151 122 = some (.iadd, (0, 0, 0), .null, []) := by decide +kernel
theorem hk_151_123 : ax_look 151 123 = some (.iastore, (0, 0, 0), .null, []) := by decide +kernel
theorem hk_151_124 : ax_look 151 124 = some (.aload_n 0, (0, 0, 0), .null, []) := by decide +kernel
theorem hk_151_125 : ax_look 151 125 = some (.dup, (0, 0, 0), .null, []) := by decide +kernel
theorem hk_151_126 : ax_look 151 126 = some (.getfield 134, (9, 14, 0), .null, [6190]) := by decide +kernel
theorem hk_151_129 : ax_look 151 129 = some (.iconst 1, (0, 0, 0), .null, []) := by decide +kernel
theorem hk_151_130 : ax_look 151 130 = some (.iadd, (0, 0, 0), .null, []) := by decide +kernel
theorem hk_151_131 : ax_look 151 131 = some (.putfield 134, (9, 14, 0), .null, [6190]) := by decide +kernel
theorem hk_151_134 : ax_look 151 134 = some (.aload_n 0, (0, 0, 0), .null, []) := by decide +kernel
theorem hk_151_135 : ax_look 151 135 = some (.invokevirtual 131, (147, 0, 9), .null, [7054, 31]) := by decide +kernel
theorem hk_151_138 : ax_look 151 138 = some (.return_, (0, 0, 0), .null, []) := by decide +kernel
theorem hn_152 : (ax_mm 152).2.2.1 = 2 := by decide +kernel
theorem hr_152 : (ax_mm 152).2.2.2.1 = (some .boolean) := by decide +kernel
theorem hk_152_0 : ax_look 152 0 = some (.aload_n 0, (0, 0, 0), .null, []) := by decide +kernel
theorem hk_152_1 : ax_look 152 1 = some (.iconst (-1), (0, 0, 0), .null, []) := by decide +kernel
theorem hk_152_2 : ax_look 152 2 = some (.putfield 23, (9, 11, 0), .null, [6187]) := by decide +kernel
theorem hk_152_5 : ax_look 152 5 = some (.aload_n 0, (0, 0, 0), .null, []) := by decide +kernel
theorem hk_152_6 : ax_look 152 6 = some (.iconst 0, (0, 0, 0), .null, []) := by decide +kernel
theorem hk_152_7 : ax_look 152 7 = some (.putfield 100, (9, 8, 0), .null, [6184]) := by decide +kernel
theorem hk_152_10 : ax_look 152 10 = some (.aload_n 0, (0, 0, 0), .null, []) := by decide +kernel
theorem hk_152_11 : ax_look 152 11 = some (.iconst 0, (0, 0, 0), .null, []) := by decide +kernel
theorem hk_152_12 : ax_look 152 12 = some (.putfield 134, (9, 14, 0), .null, [6190]) := by decide +kernel
theorem hk_152_15 : ax_look 152 15 = some (.aload_n 0, (0, 0, 0), .null, []) := by decide +kernel
theorem hk_152_16 : ax_look 152 16 = some (.invokevirtual 131, (147, 0, 9), .null, [7054, 31]) := by decide +kernel
theorem hk_152_19 : ax_look 152 19 = some (.aload_n 0, (0, 0, 0), .null, []) := by decide +kernel
theorem hk_152_20 : ax_look 152 20 = some (.getfield 109, (9, 10, 0), .null, [6186]) := by decide +kernel
theorem hk_152_23 : ax_look 152 23 = some (.bipush 45, (0, 0, 0), .null, []) := by decide +kernel
theorem hk_152_25 : ax_look 152 25 = some (.if_icmp .ne 7, (0, 0, 0), .null, []) := by decide +kernel
theorem hk_152_28 : ax_look 152 28 = some (.iconst 1, (0, 0, 0), .null, []) := by decide +kernel
theorem hk_152_29 : ax_look 152 29 = some (.goto 4, (0, 0, 0), .null, []) := by decide +kernel
theorem hk_152_32 : ax_look 152 32 = some (.iconst 0, (0, 0, 0), .null, []) := by decide +kernel
theorem hk_152_33 : ax_look 152 33 = some (.istore_n 1, (0, 0, 0), .null, []) := by decide +kernel
theorem hk_152_34 : ax_look 152 34 = some (.iload_n 1, (0, 0, 0), .null, []) := by decide +kernel
theorem hk_152_35 : ax_look 152 35 = some (.ifCond .eq 7, (0, 0, 0), .null, []) := by decide +kernel
theorem hk_152_38 : ax_look 152 38 = some (.aload_n 0, (0, 0, 0), .null, []) := by decide +kernel
theorem hk_152_39 : ax_look 152 39 = some (.invokevirtual 131, (147, 0, 9), .null, [7054, 31]) := by decide +kernel
theorem hk_152_42 : ax_look 152 42 = some (.aload_n 0, (0, 0, 0), .null, []) := by decide +kernel
theorem hk_152_43 : ax_look 152 43 = some (.iload_n 1, (0, 0, 0), .null, []) := by decide +kernel
theorem hk_152_44 : ax_look 152 44 = some (.invokevirtual 137, (151, 1, 9), .null, [7065, 33]) := by decide +kernel
theorem hk_152_47 : ax_look 152 47 = some (.aload_n 0, (0, 0, 0), .null, []) := by decide +kernel
theorem hk_152_48 : ax_look 152 48 = some (.invokevirtual 127, (149, 0, 9), .null, [7079, 36]) := by decide +kernel
theorem hk_152_51 : ax_look 152 51 = some (.ifCond .eq 48, (0, 0, 0), .null, []) := by decide +kernel
theorem hk_152_54 : ax_look 152 54 = some (.aload_n 0, (0, 0, 0), .null, []) := by decide +kernel
theorem hk_152_55 : ax_look 152 55 = some (.getfield 109, (9, 10, 0), .null, [6186]) := by decide +kernel
theorem hk_152_58 : ax_look 152 58 = some (.bipush 43, (0, 0, 0), .null, []) := by decide +kernel
theorem hk_152_60 : ax_look 152 60 = some (.if_icmp .eq 12, (0, 0, 0), .null, []) := by decide +kernel
theorem hk_152_63 : ax_look 152 63 = some (.aload_n 0, (0, 0, 0), .null, []) := by decide +kernel
theorem hk_152_64 : ax_look 152 64 = some (.getfield 109, (9, 10, 0), .null, [6186]) := by decide +kernel
theorem hk_152_67 : ax_look 152 67 = some (.bipush 45, (0, 0, 0), .null, []) := by decide +kernel
theorem hk_152_69 : ax_look 152 69 = some (.if_icmp .ne 30, (0, 0, 0), .null, []) := by decide +kernel
theorem hk_152_72 : ax_look 152 72 = some (.aload_n 0, (0, 0, 0), .null, []) := by decide +kernel
theorem hk_152_73 : ax_look 152 73 = some (.getfield 109, (9, 10, 0), .null, [6186]) := by decide +kernel
theorem hk_152_76 : ax_look 152 76 = some (.bipush 45, (0, 0, 0), .null, []) := by decide +kernel
theorem hk_152_78 : ax_look 152 78 = some (.if_icmp .ne 7, (0, 0, 0), .null, []) := by decide +kernel
theorem hk_152_81 : ax_look 152 81 = some (.iconst 1, (0, 0, 0), .null, []) := by decide +kernel
theorem hk_152_82 : ax_look 152 82 = some (.goto 4, (0, 0, 0), .null, []) := by decide +kernel
theorem hk_152_85 : ax_look 152 85 = some (.iconst 0, (0, 0, 0), .null, []) := by decide +kernel
theorem hk_152_86 : ax_look 152 86 = some (.istore_n 1, (0, 0, 0), .null, []) := by decide +kernel
theorem hk_152_87 : ax_look 152 87 = some (.aload_n 0, (0, 0, 0), .null, []) := by decide +kernel
theorem hk_152_88 : ax_look 152 88 = some (.invokevirtual 131, (147, 0, 9), .null, [7054, 31]) := by decide +kernel
theorem hk_152_91 : ax_look 152 91 = some (.aload_n 0, (0, 0, 0), .null, []) := by decide +kernel
theorem hk_152_92 : ax_look 152 92 = some (.iload_n 1, (0, 0, 0), .null, []) := by decide +kernel
theorem hk_152_93 : ax_look 152 93 = some (.invokevirtual 137, (151, 1, 9), .null, [7065, 33]) := by decide +kernel
theorem hk_152_96 : ax_look 152 96 = some (.goto (-49), (0, 0, 0), .null, []) := by decide +kernel
theorem hk_152_99 : ax_look 152 99 = some (.aload_n 0, (0, 0, 0), .null, []) := by decide +kernel
theorem hk_152_100 : ax_look 152 100 = some (.aload_n 0, (0, 0, 0), .null, []) := by decide +kernel
theorem hk_152_101 : ax_look 152 101 = some (.getfield 109, (9, 10, 0), .null, [6186]) := by decide +kernel
theorem hk_152_104 : ax_look 152 104 = some (.putfield 141, (9, 15, 0), .null, [6191]) := by decide +kernel
theorem hk_152_107 : ax_look 152 107 = some (.aload_n 0, (0, 0, 0), .null, []) := by decide +kernel
theorem hk_152_108 : ax_look 152 108 = some (.invokevirtual 127, (149, 0, 9), .null, [7079, 36]) := by decide +kernel
theorem hk_152_111 : ax_look 152 111 = some (.ifCond .eq 32, (0, 0, 0), .null, []) := by decide +kernel
theorem hk_152_114 : ax_look 152 114 = some (.aload_n 0, (0, 0, 0), .null, []) := by decide +kernel
theorem hk_152_115 : ax_look 152 115 = some (.getfield 109, (9, 10, 0), .null, [6186]) := by decide +kernel
theorem hk_152_118 : ax_look 152 118 = some (.bipush 61, (0, 0, 0), .null, []) := by decide +kernel
theorem hk_152_120 : ax_look 152 120 = some (.if_icmp .eq 23, (0, 0, 0), .null, []) := by decide +kernel
theorem hk_152_123 : ax_look 152 123 = some (.aload_n 0, (0, 0, 0), .null, []) := by decide +kernel
theorem hk_152_124 : ax_look 152 124 = some (.getfield 109, (9, 10, 0), .null, [6186]) := by decide +kernel
theorem hk_152_127 : ax_look 152 127 = some (.iconst 3, (0, 0, 0), .null, []) := by decide +kernel
theorem hk_152_128 : ax_look 152 128 = some (.if_icmp .eq 15, (0, 0, 0), .null, []) := by decide +kernel
theorem hk_152_131 : ax_look 152 131 = some (.aload_n 0, (0, 0, 0), .null, []) := by decide +kernel
theorem hk_152_132 : ax_look 152 132 = some (.getfield 109, (9, 10, 0), .null, [6186]) := by decide +kernel
theorem hk_152_135 : ax_look 152 135 = some (.iconst 4, (0, 0, 0), .null, []) := by decide +kernel
theorem hk_152_136 : ax_look 152 136 = some (.if_icmp .eq 7, (0, 0, 0), .null, []) := by decide +kernel
theorem hk_152_139 : ax_look 152 139 = some (.aload_n 0, (0, 0, 0), .null, []) := by decide +kernel
theorem hk_152_140 : ax_look 152 140 = some (.invokevirtual 116, (148, 0, 9), .null, [7073, 35]) := by decide +kernel
theorem hk_152_143 : ax_look 152 143 = some (.aload_n 0, (0, 0, 0), .null, []) := by decide +kernel
theorem hk_152_144 : ax_look 152 144 = some (.invokevirtual 127, (149, 0, 9), .null, [7079, 36]) := by decide +kernel
theorem hk_152_147 : ax_look 152 147 = some (.ifCond .eq 7, (0, 0, 0), .null, []) := by decide +kernel
theorem hk_152_150 : ax_look 152 150 = some (.aload_n 0, (0, 0, 0), .null, []) := by decide +kernel
theorem hk_152_151 : ax_look 152 151 = some (.invokevirtual 131, (147, 0, 9), .null, [7054, 31]) := by decide +kernel
theorem hk_152_154 : ax_look 152 154 = some (.aload_n 0, (0, 0, 0), .null, []) := by decide +kernel
theorem hk_152_155 : ax_look 152 155 = some (.invokevirtual 127, (149, 0, 9), .null, [7079, 36]) := by decide +kernel
theorem hk_152_158 : ax_look 152 158 = some (.ifCond .eq 16, (0, 0, 0), .null, []) := by decide +kernel
theorem hk_152_161 : ax_look 152 161 = some (.aload_n 0, (0, 0, 0), .null, []) := by decide +kernel
theorem hk_152_162 : ax_look 152 162 = some (.getfield 109, (9, 10, 0), .null, [6186]) := by decide +kernel
theorem hk_152_165 : ax_look 152 165 = some (.bipush 45, (0, 0, 0), .null, []) := by decide +kernel
theorem hk_152_167 : ax_look 152 167 = some (.if_icmp .ne 7, (0, 0, 0), .null, []) := by decide +kernel
theorem hk_152_170 : ax_look 152 170 = some (.iconst 1, (0, 0, 0), .null, []) := by decide +kernel
theorem hk_152_171 : ax_look 152 171 = some (.goto 4, (0, 0, 0), .null, []) := by decide +kernel
theorem hk_152_174 : ax_look 152 174 = some (.iconst 0, (0, 0, 0), .null, []) := by decide +kernel
theorem hk_152_175 : ax_look 152 175 = some (.istore_n 1, (0, 0, 0), .null, []) := by decide +kernel
theorem hk_152_176 : ax_look 152 176 = some (.iload_n 1, (0, 0, 0), .null, []) := by decide +kernel
theorem hk_152_177 : ax_look 152 177 = some (.ifCond .eq 7, (0, 0, 0), .null, []) := by decide +kernel
theorem hk_152_180 : ax_look 152 180 = some (.aload_n 0, (0, 0, 0), .null, []) := by decide +kernel
theorem hk_152_181 : ax_look 152 181 = some (.invokevirtual 131, (147, 0, 9), .null, [7054, 31]) := by decide +kernel
theorem hk_152_184 : ax_look 152 184 = some (.aload_n 0, (0, 0, 0), .null, []) := by decide +kernel
theorem hk_152_185 : ax_look 152 185 = some (.invokevirtual 127, (149, 0, 9), .null, [7079, 36]) := by decide +kernel
theorem hk_152_188 : ax_look 152 188 = some (.ifCond .eq 15, (0, 0, 0), .null, []) := by decide +kernel
theorem hk_152_191 : ax_look 152 191 = some (.aload_n 0, (0, 0, 0), .null, []) := by decide +kernel
theorem hk_152_192 : ax_look 152 192 = some (.getfield 109, (9, 10, 0), .null, [6186]) := by decide +kernel
theorem hk_152_195 : ax_look 152 195 = some (.iconst 1, (0, 0, 0), .null, []) := by decide +kernel
theorem hk_152_196 : ax_look 152 196 = some (.if_icmp .eq 7, (0, 0, 0), .null, []) := by decide +kernel
theorem hk_152_199 : ax_look 152 199 = some (.aload_n 0, (0, 0, 0), .null, []) := by decide +kernel
theorem hk_152_200 : ax_look 152 200 = some (.invokevirtual 116, (148, 0, 9), .null, [7073, 35]) := by decide +kernel
theorem hk_152_203 : ax_look 152 203 = some (.aload_n 0, (0, 0, 0), .null, []) := by decide +kernel
theorem hk_152_204 : ax_look 152 204 = some (.aload_n 0, (0, 0, 0), .null, []) := by decide +kernel
theorem hk_152_205 : ax_look 152 205 = some (.invokevirtual 127, (149, 0, 9), .null, [7079, 36]) := by decide +kernel
theorem hk_152_208 : ax_look 152 208 = some (.ifCond .eq 10, (0, 0, 0), .null, []) := by decide +kernel
theorem hk_152_211 : ax_look 152 211 = some (.aload_n 0, (0, 0, 0), .null, []) := by decide +kernel
theorem hk_152_212 : ax_look 152 212 = some (.invokevirtual 123, (150, 0, 9), .null, [7069, 34]) := by decide +kernel
theorem hk_152_215 : ax_look 152 215 = some (.goto 4, (0, 0, 0), .null, []) := by decide +kernel
theorem hk_152_218 : ax_look 152 218 = some (.lconst 0, (0, 0, 0), .null, []) := by decide +kernel
theorem hk_152_219 : ax_look 152 219 = some (.putfield 144, (9, 16, 0), .null, [6192]) := by decide +kernel
theorem hk_152_222 : ax_look 152 222 = some (.iload_n 1, (0, 0, 0), .null, []) := by decide +kernel
theorem hk_152_223 : ax_look 152 223 = some (.ifCond .eq 12, (0, 0, 0), .null, []) := by decide +kernel
theorem hk_152_226 : ax_look 152 226 = some (.aload_n 0, (0, 0, 0), .null, []) := by decide +kernel
theorem hk_152_227 : ax_look 152 227 = some (.aload_n 0, (0, 0, 0), .null, []) := by decide +kernel
theorem hk_152_228 : ax_look 152 228 = some (.getfield 144, (9, 16, 0), .null, [6192]) := by decide +kernel
theorem hk_152_231 : ax_look 152 231 = some (.lneg, (0, 0, 0), .null, []) := by decide +kernel
theorem hk_152_232 : ax_look 152 232 = some (.putfield 144, (9, 16, 0), .null, [6192]) := by decide +kernel
theorem hk_152_235 : ax_look 152 235 = some (.aload_n 0, (0, 0, 0), .null, []) := by decide +kernel
theorem hk_152_236 : ax_look 152 236 = some (.invokevirtual 127, (149, 0, 9), .null, [7079, 36]) := by decide +kernel
theorem hk_152_239 : ax_look 152 239 = some (.ifCond .eq 7, (0, 0, 0), .null, []) := by decide +kernel
theorem hk_152_242 : ax_look 152 242 = some (.aload_n 0, (0, 0, 0), .null, []) := by decide +kernel
theorem hk_152_243 : ax_look 152 243 = some (.invokevirtual 131, (147, 0, 9), .null, [7054, 31]) := by decide +kernel
theorem hk_152_246 : ax_look 152 246 = some (.aload_n 0, (0, 0, 0), .null, []) := by decide +kernel
theorem hk_152_247 : ax_look 152 247 = some (.invokevirtual 127, (149, 0, 9), .null, [7079, 36]) := by decide +kernel
theorem hk_152_250 : ax_look 152 250 = some (.ifCond .eq 15, (0, 0, 0), .null, []) := by decide +kernel
theorem hk_152_253 : ax_look 152 253 = some (.aload_n 0, (0, 0, 0), .null, []) := by decide +kernel
theorem hk_152_254 : ax_look 152 254 = some (.getfield 109, (9, 10, 0), .null, [6186]) := by decide +kernel
theorem hk_152_257 : ax_look 152 257 = some (.iconst (-1), (0, 0, 0), .null, []) := by decide +kernel
theorem hk_152_258 : ax_look 152 258 = some (.if_icmp .eq 7, (0, 0, 0), .null, []) := by decide +kernel
theorem hk_152_261 : ax_look 152 261 = some (.aload_n 0, (0, 0, 0), .null, []) := by decide +kernel
theorem hk_152_262 : ax_look 152 262 = some (.invokevirtual 116, (148, 0, 9), .null, [7073, 35]) := by decide +kernel
theorem hk_152_265 : ax_look 152 265 = some (.aload_n 0, (0, 0, 0), .null, []) := by decide +kernel
theorem hk_152_266 : ax_look 152 266 = some (.iconst 0, (0, 0, 0), .null, []) := by decide +kernel
theorem hk_152_267 : ax_look 152 267 = some (.putfield 93, (9, 7, 0), .null, [6183]) := by decide +kernel
theorem hk_152_270 : ax_look 152 270 = some (.aload_n 0, (0, 0, 0), .null, []) := by decide +kernel
theorem hk_152_271 : ax_look 152 271 = some (.invokevirtual 127, (149, 0, 9), .null, [7079, 36]) := by decide +kernel
theorem hk_152_274 : ax_look 152 274 = some (.ireturn, (0, 0, 0), .null, []) := by decide +kernel
theorem hn_156 : (ax_mm 156).2.2.1 = 2 := by decide +kernel
theorem hr_156 : (ax_mm 156).2.2.2.1 = (some .int) := by decide +kernel
theorem hk_156_0 : ax_look 156 0 = some (.aload_n 0, (0, 0, 0), .null, []) := by decide +kernel
theorem hk_156_1 : ax_look 156 1 = some (.iconst 0, (0, 0, 0), .null, []) := by decide +kernel
theorem hk_156_2 : ax_look 156 2 = some (.putfield 61, (9, 0, 0), .null, [6176]) := by decide +kernel
theorem hk_156_5 : ax_look 156 5 = some (.aload_n 0, (0, 0, 0), .null, []) := by decide +kernel
theorem hk_156_6 : ax_look 156 6 = some (.invokevirtual 153, (152, 0, 9), .null, [7050, 30]) := by decide +kernel
theorem hk_156_9 : ax_look 156 9 = some (.ifCond .ne 9, (0, 0, 0), .null, []) := by decide +kernel
theorem hk_156_12 : ax_look 156 12 = some (.aload_n 0, (0, 0, 0), .null, []) := by decide +kernel
theorem hk_156_13 : ax_look 156 13 = some (.iconst 1, (0, 0, 0), .null, []) := by decide +kernel
theorem hk_156_14 : ax_look 156 14 = some (.invokevirtual 96, (132, 1, 9), .null, [7038, 29]) := by decide +kernel
theorem hk_156_17 : ax_look 156 17 = some (.ireturn, (0, 0, 0), .null, []) := by decide +kernel
theorem hk_156_18 : ax_look 156 18 = some (.aload_n 0, (0, 0, 0), .null, []) := by decide +kernel
theorem hk_156_19 : ax_look 156 19 = some (.getfield 64, (9, 1, 0), .null, [6177]) := by decide +kernel
theorem hk_156_22 : ax_look 156 22 = some (.aload_n 0, (0, 0, 0), .null, []) := by decide +kernel
theorem hk_156_23 : ax_look 156 23 = some (.getfield 141, (9, 15, 0), .null, [6191]) := by decide +kernel
theorem hk_156_26 : ax_look 156 26 = some (.bipush 61, (0, 0, 0), .null, []) := by decide +kernel
theorem hk_156_28 : ax_look 156 28 = some (.if_icmp .ne 7, (0, 0, 0), .null, []) := by decide +kernel
theorem hk_156_31 : ax_look 156 31 = some (.iconst 2, (0, 0, 0), .null, []) := by decide +kernel
theorem hk_156_32 : ax_look 156 32 = some (.goto 4, (0, 0, 0), .null, []) := by decide +kernel
theorem hk_156_35 : ax_look 156 35 = some (.iconst 1, (0, 0, 0), .null, []) := by decide +kernel
theorem hk_156_36 : ax_look 156 36 = some (.iadd, (0, 0, 0), .null, []) := by decide +kernel
theorem hk_156_37 : ax_look 156 37 = some (.bipush 60, (0, 0, 0), .null, []) := by decide +kernel
theorem hk_156_39 : ax_look 156 39 = some (.if_icmp .le 9, (0, 0, 0), .null, []) := by decide +kernel
theorem hk_156_42 : ax_look 156 42 = some (.aload_n 0, (0, 0, 0), .null, []) := by decide +kernel
theorem hk_156_43 : ax_look 156 43 = some (.iconst 2, (0, 0, 0), .null, []) := by decide +kernel
theorem hk_156_44 : ax_look 156 44 = some (.invokevirtual 96, (132, 1, 9), .null, [7038, 29]) := by decide +kernel
theorem hk_156_47 : ax_look 156 47 = some (.ireturn, (0, 0, 0), .null, []) := by decide +kernel
theorem hk_156_48 : ax_look 156 48 = some (.aload_n 0, (0, 0, 0), .null, []) := by decide +kernel
theorem hk_156_49 : ax_look 156 49 = some (.getfield 64, (9, 1, 0), .null, [6177]) := by decide +kernel
theorem hk_156_52 : ax_look 156 52 = some (.istore_n 1, (0, 0, 0), .null, []) := by decide +kernel
theorem hk_156_53 : ax_look 156 53 = some (.aload_n 0, (0, 0, 0), .null, []) := by decide +kernel
theorem hk_156_54 : ax_look 156 54 = some (.invokevirtual 156, (154, 0, 9), .null, [7083, 37]) := by decide +kernel
theorem hk_156_57 : ax_look 156 57 = some (.ifCond .eq 13, (0, 0, 0), .null, []) := by decide +kernel
theorem hk_156_60 : ax_look 156 60 = some (.aload_n 0, (0, 0, 0), .null, []) := by decide +kernel
theorem hk_156_61 : ax_look 156 61 = some (.iconst 0, (0, 0, 0), .null, []) := by decide +kernel
theorem hk_156_62 : ax_look 156 62 = some (.invokevirtual 159, (153, 1, 9), .null, [7087, 38]) := by decide +kernel
theorem hk_156_65 : ax_look 156 65 = some (.aload_n 0, (0, 0, 0), .null, []) := by decide +kernel
theorem hk_156_66 : ax_look 156 66 = some (.invokevirtual 162, (142, 0, 9), .null, [7105, 42]) := by decide +kernel
theorem hk_156_69 : ax_look 156 69 = some (.pop, (0, 0, 0), .null, []) := by decide +kernel
theorem hk_156_70 : ax_look 156 70 = some (.aload_n 0, (0, 0, 0), .null, []) := by decide +kernel
theorem hk_156_71 : ax_look 156 71 = some (.invokevirtual 166, (155, 0, 9), .null, [7125, 47]) := by decide +kernel
theorem hk_156_74 : ax_look 156 74 = some (.ifCond .eq 13, (0, 0, 0), .null, []) := by decide +kernel
theorem hk_156_77 : ax_look 156 77 = some (.aload_n 0, (0, 0, 0), .null, []) := by decide +kernel
theorem hk_156_78 : ax_look 156 78 = some (.iconst 1, (0, 0, 0), .null, []) := by decide +kernel
theorem hk_156_79 : ax_look 156 79 = some (.invokevirtual 159, (153, 1, 9), .null, [7087, 38]) := by decide +kernel
theorem hk_156_82 : ax_look 156 82 = some (.aload_n 0, (0, 0, 0), .null, []) := by decide +kernel
theorem hk_156_83 : ax_look 156 83 = some (.invokevirtual 162, (142, 0, 9), .null, [7105, 42]) := by decide +kernel
theorem hk_156_86 : ax_look 156 86 = some (.pop, (0, 0, 0), .null, []) := by decide +kernel
theorem hk_156_87 : ax_look 156 87 = some (.iload_n 1, (0, 0, 0), .null, []) := by decide +kernel
theorem hk_156_88 : ax_look 156 88 = some (.ireturn, (0, 0, 0), .null, []) := by decide +kernel
theorem hn_159 : (ax_mm 159).2.2.1 = 2 := by decide +kernel
theorem hr_159 : (ax_mm 159).2.2.2.1 = (some .boolean) := by decide +kernel
theorem hk_159_0 : ax_look 159 0 = some (.aload_n 0, (0, 0, 0), .null, []) := by decide +kernel
theorem hk_159_1 : ax_look 159 1 = some (.iconst 0, (0, 0, 0), .null, []) := by decide +kernel
theorem hk_159_2 : ax_look 159 2 = some (.putfield 61, (9, 0, 0), .null, [6176]) := by decide +kernel
theorem hk_159_5 : ax_look 159 5 = some (.aload_n 0, (0, 0, 0), .null, []) := by decide +kernel
theorem hk_159_6 : ax_look 159 6 = some (.invokevirtual 153, (152, 0, 9), .null, [7050, 30]) := by decide +kernel
theorem hk_159_9 : ax_look 159 9 = some (.ifCond .ne 17, (0, 0, 0), .null, []) := by decide +kernel
theorem hk_159_12 : ax_look 159 12 = some (.aload_n 0, (0, 0, 0), .null, []) := by decide +kernel
theorem hk_159_13 : ax_look 159 13 = some (.iconst 1, (0, 0, 0), .null, []) := by decide +kernel
theorem hk_159_14 : ax_look 159 14 = some (.invokevirtual 96, (132, 1, 9), .null, [7038, 29]) := by decide +kernel
theorem hk_159_17 : ax_look 159 17 = some (.ifCond .le 7, (0, 0, 0), .null, []) := by decide +kernel
theorem hk_159_20 : ax_look 159 20 = some (.iconst 1, (0, 0, 0), .null, []) := by decide +kernel
theorem hk_159_21 : ax_look 159 21 = some (.goto 4, (0, 0, 0), .null, []) := by decide +kernel
theorem hk_159_24 : ax_look 159 24 = some (.iconst 0, (0, 0, 0), .null, []) := by decide +kernel
theorem hk_159_25 : ax_look 159 25 = some (.ireturn, (0, 0, 0), .null, []) := by decide +kernel
theorem hk_159_26 : ax_look 159 26 = some (.iconst 1, (0, 0, 0), .null, []) := by decide +kernel
theorem hk_159_27 : ax_look 159 27 = some (.istore_n 1, (0, 0, 0), .null, []) := by decide +kernel
theorem hk_159_28 : ax_look 159 28 = some (.aload_n 0, (0, 0, 0), .null, []) := by decide +kernel
theorem hk_159_29 : ax_look 159 29 = some (.invokevirtual 156, (154, 0, 9), .null, [7083, 37]) := by decide +kernel
theorem hk_159_32 : ax_look 159 32 = some (.ifCond .eq 13, (0, 0, 0), .null, []) := by decide +kernel
theorem hk_159_35 : ax_look 159 35 = some (.aload_n 0, (0, 0, 0), .null, []) := by decide +kernel
theorem hk_159_36 : ax_look 159 36 = some (.iconst 0, (0, 0, 0), .null, []) := by decide +kernel
theorem hk_159_37 : ax_look 159 37 = some (.invokevirtual 159, (153, 1, 9), .null, [7087, 38]) := by decide +kernel
theorem hk_159_40 : ax_look 159 40 = some (.aload_n 0, (0, 0, 0), .null, []) := by decide +kernel
theorem hk_159_41 : ax_look 159 41 = some (.invokevirtual 179, (158, 0, 9), .null, [7133, 48]) := by decide +kernel
theorem hk_159_44 : ax_look 159 44 = some (.istore_n 1, (0, 0, 0), .null, []) := by decide +kernel
theorem hk_159_45 : ax_look 159 45 = some (.aload_n 0, (0, 0, 0), .null, []) := by decide +kernel
theorem hk_159_46 : ax_look 159 46 = some (.invokevirtual 166, (155, 0, 9), .null, [7125, 47]) := by decide +kernel
theorem hk_159_49 : ax_look 159 49 = some (.ifCond .eq 15, (0, 0, 0), .null, []) := by decide +kernel
theorem hk_159_52 : ax_look 159 52 = some (.aload_n 0, (0, 0, 0), .null, []) := by decide +kernel
theorem hk_159_53 : ax_look 159 53 = some (.iconst 1, (0, 0, 0), .null, []) := by decide +kernel
theorem hk_159_54 : ax_look 159 54 = some (.invokevirtual 159, (153, 1, 9), .null, [7087, 38]) := by decide +kernel
theorem hk_159_57 : ax_look 159 57 = some (.iload_n 1, (0, 0, 0), .null, []) := by decide +kernel
theorem hk_159_58 : ax_look 159 58 = some (.aload_n 0, (0, 0, 0), .null, []) := by decide +kernel
theorem hk_159_59 : ax_look 159 59 = some (.invokevirtual 179, (158, 0, 9), .null, [7133, 48]) := by decide +kernel
theorem hk_159_62 : ax_look 159 62 = some (.iand, (0, 0, 0), .null, []) := by decide +kernel
theorem hk_159_63 : ax_look 159 63 = some (.istore_n 1, (0, 0, 0), .null, []) := by decide +kernel
theorem hk_159_64 : ax_look 159 64 = some (.iload_n 1, (0, 0, 0), .null, []) := by decide +kernel
theorem hk_159_65 : ax_look 159 65 = some (.ireturn, (0, 0, 0), .null, []) := by decide +kernel
theorem hn_160 : (ax_mm 160).2.2.1 = 1 := by decide +kernel
theorem hr_160 : (ax_mm 160).2.2.2.1 = (some .int) := by decide +kernel
theorem hk_160_0 : ax_look 160 0 = some (.aload_n 0, (0, 0, 0), .null, []) := by decide +kernel
theorem hk_160_1 : ax_look 160 1 = some (.iconst 0, (0, 0, 0), .null, []) := by decide +kernel
theorem hk_160_2 : ax_look 160 2 = some (.putfield 61, (9, 0, 0), .null, [6176]) := by decide +kernel
theorem hk_160_5 : ax_look 160 5 = some (.aload_n 0, (0, 0, 0), .null, []) := by decide +kernel
theorem hk_160_6 : ax_look 160 6 = some (.getfield 23, (9, 11, 0), .null, [6187]) := by decide +kernel
theorem hk_160_9 : ax_look 160 9 = some (.ireturn, (0, 0, 0), .null, []) := by decide +kernel
theorem hn_221 : (ax_mm 221).2.2.1 = 3 := by decide +kernel
theorem hr_221 : (ax_mm 221).2.2.2.1 = (some .int) := by decide +kernel
theorem hk_221_0 : ax_look 221 0 = some (.aload_n 1, (0, 0, 0), .null, []) := by decide +kernel
theorem hk_221_1 : ax_look 221 1 = some (.iconst 0, (0, 0, 0), .null, []) := by decide +kernel
theorem hk_221_2 : ax_look 221 2 = some (.aload_n 0, (0, 0, 0), .null, []) := by decide +kernel
theorem hk_221_3 : ax_look 221 3 = some (.invokevirtual 21, (72, 0, 8), .null, [2227, 2229]) := by decide +kernel
theorem hk_221_6 : ax_look 221 6 = some (.i2l, (0, 0, 0), .null, []) := by decide +kernel
theorem hk_221_7 : ax_look 221 7 = some (.lastore, (0, 0, 0), .null, []) := by decide +kernel
theorem hk_221_8 : ax_look 221 8 = some (.goto 9, (0, 0, 0), .null, []) := by decide +kernel
theorem hk_221_11 : ax_look 221 11 = some (.astore_n 2, (0, 0, 0), .null, []) := by decide +kernel
theorem hk_221_12 : ax_look 221 12 = some (.iconst 1, (0, 0, 0), .null, []) := by decide +kernel
theorem hk_221_13 : ax_look 221 13 = some (.ireturn, (0, 0, 0), .null, []) := by decide +kernel
theorem hk_221_14 : ax_look 221 14 = some (.astore_n 2, (0, 0, 0), .null, []) := by decide +kernel
theorem hk_221_15 : ax_look 221 15 = some (.iconst 2, (0, 0, 0), .null, []) := by decide +kernel
theorem hk_221_16 : ax_look 221 16 = some (.ireturn, (0, 0, 0), .null, []) := by decide +kernel
theorem hk_221_17 : ax_look 221 17 = some (.iconst 0, (0, 0, 0), .null, []) := by decide +kernel
theorem hk_221_18 : ax_look 221 18 = some (.ireturn, (0, 0, 0), .null, []) := by decide +kernel
theorem hn_222 : (ax_mm 222).2.2.1 = 3 := by decide +kernel
theorem hr_222 : (ax_mm 222).2.2.2.1 = (some .int) := by decide +kernel
theorem hk_222_0 : ax_look 222 0 = some (.aload_n 1, (0, 0, 0), .null, []) := by decide +kernel
theorem hk_222_1 : ax_look 222 1 = some (.iconst 0, (0, 0, 0), .null, []) := by decide +kernel
theorem hk_222_2 : ax_look 222 2 = some (.aload_n 0, (0, 0, 0), .null, []) := by decide +kernel
theorem hk_222_3 : ax_look 222 3 = some (.invokevirtual 25, (73, 0, 8), .null, [3149, 3151]) := by decide +kernel
theorem hk_222_6 : ax_look 222 6 = some (.ifCond .eq 7, (0, 0, 0), .null, []) := by decide +kernel
theorem hk_222_9 : ax_look 222 9 = some (.lconst 1, (0, 0, 0), .null, []) := by decide +kernel
theorem hk_222_10 : ax_look 222 10 = some (.goto 4, (0, 0, 0), .null, []) := by decide +kernel
theorem hk_222_13 : ax_look 222 13 = some (.lconst 0, (0, 0, 0), .null, []) := by decide +kernel
theorem hk_222_14 : ax_look 222 14 = some (.lastore, (0, 0, 0), .null, []) := by decide +kernel
theorem hk_222_15 : ax_look 222 15 = some (.goto 6, (0, 0, 0), .null, []) := by decide +kernel
theorem hk_222_18 : ax_look 222 18 = some (.astore_n 2, (0, 0, 0), .null, []) := by decide +kernel
theorem hk_222_19 : ax_look 222 19 = some (.iconst 1, (0, 0, 0), .null, []) := by decide +kernel
theorem hk_222_20 : ax_look 222 20 = some (.ireturn, (0, 0, 0), .null, []) := by decide +kernel
theorem hk_222_21 : ax_look 222 21 = some (.iconst 0, (0, 0, 0), .null, []) := by decide +kernel
theorem hk_222_22 : ax_look 222 22 = some (.ireturn, (0, 0, 0), .null, []) := by decide +kernel
theorem hn_70 : (ax_mm 70).2.2.1 = 6 := by decide +kernel
theorem hr_70 : (ax_mm 70).2.2.2.1 = (some .int) := by decide +kernel
theorem hk_70_0 : ax_look 70 0 = some (.aload_n 0, (0, 0, 0), .null, []) := by decide +kernel
theorem hk_70_1 : ax_look 70 1 = some (.getfield 10, (8, 0, 0), .null, [1228]) := by decide +kernel
theorem hk_70_4 : ax_look 70 4 = some (.getfield 105, (7, 1, 0), .null, [1050]) := by decide +kernel
theorem hk_70_7 : ax_look 70 7 = some (.bipush 20, (0, 0, 0), .null, []) := by decide +kernel
theorem hk_70_9 : ax_look 70 9 = some (.iadd, (0, 0, 0), .null, []) := by decide +kernel
theorem hk_70_10 : ax_look 70 10 = some (.sipush 200, (0, 0, 0), .null, []) := by decide +kernel
theorem hk_70_13 : ax_look 70 13 = some (.if_icmp .le 13, (0, 0, 0), .null, []) := by decide +kernel
theorem hk_70_16 : ax_look 70 16 = some (.new 108, (800, 0, 0), .null, []) := by decide +kernel
theorem hk_70_19 : ax_look 70 19 = some (.dup, (0, 0, 0), .null, []) := by decide +kernel
theorem hk_70_20 : ax_look 70 20 = some (.ldc 110, (900, 0, 0), .null, []) := by decide +kernel
theorem hk_70_22 : ax_look 70 22 = some (.invokespecial 112, (900, 0, 0), .null, []) := by decide +kernel
theorem hk_70_25 : ax_look 70 25 = some (.athrow, (0, 0, 0), .null, []) := by decide +kernel
theorem hk_70_26 : ax_look 70 26 = some (.aload_n 0, (0, 0, 0), .null, []) := by decide +kernel
theorem hk_70_27 : ax_look 70 27 = some (.getfield 10, (8, 0, 0), .null, [1228]) := by decide +kernel
theorem hk_70_30 : ax_look 70 30 = some (.iload_n 1, (0, 0, 0), .null, []) := by decide +kernel
theorem hk_70_31 : ax_look 70 31 = some (.invokevirtual 115, (67, 1, 7), .null, [2196, 2198]) := by decide +kernel
theorem hk_70_34 : ax_look 70 34 = some (.aload_n 0, (0, 0, 0), .null, []) := by decide +kernel
theorem hk_70_35 : ax_look 70 35 = some (.getfield 10, (8, 0, 0), .null, [1228]) := by decide +kernel
theorem hk_70_38 : ax_look 70 38 = some (.iload_n 2, (0, 0, 0), .null, []) := by decide +kernel
theorem hk_70_39 : ax_look 70 39 = some (.invokevirtual 115, (67, 1, 7), .null, [2196, 2198]) := by decide +kernel
theorem hk_70_42 : ax_look 70 42 = some (.aload_n 0, (0, 0, 0), .null, []) := by decide +kernel
theorem hk_70_43 : ax_look 70 43 = some (.getfield 10, (8, 0, 0), .null, [1228]) := by decide +kernel
theorem hk_70_46 : ax_look 70 46 = some (.iload_n 3, (0, 0, 0), .null, []) := by decide +kernel
theorem hk_70_47 : ax_look 70 47 = some (.invokevirtual 115, (67, 1, 7), .null, [2196, 2198]) := by decide +kernel
theorem hk_70_50 : ax_look 70 50 = some (.aload_n 0, (0, 0, 0), .null, []) := by decide +kernel
theorem hk_70_51 : ax_look 70 51 = some (.getfield 10, (8, 0, 0), .null, [1228]) := by decide +kernel
theorem hk_70_54 : ax_look 70 54 = some (.iload 4, (0, 0, 0), .null, []) := by decide +kernel
theorem hk_70_56 : ax_look 70 56 = some (.invokevirtual 115, (67, 1, 7), .null, [2196, 2198]) := by decide +kernel
theorem hk_70_59 : ax_look 70 59 = some (.aload_n 0, (0, 0, 0), .null, []) := by decide +kernel
theorem hk_70_60 : ax_look 70 60 = some (.getfield 10, (8, 0, 0), .null, [1228]) := by decide +kernel
theorem hk_70_63 : ax_look 70 63 = some (.iload 5, (0, 0, 0), .null, []) := by decide +kernel
theorem hk_70_65 : ax_look 70 65 = some (.invokevirtual 115, (67, 1, 7), .null, [2196, 2198]) := by decide +kernel
theorem hk_70_68 : ax_look 70 68 = some (.aload_n 0, (0, 0, 0), .null, []) := by decide +kernel
theorem hk_70_69 : ax_look 70 69 = some (.getfield 10, (8, 0, 0), .null, [1228]) := by decide +kernel
theorem hk_70_72 : ax_look 70 72 = some (.getfield 105, (7, 1, 0), .null, [1050]) := by decide +kernel
theorem hk_70_75 : ax_look 70 75 = some (.ireturn, (0, 0, 0), .null, []) := by decide +kernel
theorem hn_71 : (ax_mm 71).2.2.1 = 2 := by decide +kernel
theorem hr_71 : (ax_mm 71).2.2.2.1 = (some .int) := by decide +kernel
theorem hk_71_0 : ax_look 71 0 = some (.iload_n 1, (0, 0, 0), .null, []) := by decide +kernel
theorem hk_71_1 : ax_look 71 1 = some (.ifCond .lt 14, (0, 0, 0), .null, []) := by decide +kernel
theorem hk_71_4 : ax_look 71 4 = some (.iload_n 1, (0, 0, 0), .null, []) := by decide +kernel
theorem hk_71_5 : ax_look 71 5 = some (.aload_n 0, (0, 0, 0), .null, []) := by decide +kernel
theorem hk_71_6 : ax_look 71 6 = some (.getfield 10, (8, 0, 0), .null, [1228]) := by decide +kernel
theorem hk_71_9 : ax_look 71 9 = some (.getfield 105, (7, 1, 0), .null, [1050]) := by decide +kernel
theorem hk_71_12 : ax_look 71 12 = some (.if_icmp .le 13, (0, 0, 0), .null, []) := by decide +kernel
theorem hk_71_15 : ax_look 71 15 = some (.new 119, (801, 0, 0), .null, []) := by decide +kernel
theorem hk_71_18 : ax_look 71 18 = some (.dup, (0, 0, 0), .null, []) := by decide +kernel
theorem hk_71_19 : ax_look 71 19 = some (.ldc 121, (900, 0, 0), .null, []) := by decide +kernel
theorem hk_71_21 : ax_look 71 21 = some (.invokespecial 123, (900, 0, 0), .null, []) := by decide +kernel
theorem hk_71_24 : ax_look 71 24 = some (.athrow, (0, 0, 0), .null, []) := by decide +kernel
theorem hk_71_25 : ax_look 71 25 = some (.aload_n 0, (0, 0, 0), .null, []) := by decide +kernel
theorem hk_71_26 : ax_look 71 26 = some (.getfield 10, (8, 0, 0), .null, [1228]) := by decide +kernel
theorem hk_71_29 : ax_look 71 29 = some (.iload_n 1, (0, 0, 0), .null, []) := by decide +kernel
theorem hk_71_30 : ax_look 71 30 = some (.putfield 105, (7, 1, 0), .null, [1050]) := by decide +kernel
theorem hk_71_33 : ax_look 71 33 = some (.iload_n 1, (0, 0, 0), .null, []) := by decide +kernel
theorem hk_71_34 : ax_look 71 34 = some (.ireturn, (0, 0, 0), .null, []) := by decide +kernel
theorem hn_143 : (ax_mm 143).2.2.1 = 12 := by decide +kernel
theorem hr_143 : (ax_mm 143).2.2.2.1 = (some .int) := by decide +kernel
theorem hk_143_0 : ax_look 143 0 = some (.aload_n 0, (0, 0, 0), .null, []) := by decide +kernel
theorem hk_143_1 : ax_look 143 1 = some (.iconst 0, (0, 0, 0), .null, []) := by decide +kernel
theorem hk_143_2 : ax_look 143 2 = some (.putfield 61, (9, 0, 0), .null, [6176]) := by decide +kernel
theorem hk_143_5 : ax_look 143 5 = some (.aload_n 0, (0, 0, 0), .null, []) := by decide +kernel
theorem hk_143_6 : ax_look 143 6 = some (.getfield 93, (9, 7, 0), .null, [6183]) := by decide +kernel
theorem hk_143_9 : ax_look 143 9 = some (.bipush 20, (0, 0, 0), .null, []) := by decide +kernel
theorem hk_143_11 : ax_look 143 11 = some (.iadd, (0, 0, 0), .null, []) := by decide +kernel
theorem hk_143_12 : ax_look 143 12 = some (.sipush 200, (0, 0, 0), .null, []) := by decide +kernel
theorem hk_143_15 : ax_look 143 15 = some (.if_icmp .le 9, (0, 0, 0), .null, []) := by decide +kernel
theorem hk_143_18 : ax_look 143 18 = some (.aload_n 0, (0, 0, 0), .null, []) := by decide +kernel
theorem hk_143_19 : ax_look 143 19 = some (.iconst 1, (0, 0, 0), .null, []) := by decide +kernel
theorem hk_143_20 : ax_look 143 20 = some (.invokevirtual 96, (132, 1, 9), .null, [7038, 29]) := by decide +kernel
theorem hk_143_23 : ax_look 143 23 = some (.ireturn, (0, 0, 0), .null, []) := by decide +kernel
theorem hk_143_24 : ax_look 143 24 = some (.iconst 5, (0, 0, 0), .null, []) := by decide +kernel
theorem hk_143_25 : ax_look 143 25 = some (.newarray .int, (0, 0, 0), .null, [1056]) := by decide +kernel
theorem hk_143_27 : ax_look 143 27 = some (.dup, (0, 0, 0), .null, []) := by decide +kernel
theorem hk_143_28 : ax_look 143 28 = some (.iconst 0, (0, 0, 0), .null, []) := by decide +kernel
theorem hk_143_29 : ax_look 143 29 = some (.iload_n 1, (0, 0, 0), .null, []) := by decide +kernel
theorem hk_143_30 : ax_look 143 30 = some (.iastore, (0, 0, 0), .null, []) := by decide +kernel
theorem hk_143_31 : ax_look 143 31 = some (.dup, (0, 0, 0), .null, []) := by decide +kernel
theorem hk_143_32 : ax_look 143 32 = some (.iconst 1, (0, 0, 0), .null, []) := by decide +kernel
theorem hk_143_33 : ax_look 143 33 = some (.iload_n 2, (0, 0, 0), .null, []) := by decide +kernel
theorem hk_143_34 : ax_look 143 34 = some (.iastore, (0, 0, 0), .null, []) := by decide +kernel
theorem hk_143_35 : ax_look 143 35 = some (.dup, (0, 0, 0), .null, []) := by decide +kernel
theorem hk_143_36 : ax_look 143 36 = some (.iconst 2, (0, 0, 0), .null, []) := by decide +kernel
theorem hk_143_37 : ax_look 143 37 = some (.iload_n 3, (0, 0, 0), .null, []) := by decide +kernel
theorem hk_143_38 : ax_look 143 38 = some (.iastore, (0, 0, 0), .null, []) := by decide +kernel
theorem hk_143_39 : ax_look 143 39 = some (.dup, (0, 0, 0), .null, []) := by decide +kernel
theorem hk_143_40 : ax_look 143 40 = some (.iconst 3, (0, 0, 0), .null, []) := by decide +kernel
theorem hk_143_41 : ax_look 143 41 = some (.iload 4, (0, 0, 0), .null, []) := by decide +kernel
theorem hk_143_43 : ax_look 143 43 = some (.iastore, (0, 0, 0), .null, []) := by decide +kernel
theorem hk_143_44 : ax_look 143 44 = some (.dup, (0, 0, 0), .null, []) := by decide +kernel
theorem hk_143_45 : ax_look 143 45 = some (.iconst 4, (0, 0, 0), .null, []) := by decide +kernel
theorem hk_143_46 : ax_look 143 46 = some (.iload 5, (0, 0, 0), .null, []) := by decide +kernel
theorem hk_143_48 : ax_look 143 48 = some (.iastore, (0, 0, 0), .null, []) := by decide +kernel
theorem hk_143_49 : ax_look 143 49 = some (.astore 6, (0, 0, 0), .null, []) := by decide +kernel
theorem hk_143_51 : ax_look 143 51 = some (.aload 6, (0, 0, 0), .null, []) := by decide +kernel
theorem hk_143_53 : ax_look 143 53 = some (.astore 7, (0, 0, 0), .null, []) := by decide +kernel
theorem hk_143_55 : ax_look 143 55 = some (.aload 7, (0, 0, 0), .null, []) := by decide +kernel
theorem hk_143_57 : ax_look 143 57 = some (.arraylength, (0, 0, 0), .null, []) := by decide +kernel
theorem hk_143_58 : ax_look 143 58 = some (.istore 8, (0, 0, 0), .null, []) := by decide +kernel
theorem hk_143_60 : ax_look 143 60 = some (.iconst 0, (0, 0, 0), .null, []) := by decide +kernel
theorem hk_143_61 : ax_look 143 61 = some (.istore 9, (0, 0, 0), .null, []) := by decide +kernel
theorem hk_143_63 : ax_look 143 63 = some (.iload 9, (0, 0, 0), .null, []) := by decide +kernel
theorem hk_143_65 : ax_look 143 65 = some (.iload 8, (0, 0, 0), .null, []) := by decide +kernel
theorem hk_143_67 : ax_look 143 67 = some (.if_icmp .ge 59, (0, 0, 0), .null, []) := by decide +kernel
theorem hk_143_70 : ax_look 143 70 = some (.aload 7, (0, 0, 0), .null, []) := by decide +kernel
theorem hk_143_72 : ax_look 143 72 = some (.iload 9, (0, 0, 0), .null, []) := by decide +kernel
theorem hk_143_74 : ax_look 143 74 = some (.iaload, (0, 0, 0), .null, []) := by decide +kernel
theorem hk_143_75 : ax_look 143 75 = some (.istore 10, (0, 0, 0), .null, []) := by decide +kernel
theorem hk_143_77 : ax_look 143 77 = some (.bipush 24, (0, 0, 0), .null, []) := by decide +kernel
theorem hk_143_79 : ax_look 143 79 = some (.istore 11, (0, 0, 0), .null, []) := by decide +kernel
theorem hk_143_81 : ax_look 143 81 = some (.iload 11, (0, 0, 0), .null, []) := by decide +kernel
theorem hk_143_83 : ax_look 143 83 = some (.ifCond .lt 37, (0, 0, 0), .null, []) := by decide +kernel
theorem hk_143_86 : ax_look 143 86 = some (.aload_n 0, (0, 0, 0), .null, []) := by decide +kernel
theorem hk_143_87 : ax_look 143 87 = some (.getfield 19, (9, 6, 0), .null, [6182]) := by decide +kernel
theorem hk_143_90 : ax_look 143 90 = some (.aload_n 0, (0, 0, 0), .null, []) := by decide +kernel
theorem hk_143_91 : ax_look 143 91 = some (.getfield 93, (9, 7, 0), .null, [6183]) := by decide +kernel
theorem hk_143_94 : ax_look 143 94 = some (.iload 10, (0, 0, 0), .null, []) := by decide +kernel
theorem hk_143_96 : ax_look 143 96 = some (.iload 11, (0, 0, 0), .null, []) := by decide +kernel
theorem hk_143_98 : ax_look 143 98 = some (.ishr, (0, 0, 0), .null, []) := by decide +kernel
theorem hk_143_99 : ax_look 143 99 = some (.sipush 255, (0, 0, 0), .null, []) := by decide +kernel
theorem hk_143_102 : ax_look 143 102 = some (.iand, (0, 0, 0), .null, []) := by decide +kernel
theorem hk_143_103 : ax_look 143 103 = some (.iastore, (0, 0, 0), .null, []) := by decide +kernel
theorem hk_143_104 : ax_look 143 104 = some (.aload_n 0, (0, 0, 0), .null, []) := by decide +kernel
theorem hk_143_105 : ax_look 143 105 = some (.dup, (0, 0, 0), .null, []) := by decide +kernel
theorem hk_143_106 : ax_look 143 106 = some (.getfield 93, (9, 7, 0), .null, [6183]) := by decide +kernel
theorem hk_143_109 : ax_look 143 109 = some (.iconst 1, (0, 0, 0), .null, []) := by decide +kernel
theorem hk_143_110 : ax_look 143 110 = some (.iadd, (0, 0, 0), .null, []) := by decide +kernel
theorem hk_143_111 : ax_look 143 111 = some (.putfield 93, (9, 7, 0), .null, [6183]) := by decide +kernel
theorem hk_143_114 : ax_look 143 114 = some (.iinc 11 (-8), (0, 0, 0), .null, []) := by decide +kernel
theorem hk_143_117 : ax_look 143 117 = some (.goto (-36), (0, 0, 0), .null, []) := by decide +kernel
theorem hk_143_120 : ax_look 143 120 = some (.iinc 9 1, (0, 0, 0), .null, []) := by decide +kernel
theorem hk_143_123 : ax_look 143 123 = some (.goto (-60), (0, 0, 0), .null, []) := by decide +kernel
theorem hk_143_126 : ax_look 143 126 = some (.aload_n 0, (0, 0, 0), .null, []) := by decide +kernel
theorem hk_143_127 : ax_look 143 127 = some (.getfield 93, (9, 7, 0), .null, [6183]) := by decide +kernel
theorem hk_143_130 : ax_look 143 130 = some (.ireturn, (0, 0, 0), .null, []) := by decide +kernel
theorem hn_144 : (ax_mm 144).2.2.1 = 2 := by decide +kernel
theorem hr_144 : (ax_mm 144).2.2.2.1 = (some .int) := by decide +kernel
theorem hk_144_0 : ax_look 144 0 = some (.aload_n 0, (0, 0, 0), .null, []) := by decide +kernel
theorem hk_144_1 : ax_look 144 1 = some (.iconst 0, (0, 0, 0), .null, []) := by decide +kernel
theorem hk_144_2 : ax_look 144 2 = some (.putfield 61, (9, 0, 0), .null, [6176]) := by decide +kernel
theorem hk_144_5 : ax_look 144 5 = some (.iload_n 1, (0, 0, 0), .null, []) := by decide +kernel
theorem hk_144_6 : ax_look 144 6 = some (.ifCond .lt 11, (0, 0, 0), .null, []) := by decide +kernel
theorem hk_144_9 : ax_look 144 9 = some (.iload_n 1, (0, 0, 0), .null, []) := by decide +kernel
theorem hk_144_10 : ax_look 144 10 = some (.aload_n 0, (0, 0, 0), .null, []) := by decide +kernel
theorem hk_144_11 : ax_look 144 11 = some (.getfield 93, (9, 7, 0), .null, [6183]) := by decide +kernel
theorem hk_144_14 : ax_look 144 14 = some (.if_icmp .le 9, (0, 0, 0), .null, []) := by decide +kernel
theorem hk_144_17 : ax_look 144 17 = some (.aload_n 0, (0, 0, 0), .null, []) := by decide +kernel
theorem hk_144_18 : ax_look 144 18 = some (.iconst 1, (0, 0, 0), .null, []) := by decide +kernel
theorem hk_144_19 : ax_look 144 19 = some (.invokevirtual 96, (132, 1, 9), .null, [7038, 29]) := by decide +kernel
theorem hk_144_22 : ax_look 144 22 = some (.ireturn, (0, 0, 0), .null, []) := by decide +kernel
theorem hk_144_23 : ax_look 144 23 = some (.aload_n 0, (0, 0, 0), .null, []) := by decide +kernel
theorem hk_144_24 : ax_look 144 24 = some (.iload_n 1, (0, 0, 0), .null, []) := by decide +kernel
theorem hk_144_25 : ax_look 144 25 = some (.putfield 93, (9, 7, 0), .null, [6183]) := by decide +kernel
theorem hk_144_28 : ax_look 144 28 = some (.iload_n 1, (0, 0, 0), .null, []) := by decide +kernel
theorem hk_144_29 : ax_look 144 29 = some (.ireturn, (0, 0, 0), .null, []) := by decide +kernel
theorem hn_219 : (ax_mm 219).2.2.1 = 8 := by decide +kernel
theorem hr_219 : (ax_mm 219).2.2.2.1 = (some .int) := by decide +kernel
theorem hk_219_0 : ax_look 219 0 = some (.aload 6, (0, 0, 0), .null, []) := by decide +kernel
theorem hk_219_2 : ax_look 219 2 = some (.iconst 0, (0, 0, 0), .null, []) := by decide +kernel
theorem hk_219_3 : ax_look 219 3 = some (.aload_n 0, (0, 0, 0), .null, []) := by decide +kernel
theorem hk_219_4 : ax_look 219 4 = some (.iload_n 1, (0, 0, 0), .null, []) := by decide +kernel
theorem hk_219_5 : ax_look 219 5 = some (.iload_n 2, (0, 0, 0), .null, []) := by decide +kernel
theorem hk_219_6 : ax_look 219 6 = some (.iload_n 3, (0, 0, 0), .null, []) := by decide +kernel
theorem hk_219_7 : ax_look 219 7 = some (.iload 4, (0, 0, 0), .null, []) := by decide +kernel
theorem hk_219_9 : ax_look 219 9 = some (.iload 5, (0, 0, 0), .null, []) := by decide +kernel
theorem hk_219_11 : ax_look 219 11 = some (.invokevirtual 7, (70, 5, 8), .null, [2121, 2123]) := by decide +kernel
theorem hk_219_14 : ax_look 219 14 = some (.i2l, (0, 0, 0), .null, []) := by decide +kernel
theorem hk_219_15 : ax_look 219 15 = some (.lastore, (0, 0, 0), .null, []) := by decide +kernel
theorem hk_219_16 : ax_look 219 16 = some (.goto 7, (0, 0, 0), .null, []) := by decide +kernel
theorem hk_219_19 : ax_look 219 19 = some (.astore 7, (0, 0, 0), .null, []) := by decide +kernel
theorem hk_219_21 : ax_look 219 21 = some (.iconst 1, (0, 0, 0), .null, []) := by decide +kernel
theorem hk_219_22 : ax_look 219 22 = some (.ireturn, (0, 0, 0), .null, []) := by decide +kernel
theorem hk_219_23 : ax_look 219 23 = some (.iconst 0, (0, 0, 0), .null, []) := by decide +kernel
theorem hk_219_24 : ax_look 219 24 = some (.ireturn, (0, 0, 0), .null, []) := by decide +kernel
theorem hn_220 : (ax_mm 220).2.2.1 = 4 := by decide +kernel
theorem hr_220 : (ax_mm 220).2.2.2.1 = (some .int) := by decide +kernel
theorem hk_220_0 : ax_look 220 0 = some (.aload_n 2, (0, 0, 0), .null, []) := by decide +kernel
theorem hk_220_1 : ax_look 220 1 = some (.iconst 0, (0, 0, 0), .null, []) := by decide +kernel
theorem hk_220_2 : ax_look 220 2 = some (.aload_n 0, (0, 0, 0), .null, []) := by decide +kernel
theorem hk_220_3 : ax_look 220 3 = some (.iload_n 1, (0, 0, 0), .null, []) := by decide +kernel
theorem hk_220_4 : ax_look 220 4 = some (.invokevirtual 15, (71, 1, 8), .null, [2204, 2206]) := by decide +kernel
theorem hk_220_7 : ax_look 220 7 = some (.i2l, (0, 0, 0), .null, []) := by decide +kernel
theorem hk_220_8 : ax_look 220 8 = some (.lastore, (0, 0, 0), .null, []) := by decide +kernel
theorem hk_220_9 : ax_look 220 9 = some (.goto 6, (0, 0, 0), .null, []) := by decide +kernel
theorem hk_220_12 : ax_look 220 12 = some (.astore_n 3, (0, 0, 0), .null, []) := by decide +kernel
theorem hk_220_13 : ax_look 220 13 = some (.iconst 1, (0, 0, 0), .null, []) := by decide +kernel
theorem hk_220_14 : ax_look 220 14 = some (.ireturn, (0, 0, 0), .null, []) := by decide +kernel
theorem hk_220_15 : ax_look 220 15 = some (.iconst 0, (0, 0, 0), .null, []) := by decide +kernel
theorem hk_220_16 : ax_look 220 16 = some (.ireturn, (0, 0, 0), .null, []) := by decide +kernel
theorem hy_t1_1 : ty_tt 1 1 = (0, 0, 0, 0, 200) := by decide +kernel
theorem hy_t1_0 : ty_tt 1 0 = (2, 2, 0, 0, 0) := by decide +kernel
theorem hy_t2_0 : ty_tt 2 0 = (0, 0, 0, 0, 255) := by decide +kernel
theorem hy_t3_2 : ty_tt 3 2 = (0, 0, 0, 0, 9) := by decide +kernel
theorem hy_t3_1 : ty_tt 3 1 = (0, 0, 0, 0, 201) := by decide +kernel
theorem hy_t3_0 : ty_tt 3 0 = (2, 1, 0, 0, 0) := by decide +kernel
theorem hy_t3_4 : ty_tt 3 4 = (0, 0, 0, (-2147483648), 2147483647) := by decide +kernel
theorem hy_t3_3 : ty_tt 3 3 = (0, 0, 0, 0, 201) := by decide +kernel
theorem hy_t3_5 : ty_tt 3 5 = (0, 0, 0, 0, 11) := by decide +kernel
theorem hy_t3_7 : ty_tt 3 7 = (0, 0, 0, (-2147483648), 2147483647) := by decide +kernel
theorem hy_t3_8 : ty_tt 3 8 = (0, 0, 0, (-2147483648), 2147483647) := by decide +kernel
theorem hy_t3_6 : ty_tt 3 6 = (2, 4, 0, 0, 0) := by decide +kernel
theorem hy_t4_0 : ty_tt 4 0 = (0, 0, 0, (-2147483648), 2147483647) := by decide +kernel
theorem hy_t181_7 : ty_tt 181 7 = (0, 0, 0, 0, 200) := by decide +kernel
theorem hy_t181_6 : ty_tt 181 6 = (2, 185, 0, 0, 0) := by decide +kernel
theorem hy_t185_0 : ty_tt 185 0 = (0, 0, 0, 0, 255) := by decide +kernel
theorem hy_t181_11 : ty_tt 181 11 = (0, 0, 0, (-1), 200) := by decide +kernel
theorem hy_t0_1 : ty_tt 0 1 = (2, 3, 0, 0, 0) := by decide +kernel
theorem hy_t0_2 : ty_tt 0 2 = (0, 0, 0, (-2147483648), 2147483647) := by decide +kernel
theorem hy_t0_0 : ty_tt 0 0 = (2, 1, 0, 0, 0) := by decide +kernel
theorem hy_t181_8 : ty_tt 181 8 = (0, 0, 0, 0, 200) := by decide +kernel
theorem hy_t181_9 : ty_tt 181 9 = (0, 0, 0, 0, 200) := by decide +kernel
theorem hy_t181_10 : ty_tt 181 10 = (0, 0, 0, (-2147483648), 2147483647) := by decide +kernel
theorem hy_t186_0 : ty_tt 186 0 = (1, 0, 0, (-30000000), 30000000) := by decide +kernel
theorem hy_t181_13 : ty_tt 181 13 = (2, 187, 0, 0, 0) := by decide +kernel
theorem hy_t181_14 : ty_tt 181 14 = (0, 0, 0, 0, 200) := by decide +kernel
theorem hy_t187_0 : ty_tt 187 0 = (0, 0, 0, 0, 23) := by decide +kernel
theorem hy_t181_12 : ty_tt 181 12 = (2, 186, 0, 0, 0) := by decide +kernel
theorem hy_t181_16 : ty_tt 181 16 = (1, 0, 0, (-30000000), 30000000) := by decide +kernel
theorem hy_t181_15 : ty_tt 181 15 = (0, 0, 0, (-2147483648), 2147483647) := by decide +kernel
theorem hy_t197_0 : ty_tt 197 0 = (1, 0, 0, (-9223372036854775808), 9223372036854775807) := by decide +kernel
section LPP
variable {l : Launch} {h : ax_H} {x y : Int32}
abbrev hy_c6 : ax_Cl := (RX6, TX6, 9, tyX6)
abbrev hy_c7 : ax_Cl := (RX7, TX7, 2, tyX7)
abbrev hy_c8 : ax_Cl := (RX8, TX8, 18, tyX8)
theorem hy_I.push (hH : hy_H 0 h) (hi : hy_I h) (gs : ax_H) : hy_I (h ++ gs) := by
  obtain ⟨e, q, he, q0, q1, k, bs, ml, n, B, hL, hn⟩ := hb_S.of hH hi.2.2.2.2
  have g9 : ∀ (p : Nat) c, h[p]? = some c → (h ++ gs)[p]? = some c := fun p c ec => by rw [List.getElem?_append_left (List.getElem?_eq_some_iff.mp ec).1]; exact ec
  exact (hb_fr.pu h gs).fI hH (e := e) (q := q) ⟨he, q0, q1, k, bs, ml, n, ⟨g9 _ _ B.1, g9 _ _ B.2.1, B.2.2⟩, hL, hn⟩ hi
/-- a store to what hy_I doesn't hang on -/
theorem hy_I.st {g : ax_H} {q : Nat} {v : Value} {j W : Nat} (hi : hy_I h) (F : ty_F W h g) (h31 : W.testBit 31 = false) (E : ∀ q' j', ty_fd g q' j' = if q' = q ∧ j' = j then some v else ty_fd h q' j') (hk : ty_IK.testBit (ty_ky q j) = false) : hy_I g := by
  refine hy_Ik h g (fun q' j' h1 h2 h3 => ?_) (F.2.2.2 h31) hi
  rw [E]
  rw [if_neg]
  rintro ⟨rfl, rfl⟩
  rw [hk] at h3
  cases h3
/-- the text -/
def t_B (h : ax_H) (p : Int) : Int := if 0 ≤ p ∧ p < hy_z h 1 1 then hy_z h 2 p.toNat else -1
def t_dig (c : Int) : Bool := decide (48 ≤ c) && decide (c ≤ 57)
def t_sp (B : Int → Int) : Nat → Int → Int
  | 0, p => p
  | n + 1, p => if B p = 32 then t_sp B n (p + 1) else p
def t_dg (B : Int → Int) : Nat → Int → Int
  | 0, p => p
  | n + 1, p => if t_dig (B p) = true then t_dg B n (p + 1) else p
/-- the symbol at s: its kind, and how long it is -/
def t_sy (c d : Int) : Int × Int := if c < 0 then (0, 0) else if c = 43 then (4, 1) else if c = 45 then (5, 1) else if c = 126 then (6, 1) else if c = 61 then (9, 1) else if c = 62 ∧ d = 61 then (7, 2) else if c = 60 ∧ d = 61 then (8, 2) else (1, 0)
/-- the token from p on: kind (as the class's; 10: a number too long), start, end -/
def t_nx (B : Int → Int) (p : Int) : Int × Int × Int :=
  if t_dig (B (t_sp B 201 p)) = true then (if t_dg B 201 (t_sp B 201 p) - t_sp B 201 p ≤ 6 then 2 else 10, t_sp B 201 p, t_dg B 201 (t_sp B 201 p))
  else if 97 ≤ B (t_sp B 201 p) ∧ B (t_sp B 201 p) ≤ 108 then (3, t_sp B 201 p, t_sp B 201 p + 1)
  else ((t_sy (B (t_sp B 201 p)) (B (t_sp B 201 p + 1))).1, t_sp B 201 p, t_sp B 201 p + (t_sy (B (t_sp B 201 p)) (B (t_sp B 201 p + 1))).2)
def t_ck (k : Int) : Int := if k = 10 then 1 else k
theorem t_B_F {g : ax_H} {W : Nat} (F : ty_F W h g) (b : W.testBit 19 = false ∧ W.testBit 20 = false) : t_B g = t_B h := by
  funext p
  unfold t_B
  rw [hy_zF F 1 (q := 1) (by decide) (by decide +kernel) (by rw [show ty_ky 1 1 = 19 from by decide +kernel]; exact b.1), hy_zA F (q := 2) (by decide +kernel) (by decide) (by decide +kernel) (by rw [show ty_ky 2 0 = 20 from by decide +kernel]; exact b.2)]
theorem t_B_lt (hH : hy_H 0 h) {p : Int} (hp : 200 ≤ p) : t_B h p = -1 := by
  obtain ⟨i, e1, e2, e3⟩ := hy_int hH (q := 1) (n := 2) (j := 1) (a := 0) (z := 200) (by decide) (by decide +kernel) (by decide) (by decide +kernel)
  have e4 := hy_zi e1
  unfold t_B
  rw [if_neg (by omega)]
theorem t_B_rg (hH : hy_H 0 h) (p : Int) : -1 ≤ t_B h p ∧ t_B h p ≤ 255 := by
  unfold t_B
  split
  · rename_i hp
    obtain ⟨i, e1, e2, e3⟩ := hy_int hH (q := 1) (n := 2) (j := 1) (a := 0) (z := 200) (by decide) (by decide +kernel) (by decide) (by decide +kernel)
    have e4 := hy_zi e1
    obtain ⟨b, f1, f2, f3⟩ := hy_int hH (q := 2) (n := 200) (j := p.toNat) (a := 0) (z := 255) (by decide) (by decide +kernel) (by omega) (by rw [ty_tt_ar (by decide +kernel)]; decide +kernel)
    rw [hy_zi f1]
    omega
  · omega
theorem lt_c1 (hH : hy_H 0 h) : ∃ vs, h[1]? = some (7, vs) := by
  obtain ⟨vs, e1, -⟩ := hy_cell hH (q := 1) (by decide)
  rw [show (ty_tab 1).1 = 7 from by decide +kernel] at e1
  exact ⟨vs, e1⟩
theorem lt_c3 (hH : hy_H 0 h) : ∃ vs, h[3]? = some (6, vs) := by
  obtain ⟨vs, e1, -⟩ := hy_cell hH (q := 3) (by decide)
  rw [show (ty_tab 3).1 = 6 from by decide +kernel] at e1
  exact ⟨vs, e1⟩
theorem lt_68 (hlst : l.stackTraces = false) (hH : hy_H 0 h) : AM ax_ns l (ax_mm 68) 0 ty_R (0) (0) [.ref 1, .int x] h (hq_int h (t_B h x.toInt)) := by
  refine AM.of (ax_mfacts (by decide +kernel : ax_has 68 = true)).2.2.2.2.2.2 hlst (by rw [hn_68]; exact Nat.le_of_ble_eq_true rfl) ?_
  show AR ax_ns l (ax_mm 68) 0 ty_R _ _ 0 [(0, .ref 1), (1, .int x)] [] h (0) (0)
  refine AR.s (pc' := 1) (lv' := [(0, .ref 1), (1, .int x)]) (st' := [.int x]) (h' := h) _ hn_68 hk_68_0 rfl ?_
  refine AR.zlt hk_68_1 (tgt := 21) (by decide) (fun p1 => ?_) (fun p2 => ?_)
  · refine AR.iconstT hk_68_21 (by decide) (fun z139 ez139 => ?_)
    show AR _ _ _ _ _ _ _ 22 [(0, .ref 1), (1, .int x)] [.int z139] h _ _
    exact AR.iret hk_68_22 hr_68 ⟨rfl, _, rfl, by unfold t_B; rw [if_neg (by omega)]; omega⟩
  · refine AR.s (pc' := 5) (lv' := [(0, .ref 1), (1, .int x)]) (st' := [.int x]) (h' := h) _ hn_68 hk_68_4 rfl ?_
    refine AR.s (pc' := 6) (lv' := [(0, .ref 1), (1, .int x)]) (st' := [.ref 1, .int x]) (h' := h) _ hn_68 hk_68_5 rfl ?_
    refine AR.gI hk_68_6 (by decide) hH (q := 1) (n := 2) (by decide) (by decide +kernel) (by decide +kernel) (by decide) hy_t1_1 (fun x140 dx140 lx140 ux140 => ?_)
    show AR _ _ _ _ _ _ _ 9 [(0, .ref 1), (1, .int x)] [.int x140, .int x] h _ _
    have sx140 := hy_zi dx140
    refine AR.jge hk_68_9 (tgt := 21) (by decide) (fun p3 => ?_) (fun p4 => ?_)
    · refine AR.iconstT hk_68_21 (by decide) (fun z141 ez141 => ?_)
      show AR _ _ _ _ _ _ _ 22 [(0, .ref 1), (1, .int x)] [.int z141] h _ _
      exact AR.iret hk_68_22 hr_68 ⟨rfl, _, rfl, by unfold t_B; rw [if_neg (by omega)]; omega⟩
    · refine AR.s (pc' := 13) (lv' := [(0, .ref 1), (1, .int x)]) (st' := [.ref 1]) (h' := h) _ hn_68 hk_68_12 rfl ?_
      refine AR.gR hk_68_13 (by decide) hH (q := 1) (n := 2) (by decide) (by decide +kernel) (by decide +kernel) (by decide) hy_t1_0 ?_
      show AR _ _ _ _ _ _ _ 16 [(0, .ref 1), (1, .int x)] [.ref 2] h _ _
      refine AR.s (pc' := 17) (lv' := [(0, .ref 1), (1, .int x)]) (st' := [.int x, .ref 2]) (h' := h) _ hn_68 hk_68_16 rfl ?_
      refine AR.iaI hk_68_17 hH (q := 2) (n := 200) (by decide) (by decide +kernel) (by decide +kernel) (by decide +kernel) hy_t2_0 (by omega) (by omega) (fun x142 dx142 lx142 ux142 => ?_)
      show AR _ _ _ _ _ _ _ 18 [(0, .ref 1), (1, .int x)] [.int x142] h _ _
      refine AR.gotoT hk_68_18 (tgt := 22) (by decide) ?_
      have xk : x.toNatClampNeg = x.toInt.toNat := rfl
      rw [xk] at dx142
      exact AR.iret hk_68_22 hr_68 ⟨rfl, _, rfl, by unfold t_B; rw [if_pos (by omega)]; exact (hy_zi dx142).symm⟩
theorem lt_65 (hlst : l.stackTraces = false)  : AM ax_ns l (ax_mm 65) 0 ty_R (0) (0) [.int x] h (fun res g => g = h ∧ ∃ z : Int32, res = .inl (some (.int z)) ∧ ((z.toInt = 1 ∧ t_dig x.toInt = true) ∨ (z.toInt = 0 ∧ t_dig x.toInt = false))) := by
  refine AM.of (ax_mfacts (by decide +kernel : ax_has 65 = true)).2.2.2.2.2.2 hlst (by rw [hn_65]; exact Nat.le_of_ble_eq_true rfl) ?_
  show AR ax_ns l (ax_mm 65) 0 ty_R _ _ 0 [(0, .int x)] [] h (0) (0)
  refine AR.s (pc' := 1) (lv' := [(0, .int x)]) (st' := [.int x]) (h' := h) _ hn_65 hk_65_0 rfl ?_
  refine AR.bipushT hk_65_1 (by decide) (fun z143 ez143 => ?_)
  show AR _ _ _ _ _ _ _ 3 [(0, .int x)] [.int z143, .int x] h _ _
  refine AR.jlt hk_65_3 (tgt := 16) (by decide) (fun p1 => ?_) (fun p2 => ?_)
  · refine AR.iconstT hk_65_16 (by decide) (fun z144 ez144 => ?_)
    show AR _ _ _ _ _ _ _ 17 [(0, .int x)] [.int z144] h _ _
    exact AR.zret hk_65_17 hr_65 (Or.inl (by omega)) ⟨rfl, _, rfl, Or.inr ⟨by omega, by unfold t_dig; rw [Bool.and_eq_false_iff]; simp only [decide_eq_false_iff_not]; omega⟩⟩
  · refine AR.s (pc' := 7) (lv' := [(0, .int x)]) (st' := [.int x]) (h' := h) _ hn_65 hk_65_6 rfl ?_
    refine AR.bipushT hk_65_7 (by decide) (fun z145 ez145 => ?_)
    show AR _ _ _ _ _ _ _ 9 [(0, .int x)] [.int z145, .int x] h _ _
    refine AR.jgt hk_65_9 (tgt := 16) (by decide) (fun p3 => ?_) (fun p4 => ?_)
    · refine AR.iconstT hk_65_16 (by decide) (fun z146 ez146 => ?_)
      show AR _ _ _ _ _ _ _ 17 [(0, .int x)] [.int z146] h _ _
      exact AR.zret hk_65_17 hr_65 (Or.inl (by omega)) ⟨rfl, _, rfl, Or.inr ⟨by omega, by unfold t_dig; rw [Bool.and_eq_false_iff]; simp only [decide_eq_false_iff_not]; omega⟩⟩
    · refine AR.iconstT hk_65_12 (by decide) (fun z147 ez147 => ?_)
      show AR _ _ _ _ _ _ _ 13 [(0, .int x)] [.int z147] h _ _
      refine AR.gotoT hk_65_13 (tgt := 17) (by decide) ?_
      exact AR.zret hk_65_17 hr_65 (Or.inr (by omega)) ⟨rfl, _, rfl, Or.inl ⟨by omega, by unfold t_dig; rw [Bool.and_eq_true]; simp only [decide_eq_true_eq]; omega⟩⟩
def hq_tk (h : ax_H) (t p : Int) : ax_Q := fun res g => hy_H 0 g ∧ ty_F 130023424 h g ∧ hy_I g ∧ res = .inl none ∧ hy_z g 3 1 = p ∧ hy_z g 3 2 = t ∧ hy_z g 3 3 = hy_z h 3 3
theorem lt_64 (hlst : l.stackTraces = false) (hH : hy_H 0 h) (hi : hy_I h) (x0 : 0 ≤ x.toInt) (x9 : x.toInt ≤ 9) (y0 : 0 ≤ y.toInt) (h0 : 0 ≤ hy_z h 3 1) (y2 : hy_z h 3 1 + y.toInt ≤ 201) : AM ax_ns l (ax_mm 64) 0 ty_R (0) (0) [.ref 3, .int x, .int y] h (hq_tk h x.toInt (hy_z h 3 1 + y.toInt)) := by
  refine AM.of (ax_mfacts (by decide +kernel : ax_has 64 = true)).2.2.2.2.2.2 hlst (by rw [hn_64]; exact Nat.le_of_ble_eq_true rfl) ?_
  show AR ax_ns l (ax_mm 64) 0 ty_R _ _ 0 [(0, .ref 3), (1, .int x), (2, .int y)] [] h (0) (0)
  have F : ty_F 130023424 h h := ty_F_refl _ _
  refine AR.s (pc' := 1) (lv' := [(0, .ref 3), (1, .int x), (2, .int y)]) (st' := [.ref 3]) (h' := h) _ hn_64 hk_64_0 rfl ?_
  refine AR.s (pc' := 2) (lv' := [(0, .ref 3), (1, .int x), (2, .int y)]) (st' := [.int x, .ref 3]) (h' := h) _ hn_64 hk_64_1 rfl ?_
  refine AR.pT hk_64_2 (by decide) hH F (q := 3) (by decide) (by decide +kernel) (show ax_cls[6]? = some hy_c6 from rfl) (by decide +kernel) (by decide) rfl (by rw [hy_t3_2]; exact ⟨_, rfl, by omega, by omega, Or.inl rfl⟩) (by decide +kernel) (by decide +kernel) ?_
  rintro g148 ⟨Hg148, Fg148, Gg148, Eg148⟩
  show AR _ _ _ _ _ _ _ 5 [(0, .ref 3), (1, .int x), (2, .int y)] [] g148 _ _
  have ig148 : hy_I g148 := hi.st Gg148 (by decide) Eg148 (by decide +kernel)
  have ug148_3_1 : hy_z g148 3 1 = hy_z h 3 1 := hy_ze (by rw [Eg148, if_neg (fun c => absurd c.2 (by decide))])
  have ug148_3_2 : hy_z g148 3 2 = x.toInt := hy_zi (i := x) (by rw [Eg148, if_pos ⟨rfl, rfl⟩])
  have ug148_3_3 : hy_z g148 3 3 = hy_z h 3 3 := hy_ze (by rw [Eg148, if_neg (fun c => absurd c.2 (by decide))])
  refine AR.s (pc' := 6) (lv' := [(0, .ref 3), (1, .int x), (2, .int y)]) (st' := [.ref 3]) (h' := g148) _ hn_64 hk_64_5 rfl ?_
  refine AR.s (pc' := 7) (lv' := [(0, .ref 3), (1, .int x), (2, .int y)]) (st' := [.ref 3, .ref 3]) (h' := g148) _ hn_64 hk_64_6 rfl ?_
  refine AR.gI hk_64_7 (by decide) Hg148 (q := 3) (n := 9) (by decide) (by decide +kernel) (by decide +kernel) (by decide) hy_t3_1 (fun x149 dx149 lx149 ux149 => ?_)
  show AR _ _ _ _ _ _ _ 10 [(0, .ref 3), (1, .int x), (2, .int y)] [.int x149, .ref 3] g148 _ _
  have sx149 := hy_zi dx149
  refine AR.s (pc' := 11) (lv' := [(0, .ref 3), (1, .int x), (2, .int y)]) (st' := [.int y, .int x149, .ref 3]) (h' := g148) _ hn_64 hk_64_10 rfl ?_
  refine AR.addT hk_64_11 (by omega) (by omega) (fun z150 ez150 => ?_)
  show AR _ _ _ _ _ _ _ 12 [(0, .ref 3), (1, .int x), (2, .int y)] [.int z150, .ref 3] g148 _ _
  refine AR.pT hk_64_12 (by decide) Hg148 Fg148 (q := 3) (by decide) (by decide +kernel) (show ax_cls[6]? = some hy_c6 from rfl) (by decide +kernel) (by decide) rfl (by rw [hy_t3_1]; exact ⟨_, rfl, by omega, by omega, Or.inl rfl⟩) (by decide +kernel) (by decide +kernel) ?_
  rintro g151 ⟨Hg151, Fg151, Gg151, Eg151⟩
  show AR _ _ _ _ _ _ _ 15 [(0, .ref 3), (1, .int x), (2, .int y)] [] g151 _ _
  have ig151 : hy_I g151 := ig148.st Gg151 (by decide) Eg151 (by decide +kernel)
  have ug151_3_1 : hy_z g151 3 1 = z150.toInt := hy_zi (i := z150) (by rw [Eg151, if_pos ⟨rfl, rfl⟩])
  have ug151_3_2 : hy_z g151 3 2 = hy_z g148 3 2 := hy_ze (by rw [Eg151, if_neg (fun c => absurd c.2 (by decide))])
  have ug151_3_3 : hy_z g151 3 3 = hy_z g148 3 3 := hy_ze (by rw [Eg151, if_neg (fun c => absurd c.2 (by decide))])
  exact AR.vret hk_64_15 hr_64 ⟨Hg151, Fg151, ig151, rfl, by omega, by omega, by omega⟩
theorem lt_63 (hlst : l.stackTraces = false) (hH : hy_H 0 h) (hi : hy_I h) (h0 : 0 ≤ hy_z h 3 1) (h2 : hy_z h 3 1 ≤ 200) (hx : x.toInt = t_B h (hy_z h 3 1)) : AM ax_ns l (ax_mm 63) 1 ty_R (0) (0) [.ref 3, .int x] h (hq_tk h (t_sy (t_B h (hy_z h 3 1)) (t_B h (hy_z h 3 1 + 1))).1 (hy_z h 3 1 + (t_sy (t_B h (hy_z h 3 1)) (t_B h (hy_z h 3 1 + 1))).2)) := by
  refine AM.of (ax_mfacts (by decide +kernel : ax_has 63 = true)).2.2.2.2.2.2 hlst (by rw [hn_63]; exact Nat.le_of_ble_eq_true rfl) ?_
  show AR ax_ns l (ax_mm 63) 1 ty_R _ _ 0 [(0, .ref 3), (1, .int x)] [] h (0) (0)
  have F : ty_F 130023424 h h := ty_F_refl _ _
  have hlt : 0 ≤ x.toInt → hy_z h 3 1 < 200 := fun e => by
    refine Int.not_le.mp (fun c => ?_)
    rw [t_B_lt hH c] at hx
    omega
  rw [← hx]
  show AR _ _ _ _ _ _ _ 0 [(0, .ref 3), (1, .int x)] [] h _ _
  refine AR.s (pc' := 1) (lv' := [(0, .ref 3), (1, .int x)]) (st' := [.ref 3]) (h' := h) _ hn_63 hk_63_0 rfl ?_
  refine AR.gR hk_63_1 (by decide) hH (q := 3) (n := 9) (by decide) (by decide +kernel) (by decide +kernel) (by decide) hy_t3_0 ?_
  show AR _ _ _ _ _ _ _ 4 [(0, .ref 3), (1, .int x)] [.ref 1] h _ _
  refine AR.s (pc' := 5) (lv' := [(0, .ref 3), (1, .int x)]) (st' := [.ref 3, .ref 1]) (h' := h) _ hn_63 hk_63_4 rfl ?_
  refine AR.gI hk_63_5 (by decide) hH (q := 3) (n := 9) (by decide) (by decide +kernel) (by decide +kernel) (by decide) hy_t3_1 (fun x152 dx152 lx152 ux152 => ?_)
  show AR _ _ _ _ _ _ _ 8 [(0, .ref 3), (1, .int x)] [.int x152, .ref 1] h _ _
  have sx152 := hy_zi dx152
  refine AR.iconstT hk_63_8 (by decide) (fun z153 ez153 => ?_)
  show AR _ _ _ _ _ _ _ 9 [(0, .ref 3), (1, .int x)] [.int z153, .int x152, .ref 1] h _ _
  refine AR.addT hk_63_9 (by omega) (by omega) (fun z154 ez154 => ?_)
  show AR _ _ _ _ _ _ _ 10 [(0, .ref 3), (1, .int x)] [.int z154, .ref 1] h _ _
  obtain ⟨vc158, cc158⟩ := lt_c1 hH
  refine AR.jr (r := 1) (as := [.int z154]) (rest := []) hk_63_10 (by decide) (by decide +kernel) (by decide) cc158 rfl rfl (Nat.le_of_ble_eq_true rfl) (lt_68 hlst hH) (by decide) (Nat.zero_le _) (Nat.zero_le _) ?_ (fun E h' q => by obtain ⟨-, x, e, -⟩ := q; cases e)
  rintro w156 g157 ⟨eg157, z155, e, ez155⟩
  cases e
  obtain rfl := eg157.symm
  show AR _ _ _ _ _ _ _ 13 [(0, .ref 3), (1, .int x)] [.int z155] h _ _
  have ed : t_B h (hy_z h 3 1 + 1) = z155.toInt := by rw [ez155]; congr 1; omega
  rw [ed]
  show AR _ _ _ _ _ _ _ 13 [(0, .ref 3), (1, .int x)] [.int z155] h _ _
  refine AR.bipushT hk_63_13 (by decide) (fun z159 ez159 => ?_)
  show AR _ _ _ _ _ _ _ 15 [(0, .ref 3), (1, .int x)] [.int z159, .int z155] h _ _
  refine AR.jne hk_63_15 (tgt := 22) (by decide) (fun p1 => ?_) (fun p2 => ?_)
  · refine AR.iconstT hk_63_22 (by decide) (fun z160 ez160 => ?_)
    show AR _ _ _ _ _ _ _ 23 [(0, .ref 3), (1, .int x)] [.int z160] h _ _
    refine AR.s (pc' := 24) (lv' := [(2, .int z160), (0, .ref 3), (1, .int x)]) (st' := []) (h' := h) _ hn_63 hk_63_23 rfl ?_
    refine AR.s (pc' := 25) (lv' := [(2, .int z160), (0, .ref 3), (1, .int x)]) (st' := [.int x]) (h' := h) _ hn_63 hk_63_24 rfl ?_
    refine AR.zge hk_63_25 (tgt := 37) (by decide) (fun n0 => ?_) (fun l0 => ?_)
    · refine AR.s (pc' := 38) (lv' := [(2, .int z160), (0, .ref 3), (1, .int x)]) (st' := [.int x]) (h' := h) _ hn_63 hk_63_37 rfl ?_
      refine AR.bipushT hk_63_38 (by decide) (fun z166 ez166 => ?_)
      show AR _ _ _ _ _ _ _ 40 [(2, .int z160), (0, .ref 3), (1, .int x)] [.int z166, .int x] h _ _
      refine AR.jne hk_63_40 (tgt := 52) (by decide) (fun n1 => ?_) (fun m1 => ?_)
      · refine AR.s (pc' := 53) (lv' := [(2, .int z160), (0, .ref 3), (1, .int x)]) (st' := [.int x]) (h' := h) _ hn_63 hk_63_52 rfl ?_
        refine AR.bipushT hk_63_53 (by decide) (fun z172 ez172 => ?_)
        show AR _ _ _ _ _ _ _ 55 [(2, .int z160), (0, .ref 3), (1, .int x)] [.int z172, .int x] h _ _
        refine AR.jne hk_63_55 (tgt := 67) (by decide) (fun n2 => ?_) (fun m2 => ?_)
        · refine AR.s (pc' := 68) (lv' := [(2, .int z160), (0, .ref 3), (1, .int x)]) (st' := [.int x]) (h' := h) _ hn_63 hk_63_67 rfl ?_
          refine AR.bipushT hk_63_68 (by decide) (fun z178 ez178 => ?_)
          show AR _ _ _ _ _ _ _ 70 [(2, .int z160), (0, .ref 3), (1, .int x)] [.int z178, .int x] h _ _
          refine AR.jne hk_63_70 (tgt := 83) (by decide) (fun n3 => ?_) (fun m3 => ?_)
          · refine AR.s (pc' := 84) (lv' := [(2, .int z160), (0, .ref 3), (1, .int x)]) (st' := [.int x]) (h' := h) _ hn_63 hk_63_83 rfl ?_
            refine AR.bipushT hk_63_84 (by decide) (fun z184 ez184 => ?_)
            show AR _ _ _ _ _ _ _ 86 [(2, .int z160), (0, .ref 3), (1, .int x)] [.int z184, .int x] h _ _
            refine AR.jne hk_63_86 (tgt := 99) (by decide) (fun n4 => ?_) (fun m4 => ?_)
            · refine AR.s (pc' := 100) (lv' := [(2, .int z160), (0, .ref 3), (1, .int x)]) (st' := [.int x]) (h' := h) _ hn_63 hk_63_99 rfl ?_
              refine AR.bipushT hk_63_100 (by decide) (fun z190 ez190 => ?_)
              show AR _ _ _ _ _ _ _ 102 [(2, .int z160), (0, .ref 3), (1, .int x)] [.int z190, .int x] h _ _
              refine AR.jne hk_63_102 (tgt := 119) (by decide) (fun n5 => ?_) (fun m5 => ?_)
              · refine AR.s (pc' := 120) (lv' := [(2, .int z160), (0, .ref 3), (1, .int x)]) (st' := [.int x]) (h' := h) _ hn_63 hk_63_119 rfl ?_
                refine AR.bipushT hk_63_120 (by decide) (fun z197 ez197 => ?_)
                show AR _ _ _ _ _ _ _ 122 [(2, .int z160), (0, .ref 3), (1, .int x)] [.int z197, .int x] h _ _
                refine AR.jne hk_63_122 (tgt := 139) (by decide) (fun n6 => ?_) (fun m6 => ?_)
                · refine AR.s (pc' := 140) (lv' := [(2, .int z160), (0, .ref 3), (1, .int x)]) (st' := [.ref 3]) (h' := h) _ hn_63 hk_63_139 rfl ?_
                  refine AR.iconstT hk_63_140 (by decide) (fun z203 ez203 => ?_)
                  show AR _ _ _ _ _ _ _ 141 [(2, .int z160), (0, .ref 3), (1, .int x)] [.int z203, .ref 3] h _ _
                  refine AR.iconstT hk_63_141 (by decide) (fun z204 ez204 => ?_)
                  show AR _ _ _ _ _ _ _ 142 [(2, .int z160), (0, .ref 3), (1, .int x)] [.int z204, .int z203, .ref 3] h _ _
                  obtain ⟨vc207, cc207⟩ := lt_c3 hH
                  refine AR.jr (r := 3) (as := [.int z203, .int z204]) (rest := []) hk_63_142 (by decide) (by decide +kernel) (by decide) cc207 rfl rfl (Nat.le_of_ble_eq_true rfl) (lt_64 hlst hH hi (by omega) (by omega) (by omega) h0 (by omega)) (by decide) (Nat.zero_le _) (Nat.zero_le _) ?_ (fun E h' q => by cases q.2.2.2.1)
                  rintro w206 g205 ⟨Hg205, Tg205, ig205, eg205, ag205, bg205, cg205⟩
                  cases eg205
                  have Fg205 : ty_F 130023424 h g205 := ty_F.trans F Tg205
                  show AR _ _ _ _ _ _ _ 145 [(2, .int z160), (0, .ref 3), (1, .int x)] [] g205 _ _
                  have es : t_sy x.toInt z155.toInt = (1, 0) := by unfold t_sy; (repeat' split) <;> first | rfl | (exfalso; omega)
                  rw [es]
                  exact AR.vret hk_63_145 hr_63 ⟨Hg205, Fg205, ig205, rfl, by show _ = hy_z h 3 1 + 0; omega, by show _ = (1 : Int); omega, cg205⟩
                · refine AR.s (pc' := 126) (lv' := [(2, .int z160), (0, .ref 3), (1, .int x)]) (st' := [.int z160]) (h' := h) _ hn_63 hk_63_125 rfl ?_
                  refine AR.zeq hk_63_126 (tgt := 139) (by decide) (fun f1 => ?_) (fun f3 => ?_)
                  · refine AR.s (pc' := 140) (lv' := [(2, .int z160), (0, .ref 3), (1, .int x)]) (st' := [.ref 3]) (h' := h) _ hn_63 hk_63_139 rfl ?_
                    refine AR.iconstT hk_63_140 (by decide) (fun z198 ez198 => ?_)
                    show AR _ _ _ _ _ _ _ 141 [(2, .int z160), (0, .ref 3), (1, .int x)] [.int z198, .ref 3] h _ _
                    refine AR.iconstT hk_63_141 (by decide) (fun z199 ez199 => ?_)
                    show AR _ _ _ _ _ _ _ 142 [(2, .int z160), (0, .ref 3), (1, .int x)] [.int z199, .int z198, .ref 3] h _ _
                    obtain ⟨vc202, cc202⟩ := lt_c3 hH
                    refine AR.jr (r := 3) (as := [.int z198, .int z199]) (rest := []) hk_63_142 (by decide) (by decide +kernel) (by decide) cc202 rfl rfl (Nat.le_of_ble_eq_true rfl) (lt_64 hlst hH hi (by omega) (by omega) (by omega) h0 (by omega)) (by decide) (Nat.zero_le _) (Nat.zero_le _) ?_ (fun E h' q => by cases q.2.2.2.1)
                    rintro w201 g200 ⟨Hg200, Tg200, ig200, eg200, ag200, bg200, cg200⟩
                    cases eg200
                    have Fg200 : ty_F 130023424 h g200 := ty_F.trans F Tg200
                    show AR _ _ _ _ _ _ _ 145 [(2, .int z160), (0, .ref 3), (1, .int x)] [] g200 _ _
                    have es : t_sy x.toInt z155.toInt = (1, 0) := by unfold t_sy; (repeat' split) <;> first | rfl | (exfalso; omega)
                    rw [es]
                    exact AR.vret hk_63_145 hr_63 ⟨Hg200, Fg200, ig200, rfl, by show _ = hy_z h 3 1 + 0; omega, by show _ = (1 : Int); omega, cg200⟩
                  · exact absurd (show (_ : Int32).toInt = 0 from by omega) f3
              · refine AR.s (pc' := 106) (lv' := [(2, .int z160), (0, .ref 3), (1, .int x)]) (st' := [.int z160]) (h' := h) _ hn_63 hk_63_105 rfl ?_
                refine AR.zeq hk_63_106 (tgt := 119) (by decide) (fun f0 => ?_) (fun f2 => ?_)
                · refine AR.s (pc' := 120) (lv' := [(2, .int z160), (0, .ref 3), (1, .int x)]) (st' := [.int x]) (h' := h) _ hn_63 hk_63_119 rfl ?_
                  refine AR.bipushT hk_63_120 (by decide) (fun z191 ez191 => ?_)
                  show AR _ _ _ _ _ _ _ 122 [(2, .int z160), (0, .ref 3), (1, .int x)] [.int z191, .int x] h _ _
                  refine AR.jne hk_63_122 (tgt := 139) (by decide) (fun g1 => ?_) (fun g2 => ?_)
                  · refine AR.s (pc' := 140) (lv' := [(2, .int z160), (0, .ref 3), (1, .int x)]) (st' := [.ref 3]) (h' := h) _ hn_63 hk_63_139 rfl ?_
                    refine AR.iconstT hk_63_140 (by decide) (fun z192 ez192 => ?_)
                    show AR _ _ _ _ _ _ _ 141 [(2, .int z160), (0, .ref 3), (1, .int x)] [.int z192, .ref 3] h _ _
                    refine AR.iconstT hk_63_141 (by decide) (fun z193 ez193 => ?_)
                    show AR _ _ _ _ _ _ _ 142 [(2, .int z160), (0, .ref 3), (1, .int x)] [.int z193, .int z192, .ref 3] h _ _
                    obtain ⟨vc196, cc196⟩ := lt_c3 hH
                    refine AR.jr (r := 3) (as := [.int z192, .int z193]) (rest := []) hk_63_142 (by decide) (by decide +kernel) (by decide) cc196 rfl rfl (Nat.le_of_ble_eq_true rfl) (lt_64 hlst hH hi (by omega) (by omega) (by omega) h0 (by omega)) (by decide) (Nat.zero_le _) (Nat.zero_le _) ?_ (fun E h' q => by cases q.2.2.2.1)
                    rintro w195 g194 ⟨Hg194, Tg194, ig194, eg194, ag194, bg194, cg194⟩
                    cases eg194
                    have Fg194 : ty_F 130023424 h g194 := ty_F.trans F Tg194
                    show AR _ _ _ _ _ _ _ 145 [(2, .int z160), (0, .ref 3), (1, .int x)] [] g194 _ _
                    have es : t_sy x.toInt z155.toInt = (1, 0) := by unfold t_sy; (repeat' split) <;> first | rfl | (exfalso; omega)
                    rw [es]
                    exact AR.vret hk_63_145 hr_63 ⟨Hg194, Fg194, ig194, rfl, by show _ = hy_z h 3 1 + 0; omega, by show _ = (1 : Int); omega, cg194⟩
                  · exfalso; omega
                · exact absurd (show (_ : Int32).toInt = 0 from by omega) f2
            · refine AR.s (pc' := 90) (lv' := [(2, .int z160), (0, .ref 3), (1, .int x)]) (st' := [.ref 3]) (h' := h) _ hn_63 hk_63_89 rfl ?_
              refine AR.bipushT hk_63_90 (by decide) (fun z185 ez185 => ?_)
              show AR _ _ _ _ _ _ _ 92 [(2, .int z160), (0, .ref 3), (1, .int x)] [.int z185, .ref 3] h _ _
              refine AR.iconstT hk_63_92 (by decide) (fun z186 ez186 => ?_)
              show AR _ _ _ _ _ _ _ 93 [(2, .int z160), (0, .ref 3), (1, .int x)] [.int z186, .int z185, .ref 3] h _ _
              obtain ⟨vc189, cc189⟩ := lt_c3 hH
              refine AR.jr (r := 3) (as := [.int z185, .int z186]) (rest := []) hk_63_93 (by decide) (by decide +kernel) (by decide) cc189 rfl rfl (Nat.le_of_ble_eq_true rfl) (lt_64 hlst hH hi (by omega) (by omega) (by omega) h0 (by omega)) (by decide) (Nat.zero_le _) (Nat.zero_le _) ?_ (fun E h' q => by cases q.2.2.2.1)
              rintro w188 g187 ⟨Hg187, Tg187, ig187, eg187, ag187, bg187, cg187⟩
              cases eg187
              have Fg187 : ty_F 130023424 h g187 := ty_F.trans F Tg187
              show AR _ _ _ _ _ _ _ 96 [(2, .int z160), (0, .ref 3), (1, .int x)] [] g187 _ _
              refine AR.gotoT hk_63_96 (tgt := 145) (by decide) ?_
              have es : t_sy x.toInt z155.toInt = (9, 1) := by unfold t_sy; (repeat' split) <;> first | rfl | (exfalso; omega)
              rw [es]
              exact AR.vret hk_63_145 hr_63 ⟨Hg187, Fg187, ig187, rfl, by show _ = hy_z h 3 1 + 1; omega, by show _ = (9 : Int); omega, cg187⟩
          · refine AR.s (pc' := 74) (lv' := [(2, .int z160), (0, .ref 3), (1, .int x)]) (st' := [.ref 3]) (h' := h) _ hn_63 hk_63_73 rfl ?_
            refine AR.bipushT hk_63_74 (by decide) (fun z179 ez179 => ?_)
            show AR _ _ _ _ _ _ _ 76 [(2, .int z160), (0, .ref 3), (1, .int x)] [.int z179, .ref 3] h _ _
            refine AR.iconstT hk_63_76 (by decide) (fun z180 ez180 => ?_)
            show AR _ _ _ _ _ _ _ 77 [(2, .int z160), (0, .ref 3), (1, .int x)] [.int z180, .int z179, .ref 3] h _ _
            obtain ⟨vc183, cc183⟩ := lt_c3 hH
            refine AR.jr (r := 3) (as := [.int z179, .int z180]) (rest := []) hk_63_77 (by decide) (by decide +kernel) (by decide) cc183 rfl rfl (Nat.le_of_ble_eq_true rfl) (lt_64 hlst hH hi (by omega) (by omega) (by omega) h0 (by omega)) (by decide) (Nat.zero_le _) (Nat.zero_le _) ?_ (fun E h' q => by cases q.2.2.2.1)
            rintro w182 g181 ⟨Hg181, Tg181, ig181, eg181, ag181, bg181, cg181⟩
            cases eg181
            have Fg181 : ty_F 130023424 h g181 := ty_F.trans F Tg181
            show AR _ _ _ _ _ _ _ 80 [(2, .int z160), (0, .ref 3), (1, .int x)] [] g181 _ _
            refine AR.gotoT hk_63_80 (tgt := 145) (by decide) ?_
            have es : t_sy x.toInt z155.toInt = (6, 1) := by unfold t_sy; (repeat' split) <;> first | rfl | (exfalso; omega)
            rw [es]
            exact AR.vret hk_63_145 hr_63 ⟨Hg181, Fg181, ig181, rfl, by show _ = hy_z h 3 1 + 1; omega, by show _ = (6 : Int); omega, cg181⟩
        · refine AR.s (pc' := 59) (lv' := [(2, .int z160), (0, .ref 3), (1, .int x)]) (st' := [.ref 3]) (h' := h) _ hn_63 hk_63_58 rfl ?_
          refine AR.iconstT hk_63_59 (by decide) (fun z173 ez173 => ?_)
          show AR _ _ _ _ _ _ _ 60 [(2, .int z160), (0, .ref 3), (1, .int x)] [.int z173, .ref 3] h _ _
          refine AR.iconstT hk_63_60 (by decide) (fun z174 ez174 => ?_)
          show AR _ _ _ _ _ _ _ 61 [(2, .int z160), (0, .ref 3), (1, .int x)] [.int z174, .int z173, .ref 3] h _ _
          obtain ⟨vc177, cc177⟩ := lt_c3 hH
          refine AR.jr (r := 3) (as := [.int z173, .int z174]) (rest := []) hk_63_61 (by decide) (by decide +kernel) (by decide) cc177 rfl rfl (Nat.le_of_ble_eq_true rfl) (lt_64 hlst hH hi (by omega) (by omega) (by omega) h0 (by omega)) (by decide) (Nat.zero_le _) (Nat.zero_le _) ?_ (fun E h' q => by cases q.2.2.2.1)
          rintro w176 g175 ⟨Hg175, Tg175, ig175, eg175, ag175, bg175, cg175⟩
          cases eg175
          have Fg175 : ty_F 130023424 h g175 := ty_F.trans F Tg175
          show AR _ _ _ _ _ _ _ 64 [(2, .int z160), (0, .ref 3), (1, .int x)] [] g175 _ _
          refine AR.gotoT hk_63_64 (tgt := 145) (by decide) ?_
          have es : t_sy x.toInt z155.toInt = (5, 1) := by unfold t_sy; (repeat' split) <;> first | rfl | (exfalso; omega)
          rw [es]
          exact AR.vret hk_63_145 hr_63 ⟨Hg175, Fg175, ig175, rfl, by show _ = hy_z h 3 1 + 1; omega, by show _ = (5 : Int); omega, cg175⟩
      · refine AR.s (pc' := 44) (lv' := [(2, .int z160), (0, .ref 3), (1, .int x)]) (st' := [.ref 3]) (h' := h) _ hn_63 hk_63_43 rfl ?_
        refine AR.iconstT hk_63_44 (by decide) (fun z167 ez167 => ?_)
        show AR _ _ _ _ _ _ _ 45 [(2, .int z160), (0, .ref 3), (1, .int x)] [.int z167, .ref 3] h _ _
        refine AR.iconstT hk_63_45 (by decide) (fun z168 ez168 => ?_)
        show AR _ _ _ _ _ _ _ 46 [(2, .int z160), (0, .ref 3), (1, .int x)] [.int z168, .int z167, .ref 3] h _ _
        obtain ⟨vc171, cc171⟩ := lt_c3 hH
        refine AR.jr (r := 3) (as := [.int z167, .int z168]) (rest := []) hk_63_46 (by decide) (by decide +kernel) (by decide) cc171 rfl rfl (Nat.le_of_ble_eq_true rfl) (lt_64 hlst hH hi (by omega) (by omega) (by omega) h0 (by omega)) (by decide) (Nat.zero_le _) (Nat.zero_le _) ?_ (fun E h' q => by cases q.2.2.2.1)
        rintro w170 g169 ⟨Hg169, Tg169, ig169, eg169, ag169, bg169, cg169⟩
        cases eg169
        have Fg169 : ty_F 130023424 h g169 := ty_F.trans F Tg169
        show AR _ _ _ _ _ _ _ 49 [(2, .int z160), (0, .ref 3), (1, .int x)] [] g169 _ _
        refine AR.gotoT hk_63_49 (tgt := 145) (by decide) ?_
        have es : t_sy x.toInt z155.toInt = (4, 1) := by unfold t_sy; (repeat' split) <;> first | rfl | (exfalso; omega)
        rw [es]
        exact AR.vret hk_63_145 hr_63 ⟨Hg169, Fg169, ig169, rfl, by show _ = hy_z h 3 1 + 1; omega, by show _ = (4 : Int); omega, cg169⟩
    · refine AR.s (pc' := 29) (lv' := [(2, .int z160), (0, .ref 3), (1, .int x)]) (st' := [.ref 3]) (h' := h) _ hn_63 hk_63_28 rfl ?_
      refine AR.iconstT hk_63_29 (by decide) (fun z161 ez161 => ?_)
      show AR _ _ _ _ _ _ _ 30 [(2, .int z160), (0, .ref 3), (1, .int x)] [.int z161, .ref 3] h _ _
      refine AR.iconstT hk_63_30 (by decide) (fun z162 ez162 => ?_)
      show AR _ _ _ _ _ _ _ 31 [(2, .int z160), (0, .ref 3), (1, .int x)] [.int z162, .int z161, .ref 3] h _ _
      obtain ⟨vc165, cc165⟩ := lt_c3 hH
      refine AR.jr (r := 3) (as := [.int z161, .int z162]) (rest := []) hk_63_31 (by decide) (by decide +kernel) (by decide) cc165 rfl rfl (Nat.le_of_ble_eq_true rfl) (lt_64 hlst hH hi (by omega) (by omega) (by omega) h0 (by omega)) (by decide) (Nat.zero_le _) (Nat.zero_le _) ?_ (fun E h' q => by cases q.2.2.2.1)
      rintro w164 g163 ⟨Hg163, Tg163, ig163, eg163, ag163, bg163, cg163⟩
      cases eg163
      have Fg163 : ty_F 130023424 h g163 := ty_F.trans F Tg163
      show AR _ _ _ _ _ _ _ 34 [(2, .int z160), (0, .ref 3), (1, .int x)] [] g163 _ _
      refine AR.gotoT hk_63_34 (tgt := 145) (by decide) ?_
      have es : t_sy x.toInt z155.toInt = (0, 0) := by unfold t_sy; (repeat' split) <;> first | rfl | (exfalso; omega)
      rw [es]
      exact AR.vret hk_63_145 hr_63 ⟨Hg163, Fg163, ig163, rfl, by show _ = hy_z h 3 1 + 0; omega, by show _ = (0 : Int); omega, cg163⟩
  · refine AR.iconstT hk_63_18 (by decide) (fun z208 ez208 => ?_)
    show AR _ _ _ _ _ _ _ 19 [(0, .ref 3), (1, .int x)] [.int z208] h _ _
    refine AR.gotoT hk_63_19 (tgt := 23) (by decide) ?_
    refine AR.s (pc' := 24) (lv' := [(2, .int z208), (0, .ref 3), (1, .int x)]) (st' := []) (h' := h) _ hn_63 hk_63_23 rfl ?_
    refine AR.s (pc' := 25) (lv' := [(2, .int z208), (0, .ref 3), (1, .int x)]) (st' := [.int x]) (h' := h) _ hn_63 hk_63_24 rfl ?_
    refine AR.zge hk_63_25 (tgt := 37) (by decide) (fun n0 => ?_) (fun l0 => ?_)
    · refine AR.s (pc' := 38) (lv' := [(2, .int z208), (0, .ref 3), (1, .int x)]) (st' := [.int x]) (h' := h) _ hn_63 hk_63_37 rfl ?_
      refine AR.bipushT hk_63_38 (by decide) (fun z214 ez214 => ?_)
      show AR _ _ _ _ _ _ _ 40 [(2, .int z208), (0, .ref 3), (1, .int x)] [.int z214, .int x] h _ _
      refine AR.jne hk_63_40 (tgt := 52) (by decide) (fun n1 => ?_) (fun m1 => ?_)
      · refine AR.s (pc' := 53) (lv' := [(2, .int z208), (0, .ref 3), (1, .int x)]) (st' := [.int x]) (h' := h) _ hn_63 hk_63_52 rfl ?_
        refine AR.bipushT hk_63_53 (by decide) (fun z220 ez220 => ?_)
        show AR _ _ _ _ _ _ _ 55 [(2, .int z208), (0, .ref 3), (1, .int x)] [.int z220, .int x] h _ _
        refine AR.jne hk_63_55 (tgt := 67) (by decide) (fun n2 => ?_) (fun m2 => ?_)
        · refine AR.s (pc' := 68) (lv' := [(2, .int z208), (0, .ref 3), (1, .int x)]) (st' := [.int x]) (h' := h) _ hn_63 hk_63_67 rfl ?_
          refine AR.bipushT hk_63_68 (by decide) (fun z226 ez226 => ?_)
          show AR _ _ _ _ _ _ _ 70 [(2, .int z208), (0, .ref 3), (1, .int x)] [.int z226, .int x] h _ _
          refine AR.jne hk_63_70 (tgt := 83) (by decide) (fun n3 => ?_) (fun m3 => ?_)
          · refine AR.s (pc' := 84) (lv' := [(2, .int z208), (0, .ref 3), (1, .int x)]) (st' := [.int x]) (h' := h) _ hn_63 hk_63_83 rfl ?_
            refine AR.bipushT hk_63_84 (by decide) (fun z232 ez232 => ?_)
            show AR _ _ _ _ _ _ _ 86 [(2, .int z208), (0, .ref 3), (1, .int x)] [.int z232, .int x] h _ _
            refine AR.jne hk_63_86 (tgt := 99) (by decide) (fun n4 => ?_) (fun m4 => ?_)
            · refine AR.s (pc' := 100) (lv' := [(2, .int z208), (0, .ref 3), (1, .int x)]) (st' := [.int x]) (h' := h) _ hn_63 hk_63_99 rfl ?_
              refine AR.bipushT hk_63_100 (by decide) (fun z238 ez238 => ?_)
              show AR _ _ _ _ _ _ _ 102 [(2, .int z208), (0, .ref 3), (1, .int x)] [.int z238, .int x] h _ _
              refine AR.jne hk_63_102 (tgt := 119) (by decide) (fun n5 => ?_) (fun m5 => ?_)
              · refine AR.s (pc' := 120) (lv' := [(2, .int z208), (0, .ref 3), (1, .int x)]) (st' := [.int x]) (h' := h) _ hn_63 hk_63_119 rfl ?_
                refine AR.bipushT hk_63_120 (by decide) (fun z244 ez244 => ?_)
                show AR _ _ _ _ _ _ _ 122 [(2, .int z208), (0, .ref 3), (1, .int x)] [.int z244, .int x] h _ _
                refine AR.jne hk_63_122 (tgt := 139) (by decide) (fun n6 => ?_) (fun m6 => ?_)
                · refine AR.s (pc' := 140) (lv' := [(2, .int z208), (0, .ref 3), (1, .int x)]) (st' := [.ref 3]) (h' := h) _ hn_63 hk_63_139 rfl ?_
                  refine AR.iconstT hk_63_140 (by decide) (fun z250 ez250 => ?_)
                  show AR _ _ _ _ _ _ _ 141 [(2, .int z208), (0, .ref 3), (1, .int x)] [.int z250, .ref 3] h _ _
                  refine AR.iconstT hk_63_141 (by decide) (fun z251 ez251 => ?_)
                  show AR _ _ _ _ _ _ _ 142 [(2, .int z208), (0, .ref 3), (1, .int x)] [.int z251, .int z250, .ref 3] h _ _
                  obtain ⟨vc254, cc254⟩ := lt_c3 hH
                  refine AR.jr (r := 3) (as := [.int z250, .int z251]) (rest := []) hk_63_142 (by decide) (by decide +kernel) (by decide) cc254 rfl rfl (Nat.le_of_ble_eq_true rfl) (lt_64 hlst hH hi (by omega) (by omega) (by omega) h0 (by omega)) (by decide) (Nat.zero_le _) (Nat.zero_le _) ?_ (fun E h' q => by cases q.2.2.2.1)
                  rintro w253 g252 ⟨Hg252, Tg252, ig252, eg252, ag252, bg252, cg252⟩
                  cases eg252
                  have Fg252 : ty_F 130023424 h g252 := ty_F.trans F Tg252
                  show AR _ _ _ _ _ _ _ 145 [(2, .int z208), (0, .ref 3), (1, .int x)] [] g252 _ _
                  have es : t_sy x.toInt z155.toInt = (1, 0) := by unfold t_sy; (repeat' split) <;> first | rfl | (exfalso; omega)
                  rw [es]
                  exact AR.vret hk_63_145 hr_63 ⟨Hg252, Fg252, ig252, rfl, by show _ = hy_z h 3 1 + 0; omega, by show _ = (1 : Int); omega, cg252⟩
                · refine AR.s (pc' := 126) (lv' := [(2, .int z208), (0, .ref 3), (1, .int x)]) (st' := [.int z208]) (h' := h) _ hn_63 hk_63_125 rfl ?_
                  refine AR.zeq hk_63_126 (tgt := 139) (by decide) (fun f1 => ?_) (fun f3 => ?_)
                  · exact absurd f1 (by omega)
                  · refine AR.s (pc' := 130) (lv' := [(2, .int z208), (0, .ref 3), (1, .int x)]) (st' := [.ref 3]) (h' := h) _ hn_63 hk_63_129 rfl ?_
                    refine AR.bipushT hk_63_130 (by decide) (fun z245 ez245 => ?_)
                    show AR _ _ _ _ _ _ _ 132 [(2, .int z208), (0, .ref 3), (1, .int x)] [.int z245, .ref 3] h _ _
                    refine AR.iconstT hk_63_132 (by decide) (fun z246 ez246 => ?_)
                    show AR _ _ _ _ _ _ _ 133 [(2, .int z208), (0, .ref 3), (1, .int x)] [.int z246, .int z245, .ref 3] h _ _
                    obtain ⟨vc249, cc249⟩ := lt_c3 hH
                    refine AR.jr (r := 3) (as := [.int z245, .int z246]) (rest := []) hk_63_133 (by decide) (by decide +kernel) (by decide) cc249 rfl rfl (Nat.le_of_ble_eq_true rfl) (lt_64 hlst hH hi (by omega) (by omega) (by omega) h0 (by omega)) (by decide) (Nat.zero_le _) (Nat.zero_le _) ?_ (fun E h' q => by cases q.2.2.2.1)
                    rintro w248 g247 ⟨Hg247, Tg247, ig247, eg247, ag247, bg247, cg247⟩
                    cases eg247
                    have Fg247 : ty_F 130023424 h g247 := ty_F.trans F Tg247
                    show AR _ _ _ _ _ _ _ 136 [(2, .int z208), (0, .ref 3), (1, .int x)] [] g247 _ _
                    refine AR.gotoT hk_63_136 (tgt := 145) (by decide) ?_
                    have es : t_sy x.toInt z155.toInt = (8, 2) := by unfold t_sy; (repeat' split) <;> first | rfl | (exfalso; omega)
                    rw [es]
                    exact AR.vret hk_63_145 hr_63 ⟨Hg247, Fg247, ig247, rfl, by show _ = hy_z h 3 1 + 2; omega, by show _ = (8 : Int); omega, cg247⟩
              · refine AR.s (pc' := 106) (lv' := [(2, .int z208), (0, .ref 3), (1, .int x)]) (st' := [.int z208]) (h' := h) _ hn_63 hk_63_105 rfl ?_
                refine AR.zeq hk_63_106 (tgt := 119) (by decide) (fun f0 => ?_) (fun f2 => ?_)
                · exact absurd f0 (by omega)
                · refine AR.s (pc' := 110) (lv' := [(2, .int z208), (0, .ref 3), (1, .int x)]) (st' := [.ref 3]) (h' := h) _ hn_63 hk_63_109 rfl ?_
                  refine AR.bipushT hk_63_110 (by decide) (fun z239 ez239 => ?_)
                  show AR _ _ _ _ _ _ _ 112 [(2, .int z208), (0, .ref 3), (1, .int x)] [.int z239, .ref 3] h _ _
                  refine AR.iconstT hk_63_112 (by decide) (fun z240 ez240 => ?_)
                  show AR _ _ _ _ _ _ _ 113 [(2, .int z208), (0, .ref 3), (1, .int x)] [.int z240, .int z239, .ref 3] h _ _
                  obtain ⟨vc243, cc243⟩ := lt_c3 hH
                  refine AR.jr (r := 3) (as := [.int z239, .int z240]) (rest := []) hk_63_113 (by decide) (by decide +kernel) (by decide) cc243 rfl rfl (Nat.le_of_ble_eq_true rfl) (lt_64 hlst hH hi (by omega) (by omega) (by omega) h0 (by omega)) (by decide) (Nat.zero_le _) (Nat.zero_le _) ?_ (fun E h' q => by cases q.2.2.2.1)
                  rintro w242 g241 ⟨Hg241, Tg241, ig241, eg241, ag241, bg241, cg241⟩
                  cases eg241
                  have Fg241 : ty_F 130023424 h g241 := ty_F.trans F Tg241
                  show AR _ _ _ _ _ _ _ 116 [(2, .int z208), (0, .ref 3), (1, .int x)] [] g241 _ _
                  refine AR.gotoT hk_63_116 (tgt := 145) (by decide) ?_
                  have es : t_sy x.toInt z155.toInt = (7, 2) := by unfold t_sy; (repeat' split) <;> first | rfl | (exfalso; omega)
                  rw [es]
                  exact AR.vret hk_63_145 hr_63 ⟨Hg241, Fg241, ig241, rfl, by show _ = hy_z h 3 1 + 2; omega, by show _ = (7 : Int); omega, cg241⟩
            · refine AR.s (pc' := 90) (lv' := [(2, .int z208), (0, .ref 3), (1, .int x)]) (st' := [.ref 3]) (h' := h) _ hn_63 hk_63_89 rfl ?_
              refine AR.bipushT hk_63_90 (by decide) (fun z233 ez233 => ?_)
              show AR _ _ _ _ _ _ _ 92 [(2, .int z208), (0, .ref 3), (1, .int x)] [.int z233, .ref 3] h _ _
              refine AR.iconstT hk_63_92 (by decide) (fun z234 ez234 => ?_)
              show AR _ _ _ _ _ _ _ 93 [(2, .int z208), (0, .ref 3), (1, .int x)] [.int z234, .int z233, .ref 3] h _ _
              obtain ⟨vc237, cc237⟩ := lt_c3 hH
              refine AR.jr (r := 3) (as := [.int z233, .int z234]) (rest := []) hk_63_93 (by decide) (by decide +kernel) (by decide) cc237 rfl rfl (Nat.le_of_ble_eq_true rfl) (lt_64 hlst hH hi (by omega) (by omega) (by omega) h0 (by omega)) (by decide) (Nat.zero_le _) (Nat.zero_le _) ?_ (fun E h' q => by cases q.2.2.2.1)
              rintro w236 g235 ⟨Hg235, Tg235, ig235, eg235, ag235, bg235, cg235⟩
              cases eg235
              have Fg235 : ty_F 130023424 h g235 := ty_F.trans F Tg235
              show AR _ _ _ _ _ _ _ 96 [(2, .int z208), (0, .ref 3), (1, .int x)] [] g235 _ _
              refine AR.gotoT hk_63_96 (tgt := 145) (by decide) ?_
              have es : t_sy x.toInt z155.toInt = (9, 1) := by unfold t_sy; (repeat' split) <;> first | rfl | (exfalso; omega)
              rw [es]
              exact AR.vret hk_63_145 hr_63 ⟨Hg235, Fg235, ig235, rfl, by show _ = hy_z h 3 1 + 1; omega, by show _ = (9 : Int); omega, cg235⟩
          · refine AR.s (pc' := 74) (lv' := [(2, .int z208), (0, .ref 3), (1, .int x)]) (st' := [.ref 3]) (h' := h) _ hn_63 hk_63_73 rfl ?_
            refine AR.bipushT hk_63_74 (by decide) (fun z227 ez227 => ?_)
            show AR _ _ _ _ _ _ _ 76 [(2, .int z208), (0, .ref 3), (1, .int x)] [.int z227, .ref 3] h _ _
            refine AR.iconstT hk_63_76 (by decide) (fun z228 ez228 => ?_)
            show AR _ _ _ _ _ _ _ 77 [(2, .int z208), (0, .ref 3), (1, .int x)] [.int z228, .int z227, .ref 3] h _ _
            obtain ⟨vc231, cc231⟩ := lt_c3 hH
            refine AR.jr (r := 3) (as := [.int z227, .int z228]) (rest := []) hk_63_77 (by decide) (by decide +kernel) (by decide) cc231 rfl rfl (Nat.le_of_ble_eq_true rfl) (lt_64 hlst hH hi (by omega) (by omega) (by omega) h0 (by omega)) (by decide) (Nat.zero_le _) (Nat.zero_le _) ?_ (fun E h' q => by cases q.2.2.2.1)
            rintro w230 g229 ⟨Hg229, Tg229, ig229, eg229, ag229, bg229, cg229⟩
            cases eg229
            have Fg229 : ty_F 130023424 h g229 := ty_F.trans F Tg229
            show AR _ _ _ _ _ _ _ 80 [(2, .int z208), (0, .ref 3), (1, .int x)] [] g229 _ _
            refine AR.gotoT hk_63_80 (tgt := 145) (by decide) ?_
            have es : t_sy x.toInt z155.toInt = (6, 1) := by unfold t_sy; (repeat' split) <;> first | rfl | (exfalso; omega)
            rw [es]
            exact AR.vret hk_63_145 hr_63 ⟨Hg229, Fg229, ig229, rfl, by show _ = hy_z h 3 1 + 1; omega, by show _ = (6 : Int); omega, cg229⟩
        · refine AR.s (pc' := 59) (lv' := [(2, .int z208), (0, .ref 3), (1, .int x)]) (st' := [.ref 3]) (h' := h) _ hn_63 hk_63_58 rfl ?_
          refine AR.iconstT hk_63_59 (by decide) (fun z221 ez221 => ?_)
          show AR _ _ _ _ _ _ _ 60 [(2, .int z208), (0, .ref 3), (1, .int x)] [.int z221, .ref 3] h _ _
          refine AR.iconstT hk_63_60 (by decide) (fun z222 ez222 => ?_)
          show AR _ _ _ _ _ _ _ 61 [(2, .int z208), (0, .ref 3), (1, .int x)] [.int z222, .int z221, .ref 3] h _ _
          obtain ⟨vc225, cc225⟩ := lt_c3 hH
          refine AR.jr (r := 3) (as := [.int z221, .int z222]) (rest := []) hk_63_61 (by decide) (by decide +kernel) (by decide) cc225 rfl rfl (Nat.le_of_ble_eq_true rfl) (lt_64 hlst hH hi (by omega) (by omega) (by omega) h0 (by omega)) (by decide) (Nat.zero_le _) (Nat.zero_le _) ?_ (fun E h' q => by cases q.2.2.2.1)
          rintro w224 g223 ⟨Hg223, Tg223, ig223, eg223, ag223, bg223, cg223⟩
          cases eg223
          have Fg223 : ty_F 130023424 h g223 := ty_F.trans F Tg223
          show AR _ _ _ _ _ _ _ 64 [(2, .int z208), (0, .ref 3), (1, .int x)] [] g223 _ _
          refine AR.gotoT hk_63_64 (tgt := 145) (by decide) ?_
          have es : t_sy x.toInt z155.toInt = (5, 1) := by unfold t_sy; (repeat' split) <;> first | rfl | (exfalso; omega)
          rw [es]
          exact AR.vret hk_63_145 hr_63 ⟨Hg223, Fg223, ig223, rfl, by show _ = hy_z h 3 1 + 1; omega, by show _ = (5 : Int); omega, cg223⟩
      · refine AR.s (pc' := 44) (lv' := [(2, .int z208), (0, .ref 3), (1, .int x)]) (st' := [.ref 3]) (h' := h) _ hn_63 hk_63_43 rfl ?_
        refine AR.iconstT hk_63_44 (by decide) (fun z215 ez215 => ?_)
        show AR _ _ _ _ _ _ _ 45 [(2, .int z208), (0, .ref 3), (1, .int x)] [.int z215, .ref 3] h _ _
        refine AR.iconstT hk_63_45 (by decide) (fun z216 ez216 => ?_)
        show AR _ _ _ _ _ _ _ 46 [(2, .int z208), (0, .ref 3), (1, .int x)] [.int z216, .int z215, .ref 3] h _ _
        obtain ⟨vc219, cc219⟩ := lt_c3 hH
        refine AR.jr (r := 3) (as := [.int z215, .int z216]) (rest := []) hk_63_46 (by decide) (by decide +kernel) (by decide) cc219 rfl rfl (Nat.le_of_ble_eq_true rfl) (lt_64 hlst hH hi (by omega) (by omega) (by omega) h0 (by omega)) (by decide) (Nat.zero_le _) (Nat.zero_le _) ?_ (fun E h' q => by cases q.2.2.2.1)
        rintro w218 g217 ⟨Hg217, Tg217, ig217, eg217, ag217, bg217, cg217⟩
        cases eg217
        have Fg217 : ty_F 130023424 h g217 := ty_F.trans F Tg217
        show AR _ _ _ _ _ _ _ 49 [(2, .int z208), (0, .ref 3), (1, .int x)] [] g217 _ _
        refine AR.gotoT hk_63_49 (tgt := 145) (by decide) ?_
        have es : t_sy x.toInt z155.toInt = (4, 1) := by unfold t_sy; (repeat' split) <;> first | rfl | (exfalso; omega)
        rw [es]
        exact AR.vret hk_63_145 hr_63 ⟨Hg217, Fg217, ig217, rfl, by show _ = hy_z h 3 1 + 1; omega, by show _ = (4 : Int); omega, cg217⟩
    · refine AR.s (pc' := 29) (lv' := [(2, .int z208), (0, .ref 3), (1, .int x)]) (st' := [.ref 3]) (h' := h) _ hn_63 hk_63_28 rfl ?_
      refine AR.iconstT hk_63_29 (by decide) (fun z209 ez209 => ?_)
      show AR _ _ _ _ _ _ _ 30 [(2, .int z208), (0, .ref 3), (1, .int x)] [.int z209, .ref 3] h _ _
      refine AR.iconstT hk_63_30 (by decide) (fun z210 ez210 => ?_)
      show AR _ _ _ _ _ _ _ 31 [(2, .int z208), (0, .ref 3), (1, .int x)] [.int z210, .int z209, .ref 3] h _ _
      obtain ⟨vc213, cc213⟩ := lt_c3 hH
      refine AR.jr (r := 3) (as := [.int z209, .int z210]) (rest := []) hk_63_31 (by decide) (by decide +kernel) (by decide) cc213 rfl rfl (Nat.le_of_ble_eq_true rfl) (lt_64 hlst hH hi (by omega) (by omega) (by omega) h0 (by omega)) (by decide) (Nat.zero_le _) (Nat.zero_le _) ?_ (fun E h' q => by cases q.2.2.2.1)
      rintro w212 g211 ⟨Hg211, Tg211, ig211, eg211, ag211, bg211, cg211⟩
      cases eg211
      have Fg211 : ty_F 130023424 h g211 := ty_F.trans F Tg211
      show AR _ _ _ _ _ _ _ 34 [(2, .int z208), (0, .ref 3), (1, .int x)] [] g211 _ _
      refine AR.gotoT hk_63_34 (tgt := 145) (by decide) ?_
      have es : t_sy x.toInt z155.toInt = (0, 0) := by unfold t_sy; (repeat' split) <;> first | rfl | (exfalso; omega)
      rw [es]
      exact AR.vret hk_63_145 hr_63 ⟨Hg211, Fg211, ig211, rfl, by show _ = hy_z h 3 1 + 0; omega, by show _ = (0 : Int); omega, cg211⟩
theorem t_dg_rg (B : Int → Int) (hB : ∀ p, 200 ≤ p → B p = -1) : ∀ (n : Nat) (p : Int), p ≤ 200 → p ≤ t_dg B n p ∧ t_dg B n p ≤ 200
  | 0, p, h => ⟨Int.le_refl _, h⟩
  | n + 1, p, h => by
    unfold t_dg
    split
    · rename_i hd
      rcases Int.lt_or_le p 200 with e | e
      · have := t_dg_rg B hB n (p + 1) (by omega)
        omega
      · rw [hB p e] at hd
        cases hd
    · omega
/-- the loop: n turns are enough -/
theorem lt_62L (hlst : l.stackTraces = false) {X : ax_PX} (hH : hy_H 0 h) : ∀ (n : Nat) (g : ax_H) (dg : Int32), hy_H 0 g → hy_I g → ty_F 130023424 h g → 0 ≤ hy_z g 3 1 → hy_z g 3 1 ≤ 200 → 201 ≤ hy_z g 3 1 + n → hy_z h 3 1 ≤ hy_z g 3 1 → 0 ≤ hy_z h 3 1 → dg.toInt = hy_z g 3 1 - hy_z h 3 1 → t_dg (t_B h) n (hy_z g 3 1) = t_dg (t_B h) 201 (hy_z h 3 1) → hy_z g 3 3 = hy_z h 3 3 → AR ax_ns l (ax_mm 62) 1 ty_R (ax_ret ax_ns (ax_mm 62) (hq_tk h (if t_dg (t_B h) 201 (hy_z h 3 1) - hy_z h 3 1 ≤ 6 then 2 else 1) (t_dg (t_B h) 201 (hy_z h 3 1)))) X 7 [(1, .int dg), (0, .ref 3)] [] g 0 0 := by
  intro n
  induction n with
  | zero => intro g dg _ _ _ _ _ _ _ _ _ _; omega
  | succ n ih =>
    intro g dg Hg ig Fg g0 g2 gn gp hp hd ht hs
    have hB : t_B g = t_B h := t_B_F Fg (by decide +kernel)
    show AR _ _ _ _ _ _ _ 7 [(1, .int dg), (0, .ref 3)] [] g _ _
    refine AR.s (pc' := 8) (lv' := [(1, .int dg), (0, .ref 3)]) (st' := [.ref 3]) (h' := g) _ hn_62 hk_62_7 rfl ?_
    refine AR.gI hk_62_8 (by decide) Hg (q := 3) (n := 9) (by decide) (by decide +kernel) (by decide +kernel) (by decide) hy_t3_1 (fun x255 dx255 lx255 ux255 => ?_)
    show AR _ _ _ _ _ _ _ 11 [(1, .int dg), (0, .ref 3)] [.int x255] g _ _
    have sx255 := hy_zi dx255
    refine AR.sipushT hk_62_11 (by decide) (fun z256 ez256 => ?_)
    show AR _ _ _ _ _ _ _ 14 [(1, .int dg), (0, .ref 3)] [.int z256, .int x255] g _ _
    refine AR.jge hk_62_14 (tgt := 82) (by decide) (fun p1 => ?_) (fun p2 => ?_)
    · have b0 := t_B_lt hH (p := hy_z g 3 1) (by omega)
      have te : t_dg (t_B h) 201 (hy_z h 3 1) = hy_z g 3 1 := by
        rw [← ht]
        unfold t_dg
        rw [if_neg (by rw [b0]; decide)]
      refine AR.s (pc' := 83) (lv' := [(1, .int dg), (0, .ref 3)]) (st' := [.ref 3]) (h' := g) _ hn_62 hk_62_82 rfl ?_
      refine AR.s (pc' := 84) (lv' := [(1, .int dg), (0, .ref 3)]) (st' := [.int dg, .ref 3]) (h' := g) _ hn_62 hk_62_83 rfl ?_
      refine AR.bipushT hk_62_84 (by decide) (fun z257 ez257 => ?_)
      show AR _ _ _ _ _ _ _ 86 [(1, .int dg), (0, .ref 3)] [.int z257, .int dg, .ref 3] g _ _
      refine AR.jgt hk_62_86 (tgt := 93) (by decide) (fun d1 => ?_) (fun d2 => ?_)
      · refine AR.iconstT hk_62_93 (by decide) (fun z258 ez258 => ?_)
        show AR _ _ _ _ _ _ _ 94 [(1, .int dg), (0, .ref 3)] [.int z258, .ref 3] g _ _
        refine AR.pT hk_62_94 (by decide) Hg Fg (q := 3) (by decide) (by decide +kernel) (show ax_cls[6]? = some hy_c6 from rfl) (by decide +kernel) (by decide) rfl (by rw [hy_t3_2]; exact ⟨_, rfl, by omega, by omega, Or.inl rfl⟩) (by decide +kernel) (by decide +kernel) ?_
        rintro g259 ⟨Hg259, Fg259, Gg259, Eg259⟩
        show AR _ _ _ _ _ _ _ 97 [(1, .int dg), (0, .ref 3)] [] g259 _ _
        have ig259 : hy_I g259 := ig.st Gg259 (by decide) Eg259 (by decide +kernel)
        have ug259_3_1 : hy_z g259 3 1 = hy_z g 3 1 := hy_ze (by rw [Eg259, if_neg (fun c => absurd c.2 (by decide))])
        have ug259_3_2 : hy_z g259 3 2 = z258.toInt := hy_zi (i := z258) (by rw [Eg259, if_pos ⟨rfl, rfl⟩])
        have ug259_3_3 : hy_z g259 3 3 = hy_z g 3 3 := hy_ze (by rw [Eg259, if_neg (fun c => absurd c.2 (by decide))])
        have tk : (if t_dg (t_B h) 201 (hy_z h 3 1) - hy_z h 3 1 ≤ 6 then (2 : Int) else 1) = 1 := by rw [te]; exact if_neg (by omega)
        rw [tk, te]
        exact AR.vret hk_62_97 hr_62 ⟨Hg259, Fg259, ig259, rfl, by omega, by omega, by omega⟩
      · refine AR.iconstT hk_62_89 (by decide) (fun z260 ez260 => ?_)
        show AR _ _ _ _ _ _ _ 90 [(1, .int dg), (0, .ref 3)] [.int z260, .ref 3] g _ _
        refine AR.gotoT hk_62_90 (tgt := 94) (by decide) ?_
        refine AR.pT hk_62_94 (by decide) Hg Fg (q := 3) (by decide) (by decide +kernel) (show ax_cls[6]? = some hy_c6 from rfl) (by decide +kernel) (by decide) rfl (by rw [hy_t3_2]; exact ⟨_, rfl, by omega, by omega, Or.inl rfl⟩) (by decide +kernel) (by decide +kernel) ?_
        rintro g261 ⟨Hg261, Fg261, Gg261, Eg261⟩
        show AR _ _ _ _ _ _ _ 97 [(1, .int dg), (0, .ref 3)] [] g261 _ _
        have ig261 : hy_I g261 := ig.st Gg261 (by decide) Eg261 (by decide +kernel)
        have ug261_3_1 : hy_z g261 3 1 = hy_z g 3 1 := hy_ze (by rw [Eg261, if_neg (fun c => absurd c.2 (by decide))])
        have ug261_3_2 : hy_z g261 3 2 = z260.toInt := hy_zi (i := z260) (by rw [Eg261, if_pos ⟨rfl, rfl⟩])
        have ug261_3_3 : hy_z g261 3 3 = hy_z g 3 3 := hy_ze (by rw [Eg261, if_neg (fun c => absurd c.2 (by decide))])
        have tk : (if t_dg (t_B h) 201 (hy_z h 3 1) - hy_z h 3 1 ≤ 6 then (2 : Int) else 1) = 2 := by rw [te]; exact if_pos (by omega)
        rw [tk, te]
        exact AR.vret hk_62_97 hr_62 ⟨Hg261, Fg261, ig261, rfl, by omega, by omega, by omega⟩
    · refine AR.s (pc' := 18) (lv' := [(1, .int dg), (0, .ref 3)]) (st' := [.ref 3]) (h' := g) _ hn_62 hk_62_17 rfl ?_
      refine AR.gR hk_62_18 (by decide) Hg (q := 3) (n := 9) (by decide) (by decide +kernel) (by decide +kernel) (by decide) hy_t3_0 ?_
      show AR _ _ _ _ _ _ _ 21 [(1, .int dg), (0, .ref 3)] [.ref 1] g _ _
      refine AR.s (pc' := 22) (lv' := [(1, .int dg), (0, .ref 3)]) (st' := [.ref 3, .ref 1]) (h' := g) _ hn_62 hk_62_21 rfl ?_
      refine AR.gI hk_62_22 (by decide) Hg (q := 3) (n := 9) (by decide) (by decide +kernel) (by decide +kernel) (by decide) hy_t3_1 (fun x262 dx262 lx262 ux262 => ?_)
      show AR _ _ _ _ _ _ _ 25 [(1, .int dg), (0, .ref 3)] [.int x262, .ref 1] g _ _
      have sx262 := hy_zi dx262
      obtain ⟨vc266, cc266⟩ := lt_c1 Hg
      refine AR.jr (r := 1) (as := [.int x262]) (rest := []) hk_62_25 (by decide) (by decide +kernel) (by decide) cc266 rfl rfl (Nat.le_of_ble_eq_true rfl) (lt_68 hlst Hg) (by decide) (Nat.zero_le _) (Nat.zero_le _) ?_ (fun E h' q => by obtain ⟨-, x, e, -⟩ := q; cases e)
      rintro w264 g265 ⟨eg265, z263, e, ez263⟩
      cases e
      obtain rfl := eg265.symm
      show AR _ _ _ _ _ _ _ 28 [(1, .int dg), (0, .ref 3)] [.int z263] g _ _
      have eb : t_B h (hy_z g 3 1) = z263.toInt := by rw [ez263, hB]; congr 1
      refine AR.cs (as := [.int z263]) (rest := []) hk_62_28 (by decide +kernel) rfl rfl (Nat.le_of_ble_eq_true rfl) (lt_65 hlst) (by decide) (Nat.zero_le _) (Nat.zero_le _) (fun E h' q => by obtain ⟨-, x, e, -⟩ := q; cases e) ?_
      rintro w268 g269 ⟨eg269, z267, e, Az267⟩
      cases e
      obtain rfl := eg269.symm
      show AR _ _ _ _ _ _ _ 31 [(1, .int dg), (0, .ref 3)] [.int z267] g _ _
      refine AR.zeq hk_62_31 (tgt := 82) (by decide) (fun n1 => ?_) (fun n2 => ?_)
      · have td : t_dig z263.toInt = false := by rcases Az267 with ⟨e, -⟩ | ⟨-, e⟩; exact absurd e (by omega); exact e
        have te : t_dg (t_B h) 201 (hy_z h 3 1) = hy_z g 3 1 := by
          rw [← ht]
          unfold t_dg
          rw [if_neg (by rw [eb, td]; decide)]
        refine AR.s (pc' := 83) (lv' := [(1, .int dg), (0, .ref 3)]) (st' := [.ref 3]) (h' := g) _ hn_62 hk_62_82 rfl ?_
        refine AR.s (pc' := 84) (lv' := [(1, .int dg), (0, .ref 3)]) (st' := [.int dg, .ref 3]) (h' := g) _ hn_62 hk_62_83 rfl ?_
        refine AR.bipushT hk_62_84 (by decide) (fun z270 ez270 => ?_)
        show AR _ _ _ _ _ _ _ 86 [(1, .int dg), (0, .ref 3)] [.int z270, .int dg, .ref 3] g _ _
        refine AR.jgt hk_62_86 (tgt := 93) (by decide) (fun d1 => ?_) (fun d2 => ?_)
        · refine AR.iconstT hk_62_93 (by decide) (fun z271 ez271 => ?_)
          show AR _ _ _ _ _ _ _ 94 [(1, .int dg), (0, .ref 3)] [.int z271, .ref 3] g _ _
          refine AR.pT hk_62_94 (by decide) Hg Fg (q := 3) (by decide) (by decide +kernel) (show ax_cls[6]? = some hy_c6 from rfl) (by decide +kernel) (by decide) rfl (by rw [hy_t3_2]; exact ⟨_, rfl, by omega, by omega, Or.inl rfl⟩) (by decide +kernel) (by decide +kernel) ?_
          rintro g272 ⟨Hg272, Fg272, Gg272, Eg272⟩
          show AR _ _ _ _ _ _ _ 97 [(1, .int dg), (0, .ref 3)] [] g272 _ _
          have ig272 : hy_I g272 := ig.st Gg272 (by decide) Eg272 (by decide +kernel)
          have ug272_3_1 : hy_z g272 3 1 = hy_z g 3 1 := hy_ze (by rw [Eg272, if_neg (fun c => absurd c.2 (by decide))])
          have ug272_3_2 : hy_z g272 3 2 = z271.toInt := hy_zi (i := z271) (by rw [Eg272, if_pos ⟨rfl, rfl⟩])
          have ug272_3_3 : hy_z g272 3 3 = hy_z g 3 3 := hy_ze (by rw [Eg272, if_neg (fun c => absurd c.2 (by decide))])
          have tk : (if t_dg (t_B h) 201 (hy_z h 3 1) - hy_z h 3 1 ≤ 6 then (2 : Int) else 1) = 1 := by rw [te]; exact if_neg (by omega)
          rw [tk, te]
          exact AR.vret hk_62_97 hr_62 ⟨Hg272, Fg272, ig272, rfl, by omega, by omega, by omega⟩
        · refine AR.iconstT hk_62_89 (by decide) (fun z273 ez273 => ?_)
          show AR _ _ _ _ _ _ _ 90 [(1, .int dg), (0, .ref 3)] [.int z273, .ref 3] g _ _
          refine AR.gotoT hk_62_90 (tgt := 94) (by decide) ?_
          refine AR.pT hk_62_94 (by decide) Hg Fg (q := 3) (by decide) (by decide +kernel) (show ax_cls[6]? = some hy_c6 from rfl) (by decide +kernel) (by decide) rfl (by rw [hy_t3_2]; exact ⟨_, rfl, by omega, by omega, Or.inl rfl⟩) (by decide +kernel) (by decide +kernel) ?_
          rintro g274 ⟨Hg274, Fg274, Gg274, Eg274⟩
          show AR _ _ _ _ _ _ _ 97 [(1, .int dg), (0, .ref 3)] [] g274 _ _
          have ig274 : hy_I g274 := ig.st Gg274 (by decide) Eg274 (by decide +kernel)
          have ug274_3_1 : hy_z g274 3 1 = hy_z g 3 1 := hy_ze (by rw [Eg274, if_neg (fun c => absurd c.2 (by decide))])
          have ug274_3_2 : hy_z g274 3 2 = z273.toInt := hy_zi (i := z273) (by rw [Eg274, if_pos ⟨rfl, rfl⟩])
          have ug274_3_3 : hy_z g274 3 3 = hy_z g 3 3 := hy_ze (by rw [Eg274, if_neg (fun c => absurd c.2 (by decide))])
          have tk : (if t_dg (t_B h) 201 (hy_z h 3 1) - hy_z h 3 1 ≤ 6 then (2 : Int) else 1) = 2 := by rw [te]; exact if_pos (by omega)
          rw [tk, te]
          exact AR.vret hk_62_97 hr_62 ⟨Hg274, Fg274, ig274, rfl, by omega, by omega, by omega⟩
      · have td : t_dig z263.toInt = true := by rcases Az267 with ⟨-, e⟩ | ⟨e, -⟩; exact e; exact absurd e (by omega)
        have q2 : hy_z g 3 1 < 200 := by
          refine Int.not_le.mp (fun c => ?_)
          rw [t_B_lt hH c] at eb
          rw [← eb] at td
          cases td
        have tn : t_dg (t_B h) n (hy_z g 3 1 + 1) = t_dg (t_B h) 201 (hy_z h 3 1) := by
          rw [← ht]
          show _ = (if t_dig (t_B h (hy_z g 3 1)) = true then t_dg (t_B h) n (hy_z g 3 1 + 1) else hy_z g 3 1)
          rw [eb, if_pos td]
        show AR _ _ _ _ _ _ _ 34 [(1, .int dg), (0, .ref 3)] [] g _ _
        refine AR.s (pc' := 35) (lv' := [(1, .int dg), (0, .ref 3)]) (st' := [.int dg]) (h' := g) _ hn_62 hk_62_34 rfl ?_
        refine AR.bipushT hk_62_35 (by decide) (fun z275 ez275 => ?_)
        show AR _ _ _ _ _ _ _ 37 [(1, .int dg), (0, .ref 3)] [.int z275, .int dg] g _ _
        refine AR.jge hk_62_37 (tgt := 66) (by decide) (fun m1 => ?_) (fun m2 => ?_)
        · refine AR.iincT hk_62_66 (x := dg) rfl (by rw [hn_62]; decide) (by decide) (by omega) (by omega) (fun z276 ez276 => ?_)
          show AR _ _ _ _ _ _ _ 69 [(1, .int z276), (0, .ref 3)] [] g _ _
          refine AR.s (pc' := 70) (lv' := [(1, .int z276), (0, .ref 3)]) (st' := [.ref 3]) (h' := g) _ hn_62 hk_62_69 rfl ?_
          refine AR.s (pc' := 71) (lv' := [(1, .int z276), (0, .ref 3)]) (st' := [.ref 3, .ref 3]) (h' := g) _ hn_62 hk_62_70 rfl ?_
          refine AR.gI hk_62_71 (by decide) Hg (q := 3) (n := 9) (by decide) (by decide +kernel) (by decide +kernel) (by decide) hy_t3_1 (fun x277 dx277 lx277 ux277 => ?_)
          show AR _ _ _ _ _ _ _ 74 [(1, .int z276), (0, .ref 3)] [.int x277, .ref 3] g _ _
          have sx277 := hy_zi dx277
          refine AR.iconstT hk_62_74 (by decide) (fun z278 ez278 => ?_)
          show AR _ _ _ _ _ _ _ 75 [(1, .int z276), (0, .ref 3)] [.int z278, .int x277, .ref 3] g _ _
          refine AR.addT hk_62_75 (by omega) (by omega) (fun z279 ez279 => ?_)
          show AR _ _ _ _ _ _ _ 76 [(1, .int z276), (0, .ref 3)] [.int z279, .ref 3] g _ _
          refine AR.pT hk_62_76 (by decide) Hg Fg (q := 3) (by decide) (by decide +kernel) (show ax_cls[6]? = some hy_c6 from rfl) (by decide +kernel) (by decide) rfl (by rw [hy_t3_1]; exact ⟨_, rfl, by omega, by omega, Or.inl rfl⟩) (by decide +kernel) (by decide +kernel) ?_
          rintro g280 ⟨Hg280, Fg280, Gg280, Eg280⟩
          show AR _ _ _ _ _ _ _ 79 [(1, .int z276), (0, .ref 3)] [] g280 _ _
          have ig280 : hy_I g280 := ig.st Gg280 (by decide) Eg280 (by decide +kernel)
          have ug280_3_1 : hy_z g280 3 1 = z279.toInt := hy_zi (i := z279) (by rw [Eg280, if_pos ⟨rfl, rfl⟩])
          have ug280_3_2 : hy_z g280 3 2 = hy_z g 3 2 := hy_ze (by rw [Eg280, if_neg (fun c => absurd c.2 (by decide))])
          have ug280_3_3 : hy_z g280 3 3 = hy_z g 3 3 := hy_ze (by rw [Eg280, if_neg (fun c => absurd c.2 (by decide))])
          refine AR.gotoT hk_62_79 (tgt := 7) (by decide) ?_
          refine AR.lessL (lv' := [(1, .int z276), (0, .ref 3)]) (List.forall_mem_cons.mpr ⟨⟨_, by simp, ax_le_rfl rfl⟩, (List.forall_mem_cons.mpr ⟨⟨_, by simp, ax_le_rfl rfl⟩, (fun _ h => absurd h List.not_mem_nil)⟩)⟩) ?_
          have us : hy_z g280 3 1 = hy_z g 3 1 + 1 := by omega
          exact ih g280 z276 Hg280 ig280 Fg280 (by omega) (by omega) (by omega) (by omega) hp (by omega) (by rw [us]; exact tn) (by omega)
        · refine AR.s (pc' := 41) (lv' := [(1, .int dg), (0, .ref 3)]) (st' := [.ref 3]) (h' := g) _ hn_62 hk_62_40 rfl ?_
          refine AR.s (pc' := 42) (lv' := [(1, .int dg), (0, .ref 3)]) (st' := [.ref 3, .ref 3]) (h' := g) _ hn_62 hk_62_41 rfl ?_
          refine AR.gI hk_62_42 (by decide) Hg (q := 3) (n := 9) (by decide) (by decide +kernel) (by decide +kernel) (by decide) hy_t3_4 (fun x281 dx281 lx281 ux281 => ?_)
          show AR _ _ _ _ _ _ _ 45 [(1, .int dg), (0, .ref 3)] [.int x281, .ref 3] g _ _
          refine AR.bipushT hk_62_45 (by decide) (fun z282 ez282 => ?_)
          show AR _ _ _ _ _ _ _ 47 [(1, .int dg), (0, .ref 3)] [.int z282, .int x281, .ref 3] g _ _
          refine AR.imul (z := .int (x281 * z282)) (ax_look_ok hk_62_47).1 rfl ?_
          generalize x281 * z282 = z283
          show AR _ _ _ _ _ _ _ 48 [(1, .int dg), (0, .ref 3)] [.int z283, .ref 3] g _ _
          refine AR.s (pc' := 49) (lv' := [(1, .int dg), (0, .ref 3)]) (st' := [.ref 3, .int z283, .ref 3]) (h' := g) _ hn_62 hk_62_48 rfl ?_
          refine AR.gR hk_62_49 (by decide) Hg (q := 3) (n := 9) (by decide) (by decide +kernel) (by decide +kernel) (by decide) hy_t3_0 ?_
          show AR _ _ _ _ _ _ _ 52 [(1, .int dg), (0, .ref 3)] [.ref 1, .int z283, .ref 3] g _ _
          refine AR.s (pc' := 53) (lv' := [(1, .int dg), (0, .ref 3)]) (st' := [.ref 3, .ref 1, .int z283, .ref 3]) (h' := g) _ hn_62 hk_62_52 rfl ?_
          refine AR.gI hk_62_53 (by decide) Hg (q := 3) (n := 9) (by decide) (by decide +kernel) (by decide +kernel) (by decide) hy_t3_1 (fun x284 dx284 lx284 ux284 => ?_)
          show AR _ _ _ _ _ _ _ 56 [(1, .int dg), (0, .ref 3)] [.int x284, .ref 1, .int z283, .ref 3] g _ _
          have sx284 := hy_zi dx284
          obtain ⟨vc288, cc288⟩ := lt_c1 Hg
          refine AR.jr (r := 1) (as := [.int x284]) (rest := [.int z283, .ref 3]) hk_62_56 (by decide) (by decide +kernel) (by decide) cc288 rfl rfl (Nat.le_of_ble_eq_true rfl) (lt_68 hlst Hg) (by decide) (Nat.zero_le _) (Nat.zero_le _) ?_ (fun E h' q => by obtain ⟨-, x, e, -⟩ := q; cases e)
          rintro w286 g287 ⟨eg287, z285, e, ez285⟩
          cases e
          obtain rfl := eg287.symm
          show AR _ _ _ _ _ _ _ 59 [(1, .int dg), (0, .ref 3)] [.int z285, .int z283, .ref 3] g _ _
          refine AR.iadd (z := .int (z283 + z285)) (ax_look_ok hk_62_59).1 rfl ?_
          generalize z283 + z285 = z289
          show AR _ _ _ _ _ _ _ 60 [(1, .int dg), (0, .ref 3)] [.int z289, .ref 3] g _ _
          refine AR.bipushT hk_62_60 (by decide) (fun z290 ez290 => ?_)
          show AR _ _ _ _ _ _ _ 62 [(1, .int dg), (0, .ref 3)] [.int z290, .int z289, .ref 3] g _ _
          refine AR.isub (z := .int (z289 - z290)) (ax_look_ok hk_62_62).1 rfl ?_
          generalize z289 - z290 = z291
          show AR _ _ _ _ _ _ _ 63 [(1, .int dg), (0, .ref 3)] [.int z291, .ref 3] g _ _
          have r1 := Int32.le_toInt z291
          have r2 := Int32.toInt_lt z291
          refine AR.pT hk_62_63 (by decide) Hg Fg (q := 3) (by decide) (by decide +kernel) (show ax_cls[6]? = some hy_c6 from rfl) (by decide +kernel) (by decide) rfl (by rw [hy_t3_4]; exact ⟨_, rfl, by omega, by omega, Or.inl rfl⟩) (by decide +kernel) (by decide +kernel) ?_
          rintro g292 ⟨Hg292, Fg292, Gg292, Eg292⟩
          show AR _ _ _ _ _ _ _ 66 [(1, .int dg), (0, .ref 3)] [] g292 _ _
          have ig292 : hy_I g292 := ig.st Gg292 (by decide) Eg292 (by decide +kernel)
          have ug292_3_1 : hy_z g292 3 1 = hy_z g 3 1 := hy_ze (by rw [Eg292, if_neg (fun c => absurd c.2 (by decide))])
          have ug292_3_2 : hy_z g292 3 2 = hy_z g 3 2 := hy_ze (by rw [Eg292, if_neg (fun c => absurd c.2 (by decide))])
          have ug292_3_3 : hy_z g292 3 3 = hy_z g 3 3 := hy_ze (by rw [Eg292, if_neg (fun c => absurd c.2 (by decide))])
          refine AR.iincT hk_62_66 (x := dg) rfl (by rw [hn_62]; decide) (by decide) (by omega) (by omega) (fun z293 ez293 => ?_)
          show AR _ _ _ _ _ _ _ 69 [(1, .int z293), (0, .ref 3)] [] g292 _ _
          refine AR.s (pc' := 70) (lv' := [(1, .int z293), (0, .ref 3)]) (st' := [.ref 3]) (h' := g292) _ hn_62 hk_62_69 rfl ?_
          refine AR.s (pc' := 71) (lv' := [(1, .int z293), (0, .ref 3)]) (st' := [.ref 3, .ref 3]) (h' := g292) _ hn_62 hk_62_70 rfl ?_
          refine AR.gI hk_62_71 (by decide) Hg292 (q := 3) (n := 9) (by decide) (by decide +kernel) (by decide +kernel) (by decide) hy_t3_1 (fun x294 dx294 lx294 ux294 => ?_)
          show AR _ _ _ _ _ _ _ 74 [(1, .int z293), (0, .ref 3)] [.int x294, .ref 3] g292 _ _
          have sx294 := hy_zi dx294
          refine AR.iconstT hk_62_74 (by decide) (fun z295 ez295 => ?_)
          show AR _ _ _ _ _ _ _ 75 [(1, .int z293), (0, .ref 3)] [.int z295, .int x294, .ref 3] g292 _ _
          refine AR.addT hk_62_75 (by omega) (by omega) (fun z296 ez296 => ?_)
          show AR _ _ _ _ _ _ _ 76 [(1, .int z293), (0, .ref 3)] [.int z296, .ref 3] g292 _ _
          refine AR.pT hk_62_76 (by decide) Hg292 Fg292 (q := 3) (by decide) (by decide +kernel) (show ax_cls[6]? = some hy_c6 from rfl) (by decide +kernel) (by decide) rfl (by rw [hy_t3_1]; exact ⟨_, rfl, by omega, by omega, Or.inl rfl⟩) (by decide +kernel) (by decide +kernel) ?_
          rintro g297 ⟨Hg297, Fg297, Gg297, Eg297⟩
          show AR _ _ _ _ _ _ _ 79 [(1, .int z293), (0, .ref 3)] [] g297 _ _
          have ig297 : hy_I g297 := ig292.st Gg297 (by decide) Eg297 (by decide +kernel)
          have ug297_3_1 : hy_z g297 3 1 = z296.toInt := hy_zi (i := z296) (by rw [Eg297, if_pos ⟨rfl, rfl⟩])
          have ug297_3_2 : hy_z g297 3 2 = hy_z g292 3 2 := hy_ze (by rw [Eg297, if_neg (fun c => absurd c.2 (by decide))])
          have ug297_3_3 : hy_z g297 3 3 = hy_z g292 3 3 := hy_ze (by rw [Eg297, if_neg (fun c => absurd c.2 (by decide))])
          refine AR.gotoT hk_62_79 (tgt := 7) (by decide) ?_
          refine AR.lessL (lv' := [(1, .int z293), (0, .ref 3)]) (List.forall_mem_cons.mpr ⟨⟨_, by simp, ax_le_rfl rfl⟩, (List.forall_mem_cons.mpr ⟨⟨_, by simp, ax_le_rfl rfl⟩, (fun _ h => absurd h List.not_mem_nil)⟩)⟩) ?_
          have us : hy_z g297 3 1 = hy_z g 3 1 + 1 := by omega
          exact ih g297 z293 Hg297 ig297 Fg297 (by omega) (by omega) (by omega) (by omega) hp (by omega) (by rw [us]; exact tn) (by omega)
theorem lt_62 (hlst : l.stackTraces = false) (hH : hy_H 0 h) (hi : hy_I h) (h0 : 0 ≤ hy_z h 3 1) (h2 : hy_z h 3 1 ≤ 200) : AM ax_ns l (ax_mm 62) 1 ty_R (0) (0) [.ref 3] h (hq_tk h (if t_dg (t_B h) 201 (hy_z h 3 1) - hy_z h 3 1 ≤ 6 then 2 else 1) (t_dg (t_B h) 201 (hy_z h 3 1))) := by
  refine AM.of (ax_mfacts (by decide +kernel : ax_has 62 = true)).2.2.2.2.2.2 hlst (by rw [hn_62]; exact Nat.le_of_ble_eq_true rfl) ?_
  show AR ax_ns l (ax_mm 62) 1 ty_R _ _ 0 [(0, .ref 3)] [] h (0) (0)
  have F : ty_F 130023424 h h := ty_F_refl _ _
  refine AR.iconstT hk_62_0 (by decide) (fun z298 ez298 => ?_)
  show AR _ _ _ _ _ _ _ 1 [(0, .ref 3)] [.int z298] h _ _
  refine AR.s (pc' := 2) (lv' := [(1, .int z298), (0, .ref 3)]) (st' := []) (h' := h) _ hn_62 hk_62_1 rfl ?_
  refine AR.s (pc' := 3) (lv' := [(1, .int z298), (0, .ref 3)]) (st' := [.ref 3]) (h' := h) _ hn_62 hk_62_2 rfl ?_
  refine AR.iconstT hk_62_3 (by decide) (fun z299 ez299 => ?_)
  show AR _ _ _ _ _ _ _ 4 [(1, .int z298), (0, .ref 3)] [.int z299, .ref 3] h _ _
  refine AR.pT hk_62_4 (by decide) hH F (q := 3) (by decide) (by decide +kernel) (show ax_cls[6]? = some hy_c6 from rfl) (by decide +kernel) (by decide) rfl (by rw [hy_t3_4]; exact ⟨_, rfl, by omega, by omega, Or.inl rfl⟩) (by decide +kernel) (by decide +kernel) ?_
  rintro g300 ⟨Hg300, Fg300, Gg300, Eg300⟩
  show AR _ _ _ _ _ _ _ 7 [(1, .int z298), (0, .ref 3)] [] g300 _ _
  have ig300 : hy_I g300 := hi.st Gg300 (by decide) Eg300 (by decide +kernel)
  have ug300_3_1 : hy_z g300 3 1 = hy_z h 3 1 := hy_ze (by rw [Eg300, if_neg (fun c => absurd c.2 (by decide))])
  have ug300_3_2 : hy_z g300 3 2 = hy_z h 3 2 := hy_ze (by rw [Eg300, if_neg (fun c => absurd c.2 (by decide))])
  have ug300_3_3 : hy_z g300 3 3 = hy_z h 3 3 := hy_ze (by rw [Eg300, if_neg (fun c => absurd c.2 (by decide))])
  refine AR.lessL (lv' := [(1, .int z298), (0, .ref 3)]) (List.forall_mem_cons.mpr ⟨⟨_, by simp, ax_le_rfl rfl⟩, (List.forall_mem_cons.mpr ⟨⟨_, by simp, ax_le_rfl rfl⟩, (fun _ h => absurd h List.not_mem_nil)⟩)⟩) ?_
  exact lt_62L hlst hH 201 g300 z298 Hg300 ig300 Fg300 (by omega) (by omega) (by omega) (by omega) h0 (by omega) (by rw [ug300_3_1]) (by omega)
theorem lt_sp (hlst : l.stackTraces = false) {P : ax_P} {X : ax_PX} (hH : hy_H 0 h) : ∀ (n : Nat) (g : ax_H), hy_H 0 g → hy_I g → ty_F 130023424 h g → 0 ≤ hy_z g 3 1 → hy_z g 3 1 ≤ 200 → 201 ≤ hy_z g 3 1 + n → t_sp (t_B h) n (hy_z g 3 1) = t_sp (t_B h) 201 (hy_z h 3 1) → (∀ g', hy_H 0 g' → hy_I g' → ty_F 130023424 h g' → hy_z g' 3 1 = t_sp (t_B h) 201 (hy_z h 3 1) → 0 ≤ hy_z g' 3 1 → hy_z g' 3 1 ≤ 200 → AR ax_ns l (ax_mm 61) 2 ty_R P X 39 [(0, .ref 3)] [] g' 0 0) → AR ax_ns l (ax_mm 61) 2 ty_R P X 0 [(0, .ref 3)] [] g 0 0 := by
  intro n
  induction n with
  | zero => intro g _ _ _ _ _ _; omega
  | succ n ih =>
    intro g Hg ig Fg g0 g2 gn ht k
    have hB : t_B g = t_B h := t_B_F Fg (by decide +kernel)
    show AR _ _ _ _ _ _ _ 0 [(0, .ref 3)] [] g _ _
    refine AR.s (pc' := 1) (lv' := [(0, .ref 3)]) (st' := [.ref 3]) (h' := g) _ hn_61 hk_61_0 rfl ?_
    refine AR.gI hk_61_1 (by decide) Hg (q := 3) (n := 9) (by decide) (by decide +kernel) (by decide +kernel) (by decide) hy_t3_1 (fun x301 dx301 lx301 ux301 => ?_)
    show AR _ _ _ _ _ _ _ 4 [(0, .ref 3)] [.int x301] g _ _
    have sx301 := hy_zi dx301
    refine AR.sipushT hk_61_4 (by decide) (fun z302 ez302 => ?_)
    show AR _ _ _ _ _ _ _ 7 [(0, .ref 3)] [.int z302, .int x301] g _ _
    refine AR.jge hk_61_7 (tgt := 39) (by decide) (fun p1 => ?_) (fun p2 => ?_)
    · have b0 := t_B_lt hH (p := hy_z g 3 1) (by omega)
      have te : hy_z g 3 1 = t_sp (t_B h) 201 (hy_z h 3 1) := by
        rw [← ht]
        unfold t_sp
        rw [if_neg (by rw [b0]; decide)]
      exact k g Hg ig Fg te g0 g2
    · refine AR.s (pc' := 11) (lv' := [(0, .ref 3)]) (st' := [.ref 3]) (h' := g) _ hn_61 hk_61_10 rfl ?_
      refine AR.gR hk_61_11 (by decide) Hg (q := 3) (n := 9) (by decide) (by decide +kernel) (by decide +kernel) (by decide) hy_t3_0 ?_
      show AR _ _ _ _ _ _ _ 14 [(0, .ref 3)] [.ref 1] g _ _
      refine AR.s (pc' := 15) (lv' := [(0, .ref 3)]) (st' := [.ref 3, .ref 1]) (h' := g) _ hn_61 hk_61_14 rfl ?_
      refine AR.gI hk_61_15 (by decide) Hg (q := 3) (n := 9) (by decide) (by decide +kernel) (by decide +kernel) (by decide) hy_t3_1 (fun x303 dx303 lx303 ux303 => ?_)
      show AR _ _ _ _ _ _ _ 18 [(0, .ref 3)] [.int x303, .ref 1] g _ _
      have sx303 := hy_zi dx303
      obtain ⟨vc307, cc307⟩ := lt_c1 Hg
      refine AR.jr (r := 1) (as := [.int x303]) (rest := []) hk_61_18 (by decide) (by decide +kernel) (by decide) cc307 rfl rfl (Nat.le_of_ble_eq_true rfl) (lt_68 hlst Hg) (by decide) (Nat.zero_le _) (Nat.zero_le _) ?_ (fun E h' q => by obtain ⟨-, x, e, -⟩ := q; cases e)
      rintro w305 g306 ⟨eg306, z304, e, ez304⟩
      cases e
      obtain rfl := eg306.symm
      show AR _ _ _ _ _ _ _ 21 [(0, .ref 3)] [.int z304] g _ _
      have eb : t_B h (hy_z g 3 1) = z304.toInt := by rw [ez304, hB]; congr 1
      refine AR.bipushT hk_61_21 (by decide) (fun z308 ez308 => ?_)
      show AR _ _ _ _ _ _ _ 23 [(0, .ref 3)] [.int z308, .int z304] g _ _
      refine AR.jne hk_61_23 (tgt := 39) (by decide) (fun n1 => ?_) (fun n2 => ?_)
      · have te : hy_z g 3 1 = t_sp (t_B h) 201 (hy_z h 3 1) := by
          rw [← ht]
          unfold t_sp
          rw [if_neg (by rw [eb]; omega)]
        exact k g Hg ig Fg te g0 g2
      · have q2 : hy_z g 3 1 < 200 := by
          refine Int.not_le.mp (fun c => ?_)
          rw [t_B_lt hH c] at eb
          omega
        have tn : t_sp (t_B h) n (hy_z g 3 1 + 1) = t_sp (t_B h) 201 (hy_z h 3 1) := by
          rw [← ht]
          show _ = (if t_B h (hy_z g 3 1) = 32 then t_sp (t_B h) n (hy_z g 3 1 + 1) else hy_z g 3 1)
          rw [eb, if_pos (by omega)]
        show AR _ _ _ _ _ _ _ 26 [(0, .ref 3)] [] g _ _
        refine AR.s (pc' := 27) (lv' := [(0, .ref 3)]) (st' := [.ref 3]) (h' := g) _ hn_61 hk_61_26 rfl ?_
        refine AR.s (pc' := 28) (lv' := [(0, .ref 3)]) (st' := [.ref 3, .ref 3]) (h' := g) _ hn_61 hk_61_27 rfl ?_
        refine AR.gI hk_61_28 (by decide) Hg (q := 3) (n := 9) (by decide) (by decide +kernel) (by decide +kernel) (by decide) hy_t3_1 (fun x309 dx309 lx309 ux309 => ?_)
        show AR _ _ _ _ _ _ _ 31 [(0, .ref 3)] [.int x309, .ref 3] g _ _
        have sx309 := hy_zi dx309
        refine AR.iconstT hk_61_31 (by decide) (fun z310 ez310 => ?_)
        show AR _ _ _ _ _ _ _ 32 [(0, .ref 3)] [.int z310, .int x309, .ref 3] g _ _
        refine AR.addT hk_61_32 (by omega) (by omega) (fun z311 ez311 => ?_)
        show AR _ _ _ _ _ _ _ 33 [(0, .ref 3)] [.int z311, .ref 3] g _ _
        refine AR.pT hk_61_33 (by decide) Hg Fg (q := 3) (by decide) (by decide +kernel) (show ax_cls[6]? = some hy_c6 from rfl) (by decide +kernel) (by decide) rfl (by rw [hy_t3_1]; exact ⟨_, rfl, by omega, by omega, Or.inl rfl⟩) (by decide +kernel) (by decide +kernel) ?_
        rintro g312 ⟨Hg312, Fg312, Gg312, Eg312⟩
        show AR _ _ _ _ _ _ _ 36 [(0, .ref 3)] [] g312 _ _
        have ig312 : hy_I g312 := ig.st Gg312 (by decide) Eg312 (by decide +kernel)
        have ug312_3_1 : hy_z g312 3 1 = z311.toInt := hy_zi (i := z311) (by rw [Eg312, if_pos ⟨rfl, rfl⟩])
        refine AR.gotoT hk_61_36 (tgt := 0) (by decide) ?_
        have us : hy_z g312 3 1 = hy_z g 3 1 + 1 := by omega
        exact ih g312 Hg312 ig312 Fg312 (by omega) (by omega) (by omega) (by rw [us]; exact tn) k
def hq_61 (h : ax_H) : ax_Q := fun res g => hy_H 0 g ∧ ty_F 130023424 h g ∧ hy_I g ∧ res = .inl none ∧ hy_z g 3 1 = (t_nx (t_B h) (hy_z h 3 1)).2.2 ∧ hy_z g 3 2 = t_ck (t_nx (t_B h) (hy_z h 3 1)).1 ∧ hy_z g 3 3 = (t_nx (t_B h) (hy_z h 3 1)).2.1
theorem lt_61 (hlst : l.stackTraces = false) (hH : hy_H 0 h) (hi : hy_I h) (h0 : 0 ≤ hy_z h 3 1) (h2 : hy_z h 3 1 ≤ 200) : AM ax_ns l (ax_mm 61) 2 ty_R (0) (0) [.ref 3] h (hq_61 h) := by
  refine AM.of (ax_mfacts (by decide +kernel : ax_has 61 = true)).2.2.2.2.2.2 hlst (by rw [hn_61]; exact Nat.le_of_ble_eq_true rfl) ?_
  show AR ax_ns l (ax_mm 61) 2 ty_R _ _ 0 [(0, .ref 3)] [] h (0) (0)
  refine lt_sp hlst hH 201 h hH hi (ty_F_refl _ _) h0 h2 (by omega) rfl (fun g Hg ig Fg gs g0 g2 => ?_)
  generalize eS : t_sp (t_B h) 201 (hy_z h 3 1) = S at gs
  show AR _ _ _ _ _ _ _ 39 [(0, .ref 3)] [] g _ _
  refine AR.s (pc' := 40) (lv' := [(0, .ref 3)]) (st' := [.ref 3]) (h' := g) _ hn_61 hk_61_39 rfl ?_
  refine AR.s (pc' := 41) (lv' := [(0, .ref 3)]) (st' := [.ref 3, .ref 3]) (h' := g) _ hn_61 hk_61_40 rfl ?_
  refine AR.gI hk_61_41 (by decide) Hg (q := 3) (n := 9) (by decide) (by decide +kernel) (by decide +kernel) (by decide) hy_t3_1 (fun x313 dx313 lx313 ux313 => ?_)
  show AR _ _ _ _ _ _ _ 44 [(0, .ref 3)] [.int x313, .ref 3] g _ _
  have sx313 := hy_zi dx313
  refine AR.pT hk_61_44 (by decide) Hg Fg (q := 3) (by decide) (by decide +kernel) (show ax_cls[6]? = some hy_c6 from rfl) (by decide +kernel) (by decide) rfl (by rw [hy_t3_3]; exact ⟨_, rfl, by omega, by omega, Or.inl rfl⟩) (by decide +kernel) (by decide +kernel) ?_
  rintro g314 ⟨Hg314, Fg314, Gg314, Eg314⟩
  show AR _ _ _ _ _ _ _ 47 [(0, .ref 3)] [] g314 _ _
  have ig314 : hy_I g314 := ig.st Gg314 (by decide) Eg314 (by decide +kernel)
  have ug314_3_1 : hy_z g314 3 1 = hy_z g 3 1 := hy_ze (by rw [Eg314, if_neg (fun c => absurd c.2 (by decide))])
  have ug314_3_2 : hy_z g314 3 2 = hy_z g 3 2 := hy_ze (by rw [Eg314, if_neg (fun c => absurd c.2 (by decide))])
  have ug314_3_3 : hy_z g314 3 3 = x313.toInt := hy_zi (i := x313) (by rw [Eg314, if_pos ⟨rfl, rfl⟩])
  have hB : t_B g314 = t_B h := t_B_F Fg314 (by decide +kernel)
  have s1 : hy_z g314 3 1 = S := by omega
  have s3 : hy_z g314 3 3 = S := by omega
  refine AR.s (pc' := 48) (lv' := [(0, .ref 3)]) (st' := [.ref 3]) (h' := g314) _ hn_61 hk_61_47 rfl ?_
  refine AR.gR hk_61_48 (by decide) Hg314 (q := 3) (n := 9) (by decide) (by decide +kernel) (by decide +kernel) (by decide) hy_t3_0 ?_
  show AR _ _ _ _ _ _ _ 51 [(0, .ref 3)] [.ref 1] g314 _ _
  refine AR.s (pc' := 52) (lv' := [(0, .ref 3)]) (st' := [.ref 3, .ref 1]) (h' := g314) _ hn_61 hk_61_51 rfl ?_
  refine AR.gI hk_61_52 (by decide) Hg314 (q := 3) (n := 9) (by decide) (by decide +kernel) (by decide +kernel) (by decide) hy_t3_1 (fun x315 dx315 lx315 ux315 => ?_)
  show AR _ _ _ _ _ _ _ 55 [(0, .ref 3)] [.int x315, .ref 1] g314 _ _
  have sx315 := hy_zi dx315
  obtain ⟨vc319, cc319⟩ := lt_c1 Hg314
  refine AR.jr (r := 1) (as := [.int x315]) (rest := []) hk_61_55 (by decide) (by decide +kernel) (by decide) cc319 rfl rfl (Nat.le_of_ble_eq_true rfl) (lt_68 hlst Hg314) (by decide) (Nat.zero_le _) (Nat.zero_le _) ?_ (fun E h' q => by obtain ⟨-, x, e, -⟩ := q; cases e)
  rintro w317 g318 ⟨eg318, z316, e, ez316⟩
  cases e
  obtain rfl := eg318.symm
  show AR _ _ _ _ _ _ _ 58 [(0, .ref 3)] [.int z316] g314 _ _
  have ec : t_B h S = z316.toInt := by rw [ez316, hB]; congr 1; omega
  have TN : t_nx (t_B h) (hy_z h 3 1) = (if t_dig z316.toInt = true then (if t_dg (t_B h) 201 S - S ≤ 6 then 2 else 10, S, t_dg (t_B h) 201 S) else if 97 ≤ z316.toInt ∧ z316.toInt ≤ 108 then (3, S, S + 1) else ((t_sy z316.toInt (t_B h (S + 1))).1, S, S + (t_sy z316.toInt (t_B h (S + 1))).2)) := by unfold t_nx; rw [eS, ec]
  show AR _ _ _ _ _ _ _ 58 [(0, .ref 3)] [.int z316] g314 _ _
  refine AR.s (pc' := 59) (lv' := [(1, .int z316), (0, .ref 3)]) (st' := []) (h' := g314) _ hn_61 hk_61_58 rfl ?_
  refine AR.s (pc' := 60) (lv' := [(1, .int z316), (0, .ref 3)]) (st' := [.int z316]) (h' := g314) _ hn_61 hk_61_59 rfl ?_
  refine AR.cs (as := [.int z316]) (rest := []) hk_61_60 (by decide +kernel) rfl rfl (Nat.le_of_ble_eq_true rfl) (lt_65 hlst) (by decide) (Nat.zero_le _) (Nat.zero_le _) (fun E h' q => by obtain ⟨-, x, e, -⟩ := q; cases e) ?_
  rintro w321 g322 ⟨eg322, z320, e, Az320⟩
  cases e
  obtain rfl := eg322.symm
  show AR _ _ _ _ _ _ _ 63 [(1, .int z316), (0, .ref 3)] [.int z320] g314 _ _
  refine AR.zeq hk_61_63 (tgt := 73) (by decide) (fun p1 => ?_) (fun p2 => ?_)
  · have td : ¬ (t_dig z316.toInt = true) := by rcases Az320 with ⟨e, -⟩ | ⟨-, e⟩; exact absurd e (by omega); rw [e]; decide
    rw [if_neg td] at TN
    show AR _ _ _ _ _ _ _ 73 [(1, .int z316), (0, .ref 3)] [] g314 _ _
    refine AR.s (pc' := 74) (lv' := [(1, .int z316), (0, .ref 3)]) (st' := [.int z316]) (h' := g314) _ hn_61 hk_61_73 rfl ?_
    refine AR.bipushT hk_61_74 (by decide) (fun z326 ez326 => ?_)
    show AR _ _ _ _ _ _ _ 76 [(1, .int z316), (0, .ref 3)] [.int z326, .int z316] g314 _ _
    refine AR.jlt hk_61_76 (tgt := 102) (by decide) (fun n1 => ?_) (fun n2 => ?_)
    · rw [if_neg (fun c => absurd c.1 (by omega))] at TN
      show AR _ _ _ _ _ _ _ 102 [(1, .int z316), (0, .ref 3)] [] g314 _ _
      refine AR.s (pc' := 103) (lv' := [(1, .int z316), (0, .ref 3)]) (st' := [.ref 3]) (h' := g314) _ hn_61 hk_61_102 rfl ?_
      refine AR.s (pc' := 104) (lv' := [(1, .int z316), (0, .ref 3)]) (st' := [.int z316, .ref 3]) (h' := g314) _ hn_61 hk_61_103 rfl ?_
      obtain ⟨vc329, cc329⟩ := lt_c3 Hg314
      refine AR.jr (r := 3) (as := [.int z316]) (rest := []) hk_61_104 (by decide) (by decide +kernel) (by decide) cc329 rfl rfl (Nat.le_of_ble_eq_true rfl) (lt_63 hlst Hg314 ig314 (by omega) (by omega) (by rw [hB, s1, ec])) (by decide) (Nat.zero_le _) (Nat.zero_le _) ?_ (fun E h' q => by cases q.2.2.2.1)
      rintro w328 g327 ⟨Hg327, Tg327, ig327, eg327, ag327, bg327, cg327⟩
      cases eg327
      have Fg327 : ty_F 130023424 h g327 := ty_F.trans Fg314 Tg327
      show AR _ _ _ _ _ _ _ 107 [(1, .int z316), (0, .ref 3)] [] g327 _ _
      rw [hB, s1, ec] at ag327 bg327
      refine AR.vret hk_61_107 hr_61 ⟨Hg327, Fg327, ig327, rfl, ?_, ?_, ?_⟩
      · rw [TN]; exact ag327
      · rw [TN, bg327]
        show (t_sy _ _).1 = t_ck (t_sy _ _).1
        rw [t_ck, if_neg]
        unfold t_sy
        (repeat' split) <;> (show ¬ ((_ : Int) = 10)) <;> decide
      · rw [TN, cg327, s3]
    · refine AR.s (pc' := 80) (lv' := [(1, .int z316), (0, .ref 3)]) (st' := [.int z316]) (h' := g314) _ hn_61 hk_61_79 rfl ?_
      refine AR.bipushT hk_61_80 (by decide) (fun z330 ez330 => ?_)
      show AR _ _ _ _ _ _ _ 82 [(1, .int z316), (0, .ref 3)] [.int z330, .int z316] g314 _ _
      refine AR.jgt hk_61_82 (tgt := 102) (by decide) (fun n3 => ?_) (fun n4 => ?_)
      · rw [if_neg (fun c => absurd c.2 (by omega))] at TN
        show AR _ _ _ _ _ _ _ 102 [(1, .int z316), (0, .ref 3)] [] g314 _ _
        refine AR.s (pc' := 103) (lv' := [(1, .int z316), (0, .ref 3)]) (st' := [.ref 3]) (h' := g314) _ hn_61 hk_61_102 rfl ?_
        refine AR.s (pc' := 104) (lv' := [(1, .int z316), (0, .ref 3)]) (st' := [.int z316, .ref 3]) (h' := g314) _ hn_61 hk_61_103 rfl ?_
        obtain ⟨vc333, cc333⟩ := lt_c3 Hg314
        refine AR.jr (r := 3) (as := [.int z316]) (rest := []) hk_61_104 (by decide) (by decide +kernel) (by decide) cc333 rfl rfl (Nat.le_of_ble_eq_true rfl) (lt_63 hlst Hg314 ig314 (by omega) (by omega) (by rw [hB, s1, ec])) (by decide) (Nat.zero_le _) (Nat.zero_le _) ?_ (fun E h' q => by cases q.2.2.2.1)
        rintro w332 g331 ⟨Hg331, Tg331, ig331, eg331, ag331, bg331, cg331⟩
        cases eg331
        have Fg331 : ty_F 130023424 h g331 := ty_F.trans Fg314 Tg331
        show AR _ _ _ _ _ _ _ 107 [(1, .int z316), (0, .ref 3)] [] g331 _ _
        rw [hB, s1, ec] at ag331 bg331
        refine AR.vret hk_61_107 hr_61 ⟨Hg331, Fg331, ig331, rfl, ?_, ?_, ?_⟩
        · rw [TN]; exact ag331
        · rw [TN, bg331]
          show (t_sy _ _).1 = t_ck (t_sy _ _).1
          rw [t_ck, if_neg]
          unfold t_sy
          (repeat' split) <;> (show ¬ ((_ : Int) = 10)) <;> decide
        · rw [TN, cg331, s3]
      · rw [if_pos ⟨by omega, by omega⟩] at TN
        show AR _ _ _ _ _ _ _ 85 [(1, .int z316), (0, .ref 3)] [] g314 _ _
        refine AR.s (pc' := 86) (lv' := [(1, .int z316), (0, .ref 3)]) (st' := [.ref 3]) (h' := g314) _ hn_61 hk_61_85 rfl ?_
        refine AR.s (pc' := 87) (lv' := [(1, .int z316), (0, .ref 3)]) (st' := [.int z316, .ref 3]) (h' := g314) _ hn_61 hk_61_86 rfl ?_
        refine AR.bipushT hk_61_87 (by decide) (fun z334 ez334 => ?_)
        show AR _ _ _ _ _ _ _ 89 [(1, .int z316), (0, .ref 3)] [.int z334, .int z316, .ref 3] g314 _ _
        refine AR.subT hk_61_89 (by omega) (by omega) (fun z335 ez335 => ?_)
        show AR _ _ _ _ _ _ _ 90 [(1, .int z316), (0, .ref 3)] [.int z335, .ref 3] g314 _ _
        refine AR.pT hk_61_90 (by decide) Hg314 Fg314 (q := 3) (by decide) (by decide +kernel) (show ax_cls[6]? = some hy_c6 from rfl) (by decide +kernel) (by decide) rfl (by rw [hy_t3_5]; exact ⟨_, rfl, by omega, by omega, Or.inl rfl⟩) (by decide +kernel) (by decide +kernel) ?_
        rintro g336 ⟨Hg336, Fg336, Gg336, Eg336⟩
        show AR _ _ _ _ _ _ _ 93 [(1, .int z316), (0, .ref 3)] [] g336 _ _
        have ig336 : hy_I g336 := ig314.st Gg336 (by decide) Eg336 (by decide +kernel)
        have ug336_3_1 : hy_z g336 3 1 = hy_z g314 3 1 := hy_ze (by rw [Eg336, if_neg (fun c => absurd c.2 (by decide))])
        have ug336_3_2 : hy_z g336 3 2 = hy_z g314 3 2 := hy_ze (by rw [Eg336, if_neg (fun c => absurd c.2 (by decide))])
        have ug336_3_3 : hy_z g336 3 3 = hy_z g314 3 3 := hy_ze (by rw [Eg336, if_neg (fun c => absurd c.2 (by decide))])
        refine AR.s (pc' := 94) (lv' := [(1, .int z316), (0, .ref 3)]) (st' := [.ref 3]) (h' := g336) _ hn_61 hk_61_93 rfl ?_
        refine AR.iconstT hk_61_94 (by decide) (fun z337 ez337 => ?_)
        show AR _ _ _ _ _ _ _ 95 [(1, .int z316), (0, .ref 3)] [.int z337, .ref 3] g336 _ _
        refine AR.iconstT hk_61_95 (by decide) (fun z338 ez338 => ?_)
        show AR _ _ _ _ _ _ _ 96 [(1, .int z316), (0, .ref 3)] [.int z338, .int z337, .ref 3] g336 _ _
        obtain ⟨vc341, cc341⟩ := lt_c3 Hg336
        refine AR.jr (r := 3) (as := [.int z337, .int z338]) (rest := []) hk_61_96 (by decide) (by decide +kernel) (by decide) cc341 rfl rfl (Nat.le_of_ble_eq_true rfl) (lt_64 hlst Hg336 ig336 (by omega) (by omega) (by omega) (by omega) (by omega)) (by decide) (Nat.zero_le _) (Nat.zero_le _) ?_ (fun E h' q => by cases q.2.2.2.1)
        rintro w340 g339 ⟨Hg339, Tg339, ig339, eg339, ag339, bg339, cg339⟩
        cases eg339
        have Fg339 : ty_F 130023424 h g339 := ty_F.trans Fg336 Tg339
        show AR _ _ _ _ _ _ _ 99 [(1, .int z316), (0, .ref 3)] [] g339 _ _
        refine AR.gotoT hk_61_99 (tgt := 107) (by decide) ?_
        refine AR.vret hk_61_107 hr_61 ⟨Hg339, Fg339, ig339, rfl, ?_, ?_, ?_⟩
        · rw [TN]; show _ = S + 1; omega
        · rw [TN]; show _ = (3 : Int); omega
        · rw [TN]; show _ = S; omega
  · have td : t_dig z316.toInt = true := by rcases Az320 with ⟨-, e⟩ | ⟨e, -⟩; exact e; exact absurd e (by omega)
    rw [if_pos td] at TN
    show AR _ _ _ _ _ _ _ 66 [(1, .int z316), (0, .ref 3)] [] g314 _ _
    refine AR.s (pc' := 67) (lv' := [(1, .int z316), (0, .ref 3)]) (st' := [.ref 3]) (h' := g314) _ hn_61 hk_61_66 rfl ?_
    obtain ⟨vc325, cc325⟩ := lt_c3 Hg314
    refine AR.jr (r := 3) (as := []) (rest := []) hk_61_67 (by decide) (by decide +kernel) (by decide) cc325 rfl rfl (Nat.le_of_ble_eq_true rfl) (lt_62 hlst Hg314 ig314 (by omega) (by omega)) (by decide) (Nat.zero_le _) (Nat.zero_le _) ?_ (fun E h' q => by cases q.2.2.2.1)
    rintro w324 g323 ⟨Hg323, Tg323, ig323, eg323, ag323, bg323, cg323⟩
    cases eg323
    have Fg323 : ty_F 130023424 h g323 := ty_F.trans Fg314 Tg323
    show AR _ _ _ _ _ _ _ 70 [(1, .int z316), (0, .ref 3)] [] g323 _ _
    refine AR.gotoT hk_61_70 (tgt := 107) (by decide) ?_
    rw [hB, s1] at ag323 bg323
    refine AR.vret hk_61_107 hr_61 ⟨Hg323, Fg323, ig323, rfl, ?_, ?_, ?_⟩
    · rw [TN]; exact ag323
    · rw [TN, bg323]
      show _ = t_ck (if t_dg (t_B h) 201 S - S ≤ 6 then 2 else 10)
      split <;> rfl
    · rw [TN, cg323, s3]
abbrev t_K := Int × Int × Int
theorem t_sp_rg (B : Int → Int) (hB : ∀ p, 200 ≤ p → B p = -1) : ∀ (n : Nat) (p : Int), p ≤ 200 → p ≤ t_sp B n p ∧ t_sp B n p ≤ 200
  | 0, p, h => ⟨Int.le_refl _, h⟩
  | n + 1, p, h => by
    unfold t_sp
    split
    · rename_i hd
      rcases Int.lt_or_le p 200 with e | e
      · have := t_sp_rg B hB n (p + 1) (by omega)
        omega
      · rw [hB p e] at hd
        cases hd
    · omega
theorem t_sy_rg (c d : Int) : 0 ≤ (t_sy c d).2 ∧ (t_sy c d).2 ≤ 2 ∧ 0 ≤ (t_sy c d).1 ∧ (t_sy c d).1 ≤ 9 ∧ ((t_sy c d).2 = 0 ∨ 0 ≤ c) ∧ ((t_sy c d).2 = 2 → d = 61) ∧ ((t_sy c d).1 ≠ 0 → (t_sy c d).1 ≠ 1 → 1 ≤ (t_sy c d).2) := by
  unfold t_sy
  (repeat' split) <;> (refine ⟨by decide, by decide, by decide, by decide, ?_, ?_, ?_⟩) <;> first | (intro e; omega) | (intro e1 e2; omega) | omega
/-- where a token lies; all but the end and what is none take a place -/
theorem t_nx_rg (B : Int → Int) (hB : ∀ p, 200 ≤ p → B p = -1) {p : Int} (h : p ≤ 200) : p ≤ (t_nx B p).2.1 ∧ (t_nx B p).2.1 ≤ (t_nx B p).2.2 ∧ (t_nx B p).2.2 ≤ 200 ∧ 0 ≤ (t_nx B p).1 ∧ (t_nx B p).1 ≤ 10 ∧ ((t_nx B p).1 ≠ 0 → (t_nx B p).1 ≠ 1 → (t_nx B p).2.1 < (t_nx B p).2.2) := by
  have s1 := t_sp_rg B hB 201 p h
  generalize eS : t_sp B 201 p = S at s1
  have hS : 0 ≤ B S → S < 200 := fun e => Int.not_le.mp (fun c => by rw [hB S c] at e; omega)
  unfold t_nx
  rw [eS]
  by_cases hd : t_dig (B S) = true
  · rw [if_pos hd]
    have d1 : t_dg B 201 S = t_dg B 200 (S + 1) := by
      show (if t_dig (B S) = true then t_dg B 200 (S + 1) else S) = _
      rw [if_pos hd]
    have c0 : 0 ≤ B S := by
      unfold t_dig at hd
      rw [Bool.and_eq_true] at hd
      have := of_decide_eq_true hd.1
      omega
    have d2 := t_dg_rg B hB 200 (S + 1) (by have := hS c0; omega)
    rw [d1]
    refine ⟨s1.1, (show S ≤ t_dg B 200 (S + 1) by omega), d2.2, ?_, ?_, fun _ _ => (show S < t_dg B 200 (S + 1) by omega)⟩
    · show 0 ≤ (if _ then (2 : Int) else 10); split <;> decide
    · show (if _ then (2 : Int) else 10) ≤ 10; split <;> decide
  · rw [if_neg hd]
    by_cases hl : 97 ≤ B S ∧ B S ≤ 108
    · rw [if_pos hl]
      have := hS (by omega)
      exact ⟨s1.1, (show S ≤ S + 1 by omega), (show S + 1 ≤ 200 by omega), (show (0 : Int) ≤ 3 by decide), (show (3 : Int) ≤ 10 by decide), fun _ _ => (show S < S + 1 by omega)⟩
    · rw [if_neg hl]
      obtain ⟨r1, r2, r3, r4, r5, r6, r7⟩ := t_sy_rg (B S) (B (S + 1))
      have e200 : S + (t_sy (B S) (B (S + 1))).2 ≤ 200 := by
        rcases r5 with r5 | r5
        · omega
        · have := hS r5
          rcases (by omega : (t_sy (B S) (B (S + 1))).2 ≤ 1 ∨ (t_sy (B S) (B (S + 1))).2 = 2) with e | e
          · omega
          · have e6 := r6 e
            have : S + 1 < 200 := Int.not_le.mp (fun c => by rw [hB _ c] at e6; omega)
            omega
      exact ⟨s1.1, (show S ≤ S + (t_sy (B S) (B (S + 1))).2 by omega), e200, r3, (show (t_sy (B S) (B (S + 1))).1 ≤ 10 by omega), fun a b => (show S < S + (t_sy (B S) (B (S + 1))).2 by have := r7 a b; omega)⟩
def t_ad (B : Int → Int) (T : t_K) : t_K := t_nx B T.2.2
def t_t1 (B : Int → Int) (T : t_K) : t_K := if T.1 = 2 then t_ad B T else T
def t_t2 (B : Int → Int) (T : t_K) : t_K := if T.1 = 6 then t_ad B T else T
/-- a letter -/
def t_t3 (B : Int → Int) (T : t_K) : Bool × t_K := if T.1 = 3 then (true, t_ad B T) else (false, T)
/-- a term -/
def t_tm (B : Int → Int) (T : t_K) : Bool × t_K := t_t3 B (t_t2 B (t_t1 B T))
def t_mi (B : Int → Int) (T : t_K) : t_K := if T.1 = 5 then t_ad B T else T
/-- more terms -/
def t_ms (B : Int → Int) : Nat → Bool × t_K → Bool × t_K
  | 0, R => R
  | n + 1, R => if R.1 = true ∧ (R.2.1 = 4 ∨ R.2.1 = 5) then t_ms B n (t_tm B (t_ad B R.2)) else R
def t_su (B : Int → Int) (T : t_K) : Bool × t_K := t_ms B 200 (t_tm B (t_mi B T))
def t_re (B : Int → Int) (T : t_K) : Bool × t_K := if T.1 = 7 ∨ T.1 = 8 ∨ T.1 = 9 then (true, t_ad B T) else (false, T)
def t_bd (B : Int → Int) (T : t_K) : Bool × t_K := if (t_mi B T).1 = 2 then (true, t_ad B (t_mi B T)) else (false, t_mi B T)
def t_all (B : Int → Int) : Bool × t_K :=
  if (t_su B (t_nx B 0)).1 = true then
    (if (t_re B (t_su B (t_nx B 0)).2).1 = true then
      (if (t_bd B (t_re B (t_su B (t_nx B 0)).2).2).1 = true then (decide ((t_bd B (t_re B (t_su B (t_nx B 0)).2).2).2.1 = 0), (t_bd B (t_re B (t_su B (t_nx B 0)).2).2).2)
       else (false, (t_bd B (t_re B (t_su B (t_nx B 0)).2).2).2))
     else (false, (t_re B (t_su B (t_nx B 0)).2).2))
  else (false, (t_su B (t_nx B 0)).2)
/-- the place of the error, -1 if there is none -/
def t_er (B : Int → Int) : Int := if (t_all B).1 = true then -1 else (t_all B).2.2.1
/-- the Reader stands at T -/
def t_st (B : Int → Int) (h : ax_H) (T : t_K) : Prop := hy_H 0 h ∧ hy_I h ∧ hy_z h 3 1 = T.2.2 ∧ hy_z h 3 2 = t_ck T.1 ∧ hy_z h 3 3 = T.2.1 ∧ t_B h = B ∧ 0 ≤ T.2.2 ∧ T.2.2 ≤ 200
theorem t_ck_s (k : Int) : (k = 10 → t_ck k = 1) ∧ (k ≠ 10 → t_ck k = k) := ⟨fun e => if_pos e, fun e => if_neg e⟩
def hq_nx (B : Int → Int) (h : ax_H) (T : t_K) : ax_Q := fun res g => res = .inl none ∧ t_st B g T ∧ ty_F 2143289344 h g ∧ hy_z g 3 7 = hy_z h 3 7
theorem lt_nx (hlst : l.stackTraces = false) {B : Int → Int} {T : t_K} (S : t_st B h T) : AM ax_ns l (ax_mm 61) 2 ty_R 0 0 [.ref 3] h (hq_nx B h (t_ad B T)) := by
  obtain ⟨hH, hi, p1, p2, p3, eB, q0, q2⟩ := S
  refine AM.mono ?_ (lt_61 hlst hH hi (by omega) (by omega))
  rintro res g ⟨H, F, i, e, a1, a2, a3⟩
  have hB : ∀ p, 200 ≤ p → B p = -1 := fun p hp => by rw [← eB]; exact t_B_lt hH hp
  rw [eB, p1] at a1 a2 a3
  have r := t_nx_rg B hB q2
  exact ⟨e, ⟨H, i, a1, a2, a3, (t_B_F F (by decide +kernel)).trans eB, Int.le_trans q0 (Int.le_trans r.1 r.2.1), r.2.2.1⟩, ty_F.sub (by decide +kernel) F, hy_zF F 7 (q := 3) (by decide) (by decide +kernel) (by decide +kernel)⟩
def hq_b (B : Int → Int) (h : ax_H) (R : Bool × t_K) : ax_Q := fun res g => ∃ z : Int32, res = .inl (some (.int z)) ∧ z.toInt = (if R.1 = true then 1 else 0) ∧ t_st B g R.2 ∧ ty_F 2143289344 h g
variable {B : Int → Int} {T : t_K}
theorem lt_60 (hlst : l.stackTraces = false) (S : t_st B h T) : AM ax_ns l (ax_mm 60) 3 ty_R (0) (0) [.ref 3] h (fun res g => ∃ z : Int32, res = .inl (some (.int z)) ∧ (z.toInt = 0 ∨ z.toInt = 1) ∧ t_st B g (t_mi B T) ∧ ty_F 2143289344 h g ∧ hy_z g 3 7 = hy_z h 3 7) := by
  refine AM.of (ax_mfacts (by decide +kernel : ax_has 60 = true)).2.2.2.2.2.2 hlst (by rw [hn_60]; exact Nat.le_of_ble_eq_true rfl) ?_
  show AR ax_ns l (ax_mm 60) 3 ty_R _ _ 0 [(0, .ref 3)] [] h (0) (0)
  have F : ty_F 2143289344 h h := ty_F_refl _ _
  obtain ⟨hH, if342, af342, bf342, cf342, tf342, uf342, vf342⟩ := id S
  have kf342 := t_ck_s (T).1
  show AR _ _ _ _ _ _ _ 0 [(0, .ref 3)] [] h _ _
  refine AR.s (pc' := 1) (lv' := [(0, .ref 3)]) (st' := [.ref 3]) (h' := h) _ hn_60 hk_60_0 rfl ?_
  refine AR.gI hk_60_1 (by decide) hH (q := 3) (n := 9) (by decide) (by decide +kernel) (by decide +kernel) (by decide) hy_t3_2 (fun x343 dx343 lx343 ux343 => ?_)
  show AR _ _ _ _ _ _ _ 4 [(0, .ref 3)] [.int x343] h _ _
  have sx343 := hy_zi dx343
  refine AR.iconstT hk_60_4 (by decide) (fun z344 ez344 => ?_)
  show AR _ _ _ _ _ _ _ 5 [(0, .ref 3)] [.int z344, .int x343] h _ _
  refine AR.jeq hk_60_5 (tgt := 10) (by decide) (fun p1 => ?_) (fun p2 => ?_)
  · have e5 : t_mi B T = t_ad B T := if_pos (by omega)
    refine AR.s (pc' := 11) (lv' := [(0, .ref 3)]) (st' := [.ref 3]) (h' := h) _ hn_60 hk_60_10 rfl ?_
    obtain ⟨vc348, cc348⟩ := lt_c3 hH
    refine AR.jr (r := 3) (as := []) (rest := []) hk_60_11 (by decide) (by decide +kernel) (by decide) cc348 rfl rfl (Nat.le_of_ble_eq_true rfl) (lt_nx hlst S) (by decide) (Nat.zero_le _) (Nat.zero_le _) ?_ (fun E h' q => by cases q.1)
    rintro w347 g346 ⟨eg346, Sg346, Tg346, rg346⟩
    cases eg346
    have Fg346 : ty_F 2143289344 h g346 := ty_F.trans F Tg346
    show AR _ _ _ _ _ _ _ 14 [(0, .ref 3)] [] g346 _ _
    obtain ⟨Hg346, if349, af349, bf349, cf349, tf349, uf349, vf349⟩ := id Sg346
    have kf349 := t_ck_s (t_ad B (T)).1
    refine AR.iconstT hk_60_14 (by decide) (fun z350 ez350 => ?_)
    show AR _ _ _ _ _ _ _ 15 [(0, .ref 3)] [.int z350] g346 _ _
    exact AR.zret hk_60_15 hr_60 (Or.inr (by omega)) ⟨_, rfl, Or.inr (by omega), by rw [e5]; exact Sg346, Fg346, rg346⟩
  · have e5 : t_mi B T = T := if_neg (by omega)
    refine AR.iconstT hk_60_8 (by decide) (fun z345 ez345 => ?_)
    show AR _ _ _ _ _ _ _ 9 [(0, .ref 3)] [.int z345] h _ _
    exact AR.zret hk_60_9 hr_60 (Or.inl (by omega)) ⟨_, rfl, Or.inl (by omega), by rw [e5]; exact S, F, rfl⟩
theorem lt_58 (hlst : l.stackTraces = false) (S : t_st B h T) : AM ax_ns l (ax_mm 58) 3 ty_R (0) (0) [.ref 3] h (fun res g => hq_b B h (t_re B T) res g ∧ ((t_re B T).1 = true → 7 ≤ hy_z g 3 7 ∧ hy_z g 3 7 ≤ 9)) := by
  refine AM.of (ax_mfacts (by decide +kernel : ax_has 58 = true)).2.2.2.2.2.2 hlst (by rw [hn_58]; exact Nat.le_of_ble_eq_true rfl) ?_
  show AR ax_ns l (ax_mm 58) 3 ty_R _ _ 0 [(0, .ref 3)] [] h (0) (0)
  have F : ty_F 2143289344 h h := ty_F_refl _ _
  obtain ⟨hH, if351, af351, bf351, cf351, tf351, uf351, vf351⟩ := id S
  have kf351 := t_ck_s (T).1
  show AR _ _ _ _ _ _ _ 0 [(0, .ref 3)] [] h _ _
  refine AR.s (pc' := 1) (lv' := [(0, .ref 3)]) (st' := [.ref 3]) (h' := h) _ hn_58 hk_58_0 rfl ?_
  refine AR.gI hk_58_1 (by decide) hH (q := 3) (n := 9) (by decide) (by decide +kernel) (by decide +kernel) (by decide) hy_t3_2 (fun x352 dx352 lx352 ux352 => ?_)
  show AR _ _ _ _ _ _ _ 4 [(0, .ref 3)] [.int x352] h _ _
  have sx352 := hy_zi dx352
  refine AR.bipushT hk_58_4 (by decide) (fun z353 ez353 => ?_)
  show AR _ _ _ _ _ _ _ 6 [(0, .ref 3)] [.int z353, .int x352] h _ _
  refine AR.jeq hk_58_6 (tgt := 29) (by decide) (fun y0 => ?_) (fun n0 => ?_)
  · have er : t_re B T = (true, t_ad B T) := if_pos (by omega)
    refine AR.s (pc' := 30) (lv' := [(0, .ref 3)]) (st' := [.ref 3]) (h' := h) _ hn_58 hk_58_29 rfl ?_
    refine AR.s (pc' := 31) (lv' := [(0, .ref 3)]) (st' := [.ref 3, .ref 3]) (h' := h) _ hn_58 hk_58_30 rfl ?_
    refine AR.gI hk_58_31 (by decide) hH (q := 3) (n := 9) (by decide) (by decide +kernel) (by decide +kernel) (by decide) hy_t3_2 (fun x354 dx354 lx354 ux354 => ?_)
    show AR _ _ _ _ _ _ _ 34 [(0, .ref 3)] [.int x354, .ref 3] h _ _
    have sx354 := hy_zi dx354
    refine AR.pT hk_58_34 (by decide) hH F (q := 3) (by decide) (by decide +kernel) (show ax_cls[6]? = some hy_c6 from rfl) (by decide +kernel) (by decide) rfl (by rw [hy_t3_7]; exact ⟨_, rfl, by omega, by omega, Or.inl rfl⟩) (by decide +kernel) (by decide +kernel) ?_
    rintro g355 ⟨Hg355, Fg355, Gg355, Eg355⟩
    show AR _ _ _ _ _ _ _ 37 [(0, .ref 3)] [] g355 _ _
    have ig355 : hy_I g355 := if351.st Gg355 (by decide) Eg355 (by decide +kernel)
    have ug355_3_1 : hy_z g355 3 1 = hy_z h 3 1 := hy_ze (by rw [Eg355, if_neg (fun c => absurd c.2 (by decide))])
    have ug355_3_2 : hy_z g355 3 2 = hy_z h 3 2 := hy_ze (by rw [Eg355, if_neg (fun c => absurd c.2 (by decide))])
    have ug355_3_3 : hy_z g355 3 3 = hy_z h 3 3 := hy_ze (by rw [Eg355, if_neg (fun c => absurd c.2 (by decide))])
    have ug355_3_7 : hy_z g355 3 7 = x354.toInt := hy_zi (i := x354) (by rw [Eg355, if_pos ⟨rfl, rfl⟩])
    have S2 : t_st B g355 T := ⟨Hg355, ig355, by omega, by omega, by omega, (t_B_F Gg355 (by decide +kernel)).trans tf351, by omega, by omega⟩
    refine AR.s (pc' := 38) (lv' := [(0, .ref 3)]) (st' := [.ref 3]) (h' := g355) _ hn_58 hk_58_37 rfl ?_
    obtain ⟨vc358, cc358⟩ := lt_c3 Hg355
    refine AR.jr (r := 3) (as := []) (rest := []) hk_58_38 (by decide) (by decide +kernel) (by decide) cc358 rfl rfl (Nat.le_of_ble_eq_true rfl) (lt_nx hlst S2) (by decide) (Nat.zero_le _) (Nat.zero_le _) ?_ (fun E h' q => by cases q.1)
    rintro w357 g356 ⟨eg356, Sg356, Tg356, rg356⟩
    cases eg356
    have Fg356 : ty_F 2143289344 h g356 := ty_F.trans Fg355 Tg356
    show AR _ _ _ _ _ _ _ 41 [(0, .ref 3)] [] g356 _ _
    obtain ⟨Hg356, if359, af359, bf359, cf359, tf359, uf359, vf359⟩ := id Sg356
    have kf359 := t_ck_s (t_ad B (T)).1
    refine AR.iconstT hk_58_41 (by decide) (fun z360 ez360 => ?_)
    show AR _ _ _ _ _ _ _ 42 [(0, .ref 3)] [.int z360] g356 _ _
    exact AR.zret hk_58_42 hr_58 (Or.inr (by omega)) ⟨⟨_, rfl, by rw [er]; show _ = (1 : Int); omega, by rw [er]; exact Sg356, Fg356⟩, fun _ => by omega⟩
  · refine AR.s (pc' := 10) (lv' := [(0, .ref 3)]) (st' := [.ref 3]) (h' := h) _ hn_58 hk_58_9 rfl ?_
    refine AR.gI hk_58_10 (by decide) hH (q := 3) (n := 9) (by decide) (by decide +kernel) (by decide +kernel) (by decide) hy_t3_2 (fun x361 dx361 lx361 ux361 => ?_)
    show AR _ _ _ _ _ _ _ 13 [(0, .ref 3)] [.int x361] h _ _
    have sx361 := hy_zi dx361
    refine AR.bipushT hk_58_13 (by decide) (fun z362 ez362 => ?_)
    show AR _ _ _ _ _ _ _ 15 [(0, .ref 3)] [.int z362, .int x361] h _ _
    refine AR.jeq hk_58_15 (tgt := 29) (by decide) (fun y1 => ?_) (fun n1 => ?_)
    · have er : t_re B T = (true, t_ad B T) := if_pos (by omega)
      refine AR.s (pc' := 30) (lv' := [(0, .ref 3)]) (st' := [.ref 3]) (h' := h) _ hn_58 hk_58_29 rfl ?_
      refine AR.s (pc' := 31) (lv' := [(0, .ref 3)]) (st' := [.ref 3, .ref 3]) (h' := h) _ hn_58 hk_58_30 rfl ?_
      refine AR.gI hk_58_31 (by decide) hH (q := 3) (n := 9) (by decide) (by decide +kernel) (by decide +kernel) (by decide) hy_t3_2 (fun x363 dx363 lx363 ux363 => ?_)
      show AR _ _ _ _ _ _ _ 34 [(0, .ref 3)] [.int x363, .ref 3] h _ _
      have sx363 := hy_zi dx363
      refine AR.pT hk_58_34 (by decide) hH F (q := 3) (by decide) (by decide +kernel) (show ax_cls[6]? = some hy_c6 from rfl) (by decide +kernel) (by decide) rfl (by rw [hy_t3_7]; exact ⟨_, rfl, by omega, by omega, Or.inl rfl⟩) (by decide +kernel) (by decide +kernel) ?_
      rintro g364 ⟨Hg364, Fg364, Gg364, Eg364⟩
      show AR _ _ _ _ _ _ _ 37 [(0, .ref 3)] [] g364 _ _
      have ig364 : hy_I g364 := if351.st Gg364 (by decide) Eg364 (by decide +kernel)
      have ug364_3_1 : hy_z g364 3 1 = hy_z h 3 1 := hy_ze (by rw [Eg364, if_neg (fun c => absurd c.2 (by decide))])
      have ug364_3_2 : hy_z g364 3 2 = hy_z h 3 2 := hy_ze (by rw [Eg364, if_neg (fun c => absurd c.2 (by decide))])
      have ug364_3_3 : hy_z g364 3 3 = hy_z h 3 3 := hy_ze (by rw [Eg364, if_neg (fun c => absurd c.2 (by decide))])
      have ug364_3_7 : hy_z g364 3 7 = x363.toInt := hy_zi (i := x363) (by rw [Eg364, if_pos ⟨rfl, rfl⟩])
      have S2 : t_st B g364 T := ⟨Hg364, ig364, by omega, by omega, by omega, (t_B_F Gg364 (by decide +kernel)).trans tf351, by omega, by omega⟩
      refine AR.s (pc' := 38) (lv' := [(0, .ref 3)]) (st' := [.ref 3]) (h' := g364) _ hn_58 hk_58_37 rfl ?_
      obtain ⟨vc367, cc367⟩ := lt_c3 Hg364
      refine AR.jr (r := 3) (as := []) (rest := []) hk_58_38 (by decide) (by decide +kernel) (by decide) cc367 rfl rfl (Nat.le_of_ble_eq_true rfl) (lt_nx hlst S2) (by decide) (Nat.zero_le _) (Nat.zero_le _) ?_ (fun E h' q => by cases q.1)
      rintro w366 g365 ⟨eg365, Sg365, Tg365, rg365⟩
      cases eg365
      have Fg365 : ty_F 2143289344 h g365 := ty_F.trans Fg364 Tg365
      show AR _ _ _ _ _ _ _ 41 [(0, .ref 3)] [] g365 _ _
      obtain ⟨Hg365, if368, af368, bf368, cf368, tf368, uf368, vf368⟩ := id Sg365
      have kf368 := t_ck_s (t_ad B (T)).1
      refine AR.iconstT hk_58_41 (by decide) (fun z369 ez369 => ?_)
      show AR _ _ _ _ _ _ _ 42 [(0, .ref 3)] [.int z369] g365 _ _
      exact AR.zret hk_58_42 hr_58 (Or.inr (by omega)) ⟨⟨_, rfl, by rw [er]; show _ = (1 : Int); omega, by rw [er]; exact Sg365, Fg365⟩, fun _ => by omega⟩
    · refine AR.s (pc' := 19) (lv' := [(0, .ref 3)]) (st' := [.ref 3]) (h' := h) _ hn_58 hk_58_18 rfl ?_
      refine AR.gI hk_58_19 (by decide) hH (q := 3) (n := 9) (by decide) (by decide +kernel) (by decide +kernel) (by decide) hy_t3_2 (fun x370 dx370 lx370 ux370 => ?_)
      show AR _ _ _ _ _ _ _ 22 [(0, .ref 3)] [.int x370] h _ _
      have sx370 := hy_zi dx370
      refine AR.bipushT hk_58_22 (by decide) (fun z371 ez371 => ?_)
      show AR _ _ _ _ _ _ _ 24 [(0, .ref 3)] [.int z371, .int x370] h _ _
      refine AR.jeq hk_58_24 (tgt := 29) (by decide) (fun y2 => ?_) (fun n2 => ?_)
      · have er : t_re B T = (true, t_ad B T) := if_pos (by omega)
        refine AR.s (pc' := 30) (lv' := [(0, .ref 3)]) (st' := [.ref 3]) (h' := h) _ hn_58 hk_58_29 rfl ?_
        refine AR.s (pc' := 31) (lv' := [(0, .ref 3)]) (st' := [.ref 3, .ref 3]) (h' := h) _ hn_58 hk_58_30 rfl ?_
        refine AR.gI hk_58_31 (by decide) hH (q := 3) (n := 9) (by decide) (by decide +kernel) (by decide +kernel) (by decide) hy_t3_2 (fun x372 dx372 lx372 ux372 => ?_)
        show AR _ _ _ _ _ _ _ 34 [(0, .ref 3)] [.int x372, .ref 3] h _ _
        have sx372 := hy_zi dx372
        refine AR.pT hk_58_34 (by decide) hH F (q := 3) (by decide) (by decide +kernel) (show ax_cls[6]? = some hy_c6 from rfl) (by decide +kernel) (by decide) rfl (by rw [hy_t3_7]; exact ⟨_, rfl, by omega, by omega, Or.inl rfl⟩) (by decide +kernel) (by decide +kernel) ?_
        rintro g373 ⟨Hg373, Fg373, Gg373, Eg373⟩
        show AR _ _ _ _ _ _ _ 37 [(0, .ref 3)] [] g373 _ _
        have ig373 : hy_I g373 := if351.st Gg373 (by decide) Eg373 (by decide +kernel)
        have ug373_3_1 : hy_z g373 3 1 = hy_z h 3 1 := hy_ze (by rw [Eg373, if_neg (fun c => absurd c.2 (by decide))])
        have ug373_3_2 : hy_z g373 3 2 = hy_z h 3 2 := hy_ze (by rw [Eg373, if_neg (fun c => absurd c.2 (by decide))])
        have ug373_3_3 : hy_z g373 3 3 = hy_z h 3 3 := hy_ze (by rw [Eg373, if_neg (fun c => absurd c.2 (by decide))])
        have ug373_3_7 : hy_z g373 3 7 = x372.toInt := hy_zi (i := x372) (by rw [Eg373, if_pos ⟨rfl, rfl⟩])
        have S2 : t_st B g373 T := ⟨Hg373, ig373, by omega, by omega, by omega, (t_B_F Gg373 (by decide +kernel)).trans tf351, by omega, by omega⟩
        refine AR.s (pc' := 38) (lv' := [(0, .ref 3)]) (st' := [.ref 3]) (h' := g373) _ hn_58 hk_58_37 rfl ?_
        obtain ⟨vc376, cc376⟩ := lt_c3 Hg373
        refine AR.jr (r := 3) (as := []) (rest := []) hk_58_38 (by decide) (by decide +kernel) (by decide) cc376 rfl rfl (Nat.le_of_ble_eq_true rfl) (lt_nx hlst S2) (by decide) (Nat.zero_le _) (Nat.zero_le _) ?_ (fun E h' q => by cases q.1)
        rintro w375 g374 ⟨eg374, Sg374, Tg374, rg374⟩
        cases eg374
        have Fg374 : ty_F 2143289344 h g374 := ty_F.trans Fg373 Tg374
        show AR _ _ _ _ _ _ _ 41 [(0, .ref 3)] [] g374 _ _
        obtain ⟨Hg374, if377, af377, bf377, cf377, tf377, uf377, vf377⟩ := id Sg374
        have kf377 := t_ck_s (t_ad B (T)).1
        refine AR.iconstT hk_58_41 (by decide) (fun z378 ez378 => ?_)
        show AR _ _ _ _ _ _ _ 42 [(0, .ref 3)] [.int z378] g374 _ _
        exact AR.zret hk_58_42 hr_58 (Or.inr (by omega)) ⟨⟨_, rfl, by rw [er]; show _ = (1 : Int); omega, by rw [er]; exact Sg374, Fg374⟩, fun _ => by omega⟩
      · have er : t_re B T = (false, T) := if_neg (by omega)
        refine AR.iconstT hk_58_27 (by decide) (fun z379 ez379 => ?_)
        show AR _ _ _ _ _ _ _ 28 [(0, .ref 3)] [.int z379] h _ _
        exact AR.zret hk_58_28 hr_58 (Or.inl (by omega)) ⟨⟨_, rfl, by rw [er]; show _ = (0 : Int); omega, by rw [er]; exact S, F⟩, fun c => by rw [er] at c; cases c⟩
theorem lt_59 (hlst : l.stackTraces = false) (S : t_st B h T) : AM ax_ns l (ax_mm 59) 4 ty_R (0) (0) [.ref 3] h (fun res g => hq_b B h (t_bd B T) res g ∧ hy_z g 3 7 = hy_z h 3 7) := by
  refine AM.of (ax_mfacts (by decide +kernel : ax_has 59 = true)).2.2.2.2.2.2 hlst (by rw [hn_59]; exact Nat.le_of_ble_eq_true rfl) ?_
  show AR ax_ns l (ax_mm 59) 4 ty_R _ _ 0 [(0, .ref 3)] [] h (0) (0)
  have F : ty_F 2143289344 h h := ty_F_refl _ _
  obtain ⟨hH, if380, af380, bf380, cf380, tf380, uf380, vf380⟩ := id S
  have kf380 := t_ck_s (T).1
  show AR _ _ _ _ _ _ _ 0 [(0, .ref 3)] [] h _ _
  refine AR.s (pc' := 1) (lv' := [(0, .ref 3)]) (st' := [.ref 3]) (h' := h) _ hn_59 hk_59_0 rfl ?_
  obtain ⟨vc384, cc384⟩ := lt_c3 hH
  refine AR.jr (r := 3) (as := []) (rest := []) hk_59_1 (by decide) (by decide +kernel) (by decide) cc384 rfl rfl (Nat.le_of_ble_eq_true rfl) (lt_60 hlst S) (by decide) (Nat.zero_le _) (Nat.zero_le _) ?_ (fun E h' q => by obtain ⟨_, e, -⟩ := q; cases e)
  rintro w382 g381 ⟨z383, eg381, dz383, Sg381, Tg381, rg381⟩
  cases eg381
  have Fg381 : ty_F 2143289344 h g381 := ty_F.trans F Tg381
  show AR _ _ _ _ _ _ _ 4 [(0, .ref 3)] [.int z383] g381 _ _
  obtain ⟨Hg381, if385, af385, bf385, cf385, tf385, uf385, vf385⟩ := id Sg381
  have kf385 := t_ck_s (t_mi B (T)).1
  show AR _ _ _ _ _ _ _ 4 [(0, .ref 3)] [.int z383] g381 _ _
  refine AR.s (pc' := 5) (lv' := [(1, .int z383), (0, .ref 3)]) (st' := []) (h' := g381) _ hn_59 hk_59_4 rfl ?_
  refine AR.s (pc' := 6) (lv' := [(1, .int z383), (0, .ref 3)]) (st' := [.ref 3]) (h' := g381) _ hn_59 hk_59_5 rfl ?_
  refine AR.gI hk_59_6 (by decide) Hg381 (q := 3) (n := 9) (by decide) (by decide +kernel) (by decide +kernel) (by decide) hy_t3_2 (fun x386 dx386 lx386 ux386 => ?_)
  show AR _ _ _ _ _ _ _ 9 [(1, .int z383), (0, .ref 3)] [.int x386] g381 _ _
  have sx386 := hy_zi dx386
  refine AR.iconstT hk_59_9 (by decide) (fun z387 ez387 => ?_)
  show AR _ _ _ _ _ _ _ 10 [(1, .int z383), (0, .ref 3)] [.int z387, .int x386] g381 _ _
  refine AR.jeq hk_59_10 (tgt := 15) (by decide) (fun p1 => ?_) (fun p2 => ?_)
  · have er : t_bd B T = (true, t_ad B (t_mi B T)) := if_pos (by omega)
    refine AR.s (pc' := 16) (lv' := [(1, .int z383), (0, .ref 3)]) (st' := [.ref 3]) (h' := g381) _ hn_59 hk_59_15 rfl ?_
    refine AR.s (pc' := 17) (lv' := [(1, .int z383), (0, .ref 3)]) (st' := [.int z383, .ref 3]) (h' := g381) _ hn_59 hk_59_16 rfl ?_
    refine AR.zeq hk_59_17 (tgt := 28) (by decide) (fun n1 => ?_) (fun n2 => ?_)
    · refine AR.s (pc' := 29) (lv' := [(1, .int z383), (0, .ref 3)]) (st' := [.ref 3, .ref 3]) (h' := g381) _ hn_59 hk_59_28 rfl ?_
      refine AR.gI hk_59_29 (by decide) Hg381 (q := 3) (n := 9) (by decide) (by decide +kernel) (by decide +kernel) (by decide) hy_t3_4 (fun x389 dx389 lx389 ux389 => ?_)
      show AR _ _ _ _ _ _ _ 32 [(1, .int z383), (0, .ref 3)] [.int x389, .ref 3] g381 _ _
      have r1 := Int32.le_toInt x389
      have r2 := Int32.toInt_lt x389
      refine AR.pT hk_59_32 (by decide) Hg381 Fg381 (q := 3) (by decide) (by decide +kernel) (show ax_cls[6]? = some hy_c6 from rfl) (by decide +kernel) (by decide) rfl (by rw [hy_t3_8]; exact ⟨_, rfl, by omega, by omega, Or.inl rfl⟩) (by decide +kernel) (by decide +kernel) ?_
      rintro g390 ⟨Hg390, Fg390, Gg390, Eg390⟩
      show AR _ _ _ _ _ _ _ 35 [(1, .int z383), (0, .ref 3)] [] g390 _ _
      have ig390 : hy_I g390 := if385.st Gg390 (by decide) Eg390 (by decide +kernel)
      have ug390_3_1 : hy_z g390 3 1 = hy_z g381 3 1 := hy_ze (by rw [Eg390, if_neg (fun c => absurd c.2 (by decide))])
      have ug390_3_2 : hy_z g390 3 2 = hy_z g381 3 2 := hy_ze (by rw [Eg390, if_neg (fun c => absurd c.2 (by decide))])
      have ug390_3_3 : hy_z g390 3 3 = hy_z g381 3 3 := hy_ze (by rw [Eg390, if_neg (fun c => absurd c.2 (by decide))])
      have ug390_3_7 : hy_z g390 3 7 = hy_z g381 3 7 := hy_ze (by rw [Eg390, if_neg (fun c => absurd c.2 (by decide))])
      have S2 : t_st B g390 (t_mi B T) := ⟨Hg390, ig390, by omega, by omega, by omega, (t_B_F Gg390 (by decide +kernel)).trans tf385, by omega, by omega⟩
      refine AR.s (pc' := 36) (lv' := [(1, .int z383), (0, .ref 3)]) (st' := [.ref 3]) (h' := g390) _ hn_59 hk_59_35 rfl ?_
      obtain ⟨vc393, cc393⟩ := lt_c3 Hg390
      refine AR.jr (r := 3) (as := []) (rest := []) hk_59_36 (by decide) (by decide +kernel) (by decide) cc393 rfl rfl (Nat.le_of_ble_eq_true rfl) (lt_nx hlst S2) (by decide) (Nat.zero_le _) (Nat.zero_le _) ?_ (fun E h' q => by cases q.1)
      rintro w392 g391 ⟨eg391, Sg391, Tg391, rg391⟩
      cases eg391
      have Fg391 : ty_F 2143289344 h g391 := ty_F.trans Fg390 Tg391
      show AR _ _ _ _ _ _ _ 39 [(1, .int z383), (0, .ref 3)] [] g391 _ _
      obtain ⟨Hg391, if394, af394, bf394, cf394, tf394, uf394, vf394⟩ := id Sg391
      have kf394 := t_ck_s (t_ad B (t_mi B (T))).1
      refine AR.iconstT hk_59_39 (by decide) (fun z395 ez395 => ?_)
      show AR _ _ _ _ _ _ _ 40 [(1, .int z383), (0, .ref 3)] [.int z395] g391 _ _
      exact AR.zret hk_59_40 hr_59 (Or.inr (by omega)) ⟨⟨_, rfl, by rw [er]; show _ = (1 : Int); omega, by rw [er]; exact Sg391, Fg391⟩, by omega⟩
    · refine AR.s (pc' := 21) (lv' := [(1, .int z383), (0, .ref 3)]) (st' := [.ref 3, .ref 3]) (h' := g381) _ hn_59 hk_59_20 rfl ?_
      refine AR.gI hk_59_21 (by decide) Hg381 (q := 3) (n := 9) (by decide) (by decide +kernel) (by decide +kernel) (by decide) hy_t3_4 (fun x396 dx396 lx396 ux396 => ?_)
      show AR _ _ _ _ _ _ _ 24 [(1, .int z383), (0, .ref 3)] [.int x396, .ref 3] g381 _ _
      refine AR.ineg (z := .int (-x396)) (ax_look_ok hk_59_24).1 rfl ?_
      generalize -x396 = z397
      show AR _ _ _ _ _ _ _ 25 [(1, .int z383), (0, .ref 3)] [.int z397, .ref 3] g381 _ _
      refine AR.gotoT hk_59_25 (tgt := 32) (by decide) ?_
      have r1 := Int32.le_toInt z397
      have r2 := Int32.toInt_lt z397
      refine AR.pT hk_59_32 (by decide) Hg381 Fg381 (q := 3) (by decide) (by decide +kernel) (show ax_cls[6]? = some hy_c6 from rfl) (by decide +kernel) (by decide) rfl (by rw [hy_t3_8]; exact ⟨_, rfl, by omega, by omega, Or.inl rfl⟩) (by decide +kernel) (by decide +kernel) ?_
      rintro g398 ⟨Hg398, Fg398, Gg398, Eg398⟩
      show AR _ _ _ _ _ _ _ 35 [(1, .int z383), (0, .ref 3)] [] g398 _ _
      have ig398 : hy_I g398 := if385.st Gg398 (by decide) Eg398 (by decide +kernel)
      have ug398_3_1 : hy_z g398 3 1 = hy_z g381 3 1 := hy_ze (by rw [Eg398, if_neg (fun c => absurd c.2 (by decide))])
      have ug398_3_2 : hy_z g398 3 2 = hy_z g381 3 2 := hy_ze (by rw [Eg398, if_neg (fun c => absurd c.2 (by decide))])
      have ug398_3_3 : hy_z g398 3 3 = hy_z g381 3 3 := hy_ze (by rw [Eg398, if_neg (fun c => absurd c.2 (by decide))])
      have ug398_3_7 : hy_z g398 3 7 = hy_z g381 3 7 := hy_ze (by rw [Eg398, if_neg (fun c => absurd c.2 (by decide))])
      have S2 : t_st B g398 (t_mi B T) := ⟨Hg398, ig398, by omega, by omega, by omega, (t_B_F Gg398 (by decide +kernel)).trans tf385, by omega, by omega⟩
      refine AR.s (pc' := 36) (lv' := [(1, .int z383), (0, .ref 3)]) (st' := [.ref 3]) (h' := g398) _ hn_59 hk_59_35 rfl ?_
      obtain ⟨vc401, cc401⟩ := lt_c3 Hg398
      refine AR.jr (r := 3) (as := []) (rest := []) hk_59_36 (by decide) (by decide +kernel) (by decide) cc401 rfl rfl (Nat.le_of_ble_eq_true rfl) (lt_nx hlst S2) (by decide) (Nat.zero_le _) (Nat.zero_le _) ?_ (fun E h' q => by cases q.1)
      rintro w400 g399 ⟨eg399, Sg399, Tg399, rg399⟩
      cases eg399
      have Fg399 : ty_F 2143289344 h g399 := ty_F.trans Fg398 Tg399
      show AR _ _ _ _ _ _ _ 39 [(1, .int z383), (0, .ref 3)] [] g399 _ _
      obtain ⟨Hg399, if402, af402, bf402, cf402, tf402, uf402, vf402⟩ := id Sg399
      have kf402 := t_ck_s (t_ad B (t_mi B (T))).1
      refine AR.iconstT hk_59_39 (by decide) (fun z403 ez403 => ?_)
      show AR _ _ _ _ _ _ _ 40 [(1, .int z383), (0, .ref 3)] [.int z403] g399 _ _
      exact AR.zret hk_59_40 hr_59 (Or.inr (by omega)) ⟨⟨_, rfl, by rw [er]; show _ = (1 : Int); omega, by rw [er]; exact Sg399, Fg399⟩, by omega⟩
  · have er : t_bd B T = (false, t_mi B T) := if_neg (by omega)
    refine AR.iconstT hk_59_13 (by decide) (fun z388 ez388 => ?_)
    show AR _ _ _ _ _ _ _ 14 [(1, .int z383), (0, .ref 3)] [.int z388] g381 _ _
    exact AR.zret hk_59_14 hr_59 (Or.inl (by omega)) ⟨⟨_, rfl, by rw [er]; show _ = (0 : Int); omega, by rw [er]; exact Sg381, Fg381⟩, rg381⟩
theorem lt_57c (hlst : l.stackTraces = false) {X : ax_PX} {g : ax_H} {op sz ng : Int32} (S : t_st B g T) (Fg : ty_F 2143289344 h g) (o0 : 0 ≤ op.toInt) (o1 : op.toInt ≤ 1) : AR ax_ns l (ax_mm 57) 3 ty_R (ax_ret ax_ns (ax_mm 57) (hq_b B h (t_t3 B T))) X 36 [(3, .int op), (2, .int sz), (1, .int ng), (0, .ref 3)] [] g 0 0 := by
  obtain ⟨Hg, if404, af404, bf404, cf404, tf404, uf404, vf404⟩ := id S
  have kf404 := t_ck_s (T).1
  show AR _ _ _ _ _ _ _ 36 [(3, .int op), (2, .int sz), (1, .int ng), (0, .ref 3)] [] g _ _
  refine AR.s (pc' := 37) (lv' := [(3, .int op), (2, .int sz), (1, .int ng), (0, .ref 3)]) (st' := [.ref 3]) (h' := g) _ hn_57 hk_57_36 rfl ?_
  refine AR.gI hk_57_37 (by decide) Hg (q := 3) (n := 9) (by decide) (by decide +kernel) (by decide +kernel) (by decide) hy_t3_2 (fun x405 dx405 lx405 ux405 => ?_)
  show AR _ _ _ _ _ _ _ 40 [(3, .int op), (2, .int sz), (1, .int ng), (0, .ref 3)] [.int x405] g _ _
  have sx405 := hy_zi dx405
  refine AR.iconstT hk_57_40 (by decide) (fun z406 ez406 => ?_)
  show AR _ _ _ _ _ _ _ 41 [(3, .int op), (2, .int sz), (1, .int ng), (0, .ref 3)] [.int z406, .int x405] g _ _
  refine AR.jeq hk_57_41 (tgt := 46) (by decide) (fun p1 => ?_) (fun p2 => ?_)
  · have er : t_t3 B T = (true, t_ad B T) := if_pos (by omega)
    refine AR.s (pc' := 47) (lv' := [(3, .int op), (2, .int sz), (1, .int ng), (0, .ref 3)]) (st' := [.ref 3]) (h' := g) _ hn_57 hk_57_46 rfl ?_
    refine AR.gR hk_57_47 (by decide) Hg (q := 3) (n := 9) (by decide) (by decide +kernel) (by decide +kernel) (by decide) hy_t3_6 ?_
    show AR _ _ _ _ _ _ _ 50 [(3, .int op), (2, .int sz), (1, .int ng), (0, .ref 3)] [.ref 4] g _ _
    refine AR.iconstT hk_57_50 (by decide) (fun z408 ez408 => ?_)
    show AR _ _ _ _ _ _ _ 51 [(3, .int op), (2, .int sz), (1, .int ng), (0, .ref 3)] [.int z408, .ref 4] g _ _
    refine AR.s (pc' := 52) (lv' := [(3, .int op), (2, .int sz), (1, .int ng), (0, .ref 3)]) (st' := [.ref 3, .int z408, .ref 4]) (h' := g) _ hn_57 hk_57_51 rfl ?_
    refine AR.gI hk_57_52 (by decide) Hg (q := 3) (n := 9) (by decide) (by decide +kernel) (by decide +kernel) (by decide) hy_t3_5 (fun x409 dx409 lx409 ux409 => ?_)
    show AR _ _ _ _ _ _ _ 55 [(3, .int op), (2, .int sz), (1, .int ng), (0, .ref 3)] [.int x409, .int z408, .ref 4] g _ _
    refine AR.mulcT hk_57_55 ez408 (by omega) (by omega) (fun z410 ez410 => ?_)
    show AR _ _ _ _ _ _ _ 56 [(3, .int op), (2, .int sz), (1, .int ng), (0, .ref 3)] [.int z410, .ref 4] g _ _
    refine AR.s (pc' := 57) (lv' := [(3, .int op), (2, .int sz), (1, .int ng), (0, .ref 3)]) (st' := [.int op, .int z410, .ref 4]) (h' := g) _ hn_57 hk_57_56 rfl ?_
    refine AR.addT hk_57_57 (by omega) (by omega) (fun z411 ez411 => ?_)
    show AR _ _ _ _ _ _ _ 58 [(3, .int op), (2, .int sz), (1, .int ng), (0, .ref 3)] [.int z411, .ref 4] g _ _
    refine AR.dup2 (ax_look_ok hk_57_58).1 rfl rfl ?_
    show AR _ _ _ _ _ _ _ 59 [(3, .int op), (2, .int sz), (1, .int ng), (0, .ref 3)] [.int z411, .ref 4, .int z411, .ref 4] g _ _
    refine AR.iaI hk_57_59 Hg (q := 4) (n := 24) (by decide) (by decide +kernel) (by decide +kernel) (by decide +kernel) hy_t4_0 (by omega) (by omega) (fun x412 dx412 lx412 ux412 => ?_)
    show AR _ _ _ _ _ _ _ 60 [(3, .int op), (2, .int sz), (1, .int ng), (0, .ref 3)] [.int x412, .int z411, .ref 4] g _ _
    refine AR.s (pc' := 61) (lv' := [(3, .int op), (2, .int sz), (1, .int ng), (0, .ref 3)]) (st' := [.int ng, .int x412, .int z411, .ref 4]) (h' := g) _ hn_57 hk_57_60 rfl ?_
    refine AR.zeq hk_57_61 (tgt := 69) (by decide) (fun n1 => ?_) (fun n2 => ?_)
    · refine AR.s (pc' := 70) (lv' := [(3, .int op), (2, .int sz), (1, .int ng), (0, .ref 3)]) (st' := [.int sz, .int x412, .int z411, .ref 4]) (h' := g) _ hn_57 hk_57_69 rfl ?_
      refine AR.iadd (z := .int (x412 + sz)) (ax_look_ok hk_57_70).1 rfl ?_
      generalize x412 + sz = z413
      show AR _ _ _ _ _ _ _ 71 [(3, .int op), (2, .int sz), (1, .int ng), (0, .ref 3)] [.int z413, .int z411, .ref 4] g _ _
      have r1 := Int32.le_toInt z413
      have r2 := Int32.toInt_lt z413
      refine AR.isT hk_57_71 Hg Fg (q := 4) (n := 24) (by decide) (by decide +kernel) (by decide +kernel) (by decide +kernel) hy_t4_0 (by omega) (by omega) (by omega) (by omega) (by decide +kernel) ?_
      rintro g414 ⟨Hg414, Fg414, Gg414, Eg414⟩
      show AR _ _ _ _ _ _ _ 72 [(3, .int op), (2, .int sz), (1, .int ng), (0, .ref 3)] [] g414 _ _
      have ig414 : hy_I g414 := if404.st Gg414 (by decide) Eg414 (by unfold ty_ky; rw [show ty_ar 4 = true from by decide +kernel]; show ty_IK.testBit ((ty_tab 4).2.2.1 - 1 + 0) = false; decide +kernel)
      have ug414_3_1 : hy_z g414 3 1 = hy_z g 3 1 := hy_ze (by rw [Eg414, if_neg (fun c => absurd c.1 (by decide))])
      have ug414_3_2 : hy_z g414 3 2 = hy_z g 3 2 := hy_ze (by rw [Eg414, if_neg (fun c => absurd c.1 (by decide))])
      have ug414_3_3 : hy_z g414 3 3 = hy_z g 3 3 := hy_ze (by rw [Eg414, if_neg (fun c => absurd c.1 (by decide))])
      have S2 : t_st B g414 T := ⟨Hg414, ig414, by omega, by omega, by omega, (t_B_F Gg414 (by decide +kernel)).trans tf404, by omega, by omega⟩
      refine AR.s (pc' := 73) (lv' := [(3, .int op), (2, .int sz), (1, .int ng), (0, .ref 3)]) (st' := [.ref 3]) (h' := g414) _ hn_57 hk_57_72 rfl ?_
      obtain ⟨vc417, cc417⟩ := lt_c3 Hg414
      refine AR.jr (r := 3) (as := []) (rest := []) hk_57_73 (by decide) (by decide +kernel) (by decide) cc417 rfl rfl (Nat.le_of_ble_eq_true rfl) (lt_nx hlst S2) (by decide) (Nat.zero_le _) (Nat.zero_le _) ?_ (fun E h' q => by cases q.1)
      rintro w416 g415 ⟨eg415, Sg415, Tg415, rg415⟩
      cases eg415
      have Fg415 : ty_F 2143289344 h g415 := ty_F.trans Fg414 Tg415
      show AR _ _ _ _ _ _ _ 76 [(3, .int op), (2, .int sz), (1, .int ng), (0, .ref 3)] [] g415 _ _
      obtain ⟨Hg415, if418, af418, bf418, cf418, tf418, uf418, vf418⟩ := id Sg415
      have kf418 := t_ck_s (t_ad B (T)).1
      refine AR.iconstT hk_57_76 (by decide) (fun z419 ez419 => ?_)
      show AR _ _ _ _ _ _ _ 77 [(3, .int op), (2, .int sz), (1, .int ng), (0, .ref 3)] [.int z419] g415 _ _
      exact AR.zret hk_57_77 hr_57 (Or.inr (by omega)) ⟨_, rfl, by rw [er]; show _ = (1 : Int); omega, by rw [er]; exact Sg415, Fg415⟩
    · refine AR.s (pc' := 65) (lv' := [(3, .int op), (2, .int sz), (1, .int ng), (0, .ref 3)]) (st' := [.int sz, .int x412, .int z411, .ref 4]) (h' := g) _ hn_57 hk_57_64 rfl ?_
      refine AR.ineg (z := .int (-sz)) (ax_look_ok hk_57_65).1 rfl ?_
      generalize -sz = z420
      show AR _ _ _ _ _ _ _ 66 [(3, .int op), (2, .int sz), (1, .int ng), (0, .ref 3)] [.int z420, .int x412, .int z411, .ref 4] g _ _
      refine AR.gotoT hk_57_66 (tgt := 70) (by decide) ?_
      refine AR.iadd (z := .int (x412 + z420)) (ax_look_ok hk_57_70).1 rfl ?_
      generalize x412 + z420 = z421
      show AR _ _ _ _ _ _ _ 71 [(3, .int op), (2, .int sz), (1, .int ng), (0, .ref 3)] [.int z421, .int z411, .ref 4] g _ _
      have r1 := Int32.le_toInt z421
      have r2 := Int32.toInt_lt z421
      refine AR.isT hk_57_71 Hg Fg (q := 4) (n := 24) (by decide) (by decide +kernel) (by decide +kernel) (by decide +kernel) hy_t4_0 (by omega) (by omega) (by omega) (by omega) (by decide +kernel) ?_
      rintro g422 ⟨Hg422, Fg422, Gg422, Eg422⟩
      show AR _ _ _ _ _ _ _ 72 [(3, .int op), (2, .int sz), (1, .int ng), (0, .ref 3)] [] g422 _ _
      have ig422 : hy_I g422 := if404.st Gg422 (by decide) Eg422 (by unfold ty_ky; rw [show ty_ar 4 = true from by decide +kernel]; show ty_IK.testBit ((ty_tab 4).2.2.1 - 1 + 0) = false; decide +kernel)
      have ug422_3_1 : hy_z g422 3 1 = hy_z g 3 1 := hy_ze (by rw [Eg422, if_neg (fun c => absurd c.1 (by decide))])
      have ug422_3_2 : hy_z g422 3 2 = hy_z g 3 2 := hy_ze (by rw [Eg422, if_neg (fun c => absurd c.1 (by decide))])
      have ug422_3_3 : hy_z g422 3 3 = hy_z g 3 3 := hy_ze (by rw [Eg422, if_neg (fun c => absurd c.1 (by decide))])
      have S2 : t_st B g422 T := ⟨Hg422, ig422, by omega, by omega, by omega, (t_B_F Gg422 (by decide +kernel)).trans tf404, by omega, by omega⟩
      refine AR.s (pc' := 73) (lv' := [(3, .int op), (2, .int sz), (1, .int ng), (0, .ref 3)]) (st' := [.ref 3]) (h' := g422) _ hn_57 hk_57_72 rfl ?_
      obtain ⟨vc425, cc425⟩ := lt_c3 Hg422
      refine AR.jr (r := 3) (as := []) (rest := []) hk_57_73 (by decide) (by decide +kernel) (by decide) cc425 rfl rfl (Nat.le_of_ble_eq_true rfl) (lt_nx hlst S2) (by decide) (Nat.zero_le _) (Nat.zero_le _) ?_ (fun E h' q => by cases q.1)
      rintro w424 g423 ⟨eg423, Sg423, Tg423, rg423⟩
      cases eg423
      have Fg423 : ty_F 2143289344 h g423 := ty_F.trans Fg422 Tg423
      show AR _ _ _ _ _ _ _ 76 [(3, .int op), (2, .int sz), (1, .int ng), (0, .ref 3)] [] g423 _ _
      obtain ⟨Hg423, if426, af426, bf426, cf426, tf426, uf426, vf426⟩ := id Sg423
      have kf426 := t_ck_s (t_ad B (T)).1
      refine AR.iconstT hk_57_76 (by decide) (fun z427 ez427 => ?_)
      show AR _ _ _ _ _ _ _ 77 [(3, .int op), (2, .int sz), (1, .int ng), (0, .ref 3)] [.int z427] g423 _ _
      exact AR.zret hk_57_77 hr_57 (Or.inr (by omega)) ⟨_, rfl, by rw [er]; show _ = (1 : Int); omega, by rw [er]; exact Sg423, Fg423⟩
  · have er : t_t3 B T = (false, T) := if_neg (by omega)
    refine AR.iconstT hk_57_44 (by decide) (fun z407 ez407 => ?_)
    show AR _ _ _ _ _ _ _ 45 [(3, .int op), (2, .int sz), (1, .int ng), (0, .ref 3)] [.int z407] g _ _
    exact AR.zret hk_57_45 hr_57 (Or.inl (by omega)) ⟨_, rfl, by rw [er]; show _ = (0 : Int); omega, by rw [er]; exact S, Fg⟩
theorem lt_57b (hlst : l.stackTraces = false) {X : ax_PX} {g : ax_H} {sz ng : Int32} (S : t_st B g T) (Fg : ty_F 2143289344 h g) : AR ax_ns l (ax_mm 57) 3 ty_R (ax_ret ax_ns (ax_mm 57) (hq_b B h (t_t3 B (t_t2 B T)))) X 19 [(2, .int sz), (1, .int ng), (0, .ref 3)] [] g 0 0 := by
  obtain ⟨Hg, if428, af428, bf428, cf428, tf428, uf428, vf428⟩ := id S
  have kf428 := t_ck_s (T).1
  show AR _ _ _ _ _ _ _ 19 [(2, .int sz), (1, .int ng), (0, .ref 3)] [] g _ _
  refine AR.iconstT hk_57_19 (by decide) (fun z429 ez429 => ?_)
  show AR _ _ _ _ _ _ _ 20 [(2, .int sz), (1, .int ng), (0, .ref 3)] [.int z429] g _ _
  refine AR.s (pc' := 21) (lv' := [(3, .int z429), (2, .int sz), (1, .int ng), (0, .ref 3)]) (st' := []) (h' := g) _ hn_57 hk_57_20 rfl ?_
  refine AR.s (pc' := 22) (lv' := [(3, .int z429), (2, .int sz), (1, .int ng), (0, .ref 3)]) (st' := [.ref 3]) (h' := g) _ hn_57 hk_57_21 rfl ?_
  refine AR.gI hk_57_22 (by decide) Hg (q := 3) (n := 9) (by decide) (by decide +kernel) (by decide +kernel) (by decide) hy_t3_2 (fun x430 dx430 lx430 ux430 => ?_)
  show AR _ _ _ _ _ _ _ 25 [(3, .int z429), (2, .int sz), (1, .int ng), (0, .ref 3)] [.int x430] g _ _
  have sx430 := hy_zi dx430
  refine AR.bipushT hk_57_25 (by decide) (fun z431 ez431 => ?_)
  show AR _ _ _ _ _ _ _ 27 [(3, .int z429), (2, .int sz), (1, .int ng), (0, .ref 3)] [.int z431, .int x430] g _ _
  refine AR.jne hk_57_27 (tgt := 36) (by decide) (fun p1 => ?_) (fun p2 => ?_)
  · have e5 : t_t2 B T = T := if_neg (by omega)
    rw [e5]
    refine AR.lessL (lv' := [(3, .int z429), (2, .int sz), (1, .int ng), (0, .ref 3)]) (List.forall_mem_cons.mpr ⟨⟨_, by simp, ax_le_rfl rfl⟩, (List.forall_mem_cons.mpr ⟨⟨_, by simp, ax_le_rfl rfl⟩, (List.forall_mem_cons.mpr ⟨⟨_, by simp, ax_le_rfl rfl⟩, (List.forall_mem_cons.mpr ⟨⟨_, by simp, ax_le_rfl rfl⟩, (fun _ h => absurd h List.not_mem_nil)⟩)⟩)⟩)⟩) ?_
    exact lt_57c hlst S Fg (by omega) (by omega)
  · have e5 : t_t2 B T = t_ad B T := if_pos (by omega)
    rw [e5]
    show AR _ _ _ _ _ _ _ 30 [(3, .int z429), (2, .int sz), (1, .int ng), (0, .ref 3)] [] g _ _
    refine AR.iconstT hk_57_30 (by decide) (fun z432 ez432 => ?_)
    show AR _ _ _ _ _ _ _ 31 [(3, .int z429), (2, .int sz), (1, .int ng), (0, .ref 3)] [.int z432] g _ _
    refine AR.s (pc' := 32) (lv' := [(3, .int z432), (2, .int sz), (1, .int ng), (0, .ref 3)]) (st' := []) (h' := g) _ hn_57 hk_57_31 rfl ?_
    refine AR.s (pc' := 33) (lv' := [(3, .int z432), (2, .int sz), (1, .int ng), (0, .ref 3)]) (st' := [.ref 3]) (h' := g) _ hn_57 hk_57_32 rfl ?_
    obtain ⟨vc435, cc435⟩ := lt_c3 Hg
    refine AR.jr (r := 3) (as := []) (rest := []) hk_57_33 (by decide) (by decide +kernel) (by decide) cc435 rfl rfl (Nat.le_of_ble_eq_true rfl) (lt_nx hlst S) (by decide) (Nat.zero_le _) (Nat.zero_le _) ?_ (fun E h' q => by cases q.1)
    rintro w434 g433 ⟨eg433, Sg433, Tg433, rg433⟩
    cases eg433
    have Fg433 : ty_F 2143289344 h g433 := ty_F.trans Fg Tg433
    show AR _ _ _ _ _ _ _ 36 [(3, .int z432), (2, .int sz), (1, .int ng), (0, .ref 3)] [] g433 _ _
    obtain ⟨Hg433, if436, af436, bf436, cf436, tf436, uf436, vf436⟩ := id Sg433
    have kf436 := t_ck_s (t_ad B (T)).1
    refine AR.lessL (lv' := [(3, .int z432), (2, .int sz), (1, .int ng), (0, .ref 3)]) (List.forall_mem_cons.mpr ⟨⟨_, by simp, ax_le_rfl rfl⟩, (List.forall_mem_cons.mpr ⟨⟨_, by simp, ax_le_rfl rfl⟩, (List.forall_mem_cons.mpr ⟨⟨_, by simp, ax_le_rfl rfl⟩, (List.forall_mem_cons.mpr ⟨⟨_, by simp, ax_le_rfl rfl⟩, (fun _ h => absurd h List.not_mem_nil)⟩)⟩)⟩)⟩) ?_
    exact lt_57c hlst Sg433 Fg433 (by omega) (by omega)
theorem lt_57 (hlst : l.stackTraces = false) (S : t_st B h T) : AM ax_ns l (ax_mm 57) 3 ty_R (0) (0) [.ref 3, .int x] h (hq_b B h (t_tm B T)) := by
  refine AM.of (ax_mfacts (by decide +kernel : ax_has 57 = true)).2.2.2.2.2.2 hlst (by rw [hn_57]; exact Nat.le_of_ble_eq_true rfl) ?_
  show AR ax_ns l (ax_mm 57) 3 ty_R _ _ 0 [(0, .ref 3), (1, .int x)] [] h (0) (0)
  have F : ty_F 2143289344 h h := ty_F_refl _ _
  obtain ⟨hH, if437, af437, bf437, cf437, tf437, uf437, vf437⟩ := id S
  have kf437 := t_ck_s (T).1
  unfold t_tm
  show AR _ _ _ _ _ _ _ 0 [(0, .ref 3), (1, .int x)] [] h _ _
  refine AR.iconstT hk_57_0 (by decide) (fun z438 ez438 => ?_)
  show AR _ _ _ _ _ _ _ 1 [(0, .ref 3), (1, .int x)] [.int z438] h _ _
  refine AR.s (pc' := 2) (lv' := [(2, .int z438), (0, .ref 3), (1, .int x)]) (st' := []) (h' := h) _ hn_57 hk_57_1 rfl ?_
  refine AR.s (pc' := 3) (lv' := [(2, .int z438), (0, .ref 3), (1, .int x)]) (st' := [.ref 3]) (h' := h) _ hn_57 hk_57_2 rfl ?_
  refine AR.gI hk_57_3 (by decide) hH (q := 3) (n := 9) (by decide) (by decide +kernel) (by decide +kernel) (by decide) hy_t3_2 (fun x439 dx439 lx439 ux439 => ?_)
  show AR _ _ _ _ _ _ _ 6 [(2, .int z438), (0, .ref 3), (1, .int x)] [.int x439] h _ _
  have sx439 := hy_zi dx439
  refine AR.iconstT hk_57_6 (by decide) (fun z440 ez440 => ?_)
  show AR _ _ _ _ _ _ _ 7 [(2, .int z438), (0, .ref 3), (1, .int x)] [.int z440, .int x439] h _ _
  refine AR.jne hk_57_7 (tgt := 19) (by decide) (fun p1 => ?_) (fun p2 => ?_)
  · have e5 : t_t1 B T = T := if_neg (by omega)
    rw [e5]
    refine AR.lessL (lv' := [(2, .int z438), (1, .int x), (0, .ref 3)]) (List.forall_mem_cons.mpr ⟨⟨_, by simp, ax_le_rfl rfl⟩, (List.forall_mem_cons.mpr ⟨⟨_, by simp, ax_le_rfl rfl⟩, (List.forall_mem_cons.mpr ⟨⟨_, by simp, ax_le_rfl rfl⟩, (fun _ h => absurd h List.not_mem_nil)⟩)⟩)⟩) ?_
    exact lt_57b hlst S F
  · have e5 : t_t1 B T = t_ad B T := if_pos (by omega)
    rw [e5]
    show AR _ _ _ _ _ _ _ 10 [(2, .int z438), (0, .ref 3), (1, .int x)] [] h _ _
    refine AR.s (pc' := 11) (lv' := [(2, .int z438), (0, .ref 3), (1, .int x)]) (st' := [.ref 3]) (h' := h) _ hn_57 hk_57_10 rfl ?_
    refine AR.gI hk_57_11 (by decide) hH (q := 3) (n := 9) (by decide) (by decide +kernel) (by decide +kernel) (by decide) hy_t3_4 (fun x441 dx441 lx441 ux441 => ?_)
    show AR _ _ _ _ _ _ _ 14 [(2, .int z438), (0, .ref 3), (1, .int x)] [.int x441] h _ _
    refine AR.s (pc' := 15) (lv' := [(2, .int x441), (0, .ref 3), (1, .int x)]) (st' := []) (h' := h) _ hn_57 hk_57_14 rfl ?_
    refine AR.s (pc' := 16) (lv' := [(2, .int x441), (0, .ref 3), (1, .int x)]) (st' := [.ref 3]) (h' := h) _ hn_57 hk_57_15 rfl ?_
    obtain ⟨vc444, cc444⟩ := lt_c3 hH
    refine AR.jr (r := 3) (as := []) (rest := []) hk_57_16 (by decide) (by decide +kernel) (by decide) cc444 rfl rfl (Nat.le_of_ble_eq_true rfl) (lt_nx hlst S) (by decide) (Nat.zero_le _) (Nat.zero_le _) ?_ (fun E h' q => by cases q.1)
    rintro w443 g442 ⟨eg442, Sg442, Tg442, rg442⟩
    cases eg442
    have Fg442 : ty_F 2143289344 h g442 := ty_F.trans F Tg442
    show AR _ _ _ _ _ _ _ 19 [(2, .int x441), (0, .ref 3), (1, .int x)] [] g442 _ _
    obtain ⟨Hg442, if445, af445, bf445, cf445, tf445, uf445, vf445⟩ := id Sg442
    have kf445 := t_ck_s (t_ad B (T)).1
    refine AR.lessL (lv' := [(2, .int x441), (1, .int x), (0, .ref 3)]) (List.forall_mem_cons.mpr ⟨⟨_, by simp, ax_le_rfl rfl⟩, (List.forall_mem_cons.mpr ⟨⟨_, by simp, ax_le_rfl rfl⟩, (List.forall_mem_cons.mpr ⟨⟨_, by simp, ax_le_rfl rfl⟩, (fun _ h => absurd h List.not_mem_nil)⟩)⟩)⟩) ?_
    exact lt_57b hlst Sg442 Fg442
theorem lt_56L (hlst : l.stackTraces = false) {X : ax_PX} : ∀ (n : Nat) (g : ax_H) (T : t_K) (r y : Int32) (ok : Bool), y.toInt + n = 200 → 0 ≤ y.toInt → r.toInt = (if ok = true then 1 else 0) → t_st B g T → ty_F 2143289344 h g → AR ax_ns l (ax_mm 56) 4 ty_R (ax_ret ax_ns (ax_mm 56) (hq_b B h (t_ms B n (ok, T)))) X 11 [(2, .int y), (1, .int r), (0, .ref 3)] [] g 0 0 := by
  intro n
  induction n with
  | zero =>
    intro g T r y ok hn y0 hr S Fg
    obtain ⟨Hg, if446, af446, bf446, cf446, tf446, uf446, vf446⟩ := id S
    have kf446 := t_ck_s (T).1
    show AR _ _ _ _ _ _ _ 11 [(2, .int y), (1, .int r), (0, .ref 3)] [] g _ _
    refine AR.s (pc' := 12) (lv' := [(2, .int y), (1, .int r), (0, .ref 3)]) (st' := [.int y]) (h' := g) _ hn_56 hk_56_11 rfl ?_
    refine AR.sipushT hk_56_12 (by decide) (fun z447 ez447 => ?_)
    show AR _ _ _ _ _ _ _ 15 [(2, .int y), (1, .int r), (0, .ref 3)] [.int z447, .int y] g _ _
    refine AR.jge hk_56_15 (tgt := 70) (by decide) (fun p1 => ?_) (fun p2 => ?_)
    · have er : t_ms B 0 (ok, T) = (ok, T) := rfl
      refine AR.s (pc' := 71) (lv' := [(2, .int y), (1, .int r), (0, .ref 3)]) (st' := [.int r]) (h' := g) _ hn_56 hk_56_70 rfl ?_
      exact AR.zret hk_56_71 hr_56 (by rw [hr]; cases ok <;> decide) ⟨_, rfl, by rw [er]; exact hr, by rw [er]; exact S, Fg⟩
    · exact absurd p2 (by omega)
  | succ n ih =>
    intro g T r y ok hn y0 hr S Fg
    obtain ⟨Hg, if448, af448, bf448, cf448, tf448, uf448, vf448⟩ := id S
    have kf448 := t_ck_s (T).1
    show AR _ _ _ _ _ _ _ 11 [(2, .int y), (1, .int r), (0, .ref 3)] [] g _ _
    refine AR.s (pc' := 12) (lv' := [(2, .int y), (1, .int r), (0, .ref 3)]) (st' := [.int y]) (h' := g) _ hn_56 hk_56_11 rfl ?_
    refine AR.sipushT hk_56_12 (by decide) (fun z449 ez449 => ?_)
    show AR _ _ _ _ _ _ _ 15 [(2, .int y), (1, .int r), (0, .ref 3)] [.int z449, .int y] g _ _
    refine AR.jge hk_56_15 (tgt := 70) (by decide) (fun p1 => ?_) (fun p2 => ?_)
    · exact absurd p1 (by omega)
    · refine AR.s (pc' := 19) (lv' := [(2, .int y), (1, .int r), (0, .ref 3)]) (st' := [.int r]) (h' := g) _ hn_56 hk_56_18 rfl ?_
      refine AR.zeq hk_56_19 (tgt := 70) (by decide) (fun n1 => ?_) (fun n2 => ?_)
      · have ef : ok = false := by
          cases ok
          · rfl
          · have : r.toInt = 1 := hr
            omega
        have er : t_ms B (n + 1) (ok, T) = (ok, T) := by
          subst ef
          exact if_neg (fun c => absurd (show false = true from c.1) (by decide))
        refine AR.s (pc' := 71) (lv' := [(2, .int y), (1, .int r), (0, .ref 3)]) (st' := [.int r]) (h' := g) _ hn_56 hk_56_70 rfl ?_
        exact AR.zret hk_56_71 hr_56 (by rw [hr]; cases ok <;> decide) ⟨_, rfl, by rw [er]; exact hr, by rw [er]; exact S, Fg⟩
      · have et : ok = true := by
          cases ok
          · have : r.toInt = 0 := hr
            exact absurd this n2
          · rfl
        subst et
        show AR _ _ _ _ _ _ _ 22 [(2, .int y), (1, .int r), (0, .ref 3)] [] g _ _
        refine AR.s (pc' := 23) (lv' := [(2, .int y), (1, .int r), (0, .ref 3)]) (st' := [.ref 3]) (h' := g) _ hn_56 hk_56_22 rfl ?_
        refine AR.gI hk_56_23 (by decide) Hg (q := 3) (n := 9) (by decide) (by decide +kernel) (by decide +kernel) (by decide) hy_t3_2 (fun x450 dx450 lx450 ux450 => ?_)
        show AR _ _ _ _ _ _ _ 26 [(2, .int y), (1, .int r), (0, .ref 3)] [.int x450] g _ _
        have sx450 := hy_zi dx450
        refine AR.iconstT hk_56_26 (by decide) (fun z451 ez451 => ?_)
        show AR _ _ _ _ _ _ _ 27 [(2, .int y), (1, .int r), (0, .ref 3)] [.int z451, .int x450] g _ _
        refine AR.jeq hk_56_27 (tgt := 40) (by decide) (fun m1 => ?_) (fun m2 => ?_)
        · have er : t_ms B (n + 1) (true, T) = t_ms B n (t_tm B (t_ad B T)) := if_pos ⟨rfl, by show T.1 = 4 ∨ T.1 = 5; omega⟩
          rw [er]
          show AR _ _ _ _ _ _ _ 40 [(2, .int y), (1, .int r), (0, .ref 3)] [] g _ _
          refine AR.s (pc' := 41) (lv' := [(2, .int y), (1, .int r), (0, .ref 3)]) (st' := [.ref 3]) (h' := g) _ hn_56 hk_56_40 rfl ?_
          refine AR.gI hk_56_41 (by decide) Hg (q := 3) (n := 9) (by decide) (by decide +kernel) (by decide +kernel) (by decide) hy_t3_2 (fun x452 dx452 lx452 ux452 => ?_)
          show AR _ _ _ _ _ _ _ 44 [(2, .int y), (1, .int r), (0, .ref 3)] [.int x452] g _ _
          have sx452 := hy_zi dx452
          refine AR.iconstT hk_56_44 (by decide) (fun z453 ez453 => ?_)
          show AR _ _ _ _ _ _ _ 45 [(2, .int y), (1, .int r), (0, .ref 3)] [.int z453, .int x452] g _ _
          refine AR.jne hk_56_45 (tgt := 52) (by decide) (fun k1 => ?_) (fun k2 => ?_)
          · refine AR.iconstT hk_56_52 (by decide) (fun z454 ez454 => ?_)
            show AR _ _ _ _ _ _ _ 53 [(2, .int y), (1, .int r), (0, .ref 3)] [.int z454] g _ _
            refine AR.s (pc' := 54) (lv' := [(3, .int z454), (2, .int y), (1, .int r), (0, .ref 3)]) (st' := []) (h' := g) _ hn_56 hk_56_53 rfl ?_
            refine AR.s (pc' := 55) (lv' := [(3, .int z454), (2, .int y), (1, .int r), (0, .ref 3)]) (st' := [.ref 3]) (h' := g) _ hn_56 hk_56_54 rfl ?_
            obtain ⟨vc457, cc457⟩ := lt_c3 Hg
            refine AR.jr (r := 3) (as := []) (rest := []) hk_56_55 (by decide) (by decide +kernel) (by decide) cc457 rfl rfl (Nat.le_of_ble_eq_true rfl) (lt_nx hlst S) (by decide) (Nat.zero_le _) (Nat.zero_le _) ?_ (fun E h' q => by cases q.1)
            rintro w456 g455 ⟨eg455, Sg455, Tg455, rg455⟩
            cases eg455
            have Fg455 : ty_F 2143289344 h g455 := ty_F.trans Fg Tg455
            show AR _ _ _ _ _ _ _ 58 [(3, .int z454), (2, .int y), (1, .int r), (0, .ref 3)] [] g455 _ _
            obtain ⟨Hg455, if458, af458, bf458, cf458, tf458, uf458, vf458⟩ := id Sg455
            have kf458 := t_ck_s (t_ad B (T)).1
            refine AR.s (pc' := 59) (lv' := [(3, .int z454), (2, .int y), (1, .int r), (0, .ref 3)]) (st' := [.ref 3]) (h' := g455) _ hn_56 hk_56_58 rfl ?_
            refine AR.s (pc' := 60) (lv' := [(3, .int z454), (2, .int y), (1, .int r), (0, .ref 3)]) (st' := [.int z454, .ref 3]) (h' := g455) _ hn_56 hk_56_59 rfl ?_
            obtain ⟨vc462, cc462⟩ := lt_c3 Hg455
            refine AR.jr (r := 3) (as := [.int z454]) (rest := []) hk_56_60 (by decide) (by decide +kernel) (by decide) cc462 rfl rfl (Nat.le_of_ble_eq_true rfl) (lt_57 hlst Sg455) (by decide) (Nat.zero_le _) (Nat.zero_le _) ?_ (fun E h' q => by obtain ⟨_, e, -⟩ := q; cases e)
            rintro w460 g459 ⟨z461, eg459, dz461, Sg459, Tg459⟩
            cases eg459
            have Fg459 : ty_F 2143289344 h g459 := ty_F.trans Fg455 Tg459
            show AR _ _ _ _ _ _ _ 63 [(3, .int z454), (2, .int y), (1, .int r), (0, .ref 3)] [.int z461] g459 _ _
            refine AR.s (pc' := 64) (lv' := [(1, .int z461), (3, .int z454), (2, .int y), (0, .ref 3)]) (st' := []) (h' := g459) _ hn_56 hk_56_63 rfl ?_
            refine AR.iincT hk_56_64 (x := y) rfl (by rw [hn_56]; decide) (by decide) (by omega) (by omega) (fun z463 ez463 => ?_)
            show AR _ _ _ _ _ _ _ 67 [(2, .int z463), (1, .int z461), (3, .int z454), (0, .ref 3)] [] g459 _ _
            refine AR.gotoT hk_56_67 (tgt := 11) (by decide) ?_
            refine AR.lessL (lv' := [(2, .int z463), (1, .int z461), (0, .ref 3)]) (List.forall_mem_cons.mpr ⟨⟨_, by simp, ax_le_rfl rfl⟩, (List.forall_mem_cons.mpr ⟨⟨_, by simp, ax_le_rfl rfl⟩, (List.forall_mem_cons.mpr ⟨⟨_, by simp, ax_le_rfl rfl⟩, (fun _ h => absurd h List.not_mem_nil)⟩)⟩)⟩) ?_
            exact ih g459 _ z461 z463 _ (by omega) (by omega) dz461 Sg459 Fg459
          · refine AR.iconstT hk_56_48 (by decide) (fun z464 ez464 => ?_)
            show AR _ _ _ _ _ _ _ 49 [(2, .int y), (1, .int r), (0, .ref 3)] [.int z464] g _ _
            refine AR.gotoT hk_56_49 (tgt := 53) (by decide) ?_
            refine AR.s (pc' := 54) (lv' := [(3, .int z464), (2, .int y), (1, .int r), (0, .ref 3)]) (st' := []) (h' := g) _ hn_56 hk_56_53 rfl ?_
            refine AR.s (pc' := 55) (lv' := [(3, .int z464), (2, .int y), (1, .int r), (0, .ref 3)]) (st' := [.ref 3]) (h' := g) _ hn_56 hk_56_54 rfl ?_
            obtain ⟨vc467, cc467⟩ := lt_c3 Hg
            refine AR.jr (r := 3) (as := []) (rest := []) hk_56_55 (by decide) (by decide +kernel) (by decide) cc467 rfl rfl (Nat.le_of_ble_eq_true rfl) (lt_nx hlst S) (by decide) (Nat.zero_le _) (Nat.zero_le _) ?_ (fun E h' q => by cases q.1)
            rintro w466 g465 ⟨eg465, Sg465, Tg465, rg465⟩
            cases eg465
            have Fg465 : ty_F 2143289344 h g465 := ty_F.trans Fg Tg465
            show AR _ _ _ _ _ _ _ 58 [(3, .int z464), (2, .int y), (1, .int r), (0, .ref 3)] [] g465 _ _
            obtain ⟨Hg465, if468, af468, bf468, cf468, tf468, uf468, vf468⟩ := id Sg465
            have kf468 := t_ck_s (t_ad B (T)).1
            refine AR.s (pc' := 59) (lv' := [(3, .int z464), (2, .int y), (1, .int r), (0, .ref 3)]) (st' := [.ref 3]) (h' := g465) _ hn_56 hk_56_58 rfl ?_
            refine AR.s (pc' := 60) (lv' := [(3, .int z464), (2, .int y), (1, .int r), (0, .ref 3)]) (st' := [.int z464, .ref 3]) (h' := g465) _ hn_56 hk_56_59 rfl ?_
            obtain ⟨vc472, cc472⟩ := lt_c3 Hg465
            refine AR.jr (r := 3) (as := [.int z464]) (rest := []) hk_56_60 (by decide) (by decide +kernel) (by decide) cc472 rfl rfl (Nat.le_of_ble_eq_true rfl) (lt_57 hlst Sg465) (by decide) (Nat.zero_le _) (Nat.zero_le _) ?_ (fun E h' q => by obtain ⟨_, e, -⟩ := q; cases e)
            rintro w470 g469 ⟨z471, eg469, dz471, Sg469, Tg469⟩
            cases eg469
            have Fg469 : ty_F 2143289344 h g469 := ty_F.trans Fg465 Tg469
            show AR _ _ _ _ _ _ _ 63 [(3, .int z464), (2, .int y), (1, .int r), (0, .ref 3)] [.int z471] g469 _ _
            refine AR.s (pc' := 64) (lv' := [(1, .int z471), (3, .int z464), (2, .int y), (0, .ref 3)]) (st' := []) (h' := g469) _ hn_56 hk_56_63 rfl ?_
            refine AR.iincT hk_56_64 (x := y) rfl (by rw [hn_56]; decide) (by decide) (by omega) (by omega) (fun z473 ez473 => ?_)
            show AR _ _ _ _ _ _ _ 67 [(2, .int z473), (1, .int z471), (3, .int z464), (0, .ref 3)] [] g469 _ _
            refine AR.gotoT hk_56_67 (tgt := 11) (by decide) ?_
            refine AR.lessL (lv' := [(2, .int z473), (1, .int z471), (0, .ref 3)]) (List.forall_mem_cons.mpr ⟨⟨_, by simp, ax_le_rfl rfl⟩, (List.forall_mem_cons.mpr ⟨⟨_, by simp, ax_le_rfl rfl⟩, (List.forall_mem_cons.mpr ⟨⟨_, by simp, ax_le_rfl rfl⟩, (fun _ h => absurd h List.not_mem_nil)⟩)⟩)⟩) ?_
            exact ih g469 _ z471 z473 _ (by omega) (by omega) dz471 Sg469 Fg469
        · refine AR.s (pc' := 31) (lv' := [(2, .int y), (1, .int r), (0, .ref 3)]) (st' := [.ref 3]) (h' := g) _ hn_56 hk_56_30 rfl ?_
          refine AR.gI hk_56_31 (by decide) Hg (q := 3) (n := 9) (by decide) (by decide +kernel) (by decide +kernel) (by decide) hy_t3_2 (fun x474 dx474 lx474 ux474 => ?_)
          show AR _ _ _ _ _ _ _ 34 [(2, .int y), (1, .int r), (0, .ref 3)] [.int x474] g _ _
          have sx474 := hy_zi dx474
          refine AR.iconstT hk_56_34 (by decide) (fun z475 ez475 => ?_)
          show AR _ _ _ _ _ _ _ 35 [(2, .int y), (1, .int r), (0, .ref 3)] [.int z475, .int x474] g _ _
          refine AR.jeq hk_56_35 (tgt := 40) (by decide) (fun o1 => ?_) (fun o2 => ?_)
          · have er : t_ms B (n + 1) (true, T) = t_ms B n (t_tm B (t_ad B T)) := if_pos ⟨rfl, by show T.1 = 4 ∨ T.1 = 5; omega⟩
            rw [er]
            show AR _ _ _ _ _ _ _ 40 [(2, .int y), (1, .int r), (0, .ref 3)] [] g _ _
            refine AR.s (pc' := 41) (lv' := [(2, .int y), (1, .int r), (0, .ref 3)]) (st' := [.ref 3]) (h' := g) _ hn_56 hk_56_40 rfl ?_
            refine AR.gI hk_56_41 (by decide) Hg (q := 3) (n := 9) (by decide) (by decide +kernel) (by decide +kernel) (by decide) hy_t3_2 (fun x476 dx476 lx476 ux476 => ?_)
            show AR _ _ _ _ _ _ _ 44 [(2, .int y), (1, .int r), (0, .ref 3)] [.int x476] g _ _
            have sx476 := hy_zi dx476
            refine AR.iconstT hk_56_44 (by decide) (fun z477 ez477 => ?_)
            show AR _ _ _ _ _ _ _ 45 [(2, .int y), (1, .int r), (0, .ref 3)] [.int z477, .int x476] g _ _
            refine AR.jne hk_56_45 (tgt := 52) (by decide) (fun k1 => ?_) (fun k2 => ?_)
            · refine AR.iconstT hk_56_52 (by decide) (fun z478 ez478 => ?_)
              show AR _ _ _ _ _ _ _ 53 [(2, .int y), (1, .int r), (0, .ref 3)] [.int z478] g _ _
              refine AR.s (pc' := 54) (lv' := [(3, .int z478), (2, .int y), (1, .int r), (0, .ref 3)]) (st' := []) (h' := g) _ hn_56 hk_56_53 rfl ?_
              refine AR.s (pc' := 55) (lv' := [(3, .int z478), (2, .int y), (1, .int r), (0, .ref 3)]) (st' := [.ref 3]) (h' := g) _ hn_56 hk_56_54 rfl ?_
              obtain ⟨vc481, cc481⟩ := lt_c3 Hg
              refine AR.jr (r := 3) (as := []) (rest := []) hk_56_55 (by decide) (by decide +kernel) (by decide) cc481 rfl rfl (Nat.le_of_ble_eq_true rfl) (lt_nx hlst S) (by decide) (Nat.zero_le _) (Nat.zero_le _) ?_ (fun E h' q => by cases q.1)
              rintro w480 g479 ⟨eg479, Sg479, Tg479, rg479⟩
              cases eg479
              have Fg479 : ty_F 2143289344 h g479 := ty_F.trans Fg Tg479
              show AR _ _ _ _ _ _ _ 58 [(3, .int z478), (2, .int y), (1, .int r), (0, .ref 3)] [] g479 _ _
              obtain ⟨Hg479, if482, af482, bf482, cf482, tf482, uf482, vf482⟩ := id Sg479
              have kf482 := t_ck_s (t_ad B (T)).1
              refine AR.s (pc' := 59) (lv' := [(3, .int z478), (2, .int y), (1, .int r), (0, .ref 3)]) (st' := [.ref 3]) (h' := g479) _ hn_56 hk_56_58 rfl ?_
              refine AR.s (pc' := 60) (lv' := [(3, .int z478), (2, .int y), (1, .int r), (0, .ref 3)]) (st' := [.int z478, .ref 3]) (h' := g479) _ hn_56 hk_56_59 rfl ?_
              obtain ⟨vc486, cc486⟩ := lt_c3 Hg479
              refine AR.jr (r := 3) (as := [.int z478]) (rest := []) hk_56_60 (by decide) (by decide +kernel) (by decide) cc486 rfl rfl (Nat.le_of_ble_eq_true rfl) (lt_57 hlst Sg479) (by decide) (Nat.zero_le _) (Nat.zero_le _) ?_ (fun E h' q => by obtain ⟨_, e, -⟩ := q; cases e)
              rintro w484 g483 ⟨z485, eg483, dz485, Sg483, Tg483⟩
              cases eg483
              have Fg483 : ty_F 2143289344 h g483 := ty_F.trans Fg479 Tg483
              show AR _ _ _ _ _ _ _ 63 [(3, .int z478), (2, .int y), (1, .int r), (0, .ref 3)] [.int z485] g483 _ _
              refine AR.s (pc' := 64) (lv' := [(1, .int z485), (3, .int z478), (2, .int y), (0, .ref 3)]) (st' := []) (h' := g483) _ hn_56 hk_56_63 rfl ?_
              refine AR.iincT hk_56_64 (x := y) rfl (by rw [hn_56]; decide) (by decide) (by omega) (by omega) (fun z487 ez487 => ?_)
              show AR _ _ _ _ _ _ _ 67 [(2, .int z487), (1, .int z485), (3, .int z478), (0, .ref 3)] [] g483 _ _
              refine AR.gotoT hk_56_67 (tgt := 11) (by decide) ?_
              refine AR.lessL (lv' := [(2, .int z487), (1, .int z485), (0, .ref 3)]) (List.forall_mem_cons.mpr ⟨⟨_, by simp, ax_le_rfl rfl⟩, (List.forall_mem_cons.mpr ⟨⟨_, by simp, ax_le_rfl rfl⟩, (List.forall_mem_cons.mpr ⟨⟨_, by simp, ax_le_rfl rfl⟩, (fun _ h => absurd h List.not_mem_nil)⟩)⟩)⟩) ?_
              exact ih g483 _ z485 z487 _ (by omega) (by omega) dz485 Sg483 Fg483
            · refine AR.iconstT hk_56_48 (by decide) (fun z488 ez488 => ?_)
              show AR _ _ _ _ _ _ _ 49 [(2, .int y), (1, .int r), (0, .ref 3)] [.int z488] g _ _
              refine AR.gotoT hk_56_49 (tgt := 53) (by decide) ?_
              refine AR.s (pc' := 54) (lv' := [(3, .int z488), (2, .int y), (1, .int r), (0, .ref 3)]) (st' := []) (h' := g) _ hn_56 hk_56_53 rfl ?_
              refine AR.s (pc' := 55) (lv' := [(3, .int z488), (2, .int y), (1, .int r), (0, .ref 3)]) (st' := [.ref 3]) (h' := g) _ hn_56 hk_56_54 rfl ?_
              obtain ⟨vc491, cc491⟩ := lt_c3 Hg
              refine AR.jr (r := 3) (as := []) (rest := []) hk_56_55 (by decide) (by decide +kernel) (by decide) cc491 rfl rfl (Nat.le_of_ble_eq_true rfl) (lt_nx hlst S) (by decide) (Nat.zero_le _) (Nat.zero_le _) ?_ (fun E h' q => by cases q.1)
              rintro w490 g489 ⟨eg489, Sg489, Tg489, rg489⟩
              cases eg489
              have Fg489 : ty_F 2143289344 h g489 := ty_F.trans Fg Tg489
              show AR _ _ _ _ _ _ _ 58 [(3, .int z488), (2, .int y), (1, .int r), (0, .ref 3)] [] g489 _ _
              obtain ⟨Hg489, if492, af492, bf492, cf492, tf492, uf492, vf492⟩ := id Sg489
              have kf492 := t_ck_s (t_ad B (T)).1
              refine AR.s (pc' := 59) (lv' := [(3, .int z488), (2, .int y), (1, .int r), (0, .ref 3)]) (st' := [.ref 3]) (h' := g489) _ hn_56 hk_56_58 rfl ?_
              refine AR.s (pc' := 60) (lv' := [(3, .int z488), (2, .int y), (1, .int r), (0, .ref 3)]) (st' := [.int z488, .ref 3]) (h' := g489) _ hn_56 hk_56_59 rfl ?_
              obtain ⟨vc496, cc496⟩ := lt_c3 Hg489
              refine AR.jr (r := 3) (as := [.int z488]) (rest := []) hk_56_60 (by decide) (by decide +kernel) (by decide) cc496 rfl rfl (Nat.le_of_ble_eq_true rfl) (lt_57 hlst Sg489) (by decide) (Nat.zero_le _) (Nat.zero_le _) ?_ (fun E h' q => by obtain ⟨_, e, -⟩ := q; cases e)
              rintro w494 g493 ⟨z495, eg493, dz495, Sg493, Tg493⟩
              cases eg493
              have Fg493 : ty_F 2143289344 h g493 := ty_F.trans Fg489 Tg493
              show AR _ _ _ _ _ _ _ 63 [(3, .int z488), (2, .int y), (1, .int r), (0, .ref 3)] [.int z495] g493 _ _
              refine AR.s (pc' := 64) (lv' := [(1, .int z495), (3, .int z488), (2, .int y), (0, .ref 3)]) (st' := []) (h' := g493) _ hn_56 hk_56_63 rfl ?_
              refine AR.iincT hk_56_64 (x := y) rfl (by rw [hn_56]; decide) (by decide) (by omega) (by omega) (fun z497 ez497 => ?_)
              show AR _ _ _ _ _ _ _ 67 [(2, .int z497), (1, .int z495), (3, .int z488), (0, .ref 3)] [] g493 _ _
              refine AR.gotoT hk_56_67 (tgt := 11) (by decide) ?_
              refine AR.lessL (lv' := [(2, .int z497), (1, .int z495), (0, .ref 3)]) (List.forall_mem_cons.mpr ⟨⟨_, by simp, ax_le_rfl rfl⟩, (List.forall_mem_cons.mpr ⟨⟨_, by simp, ax_le_rfl rfl⟩, (List.forall_mem_cons.mpr ⟨⟨_, by simp, ax_le_rfl rfl⟩, (fun _ h => absurd h List.not_mem_nil)⟩)⟩)⟩) ?_
              exact ih g493 _ z495 z497 _ (by omega) (by omega) dz495 Sg493 Fg493
          · have er : t_ms B (n + 1) (true, T) = (true, T) := if_neg (fun c => by have : T.1 = 4 ∨ T.1 = 5 := c.2; omega)
            refine AR.iconstT hk_56_38 (by decide) (fun z498 ez498 => ?_)
            show AR _ _ _ _ _ _ _ 39 [(2, .int y), (1, .int r), (0, .ref 3)] [.int z498] g _ _
            exact AR.zret hk_56_39 hr_56 (Or.inr (by omega)) ⟨_, rfl, by rw [er]; show _ = (1 : Int); omega, by rw [er]; exact S, Fg⟩
theorem lt_56 (hlst : l.stackTraces = false) (S : t_st B h T) : AM ax_ns l (ax_mm 56) 4 ty_R (0) (0) [.ref 3] h (hq_b B h (t_su B T)) := by
  refine AM.of (ax_mfacts (by decide +kernel : ax_has 56 = true)).2.2.2.2.2.2 hlst (by rw [hn_56]; exact Nat.le_of_ble_eq_true rfl) ?_
  show AR ax_ns l (ax_mm 56) 4 ty_R _ _ 0 [(0, .ref 3)] [] h (0) (0)
  have F : ty_F 2143289344 h h := ty_F_refl _ _
  obtain ⟨hH, if499, af499, bf499, cf499, tf499, uf499, vf499⟩ := id S
  have kf499 := t_ck_s (T).1
  show AR _ _ _ _ _ _ _ 0 [(0, .ref 3)] [] h _ _
  refine AR.s (pc' := 1) (lv' := [(0, .ref 3)]) (st' := [.ref 3]) (h' := h) _ hn_56 hk_56_0 rfl ?_
  refine AR.s (pc' := 2) (lv' := [(0, .ref 3)]) (st' := [.ref 3, .ref 3]) (h' := h) _ hn_56 hk_56_1 rfl ?_
  obtain ⟨vc503, cc503⟩ := lt_c3 hH
  refine AR.jr (r := 3) (as := []) (rest := [.ref 3]) hk_56_2 (by decide) (by decide +kernel) (by decide) cc503 rfl rfl (Nat.le_of_ble_eq_true rfl) (lt_60 hlst S) (by decide) (Nat.zero_le _) (Nat.zero_le _) ?_ (fun E h' q => by obtain ⟨_, e, -⟩ := q; cases e)
  rintro w501 g500 ⟨z502, eg500, dz502, Sg500, Tg500, rg500⟩
  cases eg500
  have Fg500 : ty_F 2143289344 h g500 := ty_F.trans F Tg500
  show AR _ _ _ _ _ _ _ 5 [(0, .ref 3)] [.int z502, .ref 3] g500 _ _
  obtain ⟨Hg500, if504, af504, bf504, cf504, tf504, uf504, vf504⟩ := id Sg500
  have kf504 := t_ck_s (t_mi B (T)).1
  show AR _ _ _ _ _ _ _ 5 [(0, .ref 3)] [.int z502, .ref 3] g500 _ _
  obtain ⟨vc508, cc508⟩ := lt_c3 Hg500
  refine AR.jr (r := 3) (as := [.int z502]) (rest := []) hk_56_5 (by decide) (by decide +kernel) (by decide) cc508 rfl rfl (Nat.le_of_ble_eq_true rfl) (lt_57 hlst Sg500) (by decide) (Nat.zero_le _) (Nat.zero_le _) ?_ (fun E h' q => by obtain ⟨_, e, -⟩ := q; cases e)
  rintro w506 g505 ⟨z507, eg505, dz507, Sg505, Tg505⟩
  cases eg505
  have Fg505 : ty_F 2143289344 h g505 := ty_F.trans Fg500 Tg505
  show AR _ _ _ _ _ _ _ 8 [(0, .ref 3)] [.int z507] g505 _ _
  refine AR.s (pc' := 9) (lv' := [(1, .int z507), (0, .ref 3)]) (st' := []) (h' := g505) _ hn_56 hk_56_8 rfl ?_
  refine AR.iconstT hk_56_9 (by decide) (fun z509 ez509 => ?_)
  show AR _ _ _ _ _ _ _ 10 [(1, .int z507), (0, .ref 3)] [.int z509] g505 _ _
  refine AR.s (pc' := 11) (lv' := [(2, .int z509), (1, .int z507), (0, .ref 3)]) (st' := []) (h' := g505) _ hn_56 hk_56_10 rfl ?_
  refine AR.lessL (lv' := [(2, .int z509), (1, .int z507), (0, .ref 3)]) (List.forall_mem_cons.mpr ⟨⟨_, by simp, ax_le_rfl rfl⟩, (List.forall_mem_cons.mpr ⟨⟨_, by simp, ax_le_rfl rfl⟩, (List.forall_mem_cons.mpr ⟨⟨_, by simp, ax_le_rfl rfl⟩, (fun _ h => absurd h List.not_mem_nil)⟩)⟩)⟩) ?_
  exact lt_56L hlst 200 g505 _ z507 z509 _ (by omega) (by omega) dz507 Sg505 Fg505
theorem lt_55c (hlst : l.stackTraces = false) {X : ax_PX} {Q : ax_Q} (S : t_st B h T) (hT : T.2.2 = 0) (hQ : ∀ res g, hq_b B h (t_all B) res g → ((t_all B).1 = true → 7 ≤ hy_z g 3 7 ∧ hy_z g 3 7 ≤ 9) → Q res g) : AR ax_ns l (ax_mm 55) 5 ty_R (ax_ret ax_ns (ax_mm 55) Q) X 13 [(0, .ref 3)] [] h 0 0 := by
  have F : ty_F 2143289344 h h := ty_F_refl _ _
  have e0 : t_nx B 0 = t_ad B T := by unfold t_ad; rw [hT]
  obtain ⟨hH, if510, af510, bf510, cf510, tf510, uf510, vf510⟩ := id S
  have kf510 := t_ck_s (T).1
  show AR _ _ _ _ _ _ _ 13 [(0, .ref 3)] [] h _ _
  refine AR.s (pc' := 14) (lv' := [(0, .ref 3)]) (st' := [.ref 3]) (h' := h) _ hn_55 hk_55_13 rfl ?_
  obtain ⟨vc513, cc513⟩ := lt_c3 hH
  refine AR.jr (r := 3) (as := []) (rest := []) hk_55_14 (by decide) (by decide +kernel) (by decide) cc513 rfl rfl (Nat.le_of_ble_eq_true rfl) (lt_nx hlst S) (by decide) (Nat.zero_le _) (Nat.zero_le _) ?_ (fun E h' q => by cases q.1)
  rintro w512 g511 ⟨eg511, Sg511, Tg511, rg511⟩
  cases eg511
  have Fg511 : ty_F 2143289344 h g511 := ty_F.trans F Tg511
  show AR _ _ _ _ _ _ _ 17 [(0, .ref 3)] [] g511 _ _
  obtain ⟨Hg511, if514, af514, bf514, cf514, tf514, uf514, vf514⟩ := id Sg511
  have kf514 := t_ck_s (t_ad B (T)).1
  refine AR.s (pc' := 18) (lv' := [(0, .ref 3)]) (st' := [.ref 3]) (h' := g511) _ hn_55 hk_55_17 rfl ?_
  obtain ⟨vc518, cc518⟩ := lt_c3 Hg511
  refine AR.jr (r := 3) (as := []) (rest := []) hk_55_18 (by decide) (by decide +kernel) (by decide) cc518 rfl rfl (Nat.le_of_ble_eq_true rfl) (lt_56 hlst Sg511) (by decide) (Nat.zero_le _) (Nat.zero_le _) ?_ (fun E h' q => by obtain ⟨_, e, -⟩ := q; cases e)
  rintro w516 g515 ⟨z517, eg515, dz517, Sg515, Tg515⟩
  cases eg515
  have Fg515 : ty_F 2143289344 h g515 := ty_F.trans Fg511 Tg515
  show AR _ _ _ _ _ _ _ 21 [(0, .ref 3)] [.int z517] g515 _ _
  refine AR.zeq hk_55_21 (tgt := 49) (by decide) (fun x1 => ?_) (fun y1 => ?_)
  · have ef : (t_su B (t_ad B (T))).1 = false := by
      cases e : (t_su B (t_ad B (T))).1 with
      | false => rfl
      | true => rw [e] at dz517; exact absurd (show z517.toInt = 1 from dz517) (by omega)
    refine AR.iconstT hk_55_49 (by decide) (fun z519 ez519 => ?_)
    show AR _ _ _ _ _ _ _ 50 [(0, .ref 3)] [.int z519] g515 _ _
    have er : t_all B = (false, (t_su B (t_ad B (T))).2) := by
      unfold t_all
      rw [e0]
      exact if_neg (by rw [ef]; decide)
    exact AR.zret hk_55_50 hr_55 (Or.inl (by omega)) (hQ _ _ ⟨_, rfl, by rw [er]; show _ = (0 : Int); omega, by rw [er]; exact Sg515, Fg515⟩ (fun c => by rw [er] at c; cases c))
  · have et : (t_su B (t_ad B (T))).1 = true := by
      cases e : (t_su B (t_ad B (T))).1 with
      | true => rfl
      | false => rw [e] at dz517; exact absurd (show z517.toInt = 0 from dz517) (by omega)
    have et1 := et
    obtain ⟨Hg515, if520, af520, bf520, cf520, tf520, uf520, vf520⟩ := id Sg515
    have kf520 := t_ck_s ((t_su B (t_ad B (T))).2).1
    show AR _ _ _ _ _ _ _ 24 [(0, .ref 3)] [] g515 _ _
    refine AR.s (pc' := 25) (lv' := [(0, .ref 3)]) (st' := [.ref 3]) (h' := g515) _ hn_55 hk_55_24 rfl ?_
    obtain ⟨vc524, cc524⟩ := lt_c3 Hg515
    refine AR.jr (r := 3) (as := []) (rest := []) hk_55_25 (by decide) (by decide +kernel) (by decide) cc524 rfl rfl (Nat.le_of_ble_eq_true rfl) (lt_58 hlst Sg515) (by decide) (Nat.zero_le _) (Nat.zero_le _) ?_ (fun E h' q => by obtain ⟨_, e, -⟩ := q.1; cases e)
    rintro w522 g521 ⟨⟨z523, eg521, dz523, Sg521, Tg521⟩, Qg521⟩
    cases eg521
    have Fg521 : ty_F 2143289344 h g521 := ty_F.trans Fg515 Tg521
    show AR _ _ _ _ _ _ _ 28 [(0, .ref 3)] [.int z523] g521 _ _
    refine AR.zeq hk_55_28 (tgt := 49) (by decide) (fun x2 => ?_) (fun y2 => ?_)
    · have ef : (t_re B (t_su B (t_ad B (T))).2).1 = false := by
        cases e : (t_re B (t_su B (t_ad B (T))).2).1 with
        | false => rfl
        | true => rw [e] at dz523; exact absurd (show z523.toInt = 1 from dz523) (by omega)
      refine AR.iconstT hk_55_49 (by decide) (fun z525 ez525 => ?_)
      show AR _ _ _ _ _ _ _ 50 [(0, .ref 3)] [.int z525] g521 _ _
      have er : t_all B = (false, (t_re B (t_su B (t_ad B (T))).2).2) := by
        unfold t_all
        rw [e0, if_pos et1]
        exact if_neg (by rw [ef]; decide)
      exact AR.zret hk_55_50 hr_55 (Or.inl (by omega)) (hQ _ _ ⟨_, rfl, by rw [er]; show _ = (0 : Int); omega, by rw [er]; exact Sg521, Fg521⟩ (fun c => by rw [er] at c; cases c))
    · have et : (t_re B (t_su B (t_ad B (T))).2).1 = true := by
        cases e : (t_re B (t_su B (t_ad B (T))).2).1 with
        | true => rfl
        | false => rw [e] at dz523; exact absurd (show z523.toInt = 0 from dz523) (by omega)
      have et2 := et
      obtain ⟨Hg521, if526, af526, bf526, cf526, tf526, uf526, vf526⟩ := id Sg521
      have kf526 := t_ck_s ((t_re B (t_su B (t_ad B (T))).2).2).1
      show AR _ _ _ _ _ _ _ 31 [(0, .ref 3)] [] g521 _ _
      refine AR.s (pc' := 32) (lv' := [(0, .ref 3)]) (st' := [.ref 3]) (h' := g521) _ hn_55 hk_55_31 rfl ?_
      obtain ⟨vc530, cc530⟩ := lt_c3 Hg521
      refine AR.jr (r := 3) (as := []) (rest := []) hk_55_32 (by decide) (by decide +kernel) (by decide) cc530 rfl rfl (Nat.le_of_ble_eq_true rfl) (lt_59 hlst Sg521) (by decide) (Nat.zero_le _) (Nat.zero_le _) ?_ (fun E h' q => by obtain ⟨_, e, -⟩ := q.1; cases e)
      rintro w528 g527 ⟨⟨z529, eg527, dz529, Sg527, Tg527⟩, Qg527⟩
      cases eg527
      have Fg527 : ty_F 2143289344 h g527 := ty_F.trans Fg521 Tg527
      show AR _ _ _ _ _ _ _ 35 [(0, .ref 3)] [.int z529] g527 _ _
      refine AR.zeq hk_55_35 (tgt := 49) (by decide) (fun x3 => ?_) (fun y3 => ?_)
      · have ef : (t_bd B (t_re B (t_su B (t_ad B (T))).2).2).1 = false := by
          cases e : (t_bd B (t_re B (t_su B (t_ad B (T))).2).2).1 with
          | false => rfl
          | true => rw [e] at dz529; exact absurd (show z529.toInt = 1 from dz529) (by omega)
        refine AR.iconstT hk_55_49 (by decide) (fun z531 ez531 => ?_)
        show AR _ _ _ _ _ _ _ 50 [(0, .ref 3)] [.int z531] g527 _ _
        have er : t_all B = (false, (t_bd B (t_re B (t_su B (t_ad B (T))).2).2).2) := by
          unfold t_all
          rw [e0, if_pos et1, if_pos et2]
          exact if_neg (by rw [ef]; decide)
        exact AR.zret hk_55_50 hr_55 (Or.inl (by omega)) (hQ _ _ ⟨_, rfl, by rw [er]; show _ = (0 : Int); omega, by rw [er]; exact Sg527, Fg527⟩ (fun c => by rw [er] at c; cases c))
      · have et : (t_bd B (t_re B (t_su B (t_ad B (T))).2).2).1 = true := by
          cases e : (t_bd B (t_re B (t_su B (t_ad B (T))).2).2).1 with
          | true => rfl
          | false => rw [e] at dz529; exact absurd (show z529.toInt = 0 from dz529) (by omega)
        have er : t_all B = (decide ((t_bd B (t_re B (t_su B (t_ad B (T))).2).2).2.1 = 0), (t_bd B (t_re B (t_su B (t_ad B (T))).2).2).2) := by
          unfold t_all
          rw [e0, if_pos et1, if_pos et2]
          exact if_pos et
        obtain ⟨Hg527, if532, af532, bf532, cf532, tf532, uf532, vf532⟩ := id Sg527
        have kf532 := t_ck_s ((t_bd B (t_re B (t_su B (t_ad B (T))).2).2).2).1
        show AR _ _ _ _ _ _ _ 38 [(0, .ref 3)] [] g527 _ _
        refine AR.s (pc' := 39) (lv' := [(0, .ref 3)]) (st' := [.ref 3]) (h' := g527) _ hn_55 hk_55_38 rfl ?_
        refine AR.gI hk_55_39 (by decide) Hg527 (q := 3) (n := 9) (by decide) (by decide +kernel) (by decide +kernel) (by decide) hy_t3_2 (fun x533 dx533 lx533 ux533 => ?_)
        show AR _ _ _ _ _ _ _ 42 [(0, .ref 3)] [.int x533] g527 _ _
        have sx533 := hy_zi dx533
        refine AR.zne hk_55_42 (tgt := 49) (by decide) (fun x4 => ?_) (fun y4 => ?_)
        · have ed : decide ((t_bd B (t_re B (t_su B (t_ad B (T))).2).2).2.1 = 0) = false := decide_eq_false (by omega)
          rw [ed] at er
          refine AR.iconstT hk_55_49 (by decide) (fun z534 ez534 => ?_)
          show AR _ _ _ _ _ _ _ 50 [(0, .ref 3)] [.int z534] g527 _ _
          exact AR.zret hk_55_50 hr_55 (Or.inl (by omega)) (hQ _ _ ⟨_, rfl, by rw [er]; show _ = (0 : Int); omega, by rw [er]; exact Sg527, Fg527⟩ (fun _ => by rw [Qg527]; exact Qg521 et2))
        · have ed : decide ((t_bd B (t_re B (t_su B (t_ad B (T))).2).2).2.1 = 0) = true := decide_eq_true (by omega)
          rw [ed] at er
          refine AR.iconstT hk_55_45 (by decide) (fun z535 ez535 => ?_)
          show AR _ _ _ _ _ _ _ 46 [(0, .ref 3)] [.int z535] g527 _ _
          refine AR.gotoT hk_55_46 (tgt := 50) (by decide) ?_
          exact AR.zret hk_55_50 hr_55 (Or.inr (by omega)) (hQ _ _ ⟨_, rfl, by rw [er]; show _ = (1 : Int); omega, by rw [er]; exact Sg527, Fg527⟩ (fun _ => by rw [Qg527]; exact Qg521 et2))
/-- the reference's text -/
def r_B (h : ax_H) (p : Int) : Int := if 0 ≤ p ∧ p < hy_z h 181 7 then hy_z h 185 p.toNat else -1
theorem r_B_F {g : ax_H} {W : Nat} (F : ty_F W h g) (b : W.testBit 70 = false ∧ W.testBit 98 = false) : r_B g = r_B h := by
  funext p
  unfold r_B
  rw [hy_zF F 7 (q := 181) (by decide) (by decide +kernel) (by rw [show ty_ky 181 7 = 70 from by decide +kernel]; exact b.1), hy_zA F (q := 185) (by decide +kernel) (by decide) (by decide +kernel) (by rw [show ty_ky 185 0 = 98 from by decide +kernel]; exact b.2)]
theorem r_B_lt (hH : hy_H 0 h) {p : Int} (hp : 200 ≤ p) : r_B h p = -1 := by
  obtain ⟨i, e1, e2, e3⟩ := hy_int hH (q := 181) (j := 7) (a := 0) (z := 200) (by decide) rfl (by decide +kernel) (by decide +kernel)
  have e4 := hy_zi e1
  unfold r_B
  rw [if_neg (by omega)]
theorem lr_145 (hlst : l.stackTraces = false) (hH : hy_H 0 h) (x0 : 0 ≤ x.toInt) : AM ax_ns l (ax_mm 145) 0 ty_R (0) (0) [.ref 181, .int x] h (hq_int h (r_B h x.toInt)) := by
  refine AM.of (ax_mfacts (by decide +kernel : ax_has 145 = true)).2.2.2.2.2.2 hlst (by rw [hn_145]; exact Nat.le_of_ble_eq_true rfl) ?_
  show AR ax_ns l (ax_mm 145) 0 ty_R _ _ 0 [(0, .ref 181), (1, .int x)] [] h (0) (0)
  refine AR.s (pc' := 1) (lv' := [(0, .ref 181), (1, .int x)]) (st' := [.int x]) (h' := h) _ hn_145 hk_145_0 rfl ?_
  refine AR.s (pc' := 2) (lv' := [(0, .ref 181), (1, .int x)]) (st' := [.ref 181, .int x]) (h' := h) _ hn_145 hk_145_1 rfl ?_
  refine AR.gI hk_145_2 (by decide) hH (q := 181) (n := 32) (by decide) (by decide +kernel) (by decide +kernel) (by decide) hy_t181_7 (fun x536 dx536 lx536 ux536 => ?_)
  show AR _ _ _ _ _ _ _ 5 [(0, .ref 181), (1, .int x)] [.int x536, .int x] h _ _
  have sx536 := hy_zi dx536
  refine AR.jge hk_145_5 (tgt := 17) (by decide) (fun p1 => ?_) (fun p2 => ?_)
  · refine AR.iconstT hk_145_17 (by decide) (fun z537 ez537 => ?_)
    show AR _ _ _ _ _ _ _ 18 [(0, .ref 181), (1, .int x)] [.int z537] h _ _
    exact AR.iret hk_145_18 hr_145 ⟨rfl, _, rfl, by unfold r_B; rw [if_neg (by omega)]; omega⟩
  · refine AR.s (pc' := 9) (lv' := [(0, .ref 181), (1, .int x)]) (st' := [.ref 181]) (h' := h) _ hn_145 hk_145_8 rfl ?_
    refine AR.gR hk_145_9 (by decide) hH (q := 181) (n := 32) (by decide) (by decide +kernel) (by decide +kernel) (by decide) hy_t181_6 ?_
    show AR _ _ _ _ _ _ _ 12 [(0, .ref 181), (1, .int x)] [.ref 185] h _ _
    refine AR.s (pc' := 13) (lv' := [(0, .ref 181), (1, .int x)]) (st' := [.int x, .ref 185]) (h' := h) _ hn_145 hk_145_12 rfl ?_
    refine AR.iaI hk_145_13 hH (q := 185) (n := 200) (by decide) (by decide +kernel) (by decide +kernel) (by decide +kernel) hy_t185_0 (by omega) (by omega) (fun x538 dx538 lx538 ux538 => ?_)
    show AR _ _ _ _ _ _ _ 14 [(0, .ref 181), (1, .int x)] [.int x538] h _ _
    refine AR.gotoT hk_145_14 (tgt := 18) (by decide) ?_
    have xk : x.toNatClampNeg = x.toInt.toNat := rfl
    rw [xk] at dx538
    exact AR.iret hk_145_18 hr_145 ⟨rfl, _, rfl, by unfold r_B; rw [if_pos (by omega)]; exact (hy_zi dx538).symm⟩
theorem lr_146 (hlst : l.stackTraces = false)  : AM ax_ns l (ax_mm 146) 0 ty_R (0) (0) [.int x] h (fun res g => g = h ∧ ∃ z : Int32, res = .inl (some (.int z)) ∧ ((z.toInt = 1 ∧ t_dig x.toInt = true) ∨ (z.toInt = 0 ∧ t_dig x.toInt = false))) := by
  refine AM.of (ax_mfacts (by decide +kernel : ax_has 146 = true)).2.2.2.2.2.2 hlst (by rw [hn_146]; exact Nat.le_of_ble_eq_true rfl) ?_
  show AR ax_ns l (ax_mm 146) 0 ty_R _ _ 0 [(0, .int x)] [] h (0) (0)
  refine AR.s (pc' := 1) (lv' := [(0, .int x)]) (st' := [.int x]) (h' := h) _ hn_146 hk_146_0 rfl ?_
  refine AR.bipushT hk_146_1 (by decide) (fun z539 ez539 => ?_)
  show AR _ _ _ _ _ _ _ 3 [(0, .int x)] [.int z539, .int x] h _ _
  refine AR.jlt hk_146_3 (tgt := 16) (by decide) (fun p1 => ?_) (fun p2 => ?_)
  · refine AR.iconstT hk_146_16 (by decide) (fun z540 ez540 => ?_)
    show AR _ _ _ _ _ _ _ 17 [(0, .int x)] [.int z540] h _ _
    exact AR.zret hk_146_17 hr_146 (Or.inl (by omega)) ⟨rfl, _, rfl, Or.inr ⟨by omega, by unfold t_dig; rw [Bool.and_eq_false_iff]; simp only [decide_eq_false_iff_not]; omega⟩⟩
  · refine AR.s (pc' := 7) (lv' := [(0, .int x)]) (st' := [.int x]) (h' := h) _ hn_146 hk_146_6 rfl ?_
    refine AR.bipushT hk_146_7 (by decide) (fun z541 ez541 => ?_)
    show AR _ _ _ _ _ _ _ 9 [(0, .int x)] [.int z541, .int x] h _ _
    refine AR.jgt hk_146_9 (tgt := 16) (by decide) (fun p3 => ?_) (fun p4 => ?_)
    · refine AR.iconstT hk_146_16 (by decide) (fun z542 ez542 => ?_)
      show AR _ _ _ _ _ _ _ 17 [(0, .int x)] [.int z542] h _ _
      exact AR.zret hk_146_17 hr_146 (Or.inl (by omega)) ⟨rfl, _, rfl, Or.inr ⟨by omega, by unfold t_dig; rw [Bool.and_eq_false_iff]; simp only [decide_eq_false_iff_not]; omega⟩⟩
    · refine AR.iconstT hk_146_12 (by decide) (fun z543 ez543 => ?_)
      show AR _ _ _ _ _ _ _ 13 [(0, .int x)] [.int z543] h _ _
      refine AR.gotoT hk_146_13 (tgt := 17) (by decide) ?_
      exact AR.zret hk_146_17 hr_146 (Or.inr (by omega)) ⟨rfl, _, rfl, Or.inl ⟨by omega, by unfold t_dig; rw [Bool.and_eq_true]; simp only [decide_eq_true_eq]; omega⟩⟩
theorem lr_149 (hlst : l.stackTraces = false) (hH : hy_H 0 h) : AM ax_ns l (ax_mm 149) 0 ty_R (0) (0) [.ref 181] h (fun res g => g = h ∧ ∃ z : Int32, res = .inl (some (.int z)) ∧ ((z.toInt = 1 ∧ hy_z h 181 11 < 0) ∨ (z.toInt = 0 ∧ 0 ≤ hy_z h 181 11))) := by
  refine AM.of (ax_mfacts (by decide +kernel : ax_has 149 = true)).2.2.2.2.2.2 hlst (by rw [hn_149]; exact Nat.le_of_ble_eq_true rfl) ?_
  show AR ax_ns l (ax_mm 149) 0 ty_R _ _ 0 [(0, .ref 181)] [] h (0) (0)
  refine AR.s (pc' := 1) (lv' := [(0, .ref 181)]) (st' := [.ref 181]) (h' := h) _ hn_149 hk_149_0 rfl ?_
  refine AR.gI hk_149_1 (by decide) hH (q := 181) (n := 32) (by decide) (by decide +kernel) (by decide +kernel) (by decide) hy_t181_11 (fun x544 dx544 lx544 ux544 => ?_)
  show AR _ _ _ _ _ _ _ 4 [(0, .ref 181)] [.int x544] h _ _
  have sx544 := hy_zi dx544
  refine AR.zge hk_149_4 (tgt := 11) (by decide) (fun p1 => ?_) (fun p2 => ?_)
  · refine AR.iconstT hk_149_11 (by decide) (fun z545 ez545 => ?_)
    show AR _ _ _ _ _ _ _ 12 [(0, .ref 181)] [.int z545] h _ _
    exact AR.zret hk_149_12 hr_149 (Or.inl (by omega)) ⟨rfl, _, rfl, Or.inr ⟨by omega, by omega⟩⟩
  · refine AR.iconstT hk_149_7 (by decide) (fun z546 ez546 => ?_)
    show AR _ _ _ _ _ _ _ 8 [(0, .ref 181)] [.int z546] h _ _
    refine AR.gotoT hk_149_8 (tgt := 12) (by decide) ?_
    exact AR.zret hk_149_12 hr_149 (Or.inr (by omega)) ⟨rfl, _, rfl, Or.inl ⟨by omega, by omega⟩⟩
theorem AR.xm {d i pc : Nat} {P : ax_P} {X X' : ax_PX} {lv : List (Nat × Value)} {st : List Value} {h : ax_H} {bc bs : Nat} (hx : ∀ pc lv E h bc bs, X pc lv E h bc bs → X' pc lv E h bc bs) (ha : AR ax_ns l (ax_mm i) d ty_R P X pc lv st h bc bs) : AR ax_ns l (ax_mm i) d ty_R P X' pc lv st h bc bs :=
  fun D b o TC TS p e R s m args below meth c Z hX hP hXX => ha D b o TC TS p e R s m args below meth c Z hX hP (fun pc lv E h bc bs q => hXX pc lv E h bc bs (hx pc lv E h bc bs q))
theorem t_ret_mono {i : Nat} {Q Q' : ax_Q} (hq : ∀ res h, Q res h → Q' res h) {pc : Nat} {lv : List (Nat × Value)} {st : List Value} {h : ax_H} {bc bs : Nat} (hp : ax_ret ax_ns (ax_mm i) Q pc lv st h bc bs) : ax_ret ax_ns (ax_mm i) Q' pc lv st h bc bs := by
  rcases hp with ⟨x, a1, a2, a3, a4, a5⟩ | ⟨x, ty, a1, a2, a3, a4, a5, a6⟩ | ⟨x, a1, a2, a3, a4, a5⟩ | ⟨x, rt, a1, a2, a3, a4, a5, a6⟩ | ⟨a1, a2, a3, a4⟩ | ⟨E, a1, a2, a3, a4, a5, a6⟩
  · exact Or.inl ⟨x, a1, a2, a3, a4, hq _ _ a5⟩
  · exact Or.inr (Or.inl ⟨x, ty, a1, a2, a3, a4, a5, hq _ _ a6⟩)
  · exact Or.inr (Or.inr (Or.inl ⟨x, a1, a2, a3, a4, hq _ _ a5⟩))
  · exact Or.inr (Or.inr (Or.inr (Or.inl ⟨x, rt, a1, a2, a3, a4, a5, hq _ _ a6⟩)))
  · exact Or.inr (Or.inr (Or.inr (Or.inr (Or.inl ⟨a1, a2, a3, hq _ _ a4⟩))))
  · exact Or.inr (Or.inr (Or.inr (Or.inr (Or.inr ⟨E, a1, a2, a3, a4, a5, hq _ _ a6⟩))))
theorem ty_H.n1 {ov : ty_O} (hH : ty_H 0 ty_z 0 ov h) : ty_H 0 ty_z 1 ov h := ⟨hH.1, fun q hq => by
    obtain ⟨vs, e1, e2, e3⟩ := hH.2.1 q hq
    exact ⟨vs, e1, e2, fun j x hx => ⟨(e3 j x hx).1.mono (Nat.zero_le 1), fun hm => ((e3 j x hx).2 hm).mono (Nat.zero_le 1)⟩⟩, fun j => ty_ps_z (hH.2.2 j)⟩
/-- from a place in the middle of a method on, as the explorer goes -/
theorem lt_mid {i d W W0 : Nat} {L : List ty_E} {cs : List ty_Ct} {pcs : List Nat} {c : ty_Cu} {lvx : List (Nat × Value)} {Q : ax_Q} (G : ty_G hy_I l) (hcs : ∀ x ∈ cs, ty_M hy_I l x) (hW0 : Nat.beq (W0 &&& ty_IK) 0 = true) (hW : ty_sub W0 W = true) (hchk : ty_ctk 1000000 i d W W0 cs pcs [] L c = true) (hg : ty_g 0 ty_z 1 c.2.1 [] c.2.2.1 lvx [] h) (hi : hy_I h) (hQ : ∀ res g, ty_Q hy_I 0 W L h res g → Q res g) : AR ax_ns l (ax_mm i) d ty_R (ax_ret ax_ns (ax_mm i) Q) (fun _ _ E h _ _ => (ax_mm i).2.2.2.2 = [] ∧ Q (.inr E) h) c.1 lvx [] h c.2.2.2.1 c.2.2.2.2.1 :=
  AR.xm (fun _ _ _ _ _ _ q => ⟨q.1, hQ _ _ q.2⟩) (AR.then (ty_ctk_ok (K := 0) (Kc := 0) (h0 := h) (c := c) G.1 hW0 hW G.2.1 hcs hchk (Or.inl rfl) (ty_Hc_all (n := 1000000) (pcs := pcs) G.1 hW0 hW G.2.1 hcs (fun _ hc => absurd hc List.not_mem_nil) _) hg (ty_F_refl _ _) hi) (fun _ _ _ _ _ _ q => AR.at (t_ret_mono hQ q)))
def hq_55 (h : ax_H) : ax_Q := fun res g => ∃ z : Int32, res = .inl (some (.int z)) ∧ z.toInt = (if (t_all (t_B h)).1 = true then 1 else 0) ∧ t_st (t_B h) g (t_all (t_B h)).2 ∧ ty_F 4503601770659840 h g ∧ ((t_all (t_B h)).1 = true → 7 ≤ hy_z g 3 7 ∧ hy_z g 3 7 ≤ 9)
theorem lt_55 (hlst : l.stackTraces = false) (hH : hy_H 0 h) (hi : hy_I h) : AM ax_ns l (ax_mm 55) 5 ty_R (0) (0) [.ref 3] h (hq_55 h) := by
  refine AM.of (ax_mfacts (by decide +kernel : ax_has 55 = true)).2.2.2.2.2.2 hlst (by rw [hn_55]; exact Nat.le_of_ble_eq_true rfl) ?_
  show AR ax_ns l (ax_mm 55) 5 ty_R _ _ 0 [(0, .ref 3)] [] h (0) (0)
  have F : ty_F 4503601770659840 h h := ty_F_refl _ _
  refine AR.s (pc' := 1) (lv' := [(0, .ref 3)]) (st' := [.ref 3]) (h' := h) _ hn_55 hk_55_0 rfl ?_
  refine AR.gR hk_55_1 (by decide) hH (q := 3) (n := 9) (by decide) (by decide +kernel) (by decide +kernel) (by decide) hy_t3_6 ?_
  show AR _ _ _ _ _ _ _ 4 [(0, .ref 3)] [.ref 4] h _ _
  refine AR.iconstT hk_55_4 (by decide) (fun z547 ez547 => ?_)
  show AR _ _ _ _ _ _ _ 5 [(0, .ref 3)] [.int z547, .ref 4] h _ _
  refine AR.cs (as := [.ref 4, .int z547]) (rest := []) hk_55_5 (by decide +kernel) rfl rfl (Nat.le_of_ble_eq_true rfl) (tk_6_ok (hg_G hlst) 0 h _ ⟨_, _, rfl, rfl, _, _, rfl, ⟨_, rfl, by omega, by omega, Or.inl rfl⟩, rfl⟩ hH hi) (by decide) (Nat.zero_le _) (Nat.zero_le _) (fun E h' q => ?_) ?_
  · obtain ⟨-, -, e, hm, rr, -⟩ := q
    obtain rfl := List.mem_singleton.mp hm
    exact rr
  rintro w g1 ⟨Tg1, ig1, e, hm, rr, Hg1⟩
  obtain rfl := List.mem_singleton.mp hm
  cases w with
  | some w => exact absurd rr (fun c => c)
  | none =>
    have Fg1 : ty_F 4503601770659840 h g1 := ty_F.sub (by decide +kernel) Tg1
    show AR _ _ _ _ _ _ _ 8 [(0, .ref 3)] [] g1 _ _
    refine AR.s (pc' := 9) (lv' := [(0, .ref 3)]) (st' := [.ref 3]) (h' := g1) _ hn_55 hk_55_8 rfl ?_
    refine AR.iconstT hk_55_9 (by decide) (fun z548 ez548 => ?_)
    show AR _ _ _ _ _ _ _ 10 [(0, .ref 3)] [.int z548, .ref 3] g1 _ _
    refine AR.pT hk_55_10 (by decide) Hg1 Fg1 (q := 3) (by decide) (by decide +kernel) (show ax_cls[6]? = some hy_c6 from rfl) (by decide +kernel) (by decide) rfl (by rw [hy_t3_1]; exact ⟨_, rfl, by omega, by omega, Or.inl rfl⟩) (by decide +kernel) (by decide +kernel) ?_
    rintro g549 ⟨Hg549, Fg549, Gg549, Eg549⟩
    show AR _ _ _ _ _ _ _ 13 [(0, .ref 3)] [] g549 _ _
    have ig549 : hy_I g549 := ig1.st Gg549 (by decide) Eg549 (by decide +kernel)
    have ug549_3_1 : hy_z g549 3 1 = z548.toInt := hy_zi (i := z548) (by rw [Eg549, if_pos ⟨rfl, rfl⟩])
    have ug549_3_2 : hy_z g549 3 2 = hy_z g1 3 2 := hy_ze (by rw [Eg549, if_neg (fun c => absurd c.2 (by decide))])
    have ug549_3_3 : hy_z g549 3 3 = hy_z g1 3 3 := hy_ze (by rw [Eg549, if_neg (fun c => absurd c.2 (by decide))])
    have k2 : ∃ i : Int32, ty_fd g549 3 2 = some (.int i) ∧ 0 ≤ i.toInt ∧ i.toInt ≤ 9 := hy_int Hg549 (q := 3) (n := 9) (j := 2) (a := 0) (z := 9) (by decide) (by decide +kernel) (by decide) (by decide +kernel)
    obtain ⟨i2, d2, l2, u2⟩ := k2
    have z2 := hy_zi d2
    have eB : t_B g549 = t_B h := t_B_F Fg549 (by decide +kernel)
    have S : t_st (t_B h) g549 (hy_z g549 3 2, hy_z g549 3 3, 0) := ⟨Hg549, ig549, (show hy_z g549 3 1 = 0 by omega), (if_neg (show ¬ (hy_z g549 3 2 = 10) by omega)).symm, rfl, eB, Int.le_refl _, (show (0 : Int) ≤ 200 by decide)⟩
    exact lt_55c hlst S rfl (fun res g ⟨z, e, d, S2, F2⟩ r => ⟨z, e, d, S2, ty_F.trans Fg549 (ty_F.sub (by decide +kernel) F2), r⟩)
def hq_117 (h : ax_H) (x : Int32) : ax_Q := fun res g => hy_H 0 g ∧ ty_F 524292 h g ∧ hy_I g ∧ hy_z g 1 1 = 0 ∧ ((x.toInt = 1 ∧ res = .inl none ∧ hy_z g 0 2 = -1) ∨ (x.toInt = 0 ∧ res = .inr "java/lang/IllegalArgumentException" ∧ hy_z g 0 2 = hy_z h 3 3))
theorem lt_c0 (hH : hy_H 0 h) : ∃ vs, h[0]? = some (8, vs) := by
  obtain ⟨vs, e1, -⟩ := hy_cell hH (q := 0) (by decide)
  rw [show (ty_tab 0).1 = 8 from by decide +kernel] at e1
  exact ⟨vs, e1⟩
theorem lt_117 (hlst : l.stackTraces = false) (hH : hy_H 0 h) (hi : hy_I h) (x01 : x.toInt = 0 ∨ x.toInt = 1) : AM ax_ns l (ax_mm 117) 0 ty_R (1) (6) [.ref 0, .int x] h (hq_117 h x) := by
  refine AM.of (ax_mfacts (by decide +kernel : ax_has 117 = true)).2.2.2.2.2.2 hlst (by rw [hn_117]; exact Nat.le_of_ble_eq_true rfl) ?_
  show AR ax_ns l (ax_mm 117) 0 ty_R _ _ 0 [(0, .ref 0), (1, .int x)] [] h (1) (6)
  have F : ty_F 524292 h h := ty_F_refl _ _
  refine AR.s (pc' := 1) (lv' := [(0, .ref 0), (1, .int x)]) (st' := [.ref 0]) (h' := h) _ hn_117 hk_117_0 rfl ?_
  refine AR.s (pc' := 2) (lv' := [(0, .ref 0), (1, .int x)]) (st' := [.int x, .ref 0]) (h' := h) _ hn_117 hk_117_1 rfl ?_
  refine AR.zeq hk_117_2 (tgt := 9) (by decide) (fun p1 => ?_) (fun p2 => ?_)
  · refine AR.s (pc' := 10) (lv' := [(0, .ref 0), (1, .int x)]) (st' := [.ref 0, .ref 0]) (h' := h) _ hn_117 hk_117_9 rfl ?_
    refine AR.gR hk_117_10 (by decide) hH (q := 0) (n := 18) (by decide) (by decide +kernel) (by decide +kernel) (by decide) hy_t0_1 ?_
    show AR _ _ _ _ _ _ _ 13 [(0, .ref 0), (1, .int x)] [.ref 3, .ref 0] h _ _
    refine AR.gI hk_117_13 (by decide) hH (q := 3) (n := 9) (by decide) (by decide +kernel) (by decide +kernel) (by decide) hy_t3_3 (fun x550 dx550 lx550 ux550 => ?_)
    show AR _ _ _ _ _ _ _ 16 [(0, .ref 0), (1, .int x)] [.int x550, .ref 0] h _ _
    have sx550 := hy_zi dx550
    refine AR.pT hk_117_16 (by decide) hH F (q := 0) (by decide) (by decide +kernel) (show ax_cls[8]? = some hy_c8 from rfl) (by decide +kernel) (by decide) rfl (by rw [hy_t0_2]; exact ⟨_, rfl, by omega, by omega, Or.inl rfl⟩) (by decide +kernel) (by decide +kernel) ?_
    rintro g551 ⟨Hg551, Fg551, Gg551, Eg551⟩
    show AR _ _ _ _ _ _ _ 19 [(0, .ref 0), (1, .int x)] [] g551 _ _
    have ig551 : hy_I g551 := hi.st Gg551 (by decide) Eg551 (by decide +kernel)
    have ug551_1_1 : hy_z g551 1 1 = hy_z h 1 1 := hy_ze (by rw [Eg551, if_neg (fun c => absurd c.1 (by decide))])
    have ug551_0_2 : hy_z g551 0 2 = x550.toInt := hy_zi (i := x550) (by rw [Eg551, if_pos ⟨rfl, rfl⟩])
    have ug551_3_3 : hy_z g551 3 3 = hy_z h 3 3 := hy_ze (by rw [Eg551, if_neg (fun c => absurd c.1 (by decide))])
    refine AR.s (pc' := 20) (lv' := [(0, .ref 0), (1, .int x)]) (st' := [.ref 0]) (h' := g551) _ hn_117 hk_117_19 rfl ?_
    refine AR.gR hk_117_20 (by decide) Hg551 (q := 0) (n := 18) (by decide) (by decide +kernel) (by decide +kernel) (by decide) hy_t0_0 ?_
    show AR _ _ _ _ _ _ _ 23 [(0, .ref 0), (1, .int x)] [.ref 1] g551 _ _
    refine AR.iconstT hk_117_23 (by decide) (fun z552 ez552 => ?_)
    show AR _ _ _ _ _ _ _ 24 [(0, .ref 0), (1, .int x)] [.int z552, .ref 1] g551 _ _
    refine AR.pT hk_117_24 (by decide) Hg551 Fg551 (q := 1) (by decide) (by decide +kernel) (show ax_cls[7]? = some hy_c7 from rfl) (by decide +kernel) (by decide) rfl (by rw [hy_t1_1]; exact ⟨_, rfl, by omega, by omega, Or.inl rfl⟩) (by decide +kernel) (by decide +kernel) ?_
    rintro g553 ⟨Hg553, Fg553, Gg553, Eg553⟩
    show AR _ _ _ _ _ _ _ 27 [(0, .ref 0), (1, .int x)] [] g553 _ _
    have ig553 : hy_I g553 := ig551.st Gg553 (by decide) Eg553 (by decide +kernel)
    have ug553_1_1 : hy_z g553 1 1 = z552.toInt := hy_zi (i := z552) (by rw [Eg553, if_pos ⟨rfl, rfl⟩])
    have ug553_0_2 : hy_z g553 0 2 = hy_z g551 0 2 := hy_ze (by rw [Eg553, if_neg (fun c => absurd c.1 (by decide))])
    have ug553_3_3 : hy_z g553 3 3 = hy_z g551 3 3 := hy_ze (by rw [Eg553, if_neg (fun c => absurd c.1 (by decide))])
    refine AR.s (pc' := 28) (lv' := [(0, .ref 0), (1, .int x)]) (st' := [.int x]) (h' := g553) _ hn_117 hk_117_27 rfl ?_
    refine AR.zne hk_117_28 (tgt := 42) (by decide) (fun q1 => ?_) (fun q2 => ?_)
    · exact absurd (show x.toInt = 0 by omega) (by omega)
    · exact AR.at (Or.inr (Or.inr (Or.inr (Or.inr (Or.inr ⟨_, ax_thr_ok (117, 31, 1) (by decide), by decide +kernel, by decide, by decide, by decide, ⟨hy_app Hg553 _, Fg553.trans (ty_F.push Hg553.1), ig553.push Hg553 _, by rw [hy_zapp Hg553 _ (by decide) 1]; omega, Or.inr ⟨by omega, rfl, by rw [hy_zapp Hg553 _ (by decide) 2]; omega⟩⟩⟩)))))
  · refine AR.iconstT hk_117_5 (by decide) (fun z554 ez554 => ?_)
    show AR _ _ _ _ _ _ _ 6 [(0, .ref 0), (1, .int x)] [.int z554, .ref 0] h _ _
    refine AR.gotoT hk_117_6 (tgt := 16) (by decide) ?_
    refine AR.pT hk_117_16 (by decide) hH F (q := 0) (by decide) (by decide +kernel) (show ax_cls[8]? = some hy_c8 from rfl) (by decide +kernel) (by decide) rfl (by rw [hy_t0_2]; exact ⟨_, rfl, by omega, by omega, Or.inl rfl⟩) (by decide +kernel) (by decide +kernel) ?_
    rintro g555 ⟨Hg555, Fg555, Gg555, Eg555⟩
    show AR _ _ _ _ _ _ _ 19 [(0, .ref 0), (1, .int x)] [] g555 _ _
    have ig555 : hy_I g555 := hi.st Gg555 (by decide) Eg555 (by decide +kernel)
    have ug555_1_1 : hy_z g555 1 1 = hy_z h 1 1 := hy_ze (by rw [Eg555, if_neg (fun c => absurd c.1 (by decide))])
    have ug555_0_2 : hy_z g555 0 2 = z554.toInt := hy_zi (i := z554) (by rw [Eg555, if_pos ⟨rfl, rfl⟩])
    have ug555_3_3 : hy_z g555 3 3 = hy_z h 3 3 := hy_ze (by rw [Eg555, if_neg (fun c => absurd c.1 (by decide))])
    refine AR.s (pc' := 20) (lv' := [(0, .ref 0), (1, .int x)]) (st' := [.ref 0]) (h' := g555) _ hn_117 hk_117_19 rfl ?_
    refine AR.gR hk_117_20 (by decide) Hg555 (q := 0) (n := 18) (by decide) (by decide +kernel) (by decide +kernel) (by decide) hy_t0_0 ?_
    show AR _ _ _ _ _ _ _ 23 [(0, .ref 0), (1, .int x)] [.ref 1] g555 _ _
    refine AR.iconstT hk_117_23 (by decide) (fun z556 ez556 => ?_)
    show AR _ _ _ _ _ _ _ 24 [(0, .ref 0), (1, .int x)] [.int z556, .ref 1] g555 _ _
    refine AR.pT hk_117_24 (by decide) Hg555 Fg555 (q := 1) (by decide) (by decide +kernel) (show ax_cls[7]? = some hy_c7 from rfl) (by decide +kernel) (by decide) rfl (by rw [hy_t1_1]; exact ⟨_, rfl, by omega, by omega, Or.inl rfl⟩) (by decide +kernel) (by decide +kernel) ?_
    rintro g557 ⟨Hg557, Fg557, Gg557, Eg557⟩
    show AR _ _ _ _ _ _ _ 27 [(0, .ref 0), (1, .int x)] [] g557 _ _
    have ig557 : hy_I g557 := ig555.st Gg557 (by decide) Eg557 (by decide +kernel)
    have ug557_1_1 : hy_z g557 1 1 = z556.toInt := hy_zi (i := z556) (by rw [Eg557, if_pos ⟨rfl, rfl⟩])
    have ug557_0_2 : hy_z g557 0 2 = hy_z g555 0 2 := hy_ze (by rw [Eg557, if_neg (fun c => absurd c.1 (by decide))])
    have ug557_3_3 : hy_z g557 3 3 = hy_z g555 3 3 := hy_ze (by rw [Eg557, if_neg (fun c => absurd c.1 (by decide))])
    refine AR.s (pc' := 28) (lv' := [(0, .ref 0), (1, .int x)]) (st' := [.int x]) (h' := g557) _ hn_117 hk_117_27 rfl ?_
    refine AR.zne hk_117_28 (tgt := 42) (by decide) (fun q1 => ?_) (fun q2 => ?_)
    · exact AR.vret hk_117_42 hr_117 ⟨Hg557, Fg557, ig557, by omega, Or.inl ⟨by omega, rfl, by omega⟩⟩
    · exact absurd q2 (by omega)
noncomputable def lt_m72_L : List ty_E := [(.inr "java/lang/IllegalStateException", []), (.inl (some (0, 0, 0, (-2147483648), 2147483647)), [])]
noncomputable def lt_m72_c : ty_Cu := (11, [(0, (2, 0, 0, 0, 0))], [(3, 8, (0, 0, 0, 7, 9))], 1, 6, 0, 0, [])
theorem lt_m72_k : ty_ctk 1000000 72 7 6869612285132832 6869612285132832 [tk_61, tk_63, tk_34, tk_59, tk_33, tk_31, tk_62, tk_56, tk_64, tk_28, tk_32, tk_60, tk_29, tk_30, tk_58, tk_39] [] [] lt_m72_L lt_m72_c = true := by decide +kernel
theorem lt_m72_cs (G : ty_G hy_I l) : ∀ x ∈ [tk_61, tk_63, tk_34, tk_59, tk_33, tk_31, tk_62, tk_56, tk_64, tk_28, tk_32, tk_60, tk_29, tk_30, tk_58, tk_39], ty_M hy_I l x := (ty_cc (tk_61_ok G) (ty_cc (tk_63_ok G) (ty_cc (tk_34_ok G) (ty_cc (tk_59_ok G) (ty_cc (tk_33_ok G) (ty_cc (tk_31_ok G) (ty_cc (tk_62_ok G) (ty_cc (tk_56_ok G) (ty_cc (tk_64_ok G) (ty_cc (tk_28_ok G) (ty_cc (tk_32_ok G) (ty_cc (tk_60_ok G) (ty_cc (tk_29_ok G) (ty_cc (tk_30_ok G) (ty_cc (tk_58_ok G) (ty_cc (tk_39_ok G) ty_c0))))))))))))))))
def hq_72 (h : ax_H) : ax_Q := fun res g => hy_H 0 g ∧ ty_F 6869613355204644 h g ∧ hy_I g ∧ hy_z g 0 2 = t_er (t_B h) ∧ hy_z g 1 1 = 0 ∧ ((∃ z : Int32, res = .inl (some (.int z))) ∨ res = .inr "java/lang/IllegalArgumentException" ∨ res = .inr "java/lang/IllegalStateException")
theorem lt_72_t (hlst : l.stackTraces = false) {g : ax_H} (H : hy_H 0 g) (hi : hy_I g) (r1 : 7 ≤ hy_z g 3 7) (r2 : hy_z g 3 7 ≤ 9) (F : ty_F 6869613355204644 h g) (e : hy_z g 0 2 = t_er (t_B h)) (e1 : hy_z g 1 1 = 0) : AR ax_ns l (ax_mm 72) 7 ty_R (ax_ret ax_ns (ax_mm 72) (hq_72 h)) (fun _ _ E h' _ _ => (ax_mm 72).2.2.2.2 = [] ∧ hq_72 h (.inr E) h') 11 [(0, .ref 0)] [] g 1 6 := by
  obtain ⟨i, d1, l1, u1⟩ := hy_int H (q := 3) (n := 9) (j := 7) (a := -2147483648) (z := 2147483647) (by decide) (by decide +kernel) (by decide) (by decide +kernel)
  have zi := hy_zi d1
  refine lt_mid (c := lt_m72_c) (hg_G hlst) (lt_m72_cs (hg_G hlst)) (W := 6869612285132832) (W0 := 6869612285132832) (by decide +kernel) (by decide +kernel) lt_m72_k ⟨fun j t hm => ?_, rfl, ?_⟩ hi (fun res g' q => ?_)
  · obtain ⟨rfl, rfl⟩ := Prod.mk.inj (List.mem_singleton.mp hm)
    exact ⟨_, rfl, rfl⟩
  · exact (ty_H.put (t := (0, 0, 0, 7, 9)) H (by decide) d1 ⟨i, rfl, by omega, by omega, Or.inl rfl⟩).n1
  · obtain ⟨F2, i2, ee, hm, rr, HH⟩ := q
    have z2 : hy_z g' 0 2 = hy_z g 0 2 := hy_zF F2 2 (q := 0) (by decide) (by decide +kernel) (by decide +kernel)
    have z1 : hy_z g' 1 1 = hy_z g 1 1 := hy_zF F2 1 (q := 1) (by decide) (by decide +kernel) (by decide +kernel)
    rcases List.mem_cons.mp hm with rfl | hm
    · refine ⟨HH, F.trans (ty_F.sub (by decide +kernel) F2), i2, by omega, by omega, Or.inr (Or.inr ?_)⟩
      match res, rr with
      | .inr E, rr => exact congrArg _ rr
    · obtain rfl := List.mem_singleton.mp hm
      refine ⟨HH, F.trans (ty_F.sub (by decide +kernel) F2), i2, by omega, by omega, Or.inl ?_⟩
      match res, rr with
      | .inl (some x), rr => obtain ⟨z, rfl, -⟩ := rr; exact ⟨z, rfl⟩
theorem lt_72 (hlst : l.stackTraces = false) (hH : hy_H 0 h) (hi : hy_I h) : AM ax_ns l (ax_mm 72) 7 ty_R (2) (12) [.ref 0] h (hq_72 h) := by
  refine AM.of (ax_mfacts (by decide +kernel : ax_has 72 = true)).2.2.2.2.2.2 hlst (by rw [hn_72]; exact Nat.le_of_ble_eq_true rfl) ?_
  show AR ax_ns l (ax_mm 72) 7 ty_R _ _ 0 [(0, .ref 0)] [] h (2) (12)
  refine AR.s (pc' := 1) (lv' := [(0, .ref 0)]) (st' := [.ref 0]) (h' := h) _ hn_72 hk_72_0 rfl ?_
  refine AR.s (pc' := 2) (lv' := [(0, .ref 0)]) (st' := [.ref 0, .ref 0]) (h' := h) _ hn_72 hk_72_1 rfl ?_
  refine AR.gR hk_72_2 (by decide) hH (q := 0) (n := 18) (by decide) (by decide +kernel) (by decide +kernel) (by decide) hy_t0_1 ?_
  show AR _ _ _ _ _ _ _ 5 [(0, .ref 0)] [.ref 3, .ref 0] h _ _
  obtain ⟨v3, c3⟩ := lt_c3 hH
  refine AR.jr (r := 3) (as := []) (rest := [.ref 0]) hk_72_5 (by decide) (by decide +kernel) (by decide) c3 rfl rfl (Nat.le_of_ble_eq_true rfl) (lt_55 hlst hH hi) (by decide) (Nat.zero_le _) (Nat.zero_le _) ?_ (fun E h' q => by obtain ⟨_, e, -⟩ := q; cases e)
  rintro w g ⟨z, ez, dz, S, Fg, rz⟩
  cases ez
  have hB : t_B g = t_B h := t_B_F Fg (by decide +kernel)
  obtain ⟨Hg, ig, s1, s2, s3, s4, s5, s6⟩ := S
  show AR _ _ _ _ _ _ _ 8 [(0, .ref 0)] [.int z, .ref 0] g _ _
  obtain ⟨v0, c0⟩ := lt_c0 Hg
  refine AR.jr (r := 0) (as := [.int z]) (rest := []) hk_72_8 (by decide) (by decide +kernel) (by decide) c0 rfl rfl (Nat.le_of_ble_eq_true rfl) (lt_117 hlst Hg ig (by rw [dz]; split; exact Or.inr rfl; exact Or.inl rfl)) (by decide) (by decide) (by decide) ?_ ?_
  · rintro w g2 ⟨H2, F2, i2, e1, (⟨x1, e, e2⟩ | ⟨x1, e, e2⟩)⟩
    · cases e
      have et : (t_all (t_B h)).1 = true := by
        cases e : (t_all (t_B h)).1 with
        | true => rfl
        | false => rw [e] at dz; exact absurd (show z.toInt = 0 from dz) (by omega)
      have r37 : hy_z g2 3 7 = hy_z g 3 7 := hy_zF F2 7 (q := 3) (by decide) (by decide +kernel) (by decide +kernel)
      exact lt_72_t hlst H2 i2 (by rw [r37]; exact (rz et).1) (by rw [r37]; exact (rz et).2) (ty_F.trans (ty_F.sub (by decide +kernel) Fg) (ty_F.sub (by decide +kernel) F2)) (by rw [e2]; exact (if_pos et).symm) e1
    · cases e
  · rintro E g2 ⟨H2, F2, i2, e1, (⟨x1, e, e2⟩ | ⟨x1, e, e2⟩)⟩
    · cases e
    · cases e
      have et : ¬ (t_all (t_B h)).1 = true := fun c => by rw [if_pos c] at dz; omega
      exact AX.out ⟨by decide +kernel, H2, ty_F.trans (ty_F.sub (by decide +kernel) Fg) (ty_F.sub (by decide +kernel) F2), i2, by rw [e2, s3]; exact (if_neg et).symm, e1, Or.inr (Or.inl rfl)⟩
noncomputable def lt_m73_L : List ty_E := [(.inl (some (0, 0, 0, (-2147483648), 2147483647)), [])]
noncomputable def lt_m73_c : ty_Cu := (11, [(0, (2, 0, 0, 0, 0))], [(3, 8, (0, 0, 0, 7, 9))], 1, 6, 0, 0, [])
theorem lt_m73_k : ty_ctk 1000000 73 7 114211770335232 114211770335232 [tk_34, tk_72, tk_67, tk_64, tk_28, tk_71, tk_29, tk_30, tk_58, tk_39] [] [] lt_m73_L lt_m73_c = true := by decide +kernel
theorem lt_m73_cs (G : ty_G hy_I l) : ∀ x ∈ [tk_34, tk_72, tk_67, tk_64, tk_28, tk_71, tk_29, tk_30, tk_58, tk_39], ty_M hy_I l x := (ty_cc (tk_34_ok G) (ty_cc (tk_72_ok G) (ty_cc (tk_67_ok G) (ty_cc (tk_64_ok G) (ty_cc (tk_28_ok G) (ty_cc (tk_71_ok G) (ty_cc (tk_29_ok G) (ty_cc (tk_30_ok G) (ty_cc (tk_58_ok G) (ty_cc (tk_39_ok G) ty_c0))))))))))
def hq_73 (h : ax_H) : ax_Q := fun res g => hy_H 0 g ∧ ty_F 4617813541519364 h g ∧ hy_I g ∧ hy_z g 0 2 = t_er (t_B h) ∧ hy_z g 1 1 = 0 ∧ ((∃ z : Int32, res = .inl (some (.int z))) ∨ res = .inr "java/lang/IllegalArgumentException")
theorem lt_73_t (hlst : l.stackTraces = false) {g : ax_H} (H : hy_H 0 g) (hi : hy_I g) (r1 : 7 ≤ hy_z g 3 7) (r2 : hy_z g 3 7 ≤ 9) (F : ty_F 4617813541519364 h g) (e : hy_z g 0 2 = t_er (t_B h)) (e1 : hy_z g 1 1 = 0) : AR ax_ns l (ax_mm 73) 7 ty_R (ax_ret ax_ns (ax_mm 73) (hq_73 h)) (fun _ _ E h' _ _ => (ax_mm 73).2.2.2.2 = [] ∧ hq_73 h (.inr E) h') 11 [(0, .ref 0)] [] g 1 6 := by
  obtain ⟨i, d1, l1, u1⟩ := hy_int H (q := 3) (n := 9) (j := 7) (a := -2147483648) (z := 2147483647) (by decide) (by decide +kernel) (by decide) (by decide +kernel)
  have zi := hy_zi d1
  refine lt_mid (c := lt_m73_c) (hg_G hlst) (lt_m73_cs (hg_G hlst)) (W := 114211770335232) (W0 := 114211770335232) (by decide +kernel) (by decide +kernel) lt_m73_k ⟨fun j t hm => ?_, rfl, ?_⟩ hi (fun res g' q => ?_)
  · obtain ⟨rfl, rfl⟩ := Prod.mk.inj (List.mem_singleton.mp hm)
    exact ⟨_, rfl, rfl⟩
  · exact (ty_H.put (t := (0, 0, 0, 7, 9)) H (by decide) d1 ⟨i, rfl, by omega, by omega, Or.inl rfl⟩).n1
  · obtain ⟨F2, i2, ee, hm, rr, HH⟩ := q
    have z2 : hy_z g' 0 2 = hy_z g 0 2 := hy_zF F2 2 (q := 0) (by decide) (by decide +kernel) (by decide +kernel)
    have z1 : hy_z g' 1 1 = hy_z g 1 1 := hy_zF F2 1 (q := 1) (by decide) (by decide +kernel) (by decide +kernel)
    obtain rfl := List.mem_singleton.mp hm
    refine ⟨HH, F.trans (ty_F.sub (by decide +kernel) F2), i2, by omega, by omega, Or.inl ?_⟩
    match res, rr with
    | .inl (some x), rr => obtain ⟨z, rfl, -⟩ := rr; exact ⟨z, rfl⟩
theorem lt_73 (hlst : l.stackTraces = false) (hH : hy_H 0 h) (hi : hy_I h) : AM ax_ns l (ax_mm 73) 7 ty_R (2) (12) [.ref 0] h (hq_73 h) := by
  refine AM.of (ax_mfacts (by decide +kernel : ax_has 73 = true)).2.2.2.2.2.2 hlst (by rw [hn_73]; exact Nat.le_of_ble_eq_true rfl) ?_
  show AR ax_ns l (ax_mm 73) 7 ty_R _ _ 0 [(0, .ref 0)] [] h (2) (12)
  refine AR.s (pc' := 1) (lv' := [(0, .ref 0)]) (st' := [.ref 0]) (h' := h) _ hn_73 hk_73_0 rfl ?_
  refine AR.s (pc' := 2) (lv' := [(0, .ref 0)]) (st' := [.ref 0, .ref 0]) (h' := h) _ hn_73 hk_73_1 rfl ?_
  refine AR.gR hk_73_2 (by decide) hH (q := 0) (n := 18) (by decide) (by decide +kernel) (by decide +kernel) (by decide) hy_t0_1 ?_
  show AR _ _ _ _ _ _ _ 5 [(0, .ref 0)] [.ref 3, .ref 0] h _ _
  obtain ⟨v3, c3⟩ := lt_c3 hH
  refine AR.jr (r := 3) (as := []) (rest := [.ref 0]) hk_73_5 (by decide) (by decide +kernel) (by decide) c3 rfl rfl (Nat.le_of_ble_eq_true rfl) (lt_55 hlst hH hi) (by decide) (Nat.zero_le _) (Nat.zero_le _) ?_ (fun E h' q => by obtain ⟨_, e, -⟩ := q; cases e)
  rintro w g ⟨z, ez, dz, S, Fg, rz⟩
  cases ez
  have hB : t_B g = t_B h := t_B_F Fg (by decide +kernel)
  obtain ⟨Hg, ig, s1, s2, s3, s4, s5, s6⟩ := S
  show AR _ _ _ _ _ _ _ 8 [(0, .ref 0)] [.int z, .ref 0] g _ _
  obtain ⟨v0, c0⟩ := lt_c0 Hg
  refine AR.jr (r := 0) (as := [.int z]) (rest := []) hk_73_8 (by decide) (by decide +kernel) (by decide) c0 rfl rfl (Nat.le_of_ble_eq_true rfl) (lt_117 hlst Hg ig (by rw [dz]; split; exact Or.inr rfl; exact Or.inl rfl)) (by decide) (by decide) (by decide) ?_ ?_
  · rintro w g2 ⟨H2, F2, i2, e1, (⟨x1, e, e2⟩ | ⟨x1, e, e2⟩)⟩
    · cases e
      have et : (t_all (t_B h)).1 = true := by
        cases e : (t_all (t_B h)).1 with
        | true => rfl
        | false => rw [e] at dz; exact absurd (show z.toInt = 0 from dz) (by omega)
      have r37 : hy_z g2 3 7 = hy_z g 3 7 := hy_zF F2 7 (q := 3) (by decide) (by decide +kernel) (by decide +kernel)
      exact lt_73_t hlst H2 i2 (by rw [r37]; exact (rz et).1) (by rw [r37]; exact (rz et).2) (ty_F.trans (ty_F.sub (by decide +kernel) Fg) (ty_F.sub (by decide +kernel) F2)) (by rw [e2]; exact (if_pos et).symm) e1
    · cases e
  · rintro E g2 ⟨H2, F2, i2, e1, (⟨x1, e, e2⟩ | ⟨x1, e, e2⟩)⟩
    · cases e
    · cases e
      have et : ¬ (t_all (t_B h)).1 = true := fun c => by rw [if_pos c] at dz; omega
      exact AX.out ⟨by decide +kernel, H2, ty_F.trans (ty_F.sub (by decide +kernel) Fg) (ty_F.sub (by decide +kernel) F2), i2, by rw [e2, s3]; exact (if_neg et).symm, e1, Or.inr rfl⟩
def r_tk (k : Int) : Int := if k = 0 then -1 else if k = 2 then 1 else if k = 10 then 1 else if k = 3 then 2 else if k = 4 then 43 else if k = 5 then 45 else if k = 6 then 126 else if k = 7 then 3 else if k = 8 then 4 else if k = 9 then 61 else 5
theorem r_tk_s (k : Int) : (r_tk k = -1 ↔ k = 0) ∧ (r_tk k = 1 ↔ k = 2 ∨ k = 10) ∧ (r_tk k = 2 ↔ k = 3) ∧ (r_tk k = 43 ↔ k = 4) ∧ (r_tk k = 45 ↔ k = 5) ∧ (r_tk k = 126 ↔ k = 6) ∧ (r_tk k = 3 ↔ k = 7) ∧ (r_tk k = 4 ↔ k = 8) ∧ (r_tk k = 61 ↔ k = 9) := by
  unfold r_tk
  (repeat' split) <;> omega
theorem t_sy_0 {c d : Int} (h : c < 0) : t_sy c d = (0, 0) := if_pos h
theorem t_sy_43 {c d : Int} (h : c = 43) : t_sy c d = (4, 1) := by subst h; rfl
theorem t_sy_45 {c d : Int} (h : c = 45) : t_sy c d = (5, 1) := by subst h; rfl
theorem t_sy_126 {c d : Int} (h : c = 126) : t_sy c d = (6, 1) := by subst h; rfl
theorem t_sy_61 {c d : Int} (h : c = 61) : t_sy c d = (9, 1) := by subst h; rfl
theorem t_sy_62 {c d : Int} (h : c = 62 ∧ d = 61) : t_sy c d = (7, 2) := by obtain ⟨rfl, rfl⟩ := h; rfl
theorem t_sy_60 {c d : Int} (h : c = 60 ∧ d = 61) : t_sy c d = (8, 2) := by obtain ⟨rfl, rfl⟩ := h; rfl
theorem t_sy_1 {c d : Int} (h0 : 0 ≤ c) (h1 : c ≠ 43) (h2 : c ≠ 45) (h3 : c ≠ 126) (h4 : c ≠ 61) (h5 : ¬ (c = 62 ∧ d = 61)) (h6 : ¬ (c = 60 ∧ d = 61)) : t_sy c d = (1, 0) := by
  unfold t_sy
  rw [if_neg (by omega), if_neg h1, if_neg h2, if_neg h3, if_neg h4, if_neg h5, if_neg h6]
def r_ok (B : Int → Int) (T : t_K) : Prop := 0 ≤ T.2.1 ∧ T.2.1 ≤ T.2.2 ∧ T.2.2 ≤ 200 ∧ 0 ≤ T.1 ∧ T.1 ≤ 10 ∧ (T.1 ≠ 0 → T.1 ≠ 1 → T.2.1 < T.2.2) ∧ (T.1 = 2 → T.2.2 - T.2.1 ≤ 6) ∧ (T.1 = 10 → 6 < T.2.2 - T.2.1) ∧ (T.1 = 3 → 97 ≤ B T.2.1 ∧ B T.2.1 ≤ 108)
theorem r_ok_nx (B : Int → Int) (hB : ∀ p, 200 ≤ p → B p = -1) {p : Int} (h0 : 0 ≤ p) (h : p ≤ 200) : r_ok B (t_nx B p) := by
  obtain ⟨a1, a2, a3, a4, a5, a6⟩ := t_nx_rg B hB h
  refine ⟨by omega, a2, a3, a4, a5, a6, ?_, ?_, ?_⟩
  all_goals
    unfold t_nx
    split
    · split
      · rename_i e
        first | exact fun _ => e | exact fun c => absurd (show (2 : Int) = _ from c) (by decide)
      · rename_i e
        first | exact fun _ => Int.not_le.mp e | exact fun c => absurd (show (10 : Int) = _ from c) (by decide)
    · split
      · rename_i e
        first | exact fun _ => e | exact fun c => absurd (show (3 : Int) = _ from c) (by decide)
      · intro c
        have c : (t_sy (B (t_sp B 201 p)) (B (t_sp B 201 p + 1))).1 = _ := c
        exfalso
        unfold t_sy at c
        (repeat' split at c) <;> exact absurd c (by decide)
/-- the reference stands at T -/
def r_st (B : Int → Int) (h : ax_H) (T : t_K) : Prop := hy_H 0 h ∧ hy_I h ∧ hy_z h 181 8 = T.2.2 ∧ hy_z h 181 10 = r_tk T.1 ∧ hy_z h 181 9 = T.2.1 ∧ r_B h = B ∧ r_ok B T
theorem r_B_at {p : Int} (e : 0 ≤ r_B h p) : r_B h p = hy_z h 185 p.toNat := by
  unfold r_B at e ⊢
  split
  · rfl
  · rename_i c
    rw [if_neg c] at e
    omega
theorem lr_sp (hlst : l.stackTraces = false) {P : ax_P} {X : ax_PX} (hH : hy_H 0 h) : ∀ (n : Nat) (g : ax_H), hy_H 0 g → hy_I g → ty_F 16528282690043758247936 h g → 0 ≤ hy_z g 181 8 → hy_z g 181 8 ≤ 200 → 201 ≤ hy_z g 181 8 + n → t_sp (r_B h) n (hy_z g 181 8) = t_sp (r_B h) 201 (hy_z h 181 8) → (∀ g', hy_H 0 g' → hy_I g' → ty_F 16528282690043758247936 h g' → hy_z g' 181 8 = t_sp (r_B h) 201 (hy_z h 181 8) → 0 ≤ hy_z g' 181 8 → hy_z g' 181 8 ≤ 200 → AR ax_ns l (ax_mm 147) 1 ty_R P X 26 [(0, .ref 181)] [] g' 0 0) → AR ax_ns l (ax_mm 147) 1 ty_R P X 0 [(0, .ref 181)] [] g 0 0 := by
  intro n
  induction n with
  | zero => intro g _ _ _ _ _ _; omega
  | succ n ih =>
    intro g Hg ig Fg g0 g2 gn ht k
    have hB : r_B g = r_B h := r_B_F Fg (by decide +kernel)
    show AR _ _ _ _ _ _ _ 0 [(0, .ref 181)] [] g _ _
    refine AR.s (pc' := 1) (lv' := [(0, .ref 181)]) (st' := [.ref 181]) (h' := g) _ hn_147 hk_147_0 rfl ?_
    refine AR.s (pc' := 2) (lv' := [(0, .ref 181)]) (st' := [.ref 181, .ref 181]) (h' := g) _ hn_147 hk_147_1 rfl ?_
    refine AR.gI hk_147_2 (by decide) Hg (q := 181) (n := 32) (by decide) (by decide +kernel) (by decide +kernel) (by decide) hy_t181_8 (fun x558 dx558 lx558 ux558 => ?_)
    show AR _ _ _ _ _ _ _ 5 [(0, .ref 181)] [.int x558, .ref 181] g _ _
    have sx558 := hy_zi dx558
    refine AR.c9 (as := [.int x558]) (rest := []) hk_147_5 Hg (by decide +kernel) rfl rfl (Nat.le_of_ble_eq_true rfl) (lr_145 hlst Hg (by omega)) (by decide) (Nat.zero_le _) (Nat.zero_le _) (fun E h' q => by obtain ⟨-, x, e, -⟩ := q; cases e) ?_
    rintro w560 g561 ⟨eg561, z559, e, ez559⟩
    cases e
    obtain rfl := eg561.symm
    show AR _ _ _ _ _ _ _ 8 [(0, .ref 181)] [.int z559] g _ _
    have eb : r_B h (hy_z g 181 8) = z559.toInt := by rw [ez559, hB]; congr 1 <;> omega
    refine AR.bipushT hk_147_8 (by decide) (fun z562 ez562 => ?_)
    show AR _ _ _ _ _ _ _ 10 [(0, .ref 181)] [.int z562, .int z559] g _ _
    refine AR.jne hk_147_10 (tgt := 26) (by decide) (fun p1 => ?_) (fun p2 => ?_)
    · have te : hy_z g 181 8 = t_sp (r_B h) 201 (hy_z h 181 8) := by
        rw [← ht]
        unfold t_sp
        rw [if_neg (by rw [eb]; omega)]
      exact k g Hg ig Fg te g0 g2
    · have q2 : hy_z g 181 8 < 200 := by
        refine Int.not_le.mp (fun c => ?_)
        rw [r_B_lt hH c] at eb
        omega
      have tn : t_sp (r_B h) n (hy_z g 181 8 + 1) = t_sp (r_B h) 201 (hy_z h 181 8) := by
        rw [← ht]
        show _ = (if r_B h (hy_z g 181 8) = 32 then t_sp (r_B h) n (hy_z g 181 8 + 1) else hy_z g 181 8)
        rw [eb, if_pos (by omega)]
      show AR _ _ _ _ _ _ _ 13 [(0, .ref 181)] [] g _ _
      refine AR.s (pc' := 14) (lv' := [(0, .ref 181)]) (st' := [.ref 181]) (h' := g) _ hn_147 hk_147_13 rfl ?_
      refine AR.s (pc' := 15) (lv' := [(0, .ref 181)]) (st' := [.ref 181, .ref 181]) (h' := g) _ hn_147 hk_147_14 rfl ?_
      refine AR.gI hk_147_15 (by decide) Hg (q := 181) (n := 32) (by decide) (by decide +kernel) (by decide +kernel) (by decide) hy_t181_8 (fun x563 dx563 lx563 ux563 => ?_)
      show AR _ _ _ _ _ _ _ 18 [(0, .ref 181)] [.int x563, .ref 181] g _ _
      have sx563 := hy_zi dx563
      refine AR.iconstT hk_147_18 (by decide) (fun z564 ez564 => ?_)
      show AR _ _ _ _ _ _ _ 19 [(0, .ref 181)] [.int z564, .int x563, .ref 181] g _ _
      refine AR.addT hk_147_19 (by omega) (by omega) (fun z565 ez565 => ?_)
      show AR _ _ _ _ _ _ _ 20 [(0, .ref 181)] [.int z565, .ref 181] g _ _
      refine AR.pT hk_147_20 (by decide) Hg Fg (q := 181) (by decide) (by decide +kernel) (show ax_cls[9]? = some hy_c9 from rfl) (by decide +kernel) (by decide) rfl (by rw [hy_t181_8]; exact ⟨_, rfl, by omega, by omega, Or.inl rfl⟩) (by decide +kernel) (by decide +kernel) ?_
      rintro g566 ⟨Hg566, Fg566, Gg566, Eg566⟩
      show AR _ _ _ _ _ _ _ 23 [(0, .ref 181)] [] g566 _ _
      have ig566 : hy_I g566 := ig.st Gg566 (by decide) Eg566 (by decide +kernel)
      have ug566_181_8 : hy_z g566 181 8 = z565.toInt := hy_zi (i := z565) (by rw [Eg566, if_pos ⟨rfl, rfl⟩])
      refine AR.gotoT hk_147_23 (tgt := 0) (by decide) ?_
      have us : hy_z g566 181 8 = hy_z g 181 8 + 1 := by omega
      exact ih g566 Hg566 ig566 Fg566 (by omega) (by omega) (by omega) (by rw [us]; exact tn) k
theorem lr_dg (hlst : l.stackTraces = false) {P : ax_P} {X : ax_PX} {c : Int32} {E : Int} (hH : hy_H 0 h) : ∀ (n : Nat) (g : ax_H), hy_H 0 g → hy_I g → ty_F 2361183241434822606848 h g → 0 ≤ hy_z g 181 8 → hy_z g 181 8 ≤ 200 → 201 ≤ hy_z g 181 8 + n → t_dg (r_B h) n (hy_z g 181 8) = E → (∀ g', hy_H 0 g' → hy_I g' → ty_F 2361183241434822606848 h g' → hy_z g' 181 8 = E → 0 ≤ hy_z g' 181 8 → hy_z g' 181 8 ≤ 200 → AR ax_ns l (ax_mm 147) 1 ty_R P X 94 [(1, .int c), (0, .ref 181)] [] g' 0 0) → AR ax_ns l (ax_mm 147) 1 ty_R P X 67 [(1, .int c), (0, .ref 181)] [] g 0 0 := by
  intro n
  induction n with
  | zero => intro g _ _ _ _ _ _; omega
  | succ n ih =>
    intro g Hg ig Fg g0 g2 gn ht k
    have hB : r_B g = r_B h := r_B_F Fg (by decide +kernel)
    show AR _ _ _ _ _ _ _ 67 [(1, .int c), (0, .ref 181)] [] g _ _
    refine AR.s (pc' := 68) (lv' := [(1, .int c), (0, .ref 181)]) (st' := [.ref 181]) (h' := g) _ hn_147 hk_147_67 rfl ?_
    refine AR.s (pc' := 69) (lv' := [(1, .int c), (0, .ref 181)]) (st' := [.ref 181, .ref 181]) (h' := g) _ hn_147 hk_147_68 rfl ?_
    refine AR.gI hk_147_69 (by decide) Hg (q := 181) (n := 32) (by decide) (by decide +kernel) (by decide +kernel) (by decide) hy_t181_8 (fun x567 dx567 lx567 ux567 => ?_)
    show AR _ _ _ _ _ _ _ 72 [(1, .int c), (0, .ref 181)] [.int x567, .ref 181] g _ _
    have sx567 := hy_zi dx567
    refine AR.c9 (as := [.int x567]) (rest := []) hk_147_72 Hg (by decide +kernel) rfl rfl (Nat.le_of_ble_eq_true rfl) (lr_145 hlst Hg (by omega)) (by decide) (Nat.zero_le _) (Nat.zero_le _) (fun E h' q => by obtain ⟨-, x, e, -⟩ := q; cases e) ?_
    rintro w569 g570 ⟨eg570, z568, e, ez568⟩
    cases e
    obtain rfl := eg570.symm
    show AR _ _ _ _ _ _ _ 75 [(1, .int c), (0, .ref 181)] [.int z568] g _ _
    have eb : r_B h (hy_z g 181 8) = z568.toInt := by rw [ez568, hB]; congr 1 <;> omega
    refine AR.cs (as := [.int z568]) (rest := []) hk_147_75 (by decide +kernel) rfl rfl (Nat.le_of_ble_eq_true rfl) (lr_146 hlst) (by decide) (Nat.zero_le _) (Nat.zero_le _) (fun E h' q => by obtain ⟨-, x, e, -⟩ := q; cases e) ?_
    rintro w572 g573 ⟨eg573, z571, e, Az571⟩
    cases e
    obtain rfl := eg573.symm
    show AR _ _ _ _ _ _ _ 78 [(1, .int c), (0, .ref 181)] [.int z571] g _ _
    refine AR.zeq hk_147_78 (tgt := 94) (by decide) (fun p1 => ?_) (fun p2 => ?_)
    · have td : t_dig z568.toInt = false := by rcases Az571 with ⟨e, -⟩ | ⟨-, e⟩; exact absurd e (by omega); exact e
      have te : hy_z g 181 8 = E := by
        rw [← ht]
        unfold t_dg
        rw [if_neg (by rw [eb, td]; decide)]
      exact k g Hg ig Fg te g0 g2
    · have td : t_dig z568.toInt = true := by rcases Az571 with ⟨-, e⟩ | ⟨e, -⟩; exact e; exact absurd e (by omega)
      have q2 : hy_z g 181 8 < 200 := by
        refine Int.not_le.mp (fun c => ?_)
        rw [r_B_lt hH c] at eb
        rw [← eb] at td
        cases td
      have tn : t_dg (r_B h) n (hy_z g 181 8 + 1) = E := by
        rw [← ht]
        show _ = (if t_dig (r_B h (hy_z g 181 8)) = true then t_dg (r_B h) n (hy_z g 181 8 + 1) else hy_z g 181 8)
        rw [eb, if_pos td]
      show AR _ _ _ _ _ _ _ 81 [(1, .int c), (0, .ref 181)] [] g _ _
      refine AR.s (pc' := 82) (lv' := [(1, .int c), (0, .ref 181)]) (st' := [.ref 181]) (h' := g) _ hn_147 hk_147_81 rfl ?_
      refine AR.s (pc' := 83) (lv' := [(1, .int c), (0, .ref 181)]) (st' := [.ref 181, .ref 181]) (h' := g) _ hn_147 hk_147_82 rfl ?_
      refine AR.gI hk_147_83 (by decide) Hg (q := 181) (n := 32) (by decide) (by decide +kernel) (by decide +kernel) (by decide) hy_t181_8 (fun x574 dx574 lx574 ux574 => ?_)
      show AR _ _ _ _ _ _ _ 86 [(1, .int c), (0, .ref 181)] [.int x574, .ref 181] g _ _
      have sx574 := hy_zi dx574
      refine AR.iconstT hk_147_86 (by decide) (fun z575 ez575 => ?_)
      show AR _ _ _ _ _ _ _ 87 [(1, .int c), (0, .ref 181)] [.int z575, .int x574, .ref 181] g _ _
      refine AR.addT hk_147_87 (by omega) (by omega) (fun z576 ez576 => ?_)
      show AR _ _ _ _ _ _ _ 88 [(1, .int c), (0, .ref 181)] [.int z576, .ref 181] g _ _
      refine AR.pT hk_147_88 (by decide) Hg Fg (q := 181) (by decide) (by decide +kernel) (show ax_cls[9]? = some hy_c9 from rfl) (by decide +kernel) (by decide) rfl (by rw [hy_t181_8]; exact ⟨_, rfl, by omega, by omega, Or.inl rfl⟩) (by decide +kernel) (by decide +kernel) ?_
      rintro g577 ⟨Hg577, Fg577, Gg577, Eg577⟩
      show AR _ _ _ _ _ _ _ 91 [(1, .int c), (0, .ref 181)] [] g577 _ _
      have ig577 : hy_I g577 := ig.st Gg577 (by decide) Eg577 (by decide +kernel)
      have ug577_181_8 : hy_z g577 181 8 = z576.toInt := hy_zi (i := z576) (by rw [Eg577, if_pos ⟨rfl, rfl⟩])
      refine AR.gotoT hk_147_91 (tgt := 67) (by decide) ?_
      have us : hy_z g577 181 8 = hy_z g 181 8 + 1 := by omega
      exact ih g577 Hg577 ig577 Fg577 (by omega) (by omega) (by omega) (by rw [us]; exact tn) k
def hq_147 (h : ax_H) : ax_Q := fun res g => res = .inl none ∧ hy_H 0 g ∧ ty_F 16528282690043758247936 h g ∧ hy_I g ∧ hy_z g 181 8 = (t_nx (r_B h) (hy_z h 181 8)).2.2 ∧ hy_z g 181 10 = r_tk (t_nx (r_B h) (hy_z h 181 8)).1 ∧ hy_z g 181 9 = (t_nx (r_B h) (hy_z h 181 8)).2.1
set_option maxHeartbeats 8000000 in
theorem lr_147 (hlst : l.stackTraces = false) (hH : hy_H 0 h) (hi : hy_I h) (h0 : 0 ≤ hy_z h 181 8) (h2 : hy_z h 181 8 ≤ 200) : AM ax_ns l (ax_mm 147) 1 ty_R (0) (0) [.ref 181] h (hq_147 h) := by
  refine AM.of (ax_mfacts (by decide +kernel : ax_has 147 = true)).2.2.2.2.2.2 hlst (by rw [hn_147]; exact Nat.le_of_ble_eq_true rfl) ?_
  show AR ax_ns l (ax_mm 147) 1 ty_R _ _ 0 [(0, .ref 181)] [] h (0) (0)
  refine lr_sp hlst hH 201 h hH hi (ty_F_refl _ _) h0 h2 (by omega) rfl (fun g Hg ig Fg gs g0 g2 => ?_)
  generalize eS : t_sp (r_B h) 201 (hy_z h 181 8) = S at gs
  show AR _ _ _ _ _ _ _ 26 [(0, .ref 181)] [] g _ _
  refine AR.s (pc' := 27) (lv' := [(0, .ref 181)]) (st' := [.ref 181]) (h' := g) _ hn_147 hk_147_26 rfl ?_
  refine AR.s (pc' := 28) (lv' := [(0, .ref 181)]) (st' := [.ref 181, .ref 181]) (h' := g) _ hn_147 hk_147_27 rfl ?_
  refine AR.gI hk_147_28 (by decide) Hg (q := 181) (n := 32) (by decide) (by decide +kernel) (by decide +kernel) (by decide) hy_t181_8 (fun x578 dx578 lx578 ux578 => ?_)
  show AR _ _ _ _ _ _ _ 31 [(0, .ref 181)] [.int x578, .ref 181] g _ _
  have sx578 := hy_zi dx578
  refine AR.pT hk_147_31 (by decide) Hg Fg (q := 181) (by decide) (by decide +kernel) (show ax_cls[9]? = some hy_c9 from rfl) (by decide +kernel) (by decide) rfl (by rw [hy_t181_9]; exact ⟨_, rfl, by omega, by omega, Or.inl rfl⟩) (by decide +kernel) (by decide +kernel) ?_
  rintro g579 ⟨Hg579, Fg579, Gg579, Eg579⟩
  show AR _ _ _ _ _ _ _ 34 [(0, .ref 181)] [] g579 _ _
  have ig579 : hy_I g579 := ig.st Gg579 (by decide) Eg579 (by decide +kernel)
  have ug579_181_8 : hy_z g579 181 8 = hy_z g 181 8 := hy_ze (by rw [Eg579, if_neg (fun c => absurd c.2 (by decide))])
  have ug579_181_9 : hy_z g579 181 9 = x578.toInt := hy_zi (i := x578) (by rw [Eg579, if_pos ⟨rfl, rfl⟩])
  have ug579_181_10 : hy_z g579 181 10 = hy_z g 181 10 := hy_ze (by rw [Eg579, if_neg (fun c => absurd c.2 (by decide))])
  refine AR.s (pc' := 35) (lv' := [(0, .ref 181)]) (st' := [.ref 181]) (h' := g579) _ hn_147 hk_147_34 rfl ?_
  refine AR.s (pc' := 36) (lv' := [(0, .ref 181)]) (st' := [.ref 181, .ref 181]) (h' := g579) _ hn_147 hk_147_35 rfl ?_
  refine AR.gI hk_147_36 (by decide) Hg579 (q := 181) (n := 32) (by decide) (by decide +kernel) (by decide +kernel) (by decide) hy_t181_8 (fun x580 dx580 lx580 ux580 => ?_)
  show AR _ _ _ _ _ _ _ 39 [(0, .ref 181)] [.int x580, .ref 181] g579 _ _
  have sx580 := hy_zi dx580
  have hB : r_B g579 = r_B h := r_B_F Fg579 (by decide +kernel)
  have s1 : hy_z g579 181 8 = S := by omega
  have s3 : hy_z g579 181 9 = S := by omega
  refine AR.c9 (as := [.int x580]) (rest := []) hk_147_39 Hg579 (by decide +kernel) rfl rfl (Nat.le_of_ble_eq_true rfl) (lr_145 hlst Hg579 (by omega)) (by decide) (Nat.zero_le _) (Nat.zero_le _) (fun E h' q => by obtain ⟨-, x, e, -⟩ := q; cases e) ?_
  rintro w582 g583 ⟨eg583, z581, e, ez581⟩
  cases e
  obtain rfl := eg583.symm
  show AR _ _ _ _ _ _ _ 42 [(0, .ref 181)] [.int z581] g579 _ _
  have ec : r_B h S = z581.toInt := by rw [ez581, hB]; congr 1; omega
  have TN : t_nx (r_B h) (hy_z h 181 8) = (if t_dig z581.toInt = true then (if t_dg (r_B h) 201 S - S ≤ 6 then 2 else 10, S, t_dg (r_B h) 201 S) else if 97 ≤ z581.toInt ∧ z581.toInt ≤ 108 then (3, S, S + 1) else ((t_sy z581.toInt (r_B h (S + 1))).1, S, S + (t_sy z581.toInt (r_B h (S + 1))).2)) := by unfold t_nx; rw [eS, ec]
  have hlt : 0 ≤ z581.toInt → S < 200 := fun e => by
    refine Int.not_le.mp (fun c => ?_)
    rw [r_B_lt hH c] at ec
    omega
  show AR _ _ _ _ _ _ _ 42 [(0, .ref 181)] [.int z581] g579 _ _
  refine AR.s (pc' := 43) (lv' := [(1, .int z581), (0, .ref 181)]) (st' := []) (h' := g579) _ hn_147 hk_147_42 rfl ?_
  refine AR.s (pc' := 44) (lv' := [(1, .int z581), (0, .ref 181)]) (st' := [.ref 181]) (h' := g579) _ hn_147 hk_147_43 rfl ?_
  refine AR.iconstT hk_147_44 (by decide) (fun z584 ez584 => ?_)
  show AR _ _ _ _ _ _ _ 45 [(1, .int z581), (0, .ref 181)] [.int z584, .ref 181] g579 _ _
  refine AR.pT hk_147_45 (by decide) Hg579 Fg579 (q := 181) (by decide) (by decide +kernel) (show ax_cls[9]? = some hy_c9 from rfl) (by decide +kernel) (by decide) rfl (by rw [hy_t181_10]; exact ⟨_, rfl, by omega, by omega, Or.inl rfl⟩) (by decide +kernel) (by decide +kernel) ?_
  rintro g585 ⟨Hg585, Fg585, Gg585, Eg585⟩
  show AR _ _ _ _ _ _ _ 48 [(1, .int z581), (0, .ref 181)] [] g585 _ _
  have ig585 : hy_I g585 := ig579.st Gg585 (by decide) Eg585 (by decide +kernel)
  have ug585_181_8 : hy_z g585 181 8 = hy_z g579 181 8 := hy_ze (by rw [Eg585, if_neg (fun c => absurd c.2 (by decide))])
  have ug585_181_9 : hy_z g585 181 9 = hy_z g579 181 9 := hy_ze (by rw [Eg585, if_neg (fun c => absurd c.2 (by decide))])
  have ug585_181_10 : hy_z g585 181 10 = z584.toInt := hy_zi (i := z584) (by rw [Eg585, if_pos ⟨rfl, rfl⟩])
  refine AR.s (pc' := 49) (lv' := [(1, .int z581), (0, .ref 181)]) (st' := [.int z581]) (h' := g585) _ hn_147 hk_147_48 rfl ?_
  refine AR.zge hk_147_49 (tgt := 60) (by decide) (fun p1 => ?_) (fun p2 => ?_)
  · refine AR.s (pc' := 61) (lv' := [(1, .int z581), (0, .ref 181)]) (st' := [.int z581]) (h' := g585) _ hn_147 hk_147_60 rfl ?_
    refine AR.cs (as := [.int z581]) (rest := []) hk_147_61 (by decide +kernel) rfl rfl (Nat.le_of_ble_eq_true rfl) (lr_146 hlst) (by decide) (Nat.zero_le _) (Nat.zero_le _) (fun E h' q => by obtain ⟨-, x, e, -⟩ := q; cases e) ?_
    rintro w589 g590 ⟨eg590, z588, e, Az588⟩
    cases e
    obtain rfl := eg590.symm
    show AR _ _ _ _ _ _ _ 64 [(1, .int z581), (0, .ref 181)] [.int z588] g585 _ _
    refine AR.zeq hk_147_64 (tgt := 102) (by decide) (fun d1 => ?_) (fun d2 => ?_)
    · have td : ¬ (t_dig z581.toInt = true) := by rcases Az588 with ⟨e, -⟩ | ⟨-, e⟩; exact absurd e (by omega); rw [e]; decide
      rw [if_neg td] at TN
      show AR _ _ _ _ _ _ _ 102 [(1, .int z581), (0, .ref 181)] [] g585 _ _
      refine AR.s (pc' := 103) (lv' := [(1, .int z581), (0, .ref 181)]) (st' := [.int z581]) (h' := g585) _ hn_147 hk_147_102 rfl ?_
      refine AR.bipushT hk_147_103 (by decide) (fun z593 ez593 => ?_)
      show AR _ _ _ _ _ _ _ 105 [(1, .int z581), (0, .ref 181)] [.int z593, .int z581] g585 _ _
      refine AR.jlt hk_147_105 (tgt := 132) (by decide) (fun l1 => ?_) (fun n1 => ?_)
      · rw [if_neg (fun c => absurd c.1 (by omega))] at TN
        show AR _ _ _ _ _ _ _ 132 [(1, .int z581), (0, .ref 181)] [] g585 _ _
        refine AR.s (pc' := 133) (lv' := [(1, .int z581), (0, .ref 181)]) (st' := [.int z581]) (h' := g585) _ hn_147 hk_147_132 rfl ?_
        refine AR.bipushT hk_147_133 (by decide) (fun z594 ez594 => ?_)
        show AR _ _ _ _ _ _ _ 135 [(1, .int z581), (0, .ref 181)] [.int z594, .int z581] g585 _ _
        refine AR.jeq hk_147_135 (tgt := 156) (by decide) (fun u1 => ?_) (fun u2 => ?_)
        · refine AR.s (pc' := 157) (lv' := [(1, .int z581), (0, .ref 181)]) (st' := [.ref 181]) (h' := g585) _ hn_147 hk_147_156 rfl ?_
          refine AR.s (pc' := 158) (lv' := [(1, .int z581), (0, .ref 181)]) (st' := [.ref 181, .ref 181]) (h' := g585) _ hn_147 hk_147_157 rfl ?_
          refine AR.gI hk_147_158 (by decide) Hg585 (q := 181) (n := 32) (by decide) (by decide +kernel) (by decide +kernel) (by decide) hy_t181_8 (fun x595 dx595 lx595 ux595 => ?_)
          show AR _ _ _ _ _ _ _ 161 [(1, .int z581), (0, .ref 181)] [.int x595, .ref 181] g585 _ _
          have sx595 := hy_zi dx595
          refine AR.iconstT hk_147_161 (by decide) (fun z596 ez596 => ?_)
          show AR _ _ _ _ _ _ _ 162 [(1, .int z581), (0, .ref 181)] [.int z596, .int x595, .ref 181] g585 _ _
          refine AR.addT hk_147_162 (by omega) (by omega) (fun z597 ez597 => ?_)
          show AR _ _ _ _ _ _ _ 163 [(1, .int z581), (0, .ref 181)] [.int z597, .ref 181] g585 _ _
          refine AR.pT hk_147_163 (by decide) Hg585 Fg585 (q := 181) (by decide) (by decide +kernel) (show ax_cls[9]? = some hy_c9 from rfl) (by decide +kernel) (by decide) rfl (by rw [hy_t181_8]; exact ⟨_, rfl, by omega, by omega, Or.inl rfl⟩) (by decide +kernel) (by decide +kernel) ?_
          rintro g598 ⟨Hg598, Fg598, Gg598, Eg598⟩
          show AR _ _ _ _ _ _ _ 166 [(1, .int z581), (0, .ref 181)] [] g598 _ _
          have ig598 : hy_I g598 := ig585.st Gg598 (by decide) Eg598 (by decide +kernel)
          have ug598_181_8 : hy_z g598 181 8 = z597.toInt := hy_zi (i := z597) (by rw [Eg598, if_pos ⟨rfl, rfl⟩])
          have ug598_181_9 : hy_z g598 181 9 = hy_z g585 181 9 := hy_ze (by rw [Eg598, if_neg (fun c => absurd c.2 (by decide))])
          have ug598_181_10 : hy_z g598 181 10 = hy_z g585 181 10 := hy_ze (by rw [Eg598, if_neg (fun c => absurd c.2 (by decide))])
          refine AR.s (pc' := 167) (lv' := [(1, .int z581), (0, .ref 181)]) (st' := [.ref 181]) (h' := g598) _ hn_147 hk_147_166 rfl ?_
          refine AR.s (pc' := 168) (lv' := [(1, .int z581), (0, .ref 181)]) (st' := [.int z581, .ref 181]) (h' := g598) _ hn_147 hk_147_167 rfl ?_
          refine AR.pT hk_147_168 (by decide) Hg598 Fg598 (q := 181) (by decide) (by decide +kernel) (show ax_cls[9]? = some hy_c9 from rfl) (by decide +kernel) (by decide) rfl (by rw [hy_t181_10]; exact ⟨_, rfl, by omega, by omega, Or.inl rfl⟩) (by decide +kernel) (by decide +kernel) ?_
          rintro g599 ⟨Hg599, Fg599, Gg599, Eg599⟩
          show AR _ _ _ _ _ _ _ 171 [(1, .int z581), (0, .ref 181)] [] g599 _ _
          have ig599 : hy_I g599 := ig598.st Gg599 (by decide) Eg599 (by decide +kernel)
          have ug599_181_8 : hy_z g599 181 8 = hy_z g598 181 8 := hy_ze (by rw [Eg599, if_neg (fun c => absurd c.2 (by decide))])
          have ug599_181_9 : hy_z g599 181 9 = hy_z g598 181 9 := hy_ze (by rw [Eg599, if_neg (fun c => absurd c.2 (by decide))])
          have ug599_181_10 : hy_z g599 181 10 = z581.toInt := hy_zi (i := z581) (by rw [Eg599, if_pos ⟨rfl, rfl⟩])
          refine AR.gotoT hk_147_171 (tgt := 226) (by decide) ?_
          have es : t_sy z581.toInt (r_B h (S + 1)) = (4, 1) := t_sy_43 (by omega)
          rw [es] at TN
          exact AR.vret hk_147_226 hr_147 ⟨rfl, Hg599, Fg599, ig599, by rw [TN]; show _ = S + 1; omega, by rw [TN, show r_tk ((4, S, S + 1) : t_K).1 = 43 from rfl]; omega, by rw [TN]; show _ = S; omega⟩
        · refine AR.s (pc' := 139) (lv' := [(1, .int z581), (0, .ref 181)]) (st' := [.int z581]) (h' := g585) _ hn_147 hk_147_138 rfl ?_
          refine AR.bipushT hk_147_139 (by decide) (fun z600 ez600 => ?_)
          show AR _ _ _ _ _ _ _ 141 [(1, .int z581), (0, .ref 181)] [.int z600, .int z581] g585 _ _
          refine AR.jeq hk_147_141 (tgt := 156) (by decide) (fun v1 => ?_) (fun v2 => ?_)
          · refine AR.s (pc' := 157) (lv' := [(1, .int z581), (0, .ref 181)]) (st' := [.ref 181]) (h' := g585) _ hn_147 hk_147_156 rfl ?_
            refine AR.s (pc' := 158) (lv' := [(1, .int z581), (0, .ref 181)]) (st' := [.ref 181, .ref 181]) (h' := g585) _ hn_147 hk_147_157 rfl ?_
            refine AR.gI hk_147_158 (by decide) Hg585 (q := 181) (n := 32) (by decide) (by decide +kernel) (by decide +kernel) (by decide) hy_t181_8 (fun x601 dx601 lx601 ux601 => ?_)
            show AR _ _ _ _ _ _ _ 161 [(1, .int z581), (0, .ref 181)] [.int x601, .ref 181] g585 _ _
            have sx601 := hy_zi dx601
            refine AR.iconstT hk_147_161 (by decide) (fun z602 ez602 => ?_)
            show AR _ _ _ _ _ _ _ 162 [(1, .int z581), (0, .ref 181)] [.int z602, .int x601, .ref 181] g585 _ _
            refine AR.addT hk_147_162 (by omega) (by omega) (fun z603 ez603 => ?_)
            show AR _ _ _ _ _ _ _ 163 [(1, .int z581), (0, .ref 181)] [.int z603, .ref 181] g585 _ _
            refine AR.pT hk_147_163 (by decide) Hg585 Fg585 (q := 181) (by decide) (by decide +kernel) (show ax_cls[9]? = some hy_c9 from rfl) (by decide +kernel) (by decide) rfl (by rw [hy_t181_8]; exact ⟨_, rfl, by omega, by omega, Or.inl rfl⟩) (by decide +kernel) (by decide +kernel) ?_
            rintro g604 ⟨Hg604, Fg604, Gg604, Eg604⟩
            show AR _ _ _ _ _ _ _ 166 [(1, .int z581), (0, .ref 181)] [] g604 _ _
            have ig604 : hy_I g604 := ig585.st Gg604 (by decide) Eg604 (by decide +kernel)
            have ug604_181_8 : hy_z g604 181 8 = z603.toInt := hy_zi (i := z603) (by rw [Eg604, if_pos ⟨rfl, rfl⟩])
            have ug604_181_9 : hy_z g604 181 9 = hy_z g585 181 9 := hy_ze (by rw [Eg604, if_neg (fun c => absurd c.2 (by decide))])
            have ug604_181_10 : hy_z g604 181 10 = hy_z g585 181 10 := hy_ze (by rw [Eg604, if_neg (fun c => absurd c.2 (by decide))])
            refine AR.s (pc' := 167) (lv' := [(1, .int z581), (0, .ref 181)]) (st' := [.ref 181]) (h' := g604) _ hn_147 hk_147_166 rfl ?_
            refine AR.s (pc' := 168) (lv' := [(1, .int z581), (0, .ref 181)]) (st' := [.int z581, .ref 181]) (h' := g604) _ hn_147 hk_147_167 rfl ?_
            refine AR.pT hk_147_168 (by decide) Hg604 Fg604 (q := 181) (by decide) (by decide +kernel) (show ax_cls[9]? = some hy_c9 from rfl) (by decide +kernel) (by decide) rfl (by rw [hy_t181_10]; exact ⟨_, rfl, by omega, by omega, Or.inl rfl⟩) (by decide +kernel) (by decide +kernel) ?_
            rintro g605 ⟨Hg605, Fg605, Gg605, Eg605⟩
            show AR _ _ _ _ _ _ _ 171 [(1, .int z581), (0, .ref 181)] [] g605 _ _
            have ig605 : hy_I g605 := ig604.st Gg605 (by decide) Eg605 (by decide +kernel)
            have ug605_181_8 : hy_z g605 181 8 = hy_z g604 181 8 := hy_ze (by rw [Eg605, if_neg (fun c => absurd c.2 (by decide))])
            have ug605_181_9 : hy_z g605 181 9 = hy_z g604 181 9 := hy_ze (by rw [Eg605, if_neg (fun c => absurd c.2 (by decide))])
            have ug605_181_10 : hy_z g605 181 10 = z581.toInt := hy_zi (i := z581) (by rw [Eg605, if_pos ⟨rfl, rfl⟩])
            refine AR.gotoT hk_147_171 (tgt := 226) (by decide) ?_
            have es : t_sy z581.toInt (r_B h (S + 1)) = (5, 1) := t_sy_45 (by omega)
            rw [es] at TN
            exact AR.vret hk_147_226 hr_147 ⟨rfl, Hg605, Fg605, ig605, by rw [TN]; show _ = S + 1; omega, by rw [TN, show r_tk ((5, S, S + 1) : t_K).1 = 45 from rfl]; omega, by rw [TN]; show _ = S; omega⟩
          · refine AR.s (pc' := 145) (lv' := [(1, .int z581), (0, .ref 181)]) (st' := [.int z581]) (h' := g585) _ hn_147 hk_147_144 rfl ?_
            refine AR.bipushT hk_147_145 (by decide) (fun z606 ez606 => ?_)
            show AR _ _ _ _ _ _ _ 147 [(1, .int z581), (0, .ref 181)] [.int z606, .int z581] g585 _ _
            refine AR.jeq hk_147_147 (tgt := 156) (by decide) (fun w1 => ?_) (fun w2 => ?_)
            · refine AR.s (pc' := 157) (lv' := [(1, .int z581), (0, .ref 181)]) (st' := [.ref 181]) (h' := g585) _ hn_147 hk_147_156 rfl ?_
              refine AR.s (pc' := 158) (lv' := [(1, .int z581), (0, .ref 181)]) (st' := [.ref 181, .ref 181]) (h' := g585) _ hn_147 hk_147_157 rfl ?_
              refine AR.gI hk_147_158 (by decide) Hg585 (q := 181) (n := 32) (by decide) (by decide +kernel) (by decide +kernel) (by decide) hy_t181_8 (fun x607 dx607 lx607 ux607 => ?_)
              show AR _ _ _ _ _ _ _ 161 [(1, .int z581), (0, .ref 181)] [.int x607, .ref 181] g585 _ _
              have sx607 := hy_zi dx607
              refine AR.iconstT hk_147_161 (by decide) (fun z608 ez608 => ?_)
              show AR _ _ _ _ _ _ _ 162 [(1, .int z581), (0, .ref 181)] [.int z608, .int x607, .ref 181] g585 _ _
              refine AR.addT hk_147_162 (by omega) (by omega) (fun z609 ez609 => ?_)
              show AR _ _ _ _ _ _ _ 163 [(1, .int z581), (0, .ref 181)] [.int z609, .ref 181] g585 _ _
              refine AR.pT hk_147_163 (by decide) Hg585 Fg585 (q := 181) (by decide) (by decide +kernel) (show ax_cls[9]? = some hy_c9 from rfl) (by decide +kernel) (by decide) rfl (by rw [hy_t181_8]; exact ⟨_, rfl, by omega, by omega, Or.inl rfl⟩) (by decide +kernel) (by decide +kernel) ?_
              rintro g610 ⟨Hg610, Fg610, Gg610, Eg610⟩
              show AR _ _ _ _ _ _ _ 166 [(1, .int z581), (0, .ref 181)] [] g610 _ _
              have ig610 : hy_I g610 := ig585.st Gg610 (by decide) Eg610 (by decide +kernel)
              have ug610_181_8 : hy_z g610 181 8 = z609.toInt := hy_zi (i := z609) (by rw [Eg610, if_pos ⟨rfl, rfl⟩])
              have ug610_181_9 : hy_z g610 181 9 = hy_z g585 181 9 := hy_ze (by rw [Eg610, if_neg (fun c => absurd c.2 (by decide))])
              have ug610_181_10 : hy_z g610 181 10 = hy_z g585 181 10 := hy_ze (by rw [Eg610, if_neg (fun c => absurd c.2 (by decide))])
              refine AR.s (pc' := 167) (lv' := [(1, .int z581), (0, .ref 181)]) (st' := [.ref 181]) (h' := g610) _ hn_147 hk_147_166 rfl ?_
              refine AR.s (pc' := 168) (lv' := [(1, .int z581), (0, .ref 181)]) (st' := [.int z581, .ref 181]) (h' := g610) _ hn_147 hk_147_167 rfl ?_
              refine AR.pT hk_147_168 (by decide) Hg610 Fg610 (q := 181) (by decide) (by decide +kernel) (show ax_cls[9]? = some hy_c9 from rfl) (by decide +kernel) (by decide) rfl (by rw [hy_t181_10]; exact ⟨_, rfl, by omega, by omega, Or.inl rfl⟩) (by decide +kernel) (by decide +kernel) ?_
              rintro g611 ⟨Hg611, Fg611, Gg611, Eg611⟩
              show AR _ _ _ _ _ _ _ 171 [(1, .int z581), (0, .ref 181)] [] g611 _ _
              have ig611 : hy_I g611 := ig610.st Gg611 (by decide) Eg611 (by decide +kernel)
              have ug611_181_8 : hy_z g611 181 8 = hy_z g610 181 8 := hy_ze (by rw [Eg611, if_neg (fun c => absurd c.2 (by decide))])
              have ug611_181_9 : hy_z g611 181 9 = hy_z g610 181 9 := hy_ze (by rw [Eg611, if_neg (fun c => absurd c.2 (by decide))])
              have ug611_181_10 : hy_z g611 181 10 = z581.toInt := hy_zi (i := z581) (by rw [Eg611, if_pos ⟨rfl, rfl⟩])
              refine AR.gotoT hk_147_171 (tgt := 226) (by decide) ?_
              have es : t_sy z581.toInt (r_B h (S + 1)) = (6, 1) := t_sy_126 (by omega)
              rw [es] at TN
              exact AR.vret hk_147_226 hr_147 ⟨rfl, Hg611, Fg611, ig611, by rw [TN]; show _ = S + 1; omega, by rw [TN, show r_tk ((6, S, S + 1) : t_K).1 = 126 from rfl]; omega, by rw [TN]; show _ = S; omega⟩
            · refine AR.s (pc' := 151) (lv' := [(1, .int z581), (0, .ref 181)]) (st' := [.int z581]) (h' := g585) _ hn_147 hk_147_150 rfl ?_
              refine AR.bipushT hk_147_151 (by decide) (fun z612 ez612 => ?_)
              show AR _ _ _ _ _ _ _ 153 [(1, .int z581), (0, .ref 181)] [.int z612, .int z581] g585 _ _
              refine AR.jne hk_147_153 (tgt := 174) (by decide) (fun x1 => ?_) (fun x2 => ?_)
              · refine AR.s (pc' := 175) (lv' := [(1, .int z581), (0, .ref 181)]) (st' := [.int z581]) (h' := g585) _ hn_147 hk_147_174 rfl ?_
                refine AR.bipushT hk_147_175 (by decide) (fun z618 ez618 => ?_)
                show AR _ _ _ _ _ _ _ 177 [(1, .int z581), (0, .ref 181)] [.int z618, .int z581] g585 _ _
                refine AR.jeq hk_147_177 (tgt := 186) (by decide) (fun y1 => ?_) (fun y2 => ?_)
                · refine AR.s (pc' := 187) (lv' := [(1, .int z581), (0, .ref 181)]) (st' := [.ref 181]) (h' := g585) _ hn_147 hk_147_186 rfl ?_
                  refine AR.s (pc' := 188) (lv' := [(1, .int z581), (0, .ref 181)]) (st' := [.ref 181, .ref 181]) (h' := g585) _ hn_147 hk_147_187 rfl ?_
                  refine AR.gI hk_147_188 (by decide) Hg585 (q := 181) (n := 32) (by decide) (by decide +kernel) (by decide +kernel) (by decide) hy_t181_8 (fun x619 dx619 lx619 ux619 => ?_)
                  show AR _ _ _ _ _ _ _ 191 [(1, .int z581), (0, .ref 181)] [.int x619, .ref 181] g585 _ _
                  have sx619 := hy_zi dx619
                  refine AR.iconstT hk_147_191 (by decide) (fun z620 ez620 => ?_)
                  show AR _ _ _ _ _ _ _ 192 [(1, .int z581), (0, .ref 181)] [.int z620, .int x619, .ref 181] g585 _ _
                  refine AR.addT hk_147_192 (by omega) (by omega) (fun z621 ez621 => ?_)
                  show AR _ _ _ _ _ _ _ 193 [(1, .int z581), (0, .ref 181)] [.int z621, .ref 181] g585 _ _
                  refine AR.c9 (as := [.int z621]) (rest := []) hk_147_193 Hg585 (by decide +kernel) rfl rfl (Nat.le_of_ble_eq_true rfl) (lr_145 hlst Hg585 (by omega)) (by decide) (Nat.zero_le _) (Nat.zero_le _) (fun E h' q => by obtain ⟨-, x, e, -⟩ := q; cases e) ?_
                  rintro w623 g624 ⟨eg624, z622, e, ez622⟩
                  cases e
                  obtain rfl := eg624.symm
                  show AR _ _ _ _ _ _ _ 196 [(1, .int z581), (0, .ref 181)] [.int z622] g585 _ _
                  have eq : r_B h (S + 1) = z622.toInt := by rw [ez622, r_B_F Fg585 (by decide +kernel)]; congr 1; omega
                  rw [eq] at TN
                  show AR _ _ _ _ _ _ _ 196 [(1, .int z581), (0, .ref 181)] [.int z622] g585 _ _
                  refine AR.bipushT hk_147_196 (by decide) (fun z625 ez625 => ?_)
                  show AR _ _ _ _ _ _ _ 198 [(1, .int z581), (0, .ref 181)] [.int z625, .int z622] g585 _ _
                  refine AR.jne hk_147_198 (tgt := 226) (by decide) (fun q1 => ?_) (fun q2 => ?_)
                  · have es : t_sy z581.toInt z622.toInt = (1, 0) := t_sy_1 (by omega) (by omega) (by omega) (by omega) (by omega) (by omega) (by omega)
                    rw [es] at TN
                    exact AR.vret hk_147_226 hr_147 ⟨rfl, Hg585, Fg585, ig585, by rw [TN]; show _ = S + 0; omega, by rw [TN, show r_tk ((1, S, S + 0) : t_K).1 = 5 from rfl]; omega, by rw [TN]; show _ = S; omega⟩
                  · have qlt : S + 1 < 200 := by
                      refine Int.not_le.mp (fun c => ?_)
                      rw [r_B_lt hH c] at eq
                      omega
                    show AR _ _ _ _ _ _ _ 201 [(1, .int z581), (0, .ref 181)] [] g585 _ _
                    refine AR.s (pc' := 202) (lv' := [(1, .int z581), (0, .ref 181)]) (st' := [.ref 181]) (h' := g585) _ hn_147 hk_147_201 rfl ?_
                    refine AR.s (pc' := 203) (lv' := [(1, .int z581), (0, .ref 181)]) (st' := [.ref 181, .ref 181]) (h' := g585) _ hn_147 hk_147_202 rfl ?_
                    refine AR.gI hk_147_203 (by decide) Hg585 (q := 181) (n := 32) (by decide) (by decide +kernel) (by decide +kernel) (by decide) hy_t181_8 (fun x626 dx626 lx626 ux626 => ?_)
                    show AR _ _ _ _ _ _ _ 206 [(1, .int z581), (0, .ref 181)] [.int x626, .ref 181] g585 _ _
                    have sx626 := hy_zi dx626
                    refine AR.iconstT hk_147_206 (by decide) (fun z627 ez627 => ?_)
                    show AR _ _ _ _ _ _ _ 207 [(1, .int z581), (0, .ref 181)] [.int z627, .int x626, .ref 181] g585 _ _
                    refine AR.addT hk_147_207 (by omega) (by omega) (fun z628 ez628 => ?_)
                    show AR _ _ _ _ _ _ _ 208 [(1, .int z581), (0, .ref 181)] [.int z628, .ref 181] g585 _ _
                    refine AR.pT hk_147_208 (by decide) Hg585 Fg585 (q := 181) (by decide) (by decide +kernel) (show ax_cls[9]? = some hy_c9 from rfl) (by decide +kernel) (by decide) rfl (by rw [hy_t181_8]; exact ⟨_, rfl, by omega, by omega, Or.inl rfl⟩) (by decide +kernel) (by decide +kernel) ?_
                    rintro g629 ⟨Hg629, Fg629, Gg629, Eg629⟩
                    show AR _ _ _ _ _ _ _ 211 [(1, .int z581), (0, .ref 181)] [] g629 _ _
                    have ig629 : hy_I g629 := ig585.st Gg629 (by decide) Eg629 (by decide +kernel)
                    have ug629_181_8 : hy_z g629 181 8 = z628.toInt := hy_zi (i := z628) (by rw [Eg629, if_pos ⟨rfl, rfl⟩])
                    have ug629_181_9 : hy_z g629 181 9 = hy_z g585 181 9 := hy_ze (by rw [Eg629, if_neg (fun c => absurd c.2 (by decide))])
                    have ug629_181_10 : hy_z g629 181 10 = hy_z g585 181 10 := hy_ze (by rw [Eg629, if_neg (fun c => absurd c.2 (by decide))])
                    refine AR.s (pc' := 212) (lv' := [(1, .int z581), (0, .ref 181)]) (st' := [.ref 181]) (h' := g629) _ hn_147 hk_147_211 rfl ?_
                    refine AR.s (pc' := 213) (lv' := [(1, .int z581), (0, .ref 181)]) (st' := [.int z581, .ref 181]) (h' := g629) _ hn_147 hk_147_212 rfl ?_
                    refine AR.bipushT hk_147_213 (by decide) (fun z630 ez630 => ?_)
                    show AR _ _ _ _ _ _ _ 215 [(1, .int z581), (0, .ref 181)] [.int z630, .int z581, .ref 181] g629 _ _
                    refine AR.jne hk_147_215 (tgt := 222) (by decide) (fun m1 => ?_) (fun m2 => ?_)
                    · exact absurd (show z581.toInt = 60 by omega) (by omega)
                    · refine AR.iconstT hk_147_218 (by decide) (fun z631 ez631 => ?_)
                      show AR _ _ _ _ _ _ _ 219 [(1, .int z581), (0, .ref 181)] [.int z631, .ref 181] g629 _ _
                      refine AR.gotoT hk_147_219 (tgt := 223) (by decide) ?_
                      refine AR.pT hk_147_223 (by decide) Hg629 Fg629 (q := 181) (by decide) (by decide +kernel) (show ax_cls[9]? = some hy_c9 from rfl) (by decide +kernel) (by decide) rfl (by rw [hy_t181_10]; exact ⟨_, rfl, by omega, by omega, Or.inl rfl⟩) (by decide +kernel) (by decide +kernel) ?_
                      rintro g632 ⟨Hg632, Fg632, Gg632, Eg632⟩
                      show AR _ _ _ _ _ _ _ 226 [(1, .int z581), (0, .ref 181)] [] g632 _ _
                      have ig632 : hy_I g632 := ig629.st Gg632 (by decide) Eg632 (by decide +kernel)
                      have ug632_181_8 : hy_z g632 181 8 = hy_z g629 181 8 := hy_ze (by rw [Eg632, if_neg (fun c => absurd c.2 (by decide))])
                      have ug632_181_9 : hy_z g632 181 9 = hy_z g629 181 9 := hy_ze (by rw [Eg632, if_neg (fun c => absurd c.2 (by decide))])
                      have ug632_181_10 : hy_z g632 181 10 = z631.toInt := hy_zi (i := z631) (by rw [Eg632, if_pos ⟨rfl, rfl⟩])
                      have es : t_sy z581.toInt z622.toInt = (8, 2) := t_sy_60 ⟨by omega, by omega⟩
                      rw [es] at TN
                      exact AR.vret hk_147_226 hr_147 ⟨rfl, Hg632, Fg632, ig632, by rw [TN]; show _ = S + 2; omega, by rw [TN, show r_tk ((8, S, S + 2) : t_K).1 = 4 from rfl]; omega, by rw [TN]; show _ = S; omega⟩
                · refine AR.s (pc' := 181) (lv' := [(1, .int z581), (0, .ref 181)]) (st' := [.int z581]) (h' := g585) _ hn_147 hk_147_180 rfl ?_
                  refine AR.bipushT hk_147_181 (by decide) (fun z633 ez633 => ?_)
                  show AR _ _ _ _ _ _ _ 183 [(1, .int z581), (0, .ref 181)] [.int z633, .int z581] g585 _ _
                  refine AR.jne hk_147_183 (tgt := 226) (by decide) (fun v3 => ?_) (fun v4 => ?_)
                  · have es : t_sy z581.toInt (r_B h (S + 1)) = (1, 0) := t_sy_1 (by omega) (by omega) (by omega) (by omega) (by omega) (by omega) (by omega)
                    rw [es] at TN
                    exact AR.vret hk_147_226 hr_147 ⟨rfl, Hg585, Fg585, ig585, by rw [TN]; show _ = S + 0; omega, by rw [TN, show r_tk ((1, S, S + 0) : t_K).1 = 5 from rfl]; omega, by rw [TN]; show _ = S; omega⟩
                  · refine AR.s (pc' := 187) (lv' := [(1, .int z581), (0, .ref 181)]) (st' := [.ref 181]) (h' := g585) _ hn_147 hk_147_186 rfl ?_
                    refine AR.s (pc' := 188) (lv' := [(1, .int z581), (0, .ref 181)]) (st' := [.ref 181, .ref 181]) (h' := g585) _ hn_147 hk_147_187 rfl ?_
                    refine AR.gI hk_147_188 (by decide) Hg585 (q := 181) (n := 32) (by decide) (by decide +kernel) (by decide +kernel) (by decide) hy_t181_8 (fun x634 dx634 lx634 ux634 => ?_)
                    show AR _ _ _ _ _ _ _ 191 [(1, .int z581), (0, .ref 181)] [.int x634, .ref 181] g585 _ _
                    have sx634 := hy_zi dx634
                    refine AR.iconstT hk_147_191 (by decide) (fun z635 ez635 => ?_)
                    show AR _ _ _ _ _ _ _ 192 [(1, .int z581), (0, .ref 181)] [.int z635, .int x634, .ref 181] g585 _ _
                    refine AR.addT hk_147_192 (by omega) (by omega) (fun z636 ez636 => ?_)
                    show AR _ _ _ _ _ _ _ 193 [(1, .int z581), (0, .ref 181)] [.int z636, .ref 181] g585 _ _
                    refine AR.c9 (as := [.int z636]) (rest := []) hk_147_193 Hg585 (by decide +kernel) rfl rfl (Nat.le_of_ble_eq_true rfl) (lr_145 hlst Hg585 (by omega)) (by decide) (Nat.zero_le _) (Nat.zero_le _) (fun E h' q => by obtain ⟨-, x, e, -⟩ := q; cases e) ?_
                    rintro w638 g639 ⟨eg639, z637, e, ez637⟩
                    cases e
                    obtain rfl := eg639.symm
                    show AR _ _ _ _ _ _ _ 196 [(1, .int z581), (0, .ref 181)] [.int z637] g585 _ _
                    have eq : r_B h (S + 1) = z637.toInt := by rw [ez637, r_B_F Fg585 (by decide +kernel)]; congr 1; omega
                    rw [eq] at TN
                    show AR _ _ _ _ _ _ _ 196 [(1, .int z581), (0, .ref 181)] [.int z637] g585 _ _
                    refine AR.bipushT hk_147_196 (by decide) (fun z640 ez640 => ?_)
                    show AR _ _ _ _ _ _ _ 198 [(1, .int z581), (0, .ref 181)] [.int z640, .int z637] g585 _ _
                    refine AR.jne hk_147_198 (tgt := 226) (by decide) (fun q1 => ?_) (fun q2 => ?_)
                    · have es : t_sy z581.toInt z637.toInt = (1, 0) := t_sy_1 (by omega) (by omega) (by omega) (by omega) (by omega) (by omega) (by omega)
                      rw [es] at TN
                      exact AR.vret hk_147_226 hr_147 ⟨rfl, Hg585, Fg585, ig585, by rw [TN]; show _ = S + 0; omega, by rw [TN, show r_tk ((1, S, S + 0) : t_K).1 = 5 from rfl]; omega, by rw [TN]; show _ = S; omega⟩
                    · have qlt : S + 1 < 200 := by
                        refine Int.not_le.mp (fun c => ?_)
                        rw [r_B_lt hH c] at eq
                        omega
                      show AR _ _ _ _ _ _ _ 201 [(1, .int z581), (0, .ref 181)] [] g585 _ _
                      refine AR.s (pc' := 202) (lv' := [(1, .int z581), (0, .ref 181)]) (st' := [.ref 181]) (h' := g585) _ hn_147 hk_147_201 rfl ?_
                      refine AR.s (pc' := 203) (lv' := [(1, .int z581), (0, .ref 181)]) (st' := [.ref 181, .ref 181]) (h' := g585) _ hn_147 hk_147_202 rfl ?_
                      refine AR.gI hk_147_203 (by decide) Hg585 (q := 181) (n := 32) (by decide) (by decide +kernel) (by decide +kernel) (by decide) hy_t181_8 (fun x641 dx641 lx641 ux641 => ?_)
                      show AR _ _ _ _ _ _ _ 206 [(1, .int z581), (0, .ref 181)] [.int x641, .ref 181] g585 _ _
                      have sx641 := hy_zi dx641
                      refine AR.iconstT hk_147_206 (by decide) (fun z642 ez642 => ?_)
                      show AR _ _ _ _ _ _ _ 207 [(1, .int z581), (0, .ref 181)] [.int z642, .int x641, .ref 181] g585 _ _
                      refine AR.addT hk_147_207 (by omega) (by omega) (fun z643 ez643 => ?_)
                      show AR _ _ _ _ _ _ _ 208 [(1, .int z581), (0, .ref 181)] [.int z643, .ref 181] g585 _ _
                      refine AR.pT hk_147_208 (by decide) Hg585 Fg585 (q := 181) (by decide) (by decide +kernel) (show ax_cls[9]? = some hy_c9 from rfl) (by decide +kernel) (by decide) rfl (by rw [hy_t181_8]; exact ⟨_, rfl, by omega, by omega, Or.inl rfl⟩) (by decide +kernel) (by decide +kernel) ?_
                      rintro g644 ⟨Hg644, Fg644, Gg644, Eg644⟩
                      show AR _ _ _ _ _ _ _ 211 [(1, .int z581), (0, .ref 181)] [] g644 _ _
                      have ig644 : hy_I g644 := ig585.st Gg644 (by decide) Eg644 (by decide +kernel)
                      have ug644_181_8 : hy_z g644 181 8 = z643.toInt := hy_zi (i := z643) (by rw [Eg644, if_pos ⟨rfl, rfl⟩])
                      have ug644_181_9 : hy_z g644 181 9 = hy_z g585 181 9 := hy_ze (by rw [Eg644, if_neg (fun c => absurd c.2 (by decide))])
                      have ug644_181_10 : hy_z g644 181 10 = hy_z g585 181 10 := hy_ze (by rw [Eg644, if_neg (fun c => absurd c.2 (by decide))])
                      refine AR.s (pc' := 212) (lv' := [(1, .int z581), (0, .ref 181)]) (st' := [.ref 181]) (h' := g644) _ hn_147 hk_147_211 rfl ?_
                      refine AR.s (pc' := 213) (lv' := [(1, .int z581), (0, .ref 181)]) (st' := [.int z581, .ref 181]) (h' := g644) _ hn_147 hk_147_212 rfl ?_
                      refine AR.bipushT hk_147_213 (by decide) (fun z645 ez645 => ?_)
                      show AR _ _ _ _ _ _ _ 215 [(1, .int z581), (0, .ref 181)] [.int z645, .int z581, .ref 181] g644 _ _
                      refine AR.jne hk_147_215 (tgt := 222) (by decide) (fun m1 => ?_) (fun m2 => ?_)
                      · refine AR.iconstT hk_147_222 (by decide) (fun z646 ez646 => ?_)
                        show AR _ _ _ _ _ _ _ 223 [(1, .int z581), (0, .ref 181)] [.int z646, .ref 181] g644 _ _
                        refine AR.pT hk_147_223 (by decide) Hg644 Fg644 (q := 181) (by decide) (by decide +kernel) (show ax_cls[9]? = some hy_c9 from rfl) (by decide +kernel) (by decide) rfl (by rw [hy_t181_10]; exact ⟨_, rfl, by omega, by omega, Or.inl rfl⟩) (by decide +kernel) (by decide +kernel) ?_
                        rintro g647 ⟨Hg647, Fg647, Gg647, Eg647⟩
                        show AR _ _ _ _ _ _ _ 226 [(1, .int z581), (0, .ref 181)] [] g647 _ _
                        have ig647 : hy_I g647 := ig644.st Gg647 (by decide) Eg647 (by decide +kernel)
                        have ug647_181_8 : hy_z g647 181 8 = hy_z g644 181 8 := hy_ze (by rw [Eg647, if_neg (fun c => absurd c.2 (by decide))])
                        have ug647_181_9 : hy_z g647 181 9 = hy_z g644 181 9 := hy_ze (by rw [Eg647, if_neg (fun c => absurd c.2 (by decide))])
                        have ug647_181_10 : hy_z g647 181 10 = z646.toInt := hy_zi (i := z646) (by rw [Eg647, if_pos ⟨rfl, rfl⟩])
                        have es : t_sy z581.toInt z637.toInt = (7, 2) := t_sy_62 ⟨by omega, by omega⟩
                        rw [es] at TN
                        exact AR.vret hk_147_226 hr_147 ⟨rfl, Hg647, Fg647, ig647, by rw [TN]; show _ = S + 2; omega, by rw [TN, show r_tk ((7, S, S + 2) : t_K).1 = 3 from rfl]; omega, by rw [TN]; show _ = S; omega⟩
                      · exact absurd (show z581.toInt = 62 by omega) (by omega)
              · refine AR.s (pc' := 157) (lv' := [(1, .int z581), (0, .ref 181)]) (st' := [.ref 181]) (h' := g585) _ hn_147 hk_147_156 rfl ?_
                refine AR.s (pc' := 158) (lv' := [(1, .int z581), (0, .ref 181)]) (st' := [.ref 181, .ref 181]) (h' := g585) _ hn_147 hk_147_157 rfl ?_
                refine AR.gI hk_147_158 (by decide) Hg585 (q := 181) (n := 32) (by decide) (by decide +kernel) (by decide +kernel) (by decide) hy_t181_8 (fun x613 dx613 lx613 ux613 => ?_)
                show AR _ _ _ _ _ _ _ 161 [(1, .int z581), (0, .ref 181)] [.int x613, .ref 181] g585 _ _
                have sx613 := hy_zi dx613
                refine AR.iconstT hk_147_161 (by decide) (fun z614 ez614 => ?_)
                show AR _ _ _ _ _ _ _ 162 [(1, .int z581), (0, .ref 181)] [.int z614, .int x613, .ref 181] g585 _ _
                refine AR.addT hk_147_162 (by omega) (by omega) (fun z615 ez615 => ?_)
                show AR _ _ _ _ _ _ _ 163 [(1, .int z581), (0, .ref 181)] [.int z615, .ref 181] g585 _ _
                refine AR.pT hk_147_163 (by decide) Hg585 Fg585 (q := 181) (by decide) (by decide +kernel) (show ax_cls[9]? = some hy_c9 from rfl) (by decide +kernel) (by decide) rfl (by rw [hy_t181_8]; exact ⟨_, rfl, by omega, by omega, Or.inl rfl⟩) (by decide +kernel) (by decide +kernel) ?_
                rintro g616 ⟨Hg616, Fg616, Gg616, Eg616⟩
                show AR _ _ _ _ _ _ _ 166 [(1, .int z581), (0, .ref 181)] [] g616 _ _
                have ig616 : hy_I g616 := ig585.st Gg616 (by decide) Eg616 (by decide +kernel)
                have ug616_181_8 : hy_z g616 181 8 = z615.toInt := hy_zi (i := z615) (by rw [Eg616, if_pos ⟨rfl, rfl⟩])
                have ug616_181_9 : hy_z g616 181 9 = hy_z g585 181 9 := hy_ze (by rw [Eg616, if_neg (fun c => absurd c.2 (by decide))])
                have ug616_181_10 : hy_z g616 181 10 = hy_z g585 181 10 := hy_ze (by rw [Eg616, if_neg (fun c => absurd c.2 (by decide))])
                refine AR.s (pc' := 167) (lv' := [(1, .int z581), (0, .ref 181)]) (st' := [.ref 181]) (h' := g616) _ hn_147 hk_147_166 rfl ?_
                refine AR.s (pc' := 168) (lv' := [(1, .int z581), (0, .ref 181)]) (st' := [.int z581, .ref 181]) (h' := g616) _ hn_147 hk_147_167 rfl ?_
                refine AR.pT hk_147_168 (by decide) Hg616 Fg616 (q := 181) (by decide) (by decide +kernel) (show ax_cls[9]? = some hy_c9 from rfl) (by decide +kernel) (by decide) rfl (by rw [hy_t181_10]; exact ⟨_, rfl, by omega, by omega, Or.inl rfl⟩) (by decide +kernel) (by decide +kernel) ?_
                rintro g617 ⟨Hg617, Fg617, Gg617, Eg617⟩
                show AR _ _ _ _ _ _ _ 171 [(1, .int z581), (0, .ref 181)] [] g617 _ _
                have ig617 : hy_I g617 := ig616.st Gg617 (by decide) Eg617 (by decide +kernel)
                have ug617_181_8 : hy_z g617 181 8 = hy_z g616 181 8 := hy_ze (by rw [Eg617, if_neg (fun c => absurd c.2 (by decide))])
                have ug617_181_9 : hy_z g617 181 9 = hy_z g616 181 9 := hy_ze (by rw [Eg617, if_neg (fun c => absurd c.2 (by decide))])
                have ug617_181_10 : hy_z g617 181 10 = z581.toInt := hy_zi (i := z581) (by rw [Eg617, if_pos ⟨rfl, rfl⟩])
                refine AR.gotoT hk_147_171 (tgt := 226) (by decide) ?_
                have es : t_sy z581.toInt (r_B h (S + 1)) = (9, 1) := t_sy_61 (by omega)
                rw [es] at TN
                exact AR.vret hk_147_226 hr_147 ⟨rfl, Hg617, Fg617, ig617, by rw [TN]; show _ = S + 1; omega, by rw [TN, show r_tk ((9, S, S + 1) : t_K).1 = 61 from rfl]; omega, by rw [TN]; show _ = S; omega⟩
      · refine AR.s (pc' := 109) (lv' := [(1, .int z581), (0, .ref 181)]) (st' := [.int z581]) (h' := g585) _ hn_147 hk_147_108 rfl ?_
        refine AR.bipushT hk_147_109 (by decide) (fun z648 ez648 => ?_)
        show AR _ _ _ _ _ _ _ 111 [(1, .int z581), (0, .ref 181)] [.int z648, .int z581] g585 _ _
        refine AR.jgt hk_147_111 (tgt := 132) (by decide) (fun l2 => ?_) (fun n2 => ?_)
        · rw [if_neg (fun c => absurd c.2 (by omega))] at TN
          show AR _ _ _ _ _ _ _ 132 [(1, .int z581), (0, .ref 181)] [] g585 _ _
          refine AR.s (pc' := 133) (lv' := [(1, .int z581), (0, .ref 181)]) (st' := [.int z581]) (h' := g585) _ hn_147 hk_147_132 rfl ?_
          refine AR.bipushT hk_147_133 (by decide) (fun z649 ez649 => ?_)
          show AR _ _ _ _ _ _ _ 135 [(1, .int z581), (0, .ref 181)] [.int z649, .int z581] g585 _ _
          refine AR.jeq hk_147_135 (tgt := 156) (by decide) (fun u1 => ?_) (fun u2 => ?_)
          · refine AR.s (pc' := 157) (lv' := [(1, .int z581), (0, .ref 181)]) (st' := [.ref 181]) (h' := g585) _ hn_147 hk_147_156 rfl ?_
            refine AR.s (pc' := 158) (lv' := [(1, .int z581), (0, .ref 181)]) (st' := [.ref 181, .ref 181]) (h' := g585) _ hn_147 hk_147_157 rfl ?_
            refine AR.gI hk_147_158 (by decide) Hg585 (q := 181) (n := 32) (by decide) (by decide +kernel) (by decide +kernel) (by decide) hy_t181_8 (fun x650 dx650 lx650 ux650 => ?_)
            show AR _ _ _ _ _ _ _ 161 [(1, .int z581), (0, .ref 181)] [.int x650, .ref 181] g585 _ _
            have sx650 := hy_zi dx650
            refine AR.iconstT hk_147_161 (by decide) (fun z651 ez651 => ?_)
            show AR _ _ _ _ _ _ _ 162 [(1, .int z581), (0, .ref 181)] [.int z651, .int x650, .ref 181] g585 _ _
            refine AR.addT hk_147_162 (by omega) (by omega) (fun z652 ez652 => ?_)
            show AR _ _ _ _ _ _ _ 163 [(1, .int z581), (0, .ref 181)] [.int z652, .ref 181] g585 _ _
            refine AR.pT hk_147_163 (by decide) Hg585 Fg585 (q := 181) (by decide) (by decide +kernel) (show ax_cls[9]? = some hy_c9 from rfl) (by decide +kernel) (by decide) rfl (by rw [hy_t181_8]; exact ⟨_, rfl, by omega, by omega, Or.inl rfl⟩) (by decide +kernel) (by decide +kernel) ?_
            rintro g653 ⟨Hg653, Fg653, Gg653, Eg653⟩
            show AR _ _ _ _ _ _ _ 166 [(1, .int z581), (0, .ref 181)] [] g653 _ _
            have ig653 : hy_I g653 := ig585.st Gg653 (by decide) Eg653 (by decide +kernel)
            have ug653_181_8 : hy_z g653 181 8 = z652.toInt := hy_zi (i := z652) (by rw [Eg653, if_pos ⟨rfl, rfl⟩])
            have ug653_181_9 : hy_z g653 181 9 = hy_z g585 181 9 := hy_ze (by rw [Eg653, if_neg (fun c => absurd c.2 (by decide))])
            have ug653_181_10 : hy_z g653 181 10 = hy_z g585 181 10 := hy_ze (by rw [Eg653, if_neg (fun c => absurd c.2 (by decide))])
            refine AR.s (pc' := 167) (lv' := [(1, .int z581), (0, .ref 181)]) (st' := [.ref 181]) (h' := g653) _ hn_147 hk_147_166 rfl ?_
            refine AR.s (pc' := 168) (lv' := [(1, .int z581), (0, .ref 181)]) (st' := [.int z581, .ref 181]) (h' := g653) _ hn_147 hk_147_167 rfl ?_
            refine AR.pT hk_147_168 (by decide) Hg653 Fg653 (q := 181) (by decide) (by decide +kernel) (show ax_cls[9]? = some hy_c9 from rfl) (by decide +kernel) (by decide) rfl (by rw [hy_t181_10]; exact ⟨_, rfl, by omega, by omega, Or.inl rfl⟩) (by decide +kernel) (by decide +kernel) ?_
            rintro g654 ⟨Hg654, Fg654, Gg654, Eg654⟩
            show AR _ _ _ _ _ _ _ 171 [(1, .int z581), (0, .ref 181)] [] g654 _ _
            have ig654 : hy_I g654 := ig653.st Gg654 (by decide) Eg654 (by decide +kernel)
            have ug654_181_8 : hy_z g654 181 8 = hy_z g653 181 8 := hy_ze (by rw [Eg654, if_neg (fun c => absurd c.2 (by decide))])
            have ug654_181_9 : hy_z g654 181 9 = hy_z g653 181 9 := hy_ze (by rw [Eg654, if_neg (fun c => absurd c.2 (by decide))])
            have ug654_181_10 : hy_z g654 181 10 = z581.toInt := hy_zi (i := z581) (by rw [Eg654, if_pos ⟨rfl, rfl⟩])
            refine AR.gotoT hk_147_171 (tgt := 226) (by decide) ?_
            have es : t_sy z581.toInt (r_B h (S + 1)) = (4, 1) := t_sy_43 (by omega)
            rw [es] at TN
            exact AR.vret hk_147_226 hr_147 ⟨rfl, Hg654, Fg654, ig654, by rw [TN]; show _ = S + 1; omega, by rw [TN, show r_tk ((4, S, S + 1) : t_K).1 = 43 from rfl]; omega, by rw [TN]; show _ = S; omega⟩
          · refine AR.s (pc' := 139) (lv' := [(1, .int z581), (0, .ref 181)]) (st' := [.int z581]) (h' := g585) _ hn_147 hk_147_138 rfl ?_
            refine AR.bipushT hk_147_139 (by decide) (fun z655 ez655 => ?_)
            show AR _ _ _ _ _ _ _ 141 [(1, .int z581), (0, .ref 181)] [.int z655, .int z581] g585 _ _
            refine AR.jeq hk_147_141 (tgt := 156) (by decide) (fun v1 => ?_) (fun v2 => ?_)
            · refine AR.s (pc' := 157) (lv' := [(1, .int z581), (0, .ref 181)]) (st' := [.ref 181]) (h' := g585) _ hn_147 hk_147_156 rfl ?_
              refine AR.s (pc' := 158) (lv' := [(1, .int z581), (0, .ref 181)]) (st' := [.ref 181, .ref 181]) (h' := g585) _ hn_147 hk_147_157 rfl ?_
              refine AR.gI hk_147_158 (by decide) Hg585 (q := 181) (n := 32) (by decide) (by decide +kernel) (by decide +kernel) (by decide) hy_t181_8 (fun x656 dx656 lx656 ux656 => ?_)
              show AR _ _ _ _ _ _ _ 161 [(1, .int z581), (0, .ref 181)] [.int x656, .ref 181] g585 _ _
              have sx656 := hy_zi dx656
              refine AR.iconstT hk_147_161 (by decide) (fun z657 ez657 => ?_)
              show AR _ _ _ _ _ _ _ 162 [(1, .int z581), (0, .ref 181)] [.int z657, .int x656, .ref 181] g585 _ _
              refine AR.addT hk_147_162 (by omega) (by omega) (fun z658 ez658 => ?_)
              show AR _ _ _ _ _ _ _ 163 [(1, .int z581), (0, .ref 181)] [.int z658, .ref 181] g585 _ _
              refine AR.pT hk_147_163 (by decide) Hg585 Fg585 (q := 181) (by decide) (by decide +kernel) (show ax_cls[9]? = some hy_c9 from rfl) (by decide +kernel) (by decide) rfl (by rw [hy_t181_8]; exact ⟨_, rfl, by omega, by omega, Or.inl rfl⟩) (by decide +kernel) (by decide +kernel) ?_
              rintro g659 ⟨Hg659, Fg659, Gg659, Eg659⟩
              show AR _ _ _ _ _ _ _ 166 [(1, .int z581), (0, .ref 181)] [] g659 _ _
              have ig659 : hy_I g659 := ig585.st Gg659 (by decide) Eg659 (by decide +kernel)
              have ug659_181_8 : hy_z g659 181 8 = z658.toInt := hy_zi (i := z658) (by rw [Eg659, if_pos ⟨rfl, rfl⟩])
              have ug659_181_9 : hy_z g659 181 9 = hy_z g585 181 9 := hy_ze (by rw [Eg659, if_neg (fun c => absurd c.2 (by decide))])
              have ug659_181_10 : hy_z g659 181 10 = hy_z g585 181 10 := hy_ze (by rw [Eg659, if_neg (fun c => absurd c.2 (by decide))])
              refine AR.s (pc' := 167) (lv' := [(1, .int z581), (0, .ref 181)]) (st' := [.ref 181]) (h' := g659) _ hn_147 hk_147_166 rfl ?_
              refine AR.s (pc' := 168) (lv' := [(1, .int z581), (0, .ref 181)]) (st' := [.int z581, .ref 181]) (h' := g659) _ hn_147 hk_147_167 rfl ?_
              refine AR.pT hk_147_168 (by decide) Hg659 Fg659 (q := 181) (by decide) (by decide +kernel) (show ax_cls[9]? = some hy_c9 from rfl) (by decide +kernel) (by decide) rfl (by rw [hy_t181_10]; exact ⟨_, rfl, by omega, by omega, Or.inl rfl⟩) (by decide +kernel) (by decide +kernel) ?_
              rintro g660 ⟨Hg660, Fg660, Gg660, Eg660⟩
              show AR _ _ _ _ _ _ _ 171 [(1, .int z581), (0, .ref 181)] [] g660 _ _
              have ig660 : hy_I g660 := ig659.st Gg660 (by decide) Eg660 (by decide +kernel)
              have ug660_181_8 : hy_z g660 181 8 = hy_z g659 181 8 := hy_ze (by rw [Eg660, if_neg (fun c => absurd c.2 (by decide))])
              have ug660_181_9 : hy_z g660 181 9 = hy_z g659 181 9 := hy_ze (by rw [Eg660, if_neg (fun c => absurd c.2 (by decide))])
              have ug660_181_10 : hy_z g660 181 10 = z581.toInt := hy_zi (i := z581) (by rw [Eg660, if_pos ⟨rfl, rfl⟩])
              refine AR.gotoT hk_147_171 (tgt := 226) (by decide) ?_
              have es : t_sy z581.toInt (r_B h (S + 1)) = (5, 1) := t_sy_45 (by omega)
              rw [es] at TN
              exact AR.vret hk_147_226 hr_147 ⟨rfl, Hg660, Fg660, ig660, by rw [TN]; show _ = S + 1; omega, by rw [TN, show r_tk ((5, S, S + 1) : t_K).1 = 45 from rfl]; omega, by rw [TN]; show _ = S; omega⟩
            · refine AR.s (pc' := 145) (lv' := [(1, .int z581), (0, .ref 181)]) (st' := [.int z581]) (h' := g585) _ hn_147 hk_147_144 rfl ?_
              refine AR.bipushT hk_147_145 (by decide) (fun z661 ez661 => ?_)
              show AR _ _ _ _ _ _ _ 147 [(1, .int z581), (0, .ref 181)] [.int z661, .int z581] g585 _ _
              refine AR.jeq hk_147_147 (tgt := 156) (by decide) (fun w1 => ?_) (fun w2 => ?_)
              · refine AR.s (pc' := 157) (lv' := [(1, .int z581), (0, .ref 181)]) (st' := [.ref 181]) (h' := g585) _ hn_147 hk_147_156 rfl ?_
                refine AR.s (pc' := 158) (lv' := [(1, .int z581), (0, .ref 181)]) (st' := [.ref 181, .ref 181]) (h' := g585) _ hn_147 hk_147_157 rfl ?_
                refine AR.gI hk_147_158 (by decide) Hg585 (q := 181) (n := 32) (by decide) (by decide +kernel) (by decide +kernel) (by decide) hy_t181_8 (fun x662 dx662 lx662 ux662 => ?_)
                show AR _ _ _ _ _ _ _ 161 [(1, .int z581), (0, .ref 181)] [.int x662, .ref 181] g585 _ _
                have sx662 := hy_zi dx662
                refine AR.iconstT hk_147_161 (by decide) (fun z663 ez663 => ?_)
                show AR _ _ _ _ _ _ _ 162 [(1, .int z581), (0, .ref 181)] [.int z663, .int x662, .ref 181] g585 _ _
                refine AR.addT hk_147_162 (by omega) (by omega) (fun z664 ez664 => ?_)
                show AR _ _ _ _ _ _ _ 163 [(1, .int z581), (0, .ref 181)] [.int z664, .ref 181] g585 _ _
                refine AR.pT hk_147_163 (by decide) Hg585 Fg585 (q := 181) (by decide) (by decide +kernel) (show ax_cls[9]? = some hy_c9 from rfl) (by decide +kernel) (by decide) rfl (by rw [hy_t181_8]; exact ⟨_, rfl, by omega, by omega, Or.inl rfl⟩) (by decide +kernel) (by decide +kernel) ?_
                rintro g665 ⟨Hg665, Fg665, Gg665, Eg665⟩
                show AR _ _ _ _ _ _ _ 166 [(1, .int z581), (0, .ref 181)] [] g665 _ _
                have ig665 : hy_I g665 := ig585.st Gg665 (by decide) Eg665 (by decide +kernel)
                have ug665_181_8 : hy_z g665 181 8 = z664.toInt := hy_zi (i := z664) (by rw [Eg665, if_pos ⟨rfl, rfl⟩])
                have ug665_181_9 : hy_z g665 181 9 = hy_z g585 181 9 := hy_ze (by rw [Eg665, if_neg (fun c => absurd c.2 (by decide))])
                have ug665_181_10 : hy_z g665 181 10 = hy_z g585 181 10 := hy_ze (by rw [Eg665, if_neg (fun c => absurd c.2 (by decide))])
                refine AR.s (pc' := 167) (lv' := [(1, .int z581), (0, .ref 181)]) (st' := [.ref 181]) (h' := g665) _ hn_147 hk_147_166 rfl ?_
                refine AR.s (pc' := 168) (lv' := [(1, .int z581), (0, .ref 181)]) (st' := [.int z581, .ref 181]) (h' := g665) _ hn_147 hk_147_167 rfl ?_
                refine AR.pT hk_147_168 (by decide) Hg665 Fg665 (q := 181) (by decide) (by decide +kernel) (show ax_cls[9]? = some hy_c9 from rfl) (by decide +kernel) (by decide) rfl (by rw [hy_t181_10]; exact ⟨_, rfl, by omega, by omega, Or.inl rfl⟩) (by decide +kernel) (by decide +kernel) ?_
                rintro g666 ⟨Hg666, Fg666, Gg666, Eg666⟩
                show AR _ _ _ _ _ _ _ 171 [(1, .int z581), (0, .ref 181)] [] g666 _ _
                have ig666 : hy_I g666 := ig665.st Gg666 (by decide) Eg666 (by decide +kernel)
                have ug666_181_8 : hy_z g666 181 8 = hy_z g665 181 8 := hy_ze (by rw [Eg666, if_neg (fun c => absurd c.2 (by decide))])
                have ug666_181_9 : hy_z g666 181 9 = hy_z g665 181 9 := hy_ze (by rw [Eg666, if_neg (fun c => absurd c.2 (by decide))])
                have ug666_181_10 : hy_z g666 181 10 = z581.toInt := hy_zi (i := z581) (by rw [Eg666, if_pos ⟨rfl, rfl⟩])
                refine AR.gotoT hk_147_171 (tgt := 226) (by decide) ?_
                have es : t_sy z581.toInt (r_B h (S + 1)) = (6, 1) := t_sy_126 (by omega)
                rw [es] at TN
                exact AR.vret hk_147_226 hr_147 ⟨rfl, Hg666, Fg666, ig666, by rw [TN]; show _ = S + 1; omega, by rw [TN, show r_tk ((6, S, S + 1) : t_K).1 = 126 from rfl]; omega, by rw [TN]; show _ = S; omega⟩
              · refine AR.s (pc' := 151) (lv' := [(1, .int z581), (0, .ref 181)]) (st' := [.int z581]) (h' := g585) _ hn_147 hk_147_150 rfl ?_
                refine AR.bipushT hk_147_151 (by decide) (fun z667 ez667 => ?_)
                show AR _ _ _ _ _ _ _ 153 [(1, .int z581), (0, .ref 181)] [.int z667, .int z581] g585 _ _
                refine AR.jne hk_147_153 (tgt := 174) (by decide) (fun x1 => ?_) (fun x2 => ?_)
                · refine AR.s (pc' := 175) (lv' := [(1, .int z581), (0, .ref 181)]) (st' := [.int z581]) (h' := g585) _ hn_147 hk_147_174 rfl ?_
                  refine AR.bipushT hk_147_175 (by decide) (fun z673 ez673 => ?_)
                  show AR _ _ _ _ _ _ _ 177 [(1, .int z581), (0, .ref 181)] [.int z673, .int z581] g585 _ _
                  refine AR.jeq hk_147_177 (tgt := 186) (by decide) (fun y1 => ?_) (fun y2 => ?_)
                  · refine AR.s (pc' := 187) (lv' := [(1, .int z581), (0, .ref 181)]) (st' := [.ref 181]) (h' := g585) _ hn_147 hk_147_186 rfl ?_
                    refine AR.s (pc' := 188) (lv' := [(1, .int z581), (0, .ref 181)]) (st' := [.ref 181, .ref 181]) (h' := g585) _ hn_147 hk_147_187 rfl ?_
                    refine AR.gI hk_147_188 (by decide) Hg585 (q := 181) (n := 32) (by decide) (by decide +kernel) (by decide +kernel) (by decide) hy_t181_8 (fun x674 dx674 lx674 ux674 => ?_)
                    show AR _ _ _ _ _ _ _ 191 [(1, .int z581), (0, .ref 181)] [.int x674, .ref 181] g585 _ _
                    have sx674 := hy_zi dx674
                    refine AR.iconstT hk_147_191 (by decide) (fun z675 ez675 => ?_)
                    show AR _ _ _ _ _ _ _ 192 [(1, .int z581), (0, .ref 181)] [.int z675, .int x674, .ref 181] g585 _ _
                    refine AR.addT hk_147_192 (by omega) (by omega) (fun z676 ez676 => ?_)
                    show AR _ _ _ _ _ _ _ 193 [(1, .int z581), (0, .ref 181)] [.int z676, .ref 181] g585 _ _
                    refine AR.c9 (as := [.int z676]) (rest := []) hk_147_193 Hg585 (by decide +kernel) rfl rfl (Nat.le_of_ble_eq_true rfl) (lr_145 hlst Hg585 (by omega)) (by decide) (Nat.zero_le _) (Nat.zero_le _) (fun E h' q => by obtain ⟨-, x, e, -⟩ := q; cases e) ?_
                    rintro w678 g679 ⟨eg679, z677, e, ez677⟩
                    cases e
                    obtain rfl := eg679.symm
                    show AR _ _ _ _ _ _ _ 196 [(1, .int z581), (0, .ref 181)] [.int z677] g585 _ _
                    have eq : r_B h (S + 1) = z677.toInt := by rw [ez677, r_B_F Fg585 (by decide +kernel)]; congr 1; omega
                    rw [eq] at TN
                    show AR _ _ _ _ _ _ _ 196 [(1, .int z581), (0, .ref 181)] [.int z677] g585 _ _
                    refine AR.bipushT hk_147_196 (by decide) (fun z680 ez680 => ?_)
                    show AR _ _ _ _ _ _ _ 198 [(1, .int z581), (0, .ref 181)] [.int z680, .int z677] g585 _ _
                    refine AR.jne hk_147_198 (tgt := 226) (by decide) (fun q1 => ?_) (fun q2 => ?_)
                    · have es : t_sy z581.toInt z677.toInt = (1, 0) := t_sy_1 (by omega) (by omega) (by omega) (by omega) (by omega) (by omega) (by omega)
                      rw [es] at TN
                      exact AR.vret hk_147_226 hr_147 ⟨rfl, Hg585, Fg585, ig585, by rw [TN]; show _ = S + 0; omega, by rw [TN, show r_tk ((1, S, S + 0) : t_K).1 = 5 from rfl]; omega, by rw [TN]; show _ = S; omega⟩
                    · have qlt : S + 1 < 200 := by
                        refine Int.not_le.mp (fun c => ?_)
                        rw [r_B_lt hH c] at eq
                        omega
                      show AR _ _ _ _ _ _ _ 201 [(1, .int z581), (0, .ref 181)] [] g585 _ _
                      refine AR.s (pc' := 202) (lv' := [(1, .int z581), (0, .ref 181)]) (st' := [.ref 181]) (h' := g585) _ hn_147 hk_147_201 rfl ?_
                      refine AR.s (pc' := 203) (lv' := [(1, .int z581), (0, .ref 181)]) (st' := [.ref 181, .ref 181]) (h' := g585) _ hn_147 hk_147_202 rfl ?_
                      refine AR.gI hk_147_203 (by decide) Hg585 (q := 181) (n := 32) (by decide) (by decide +kernel) (by decide +kernel) (by decide) hy_t181_8 (fun x681 dx681 lx681 ux681 => ?_)
                      show AR _ _ _ _ _ _ _ 206 [(1, .int z581), (0, .ref 181)] [.int x681, .ref 181] g585 _ _
                      have sx681 := hy_zi dx681
                      refine AR.iconstT hk_147_206 (by decide) (fun z682 ez682 => ?_)
                      show AR _ _ _ _ _ _ _ 207 [(1, .int z581), (0, .ref 181)] [.int z682, .int x681, .ref 181] g585 _ _
                      refine AR.addT hk_147_207 (by omega) (by omega) (fun z683 ez683 => ?_)
                      show AR _ _ _ _ _ _ _ 208 [(1, .int z581), (0, .ref 181)] [.int z683, .ref 181] g585 _ _
                      refine AR.pT hk_147_208 (by decide) Hg585 Fg585 (q := 181) (by decide) (by decide +kernel) (show ax_cls[9]? = some hy_c9 from rfl) (by decide +kernel) (by decide) rfl (by rw [hy_t181_8]; exact ⟨_, rfl, by omega, by omega, Or.inl rfl⟩) (by decide +kernel) (by decide +kernel) ?_
                      rintro g684 ⟨Hg684, Fg684, Gg684, Eg684⟩
                      show AR _ _ _ _ _ _ _ 211 [(1, .int z581), (0, .ref 181)] [] g684 _ _
                      have ig684 : hy_I g684 := ig585.st Gg684 (by decide) Eg684 (by decide +kernel)
                      have ug684_181_8 : hy_z g684 181 8 = z683.toInt := hy_zi (i := z683) (by rw [Eg684, if_pos ⟨rfl, rfl⟩])
                      have ug684_181_9 : hy_z g684 181 9 = hy_z g585 181 9 := hy_ze (by rw [Eg684, if_neg (fun c => absurd c.2 (by decide))])
                      have ug684_181_10 : hy_z g684 181 10 = hy_z g585 181 10 := hy_ze (by rw [Eg684, if_neg (fun c => absurd c.2 (by decide))])
                      refine AR.s (pc' := 212) (lv' := [(1, .int z581), (0, .ref 181)]) (st' := [.ref 181]) (h' := g684) _ hn_147 hk_147_211 rfl ?_
                      refine AR.s (pc' := 213) (lv' := [(1, .int z581), (0, .ref 181)]) (st' := [.int z581, .ref 181]) (h' := g684) _ hn_147 hk_147_212 rfl ?_
                      refine AR.bipushT hk_147_213 (by decide) (fun z685 ez685 => ?_)
                      show AR _ _ _ _ _ _ _ 215 [(1, .int z581), (0, .ref 181)] [.int z685, .int z581, .ref 181] g684 _ _
                      refine AR.jne hk_147_215 (tgt := 222) (by decide) (fun m1 => ?_) (fun m2 => ?_)
                      · exact absurd (show z581.toInt = 60 by omega) (by omega)
                      · refine AR.iconstT hk_147_218 (by decide) (fun z686 ez686 => ?_)
                        show AR _ _ _ _ _ _ _ 219 [(1, .int z581), (0, .ref 181)] [.int z686, .ref 181] g684 _ _
                        refine AR.gotoT hk_147_219 (tgt := 223) (by decide) ?_
                        refine AR.pT hk_147_223 (by decide) Hg684 Fg684 (q := 181) (by decide) (by decide +kernel) (show ax_cls[9]? = some hy_c9 from rfl) (by decide +kernel) (by decide) rfl (by rw [hy_t181_10]; exact ⟨_, rfl, by omega, by omega, Or.inl rfl⟩) (by decide +kernel) (by decide +kernel) ?_
                        rintro g687 ⟨Hg687, Fg687, Gg687, Eg687⟩
                        show AR _ _ _ _ _ _ _ 226 [(1, .int z581), (0, .ref 181)] [] g687 _ _
                        have ig687 : hy_I g687 := ig684.st Gg687 (by decide) Eg687 (by decide +kernel)
                        have ug687_181_8 : hy_z g687 181 8 = hy_z g684 181 8 := hy_ze (by rw [Eg687, if_neg (fun c => absurd c.2 (by decide))])
                        have ug687_181_9 : hy_z g687 181 9 = hy_z g684 181 9 := hy_ze (by rw [Eg687, if_neg (fun c => absurd c.2 (by decide))])
                        have ug687_181_10 : hy_z g687 181 10 = z686.toInt := hy_zi (i := z686) (by rw [Eg687, if_pos ⟨rfl, rfl⟩])
                        have es : t_sy z581.toInt z677.toInt = (8, 2) := t_sy_60 ⟨by omega, by omega⟩
                        rw [es] at TN
                        exact AR.vret hk_147_226 hr_147 ⟨rfl, Hg687, Fg687, ig687, by rw [TN]; show _ = S + 2; omega, by rw [TN, show r_tk ((8, S, S + 2) : t_K).1 = 4 from rfl]; omega, by rw [TN]; show _ = S; omega⟩
                  · refine AR.s (pc' := 181) (lv' := [(1, .int z581), (0, .ref 181)]) (st' := [.int z581]) (h' := g585) _ hn_147 hk_147_180 rfl ?_
                    refine AR.bipushT hk_147_181 (by decide) (fun z688 ez688 => ?_)
                    show AR _ _ _ _ _ _ _ 183 [(1, .int z581), (0, .ref 181)] [.int z688, .int z581] g585 _ _
                    refine AR.jne hk_147_183 (tgt := 226) (by decide) (fun v3 => ?_) (fun v4 => ?_)
                    · have es : t_sy z581.toInt (r_B h (S + 1)) = (1, 0) := t_sy_1 (by omega) (by omega) (by omega) (by omega) (by omega) (by omega) (by omega)
                      rw [es] at TN
                      exact AR.vret hk_147_226 hr_147 ⟨rfl, Hg585, Fg585, ig585, by rw [TN]; show _ = S + 0; omega, by rw [TN, show r_tk ((1, S, S + 0) : t_K).1 = 5 from rfl]; omega, by rw [TN]; show _ = S; omega⟩
                    · refine AR.s (pc' := 187) (lv' := [(1, .int z581), (0, .ref 181)]) (st' := [.ref 181]) (h' := g585) _ hn_147 hk_147_186 rfl ?_
                      refine AR.s (pc' := 188) (lv' := [(1, .int z581), (0, .ref 181)]) (st' := [.ref 181, .ref 181]) (h' := g585) _ hn_147 hk_147_187 rfl ?_
                      refine AR.gI hk_147_188 (by decide) Hg585 (q := 181) (n := 32) (by decide) (by decide +kernel) (by decide +kernel) (by decide) hy_t181_8 (fun x689 dx689 lx689 ux689 => ?_)
                      show AR _ _ _ _ _ _ _ 191 [(1, .int z581), (0, .ref 181)] [.int x689, .ref 181] g585 _ _
                      have sx689 := hy_zi dx689
                      refine AR.iconstT hk_147_191 (by decide) (fun z690 ez690 => ?_)
                      show AR _ _ _ _ _ _ _ 192 [(1, .int z581), (0, .ref 181)] [.int z690, .int x689, .ref 181] g585 _ _
                      refine AR.addT hk_147_192 (by omega) (by omega) (fun z691 ez691 => ?_)
                      show AR _ _ _ _ _ _ _ 193 [(1, .int z581), (0, .ref 181)] [.int z691, .ref 181] g585 _ _
                      refine AR.c9 (as := [.int z691]) (rest := []) hk_147_193 Hg585 (by decide +kernel) rfl rfl (Nat.le_of_ble_eq_true rfl) (lr_145 hlst Hg585 (by omega)) (by decide) (Nat.zero_le _) (Nat.zero_le _) (fun E h' q => by obtain ⟨-, x, e, -⟩ := q; cases e) ?_
                      rintro w693 g694 ⟨eg694, z692, e, ez692⟩
                      cases e
                      obtain rfl := eg694.symm
                      show AR _ _ _ _ _ _ _ 196 [(1, .int z581), (0, .ref 181)] [.int z692] g585 _ _
                      have eq : r_B h (S + 1) = z692.toInt := by rw [ez692, r_B_F Fg585 (by decide +kernel)]; congr 1; omega
                      rw [eq] at TN
                      show AR _ _ _ _ _ _ _ 196 [(1, .int z581), (0, .ref 181)] [.int z692] g585 _ _
                      refine AR.bipushT hk_147_196 (by decide) (fun z695 ez695 => ?_)
                      show AR _ _ _ _ _ _ _ 198 [(1, .int z581), (0, .ref 181)] [.int z695, .int z692] g585 _ _
                      refine AR.jne hk_147_198 (tgt := 226) (by decide) (fun q1 => ?_) (fun q2 => ?_)
                      · have es : t_sy z581.toInt z692.toInt = (1, 0) := t_sy_1 (by omega) (by omega) (by omega) (by omega) (by omega) (by omega) (by omega)
                        rw [es] at TN
                        exact AR.vret hk_147_226 hr_147 ⟨rfl, Hg585, Fg585, ig585, by rw [TN]; show _ = S + 0; omega, by rw [TN, show r_tk ((1, S, S + 0) : t_K).1 = 5 from rfl]; omega, by rw [TN]; show _ = S; omega⟩
                      · have qlt : S + 1 < 200 := by
                          refine Int.not_le.mp (fun c => ?_)
                          rw [r_B_lt hH c] at eq
                          omega
                        show AR _ _ _ _ _ _ _ 201 [(1, .int z581), (0, .ref 181)] [] g585 _ _
                        refine AR.s (pc' := 202) (lv' := [(1, .int z581), (0, .ref 181)]) (st' := [.ref 181]) (h' := g585) _ hn_147 hk_147_201 rfl ?_
                        refine AR.s (pc' := 203) (lv' := [(1, .int z581), (0, .ref 181)]) (st' := [.ref 181, .ref 181]) (h' := g585) _ hn_147 hk_147_202 rfl ?_
                        refine AR.gI hk_147_203 (by decide) Hg585 (q := 181) (n := 32) (by decide) (by decide +kernel) (by decide +kernel) (by decide) hy_t181_8 (fun x696 dx696 lx696 ux696 => ?_)
                        show AR _ _ _ _ _ _ _ 206 [(1, .int z581), (0, .ref 181)] [.int x696, .ref 181] g585 _ _
                        have sx696 := hy_zi dx696
                        refine AR.iconstT hk_147_206 (by decide) (fun z697 ez697 => ?_)
                        show AR _ _ _ _ _ _ _ 207 [(1, .int z581), (0, .ref 181)] [.int z697, .int x696, .ref 181] g585 _ _
                        refine AR.addT hk_147_207 (by omega) (by omega) (fun z698 ez698 => ?_)
                        show AR _ _ _ _ _ _ _ 208 [(1, .int z581), (0, .ref 181)] [.int z698, .ref 181] g585 _ _
                        refine AR.pT hk_147_208 (by decide) Hg585 Fg585 (q := 181) (by decide) (by decide +kernel) (show ax_cls[9]? = some hy_c9 from rfl) (by decide +kernel) (by decide) rfl (by rw [hy_t181_8]; exact ⟨_, rfl, by omega, by omega, Or.inl rfl⟩) (by decide +kernel) (by decide +kernel) ?_
                        rintro g699 ⟨Hg699, Fg699, Gg699, Eg699⟩
                        show AR _ _ _ _ _ _ _ 211 [(1, .int z581), (0, .ref 181)] [] g699 _ _
                        have ig699 : hy_I g699 := ig585.st Gg699 (by decide) Eg699 (by decide +kernel)
                        have ug699_181_8 : hy_z g699 181 8 = z698.toInt := hy_zi (i := z698) (by rw [Eg699, if_pos ⟨rfl, rfl⟩])
                        have ug699_181_9 : hy_z g699 181 9 = hy_z g585 181 9 := hy_ze (by rw [Eg699, if_neg (fun c => absurd c.2 (by decide))])
                        have ug699_181_10 : hy_z g699 181 10 = hy_z g585 181 10 := hy_ze (by rw [Eg699, if_neg (fun c => absurd c.2 (by decide))])
                        refine AR.s (pc' := 212) (lv' := [(1, .int z581), (0, .ref 181)]) (st' := [.ref 181]) (h' := g699) _ hn_147 hk_147_211 rfl ?_
                        refine AR.s (pc' := 213) (lv' := [(1, .int z581), (0, .ref 181)]) (st' := [.int z581, .ref 181]) (h' := g699) _ hn_147 hk_147_212 rfl ?_
                        refine AR.bipushT hk_147_213 (by decide) (fun z700 ez700 => ?_)
                        show AR _ _ _ _ _ _ _ 215 [(1, .int z581), (0, .ref 181)] [.int z700, .int z581, .ref 181] g699 _ _
                        refine AR.jne hk_147_215 (tgt := 222) (by decide) (fun m1 => ?_) (fun m2 => ?_)
                        · refine AR.iconstT hk_147_222 (by decide) (fun z701 ez701 => ?_)
                          show AR _ _ _ _ _ _ _ 223 [(1, .int z581), (0, .ref 181)] [.int z701, .ref 181] g699 _ _
                          refine AR.pT hk_147_223 (by decide) Hg699 Fg699 (q := 181) (by decide) (by decide +kernel) (show ax_cls[9]? = some hy_c9 from rfl) (by decide +kernel) (by decide) rfl (by rw [hy_t181_10]; exact ⟨_, rfl, by omega, by omega, Or.inl rfl⟩) (by decide +kernel) (by decide +kernel) ?_
                          rintro g702 ⟨Hg702, Fg702, Gg702, Eg702⟩
                          show AR _ _ _ _ _ _ _ 226 [(1, .int z581), (0, .ref 181)] [] g702 _ _
                          have ig702 : hy_I g702 := ig699.st Gg702 (by decide) Eg702 (by decide +kernel)
                          have ug702_181_8 : hy_z g702 181 8 = hy_z g699 181 8 := hy_ze (by rw [Eg702, if_neg (fun c => absurd c.2 (by decide))])
                          have ug702_181_9 : hy_z g702 181 9 = hy_z g699 181 9 := hy_ze (by rw [Eg702, if_neg (fun c => absurd c.2 (by decide))])
                          have ug702_181_10 : hy_z g702 181 10 = z701.toInt := hy_zi (i := z701) (by rw [Eg702, if_pos ⟨rfl, rfl⟩])
                          have es : t_sy z581.toInt z692.toInt = (7, 2) := t_sy_62 ⟨by omega, by omega⟩
                          rw [es] at TN
                          exact AR.vret hk_147_226 hr_147 ⟨rfl, Hg702, Fg702, ig702, by rw [TN]; show _ = S + 2; omega, by rw [TN, show r_tk ((7, S, S + 2) : t_K).1 = 3 from rfl]; omega, by rw [TN]; show _ = S; omega⟩
                        · exact absurd (show z581.toInt = 62 by omega) (by omega)
                · refine AR.s (pc' := 157) (lv' := [(1, .int z581), (0, .ref 181)]) (st' := [.ref 181]) (h' := g585) _ hn_147 hk_147_156 rfl ?_
                  refine AR.s (pc' := 158) (lv' := [(1, .int z581), (0, .ref 181)]) (st' := [.ref 181, .ref 181]) (h' := g585) _ hn_147 hk_147_157 rfl ?_
                  refine AR.gI hk_147_158 (by decide) Hg585 (q := 181) (n := 32) (by decide) (by decide +kernel) (by decide +kernel) (by decide) hy_t181_8 (fun x668 dx668 lx668 ux668 => ?_)
                  show AR _ _ _ _ _ _ _ 161 [(1, .int z581), (0, .ref 181)] [.int x668, .ref 181] g585 _ _
                  have sx668 := hy_zi dx668
                  refine AR.iconstT hk_147_161 (by decide) (fun z669 ez669 => ?_)
                  show AR _ _ _ _ _ _ _ 162 [(1, .int z581), (0, .ref 181)] [.int z669, .int x668, .ref 181] g585 _ _
                  refine AR.addT hk_147_162 (by omega) (by omega) (fun z670 ez670 => ?_)
                  show AR _ _ _ _ _ _ _ 163 [(1, .int z581), (0, .ref 181)] [.int z670, .ref 181] g585 _ _
                  refine AR.pT hk_147_163 (by decide) Hg585 Fg585 (q := 181) (by decide) (by decide +kernel) (show ax_cls[9]? = some hy_c9 from rfl) (by decide +kernel) (by decide) rfl (by rw [hy_t181_8]; exact ⟨_, rfl, by omega, by omega, Or.inl rfl⟩) (by decide +kernel) (by decide +kernel) ?_
                  rintro g671 ⟨Hg671, Fg671, Gg671, Eg671⟩
                  show AR _ _ _ _ _ _ _ 166 [(1, .int z581), (0, .ref 181)] [] g671 _ _
                  have ig671 : hy_I g671 := ig585.st Gg671 (by decide) Eg671 (by decide +kernel)
                  have ug671_181_8 : hy_z g671 181 8 = z670.toInt := hy_zi (i := z670) (by rw [Eg671, if_pos ⟨rfl, rfl⟩])
                  have ug671_181_9 : hy_z g671 181 9 = hy_z g585 181 9 := hy_ze (by rw [Eg671, if_neg (fun c => absurd c.2 (by decide))])
                  have ug671_181_10 : hy_z g671 181 10 = hy_z g585 181 10 := hy_ze (by rw [Eg671, if_neg (fun c => absurd c.2 (by decide))])
                  refine AR.s (pc' := 167) (lv' := [(1, .int z581), (0, .ref 181)]) (st' := [.ref 181]) (h' := g671) _ hn_147 hk_147_166 rfl ?_
                  refine AR.s (pc' := 168) (lv' := [(1, .int z581), (0, .ref 181)]) (st' := [.int z581, .ref 181]) (h' := g671) _ hn_147 hk_147_167 rfl ?_
                  refine AR.pT hk_147_168 (by decide) Hg671 Fg671 (q := 181) (by decide) (by decide +kernel) (show ax_cls[9]? = some hy_c9 from rfl) (by decide +kernel) (by decide) rfl (by rw [hy_t181_10]; exact ⟨_, rfl, by omega, by omega, Or.inl rfl⟩) (by decide +kernel) (by decide +kernel) ?_
                  rintro g672 ⟨Hg672, Fg672, Gg672, Eg672⟩
                  show AR _ _ _ _ _ _ _ 171 [(1, .int z581), (0, .ref 181)] [] g672 _ _
                  have ig672 : hy_I g672 := ig671.st Gg672 (by decide) Eg672 (by decide +kernel)
                  have ug672_181_8 : hy_z g672 181 8 = hy_z g671 181 8 := hy_ze (by rw [Eg672, if_neg (fun c => absurd c.2 (by decide))])
                  have ug672_181_9 : hy_z g672 181 9 = hy_z g671 181 9 := hy_ze (by rw [Eg672, if_neg (fun c => absurd c.2 (by decide))])
                  have ug672_181_10 : hy_z g672 181 10 = z581.toInt := hy_zi (i := z581) (by rw [Eg672, if_pos ⟨rfl, rfl⟩])
                  refine AR.gotoT hk_147_171 (tgt := 226) (by decide) ?_
                  have es : t_sy z581.toInt (r_B h (S + 1)) = (9, 1) := t_sy_61 (by omega)
                  rw [es] at TN
                  exact AR.vret hk_147_226 hr_147 ⟨rfl, Hg672, Fg672, ig672, by rw [TN]; show _ = S + 1; omega, by rw [TN, show r_tk ((9, S, S + 1) : t_K).1 = 61 from rfl]; omega, by rw [TN]; show _ = S; omega⟩
        · rw [if_pos ⟨by omega, by omega⟩] at TN
          show AR _ _ _ _ _ _ _ 114 [(1, .int z581), (0, .ref 181)] [] g585 _ _
          refine AR.s (pc' := 115) (lv' := [(1, .int z581), (0, .ref 181)]) (st' := [.ref 181]) (h' := g585) _ hn_147 hk_147_114 rfl ?_
          refine AR.s (pc' := 116) (lv' := [(1, .int z581), (0, .ref 181)]) (st' := [.ref 181, .ref 181]) (h' := g585) _ hn_147 hk_147_115 rfl ?_
          refine AR.gI hk_147_116 (by decide) Hg585 (q := 181) (n := 32) (by decide) (by decide +kernel) (by decide +kernel) (by decide) hy_t181_8 (fun x703 dx703 lx703 ux703 => ?_)
          show AR _ _ _ _ _ _ _ 119 [(1, .int z581), (0, .ref 181)] [.int x703, .ref 181] g585 _ _
          have sx703 := hy_zi dx703
          refine AR.iconstT hk_147_119 (by decide) (fun z704 ez704 => ?_)
          show AR _ _ _ _ _ _ _ 120 [(1, .int z581), (0, .ref 181)] [.int z704, .int x703, .ref 181] g585 _ _
          refine AR.addT hk_147_120 (by omega) (by omega) (fun z705 ez705 => ?_)
          show AR _ _ _ _ _ _ _ 121 [(1, .int z581), (0, .ref 181)] [.int z705, .ref 181] g585 _ _
          refine AR.pT hk_147_121 (by decide) Hg585 Fg585 (q := 181) (by decide) (by decide +kernel) (show ax_cls[9]? = some hy_c9 from rfl) (by decide +kernel) (by decide) rfl (by rw [hy_t181_8]; exact ⟨_, rfl, by omega, by omega, Or.inl rfl⟩) (by decide +kernel) (by decide +kernel) ?_
          rintro g706 ⟨Hg706, Fg706, Gg706, Eg706⟩
          show AR _ _ _ _ _ _ _ 124 [(1, .int z581), (0, .ref 181)] [] g706 _ _
          have ig706 : hy_I g706 := ig585.st Gg706 (by decide) Eg706 (by decide +kernel)
          have ug706_181_8 : hy_z g706 181 8 = z705.toInt := hy_zi (i := z705) (by rw [Eg706, if_pos ⟨rfl, rfl⟩])
          have ug706_181_9 : hy_z g706 181 9 = hy_z g585 181 9 := hy_ze (by rw [Eg706, if_neg (fun c => absurd c.2 (by decide))])
          have ug706_181_10 : hy_z g706 181 10 = hy_z g585 181 10 := hy_ze (by rw [Eg706, if_neg (fun c => absurd c.2 (by decide))])
          refine AR.s (pc' := 125) (lv' := [(1, .int z581), (0, .ref 181)]) (st' := [.ref 181]) (h' := g706) _ hn_147 hk_147_124 rfl ?_
          refine AR.iconstT hk_147_125 (by decide) (fun z707 ez707 => ?_)
          show AR _ _ _ _ _ _ _ 126 [(1, .int z581), (0, .ref 181)] [.int z707, .ref 181] g706 _ _
          refine AR.pT hk_147_126 (by decide) Hg706 Fg706 (q := 181) (by decide) (by decide +kernel) (show ax_cls[9]? = some hy_c9 from rfl) (by decide +kernel) (by decide) rfl (by rw [hy_t181_10]; exact ⟨_, rfl, by omega, by omega, Or.inl rfl⟩) (by decide +kernel) (by decide +kernel) ?_
          rintro g708 ⟨Hg708, Fg708, Gg708, Eg708⟩
          show AR _ _ _ _ _ _ _ 129 [(1, .int z581), (0, .ref 181)] [] g708 _ _
          have ig708 : hy_I g708 := ig706.st Gg708 (by decide) Eg708 (by decide +kernel)
          have ug708_181_8 : hy_z g708 181 8 = hy_z g706 181 8 := hy_ze (by rw [Eg708, if_neg (fun c => absurd c.2 (by decide))])
          have ug708_181_9 : hy_z g708 181 9 = hy_z g706 181 9 := hy_ze (by rw [Eg708, if_neg (fun c => absurd c.2 (by decide))])
          have ug708_181_10 : hy_z g708 181 10 = z707.toInt := hy_zi (i := z707) (by rw [Eg708, if_pos ⟨rfl, rfl⟩])
          refine AR.gotoT hk_147_129 (tgt := 226) (by decide) ?_
          exact AR.vret hk_147_226 hr_147 ⟨rfl, Hg708, Fg708, ig708, by rw [TN]; show _ = S + 1; omega, by rw [TN, show r_tk ((3, S, S + 1) : t_K).1 = 2 from rfl]; omega, by rw [TN]; show _ = S; omega⟩
    · have td : t_dig z581.toInt = true := by rcases Az588 with ⟨-, e⟩ | ⟨e, -⟩; exact e; exact absurd e (by omega)
      rw [if_pos td] at TN
      show AR _ _ _ _ _ _ _ 67 [(1, .int z581), (0, .ref 181)] [] g585 _ _
      have hB2 : r_B g585 = r_B h := r_B_F Fg585 (by decide +kernel)
      have s12 : hy_z g585 181 8 = S := by omega
      have s32 : hy_z g585 181 9 = S := by omega
      refine lr_dg hlst Hg585 (E := t_dg (r_B h) 201 S) 201 g585 Hg585 ig585 (ty_F_refl _ _) (by omega) (by omega) (by omega) (by rw [hB2, s12]) (fun gd Hgd igd Ggd gds gd0 gd2 => ?_)
      have Fgd : ty_F 16528282690043758247936 h gd := ty_F.trans Fg585 (ty_F.sub (by decide +kernel) Ggd)
      have s33 : hy_z gd 181 9 = S := (hy_zF Ggd 9 (q := 181) (by decide) (by decide +kernel) (by decide +kernel)).trans s32
      show AR _ _ _ _ _ _ _ 94 [(1, .int z581), (0, .ref 181)] [] gd _ _
      refine AR.s (pc' := 95) (lv' := [(1, .int z581), (0, .ref 181)]) (st' := [.ref 181]) (h' := gd) _ hn_147 hk_147_94 rfl ?_
      refine AR.iconstT hk_147_95 (by decide) (fun z591 ez591 => ?_)
      show AR _ _ _ _ _ _ _ 96 [(1, .int z581), (0, .ref 181)] [.int z591, .ref 181] gd _ _
      refine AR.pT hk_147_96 (by decide) Hgd Fgd (q := 181) (by decide) (by decide +kernel) (show ax_cls[9]? = some hy_c9 from rfl) (by decide +kernel) (by decide) rfl (by rw [hy_t181_10]; exact ⟨_, rfl, by omega, by omega, Or.inl rfl⟩) (by decide +kernel) (by decide +kernel) ?_
      rintro g592 ⟨Hg592, Fg592, Gg592, Eg592⟩
      show AR _ _ _ _ _ _ _ 99 [(1, .int z581), (0, .ref 181)] [] g592 _ _
      have ig592 : hy_I g592 := igd.st Gg592 (by decide) Eg592 (by decide +kernel)
      have ug592_181_8 : hy_z g592 181 8 = hy_z gd 181 8 := hy_ze (by rw [Eg592, if_neg (fun c => absurd c.2 (by decide))])
      have ug592_181_9 : hy_z g592 181 9 = hy_z gd 181 9 := hy_ze (by rw [Eg592, if_neg (fun c => absurd c.2 (by decide))])
      have ug592_181_10 : hy_z g592 181 10 = z591.toInt := hy_zi (i := z591) (by rw [Eg592, if_pos ⟨rfl, rfl⟩])
      refine AR.gotoT hk_147_99 (tgt := 226) (by decide) ?_
      refine AR.vret hk_147_226 hr_147 ⟨rfl, Hg592, Fg592, ig592, ?_, ?_, ?_⟩
      · rw [TN]; show _ = t_dg (r_B h) 201 S; omega
      · have e1 : hy_z g592 181 10 = 1 := by omega
        rw [TN, e1]
        show 1 = r_tk (if t_dg (r_B h) 201 S - S ≤ 6 then 2 else 10)
        split <;> rfl
      · rw [TN]; show _ = S; omega
  · have td : ¬ (t_dig z581.toInt = true) := by unfold t_dig; rw [Bool.and_eq_true]; simp only [decide_eq_true_eq]; omega
    rw [if_neg td] at TN
    rw [if_neg (fun c => absurd c.1 (by omega))] at TN
    show AR _ _ _ _ _ _ _ 52 [(1, .int z581), (0, .ref 181)] [] g585 _ _
    refine AR.s (pc' := 53) (lv' := [(1, .int z581), (0, .ref 181)]) (st' := [.ref 181]) (h' := g585) _ hn_147 hk_147_52 rfl ?_
    refine AR.iconstT hk_147_53 (by decide) (fun z586 ez586 => ?_)
    show AR _ _ _ _ _ _ _ 54 [(1, .int z581), (0, .ref 181)] [.int z586, .ref 181] g585 _ _
    refine AR.pT hk_147_54 (by decide) Hg585 Fg585 (q := 181) (by decide) (by decide +kernel) (show ax_cls[9]? = some hy_c9 from rfl) (by decide +kernel) (by decide) rfl (by rw [hy_t181_10]; exact ⟨_, rfl, by omega, by omega, Or.inl rfl⟩) (by decide +kernel) (by decide +kernel) ?_
    rintro g587 ⟨Hg587, Fg587, Gg587, Eg587⟩
    show AR _ _ _ _ _ _ _ 57 [(1, .int z581), (0, .ref 181)] [] g587 _ _
    have ig587 : hy_I g587 := ig585.st Gg587 (by decide) Eg587 (by decide +kernel)
    have ug587_181_8 : hy_z g587 181 8 = hy_z g585 181 8 := hy_ze (by rw [Eg587, if_neg (fun c => absurd c.2 (by decide))])
    have ug587_181_9 : hy_z g587 181 9 = hy_z g585 181 9 := hy_ze (by rw [Eg587, if_neg (fun c => absurd c.2 (by decide))])
    have ug587_181_10 : hy_z g587 181 10 = z586.toInt := hy_zi (i := z586) (by rw [Eg587, if_pos ⟨rfl, rfl⟩])
    refine AR.gotoT hk_147_57 (tgt := 226) (by decide) ?_
    have es : t_sy z581.toInt (r_B h (S + 1)) = (0, 0) := t_sy_0 (by omega)
    rw [es] at TN
    exact AR.vret hk_147_226 hr_147 ⟨rfl, Hg587, Fg587, ig587, by rw [TN]; show _ = S + 0; omega, by rw [TN, show r_tk ((0, S, S + 0) : t_K).1 = -1 from rfl]; omega, by rw [TN]; show _ = S; omega⟩
theorem lr_148 (hlst : l.stackTraces = false) (hH : hy_H 0 h) (hi : hy_I h) (hw : hy_z h 181 11 < 0) : AM ax_ns l (ax_mm 148) 0 ty_R (0) (0) [.ref 181] h (fun res g => res = .inl none ∧ hy_H 0 g ∧ ty_F 18889465931478580854784 h g ∧ hy_I g ∧ hy_z g 181 11 = hy_z h 181 9) := by
  refine AM.of (ax_mfacts (by decide +kernel : ax_has 148 = true)).2.2.2.2.2.2 hlst (by rw [hn_148]; exact Nat.le_of_ble_eq_true rfl) ?_
  show AR ax_ns l (ax_mm 148) 0 ty_R _ _ 0 [(0, .ref 181)] [] h (0) (0)
  have F : ty_F 18889465931478580854784 h h := ty_F_refl _ _
  refine AR.s (pc' := 1) (lv' := [(0, .ref 181)]) (st' := [.ref 181]) (h' := h) _ hn_148 hk_148_0 rfl ?_
  refine AR.gI hk_148_1 (by decide) hH (q := 181) (n := 32) (by decide) (by decide +kernel) (by decide +kernel) (by decide) hy_t181_11 (fun x709 dx709 lx709 ux709 => ?_)
  show AR _ _ _ _ _ _ _ 4 [(0, .ref 181)] [.int x709] h _ _
  have sx709 := hy_zi dx709
  refine AR.zge hk_148_4 (tgt := 15) (by decide) (fun p1 => ?_) (fun p2 => ?_)
  · exact absurd p1 (by omega)
  · refine AR.s (pc' := 8) (lv' := [(0, .ref 181)]) (st' := [.ref 181]) (h' := h) _ hn_148 hk_148_7 rfl ?_
    refine AR.s (pc' := 9) (lv' := [(0, .ref 181)]) (st' := [.ref 181, .ref 181]) (h' := h) _ hn_148 hk_148_8 rfl ?_
    refine AR.gI hk_148_9 (by decide) hH (q := 181) (n := 32) (by decide) (by decide +kernel) (by decide +kernel) (by decide) hy_t181_9 (fun x710 dx710 lx710 ux710 => ?_)
    show AR _ _ _ _ _ _ _ 12 [(0, .ref 181)] [.int x710, .ref 181] h _ _
    have sx710 := hy_zi dx710
    refine AR.pT hk_148_12 (by decide) hH F (q := 181) (by decide) (by decide +kernel) (show ax_cls[9]? = some hy_c9 from rfl) (by decide +kernel) (by decide) rfl (by rw [hy_t181_11]; exact ⟨_, rfl, by omega, by omega, Or.inl rfl⟩) (by decide +kernel) (by decide +kernel) ?_
    rintro g711 ⟨Hg711, Fg711, Gg711, Eg711⟩
    show AR _ _ _ _ _ _ _ 15 [(0, .ref 181)] [] g711 _ _
    have ig711 : hy_I g711 := hi.st Gg711 (by decide) Eg711 (by decide +kernel)
    have ug711_181_9 : hy_z g711 181 9 = hy_z h 181 9 := hy_ze (by rw [Eg711, if_neg (fun c => absurd c.2 (by decide))])
    have ug711_181_11 : hy_z g711 181 11 = x710.toInt := hy_zi (i := x710) (by rw [Eg711, if_pos ⟨rfl, rfl⟩])
    exact AR.vret hk_148_15 hr_148 ⟨rfl, Hg711, Fg711, ig711, by omega⟩
section LP64
variable {i d pc : Nat} {P : ax_P} {X : ax_PX} {lv : List (Nat × Value)} {st : List Value} {bc bs : Nat} {v : Value} {ws : List Nat} {w : Nat × Nat × Nat}
theorem t_bm {x : Int} (h1 : -9223372036854775808 ≤ x) (h2 : x ≤ 9223372036854775807) : x.bmod (2 ^ 64) = x := Int.bmod_eq_of_le (by omega) (by omega)
theorem AR.ldc2T {ix b c : Nat} {y : Int64} (hl : ax_look i pc = some (.ldc2_w ix, (0, b, c), .long y, ws)) (k : ∀ z : Int64, z.toInt = y.toInt → AR ax_ns l (ax_mm i) d ty_R P X (pc + 3) lv (.long z :: st) h bc bs) : AR ax_ns l (ax_mm i) d ty_R P X pc lv st h bc bs := AR.s _ rfl hl rfl (k _ rfl)
theorem AR.laddT {x y : Int64} (hl : ax_look i pc = some (.ladd, w, v, ws)) (h1 : -9223372036854775808 ≤ x.toInt + y.toInt) (h2 : x.toInt + y.toInt ≤ 9223372036854775807) (k : ∀ z : Int64, z.toInt = x.toInt + y.toInt → AR ax_ns l (ax_mm i) d ty_R P X (pc + 1) lv (.long z :: st) h bc bs) : AR ax_ns l (ax_mm i) d ty_R P X pc lv (.long y :: .long x :: st) h bc bs :=
  AR.ladd (z := .long (x + y)) (ax_look_ok hl).1 rfl (k _ (by rw [Int64.toInt_add]; exact t_bm h1 h2))
theorem AR.lsubT {x y : Int64} (hl : ax_look i pc = some (.lsub, w, v, ws)) (h1 : -9223372036854775808 ≤ x.toInt - y.toInt) (h2 : x.toInt - y.toInt ≤ 9223372036854775807) (k : ∀ z : Int64, z.toInt = x.toInt - y.toInt → AR ax_ns l (ax_mm i) d ty_R P X (pc + 1) lv (.long z :: st) h bc bs) : AR ax_ns l (ax_mm i) d ty_R P X pc lv (.long y :: .long x :: st) h bc bs :=
  AR.lsub (z := .long (x - y)) (ax_look_ok hl).1 rfl (k _ (by rw [Int64.toInt_sub]; exact t_bm h1 h2))
theorem AR.lm10T {x y : Int64} (hl : ax_look i pc = some (.lmul, w, v, ws)) (hx : x.toInt = 10) (h1 : -9223372036854775808 ≤ 10 * y.toInt) (h2 : 10 * y.toInt ≤ 9223372036854775807) (k : ∀ z : Int64, z.toInt = 10 * y.toInt → AR ax_ns l (ax_mm i) d ty_R P X (pc + 1) lv (.long z :: st) h bc bs) : AR ax_ns l (ax_mm i) d ty_R P X pc lv (.long y :: .long x :: st) h bc bs :=
  AR.lmul (z := .long (x * y)) (ax_look_ok hl).1 rfl (k _ (by rw [Int64.toInt_mul, hx]; exact t_bm h1 h2))
theorem AR.lnegT {x : Int64} (hl : ax_look i pc = some (.lneg, w, v, ws)) (h1 : -9223372036854775807 ≤ x.toInt) (k : ∀ z : Int64, z.toInt = -x.toInt → AR ax_ns l (ax_mm i) d ty_R P X (pc + 1) lv (.long z :: st) h bc bs) : AR ax_ns l (ax_mm i) d ty_R P X pc lv (.long x :: st) h bc bs :=
  AR.lneg (z := .long (-x)) (ax_look_ok hl).1 rfl (k _ (by have := Int64.toInt_lt x; rw [Int64.toInt_neg]; exact t_bm (by omega) (by omega)))
theorem AR.i2lT {x : Int32} (hl : ax_look i pc = some (.i2l, w, v, ws)) (k : ∀ z : Int64, z.toInt = x.toInt → AR ax_ns l (ax_mm i) d ty_R P X (pc + 1) lv (.long z :: st) h bc bs) : AR ax_ns l (ax_mm i) d ty_R P X pc lv (.int x :: st) h bc bs :=
  AR.i2l (z := .long x.toInt64) (ax_look_ok hl).1 rfl (k _ (Int32.toInt_toInt64 _))
end LP64
def hq_150 (h : ax_H) : ax_Q := fun res g => g = h ∧ ∃ v : Int64, res = .inl (some (.long v)) ∧ -22999977 ≤ v.toInt ∧ v.toInt ≤ 22999977
theorem lr_150s (hlst : l.stackTraces = false) {X : ax_PX} {i : Int32} {v : Int64} (hH : hy_H 0 h) (b : Int) (b2 : b ≤ 22999977) (h8 : hy_z h 181 8 ≤ 200) (i0 : 0 ≤ i.toInt) (v1 : -b ≤ v.toInt) (v2 : v.toInt ≤ b) (k : ∀ (j : Int32) (w : Int64), i.toInt < hy_z h 181 8 → j.toInt = i.toInt + 1 → -(10 * b + 207) ≤ w.toInt → w.toInt ≤ 10 * b + 207 → AR ax_ns l (ax_mm 150) 1 ty_R (ax_ret ax_ns (ax_mm 150) (hq_150 h)) X 27 [(3, .int j), (1, .long w), (0, .ref 181)] [] h 0 0) : AR ax_ns l (ax_mm 150) 1 ty_R (ax_ret ax_ns (ax_mm 150) (hq_150 h)) X 27 [(3, .int i), (1, .long v), (0, .ref 181)] [] h 0 0 := by
  show AR _ _ _ _ _ _ _ 27 [(3, .int i), (1, .long v), (0, .ref 181)] [] h _ _
  refine AR.s (pc' := 28) (lv' := [(3, .int i), (1, .long v), (0, .ref 181)]) (st' := [.int i]) (h' := h) _ hn_150 hk_150_27 rfl ?_
  refine AR.s (pc' := 29) (lv' := [(3, .int i), (1, .long v), (0, .ref 181)]) (st' := [.ref 181, .int i]) (h' := h) _ hn_150 hk_150_28 rfl ?_
  refine AR.gI hk_150_29 (by decide) hH (q := 181) (n := 32) (by decide) (by decide +kernel) (by decide +kernel) (by decide) hy_t181_8 (fun x712 dx712 lx712 ux712 => ?_)
  show AR _ _ _ _ _ _ _ 32 [(3, .int i), (1, .long v), (0, .ref 181)] [.int x712, .int i] h _ _
  have sx712 := hy_zi dx712
  refine AR.jge hk_150_32 (tgt := 59) (by decide) (fun p1 => ?_) (fun p2 => ?_)
  · refine AR.s (pc' := 60) (lv' := [(3, .int i), (1, .long v), (0, .ref 181)]) (st' := [.long v]) (h' := h) _ hn_150 hk_150_59 rfl ?_
    exact AR.lret hk_150_60 hr_150 ⟨rfl, _, rfl, by omega, by omega⟩
  · refine AR.ldc2T hk_150_35 (fun z713 ez713 => ?_)
    have ez713 : z713.toInt = 10 := ez713.trans (by decide)
    show AR _ _ _ _ _ _ _ 38 [(3, .int i), (1, .long v), (0, .ref 181)] [.long z713] h _ _
    refine AR.s (pc' := 39) (lv' := [(3, .int i), (1, .long v), (0, .ref 181)]) (st' := [.long v, .long z713]) (h' := h) _ hn_150 hk_150_38 rfl ?_
    refine AR.lm10T hk_150_39 ez713 (by omega) (by omega) (fun z714 ez714 => ?_)
    show AR _ _ _ _ _ _ _ 40 [(3, .int i), (1, .long v), (0, .ref 181)] [.long z714] h _ _
    refine AR.s (pc' := 41) (lv' := [(3, .int i), (1, .long v), (0, .ref 181)]) (st' := [.ref 181, .long z714]) (h' := h) _ hn_150 hk_150_40 rfl ?_
    refine AR.gR hk_150_41 (by decide) hH (q := 181) (n := 32) (by decide) (by decide +kernel) (by decide +kernel) (by decide) hy_t181_6 ?_
    show AR _ _ _ _ _ _ _ 44 [(3, .int i), (1, .long v), (0, .ref 181)] [.ref 185, .long z714] h _ _
    refine AR.s (pc' := 45) (lv' := [(3, .int i), (1, .long v), (0, .ref 181)]) (st' := [.int i, .ref 185, .long z714]) (h' := h) _ hn_150 hk_150_44 rfl ?_
    refine AR.iaI hk_150_45 hH (q := 185) (n := 200) (by decide) (by decide +kernel) (by decide +kernel) (by decide +kernel) hy_t185_0 (by omega) (by omega) (fun x715 dx715 lx715 ux715 => ?_)
    show AR _ _ _ _ _ _ _ 46 [(3, .int i), (1, .long v), (0, .ref 181)] [.int x715, .long z714] h _ _
    refine AR.i2lT hk_150_46 (fun z716 ez716 => ?_)
    show AR _ _ _ _ _ _ _ 47 [(3, .int i), (1, .long v), (0, .ref 181)] [.long z716, .long z714] h _ _
    refine AR.laddT hk_150_47 (by omega) (by omega) (fun z717 ez717 => ?_)
    show AR _ _ _ _ _ _ _ 48 [(3, .int i), (1, .long v), (0, .ref 181)] [.long z717] h _ _
    refine AR.ldc2T hk_150_48 (fun z718 ez718 => ?_)
    have ez718 : z718.toInt = 48 := ez718.trans (by decide)
    show AR _ _ _ _ _ _ _ 51 [(3, .int i), (1, .long v), (0, .ref 181)] [.long z718, .long z717] h _ _
    refine AR.lsubT hk_150_51 (by omega) (by omega) (fun z719 ez719 => ?_)
    show AR _ _ _ _ _ _ _ 52 [(3, .int i), (1, .long v), (0, .ref 181)] [.long z719] h _ _
    refine AR.s (pc' := 53) (lv' := [(1, .long z719), (3, .int i), (0, .ref 181)]) (st' := []) (h' := h) _ hn_150 hk_150_52 rfl ?_
    refine AR.iincT hk_150_53 (x := i) rfl (by rw [hn_150]; decide) (by decide) (by omega) (by omega) (fun z720 ez720 => ?_)
    show AR _ _ _ _ _ _ _ 56 [(3, .int z720), (1, .long z719), (0, .ref 181)] [] h _ _
    refine AR.gotoT hk_150_56 (tgt := 27) (by decide) ?_
    refine AR.lessL (lv' := [(3, .int z720), (1, .long z719), (0, .ref 181)]) (List.forall_mem_cons.mpr ⟨⟨_, by simp, ax_le_rfl rfl⟩, (List.forall_mem_cons.mpr ⟨⟨_, by simp, ax_le_rfl rfl⟩, (List.forall_mem_cons.mpr ⟨⟨_, by simp, ax_le_rfl rfl⟩, (fun _ h => absurd h List.not_mem_nil)⟩)⟩)⟩) ?_
    exact k _ _ (by omega) (by omega) (by omega) (by omega)
theorem lr_150 (hlst : l.stackTraces = false) (hH : hy_H 0 h) (h8 : hy_z h 181 8 ≤ 200) (h9 : 0 ≤ hy_z h 181 9) (h6 : hy_z h 181 8 - hy_z h 181 9 ≤ 6) : AM ax_ns l (ax_mm 150) 1 ty_R (0) (0) [.ref 181] h (hq_150 h) := by
  refine AM.of (ax_mfacts (by decide +kernel : ax_has 150 = true)).2.2.2.2.2.2 hlst (by rw [hn_150]; exact Nat.le_of_ble_eq_true rfl) ?_
  show AR ax_ns l (ax_mm 150) 1 ty_R _ _ 0 [(0, .ref 181)] [] h (0) (0)
  refine AR.s (pc' := 1) (lv' := [(0, .ref 181)]) (st' := [.ref 181]) (h' := h) _ hn_150 hk_150_0 rfl ?_
  refine AR.gI hk_150_1 (by decide) hH (q := 181) (n := 32) (by decide) (by decide +kernel) (by decide +kernel) (by decide) hy_t181_8 (fun x721 dx721 lx721 ux721 => ?_)
  show AR _ _ _ _ _ _ _ 4 [(0, .ref 181)] [.int x721] h _ _
  have sx721 := hy_zi dx721
  refine AR.s (pc' := 5) (lv' := [(0, .ref 181)]) (st' := [.ref 181, .int x721]) (h' := h) _ hn_150 hk_150_4 rfl ?_
  refine AR.gI hk_150_5 (by decide) hH (q := 181) (n := 32) (by decide) (by decide +kernel) (by decide +kernel) (by decide) hy_t181_9 (fun x722 dx722 lx722 ux722 => ?_)
  show AR _ _ _ _ _ _ _ 8 [(0, .ref 181)] [.int x722, .int x721] h _ _
  have sx722 := hy_zi dx722
  refine AR.subT hk_150_8 (by omega) (by omega) (fun z723 ez723 => ?_)
  show AR _ _ _ _ _ _ _ 9 [(0, .ref 181)] [.int z723] h _ _
  refine AR.bipushT hk_150_9 (by decide) (fun z724 ez724 => ?_)
  show AR _ _ _ _ _ _ _ 11 [(0, .ref 181)] [.int z724, .int z723] h _ _
  refine AR.jle hk_150_11 (tgt := 20) (by decide) (fun p1 => ?_) (fun p2 => ?_)
  · refine AR.lconstT hk_150_20 (fun z725 ez725 => ?_)
    show AR _ _ _ _ _ _ _ 21 [(0, .ref 181)] [.long z725] h _ _
    refine AR.s (pc' := 22) (lv' := [(1, .long z725), (0, .ref 181)]) (st' := []) (h' := h) _ hn_150 hk_150_21 rfl ?_
    refine AR.s (pc' := 23) (lv' := [(1, .long z725), (0, .ref 181)]) (st' := [.ref 181]) (h' := h) _ hn_150 hk_150_22 rfl ?_
    refine AR.gI hk_150_23 (by decide) hH (q := 181) (n := 32) (by decide) (by decide +kernel) (by decide +kernel) (by decide) hy_t181_9 (fun x726 dx726 lx726 ux726 => ?_)
    show AR _ _ _ _ _ _ _ 26 [(1, .long z725), (0, .ref 181)] [.int x726] h _ _
    have sx726 := hy_zi dx726
    refine AR.s (pc' := 27) (lv' := [(3, .int x726), (1, .long z725), (0, .ref 181)]) (st' := []) (h' := h) _ hn_150 hk_150_26 rfl ?_
    have hv : -0 ≤ z725.toInt ∧ z725.toInt ≤ 0 := by omega
    refine AR.lessL (lv' := [(3, .int x726), (1, .long z725), (0, .ref 181)]) (List.forall_mem_cons.mpr ⟨⟨_, by simp, ax_le_rfl rfl⟩, (List.forall_mem_cons.mpr ⟨⟨_, by simp, ax_le_rfl rfl⟩, (List.forall_mem_cons.mpr ⟨⟨_, by simp, ax_le_rfl rfl⟩, (fun _ h => absurd h List.not_mem_nil)⟩)⟩)⟩) ?_
    refine lr_150s hlst hH 0 (by decide) h8 (by omega) (by omega) (by omega) (fun i1 w1 q1 j1 a1 b1 => ?_)
    refine lr_150s hlst hH 207 (by decide) h8 (by omega) (by omega) (by omega) (fun i2 w2 q2 j2 a2 b2 => ?_)
    refine lr_150s hlst hH 2277 (by decide) h8 (by omega) (by omega) (by omega) (fun i3 w3 q3 j3 a3 b3 => ?_)
    refine lr_150s hlst hH 22977 (by decide) h8 (by omega) (by omega) (by omega) (fun i4 w4 q4 j4 a4 b4 => ?_)
    refine lr_150s hlst hH 229977 (by decide) h8 (by omega) (by omega) (by omega) (fun i5 w5 q5 j5 a5 b5 => ?_)
    refine lr_150s hlst hH 2299977 (by decide) h8 (by omega) (by omega) (by omega) (fun i6 w6 q6 j6 a6 b6 => ?_)
    refine lr_150s hlst hH 22999977 (by decide) h8 (by omega) (by omega) (by omega) (fun i7 w7 q7 j7 a7 b7 => ?_)
    exact absurd q7 (by omega)
  · exact absurd p2 (by omega)
def hq_150l (h : ax_H) : ax_Q := fun res g => hy_H 0 g ∧ ty_F 18889465931478580854784 h g ∧ hy_I g ∧ hy_z g 181 11 = hy_z h 181 9 ∧ ∃ v : Int64, res = .inl (some (.long v)) ∧ v.toInt = 0
theorem lr_150l (hlst : l.stackTraces = false) (hH : hy_H 0 h) (hi : hy_I h) (h8 : hy_z h 181 8 ≤ 200) (h9 : 0 ≤ hy_z h 181 9) (h6 : 6 < hy_z h 181 8 - hy_z h 181 9) (hw : hy_z h 181 11 < 0) : AM ax_ns l (ax_mm 150) 1 ty_R (0) (0) [.ref 181] h (hq_150l h) := by
  refine AM.of (ax_mfacts (by decide +kernel : ax_has 150 = true)).2.2.2.2.2.2 hlst (by rw [hn_150]; exact Nat.le_of_ble_eq_true rfl) ?_
  show AR ax_ns l (ax_mm 150) 1 ty_R _ _ 0 [(0, .ref 181)] [] h (0) (0)
  refine AR.s (pc' := 1) (lv' := [(0, .ref 181)]) (st' := [.ref 181]) (h' := h) _ hn_150 hk_150_0 rfl ?_
  refine AR.gI hk_150_1 (by decide) hH (q := 181) (n := 32) (by decide) (by decide +kernel) (by decide +kernel) (by decide) hy_t181_8 (fun x727 dx727 lx727 ux727 => ?_)
  show AR _ _ _ _ _ _ _ 4 [(0, .ref 181)] [.int x727] h _ _
  have sx727 := hy_zi dx727
  refine AR.s (pc' := 5) (lv' := [(0, .ref 181)]) (st' := [.ref 181, .int x727]) (h' := h) _ hn_150 hk_150_4 rfl ?_
  refine AR.gI hk_150_5 (by decide) hH (q := 181) (n := 32) (by decide) (by decide +kernel) (by decide +kernel) (by decide) hy_t181_9 (fun x728 dx728 lx728 ux728 => ?_)
  show AR _ _ _ _ _ _ _ 8 [(0, .ref 181)] [.int x728, .int x727] h _ _
  have sx728 := hy_zi dx728
  refine AR.subT hk_150_8 (by omega) (by omega) (fun z729 ez729 => ?_)
  show AR _ _ _ _ _ _ _ 9 [(0, .ref 181)] [.int z729] h _ _
  refine AR.bipushT hk_150_9 (by decide) (fun z730 ez730 => ?_)
  show AR _ _ _ _ _ _ _ 11 [(0, .ref 181)] [.int z730, .int z729] h _ _
  refine AR.jle hk_150_11 (tgt := 20) (by decide) (fun p1 => ?_) (fun p2 => ?_)
  · exact absurd p1 (by omega)
  · refine AR.s (pc' := 15) (lv' := [(0, .ref 181)]) (st' := [.ref 181]) (h' := h) _ hn_150 hk_150_14 rfl ?_
    refine AR.c9 (as := []) (rest := []) hk_150_15 hH (by decide +kernel) rfl rfl (Nat.le_of_ble_eq_true rfl) (lr_148 hlst hH hi hw) (by decide) (Nat.zero_le _) (Nat.zero_le _) (fun E h' q => by cases q.1) ?_
    rintro w g ⟨e, Hg, Fg, ig, eg⟩
    cases e
    show AR _ _ _ _ _ _ _ 18 [(0, .ref 181)] [] g _ _
    refine AR.lconstT hk_150_18 (fun z731 ez731 => ?_)
    show AR _ _ _ _ _ _ _ 19 [(0, .ref 181)] [.long z731] g _ _
    exact AR.lret hk_150_19 hr_150 ⟨Hg, Fg, ig, eg, _, rfl, by omega⟩
def hq_rn (B : Int → Int) (h : ax_H) (T : t_K) : ax_Q := fun res g => res = .inl none ∧ r_st B g T ∧ ty_F 1901476086875820175596040749056 h g ∧ hy_z g 181 11 = hy_z h 181 11 ∧ hy_z g 181 14 = hy_z h 181 14 ∧ hy_z g 181 15 = hy_z h 181 15 ∧ hy_z g 181 16 = hy_z h 181 16
theorem lr_nx (hlst : l.stackTraces = false) (S : r_st B h T) : AM ax_ns l (ax_mm 147) 1 ty_R 0 0 [.ref 181] h (hq_rn B h (t_ad B T)) := by
  obtain ⟨hH, hi, p1, p2, p3, eB, q⟩ := S
  obtain ⟨q1, q2, q3, q4⟩ := q
  refine AM.mono ?_ (lr_147 hlst hH hi (by omega) (by omega))
  rintro res g ⟨e, H, F, i, a1, a2, a3⟩
  have hB : ∀ p, 200 ≤ p → B p = -1 := fun p hp => by rw [← eB]; exact r_B_lt hH hp
  rw [eB, p1] at a1 a2 a3
  exact ⟨e, ⟨H, i, a1, a2, a3, (r_B_F F (by decide +kernel)).trans eB, r_ok_nx B hB (by omega) q3⟩, ty_F.sub (by decide +kernel) F, hy_zF F 11 (q := 181) (by decide) (by decide +kernel) (by decide +kernel), hy_zF F 14 (q := 181) (by decide) (by decide +kernel) (by decide +kernel), hy_zF F 15 (q := 181) (by decide) (by decide +kernel) (by decide +kernel), hy_zF F 16 (q := 181) (by decide) (by decide +kernel) (by decide +kernel)⟩
theorem t_ad_le (B : Int → Int) (hB : ∀ p, 200 ≤ p → B p = -1) {T : t_K} (q : r_ok B T) : T.2.2 ≤ (t_ad B T).2.1 := (t_nx_rg B hB q.2.2.1).1
def hq_tr (B : Int → Int) (h : ax_H) (g0 : ax_H) (T : t_K) (R : Bool × t_K) : ax_Q := fun res g => res = .inl none ∧ ty_F 1901476086875820175596040749056 h g ∧ ((R.1 = true ∧ r_st B g R.2 ∧ hy_z g 181 11 < 0 ∧ hy_z g 181 14 = hy_z g0 181 14 + 1 ∧ T.2.1 < R.2.2.1) ∨ (R.1 = false ∧ hy_H 0 g ∧ hy_I g ∧ hy_z g 181 11 = R.2.2.1 ∧ 0 ≤ R.2.2.1))
theorem lr_151d (hlst : l.stackTraces = false) {X : ax_PX} {g g0 : ax_H} {T0 : t_K} {c : Int64} {br ng : Int32} (hB : ∀ p, 200 ≤ p → B p = -1) (S : r_st B g T) (Fg : ty_F 1901476086875820175596040749056 h g) (hw : hy_z g 181 11 < 0) (hc0 : 0 ≤ hy_z g 181 14) (hc : hy_z g 181 14 ≤ T.2.1) (hc9 : hy_z g 181 14 = hy_z g0 181 14) (hT : T0.2.1 ≤ T.2.1) (c1 : -22999977 ≤ c.toInt) (c2 : c.toInt ≤ 22999977) {n1 : Int32} {w : Int64} (b0 : 0 ≤ br.toInt) (b1 : br.toInt ≤ 1) (e3 : T.1 = 3) (en : n1.toInt = hy_z g 181 14) (w1 : -22999977 ≤ w.toInt) (w2 : w.toInt ≤ 22999977) : AR ax_ns l (ax_mm 151) 2 ty_R (ax_ret ax_ns (ax_mm 151) (hq_tr B h g0 T0 (t_t3 B T))) X 97 [(4, .int br), (2, .long c), (1, .int ng), (0, .ref 181)] [.long w, .int n1, .ref 186] g 0 0 := by
  obtain ⟨Hg, if732, af732, bf732, cf732, tf732, o1f732, o2f732, o3f732, o4f732, o5f732, o6f732, o7f732, o8f732, o9f732⟩ := id S
  have kf732 := r_tk_s (T).1
  have er : t_t3 B T = (true, t_ad B T) := if_pos e3
  rw [er]
  have o5 := o6f732 (by omega) (by omega)
  have o97 := o9f732 e3
  have cn2 : hy_z g 181 14 ≤ 199 := by omega
  show AR _ _ _ _ _ _ _ 97 [(4, .int br), (2, .long c), (1, .int ng), (0, .ref 181)] [.long w, .int n1, .ref 186] g _ _
  refine AR.lsT hk_151_97 Hg Fg (q := 186) (n := 200) (by decide) (by decide +kernel) (by decide +kernel) (by decide +kernel) hy_t186_0 (by omega) (by omega) (by omega) (by omega) (by decide +kernel) ?_
  rintro g733 ⟨Hg733, Fg733, Gg733, Eg733⟩
  show AR _ _ _ _ _ _ _ 98 [(4, .int br), (2, .long c), (1, .int ng), (0, .ref 181)] [] g733 _ _
  have ig733 : hy_I g733 := if732.st Gg733 (by decide) Eg733 (by unfold ty_ky; rw [show ty_ar 186 = true from by decide +kernel]; show ty_IK.testBit ((ty_tab 186).2.2.1 - 1 + 0) = false; decide +kernel)
  have ug733_181_8 : hy_z g733 181 8 = hy_z g 181 8 := hy_ze (by rw [Eg733, if_neg (fun c => absurd c.1 (by decide))])
  have ug733_181_9 : hy_z g733 181 9 = hy_z g 181 9 := hy_ze (by rw [Eg733, if_neg (fun c => absurd c.1 (by decide))])
  have ug733_181_10 : hy_z g733 181 10 = hy_z g 181 10 := hy_ze (by rw [Eg733, if_neg (fun c => absurd c.1 (by decide))])
  have ug733_181_11 : hy_z g733 181 11 = hy_z g 181 11 := hy_ze (by rw [Eg733, if_neg (fun c => absurd c.1 (by decide))])
  have ug733_181_14 : hy_z g733 181 14 = hy_z g 181 14 := hy_ze (by rw [Eg733, if_neg (fun c => absurd c.1 (by decide))])
  refine AR.s (pc' := 99) (lv' := [(4, .int br), (2, .long c), (1, .int ng), (0, .ref 181)]) (st' := [.ref 181]) (h' := g733) _ hn_151 hk_151_98 rfl ?_
  refine AR.gR hk_151_99 (by decide) Hg733 (q := 181) (n := 32) (by decide) (by decide +kernel) (by decide +kernel) (by decide) hy_t181_13 ?_
  show AR _ _ _ _ _ _ _ 102 [(4, .int br), (2, .long c), (1, .int ng), (0, .ref 181)] [.ref 187] g733 _ _
  refine AR.s (pc' := 103) (lv' := [(4, .int br), (2, .long c), (1, .int ng), (0, .ref 181)]) (st' := [.ref 181, .ref 187]) (h' := g733) _ hn_151 hk_151_102 rfl ?_
  refine AR.gI hk_151_103 (by decide) Hg733 (q := 181) (n := 32) (by decide) (by decide +kernel) (by decide +kernel) (by decide) hy_t181_14 (fun x734 dx734 lx734 ux734 => ?_)
  show AR _ _ _ _ _ _ _ 106 [(4, .int br), (2, .long c), (1, .int ng), (0, .ref 181)] [.int x734, .ref 187] g733 _ _
  have sx734 := hy_zi dx734
  refine AR.iconstT hk_151_106 (by decide) (fun z735 ez735 => ?_)
  show AR _ _ _ _ _ _ _ 107 [(4, .int br), (2, .long c), (1, .int ng), (0, .ref 181)] [.int z735, .int x734, .ref 187] g733 _ _
  refine AR.s (pc' := 108) (lv' := [(4, .int br), (2, .long c), (1, .int ng), (0, .ref 181)]) (st' := [.ref 181, .int z735, .int x734, .ref 187]) (h' := g733) _ hn_151 hk_151_107 rfl ?_
  refine AR.gR hk_151_108 (by decide) Hg733 (q := 181) (n := 32) (by decide) (by decide +kernel) (by decide +kernel) (by decide) hy_t181_6 ?_
  show AR _ _ _ _ _ _ _ 111 [(4, .int br), (2, .long c), (1, .int ng), (0, .ref 181)] [.ref 185, .int z735, .int x734, .ref 187] g733 _ _
  refine AR.s (pc' := 112) (lv' := [(4, .int br), (2, .long c), (1, .int ng), (0, .ref 181)]) (st' := [.ref 181, .ref 185, .int z735, .int x734, .ref 187]) (h' := g733) _ hn_151 hk_151_111 rfl ?_
  refine AR.gI hk_151_112 (by decide) Hg733 (q := 181) (n := 32) (by decide) (by decide +kernel) (by decide +kernel) (by decide) hy_t181_9 (fun x736 dx736 lx736 ux736 => ?_)
  show AR _ _ _ _ _ _ _ 115 [(4, .int br), (2, .long c), (1, .int ng), (0, .ref 181)] [.int x736, .ref 185, .int z735, .int x734, .ref 187] g733 _ _
  have sx736 := hy_zi dx736
  refine AR.iaI hk_151_115 Hg733 (q := 185) (n := 200) (by decide) (by decide +kernel) (by decide +kernel) (by decide +kernel) hy_t185_0 (by omega) (by omega) (fun x737 dx737 lx737 ux737 => ?_)
  show AR _ _ _ _ _ _ _ 116 [(4, .int br), (2, .long c), (1, .int ng), (0, .ref 181)] [.int x737, .int z735, .int x734, .ref 187] g733 _ _
  have eb : x737.toInt = B T.2.1 := by
    have e1 : r_B g733 = B := (r_B_F Gg733 (by decide +kernel)).trans tf732
    have e2 : 0 ≤ r_B g733 T.2.1 := by rw [e1]; omega
    rw [← e1, r_B_at e2]
    have xk : x736.toNatClampNeg = x736.toInt.toNat := rfl
    rw [xk, show x736.toInt = T.2.1 from by omega] at dx737
    exact (hy_zi dx737).symm
  show AR _ _ _ _ _ _ _ 116 [(4, .int br), (2, .long c), (1, .int ng), (0, .ref 181)] [.int x737, .int z735, .int x734, .ref 187] g733 _ _
  refine AR.bipushT hk_151_116 (by decide) (fun z738 ez738 => ?_)
  show AR _ _ _ _ _ _ _ 118 [(4, .int br), (2, .long c), (1, .int ng), (0, .ref 181)] [.int z738, .int x737, .int z735, .int x734, .ref 187] g733 _ _
  refine AR.subT hk_151_118 (by omega) (by omega) (fun z739 ez739 => ?_)
  show AR _ _ _ _ _ _ _ 119 [(4, .int br), (2, .long c), (1, .int ng), (0, .ref 181)] [.int z739, .int z735, .int x734, .ref 187] g733 _ _
  refine AR.mulcT hk_151_119 ez735 (by omega) (by omega) (fun z740 ez740 => ?_)
  show AR _ _ _ _ _ _ _ 120 [(4, .int br), (2, .long c), (1, .int ng), (0, .ref 181)] [.int z740, .int x734, .ref 187] g733 _ _
  refine AR.s (pc' := 122) (lv' := [(4, .int br), (2, .long c), (1, .int ng), (0, .ref 181)]) (st' := [.int br, .int z740, .int x734, .ref 187]) (h' := g733) _ hn_151 hk_151_120 rfl ?_
  refine AR.addT hk_151_122 (by omega) (by omega) (fun z741 ez741 => ?_)
  show AR _ _ _ _ _ _ _ 123 [(4, .int br), (2, .long c), (1, .int ng), (0, .ref 181)] [.int z741, .int x734, .ref 187] g733 _ _
  refine AR.isT hk_151_123 Hg733 Fg733 (q := 187) (n := 200) (by decide) (by decide +kernel) (by decide +kernel) (by decide +kernel) hy_t187_0 (by omega) (by omega) (by omega) (by omega) (by decide +kernel) ?_
  rintro g742 ⟨Hg742, Fg742, Gg742, Eg742⟩
  show AR _ _ _ _ _ _ _ 124 [(4, .int br), (2, .long c), (1, .int ng), (0, .ref 181)] [] g742 _ _
  have ig742 : hy_I g742 := ig733.st Gg742 (by decide) Eg742 (by unfold ty_ky; rw [show ty_ar 187 = true from by decide +kernel]; show ty_IK.testBit ((ty_tab 187).2.2.1 - 1 + 0) = false; decide +kernel)
  have ug742_181_8 : hy_z g742 181 8 = hy_z g733 181 8 := hy_ze (by rw [Eg742, if_neg (fun c => absurd c.1 (by decide))])
  have ug742_181_9 : hy_z g742 181 9 = hy_z g733 181 9 := hy_ze (by rw [Eg742, if_neg (fun c => absurd c.1 (by decide))])
  have ug742_181_10 : hy_z g742 181 10 = hy_z g733 181 10 := hy_ze (by rw [Eg742, if_neg (fun c => absurd c.1 (by decide))])
  have ug742_181_11 : hy_z g742 181 11 = hy_z g733 181 11 := hy_ze (by rw [Eg742, if_neg (fun c => absurd c.1 (by decide))])
  have ug742_181_14 : hy_z g742 181 14 = hy_z g733 181 14 := hy_ze (by rw [Eg742, if_neg (fun c => absurd c.1 (by decide))])
  refine AR.s (pc' := 125) (lv' := [(4, .int br), (2, .long c), (1, .int ng), (0, .ref 181)]) (st' := [.ref 181]) (h' := g742) _ hn_151 hk_151_124 rfl ?_
  refine AR.s (pc' := 126) (lv' := [(4, .int br), (2, .long c), (1, .int ng), (0, .ref 181)]) (st' := [.ref 181, .ref 181]) (h' := g742) _ hn_151 hk_151_125 rfl ?_
  refine AR.gI hk_151_126 (by decide) Hg742 (q := 181) (n := 32) (by decide) (by decide +kernel) (by decide +kernel) (by decide) hy_t181_14 (fun x743 dx743 lx743 ux743 => ?_)
  show AR _ _ _ _ _ _ _ 129 [(4, .int br), (2, .long c), (1, .int ng), (0, .ref 181)] [.int x743, .ref 181] g742 _ _
  have sx743 := hy_zi dx743
  refine AR.iconstT hk_151_129 (by decide) (fun z744 ez744 => ?_)
  show AR _ _ _ _ _ _ _ 130 [(4, .int br), (2, .long c), (1, .int ng), (0, .ref 181)] [.int z744, .int x743, .ref 181] g742 _ _
  refine AR.addT hk_151_130 (by omega) (by omega) (fun z745 ez745 => ?_)
  show AR _ _ _ _ _ _ _ 131 [(4, .int br), (2, .long c), (1, .int ng), (0, .ref 181)] [.int z745, .ref 181] g742 _ _
  refine AR.pT hk_151_131 (by decide) Hg742 Fg742 (q := 181) (by decide) (by decide +kernel) (show ax_cls[9]? = some hy_c9 from rfl) (by decide +kernel) (by decide) rfl (by rw [hy_t181_14]; exact ⟨_, rfl, by omega, by omega, Or.inl rfl⟩) (by decide +kernel) (by decide +kernel) ?_
  rintro g746 ⟨Hg746, Fg746, Gg746, Eg746⟩
  show AR _ _ _ _ _ _ _ 134 [(4, .int br), (2, .long c), (1, .int ng), (0, .ref 181)] [] g746 _ _
  have ig746 : hy_I g746 := ig742.st Gg746 (by decide) Eg746 (by decide +kernel)
  have ug746_181_8 : hy_z g746 181 8 = hy_z g742 181 8 := hy_ze (by rw [Eg746, if_neg (fun c => absurd c.2 (by decide))])
  have ug746_181_9 : hy_z g746 181 9 = hy_z g742 181 9 := hy_ze (by rw [Eg746, if_neg (fun c => absurd c.2 (by decide))])
  have ug746_181_10 : hy_z g746 181 10 = hy_z g742 181 10 := hy_ze (by rw [Eg746, if_neg (fun c => absurd c.2 (by decide))])
  have ug746_181_11 : hy_z g746 181 11 = hy_z g742 181 11 := hy_ze (by rw [Eg746, if_neg (fun c => absurd c.2 (by decide))])
  have ug746_181_14 : hy_z g746 181 14 = z745.toInt := hy_zi (i := z745) (by rw [Eg746, if_pos ⟨rfl, rfl⟩])
  refine AR.s (pc' := 135) (lv' := [(4, .int br), (2, .long c), (1, .int ng), (0, .ref 181)]) (st' := [.ref 181]) (h' := g746) _ hn_151 hk_151_134 rfl ?_
  have S2 : r_st B g746 T := ⟨Hg746, ig746, by omega, by omega, by omega, (r_B_F Fg746 (by decide +kernel)).trans ((r_B_F Fg (by decide +kernel)).symm.trans tf732), S.2.2.2.2.2.2⟩
  refine AR.c9 (as := []) (rest := []) hk_151_135 Hg746 (by decide +kernel) rfl rfl (Nat.le_of_ble_eq_true rfl) (lr_nx hlst S2) (by decide) (Nat.zero_le _) (Nat.zero_le _) (fun E h' q => by cases q.1) ?_
  rintro w748 g747 ⟨eg747, Sg747, Tg747, x1g747, x2g747, x3g747, x4g747⟩
  cases eg747
  have yg747 := t_ad_le _ hB S2.2.2.2.2.2.2
  have Fg747 := ty_F.trans Fg746 (ty_F.sub (by decide +kernel) Tg747)
  show AR _ _ _ _ _ _ _ 138 [(4, .int br), (2, .long c), (1, .int ng), (0, .ref 181)] [] g747 _ _
  obtain ⟨Hg747, if749, af749, bf749, cf749, tf749, o1f749, o2f749, o3f749, o4f749, o5f749, o6f749, o7f749, o8f749, o9f749⟩ := id Sg747
  have kf749 := r_tk_s (t_ad B (T)).1
  exact AR.vret hk_151_138 hr_151 ⟨rfl, Fg747, Or.inl ⟨rfl, Sg747, by omega, by omega, (show T0.2.1 < (t_ad B T).2.1 from by omega)⟩⟩
theorem lr_151c (hlst : l.stackTraces = false) {X : ax_PX} {g g0 : ax_H} {T0 : t_K} {c : Int64} {br ng : Int32} (hB : ∀ p, 200 ≤ p → B p = -1) (S : r_st B g T) (Fg : ty_F 1901476086875820175596040749056 h g) (hw : hy_z g 181 11 < 0) (hc0 : 0 ≤ hy_z g 181 14) (hc : hy_z g 181 14 ≤ T.2.1) (hc9 : hy_z g 181 14 = hy_z g0 181 14) (hT : T0.2.1 ≤ T.2.1) (c1 : -22999977 ≤ c.toInt) (c2 : c.toInt ≤ 22999977) (b0 : 0 ≤ br.toInt) (b1 : br.toInt ≤ 1) : AR ax_ns l (ax_mm 151) 2 ty_R (ax_ret ax_ns (ax_mm 151) (hq_tr B h g0 T0 (t_t3 B T))) X 52 [(4, .int br), (2, .long c), (1, .int ng), (0, .ref 181)] [] g 0 0 := by
  obtain ⟨Hg, if750, af750, bf750, cf750, tf750, o1f750, o2f750, o3f750, o4f750, o5f750, o6f750, o7f750, o8f750, o9f750⟩ := id S
  have kf750 := r_tk_s (T).1
  show AR _ _ _ _ _ _ _ 52 [(4, .int br), (2, .long c), (1, .int ng), (0, .ref 181)] [] g _ _
  refine AR.s (pc' := 53) (lv' := [(4, .int br), (2, .long c), (1, .int ng), (0, .ref 181)]) (st' := [.ref 181]) (h' := g) _ hn_151 hk_151_52 rfl ?_
  refine AR.c9 (as := []) (rest := []) hk_151_53 Hg (by decide +kernel) rfl rfl (Nat.le_of_ble_eq_true rfl) (lr_149 hlst Hg) (by decide) (Nat.zero_le _) (Nat.zero_le _) (fun E h' q => by obtain ⟨-, x, e, -⟩ := q; cases e) ?_
  rintro w752 g751 ⟨eg751, z753, e, Az753⟩
  cases e
  obtain rfl := eg751.symm
  have Bz753 : z753.toInt = 1 := by rcases Az753 with ⟨e, c⟩ | ⟨e, c⟩ <;> omega
  show AR _ _ _ _ _ _ _ 56 [(4, .int br), (2, .long c), (1, .int ng), (0, .ref 181)] [.int z753] g _ _
  refine AR.zeq hk_151_56 (tgt := 71) (by decide) (fun p1 => ?_) (fun p2 => ?_)
  · exact absurd Bz753 (by omega)
  · refine AR.s (pc' := 60) (lv' := [(4, .int br), (2, .long c), (1, .int ng), (0, .ref 181)]) (st' := [.ref 181]) (h' := g) _ hn_151 hk_151_59 rfl ?_
    refine AR.gI hk_151_60 (by decide) Hg (q := 181) (n := 32) (by decide) (by decide +kernel) (by decide +kernel) (by decide) hy_t181_10 (fun x754 dx754 lx754 ux754 => ?_)
    show AR _ _ _ _ _ _ _ 63 [(4, .int br), (2, .long c), (1, .int ng), (0, .ref 181)] [.int x754] g _ _
    have sx754 := hy_zi dx754
    refine AR.iconstT hk_151_63 (by decide) (fun z755 ez755 => ?_)
    show AR _ _ _ _ _ _ _ 64 [(4, .int br), (2, .long c), (1, .int ng), (0, .ref 181)] [.int z755, .int x754] g _ _
    refine AR.jeq hk_151_64 (tgt := 71) (by decide) (fun q1 => ?_) (fun q2 => ?_)
    · have e3 : T.1 = 3 := by omega
      refine AR.s (pc' := 72) (lv' := [(4, .int br), (2, .long c), (1, .int ng), (0, .ref 181)]) (st' := [.ref 181]) (h' := g) _ hn_151 hk_151_71 rfl ?_
      refine AR.c9 (as := []) (rest := []) hk_151_72 Hg (by decide +kernel) rfl rfl (Nat.le_of_ble_eq_true rfl) (lr_149 hlst Hg) (by decide) (Nat.zero_le _) (Nat.zero_le _) (fun E h' q => by obtain ⟨-, x, e, -⟩ := q; cases e) ?_
      rintro w762 g761 ⟨eg761, z763, e, Az763⟩
      cases e
      obtain rfl := eg761.symm
      have Bz763 : z763.toInt = 1 := by rcases Az763 with ⟨e, c⟩ | ⟨e, c⟩ <;> omega
      show AR _ _ _ _ _ _ _ 75 [(4, .int br), (2, .long c), (1, .int ng), (0, .ref 181)] [.int z763] g _ _
      refine AR.zne hk_151_75 (tgt := 79) (by decide) (fun r3 => ?_) (fun r4 => ?_)
      · refine AR.s (pc' := 80) (lv' := [(4, .int br), (2, .long c), (1, .int ng), (0, .ref 181)]) (st' := [.ref 181]) (h' := g) _ hn_151 hk_151_79 rfl ?_
        refine AR.gR hk_151_80 (by decide) Hg (q := 181) (n := 32) (by decide) (by decide +kernel) (by decide +kernel) (by decide) hy_t181_12 ?_
        show AR _ _ _ _ _ _ _ 83 [(4, .int br), (2, .long c), (1, .int ng), (0, .ref 181)] [.ref 186] g _ _
        refine AR.s (pc' := 84) (lv' := [(4, .int br), (2, .long c), (1, .int ng), (0, .ref 181)]) (st' := [.ref 181, .ref 186]) (h' := g) _ hn_151 hk_151_83 rfl ?_
        refine AR.gI hk_151_84 (by decide) Hg (q := 181) (n := 32) (by decide) (by decide +kernel) (by decide +kernel) (by decide) hy_t181_14 (fun x764 dx764 lx764 ux764 => ?_)
        show AR _ _ _ _ _ _ _ 87 [(4, .int br), (2, .long c), (1, .int ng), (0, .ref 181)] [.int x764, .ref 186] g _ _
        have sx764 := hy_zi dx764
        refine AR.s (pc' := 88) (lv' := [(4, .int br), (2, .long c), (1, .int ng), (0, .ref 181)]) (st' := [.int ng, .int x764, .ref 186]) (h' := g) _ hn_151 hk_151_87 rfl ?_
        refine AR.zeq hk_151_88 (tgt := 96) (by decide) (fun v1 => ?_) (fun v2 => ?_)
        · refine AR.s (pc' := 97) (lv' := [(4, .int br), (2, .long c), (1, .int ng), (0, .ref 181)]) (st' := [.long c, .int x764, .ref 186]) (h' := g) _ hn_151 hk_151_96 rfl ?_
          refine AR.lessL (lv' := [(4, .int br), (2, .long c), (1, .int ng), (0, .ref 181)]) (List.forall_mem_cons.mpr ⟨⟨_, by simp, ax_le_rfl rfl⟩, (List.forall_mem_cons.mpr ⟨⟨_, by simp, ax_le_rfl rfl⟩, (List.forall_mem_cons.mpr ⟨⟨_, by simp, ax_le_rfl rfl⟩, (List.forall_mem_cons.mpr ⟨⟨_, by simp, ax_le_rfl rfl⟩, (fun _ h => absurd h List.not_mem_nil)⟩)⟩)⟩)⟩) ?_
          exact lr_151d hlst hB S Fg hw hc0 hc hc9 hT c1 c2 b0 b1 e3 (by omega) (by omega) (by omega)
        · refine AR.s (pc' := 92) (lv' := [(4, .int br), (2, .long c), (1, .int ng), (0, .ref 181)]) (st' := [.long c, .int x764, .ref 186]) (h' := g) _ hn_151 hk_151_91 rfl ?_
          refine AR.lnegT hk_151_92 (by omega) (fun z765 ez765 => ?_)
          show AR _ _ _ _ _ _ _ 93 [(4, .int br), (2, .long c), (1, .int ng), (0, .ref 181)] [.long z765, .int x764, .ref 186] g _ _
          refine AR.gotoT hk_151_93 (tgt := 97) (by decide) ?_
          refine AR.lessL (lv' := [(4, .int br), (2, .long c), (1, .int ng), (0, .ref 181)]) (List.forall_mem_cons.mpr ⟨⟨_, by simp, ax_le_rfl rfl⟩, (List.forall_mem_cons.mpr ⟨⟨_, by simp, ax_le_rfl rfl⟩, (List.forall_mem_cons.mpr ⟨⟨_, by simp, ax_le_rfl rfl⟩, (List.forall_mem_cons.mpr ⟨⟨_, by simp, ax_le_rfl rfl⟩, (fun _ h => absurd h List.not_mem_nil)⟩)⟩)⟩)⟩) ?_
          exact lr_151d hlst hB S Fg hw hc0 hc hc9 hT c1 c2 b0 b1 e3 (by omega) (by omega) (by omega)
      · exact absurd Bz763 (by omega)
    · have er : t_t3 B T = (false, T) := if_neg (by omega)
      rw [er]
      show AR _ _ _ _ _ _ _ 67 [(4, .int br), (2, .long c), (1, .int ng), (0, .ref 181)] [] g _ _
      refine AR.s (pc' := 68) (lv' := [(4, .int br), (2, .long c), (1, .int ng), (0, .ref 181)]) (st' := [.ref 181]) (h' := g) _ hn_151 hk_151_67 rfl ?_
      refine AR.c9 (as := []) (rest := []) hk_151_68 Hg (by decide +kernel) rfl rfl (Nat.le_of_ble_eq_true rfl) (lr_148 hlst Hg if750 (by omega)) (by decide) (Nat.zero_le _) (Nat.zero_le _) (fun E h' q => by cases q.1) ?_
      rintro w757 g756 ⟨eg756, Hg756, Tg756, ig756, mg756⟩
      cases eg756
      have Fg756 := ty_F.trans Fg (ty_F.sub (by decide +kernel) Tg756)
      show AR _ _ _ _ _ _ _ 71 [(4, .int br), (2, .long c), (1, .int ng), (0, .ref 181)] [] g756 _ _
      have me : hy_z g756 181 11 = T.2.1 := by omega
      refine AR.s (pc' := 72) (lv' := [(4, .int br), (2, .long c), (1, .int ng), (0, .ref 181)]) (st' := [.ref 181]) (h' := g756) _ hn_151 hk_151_71 rfl ?_
      refine AR.c9 (as := []) (rest := []) hk_151_72 Hg756 (by decide +kernel) rfl rfl (Nat.le_of_ble_eq_true rfl) (lr_149 hlst Hg756) (by decide) (Nat.zero_le _) (Nat.zero_le _) (fun E h' q => by obtain ⟨-, x, e, -⟩ := q; cases e) ?_
      rintro w759 g758 ⟨eg758, z760, e, Az760⟩
      cases e
      obtain rfl := eg758.symm
      have Bz760 : z760.toInt = 0 := by rcases Az760 with ⟨e, c⟩ | ⟨e, c⟩ <;> omega
      show AR _ _ _ _ _ _ _ 75 [(4, .int br), (2, .long c), (1, .int ng), (0, .ref 181)] [.int z760] g756 _ _
      refine AR.zne hk_151_75 (tgt := 79) (by decide) (fun r1 => ?_) (fun r2 => ?_)
      · exact absurd Bz760 (by omega)
      · exact AR.vret hk_151_78 hr_151 ⟨rfl, Fg756, Or.inr ⟨rfl, Hg756, ig756, me, o1f750⟩⟩
theorem lr_151b (hlst : l.stackTraces = false) {X : ax_PX} {g g0 : ax_H} {T0 : t_K} {c : Int64} {ng : Int32} (hB : ∀ p, 200 ≤ p → B p = -1) (S : r_st B g T) (Fg : ty_F 1901476086875820175596040749056 h g) (hw : hy_z g 181 11 < 0) (hc0 : 0 ≤ hy_z g 181 14) (hc : hy_z g 181 14 ≤ T.2.1) (hc9 : hy_z g 181 14 = hy_z g0 181 14) (hT : T0.2.1 ≤ T.2.1) (c1 : -22999977 ≤ c.toInt) (c2 : c.toInt ≤ 22999977) : AR ax_ns l (ax_mm 151) 2 ty_R (ax_ret ax_ns (ax_mm 151) (hq_tr B h g0 T0 (t_t3 B (t_t2 B T)))) X 26 [(2, .long c), (1, .int ng), (0, .ref 181)] [] g 0 0 := by
  obtain ⟨Hg, if766, af766, bf766, cf766, tf766, o1f766, o2f766, o3f766, o4f766, o5f766, o6f766, o7f766, o8f766, o9f766⟩ := id S
  have kf766 := r_tk_s (T).1
  show AR _ _ _ _ _ _ _ 26 [(2, .long c), (1, .int ng), (0, .ref 181)] [] g _ _
  refine AR.iconstT hk_151_26 (by decide) (fun z767 ez767 => ?_)
  show AR _ _ _ _ _ _ _ 27 [(2, .long c), (1, .int ng), (0, .ref 181)] [.int z767] g _ _
  refine AR.s (pc' := 29) (lv' := [(4, .int z767), (2, .long c), (1, .int ng), (0, .ref 181)]) (st' := []) (h' := g) _ hn_151 hk_151_27 rfl ?_
  refine AR.s (pc' := 30) (lv' := [(4, .int z767), (2, .long c), (1, .int ng), (0, .ref 181)]) (st' := [.ref 181]) (h' := g) _ hn_151 hk_151_29 rfl ?_
  refine AR.c9 (as := []) (rest := []) hk_151_30 Hg (by decide +kernel) rfl rfl (Nat.le_of_ble_eq_true rfl) (lr_149 hlst Hg) (by decide) (Nat.zero_le _) (Nat.zero_le _) (fun E h' q => by obtain ⟨-, x, e, -⟩ := q; cases e) ?_
  rintro w769 g768 ⟨eg768, z770, e, Az770⟩
  cases e
  obtain rfl := eg768.symm
  have Bz770 : z770.toInt = 1 := by rcases Az770 with ⟨e, c⟩ | ⟨e, c⟩ <;> omega
  show AR _ _ _ _ _ _ _ 33 [(4, .int z767), (2, .long c), (1, .int ng), (0, .ref 181)] [.int z770] g _ _
  refine AR.zeq hk_151_33 (tgt := 52) (by decide) (fun p1 => ?_) (fun p2 => ?_)
  · exact absurd Bz770 (by omega)
  · refine AR.s (pc' := 37) (lv' := [(4, .int z767), (2, .long c), (1, .int ng), (0, .ref 181)]) (st' := [.ref 181]) (h' := g) _ hn_151 hk_151_36 rfl ?_
    refine AR.gI hk_151_37 (by decide) Hg (q := 181) (n := 32) (by decide) (by decide +kernel) (by decide +kernel) (by decide) hy_t181_10 (fun x771 dx771 lx771 ux771 => ?_)
    show AR _ _ _ _ _ _ _ 40 [(4, .int z767), (2, .long c), (1, .int ng), (0, .ref 181)] [.int x771] g _ _
    have sx771 := hy_zi dx771
    refine AR.bipushT hk_151_40 (by decide) (fun z772 ez772 => ?_)
    show AR _ _ _ _ _ _ _ 42 [(4, .int z767), (2, .long c), (1, .int ng), (0, .ref 181)] [.int z772, .int x771] g _ _
    refine AR.jne hk_151_42 (tgt := 52) (by decide) (fun q1 => ?_) (fun q2 => ?_)
    · have er : t_t2 B T = T := if_neg (by omega)
      rw [er]
      refine AR.lessL (lv' := [(4, .int z767), (2, .long c), (1, .int ng), (0, .ref 181)]) (List.forall_mem_cons.mpr ⟨⟨_, by simp, ax_le_rfl rfl⟩, (List.forall_mem_cons.mpr ⟨⟨_, by simp, ax_le_rfl rfl⟩, (List.forall_mem_cons.mpr ⟨⟨_, by simp, ax_le_rfl rfl⟩, (List.forall_mem_cons.mpr ⟨⟨_, by simp, ax_le_rfl rfl⟩, (fun _ h => absurd h List.not_mem_nil)⟩)⟩)⟩)⟩) ?_
      exact lr_151c hlst hB S Fg hw hc0 hc hc9 hT c1 c2 (by omega) (by omega)
    · have er : t_t2 B T = t_ad B T := if_pos (by omega)
      rw [er]
      show AR _ _ _ _ _ _ _ 45 [(4, .int z767), (2, .long c), (1, .int ng), (0, .ref 181)] [] g _ _
      refine AR.iconstT hk_151_45 (by decide) (fun z773 ez773 => ?_)
      show AR _ _ _ _ _ _ _ 46 [(4, .int z767), (2, .long c), (1, .int ng), (0, .ref 181)] [.int z773] g _ _
      refine AR.s (pc' := 48) (lv' := [(4, .int z773), (2, .long c), (1, .int ng), (0, .ref 181)]) (st' := []) (h' := g) _ hn_151 hk_151_46 rfl ?_
      refine AR.s (pc' := 49) (lv' := [(4, .int z773), (2, .long c), (1, .int ng), (0, .ref 181)]) (st' := [.ref 181]) (h' := g) _ hn_151 hk_151_48 rfl ?_
      refine AR.c9 (as := []) (rest := []) hk_151_49 Hg (by decide +kernel) rfl rfl (Nat.le_of_ble_eq_true rfl) (lr_nx hlst S) (by decide) (Nat.zero_le _) (Nat.zero_le _) (fun E h' q => by cases q.1) ?_
      rintro w775 g774 ⟨eg774, Sg774, Tg774, x1g774, x2g774, x3g774, x4g774⟩
      cases eg774
      have yg774 := t_ad_le _ hB S.2.2.2.2.2.2
      have Fg774 := ty_F.trans Fg (ty_F.sub (by decide +kernel) Tg774)
      show AR _ _ _ _ _ _ _ 52 [(4, .int z773), (2, .long c), (1, .int ng), (0, .ref 181)] [] g774 _ _
      obtain ⟨Hg774, if776, af776, bf776, cf776, tf776, o1f776, o2f776, o3f776, o4f776, o5f776, o6f776, o7f776, o8f776, o9f776⟩ := id Sg774
      have kf776 := r_tk_s (t_ad B (T)).1
      refine AR.lessL (lv' := [(4, .int z773), (2, .long c), (1, .int ng), (0, .ref 181)]) (List.forall_mem_cons.mpr ⟨⟨_, by simp, ax_le_rfl rfl⟩, (List.forall_mem_cons.mpr ⟨⟨_, by simp, ax_le_rfl rfl⟩, (List.forall_mem_cons.mpr ⟨⟨_, by simp, ax_le_rfl rfl⟩, (List.forall_mem_cons.mpr ⟨⟨_, by simp, ax_le_rfl rfl⟩, (fun _ h => absurd h List.not_mem_nil)⟩)⟩)⟩)⟩) ?_
      exact lr_151c hlst hB Sg774 Fg774 (by omega) (by omega) (by omega) (by omega) (by omega) c1 c2 (by omega) (by omega)
theorem lr_151 (hlst : l.stackTraces = false) {ng : Int32} (hB : ∀ p, 200 ≤ p → B p = -1) (S : r_st B h T) (hw : hy_z h 181 11 < 0) (hc0 : 0 ≤ hy_z h 181 14) (hc : hy_z h 181 14 ≤ T.2.1) : AM ax_ns l (ax_mm 151) 2 ty_R (0) (0) [.ref 181, .int ng] h (hq_tr B h h T (t_tm B T)) := by
  refine AM.of (ax_mfacts (by decide +kernel : ax_has 151 = true)).2.2.2.2.2.2 hlst (by rw [hn_151]; exact Nat.le_of_ble_eq_true rfl) ?_
  show AR ax_ns l (ax_mm 151) 2 ty_R _ _ 0 [(0, .ref 181), (1, .int ng)] [] h (0) (0)
  have F : ty_F 1901476086875820175596040749056 h h := ty_F_refl _ _
  obtain ⟨hH, if777, af777, bf777, cf777, tf777, o1f777, o2f777, o3f777, o4f777, o5f777, o6f777, o7f777, o8f777, o9f777⟩ := id S
  have kf777 := r_tk_s (T).1
  have F := F
  unfold t_tm
  show AR _ _ _ _ _ _ _ 0 [(0, .ref 181), (1, .int ng)] [] h _ _
  refine AR.lconstT hk_151_0 (fun z778 ez778 => ?_)
  show AR _ _ _ _ _ _ _ 1 [(0, .ref 181), (1, .int ng)] [.long z778] h _ _
  refine AR.s (pc' := 2) (lv' := [(2, .long z778), (0, .ref 181), (1, .int ng)]) (st' := []) (h' := h) _ hn_151 hk_151_1 rfl ?_
  refine AR.s (pc' := 3) (lv' := [(2, .long z778), (0, .ref 181), (1, .int ng)]) (st' := [.ref 181]) (h' := h) _ hn_151 hk_151_2 rfl ?_
  refine AR.gI hk_151_3 (by decide) hH (q := 181) (n := 32) (by decide) (by decide +kernel) (by decide +kernel) (by decide) hy_t181_10 (fun x779 dx779 lx779 ux779 => ?_)
  show AR _ _ _ _ _ _ _ 6 [(2, .long z778), (0, .ref 181), (1, .int ng)] [.int x779] h _ _
  have sx779 := hy_zi dx779
  refine AR.iconstT hk_151_6 (by decide) (fun z780 ez780 => ?_)
  show AR _ _ _ _ _ _ _ 7 [(2, .long z778), (0, .ref 181), (1, .int ng)] [.int z780, .int x779] h _ _
  refine AR.jne hk_151_7 (tgt := 26) (by decide) (fun p1 => ?_) (fun p2 => ?_)
  · have er : t_t1 B T = T := if_neg (by omega)
    rw [er]
    refine AR.lessL (lv' := [(2, .long z778), (1, .int ng), (0, .ref 181)]) (List.forall_mem_cons.mpr ⟨⟨_, by simp, ax_le_rfl rfl⟩, (List.forall_mem_cons.mpr ⟨⟨_, by simp, ax_le_rfl rfl⟩, (List.forall_mem_cons.mpr ⟨⟨_, by simp, ax_le_rfl rfl⟩, (fun _ h => absurd h List.not_mem_nil)⟩)⟩)⟩) ?_
    exact lr_151b hlst hB S F hw hc0 hc rfl (Int.le_refl _) (by omega) (by omega)
  · refine AR.s (pc' := 11) (lv' := [(2, .long z778), (0, .ref 181), (1, .int ng)]) (st' := [.ref 181]) (h' := h) _ hn_151 hk_151_10 rfl ?_
    rcases (by omega : T.1 = 2 ∨ T.1 = 10) with e2 | e2
    · have er : t_t1 B T = t_ad B T := if_pos e2
      rw [er]
      have o6 := o7f777 e2
      show AR _ _ _ _ _ _ _ 11 [(2, .long z778), (0, .ref 181), (1, .int ng)] [.ref 181] h _ _
      refine AR.c9 (as := []) (rest := []) hk_151_11 hH (by decide +kernel) rfl rfl (Nat.le_of_ble_eq_true rfl) (lr_150 hlst hH (by omega) (by omega) (by omega)) (by decide) (Nat.zero_le _) (Nat.zero_le _) (fun E h' q => by obtain ⟨-, _, e, -⟩ := q; cases e) ?_
      rintro w781 g782 ⟨eg, v783, e, v1, v2⟩
      cases e
      obtain rfl := eg.symm
      show AR _ _ _ _ _ _ _ 14 [(2, .long z778), (0, .ref 181), (1, .int ng)] [.long v783] h _ _
      refine AR.s (pc' := 15) (lv' := [(2, .long v783), (0, .ref 181), (1, .int ng)]) (st' := []) (h' := h) _ hn_151 hk_151_14 rfl ?_
      refine AR.s (pc' := 16) (lv' := [(2, .long v783), (0, .ref 181), (1, .int ng)]) (st' := [.ref 181]) (h' := h) _ hn_151 hk_151_15 rfl ?_
      refine AR.c9 (as := []) (rest := []) hk_151_16 hH (by decide +kernel) rfl rfl (Nat.le_of_ble_eq_true rfl) (lr_149 hlst hH) (by decide) (Nat.zero_le _) (Nat.zero_le _) (fun E h' q => by obtain ⟨-, x, e, -⟩ := q; cases e) ?_
      rintro w785 g784 ⟨eg784, z786, e, Az786⟩
      cases e
      obtain rfl := eg784.symm
      have Bz786 : z786.toInt = 1 := by rcases Az786 with ⟨e, c⟩ | ⟨e, c⟩ <;> omega
      show AR _ _ _ _ _ _ _ 19 [(2, .long v783), (0, .ref 181), (1, .int ng)] [.int z786] h _ _
      refine AR.zeq hk_151_19 (tgt := 26) (by decide) (fun r1 => ?_) (fun r2 => ?_)
      · exact absurd Bz786 (by omega)
      · refine AR.s (pc' := 23) (lv' := [(2, .long v783), (0, .ref 181), (1, .int ng)]) (st' := [.ref 181]) (h' := h) _ hn_151 hk_151_22 rfl ?_
        refine AR.c9 (as := []) (rest := []) hk_151_23 hH (by decide +kernel) rfl rfl (Nat.le_of_ble_eq_true rfl) (lr_nx hlst S) (by decide) (Nat.zero_le _) (Nat.zero_le _) (fun E h' q => by cases q.1) ?_
        rintro w788 g787 ⟨eg787, Sg787, Tg787, x1g787, x2g787, x3g787, x4g787⟩
        cases eg787
        have yg787 := t_ad_le _ hB S.2.2.2.2.2.2
        have Fg787 := ty_F.trans F (ty_F.sub (by decide +kernel) Tg787)
        show AR _ _ _ _ _ _ _ 26 [(2, .long v783), (0, .ref 181), (1, .int ng)] [] g787 _ _
        obtain ⟨Hg787, if789, af789, bf789, cf789, tf789, o1f789, o2f789, o3f789, o4f789, o5f789, o6f789, o7f789, o8f789, o9f789⟩ := id Sg787
        have kf789 := r_tk_s (t_ad B (T)).1
        refine AR.lessL (lv' := [(2, .long v783), (1, .int ng), (0, .ref 181)]) (List.forall_mem_cons.mpr ⟨⟨_, by simp, ax_le_rfl rfl⟩, (List.forall_mem_cons.mpr ⟨⟨_, by simp, ax_le_rfl rfl⟩, (List.forall_mem_cons.mpr ⟨⟨_, by simp, ax_le_rfl rfl⟩, (fun _ h => absurd h List.not_mem_nil)⟩)⟩)⟩) ?_
        exact lr_151b hlst hB Sg787 Fg787 (by omega) (by omega) (by omega) (by omega) (by omega) v1 v2
    · have er : t_t3 B (t_t2 B (t_t1 B T)) = (false, T) := by
        have e1 : t_t1 B T = T := if_neg (by omega)
        have e3 : t_t2 B T = T := if_neg (by omega)
        rw [e1, e3]
        exact if_neg (by omega)
      rw [er]
      have o6 := o8f777 e2
      show AR _ _ _ _ _ _ _ 11 [(2, .long z778), (0, .ref 181), (1, .int ng)] [.ref 181] h _ _
      refine AR.c9 (as := []) (rest := []) hk_151_11 hH (by decide +kernel) rfl rfl (Nat.le_of_ble_eq_true rfl) (lr_150l hlst hH if777 (by omega) (by omega) (by omega) hw) (by decide) (Nat.zero_le _) (Nat.zero_le _) (fun E h' q => by obtain ⟨-, -, -, -, _, e, -⟩ := q; cases e) ?_
      rintro w790 g791 ⟨Hg791, Tg791, ig791, mg791, v792, e, ev⟩
      cases e
      have Fg791 : ty_F 1901476086875820175596040749056 h g791 := ty_F.sub (by decide +kernel) Tg791
      show AR _ _ _ _ _ _ _ 14 [(2, .long z778), (0, .ref 181), (1, .int ng)] [.long v792] g791 _ _
      have me : hy_z g791 181 11 = T.2.1 := by omega
      refine AR.s (pc' := 15) (lv' := [(2, .long v792), (0, .ref 181), (1, .int ng)]) (st' := []) (h' := g791) _ hn_151 hk_151_14 rfl ?_
      refine AR.s (pc' := 16) (lv' := [(2, .long v792), (0, .ref 181), (1, .int ng)]) (st' := [.ref 181]) (h' := g791) _ hn_151 hk_151_15 rfl ?_
      refine AR.c9 (as := []) (rest := []) hk_151_16 Hg791 (by decide +kernel) rfl rfl (Nat.le_of_ble_eq_true rfl) (lr_149 hlst Hg791) (by decide) (Nat.zero_le _) (Nat.zero_le _) (fun E h' q => by obtain ⟨-, x, e, -⟩ := q; cases e) ?_
      rintro w794 g793 ⟨eg793, z795, e, Az795⟩
      cases e
      obtain rfl := eg793.symm
      have Bz795 : z795.toInt = 0 := by rcases Az795 with ⟨e, c⟩ | ⟨e, c⟩ <;> omega
      show AR _ _ _ _ _ _ _ 19 [(2, .long v792), (0, .ref 181), (1, .int ng)] [.int z795] g791 _ _
      refine AR.zeq hk_151_19 (tgt := 26) (by decide) (fun r3 => ?_) (fun r4 => ?_)
      · refine AR.iconstT hk_151_26 (by decide) (fun z796 ez796 => ?_)
        show AR _ _ _ _ _ _ _ 27 [(2, .long v792), (0, .ref 181), (1, .int ng)] [.int z796] g791 _ _
        refine AR.s (pc' := 29) (lv' := [(4, .int z796), (2, .long v792), (0, .ref 181), (1, .int ng)]) (st' := []) (h' := g791) _ hn_151 hk_151_27 rfl ?_
        refine AR.s (pc' := 30) (lv' := [(4, .int z796), (2, .long v792), (0, .ref 181), (1, .int ng)]) (st' := [.ref 181]) (h' := g791) _ hn_151 hk_151_29 rfl ?_
        refine AR.c9 (as := []) (rest := []) hk_151_30 Hg791 (by decide +kernel) rfl rfl (Nat.le_of_ble_eq_true rfl) (lr_149 hlst Hg791) (by decide) (Nat.zero_le _) (Nat.zero_le _) (fun E h' q => by obtain ⟨-, x, e, -⟩ := q; cases e) ?_
        rintro w798 g797 ⟨eg797, z799, e, Az799⟩
        cases e
        obtain rfl := eg797.symm
        have Bz799 : z799.toInt = 0 := by rcases Az799 with ⟨e, c⟩ | ⟨e, c⟩ <;> omega
        show AR _ _ _ _ _ _ _ 33 [(4, .int z796), (2, .long v792), (0, .ref 181), (1, .int ng)] [.int z799] g791 _ _
        refine AR.zeq hk_151_33 (tgt := 52) (by decide) (fun r5 => ?_) (fun r6 => ?_)
        · refine AR.s (pc' := 53) (lv' := [(4, .int z796), (2, .long v792), (0, .ref 181), (1, .int ng)]) (st' := [.ref 181]) (h' := g791) _ hn_151 hk_151_52 rfl ?_
          refine AR.c9 (as := []) (rest := []) hk_151_53 Hg791 (by decide +kernel) rfl rfl (Nat.le_of_ble_eq_true rfl) (lr_149 hlst Hg791) (by decide) (Nat.zero_le _) (Nat.zero_le _) (fun E h' q => by obtain ⟨-, x, e, -⟩ := q; cases e) ?_
          rintro w801 g800 ⟨eg800, z802, e, Az802⟩
          cases e
          obtain rfl := eg800.symm
          have Bz802 : z802.toInt = 0 := by rcases Az802 with ⟨e, c⟩ | ⟨e, c⟩ <;> omega
          show AR _ _ _ _ _ _ _ 56 [(4, .int z796), (2, .long v792), (0, .ref 181), (1, .int ng)] [.int z802] g791 _ _
          refine AR.zeq hk_151_56 (tgt := 71) (by decide) (fun r7 => ?_) (fun r8 => ?_)
          · refine AR.s (pc' := 72) (lv' := [(4, .int z796), (2, .long v792), (0, .ref 181), (1, .int ng)]) (st' := [.ref 181]) (h' := g791) _ hn_151 hk_151_71 rfl ?_
            refine AR.c9 (as := []) (rest := []) hk_151_72 Hg791 (by decide +kernel) rfl rfl (Nat.le_of_ble_eq_true rfl) (lr_149 hlst Hg791) (by decide) (Nat.zero_le _) (Nat.zero_le _) (fun E h' q => by obtain ⟨-, x, e, -⟩ := q; cases e) ?_
            rintro w804 g803 ⟨eg803, z805, e, Az805⟩
            cases e
            obtain rfl := eg803.symm
            have Bz805 : z805.toInt = 0 := by rcases Az805 with ⟨e, c⟩ | ⟨e, c⟩ <;> omega
            show AR _ _ _ _ _ _ _ 75 [(4, .int z796), (2, .long v792), (0, .ref 181), (1, .int ng)] [.int z805] g791 _ _
            refine AR.zne hk_151_75 (tgt := 79) (by decide) (fun r9 => ?_) (fun r10 => ?_)
            · exact absurd Bz805 (by omega)
            · exact AR.vret hk_151_78 hr_151 ⟨rfl, Fg791, Or.inr ⟨rfl, Hg791, ig791, me, o1f777⟩⟩
          · exact absurd Bz802 (by omega)
        · exact absurd Bz799 (by omega)
      · exact absurd Bz795 (by omega)
/-- what parse leaves: its answer, the error's place, and what follows needs of a constraint that is well -/
def hq_pa (h : ax_H) : ax_Q := fun res g => ty_F 1901476994750776507285333082112 h g ∧ hy_H 0 g ∧ hy_I g ∧ hy_z g 181 7 = 0 ∧ hy_z g 181 11 = t_er (r_B h) ∧ ∃ z : Int32, res = .inl (some (.int z)) ∧ ((z.toInt = 0 ∧ 0 ≤ hy_z g 181 11) ∨ (z.toInt = 1 ∧ hy_z g 181 11 < 0 ∧ 1 ≤ hy_z g 181 14 ∧ hy_z g 181 14 ≤ hy_z g 181 8 ∧ 3 ≤ hy_z g 181 15 ∧ hy_z g 181 15 ≤ 61 ∧ -22999977 ≤ hy_z g 181 16 ∧ hy_z g 181 16 ≤ 22999977))
theorem lr_b265 (hlst : l.stackTraces = false) {X : ax_PX} {g : ax_H} (H : hy_H 0 g) (hi : hy_I g) (F : ty_F 1901476993570184886567921778688 h g) (e1 : hy_z g 181 11 = t_er (r_B h)) (e0 : 0 ≤ hy_z g 181 11) : AR ax_ns l (ax_mm 152) 3 ty_R (ax_ret ax_ns (ax_mm 152) (hq_pa h)) X 265 [(0, .ref 181)] [] g 0 0 := by
  have Hg := H
  have Fg := F
  show AR _ _ _ _ _ _ _ 265 [(0, .ref 181)] [] g _ _
  have Fg : ty_F 1901476994750776507285333082112 h g := ty_F.sub (by decide +kernel) F
  show AR _ _ _ _ _ _ _ 265 [(0, .ref 181)] [] g _ _
  refine AR.s (pc' := 266) (lv' := [(0, .ref 181)]) (st' := [.ref 181]) (h' := g) _ hn_152 hk_152_265 rfl ?_
  refine AR.iconstT hk_152_266 (by decide) (fun z806 ez806 => ?_)
  show AR _ _ _ _ _ _ _ 267 [(0, .ref 181)] [.int z806, .ref 181] g _ _
  refine AR.pT hk_152_267 (by decide) H Fg (q := 181) (by decide) (by decide +kernel) (show ax_cls[9]? = some hy_c9 from rfl) (by decide +kernel) (by decide) rfl (by rw [hy_t181_7]; exact ⟨_, rfl, by omega, by omega, Or.inl rfl⟩) (by decide +kernel) (by decide +kernel) ?_
  rintro g807 ⟨Hg807, Fg807, Gg807, Eg807⟩
  show AR _ _ _ _ _ _ _ 270 [(0, .ref 181)] [] g807 _ _
  have ig807 : hy_I g807 := hi.st Gg807 (by decide) Eg807 (by decide +kernel)
  have ug807_181_7 : hy_z g807 181 7 = z806.toInt := hy_zi (i := z806) (by rw [Eg807, if_pos ⟨rfl, rfl⟩])
  have ug807_181_8 : hy_z g807 181 8 = hy_z g 181 8 := hy_ze (by rw [Eg807, if_neg (fun c => absurd c.2 (by decide))])
  have ug807_181_9 : hy_z g807 181 9 = hy_z g 181 9 := hy_ze (by rw [Eg807, if_neg (fun c => absurd c.2 (by decide))])
  have ug807_181_10 : hy_z g807 181 10 = hy_z g 181 10 := hy_ze (by rw [Eg807, if_neg (fun c => absurd c.2 (by decide))])
  have ug807_181_11 : hy_z g807 181 11 = hy_z g 181 11 := hy_ze (by rw [Eg807, if_neg (fun c => absurd c.2 (by decide))])
  have ug807_181_14 : hy_z g807 181 14 = hy_z g 181 14 := hy_ze (by rw [Eg807, if_neg (fun c => absurd c.2 (by decide))])
  have ug807_181_15 : hy_z g807 181 15 = hy_z g 181 15 := hy_ze (by rw [Eg807, if_neg (fun c => absurd c.2 (by decide))])
  have ug807_181_16 : hy_z g807 181 16 = hy_z g 181 16 := hy_ze (by rw [Eg807, if_neg (fun c => absurd c.2 (by decide))])
  refine AR.s (pc' := 271) (lv' := [(0, .ref 181)]) (st' := [.ref 181]) (h' := g807) _ hn_152 hk_152_270 rfl ?_
  refine AR.c9 (as := []) (rest := []) hk_152_271 Hg807 (by decide +kernel) rfl rfl (Nat.le_of_ble_eq_true rfl) (lr_149 hlst Hg807) (by decide) (Nat.zero_le _) (Nat.zero_le _) (fun E h' q => by obtain ⟨-, x, e, -⟩ := q; cases e) ?_
  rintro w809 g808 ⟨eg808, z810, e, Az810⟩
  cases e
  obtain rfl := eg808.symm
  have Bz810 : z810.toInt = 0 := by rcases Az810 with ⟨e, c⟩ | ⟨e, c⟩ <;> omega
  show AR _ _ _ _ _ _ _ 274 [(0, .ref 181)] [.int z810] g807 _ _
  exact AR.zret hk_152_274 hr_152 (Or.inl (by omega)) ⟨Fg807, Hg807, ig807, by omega, by omega, _, rfl, Or.inl ⟨by omega, by omega⟩⟩
theorem lr_b235 (hlst : l.stackTraces = false) {X : ax_PX} {g : ax_H} (H : hy_H 0 g) (hi : hy_I g) (F : ty_F 1901476993570184886567921778688 h g) (e1 : hy_z g 181 11 = t_er (r_B h)) (e0 : 0 ≤ hy_z g 181 11) : AR ax_ns l (ax_mm 152) 3 ty_R (ax_ret ax_ns (ax_mm 152) (hq_pa h)) X 235 [(0, .ref 181)] [] g 0 0 := by
  have Hg := H
  have Fg := F
  show AR _ _ _ _ _ _ _ 235 [(0, .ref 181)] [] g _ _
  refine AR.s (pc' := 236) (lv' := [(0, .ref 181)]) (st' := [.ref 181]) (h' := g) _ hn_152 hk_152_235 rfl ?_
  refine AR.c9 (as := []) (rest := []) hk_152_236 H (by decide +kernel) rfl rfl (Nat.le_of_ble_eq_true rfl) (lr_149 hlst H) (by decide) (Nat.zero_le _) (Nat.zero_le _) (fun E h' q => by obtain ⟨-, x, e, -⟩ := q; cases e) ?_
  rintro w812 g811 ⟨eg811, z813, e, Az813⟩
  cases e
  obtain rfl := eg811.symm
  have Bz813 : z813.toInt = 0 := by rcases Az813 with ⟨e, c⟩ | ⟨e, c⟩ <;> omega
  show AR _ _ _ _ _ _ _ 239 [(0, .ref 181)] [.int z813] g _ _
  refine AR.zeq hk_152_239 (tgt := 246) (by decide) (fun p0 => ?_) (fun q0 => ?_)
  · refine AR.s (pc' := 247) (lv' := [(0, .ref 181)]) (st' := [.ref 181]) (h' := g) _ hn_152 hk_152_246 rfl ?_
    refine AR.c9 (as := []) (rest := []) hk_152_247 Hg (by decide +kernel) rfl rfl (Nat.le_of_ble_eq_true rfl) (lr_149 hlst Hg) (by decide) (Nat.zero_le _) (Nat.zero_le _) (fun E h' q => by obtain ⟨-, x, e, -⟩ := q; cases e) ?_
    rintro w815 g814 ⟨eg814, z816, e, Az816⟩
    cases e
    obtain rfl := eg814.symm
    have Bz816 : z816.toInt = 0 := by rcases Az816 with ⟨e, c⟩ | ⟨e, c⟩ <;> omega
    show AR _ _ _ _ _ _ _ 250 [(0, .ref 181)] [.int z816] g _ _
    refine AR.zeq hk_152_250 (tgt := 265) (by decide) (fun p1 => ?_) (fun q1 => ?_)
    · exact lr_b265 hlst Hg hi Fg (by omega) (by omega)
    · exact absurd Bz816 (by omega)
  · exact absurd Bz813 (by omega)
theorem lr_b222 (hlst : l.stackTraces = false) {X : ax_PX} {g : ax_H} (H : hy_H 0 g) (hi : hy_I g) (F : ty_F 1901476993570184886567921778688 h g) (e1 : hy_z g 181 11 = t_er (r_B h)) (e0 : 0 ≤ hy_z g 181 11) {sg : Int32} (k16 : -22999977 ≤ hy_z g 181 16 ∧ hy_z g 181 16 ≤ 22999977) : AR ax_ns l (ax_mm 152) 3 ty_R (ax_ret ax_ns (ax_mm 152) (hq_pa h)) X 222 [(1, .int sg), (0, .ref 181)] [] g 0 0 := by
  have Hg := H
  have Fg := F
  show AR _ _ _ _ _ _ _ 222 [(1, .int sg), (0, .ref 181)] [] g _ _
  refine AR.s (pc' := 223) (lv' := [(1, .int sg), (0, .ref 181)]) (st' := [.int sg]) (h' := g) _ hn_152 hk_152_222 rfl ?_
  refine AR.zeq hk_152_223 (tgt := 235) (by decide) (fun p1 => ?_) (fun p2 => ?_)
  · refine AR.lessL (lv' := [(0, .ref 181)]) (List.forall_mem_cons.mpr ⟨⟨_, by simp, ax_le_rfl rfl⟩, (fun _ h => absurd h List.not_mem_nil)⟩) ?_
    exact lr_b235 hlst Hg hi Fg (by omega) (by omega)
  · refine AR.s (pc' := 227) (lv' := [(1, .int sg), (0, .ref 181)]) (st' := [.ref 181]) (h' := g) _ hn_152 hk_152_226 rfl ?_
    refine AR.s (pc' := 228) (lv' := [(1, .int sg), (0, .ref 181)]) (st' := [.ref 181, .ref 181]) (h' := g) _ hn_152 hk_152_227 rfl ?_
    refine AR.gL hk_152_228 (by decide) Hg (q := 181) (n := 32) (by decide) (by decide +kernel) (by decide +kernel) (by decide) hy_t181_16 (fun x817 dx817 lx817 ux817 => ?_)
    show AR _ _ _ _ _ _ _ 231 [(1, .int sg), (0, .ref 181)] [.long x817, .ref 181] g _ _
    have sx817 := hy_zl dx817
    refine AR.lnegT hk_152_231 (by omega) (fun z818 ez818 => ?_)
    show AR _ _ _ _ _ _ _ 232 [(1, .int sg), (0, .ref 181)] [.long z818, .ref 181] g _ _
    refine AR.pT hk_152_232 (by decide) Hg Fg (q := 181) (by decide) (by decide +kernel) (show ax_cls[9]? = some hy_c9 from rfl) (by decide +kernel) (by decide) rfl (by rw [hy_t181_16]; exact ⟨_, rfl, by omega, by omega, Or.inl rfl⟩) (by decide +kernel) (by decide +kernel) ?_
    rintro g819 ⟨Hg819, Fg819, Gg819, Eg819⟩
    show AR _ _ _ _ _ _ _ 235 [(1, .int sg), (0, .ref 181)] [] g819 _ _
    have ig819 : hy_I g819 := hi.st Gg819 (by decide) Eg819 (by decide +kernel)
    have ug819_181_7 : hy_z g819 181 7 = hy_z g 181 7 := hy_ze (by rw [Eg819, if_neg (fun c => absurd c.2 (by decide))])
    have ug819_181_8 : hy_z g819 181 8 = hy_z g 181 8 := hy_ze (by rw [Eg819, if_neg (fun c => absurd c.2 (by decide))])
    have ug819_181_9 : hy_z g819 181 9 = hy_z g 181 9 := hy_ze (by rw [Eg819, if_neg (fun c => absurd c.2 (by decide))])
    have ug819_181_10 : hy_z g819 181 10 = hy_z g 181 10 := hy_ze (by rw [Eg819, if_neg (fun c => absurd c.2 (by decide))])
    have ug819_181_11 : hy_z g819 181 11 = hy_z g 181 11 := hy_ze (by rw [Eg819, if_neg (fun c => absurd c.2 (by decide))])
    have ug819_181_14 : hy_z g819 181 14 = hy_z g 181 14 := hy_ze (by rw [Eg819, if_neg (fun c => absurd c.2 (by decide))])
    have ug819_181_15 : hy_z g819 181 15 = hy_z g 181 15 := hy_ze (by rw [Eg819, if_neg (fun c => absurd c.2 (by decide))])
    have ug819_181_16 : hy_z g819 181 16 = z818.toInt := hy_zl (i := z818) (by rw [Eg819, if_pos ⟨rfl, rfl⟩])
    refine AR.lessL (lv' := [(0, .ref 181)]) (List.forall_mem_cons.mpr ⟨⟨_, by simp, ax_le_rfl rfl⟩, (fun _ h => absurd h List.not_mem_nil)⟩) ?_
    exact lr_b235 hlst Hg819 ig819 Fg819 (by omega) (by omega)
theorem lr_b203 (hlst : l.stackTraces = false) {X : ax_PX} {g : ax_H} (H : hy_H 0 g) (hi : hy_I g) (F : ty_F 1901476993570184886567921778688 h g) (e1 : hy_z g 181 11 = t_er (r_B h)) (e0 : 0 ≤ hy_z g 181 11) {sg : Int32} : AR ax_ns l (ax_mm 152) 3 ty_R (ax_ret ax_ns (ax_mm 152) (hq_pa h)) X 203 [(1, .int sg), (0, .ref 181)] [] g 0 0 := by
  have Hg := H
  have Fg := F
  show AR _ _ _ _ _ _ _ 203 [(1, .int sg), (0, .ref 181)] [] g _ _
  refine AR.s (pc' := 204) (lv' := [(1, .int sg), (0, .ref 181)]) (st' := [.ref 181]) (h' := g) _ hn_152 hk_152_203 rfl ?_
  refine AR.s (pc' := 205) (lv' := [(1, .int sg), (0, .ref 181)]) (st' := [.ref 181, .ref 181]) (h' := g) _ hn_152 hk_152_204 rfl ?_
  refine AR.c9 (as := []) (rest := [.ref 181]) hk_152_205 H (by decide +kernel) rfl rfl (Nat.le_of_ble_eq_true rfl) (lr_149 hlst H) (by decide) (Nat.zero_le _) (Nat.zero_le _) (fun E h' q => by obtain ⟨-, x, e, -⟩ := q; cases e) ?_
  rintro w821 g820 ⟨eg820, z822, e, Az822⟩
  cases e
  obtain rfl := eg820.symm
  have Bz822 : z822.toInt = 0 := by rcases Az822 with ⟨e, c⟩ | ⟨e, c⟩ <;> omega
  show AR _ _ _ _ _ _ _ 208 [(1, .int sg), (0, .ref 181)] [.int z822, .ref 181] g _ _
  refine AR.zeq hk_152_208 (tgt := 218) (by decide) (fun p0 => ?_) (fun q0 => ?_)
  · refine AR.lconstT hk_152_218 (fun z823 ez823 => ?_)
    show AR _ _ _ _ _ _ _ 219 [(1, .int sg), (0, .ref 181)] [.long z823, .ref 181] g _ _
    refine AR.pT hk_152_219 (by decide) Hg Fg (q := 181) (by decide) (by decide +kernel) (show ax_cls[9]? = some hy_c9 from rfl) (by decide +kernel) (by decide) rfl (by rw [hy_t181_16]; exact ⟨_, rfl, by omega, by omega, Or.inl rfl⟩) (by decide +kernel) (by decide +kernel) ?_
    rintro g824 ⟨Hg824, Fg824, Gg824, Eg824⟩
    show AR _ _ _ _ _ _ _ 222 [(1, .int sg), (0, .ref 181)] [] g824 _ _
    have ig824 : hy_I g824 := hi.st Gg824 (by decide) Eg824 (by decide +kernel)
    have ug824_181_7 : hy_z g824 181 7 = hy_z g 181 7 := hy_ze (by rw [Eg824, if_neg (fun c => absurd c.2 (by decide))])
    have ug824_181_8 : hy_z g824 181 8 = hy_z g 181 8 := hy_ze (by rw [Eg824, if_neg (fun c => absurd c.2 (by decide))])
    have ug824_181_9 : hy_z g824 181 9 = hy_z g 181 9 := hy_ze (by rw [Eg824, if_neg (fun c => absurd c.2 (by decide))])
    have ug824_181_10 : hy_z g824 181 10 = hy_z g 181 10 := hy_ze (by rw [Eg824, if_neg (fun c => absurd c.2 (by decide))])
    have ug824_181_11 : hy_z g824 181 11 = hy_z g 181 11 := hy_ze (by rw [Eg824, if_neg (fun c => absurd c.2 (by decide))])
    have ug824_181_14 : hy_z g824 181 14 = hy_z g 181 14 := hy_ze (by rw [Eg824, if_neg (fun c => absurd c.2 (by decide))])
    have ug824_181_15 : hy_z g824 181 15 = hy_z g 181 15 := hy_ze (by rw [Eg824, if_neg (fun c => absurd c.2 (by decide))])
    have ug824_181_16 : hy_z g824 181 16 = z823.toInt := hy_zl (i := z823) (by rw [Eg824, if_pos ⟨rfl, rfl⟩])
    exact lr_b222 hlst Hg824 ig824 Fg824 (by omega) (by omega) (by omega)
  · exact absurd Bz822 (by omega)
theorem lr_b143 (hlst : l.stackTraces = false) {X : ax_PX} {g : ax_H} (H : hy_H 0 g) (hi : hy_I g) (F : ty_F 1901476993570184886567921778688 h g) (e1 : hy_z g 181 11 = t_er (r_B h)) (e0 : 0 ≤ hy_z g 181 11) : AR ax_ns l (ax_mm 152) 3 ty_R (ax_ret ax_ns (ax_mm 152) (hq_pa h)) X 143 [(0, .ref 181)] [] g 0 0 := by
  have Hg := H
  have Fg := F
  show AR _ _ _ _ _ _ _ 143 [(0, .ref 181)] [] g _ _
  refine AR.s (pc' := 144) (lv' := [(0, .ref 181)]) (st' := [.ref 181]) (h' := g) _ hn_152 hk_152_143 rfl ?_
  refine AR.c9 (as := []) (rest := []) hk_152_144 H (by decide +kernel) rfl rfl (Nat.le_of_ble_eq_true rfl) (lr_149 hlst H) (by decide) (Nat.zero_le _) (Nat.zero_le _) (fun E h' q => by obtain ⟨-, x, e, -⟩ := q; cases e) ?_
  rintro w826 g825 ⟨eg825, z827, e, Az827⟩
  cases e
  obtain rfl := eg825.symm
  have Bz827 : z827.toInt = 0 := by rcases Az827 with ⟨e, c⟩ | ⟨e, c⟩ <;> omega
  show AR _ _ _ _ _ _ _ 147 [(0, .ref 181)] [.int z827] g _ _
  refine AR.zeq hk_152_147 (tgt := 154) (by decide) (fun p1 => ?_) (fun q1 => ?_)
  · refine AR.s (pc' := 155) (lv' := [(0, .ref 181)]) (st' := [.ref 181]) (h' := g) _ hn_152 hk_152_154 rfl ?_
    refine AR.c9 (as := []) (rest := []) hk_152_155 Hg (by decide +kernel) rfl rfl (Nat.le_of_ble_eq_true rfl) (lr_149 hlst Hg) (by decide) (Nat.zero_le _) (Nat.zero_le _) (fun E h' q => by obtain ⟨-, x, e, -⟩ := q; cases e) ?_
    rintro w829 g828 ⟨eg828, z830, e, Az830⟩
    cases e
    obtain rfl := eg828.symm
    have Bz830 : z830.toInt = 0 := by rcases Az830 with ⟨e, c⟩ | ⟨e, c⟩ <;> omega
    show AR _ _ _ _ _ _ _ 158 [(0, .ref 181)] [.int z830] g _ _
    refine AR.zeq hk_152_158 (tgt := 174) (by decide) (fun p2 => ?_) (fun q2 => ?_)
    · refine AR.iconstT hk_152_174 (by decide) (fun z831 ez831 => ?_)
      show AR _ _ _ _ _ _ _ 175 [(0, .ref 181)] [.int z831] g _ _
      refine AR.s (pc' := 176) (lv' := [(1, .int z831), (0, .ref 181)]) (st' := []) (h' := g) _ hn_152 hk_152_175 rfl ?_
      refine AR.s (pc' := 177) (lv' := [(1, .int z831), (0, .ref 181)]) (st' := [.int z831]) (h' := g) _ hn_152 hk_152_176 rfl ?_
      refine AR.zeq hk_152_177 (tgt := 184) (by decide) (fun v1 => ?_) (fun v2 => ?_)
      · refine AR.s (pc' := 185) (lv' := [(1, .int z831), (0, .ref 181)]) (st' := [.ref 181]) (h' := g) _ hn_152 hk_152_184 rfl ?_
        refine AR.c9 (as := []) (rest := []) hk_152_185 Hg (by decide +kernel) rfl rfl (Nat.le_of_ble_eq_true rfl) (lr_149 hlst Hg) (by decide) (Nat.zero_le _) (Nat.zero_le _) (fun E h' q => by obtain ⟨-, x, e, -⟩ := q; cases e) ?_
        rintro w833 g832 ⟨eg832, z834, e, Az834⟩
        cases e
        obtain rfl := eg832.symm
        have Bz834 : z834.toInt = 0 := by rcases Az834 with ⟨e, c⟩ | ⟨e, c⟩ <;> omega
        show AR _ _ _ _ _ _ _ 188 [(1, .int z831), (0, .ref 181)] [.int z834] g _ _
        refine AR.zeq hk_152_188 (tgt := 203) (by decide) (fun p3 => ?_) (fun q3 => ?_)
        · refine AR.lessL (lv' := [(1, .int z831), (0, .ref 181)]) (List.forall_mem_cons.mpr ⟨⟨_, by simp, ax_le_rfl rfl⟩, (List.forall_mem_cons.mpr ⟨⟨_, by simp, ax_le_rfl rfl⟩, (fun _ h => absurd h List.not_mem_nil)⟩)⟩) ?_
          exact lr_b203 hlst Hg hi Fg (by omega) (by omega)
        · exact absurd Bz834 (by omega)
      · exact absurd v2 (by omega)
    · exact absurd Bz830 (by omega)
  · exact absurd Bz827 (by omega)
theorem lr_b47 (hlst : l.stackTraces = false) {X : ax_PX} {g : ax_H} (H : hy_H 0 g) (hi : hy_I g) (F : ty_F 1901476993570184886567921778688 h g) (e1 : hy_z g 181 11 = t_er (r_B h)) (e0 : 0 ≤ hy_z g 181 11) {sg : Int32} : AR ax_ns l (ax_mm 152) 3 ty_R (ax_ret ax_ns (ax_mm 152) (hq_pa h)) X 47 [(1, .int sg), (0, .ref 181)] [] g 0 0 := by
  have Hg := H
  have Fg := F
  show AR _ _ _ _ _ _ _ 47 [(1, .int sg), (0, .ref 181)] [] g _ _
  refine AR.s (pc' := 48) (lv' := [(1, .int sg), (0, .ref 181)]) (st' := [.ref 181]) (h' := g) _ hn_152 hk_152_47 rfl ?_
  refine AR.c9 (as := []) (rest := []) hk_152_48 H (by decide +kernel) rfl rfl (Nat.le_of_ble_eq_true rfl) (lr_149 hlst H) (by decide) (Nat.zero_le _) (Nat.zero_le _) (fun E h' q => by obtain ⟨-, x, e, -⟩ := q; cases e) ?_
  rintro w836 g835 ⟨eg835, z837, e, Az837⟩
  cases e
  obtain rfl := eg835.symm
  have Bz837 : z837.toInt = 0 := by rcases Az837 with ⟨e, c⟩ | ⟨e, c⟩ <;> omega
  show AR _ _ _ _ _ _ _ 51 [(1, .int sg), (0, .ref 181)] [.int z837] g _ _
  refine AR.zeq hk_152_51 (tgt := 99) (by decide) (fun p1 => ?_) (fun q1 => ?_)
  · refine AR.lessL (lv' := [(0, .ref 181)]) (List.forall_mem_cons.mpr ⟨⟨_, by simp, ax_le_rfl rfl⟩, (fun _ h => absurd h List.not_mem_nil)⟩) ?_
    refine AR.s (pc' := 100) (lv' := [(0, .ref 181)]) (st' := [.ref 181]) (h' := g) _ hn_152 hk_152_99 rfl ?_
    refine AR.s (pc' := 101) (lv' := [(0, .ref 181)]) (st' := [.ref 181, .ref 181]) (h' := g) _ hn_152 hk_152_100 rfl ?_
    refine AR.gI hk_152_101 (by decide) Hg (q := 181) (n := 32) (by decide) (by decide +kernel) (by decide +kernel) (by decide) hy_t181_10 (fun x838 dx838 lx838 ux838 => ?_)
    show AR _ _ _ _ _ _ _ 104 [(0, .ref 181)] [.int x838, .ref 181] g _ _
    have sx838 := hy_zi dx838
    refine AR.pT hk_152_104 (by decide) Hg Fg (q := 181) (by decide) (by decide +kernel) (show ax_cls[9]? = some hy_c9 from rfl) (by decide +kernel) (by decide) rfl (by rw [hy_t181_15]; exact ⟨_, rfl, by omega, by omega, Or.inl rfl⟩) (by decide +kernel) (by decide +kernel) ?_
    rintro g839 ⟨Hg839, Fg839, Gg839, Eg839⟩
    show AR _ _ _ _ _ _ _ 107 [(0, .ref 181)] [] g839 _ _
    have ig839 : hy_I g839 := hi.st Gg839 (by decide) Eg839 (by decide +kernel)
    have ug839_181_7 : hy_z g839 181 7 = hy_z g 181 7 := hy_ze (by rw [Eg839, if_neg (fun c => absurd c.2 (by decide))])
    have ug839_181_8 : hy_z g839 181 8 = hy_z g 181 8 := hy_ze (by rw [Eg839, if_neg (fun c => absurd c.2 (by decide))])
    have ug839_181_9 : hy_z g839 181 9 = hy_z g 181 9 := hy_ze (by rw [Eg839, if_neg (fun c => absurd c.2 (by decide))])
    have ug839_181_10 : hy_z g839 181 10 = hy_z g 181 10 := hy_ze (by rw [Eg839, if_neg (fun c => absurd c.2 (by decide))])
    have ug839_181_11 : hy_z g839 181 11 = hy_z g 181 11 := hy_ze (by rw [Eg839, if_neg (fun c => absurd c.2 (by decide))])
    have ug839_181_14 : hy_z g839 181 14 = hy_z g 181 14 := hy_ze (by rw [Eg839, if_neg (fun c => absurd c.2 (by decide))])
    have ug839_181_15 : hy_z g839 181 15 = x838.toInt := hy_zi (i := x838) (by rw [Eg839, if_pos ⟨rfl, rfl⟩])
    have ug839_181_16 : hy_z g839 181 16 = hy_z g 181 16 := hy_ze (by rw [Eg839, if_neg (fun c => absurd c.2 (by decide))])
    refine AR.s (pc' := 108) (lv' := [(0, .ref 181)]) (st' := [.ref 181]) (h' := g839) _ hn_152 hk_152_107 rfl ?_
    refine AR.c9 (as := []) (rest := []) hk_152_108 Hg839 (by decide +kernel) rfl rfl (Nat.le_of_ble_eq_true rfl) (lr_149 hlst Hg839) (by decide) (Nat.zero_le _) (Nat.zero_le _) (fun E h' q => by obtain ⟨-, x, e, -⟩ := q; cases e) ?_
    rintro w841 g840 ⟨eg840, z842, e, Az842⟩
    cases e
    obtain rfl := eg840.symm
    have Bz842 : z842.toInt = 0 := by rcases Az842 with ⟨e, c⟩ | ⟨e, c⟩ <;> omega
    show AR _ _ _ _ _ _ _ 111 [(0, .ref 181)] [.int z842] g839 _ _
    refine AR.zeq hk_152_111 (tgt := 143) (by decide) (fun p2 => ?_) (fun q2 => ?_)
    · exact lr_b143 hlst Hg839 ig839 Fg839 (by omega) (by omega)
    · exact absurd Bz842 (by omega)
  · exact absurd Bz837 (by omega)
/-- well so far: the tokens, the count -/
def r_w (B : Int → Int) (g : ax_H) (T : t_K) : Prop := r_st B g T ∧ hy_z g 181 11 < 0 ∧ 1 ≤ hy_z g 181 14 ∧ hy_z g 181 14 ≤ T.2.1
def r_T2 (B : Int → Int) (T : t_K) : t_K := t_ad B (t_mi B T)
theorem t_ers (B : Int → Int) {b : Bool} {T : t_K} (e : t_all B = (b, T)) : t_er B = if b = true then -1 else T.2.1 := by
  unfold t_er
  rw [e]
theorem lr_w246 (hlst : l.stackTraces = false) {X : ax_PX} {g : ax_H} (hB : ∀ p, 200 ≤ p → r_B h p = -1) (W : r_w (r_B h) g T) (F : ty_F 1901476993570184886567921778688 h g) (k15 : 3 ≤ hy_z g 181 15 ∧ hy_z g 181 15 ≤ 61) (k16 : -22999977 ≤ hy_z g 181 16 ∧ hy_z g 181 16 ≤ 22999977) (hall : t_all (r_B h) = (decide (T.1 = 0), T)) : AR ax_ns l (ax_mm 152) 3 ty_R (ax_ret ax_ns (ax_mm 152) (hq_pa h)) X 246 [(0, .ref 181)] [] g 0 0 := by
  obtain ⟨S, hw, hc1, hc⟩ := W
  obtain ⟨Hg, if843, af843, bf843, cf843, tf843, o1f843, o2f843, o3f843, o4f843, o5f843, o6f843, o7f843, o8f843, o9f843⟩ := id S
  have kf843 := r_tk_s (T).1
  have Fg := F
  show AR _ _ _ _ _ _ _ 246 [(0, .ref 181)] [] g _ _
  refine AR.s (pc' := 247) (lv' := [(0, .ref 181)]) (st' := [.ref 181]) (h' := g) _ hn_152 hk_152_246 rfl ?_
  refine AR.c9 (as := []) (rest := []) hk_152_247 Hg (by decide +kernel) rfl rfl (Nat.le_of_ble_eq_true rfl) (lr_149 hlst Hg) (by decide) (Nat.zero_le _) (Nat.zero_le _) (fun E h' q => by obtain ⟨-, x, e, -⟩ := q; cases e) ?_
  rintro w845 g844 ⟨eg844, z846, e, Az846⟩
  cases e
  obtain rfl := eg844.symm
  have Bz846 : z846.toInt = 1 := by rcases Az846 with ⟨e, c⟩ | ⟨e, c⟩ <;> omega
  show AR _ _ _ _ _ _ _ 250 [(0, .ref 181)] [.int z846] g _ _
  refine AR.zeq hk_152_250 (tgt := 265) (by decide) (fun p1 => ?_) (fun q1 => ?_)
  · exact absurd Bz846 (by omega)
  · refine AR.s (pc' := 254) (lv' := [(0, .ref 181)]) (st' := [.ref 181]) (h' := g) _ hn_152 hk_152_253 rfl ?_
    refine AR.gI hk_152_254 (by decide) Hg (q := 181) (n := 32) (by decide) (by decide +kernel) (by decide +kernel) (by decide) hy_t181_10 (fun x847 dx847 lx847 ux847 => ?_)
    show AR _ _ _ _ _ _ _ 257 [(0, .ref 181)] [.int x847] g _ _
    have sx847 := hy_zi dx847
    refine AR.iconstT hk_152_257 (by decide) (fun z848 ez848 => ?_)
    show AR _ _ _ _ _ _ _ 258 [(0, .ref 181)] [.int z848, .int x847] g _ _
    refine AR.jeq hk_152_258 (tgt := 265) (by decide) (fun v1 => ?_) (fun v2 => ?_)
    · have er : t_er (r_B h) = -1 := (t_ers _ (hall.trans (by rw [show decide (T.1 = 0) = true from decide_eq_true (by omega)]))).trans (if_pos rfl)
      obtain ⟨i11, d11, l11, u11⟩ := hy_int Hg (q := 181) (j := 11) (a := -1) (z := 200) (by decide) rfl (by decide +kernel) (by decide +kernel)
      have z11 := hy_zi d11
      have Fg : ty_F 1901476994750776507285333082112 h g := ty_F.sub (by decide +kernel) Fg
      show AR _ _ _ _ _ _ _ 265 [(0, .ref 181)] [] g _ _
      refine AR.s (pc' := 266) (lv' := [(0, .ref 181)]) (st' := [.ref 181]) (h' := g) _ hn_152 hk_152_265 rfl ?_
      refine AR.iconstT hk_152_266 (by decide) (fun z849 ez849 => ?_)
      show AR _ _ _ _ _ _ _ 267 [(0, .ref 181)] [.int z849, .ref 181] g _ _
      refine AR.pT hk_152_267 (by decide) Hg Fg (q := 181) (by decide) (by decide +kernel) (show ax_cls[9]? = some hy_c9 from rfl) (by decide +kernel) (by decide) rfl (by rw [hy_t181_7]; exact ⟨_, rfl, by omega, by omega, Or.inl rfl⟩) (by decide +kernel) (by decide +kernel) ?_
      rintro g850 ⟨Hg850, Fg850, Gg850, Eg850⟩
      show AR _ _ _ _ _ _ _ 270 [(0, .ref 181)] [] g850 _ _
      have ig850 : hy_I g850 := if843.st Gg850 (by decide) Eg850 (by decide +kernel)
      have ug850_181_7 : hy_z g850 181 7 = z849.toInt := hy_zi (i := z849) (by rw [Eg850, if_pos ⟨rfl, rfl⟩])
      have ug850_181_8 : hy_z g850 181 8 = hy_z g 181 8 := hy_ze (by rw [Eg850, if_neg (fun c => absurd c.2 (by decide))])
      have ug850_181_9 : hy_z g850 181 9 = hy_z g 181 9 := hy_ze (by rw [Eg850, if_neg (fun c => absurd c.2 (by decide))])
      have ug850_181_10 : hy_z g850 181 10 = hy_z g 181 10 := hy_ze (by rw [Eg850, if_neg (fun c => absurd c.2 (by decide))])
      have ug850_181_11 : hy_z g850 181 11 = hy_z g 181 11 := hy_ze (by rw [Eg850, if_neg (fun c => absurd c.2 (by decide))])
      have ug850_181_14 : hy_z g850 181 14 = hy_z g 181 14 := hy_ze (by rw [Eg850, if_neg (fun c => absurd c.2 (by decide))])
      have ug850_181_15 : hy_z g850 181 15 = hy_z g 181 15 := hy_ze (by rw [Eg850, if_neg (fun c => absurd c.2 (by decide))])
      have ug850_181_16 : hy_z g850 181 16 = hy_z g 181 16 := hy_ze (by rw [Eg850, if_neg (fun c => absurd c.2 (by decide))])
      refine AR.s (pc' := 271) (lv' := [(0, .ref 181)]) (st' := [.ref 181]) (h' := g850) _ hn_152 hk_152_270 rfl ?_
      refine AR.c9 (as := []) (rest := []) hk_152_271 Hg850 (by decide +kernel) rfl rfl (Nat.le_of_ble_eq_true rfl) (lr_149 hlst Hg850) (by decide) (Nat.zero_le _) (Nat.zero_le _) (fun E h' q => by obtain ⟨-, x, e, -⟩ := q; cases e) ?_
      rintro w852 g851 ⟨eg851, z853, e, Az853⟩
      cases e
      obtain rfl := eg851.symm
      have Bz853 : z853.toInt = 1 := by rcases Az853 with ⟨e, c⟩ | ⟨e, c⟩ <;> omega
      show AR _ _ _ _ _ _ _ 274 [(0, .ref 181)] [.int z853] g850 _ _
      exact AR.zret hk_152_274 hr_152 (Or.inr (by omega)) ⟨Fg850, Hg850, ig850, by omega, by omega, _, rfl, Or.inr ⟨by omega, by omega, by omega, by omega, by omega, by omega, by omega, by omega⟩⟩
    · have er : t_er (r_B h) = T.2.1 := (t_ers _ (hall.trans (by rw [show decide (T.1 = 0) = false from decide_eq_false (by omega)]))).trans (if_neg (by decide))
      refine AR.s (pc' := 262) (lv' := [(0, .ref 181)]) (st' := [.ref 181]) (h' := g) _ hn_152 hk_152_261 rfl ?_
      refine AR.c9 (as := []) (rest := []) hk_152_262 Hg (by decide +kernel) rfl rfl (Nat.le_of_ble_eq_true rfl) (lr_148 hlst Hg if843 (by omega)) (by decide) (Nat.zero_le _) (Nat.zero_le _) (fun E h' q => by cases q.1) ?_
      rintro w855 g854 ⟨eg854, Hg854, Tg854, ig854, mg854⟩
      cases eg854
      have Fg854 := ty_F.trans Fg (ty_F.sub (by decide +kernel) Tg854)
      show AR _ _ _ _ _ _ _ 265 [(0, .ref 181)] [] g854 _ _
      exact lr_b265 hlst Hg854 ig854 Fg854 (by omega) (by omega)
theorem lr_w235 (hlst : l.stackTraces = false) {X : ax_PX} {g : ax_H} (hB : ∀ p, 200 ≤ p → r_B h p = -1) (W : r_w (r_B h) g T) (F : ty_F 1901476993570184886567921778688 h g) (k15 : 3 ≤ hy_z g 181 15 ∧ hy_z g 181 15 ≤ 61) (k16 : -22999977 ≤ hy_z g 181 16 ∧ hy_z g 181 16 ≤ 22999977) (hall : t_all (r_B h) = (decide ((t_ad (r_B h) T).1 = 0), t_ad (r_B h) T)) : AR ax_ns l (ax_mm 152) 3 ty_R (ax_ret ax_ns (ax_mm 152) (hq_pa h)) X 235 [(0, .ref 181)] [] g 0 0 := by
  obtain ⟨S, hw, hc1, hc⟩ := W
  obtain ⟨Hg, if856, af856, bf856, cf856, tf856, o1f856, o2f856, o3f856, o4f856, o5f856, o6f856, o7f856, o8f856, o9f856⟩ := id S
  have kf856 := r_tk_s (T).1
  have Fg := F
  show AR _ _ _ _ _ _ _ 235 [(0, .ref 181)] [] g _ _
  refine AR.s (pc' := 236) (lv' := [(0, .ref 181)]) (st' := [.ref 181]) (h' := g) _ hn_152 hk_152_235 rfl ?_
  refine AR.c9 (as := []) (rest := []) hk_152_236 Hg (by decide +kernel) rfl rfl (Nat.le_of_ble_eq_true rfl) (lr_149 hlst Hg) (by decide) (Nat.zero_le _) (Nat.zero_le _) (fun E h' q => by obtain ⟨-, x, e, -⟩ := q; cases e) ?_
  rintro w858 g857 ⟨eg857, z859, e, Az859⟩
  cases e
  obtain rfl := eg857.symm
  have Bz859 : z859.toInt = 1 := by rcases Az859 with ⟨e, c⟩ | ⟨e, c⟩ <;> omega
  show AR _ _ _ _ _ _ _ 239 [(0, .ref 181)] [.int z859] g _ _
  refine AR.zeq hk_152_239 (tgt := 246) (by decide) (fun p1 => ?_) (fun q1 => ?_)
  · exact absurd Bz859 (by omega)
  · refine AR.s (pc' := 243) (lv' := [(0, .ref 181)]) (st' := [.ref 181]) (h' := g) _ hn_152 hk_152_242 rfl ?_
    refine AR.c9 (as := []) (rest := []) hk_152_243 Hg (by decide +kernel) rfl rfl (Nat.le_of_ble_eq_true rfl) (lr_nx hlst S) (by decide) (Nat.zero_le _) (Nat.zero_le _) (fun E h' q => by cases q.1) ?_
    rintro w861 g860 ⟨eg860, Sg860, Tg860, x1g860, x2g860, x3g860, x4g860⟩
    cases eg860
    have yg860 := t_ad_le _ hB S.2.2.2.2.2.2
    have Fg860 := ty_F.trans Fg (ty_F.sub (by decide +kernel) Tg860)
    show AR _ _ _ _ _ _ _ 246 [(0, .ref 181)] [] g860 _ _
    obtain ⟨Hg860, if862, af862, bf862, cf862, tf862, o1f862, o2f862, o3f862, o4f862, o5f862, o6f862, o7f862, o8f862, o9f862⟩ := id Sg860
    have kf862 := r_tk_s (t_ad (r_B h) (T)).1
    exact lr_w246 hlst hB ⟨Sg860, by omega, by omega, by omega⟩ Fg860 ⟨by omega, by omega⟩ ⟨by omega, by omega⟩ hall
theorem lr_w222 (hlst : l.stackTraces = false) {X : ax_PX} {g : ax_H} (hB : ∀ p, 200 ≤ p → r_B h p = -1) (W : r_w (r_B h) g T) (F : ty_F 1901476993570184886567921778688 h g) {sg : Int32} (k15 : 3 ≤ hy_z g 181 15 ∧ hy_z g 181 15 ≤ 61) (k16 : -22999977 ≤ hy_z g 181 16 ∧ hy_z g 181 16 ≤ 22999977) (hall : t_all (r_B h) = (decide ((t_ad (r_B h) T).1 = 0), t_ad (r_B h) T)) : AR ax_ns l (ax_mm 152) 3 ty_R (ax_ret ax_ns (ax_mm 152) (hq_pa h)) X 222 [(1, .int sg), (0, .ref 181)] [] g 0 0 := by
  obtain ⟨S, hw, hc1, hc⟩ := W
  obtain ⟨Hg, if863, af863, bf863, cf863, tf863, o1f863, o2f863, o3f863, o4f863, o5f863, o6f863, o7f863, o8f863, o9f863⟩ := id S
  have kf863 := r_tk_s (T).1
  have Fg := F
  show AR _ _ _ _ _ _ _ 222 [(1, .int sg), (0, .ref 181)] [] g _ _
  refine AR.s (pc' := 223) (lv' := [(1, .int sg), (0, .ref 181)]) (st' := [.int sg]) (h' := g) _ hn_152 hk_152_222 rfl ?_
  refine AR.zeq hk_152_223 (tgt := 235) (by decide) (fun p1 => ?_) (fun p2 => ?_)
  · refine AR.lessL (lv' := [(0, .ref 181)]) (List.forall_mem_cons.mpr ⟨⟨_, by simp, ax_le_rfl rfl⟩, (fun _ h => absurd h List.not_mem_nil)⟩) ?_
    exact lr_w235 hlst hB ⟨S, hw, hc1, hc⟩ F k15 k16 hall
  · refine AR.s (pc' := 227) (lv' := [(1, .int sg), (0, .ref 181)]) (st' := [.ref 181]) (h' := g) _ hn_152 hk_152_226 rfl ?_
    refine AR.s (pc' := 228) (lv' := [(1, .int sg), (0, .ref 181)]) (st' := [.ref 181, .ref 181]) (h' := g) _ hn_152 hk_152_227 rfl ?_
    refine AR.gL hk_152_228 (by decide) Hg (q := 181) (n := 32) (by decide) (by decide +kernel) (by decide +kernel) (by decide) hy_t181_16 (fun x864 dx864 lx864 ux864 => ?_)
    show AR _ _ _ _ _ _ _ 231 [(1, .int sg), (0, .ref 181)] [.long x864, .ref 181] g _ _
    have sx864 := hy_zl dx864
    refine AR.lnegT hk_152_231 (by omega) (fun z865 ez865 => ?_)
    show AR _ _ _ _ _ _ _ 232 [(1, .int sg), (0, .ref 181)] [.long z865, .ref 181] g _ _
    refine AR.pT hk_152_232 (by decide) Hg Fg (q := 181) (by decide) (by decide +kernel) (show ax_cls[9]? = some hy_c9 from rfl) (by decide +kernel) (by decide) rfl (by rw [hy_t181_16]; exact ⟨_, rfl, by omega, by omega, Or.inl rfl⟩) (by decide +kernel) (by decide +kernel) ?_
    rintro g866 ⟨Hg866, Fg866, Gg866, Eg866⟩
    show AR _ _ _ _ _ _ _ 235 [(1, .int sg), (0, .ref 181)] [] g866 _ _
    have ig866 : hy_I g866 := if863.st Gg866 (by decide) Eg866 (by decide +kernel)
    have ug866_181_7 : hy_z g866 181 7 = hy_z g 181 7 := hy_ze (by rw [Eg866, if_neg (fun c => absurd c.2 (by decide))])
    have ug866_181_8 : hy_z g866 181 8 = hy_z g 181 8 := hy_ze (by rw [Eg866, if_neg (fun c => absurd c.2 (by decide))])
    have ug866_181_9 : hy_z g866 181 9 = hy_z g 181 9 := hy_ze (by rw [Eg866, if_neg (fun c => absurd c.2 (by decide))])
    have ug866_181_10 : hy_z g866 181 10 = hy_z g 181 10 := hy_ze (by rw [Eg866, if_neg (fun c => absurd c.2 (by decide))])
    have ug866_181_11 : hy_z g866 181 11 = hy_z g 181 11 := hy_ze (by rw [Eg866, if_neg (fun c => absurd c.2 (by decide))])
    have ug866_181_14 : hy_z g866 181 14 = hy_z g 181 14 := hy_ze (by rw [Eg866, if_neg (fun c => absurd c.2 (by decide))])
    have ug866_181_15 : hy_z g866 181 15 = hy_z g 181 15 := hy_ze (by rw [Eg866, if_neg (fun c => absurd c.2 (by decide))])
    have ug866_181_16 : hy_z g866 181 16 = z865.toInt := hy_zl (i := z865) (by rw [Eg866, if_pos ⟨rfl, rfl⟩])
    refine AR.lessL (lv' := [(0, .ref 181)]) (List.forall_mem_cons.mpr ⟨⟨_, by simp, ax_le_rfl rfl⟩, (fun _ h => absurd h List.not_mem_nil)⟩) ?_
    exact lr_w235 hlst hB ⟨⟨Hg866, ig866, by omega, by omega, by omega, (r_B_F Gg866 (by decide +kernel)).trans tf863, S.2.2.2.2.2.2⟩, by omega, by omega, by omega⟩ Fg866 ⟨by omega, by omega⟩ ⟨by omega, by omega⟩ hall
theorem lr_w184 (hlst : l.stackTraces = false) {X : ax_PX} {g : ax_H} (hB : ∀ p, 200 ≤ p → r_B h p = -1) (W : r_w (r_B h) g T) (F : ty_F 1901476993570184886567921778688 h g) {sg : Int32} (k15 : 3 ≤ hy_z g 181 15 ∧ hy_z g 181 15 ≤ 61) (hno : T.1 ≠ 2 → t_all (r_B h) = (false, T)) (hyes : T.1 = 2 → t_all (r_B h) = (decide ((t_ad (r_B h) T).1 = 0), t_ad (r_B h) T)) : AR ax_ns l (ax_mm 152) 3 ty_R (ax_ret ax_ns (ax_mm 152) (hq_pa h)) X 184 [(1, .int sg), (0, .ref 181)] [] g 0 0 := by
  obtain ⟨S, hw, hc1, hc⟩ := W
  obtain ⟨Hg, if867, af867, bf867, cf867, tf867, o1f867, o2f867, o3f867, o4f867, o5f867, o6f867, o7f867, o8f867, o9f867⟩ := id S
  have kf867 := r_tk_s (T).1
  have Fg := F
  show AR _ _ _ _ _ _ _ 184 [(1, .int sg), (0, .ref 181)] [] g _ _
  refine AR.s (pc' := 185) (lv' := [(1, .int sg), (0, .ref 181)]) (st' := [.ref 181]) (h' := g) _ hn_152 hk_152_184 rfl ?_
  refine AR.c9 (as := []) (rest := []) hk_152_185 Hg (by decide +kernel) rfl rfl (Nat.le_of_ble_eq_true rfl) (lr_149 hlst Hg) (by decide) (Nat.zero_le _) (Nat.zero_le _) (fun E h' q => by obtain ⟨-, x, e, -⟩ := q; cases e) ?_
  rintro w869 g868 ⟨eg868, z870, e, Az870⟩
  cases e
  obtain rfl := eg868.symm
  have Bz870 : z870.toInt = 1 := by rcases Az870 with ⟨e, c⟩ | ⟨e, c⟩ <;> omega
  show AR _ _ _ _ _ _ _ 188 [(1, .int sg), (0, .ref 181)] [.int z870] g _ _
  refine AR.zeq hk_152_188 (tgt := 203) (by decide) (fun p1 => ?_) (fun q1 => ?_)
  · exact absurd Bz870 (by omega)
  · refine AR.s (pc' := 192) (lv' := [(1, .int sg), (0, .ref 181)]) (st' := [.ref 181]) (h' := g) _ hn_152 hk_152_191 rfl ?_
    refine AR.gI hk_152_192 (by decide) Hg (q := 181) (n := 32) (by decide) (by decide +kernel) (by decide +kernel) (by decide) hy_t181_10 (fun x871 dx871 lx871 ux871 => ?_)
    show AR _ _ _ _ _ _ _ 195 [(1, .int sg), (0, .ref 181)] [.int x871] g _ _
    have sx871 := hy_zi dx871
    refine AR.iconstT hk_152_195 (by decide) (fun z872 ez872 => ?_)
    show AR _ _ _ _ _ _ _ 196 [(1, .int sg), (0, .ref 181)] [.int z872, .int x871] g _ _
    refine AR.jeq hk_152_196 (tgt := 203) (by decide) (fun v1 => ?_) (fun v2 => ?_)
    · refine AR.s (pc' := 204) (lv' := [(1, .int sg), (0, .ref 181)]) (st' := [.ref 181]) (h' := g) _ hn_152 hk_152_203 rfl ?_
      refine AR.s (pc' := 205) (lv' := [(1, .int sg), (0, .ref 181)]) (st' := [.ref 181, .ref 181]) (h' := g) _ hn_152 hk_152_204 rfl ?_
      refine AR.c9 (as := []) (rest := [.ref 181]) hk_152_205 Hg (by decide +kernel) rfl rfl (Nat.le_of_ble_eq_true rfl) (lr_149 hlst Hg) (by decide) (Nat.zero_le _) (Nat.zero_le _) (fun E h' q => by obtain ⟨-, x, e, -⟩ := q; cases e) ?_
      rintro w876 g875 ⟨eg875, z877, e, Az877⟩
      cases e
      obtain rfl := eg875.symm
      have Bz877 : z877.toInt = 1 := by rcases Az877 with ⟨e, c⟩ | ⟨e, c⟩ <;> omega
      show AR _ _ _ _ _ _ _ 208 [(1, .int sg), (0, .ref 181)] [.int z877, .ref 181] g _ _
      refine AR.zeq hk_152_208 (tgt := 218) (by decide) (fun p2 => ?_) (fun q2 => ?_)
      · exact absurd Bz877 (by omega)
      · refine AR.s (pc' := 212) (lv' := [(1, .int sg), (0, .ref 181)]) (st' := [.ref 181, .ref 181]) (h' := g) _ hn_152 hk_152_211 rfl ?_
        rcases (by omega : T.1 = 2 ∨ T.1 = 10) with e2 | e2
        · have o6 := o7f867 e2
          show AR _ _ _ _ _ _ _ 212 [(1, .int sg), (0, .ref 181)] [.ref 181, .ref 181] g _ _
          refine AR.c9 (as := []) (rest := [.ref 181]) hk_152_212 Hg (by decide +kernel) rfl rfl (Nat.le_of_ble_eq_true rfl) (lr_150 hlst Hg (by omega) (by omega) (by omega)) (by decide) (Nat.zero_le _) (Nat.zero_le _) (fun E h' q => by obtain ⟨-, _, e, -⟩ := q; cases e) ?_
          rintro w879 g880 ⟨eg, v878, e, v1, v2⟩
          cases e
          obtain rfl := eg.symm
          show AR _ _ _ _ _ _ _ 215 [(1, .int sg), (0, .ref 181)] [.long v878, .ref 181] g _ _
          refine AR.gotoT hk_152_215 (tgt := 219) (by decide) ?_
          refine AR.pT hk_152_219 (by decide) Hg Fg (q := 181) (by decide) (by decide +kernel) (show ax_cls[9]? = some hy_c9 from rfl) (by decide +kernel) (by decide) rfl (by rw [hy_t181_16]; exact ⟨_, rfl, by omega, by omega, Or.inl rfl⟩) (by decide +kernel) (by decide +kernel) ?_
          rintro g881 ⟨Hg881, Fg881, Gg881, Eg881⟩
          show AR _ _ _ _ _ _ _ 222 [(1, .int sg), (0, .ref 181)] [] g881 _ _
          have ig881 : hy_I g881 := if867.st Gg881 (by decide) Eg881 (by decide +kernel)
          have ug881_181_7 : hy_z g881 181 7 = hy_z g 181 7 := hy_ze (by rw [Eg881, if_neg (fun c => absurd c.2 (by decide))])
          have ug881_181_8 : hy_z g881 181 8 = hy_z g 181 8 := hy_ze (by rw [Eg881, if_neg (fun c => absurd c.2 (by decide))])
          have ug881_181_9 : hy_z g881 181 9 = hy_z g 181 9 := hy_ze (by rw [Eg881, if_neg (fun c => absurd c.2 (by decide))])
          have ug881_181_10 : hy_z g881 181 10 = hy_z g 181 10 := hy_ze (by rw [Eg881, if_neg (fun c => absurd c.2 (by decide))])
          have ug881_181_11 : hy_z g881 181 11 = hy_z g 181 11 := hy_ze (by rw [Eg881, if_neg (fun c => absurd c.2 (by decide))])
          have ug881_181_14 : hy_z g881 181 14 = hy_z g 181 14 := hy_ze (by rw [Eg881, if_neg (fun c => absurd c.2 (by decide))])
          have ug881_181_15 : hy_z g881 181 15 = hy_z g 181 15 := hy_ze (by rw [Eg881, if_neg (fun c => absurd c.2 (by decide))])
          have ug881_181_16 : hy_z g881 181 16 = v878.toInt := hy_zl (i := v878) (by rw [Eg881, if_pos ⟨rfl, rfl⟩])
          exact lr_w222 hlst hB ⟨⟨Hg881, ig881, by omega, by omega, by omega, (r_B_F Gg881 (by decide +kernel)).trans tf867, S.2.2.2.2.2.2⟩, by omega, by omega, by omega⟩ Fg881 ⟨by omega, by omega⟩ ⟨by omega, by omega⟩ (hyes e2)
        · have o6 := o8f867 e2
          have er : t_er (r_B h) = T.2.1 := (t_ers _ (hno (by omega))).trans (if_neg (by decide))
          show AR _ _ _ _ _ _ _ 212 [(1, .int sg), (0, .ref 181)] [.ref 181, .ref 181] g _ _
          refine AR.c9 (as := []) (rest := [.ref 181]) hk_152_212 Hg (by decide +kernel) rfl rfl (Nat.le_of_ble_eq_true rfl) (lr_150l hlst Hg if867 (by omega) (by omega) (by omega) (by omega)) (by decide) (Nat.zero_le _) (Nat.zero_le _) (fun E h' q => by obtain ⟨-, -, -, -, _, e, -⟩ := q; cases e) ?_
          rintro w883 g884 ⟨Hg884, Tg884, ig884, mg884, v882, e, ev⟩
          cases e
          have Fg884 := ty_F.trans Fg (ty_F.sub (by decide +kernel) Tg884)
          show AR _ _ _ _ _ _ _ 215 [(1, .int sg), (0, .ref 181)] [.long v882, .ref 181] g884 _ _
          refine AR.gotoT hk_152_215 (tgt := 219) (by decide) ?_
          refine AR.pT hk_152_219 (by decide) Hg884 Fg884 (q := 181) (by decide) (by decide +kernel) (show ax_cls[9]? = some hy_c9 from rfl) (by decide +kernel) (by decide) rfl (by rw [hy_t181_16]; exact ⟨_, rfl, by omega, by omega, Or.inl rfl⟩) (by decide +kernel) (by decide +kernel) ?_
          rintro g885 ⟨Hg885, Fg885, Gg885, Eg885⟩
          show AR _ _ _ _ _ _ _ 222 [(1, .int sg), (0, .ref 181)] [] g885 _ _
          have ig885 : hy_I g885 := ig884.st Gg885 (by decide) Eg885 (by decide +kernel)
          have ug885_181_7 : hy_z g885 181 7 = hy_z g884 181 7 := hy_ze (by rw [Eg885, if_neg (fun c => absurd c.2 (by decide))])
          have ug885_181_8 : hy_z g885 181 8 = hy_z g884 181 8 := hy_ze (by rw [Eg885, if_neg (fun c => absurd c.2 (by decide))])
          have ug885_181_9 : hy_z g885 181 9 = hy_z g884 181 9 := hy_ze (by rw [Eg885, if_neg (fun c => absurd c.2 (by decide))])
          have ug885_181_10 : hy_z g885 181 10 = hy_z g884 181 10 := hy_ze (by rw [Eg885, if_neg (fun c => absurd c.2 (by decide))])
          have ug885_181_11 : hy_z g885 181 11 = hy_z g884 181 11 := hy_ze (by rw [Eg885, if_neg (fun c => absurd c.2 (by decide))])
          have ug885_181_14 : hy_z g885 181 14 = hy_z g884 181 14 := hy_ze (by rw [Eg885, if_neg (fun c => absurd c.2 (by decide))])
          have ug885_181_15 : hy_z g885 181 15 = hy_z g884 181 15 := hy_ze (by rw [Eg885, if_neg (fun c => absurd c.2 (by decide))])
          have ug885_181_16 : hy_z g885 181 16 = v882.toInt := hy_zl (i := v882) (by rw [Eg885, if_pos ⟨rfl, rfl⟩])
          exact lr_b222 hlst Hg885 ig885 Fg885 (by omega) (by omega) (by omega)
    · have er : t_er (r_B h) = T.2.1 := (t_ers _ (hno (by omega))).trans (if_neg (by decide))
      refine AR.s (pc' := 200) (lv' := [(1, .int sg), (0, .ref 181)]) (st' := [.ref 181]) (h' := g) _ hn_152 hk_152_199 rfl ?_
      refine AR.c9 (as := []) (rest := []) hk_152_200 Hg (by decide +kernel) rfl rfl (Nat.le_of_ble_eq_true rfl) (lr_148 hlst Hg if867 (by omega)) (by decide) (Nat.zero_le _) (Nat.zero_le _) (fun E h' q => by cases q.1) ?_
      rintro w874 g873 ⟨eg873, Hg873, Tg873, ig873, mg873⟩
      cases eg873
      have Fg873 := ty_F.trans Fg (ty_F.sub (by decide +kernel) Tg873)
      show AR _ _ _ _ _ _ _ 203 [(1, .int sg), (0, .ref 181)] [] g873 _ _
      exact lr_b203 hlst Hg873 ig873 Fg873 (by omega) (by omega)
theorem lr_w154 (hlst : l.stackTraces = false) {X : ax_PX} {g : ax_H} (hB : ∀ p, 200 ≤ p → r_B h p = -1) (W : r_w (r_B h) g T) (F : ty_F 1901476993570184886567921778688 h g) (k15 : 3 ≤ hy_z g 181 15 ∧ hy_z g 181 15 ≤ 61) (hno : (t_mi (r_B h) T).1 ≠ 2 → t_all (r_B h) = (false, (t_mi (r_B h) T))) (hyes : (t_mi (r_B h) T).1 = 2 → t_all (r_B h) = (decide ((t_ad (r_B h) (t_mi (r_B h) T)).1 = 0), t_ad (r_B h) (t_mi (r_B h) T))) : AR ax_ns l (ax_mm 152) 3 ty_R (ax_ret ax_ns (ax_mm 152) (hq_pa h)) X 154 [(0, .ref 181)] [] g 0 0 := by
  obtain ⟨S, hw, hc1, hc⟩ := W
  obtain ⟨Hg, if886, af886, bf886, cf886, tf886, o1f886, o2f886, o3f886, o4f886, o5f886, o6f886, o7f886, o8f886, o9f886⟩ := id S
  have kf886 := r_tk_s (T).1
  have Fg := F
  show AR _ _ _ _ _ _ _ 154 [(0, .ref 181)] [] g _ _
  refine AR.s (pc' := 155) (lv' := [(0, .ref 181)]) (st' := [.ref 181]) (h' := g) _ hn_152 hk_152_154 rfl ?_
  refine AR.c9 (as := []) (rest := []) hk_152_155 Hg (by decide +kernel) rfl rfl (Nat.le_of_ble_eq_true rfl) (lr_149 hlst Hg) (by decide) (Nat.zero_le _) (Nat.zero_le _) (fun E h' q => by obtain ⟨-, x, e, -⟩ := q; cases e) ?_
  rintro w888 g887 ⟨eg887, z889, e, Az889⟩
  cases e
  obtain rfl := eg887.symm
  have Bz889 : z889.toInt = 1 := by rcases Az889 with ⟨e, c⟩ | ⟨e, c⟩ <;> omega
  show AR _ _ _ _ _ _ _ 158 [(0, .ref 181)] [.int z889] g _ _
  refine AR.zeq hk_152_158 (tgt := 174) (by decide) (fun p1 => ?_) (fun q1 => ?_)
  · exact absurd Bz889 (by omega)
  · refine AR.s (pc' := 162) (lv' := [(0, .ref 181)]) (st' := [.ref 181]) (h' := g) _ hn_152 hk_152_161 rfl ?_
    refine AR.gI hk_152_162 (by decide) Hg (q := 181) (n := 32) (by decide) (by decide +kernel) (by decide +kernel) (by decide) hy_t181_10 (fun x890 dx890 lx890 ux890 => ?_)
    show AR _ _ _ _ _ _ _ 165 [(0, .ref 181)] [.int x890] g _ _
    have sx890 := hy_zi dx890
    refine AR.bipushT hk_152_165 (by decide) (fun z891 ez891 => ?_)
    show AR _ _ _ _ _ _ _ 167 [(0, .ref 181)] [.int z891, .int x890] g _ _
    refine AR.jne hk_152_167 (tgt := 174) (by decide) (fun v1 => ?_) (fun v2 => ?_)
    · have e5 : t_mi (r_B h) T = T := if_neg (by omega)
      rw [e5] at hno hyes
      show AR _ _ _ _ _ _ _ 174 [(0, .ref 181)] [] g _ _
      refine AR.iconstT hk_152_174 (by decide) (fun z892 ez892 => ?_)
      show AR _ _ _ _ _ _ _ 175 [(0, .ref 181)] [.int z892] g _ _
      refine AR.s (pc' := 176) (lv' := [(1, .int z892), (0, .ref 181)]) (st' := []) (h' := g) _ hn_152 hk_152_175 rfl ?_
      refine AR.s (pc' := 177) (lv' := [(1, .int z892), (0, .ref 181)]) (st' := [.int z892]) (h' := g) _ hn_152 hk_152_176 rfl ?_
      refine AR.zeq hk_152_177 (tgt := 184) (by decide) (fun u1 => ?_) (fun u2 => ?_)
      · refine AR.lessL (lv' := [(1, .int z892), (0, .ref 181)]) (List.forall_mem_cons.mpr ⟨⟨_, by simp, ax_le_rfl rfl⟩, (List.forall_mem_cons.mpr ⟨⟨_, by simp, ax_le_rfl rfl⟩, (fun _ h => absurd h List.not_mem_nil)⟩)⟩) ?_
        exact lr_w184 hlst hB ⟨S, hw, hc1, hc⟩ F k15 hno hyes
      · exact absurd u2 (by omega)
    · have e5 : t_mi (r_B h) T = t_ad (r_B h) T := if_pos (by omega)
      rw [e5] at hno hyes
      show AR _ _ _ _ _ _ _ 170 [(0, .ref 181)] [] g _ _
      refine AR.iconstT hk_152_170 (by decide) (fun z893 ez893 => ?_)
      show AR _ _ _ _ _ _ _ 171 [(0, .ref 181)] [.int z893] g _ _
      refine AR.gotoT hk_152_171 (tgt := 175) (by decide) ?_
      refine AR.s (pc' := 176) (lv' := [(1, .int z893), (0, .ref 181)]) (st' := []) (h' := g) _ hn_152 hk_152_175 rfl ?_
      refine AR.s (pc' := 177) (lv' := [(1, .int z893), (0, .ref 181)]) (st' := [.int z893]) (h' := g) _ hn_152 hk_152_176 rfl ?_
      refine AR.zeq hk_152_177 (tgt := 184) (by decide) (fun u3 => ?_) (fun u4 => ?_)
      · exact absurd u3 (by omega)
      · refine AR.s (pc' := 181) (lv' := [(1, .int z893), (0, .ref 181)]) (st' := [.ref 181]) (h' := g) _ hn_152 hk_152_180 rfl ?_
        refine AR.c9 (as := []) (rest := []) hk_152_181 Hg (by decide +kernel) rfl rfl (Nat.le_of_ble_eq_true rfl) (lr_nx hlst S) (by decide) (Nat.zero_le _) (Nat.zero_le _) (fun E h' q => by cases q.1) ?_
        rintro w895 g894 ⟨eg894, Sg894, Tg894, x1g894, x2g894, x3g894, x4g894⟩
        cases eg894
        have yg894 := t_ad_le _ hB S.2.2.2.2.2.2
        have Fg894 := ty_F.trans Fg (ty_F.sub (by decide +kernel) Tg894)
        show AR _ _ _ _ _ _ _ 184 [(1, .int z893), (0, .ref 181)] [] g894 _ _
        obtain ⟨Hg894, if896, af896, bf896, cf896, tf896, o1f896, o2f896, o3f896, o4f896, o5f896, o6f896, o7f896, o8f896, o9f896⟩ := id Sg894
        have kf896 := r_tk_s (t_ad (r_B h) (T)).1
        refine AR.lessL (lv' := [(1, .int z893), (0, .ref 181)]) (List.forall_mem_cons.mpr ⟨⟨_, by simp, ax_le_rfl rfl⟩, (List.forall_mem_cons.mpr ⟨⟨_, by simp, ax_le_rfl rfl⟩, (fun _ h => absurd h List.not_mem_nil)⟩)⟩) ?_
        exact lr_w184 hlst hB ⟨Sg894, by omega, by omega, by omega⟩ Fg894 ⟨by omega, by omega⟩ hno hyes
theorem lr_w99 (hlst : l.stackTraces = false) {X : ax_PX} {g : ax_H} (hB : ∀ p, 200 ≤ p → r_B h p = -1) (W : r_w (r_B h) g T) (F : ty_F 1901476993570184886567921778688 h g) (hall : t_all (r_B h) = (if (t_re (r_B h) T).1 = true then (if (t_bd (r_B h) (t_re (r_B h) T).2).1 = true then (decide ((t_bd (r_B h) (t_re (r_B h) T).2).2.1 = 0), (t_bd (r_B h) (t_re (r_B h) T).2).2) else (false, (t_bd (r_B h) (t_re (r_B h) T).2).2)) else (false, (t_re (r_B h) T).2))) : AR ax_ns l (ax_mm 152) 3 ty_R (ax_ret ax_ns (ax_mm 152) (hq_pa h)) X 99 [(0, .ref 181)] [] g 0 0 := by
  obtain ⟨S, hw, hc1, hc⟩ := W
  obtain ⟨Hg, if897, af897, bf897, cf897, tf897, o1f897, o2f897, o3f897, o4f897, o5f897, o6f897, o7f897, o8f897, o9f897⟩ := id S
  have kf897 := r_tk_s (T).1
  have Fg := F
  show AR _ _ _ _ _ _ _ 99 [(0, .ref 181)] [] g _ _
  refine AR.s (pc' := 100) (lv' := [(0, .ref 181)]) (st' := [.ref 181]) (h' := g) _ hn_152 hk_152_99 rfl ?_
  refine AR.s (pc' := 101) (lv' := [(0, .ref 181)]) (st' := [.ref 181, .ref 181]) (h' := g) _ hn_152 hk_152_100 rfl ?_
  refine AR.gI hk_152_101 (by decide) Hg (q := 181) (n := 32) (by decide) (by decide +kernel) (by decide +kernel) (by decide) hy_t181_10 (fun x898 dx898 lx898 ux898 => ?_)
  show AR _ _ _ _ _ _ _ 104 [(0, .ref 181)] [.int x898, .ref 181] g _ _
  have sx898 := hy_zi dx898
  refine AR.pT hk_152_104 (by decide) Hg Fg (q := 181) (by decide) (by decide +kernel) (show ax_cls[9]? = some hy_c9 from rfl) (by decide +kernel) (by decide) rfl (by rw [hy_t181_15]; exact ⟨_, rfl, by omega, by omega, Or.inl rfl⟩) (by decide +kernel) (by decide +kernel) ?_
  rintro g899 ⟨Hg899, Fg899, Gg899, Eg899⟩
  show AR _ _ _ _ _ _ _ 107 [(0, .ref 181)] [] g899 _ _
  have ig899 : hy_I g899 := if897.st Gg899 (by decide) Eg899 (by decide +kernel)
  have ug899_181_7 : hy_z g899 181 7 = hy_z g 181 7 := hy_ze (by rw [Eg899, if_neg (fun c => absurd c.2 (by decide))])
  have ug899_181_8 : hy_z g899 181 8 = hy_z g 181 8 := hy_ze (by rw [Eg899, if_neg (fun c => absurd c.2 (by decide))])
  have ug899_181_9 : hy_z g899 181 9 = hy_z g 181 9 := hy_ze (by rw [Eg899, if_neg (fun c => absurd c.2 (by decide))])
  have ug899_181_10 : hy_z g899 181 10 = hy_z g 181 10 := hy_ze (by rw [Eg899, if_neg (fun c => absurd c.2 (by decide))])
  have ug899_181_11 : hy_z g899 181 11 = hy_z g 181 11 := hy_ze (by rw [Eg899, if_neg (fun c => absurd c.2 (by decide))])
  have ug899_181_14 : hy_z g899 181 14 = hy_z g 181 14 := hy_ze (by rw [Eg899, if_neg (fun c => absurd c.2 (by decide))])
  have ug899_181_15 : hy_z g899 181 15 = x898.toInt := hy_zi (i := x898) (by rw [Eg899, if_pos ⟨rfl, rfl⟩])
  have ug899_181_16 : hy_z g899 181 16 = hy_z g 181 16 := hy_ze (by rw [Eg899, if_neg (fun c => absurd c.2 (by decide))])
  refine AR.s (pc' := 108) (lv' := [(0, .ref 181)]) (st' := [.ref 181]) (h' := g899) _ hn_152 hk_152_107 rfl ?_
  refine AR.c9 (as := []) (rest := []) hk_152_108 Hg899 (by decide +kernel) rfl rfl (Nat.le_of_ble_eq_true rfl) (lr_149 hlst Hg899) (by decide) (Nat.zero_le _) (Nat.zero_le _) (fun E h' q => by obtain ⟨-, x, e, -⟩ := q; cases e) ?_
  rintro w901 g900 ⟨eg900, z902, e, Az902⟩
  cases e
  obtain rfl := eg900.symm
  have Bz902 : z902.toInt = 1 := by rcases Az902 with ⟨e, c⟩ | ⟨e, c⟩ <;> omega
  show AR _ _ _ _ _ _ _ 111 [(0, .ref 181)] [.int z902] g899 _ _
  refine AR.zeq hk_152_111 (tgt := 143) (by decide) (fun p1 => ?_) (fun q1 => ?_)
  · exact absurd Bz902 (by omega)
  · refine AR.s (pc' := 115) (lv' := [(0, .ref 181)]) (st' := [.ref 181]) (h' := g899) _ hn_152 hk_152_114 rfl ?_
    refine AR.gI hk_152_115 (by decide) Hg899 (q := 181) (n := 32) (by decide) (by decide +kernel) (by decide +kernel) (by decide) hy_t181_10 (fun x903 dx903 lx903 ux903 => ?_)
    show AR _ _ _ _ _ _ _ 118 [(0, .ref 181)] [.int x903] g899 _ _
    have sx903 := hy_zi dx903
    refine AR.bipushT hk_152_118 (by decide) (fun z904 ez904 => ?_)
    show AR _ _ _ _ _ _ _ 120 [(0, .ref 181)] [.int z904, .int x903] g899 _ _
    refine AR.jeq hk_152_120 (tgt := 143) (by decide) (fun y0 => ?_) (fun x0 => ?_)
    · have et : t_re (r_B h) T = (true, t_ad (r_B h) T) := if_pos (by omega)
      refine AR.s (pc' := 144) (lv' := [(0, .ref 181)]) (st' := [.ref 181]) (h' := g899) _ hn_152 hk_152_143 rfl ?_
      refine AR.c9 (as := []) (rest := []) hk_152_144 Hg899 (by decide +kernel) rfl rfl (Nat.le_of_ble_eq_true rfl) (lr_149 hlst Hg899) (by decide) (Nat.zero_le _) (Nat.zero_le _) (fun E h' q => by obtain ⟨-, x, e, -⟩ := q; cases e) ?_
      rintro w906 g905 ⟨eg905, z907, e, Az907⟩
      cases e
      obtain rfl := eg905.symm
      have Bz907 : z907.toInt = 1 := by rcases Az907 with ⟨e, c⟩ | ⟨e, c⟩ <;> omega
      show AR _ _ _ _ _ _ _ 147 [(0, .ref 181)] [.int z907] g899 _ _
      refine AR.zeq hk_152_147 (tgt := 154) (by decide) (fun p2 => ?_) (fun q2 => ?_)
      · exact absurd Bz907 (by omega)
      · refine AR.s (pc' := 151) (lv' := [(0, .ref 181)]) (st' := [.ref 181]) (h' := g899) _ hn_152 hk_152_150 rfl ?_
        have S2 : r_st (r_B h) g899 T := ⟨Hg899, ig899, by omega, by omega, by omega, (r_B_F Gg899 (by decide +kernel)).trans tf897, S.2.2.2.2.2.2⟩
        refine AR.c9 (as := []) (rest := []) hk_152_151 Hg899 (by decide +kernel) rfl rfl (Nat.le_of_ble_eq_true rfl) (lr_nx hlst S2) (by decide) (Nat.zero_le _) (Nat.zero_le _) (fun E h' q => by cases q.1) ?_
        rintro w909 g908 ⟨eg908, Sg908, Tg908, x1g908, x2g908, x3g908, x4g908⟩
        cases eg908
        have yg908 := t_ad_le _ hB S2.2.2.2.2.2.2
        have Fg908 := ty_F.trans Fg899 (ty_F.sub (by decide +kernel) Tg908)
        show AR _ _ _ _ _ _ _ 154 [(0, .ref 181)] [] g908 _ _
        obtain ⟨Hg908, if910, af910, bf910, cf910, tf910, o1f910, o2f910, o3f910, o4f910, o5f910, o6f910, o7f910, o8f910, o9f910⟩ := id Sg908
        have kf910 := r_tk_s (t_ad (r_B h) (T)).1
        refine lr_w154 hlst hB ⟨Sg908, by omega, by omega, by omega⟩ Fg908 ⟨by omega, by omega⟩ (fun c => ?_) (fun c => ?_)
        · rw [hall, et]
          show (if (t_bd (r_B h) (t_ad (r_B h) T)).1 = true then _ else _) = _
          rw [show t_bd (r_B h) (t_ad (r_B h) T) = (false, t_mi (r_B h) (t_ad (r_B h) T)) from if_neg c]
          rfl
        · rw [hall, et]
          show (if (t_bd (r_B h) (t_ad (r_B h) T)).1 = true then _ else _) = _
          rw [show t_bd (r_B h) (t_ad (r_B h) T) = (true, t_ad (r_B h) (t_mi (r_B h) (t_ad (r_B h) T))) from if_pos c]
          rfl
    · refine AR.s (pc' := 124) (lv' := [(0, .ref 181)]) (st' := [.ref 181]) (h' := g899) _ hn_152 hk_152_123 rfl ?_
      refine AR.gI hk_152_124 (by decide) Hg899 (q := 181) (n := 32) (by decide) (by decide +kernel) (by decide +kernel) (by decide) hy_t181_10 (fun x911 dx911 lx911 ux911 => ?_)
      show AR _ _ _ _ _ _ _ 127 [(0, .ref 181)] [.int x911] g899 _ _
      have sx911 := hy_zi dx911
      refine AR.iconstT hk_152_127 (by decide) (fun z912 ez912 => ?_)
      show AR _ _ _ _ _ _ _ 128 [(0, .ref 181)] [.int z912, .int x911] g899 _ _
      refine AR.jeq hk_152_128 (tgt := 143) (by decide) (fun y1 => ?_) (fun x1 => ?_)
      · have et : t_re (r_B h) T = (true, t_ad (r_B h) T) := if_pos (by omega)
        refine AR.s (pc' := 144) (lv' := [(0, .ref 181)]) (st' := [.ref 181]) (h' := g899) _ hn_152 hk_152_143 rfl ?_
        refine AR.c9 (as := []) (rest := []) hk_152_144 Hg899 (by decide +kernel) rfl rfl (Nat.le_of_ble_eq_true rfl) (lr_149 hlst Hg899) (by decide) (Nat.zero_le _) (Nat.zero_le _) (fun E h' q => by obtain ⟨-, x, e, -⟩ := q; cases e) ?_
        rintro w914 g913 ⟨eg913, z915, e, Az915⟩
        cases e
        obtain rfl := eg913.symm
        have Bz915 : z915.toInt = 1 := by rcases Az915 with ⟨e, c⟩ | ⟨e, c⟩ <;> omega
        show AR _ _ _ _ _ _ _ 147 [(0, .ref 181)] [.int z915] g899 _ _
        refine AR.zeq hk_152_147 (tgt := 154) (by decide) (fun p2 => ?_) (fun q2 => ?_)
        · exact absurd Bz915 (by omega)
        · refine AR.s (pc' := 151) (lv' := [(0, .ref 181)]) (st' := [.ref 181]) (h' := g899) _ hn_152 hk_152_150 rfl ?_
          have S2 : r_st (r_B h) g899 T := ⟨Hg899, ig899, by omega, by omega, by omega, (r_B_F Gg899 (by decide +kernel)).trans tf897, S.2.2.2.2.2.2⟩
          refine AR.c9 (as := []) (rest := []) hk_152_151 Hg899 (by decide +kernel) rfl rfl (Nat.le_of_ble_eq_true rfl) (lr_nx hlst S2) (by decide) (Nat.zero_le _) (Nat.zero_le _) (fun E h' q => by cases q.1) ?_
          rintro w917 g916 ⟨eg916, Sg916, Tg916, x1g916, x2g916, x3g916, x4g916⟩
          cases eg916
          have yg916 := t_ad_le _ hB S2.2.2.2.2.2.2
          have Fg916 := ty_F.trans Fg899 (ty_F.sub (by decide +kernel) Tg916)
          show AR _ _ _ _ _ _ _ 154 [(0, .ref 181)] [] g916 _ _
          obtain ⟨Hg916, if918, af918, bf918, cf918, tf918, o1f918, o2f918, o3f918, o4f918, o5f918, o6f918, o7f918, o8f918, o9f918⟩ := id Sg916
          have kf918 := r_tk_s (t_ad (r_B h) (T)).1
          refine lr_w154 hlst hB ⟨Sg916, by omega, by omega, by omega⟩ Fg916 ⟨by omega, by omega⟩ (fun c => ?_) (fun c => ?_)
          · rw [hall, et]
            show (if (t_bd (r_B h) (t_ad (r_B h) T)).1 = true then _ else _) = _
            rw [show t_bd (r_B h) (t_ad (r_B h) T) = (false, t_mi (r_B h) (t_ad (r_B h) T)) from if_neg c]
            rfl
          · rw [hall, et]
            show (if (t_bd (r_B h) (t_ad (r_B h) T)).1 = true then _ else _) = _
            rw [show t_bd (r_B h) (t_ad (r_B h) T) = (true, t_ad (r_B h) (t_mi (r_B h) (t_ad (r_B h) T))) from if_pos c]
            rfl
      · refine AR.s (pc' := 132) (lv' := [(0, .ref 181)]) (st' := [.ref 181]) (h' := g899) _ hn_152 hk_152_131 rfl ?_
        refine AR.gI hk_152_132 (by decide) Hg899 (q := 181) (n := 32) (by decide) (by decide +kernel) (by decide +kernel) (by decide) hy_t181_10 (fun x919 dx919 lx919 ux919 => ?_)
        show AR _ _ _ _ _ _ _ 135 [(0, .ref 181)] [.int x919] g899 _ _
        have sx919 := hy_zi dx919
        refine AR.iconstT hk_152_135 (by decide) (fun z920 ez920 => ?_)
        show AR _ _ _ _ _ _ _ 136 [(0, .ref 181)] [.int z920, .int x919] g899 _ _
        refine AR.jeq hk_152_136 (tgt := 143) (by decide) (fun y2 => ?_) (fun x2 => ?_)
        · have et : t_re (r_B h) T = (true, t_ad (r_B h) T) := if_pos (by omega)
          refine AR.s (pc' := 144) (lv' := [(0, .ref 181)]) (st' := [.ref 181]) (h' := g899) _ hn_152 hk_152_143 rfl ?_
          refine AR.c9 (as := []) (rest := []) hk_152_144 Hg899 (by decide +kernel) rfl rfl (Nat.le_of_ble_eq_true rfl) (lr_149 hlst Hg899) (by decide) (Nat.zero_le _) (Nat.zero_le _) (fun E h' q => by obtain ⟨-, x, e, -⟩ := q; cases e) ?_
          rintro w922 g921 ⟨eg921, z923, e, Az923⟩
          cases e
          obtain rfl := eg921.symm
          have Bz923 : z923.toInt = 1 := by rcases Az923 with ⟨e, c⟩ | ⟨e, c⟩ <;> omega
          show AR _ _ _ _ _ _ _ 147 [(0, .ref 181)] [.int z923] g899 _ _
          refine AR.zeq hk_152_147 (tgt := 154) (by decide) (fun p2 => ?_) (fun q2 => ?_)
          · exact absurd Bz923 (by omega)
          · refine AR.s (pc' := 151) (lv' := [(0, .ref 181)]) (st' := [.ref 181]) (h' := g899) _ hn_152 hk_152_150 rfl ?_
            have S2 : r_st (r_B h) g899 T := ⟨Hg899, ig899, by omega, by omega, by omega, (r_B_F Gg899 (by decide +kernel)).trans tf897, S.2.2.2.2.2.2⟩
            refine AR.c9 (as := []) (rest := []) hk_152_151 Hg899 (by decide +kernel) rfl rfl (Nat.le_of_ble_eq_true rfl) (lr_nx hlst S2) (by decide) (Nat.zero_le _) (Nat.zero_le _) (fun E h' q => by cases q.1) ?_
            rintro w925 g924 ⟨eg924, Sg924, Tg924, x1g924, x2g924, x3g924, x4g924⟩
            cases eg924
            have yg924 := t_ad_le _ hB S2.2.2.2.2.2.2
            have Fg924 := ty_F.trans Fg899 (ty_F.sub (by decide +kernel) Tg924)
            show AR _ _ _ _ _ _ _ 154 [(0, .ref 181)] [] g924 _ _
            obtain ⟨Hg924, if926, af926, bf926, cf926, tf926, o1f926, o2f926, o3f926, o4f926, o5f926, o6f926, o7f926, o8f926, o9f926⟩ := id Sg924
            have kf926 := r_tk_s (t_ad (r_B h) (T)).1
            refine lr_w154 hlst hB ⟨Sg924, by omega, by omega, by omega⟩ Fg924 ⟨by omega, by omega⟩ (fun c => ?_) (fun c => ?_)
            · rw [hall, et]
              show (if (t_bd (r_B h) (t_ad (r_B h) T)).1 = true then _ else _) = _
              rw [show t_bd (r_B h) (t_ad (r_B h) T) = (false, t_mi (r_B h) (t_ad (r_B h) T)) from if_neg c]
              rfl
            · rw [hall, et]
              show (if (t_bd (r_B h) (t_ad (r_B h) T)).1 = true then _ else _) = _
              rw [show t_bd (r_B h) (t_ad (r_B h) T) = (true, t_ad (r_B h) (t_mi (r_B h) (t_ad (r_B h) T))) from if_pos c]
              rfl
        · have et : t_re (r_B h) T = (false, T) := if_neg (by omega)
          have er : t_er (r_B h) = T.2.1 := (t_ers _ (b := false) (T := T) (by rw [hall, et]; rfl)).trans (if_neg (by decide))
          refine AR.s (pc' := 140) (lv' := [(0, .ref 181)]) (st' := [.ref 181]) (h' := g899) _ hn_152 hk_152_139 rfl ?_
          refine AR.c9 (as := []) (rest := []) hk_152_140 Hg899 (by decide +kernel) rfl rfl (Nat.le_of_ble_eq_true rfl) (lr_148 hlst Hg899 ig899 (by omega)) (by decide) (Nat.zero_le _) (Nat.zero_le _) (fun E h' q => by cases q.1) ?_
          rintro w928 g927 ⟨eg927, Hg927, Tg927, ig927, mg927⟩
          cases eg927
          have Fg927 := ty_F.trans Fg899 (ty_F.sub (by decide +kernel) Tg927)
          show AR _ _ _ _ _ _ _ 143 [(0, .ref 181)] [] g927 _ _
          exact lr_b143 hlst Hg927 ig927 Fg927 (by omega) (by omega)
theorem t_ms_f (B : Int → Int) (n : Nat) (T : t_K) : t_ms B n (false, T) = (false, T) := by
  cases n with
  | zero => rfl
  | succ n => exact if_neg (fun c => by have e : false = true := c.1; cases e)
theorem lr_w47 (hlst : l.stackTraces = false) {X : ax_PX} (hB : ∀ p, 200 ≤ p → r_B h p = -1) : ∀ (n : Nat) (g : ax_H) (T : t_K) (sg : Int32), 201 ≤ T.2.1 + n → r_w (r_B h) g T → ty_F 1901476993570184886567921778688 h g → t_all (r_B h) = (if (t_ms (r_B h) n (true, T)).1 = true then (if (t_re (r_B h) (t_ms (r_B h) n (true, T)).2).1 = true then (if (t_bd (r_B h) (t_re (r_B h) (t_ms (r_B h) n (true, T)).2).2).1 = true then (decide ((t_bd (r_B h) (t_re (r_B h) (t_ms (r_B h) n (true, T)).2).2).2.1 = 0), (t_bd (r_B h) (t_re (r_B h) (t_ms (r_B h) n (true, T)).2).2).2) else (false, (t_bd (r_B h) (t_re (r_B h) (t_ms (r_B h) n (true, T)).2).2).2)) else (false, (t_re (r_B h) (t_ms (r_B h) n (true, T)).2).2)) else (false, (t_ms (r_B h) n (true, T)).2)) → AR ax_ns l (ax_mm 152) 3 ty_R (ax_ret ax_ns (ax_mm 152) (hq_pa h)) X 47 [(1, .int sg), (0, .ref 181)] [] g 0 0 := by
  intro n
  induction n with
  | zero =>
    intro g T sg hn W
    have := W.1.2.2.2.2.2.2
    obtain ⟨o1, o2, o3, -⟩ := this
    omega
  | succ n ih =>
    intro g T sg hn W F hall
    obtain ⟨S, hw, hc1, hc⟩ := W
    obtain ⟨Hg, if929, af929, bf929, cf929, tf929, o1f929, o2f929, o3f929, o4f929, o5f929, o6f929, o7f929, o8f929, o9f929⟩ := id S
    have kf929 := r_tk_s (T).1
    have Fg := F
    show AR _ _ _ _ _ _ _ 47 [(1, .int sg), (0, .ref 181)] [] g _ _
    refine AR.s (pc' := 48) (lv' := [(1, .int sg), (0, .ref 181)]) (st' := [.ref 181]) (h' := g) _ hn_152 hk_152_47 rfl ?_
    refine AR.c9 (as := []) (rest := []) hk_152_48 Hg (by decide +kernel) rfl rfl (Nat.le_of_ble_eq_true rfl) (lr_149 hlst Hg) (by decide) (Nat.zero_le _) (Nat.zero_le _) (fun E h' q => by obtain ⟨-, x, e, -⟩ := q; cases e) ?_
    rintro w931 g930 ⟨eg930, z932, e, Az932⟩
    cases e
    obtain rfl := eg930.symm
    have Bz932 : z932.toInt = 1 := by rcases Az932 with ⟨e, c⟩ | ⟨e, c⟩ <;> omega
    show AR _ _ _ _ _ _ _ 51 [(1, .int sg), (0, .ref 181)] [.int z932] g _ _
    refine AR.zeq hk_152_51 (tgt := 99) (by decide) (fun p1 => ?_) (fun q1 => ?_)
    · exact absurd Bz932 (by omega)
    · refine AR.s (pc' := 55) (lv' := [(1, .int sg), (0, .ref 181)]) (st' := [.ref 181]) (h' := g) _ hn_152 hk_152_54 rfl ?_
      refine AR.gI hk_152_55 (by decide) Hg (q := 181) (n := 32) (by decide) (by decide +kernel) (by decide +kernel) (by decide) hy_t181_10 (fun x933 dx933 lx933 ux933 => ?_)
      show AR _ _ _ _ _ _ _ 58 [(1, .int sg), (0, .ref 181)] [.int x933] g _ _
      have sx933 := hy_zi dx933
      refine AR.bipushT hk_152_58 (by decide) (fun z934 ez934 => ?_)
      show AR _ _ _ _ _ _ _ 60 [(1, .int sg), (0, .ref 181)] [.int z934, .int x933] g _ _
      refine AR.jeq hk_152_60 (tgt := 72) (by decide) (fun m1 => ?_) (fun m2 => ?_)
      · have er : t_ms (r_B h) (n + 1) (true, T) = t_ms (r_B h) n (t_tm (r_B h) (t_ad (r_B h) T)) := if_pos ⟨rfl, by show T.1 = 4 ∨ T.1 = 5; omega⟩
        rw [er] at hall
        show AR _ _ _ _ _ _ _ 72 [(1, .int sg), (0, .ref 181)] [] g _ _
        refine AR.s (pc' := 73) (lv' := [(1, .int sg), (0, .ref 181)]) (st' := [.ref 181]) (h' := g) _ hn_152 hk_152_72 rfl ?_
        refine AR.gI hk_152_73 (by decide) Hg (q := 181) (n := 32) (by decide) (by decide +kernel) (by decide +kernel) (by decide) hy_t181_10 (fun x935 dx935 lx935 ux935 => ?_)
        show AR _ _ _ _ _ _ _ 76 [(1, .int sg), (0, .ref 181)] [.int x935] g _ _
        have sx935 := hy_zi dx935
        refine AR.bipushT hk_152_76 (by decide) (fun z936 ez936 => ?_)
        show AR _ _ _ _ _ _ _ 78 [(1, .int sg), (0, .ref 181)] [.int z936, .int x935] g _ _
        refine AR.jne hk_152_78 (tgt := 85) (by decide) (fun k1 => ?_) (fun k2 => ?_)
        · refine AR.iconstT hk_152_85 (by decide) (fun z937 ez937 => ?_)
          show AR _ _ _ _ _ _ _ 86 [(1, .int sg), (0, .ref 181)] [.int z937] g _ _
          refine AR.s (pc' := 87) (lv' := [(1, .int z937), (0, .ref 181)]) (st' := []) (h' := g) _ hn_152 hk_152_86 rfl ?_
          refine AR.s (pc' := 88) (lv' := [(1, .int z937), (0, .ref 181)]) (st' := [.ref 181]) (h' := g) _ hn_152 hk_152_87 rfl ?_
          refine AR.c9 (as := []) (rest := []) hk_152_88 Hg (by decide +kernel) rfl rfl (Nat.le_of_ble_eq_true rfl) (lr_nx hlst S) (by decide) (Nat.zero_le _) (Nat.zero_le _) (fun E h' q => by cases q.1) ?_
          rintro w939 g938 ⟨eg938, Sg938, Tg938, x1g938, x2g938, x3g938, x4g938⟩
          cases eg938
          have yg938 := t_ad_le _ hB S.2.2.2.2.2.2
          have Fg938 := ty_F.trans Fg (ty_F.sub (by decide +kernel) Tg938)
          show AR _ _ _ _ _ _ _ 91 [(1, .int z937), (0, .ref 181)] [] g938 _ _
          obtain ⟨Hg938, if940, af940, bf940, cf940, tf940, o1f940, o2f940, o3f940, o4f940, o5f940, o6f940, o7f940, o8f940, o9f940⟩ := id Sg938
          have kf940 := r_tk_s (t_ad (r_B h) (T)).1
          refine AR.s (pc' := 92) (lv' := [(1, .int z937), (0, .ref 181)]) (st' := [.ref 181]) (h' := g938) _ hn_152 hk_152_91 rfl ?_
          refine AR.s (pc' := 93) (lv' := [(1, .int z937), (0, .ref 181)]) (st' := [.int z937, .ref 181]) (h' := g938) _ hn_152 hk_152_92 rfl ?_
          refine AR.c9 (as := [.int z937]) (rest := []) hk_152_93 Hg938 (by decide +kernel) rfl rfl (Nat.le_of_ble_eq_true rfl) (lr_151 hlst hB Sg938 (by omega) (by omega) (by omega)) (by decide) (Nat.zero_le _) (Nat.zero_le _) (fun E h' q => by cases q.1) ?_
          rintro w941 g942 ⟨eg942, Tg942, Dg942⟩
          cases eg942
          have Fg942 := ty_F.trans Fg938 (ty_F.sub (by decide +kernel) Tg942)
          show AR _ _ _ _ _ _ _ 96 [(1, .int z937), (0, .ref 181)] [] g942 _ _
          rcases Dg942 with ⟨er, S3, hw3, hc3, hl3⟩ | ⟨er, H3, i3, me, m0⟩
          · have eR : t_tm (r_B h) (t_ad (r_B h) (T)) = (true, (t_tm (r_B h) (t_ad (r_B h) (T))).2) := Prod.ext er rfl
            rw [eR] at hall
            show AR _ _ _ _ _ _ _ 96 [(1, .int z937), (0, .ref 181)] [] g942 _ _
            refine AR.gotoT hk_152_96 (tgt := 47) (by decide) ?_
            refine AR.lessL (lv' := [(1, .int z937), (0, .ref 181)]) (List.forall_mem_cons.mpr ⟨⟨_, by simp, ax_le_rfl rfl⟩, (List.forall_mem_cons.mpr ⟨⟨_, by simp, ax_le_rfl rfl⟩, (fun _ h => absurd h List.not_mem_nil)⟩)⟩) ?_
            exact ih g942 _ _ (by omega) ⟨S3, by omega, by omega, by omega⟩ Fg942 hall
          · have eR : t_ms (r_B h) n (t_tm (r_B h) (t_ad (r_B h) (T))) = (false, (t_tm (r_B h) (t_ad (r_B h) (T))).2) := by
              rw [show t_tm (r_B h) (t_ad (r_B h) (T)) = (false, (t_tm (r_B h) (t_ad (r_B h) (T))).2) from Prod.ext er rfl]
              exact t_ms_f _ _ _
            rw [eR] at hall
            have ee : t_er (r_B h) = (t_tm (r_B h) (t_ad (r_B h) (T))).2.2.1 := (t_ers _ (b := false) (T := (t_tm (r_B h) (t_ad (r_B h) (T))).2) hall).trans (if_neg (by decide))
            show AR _ _ _ _ _ _ _ 96 [(1, .int z937), (0, .ref 181)] [] g942 _ _
            refine AR.gotoT hk_152_96 (tgt := 47) (by decide) ?_
            refine AR.lessL (lv' := [(1, .int z937), (0, .ref 181)]) (List.forall_mem_cons.mpr ⟨⟨_, by simp, ax_le_rfl rfl⟩, (List.forall_mem_cons.mpr ⟨⟨_, by simp, ax_le_rfl rfl⟩, (fun _ h => absurd h List.not_mem_nil)⟩)⟩) ?_
            exact lr_b47 hlst H3 i3 Fg942 (by omega) (by omega)
        · refine AR.iconstT hk_152_81 (by decide) (fun z943 ez943 => ?_)
          show AR _ _ _ _ _ _ _ 82 [(1, .int sg), (0, .ref 181)] [.int z943] g _ _
          refine AR.gotoT hk_152_82 (tgt := 86) (by decide) ?_
          refine AR.s (pc' := 87) (lv' := [(1, .int z943), (0, .ref 181)]) (st' := []) (h' := g) _ hn_152 hk_152_86 rfl ?_
          refine AR.s (pc' := 88) (lv' := [(1, .int z943), (0, .ref 181)]) (st' := [.ref 181]) (h' := g) _ hn_152 hk_152_87 rfl ?_
          refine AR.c9 (as := []) (rest := []) hk_152_88 Hg (by decide +kernel) rfl rfl (Nat.le_of_ble_eq_true rfl) (lr_nx hlst S) (by decide) (Nat.zero_le _) (Nat.zero_le _) (fun E h' q => by cases q.1) ?_
          rintro w945 g944 ⟨eg944, Sg944, Tg944, x1g944, x2g944, x3g944, x4g944⟩
          cases eg944
          have yg944 := t_ad_le _ hB S.2.2.2.2.2.2
          have Fg944 := ty_F.trans Fg (ty_F.sub (by decide +kernel) Tg944)
          show AR _ _ _ _ _ _ _ 91 [(1, .int z943), (0, .ref 181)] [] g944 _ _
          obtain ⟨Hg944, if946, af946, bf946, cf946, tf946, o1f946, o2f946, o3f946, o4f946, o5f946, o6f946, o7f946, o8f946, o9f946⟩ := id Sg944
          have kf946 := r_tk_s (t_ad (r_B h) (T)).1
          refine AR.s (pc' := 92) (lv' := [(1, .int z943), (0, .ref 181)]) (st' := [.ref 181]) (h' := g944) _ hn_152 hk_152_91 rfl ?_
          refine AR.s (pc' := 93) (lv' := [(1, .int z943), (0, .ref 181)]) (st' := [.int z943, .ref 181]) (h' := g944) _ hn_152 hk_152_92 rfl ?_
          refine AR.c9 (as := [.int z943]) (rest := []) hk_152_93 Hg944 (by decide +kernel) rfl rfl (Nat.le_of_ble_eq_true rfl) (lr_151 hlst hB Sg944 (by omega) (by omega) (by omega)) (by decide) (Nat.zero_le _) (Nat.zero_le _) (fun E h' q => by cases q.1) ?_
          rintro w947 g948 ⟨eg948, Tg948, Dg948⟩
          cases eg948
          have Fg948 := ty_F.trans Fg944 (ty_F.sub (by decide +kernel) Tg948)
          show AR _ _ _ _ _ _ _ 96 [(1, .int z943), (0, .ref 181)] [] g948 _ _
          rcases Dg948 with ⟨er, S3, hw3, hc3, hl3⟩ | ⟨er, H3, i3, me, m0⟩
          · have eR : t_tm (r_B h) (t_ad (r_B h) (T)) = (true, (t_tm (r_B h) (t_ad (r_B h) (T))).2) := Prod.ext er rfl
            rw [eR] at hall
            show AR _ _ _ _ _ _ _ 96 [(1, .int z943), (0, .ref 181)] [] g948 _ _
            refine AR.gotoT hk_152_96 (tgt := 47) (by decide) ?_
            refine AR.lessL (lv' := [(1, .int z943), (0, .ref 181)]) (List.forall_mem_cons.mpr ⟨⟨_, by simp, ax_le_rfl rfl⟩, (List.forall_mem_cons.mpr ⟨⟨_, by simp, ax_le_rfl rfl⟩, (fun _ h => absurd h List.not_mem_nil)⟩)⟩) ?_
            exact ih g948 _ _ (by omega) ⟨S3, by omega, by omega, by omega⟩ Fg948 hall
          · have eR : t_ms (r_B h) n (t_tm (r_B h) (t_ad (r_B h) (T))) = (false, (t_tm (r_B h) (t_ad (r_B h) (T))).2) := by
              rw [show t_tm (r_B h) (t_ad (r_B h) (T)) = (false, (t_tm (r_B h) (t_ad (r_B h) (T))).2) from Prod.ext er rfl]
              exact t_ms_f _ _ _
            rw [eR] at hall
            have ee : t_er (r_B h) = (t_tm (r_B h) (t_ad (r_B h) (T))).2.2.1 := (t_ers _ (b := false) (T := (t_tm (r_B h) (t_ad (r_B h) (T))).2) hall).trans (if_neg (by decide))
            show AR _ _ _ _ _ _ _ 96 [(1, .int z943), (0, .ref 181)] [] g948 _ _
            refine AR.gotoT hk_152_96 (tgt := 47) (by decide) ?_
            refine AR.lessL (lv' := [(1, .int z943), (0, .ref 181)]) (List.forall_mem_cons.mpr ⟨⟨_, by simp, ax_le_rfl rfl⟩, (List.forall_mem_cons.mpr ⟨⟨_, by simp, ax_le_rfl rfl⟩, (fun _ h => absurd h List.not_mem_nil)⟩)⟩) ?_
            exact lr_b47 hlst H3 i3 Fg948 (by omega) (by omega)
      · refine AR.s (pc' := 64) (lv' := [(1, .int sg), (0, .ref 181)]) (st' := [.ref 181]) (h' := g) _ hn_152 hk_152_63 rfl ?_
        refine AR.gI hk_152_64 (by decide) Hg (q := 181) (n := 32) (by decide) (by decide +kernel) (by decide +kernel) (by decide) hy_t181_10 (fun x949 dx949 lx949 ux949 => ?_)
        show AR _ _ _ _ _ _ _ 67 [(1, .int sg), (0, .ref 181)] [.int x949] g _ _
        have sx949 := hy_zi dx949
        refine AR.bipushT hk_152_67 (by decide) (fun z950 ez950 => ?_)
        show AR _ _ _ _ _ _ _ 69 [(1, .int sg), (0, .ref 181)] [.int z950, .int x949] g _ _
        refine AR.jne hk_152_69 (tgt := 99) (by decide) (fun o1 => ?_) (fun o2 => ?_)
        · have er : t_ms (r_B h) (n + 1) (true, T) = (true, T) := if_neg (fun c => by have : T.1 = 4 ∨ T.1 = 5 := c.2; omega)
          rw [er] at hall
          refine AR.lessL (lv' := [(0, .ref 181)]) (List.forall_mem_cons.mpr ⟨⟨_, by simp, ax_le_rfl rfl⟩, (fun _ h => absurd h List.not_mem_nil)⟩) ?_
          exact lr_w99 hlst hB ⟨S, hw, hc1, hc⟩ F hall
        · have er : t_ms (r_B h) (n + 1) (true, T) = t_ms (r_B h) n (t_tm (r_B h) (t_ad (r_B h) T)) := if_pos ⟨rfl, by show T.1 = 4 ∨ T.1 = 5; omega⟩
          rw [er] at hall
          show AR _ _ _ _ _ _ _ 72 [(1, .int sg), (0, .ref 181)] [] g _ _
          refine AR.s (pc' := 73) (lv' := [(1, .int sg), (0, .ref 181)]) (st' := [.ref 181]) (h' := g) _ hn_152 hk_152_72 rfl ?_
          refine AR.gI hk_152_73 (by decide) Hg (q := 181) (n := 32) (by decide) (by decide +kernel) (by decide +kernel) (by decide) hy_t181_10 (fun x951 dx951 lx951 ux951 => ?_)
          show AR _ _ _ _ _ _ _ 76 [(1, .int sg), (0, .ref 181)] [.int x951] g _ _
          have sx951 := hy_zi dx951
          refine AR.bipushT hk_152_76 (by decide) (fun z952 ez952 => ?_)
          show AR _ _ _ _ _ _ _ 78 [(1, .int sg), (0, .ref 181)] [.int z952, .int x951] g _ _
          refine AR.jne hk_152_78 (tgt := 85) (by decide) (fun k1 => ?_) (fun k2 => ?_)
          · refine AR.iconstT hk_152_85 (by decide) (fun z953 ez953 => ?_)
            show AR _ _ _ _ _ _ _ 86 [(1, .int sg), (0, .ref 181)] [.int z953] g _ _
            refine AR.s (pc' := 87) (lv' := [(1, .int z953), (0, .ref 181)]) (st' := []) (h' := g) _ hn_152 hk_152_86 rfl ?_
            refine AR.s (pc' := 88) (lv' := [(1, .int z953), (0, .ref 181)]) (st' := [.ref 181]) (h' := g) _ hn_152 hk_152_87 rfl ?_
            refine AR.c9 (as := []) (rest := []) hk_152_88 Hg (by decide +kernel) rfl rfl (Nat.le_of_ble_eq_true rfl) (lr_nx hlst S) (by decide) (Nat.zero_le _) (Nat.zero_le _) (fun E h' q => by cases q.1) ?_
            rintro w955 g954 ⟨eg954, Sg954, Tg954, x1g954, x2g954, x3g954, x4g954⟩
            cases eg954
            have yg954 := t_ad_le _ hB S.2.2.2.2.2.2
            have Fg954 := ty_F.trans Fg (ty_F.sub (by decide +kernel) Tg954)
            show AR _ _ _ _ _ _ _ 91 [(1, .int z953), (0, .ref 181)] [] g954 _ _
            obtain ⟨Hg954, if956, af956, bf956, cf956, tf956, o1f956, o2f956, o3f956, o4f956, o5f956, o6f956, o7f956, o8f956, o9f956⟩ := id Sg954
            have kf956 := r_tk_s (t_ad (r_B h) (T)).1
            refine AR.s (pc' := 92) (lv' := [(1, .int z953), (0, .ref 181)]) (st' := [.ref 181]) (h' := g954) _ hn_152 hk_152_91 rfl ?_
            refine AR.s (pc' := 93) (lv' := [(1, .int z953), (0, .ref 181)]) (st' := [.int z953, .ref 181]) (h' := g954) _ hn_152 hk_152_92 rfl ?_
            refine AR.c9 (as := [.int z953]) (rest := []) hk_152_93 Hg954 (by decide +kernel) rfl rfl (Nat.le_of_ble_eq_true rfl) (lr_151 hlst hB Sg954 (by omega) (by omega) (by omega)) (by decide) (Nat.zero_le _) (Nat.zero_le _) (fun E h' q => by cases q.1) ?_
            rintro w957 g958 ⟨eg958, Tg958, Dg958⟩
            cases eg958
            have Fg958 := ty_F.trans Fg954 (ty_F.sub (by decide +kernel) Tg958)
            show AR _ _ _ _ _ _ _ 96 [(1, .int z953), (0, .ref 181)] [] g958 _ _
            rcases Dg958 with ⟨er, S3, hw3, hc3, hl3⟩ | ⟨er, H3, i3, me, m0⟩
            · have eR : t_tm (r_B h) (t_ad (r_B h) (T)) = (true, (t_tm (r_B h) (t_ad (r_B h) (T))).2) := Prod.ext er rfl
              rw [eR] at hall
              show AR _ _ _ _ _ _ _ 96 [(1, .int z953), (0, .ref 181)] [] g958 _ _
              refine AR.gotoT hk_152_96 (tgt := 47) (by decide) ?_
              refine AR.lessL (lv' := [(1, .int z953), (0, .ref 181)]) (List.forall_mem_cons.mpr ⟨⟨_, by simp, ax_le_rfl rfl⟩, (List.forall_mem_cons.mpr ⟨⟨_, by simp, ax_le_rfl rfl⟩, (fun _ h => absurd h List.not_mem_nil)⟩)⟩) ?_
              exact ih g958 _ _ (by omega) ⟨S3, by omega, by omega, by omega⟩ Fg958 hall
            · have eR : t_ms (r_B h) n (t_tm (r_B h) (t_ad (r_B h) (T))) = (false, (t_tm (r_B h) (t_ad (r_B h) (T))).2) := by
                rw [show t_tm (r_B h) (t_ad (r_B h) (T)) = (false, (t_tm (r_B h) (t_ad (r_B h) (T))).2) from Prod.ext er rfl]
                exact t_ms_f _ _ _
              rw [eR] at hall
              have ee : t_er (r_B h) = (t_tm (r_B h) (t_ad (r_B h) (T))).2.2.1 := (t_ers _ (b := false) (T := (t_tm (r_B h) (t_ad (r_B h) (T))).2) hall).trans (if_neg (by decide))
              show AR _ _ _ _ _ _ _ 96 [(1, .int z953), (0, .ref 181)] [] g958 _ _
              refine AR.gotoT hk_152_96 (tgt := 47) (by decide) ?_
              refine AR.lessL (lv' := [(1, .int z953), (0, .ref 181)]) (List.forall_mem_cons.mpr ⟨⟨_, by simp, ax_le_rfl rfl⟩, (List.forall_mem_cons.mpr ⟨⟨_, by simp, ax_le_rfl rfl⟩, (fun _ h => absurd h List.not_mem_nil)⟩)⟩) ?_
              exact lr_b47 hlst H3 i3 Fg958 (by omega) (by omega)
          · refine AR.iconstT hk_152_81 (by decide) (fun z959 ez959 => ?_)
            show AR _ _ _ _ _ _ _ 82 [(1, .int sg), (0, .ref 181)] [.int z959] g _ _
            refine AR.gotoT hk_152_82 (tgt := 86) (by decide) ?_
            refine AR.s (pc' := 87) (lv' := [(1, .int z959), (0, .ref 181)]) (st' := []) (h' := g) _ hn_152 hk_152_86 rfl ?_
            refine AR.s (pc' := 88) (lv' := [(1, .int z959), (0, .ref 181)]) (st' := [.ref 181]) (h' := g) _ hn_152 hk_152_87 rfl ?_
            refine AR.c9 (as := []) (rest := []) hk_152_88 Hg (by decide +kernel) rfl rfl (Nat.le_of_ble_eq_true rfl) (lr_nx hlst S) (by decide) (Nat.zero_le _) (Nat.zero_le _) (fun E h' q => by cases q.1) ?_
            rintro w961 g960 ⟨eg960, Sg960, Tg960, x1g960, x2g960, x3g960, x4g960⟩
            cases eg960
            have yg960 := t_ad_le _ hB S.2.2.2.2.2.2
            have Fg960 := ty_F.trans Fg (ty_F.sub (by decide +kernel) Tg960)
            show AR _ _ _ _ _ _ _ 91 [(1, .int z959), (0, .ref 181)] [] g960 _ _
            obtain ⟨Hg960, if962, af962, bf962, cf962, tf962, o1f962, o2f962, o3f962, o4f962, o5f962, o6f962, o7f962, o8f962, o9f962⟩ := id Sg960
            have kf962 := r_tk_s (t_ad (r_B h) (T)).1
            refine AR.s (pc' := 92) (lv' := [(1, .int z959), (0, .ref 181)]) (st' := [.ref 181]) (h' := g960) _ hn_152 hk_152_91 rfl ?_
            refine AR.s (pc' := 93) (lv' := [(1, .int z959), (0, .ref 181)]) (st' := [.int z959, .ref 181]) (h' := g960) _ hn_152 hk_152_92 rfl ?_
            refine AR.c9 (as := [.int z959]) (rest := []) hk_152_93 Hg960 (by decide +kernel) rfl rfl (Nat.le_of_ble_eq_true rfl) (lr_151 hlst hB Sg960 (by omega) (by omega) (by omega)) (by decide) (Nat.zero_le _) (Nat.zero_le _) (fun E h' q => by cases q.1) ?_
            rintro w963 g964 ⟨eg964, Tg964, Dg964⟩
            cases eg964
            have Fg964 := ty_F.trans Fg960 (ty_F.sub (by decide +kernel) Tg964)
            show AR _ _ _ _ _ _ _ 96 [(1, .int z959), (0, .ref 181)] [] g964 _ _
            rcases Dg964 with ⟨er, S3, hw3, hc3, hl3⟩ | ⟨er, H3, i3, me, m0⟩
            · have eR : t_tm (r_B h) (t_ad (r_B h) (T)) = (true, (t_tm (r_B h) (t_ad (r_B h) (T))).2) := Prod.ext er rfl
              rw [eR] at hall
              show AR _ _ _ _ _ _ _ 96 [(1, .int z959), (0, .ref 181)] [] g964 _ _
              refine AR.gotoT hk_152_96 (tgt := 47) (by decide) ?_
              refine AR.lessL (lv' := [(1, .int z959), (0, .ref 181)]) (List.forall_mem_cons.mpr ⟨⟨_, by simp, ax_le_rfl rfl⟩, (List.forall_mem_cons.mpr ⟨⟨_, by simp, ax_le_rfl rfl⟩, (fun _ h => absurd h List.not_mem_nil)⟩)⟩) ?_
              exact ih g964 _ _ (by omega) ⟨S3, by omega, by omega, by omega⟩ Fg964 hall
            · have eR : t_ms (r_B h) n (t_tm (r_B h) (t_ad (r_B h) (T))) = (false, (t_tm (r_B h) (t_ad (r_B h) (T))).2) := by
                rw [show t_tm (r_B h) (t_ad (r_B h) (T)) = (false, (t_tm (r_B h) (t_ad (r_B h) (T))).2) from Prod.ext er rfl]
                exact t_ms_f _ _ _
              rw [eR] at hall
              have ee : t_er (r_B h) = (t_tm (r_B h) (t_ad (r_B h) (T))).2.2.1 := (t_ers _ (b := false) (T := (t_tm (r_B h) (t_ad (r_B h) (T))).2) hall).trans (if_neg (by decide))
              show AR _ _ _ _ _ _ _ 96 [(1, .int z959), (0, .ref 181)] [] g964 _ _
              refine AR.gotoT hk_152_96 (tgt := 47) (by decide) ?_
              refine AR.lessL (lv' := [(1, .int z959), (0, .ref 181)]) (List.forall_mem_cons.mpr ⟨⟨_, by simp, ax_le_rfl rfl⟩, (List.forall_mem_cons.mpr ⟨⟨_, by simp, ax_le_rfl rfl⟩, (fun _ h => absurd h List.not_mem_nil)⟩)⟩) ?_
              exact lr_b47 hlst H3 i3 Fg964 (by omega) (by omega)
theorem lr_152 (hlst : l.stackTraces = false) (hH : hy_H 0 h) (hi : hy_I h) : AM ax_ns l (ax_mm 152) 3 ty_R (0) (0) [.ref 181] h (hq_pa h) := by
  refine AM.of (ax_mfacts (by decide +kernel : ax_has 152 = true)).2.2.2.2.2.2 hlst (by rw [hn_152]; exact Nat.le_of_ble_eq_true rfl) ?_
  show AR ax_ns l (ax_mm 152) 3 ty_R _ _ 0 [(0, .ref 181)] [] h (0) (0)
  have F : ty_F 1901476993570184886567921778688 h h := ty_F_refl _ _
  have hB : ∀ p, 200 ≤ p → r_B h p = -1 := fun p hp => r_B_lt hH hp
  refine AR.s (pc' := 1) (lv' := [(0, .ref 181)]) (st' := [.ref 181]) (h' := h) _ hn_152 hk_152_0 rfl ?_
  refine AR.iconstT hk_152_1 (by decide) (fun z965 ez965 => ?_)
  show AR _ _ _ _ _ _ _ 2 [(0, .ref 181)] [.int z965, .ref 181] h _ _
  refine AR.pT hk_152_2 (by decide) hH F (q := 181) (by decide) (by decide +kernel) (show ax_cls[9]? = some hy_c9 from rfl) (by decide +kernel) (by decide) rfl (by rw [hy_t181_11]; exact ⟨_, rfl, by omega, by omega, Or.inl rfl⟩) (by decide +kernel) (by decide +kernel) ?_
  rintro g966 ⟨Hg966, Fg966, Gg966, Eg966⟩
  show AR _ _ _ _ _ _ _ 5 [(0, .ref 181)] [] g966 _ _
  have ig966 : hy_I g966 := hi.st Gg966 (by decide) Eg966 (by decide +kernel)
  have ug966_181_7 : hy_z g966 181 7 = hy_z h 181 7 := hy_ze (by rw [Eg966, if_neg (fun c => absurd c.2 (by decide))])
  have ug966_181_8 : hy_z g966 181 8 = hy_z h 181 8 := hy_ze (by rw [Eg966, if_neg (fun c => absurd c.2 (by decide))])
  have ug966_181_9 : hy_z g966 181 9 = hy_z h 181 9 := hy_ze (by rw [Eg966, if_neg (fun c => absurd c.2 (by decide))])
  have ug966_181_10 : hy_z g966 181 10 = hy_z h 181 10 := hy_ze (by rw [Eg966, if_neg (fun c => absurd c.2 (by decide))])
  have ug966_181_11 : hy_z g966 181 11 = z965.toInt := hy_zi (i := z965) (by rw [Eg966, if_pos ⟨rfl, rfl⟩])
  have ug966_181_14 : hy_z g966 181 14 = hy_z h 181 14 := hy_ze (by rw [Eg966, if_neg (fun c => absurd c.2 (by decide))])
  have ug966_181_15 : hy_z g966 181 15 = hy_z h 181 15 := hy_ze (by rw [Eg966, if_neg (fun c => absurd c.2 (by decide))])
  have ug966_181_16 : hy_z g966 181 16 = hy_z h 181 16 := hy_ze (by rw [Eg966, if_neg (fun c => absurd c.2 (by decide))])
  refine AR.s (pc' := 6) (lv' := [(0, .ref 181)]) (st' := [.ref 181]) (h' := g966) _ hn_152 hk_152_5 rfl ?_
  refine AR.iconstT hk_152_6 (by decide) (fun z967 ez967 => ?_)
  show AR _ _ _ _ _ _ _ 7 [(0, .ref 181)] [.int z967, .ref 181] g966 _ _
  refine AR.pT hk_152_7 (by decide) Hg966 Fg966 (q := 181) (by decide) (by decide +kernel) (show ax_cls[9]? = some hy_c9 from rfl) (by decide +kernel) (by decide) rfl (by rw [hy_t181_8]; exact ⟨_, rfl, by omega, by omega, Or.inl rfl⟩) (by decide +kernel) (by decide +kernel) ?_
  rintro g968 ⟨Hg968, Fg968, Gg968, Eg968⟩
  show AR _ _ _ _ _ _ _ 10 [(0, .ref 181)] [] g968 _ _
  have ig968 : hy_I g968 := ig966.st Gg968 (by decide) Eg968 (by decide +kernel)
  have ug968_181_7 : hy_z g968 181 7 = hy_z g966 181 7 := hy_ze (by rw [Eg968, if_neg (fun c => absurd c.2 (by decide))])
  have ug968_181_8 : hy_z g968 181 8 = z967.toInt := hy_zi (i := z967) (by rw [Eg968, if_pos ⟨rfl, rfl⟩])
  have ug968_181_9 : hy_z g968 181 9 = hy_z g966 181 9 := hy_ze (by rw [Eg968, if_neg (fun c => absurd c.2 (by decide))])
  have ug968_181_10 : hy_z g968 181 10 = hy_z g966 181 10 := hy_ze (by rw [Eg968, if_neg (fun c => absurd c.2 (by decide))])
  have ug968_181_11 : hy_z g968 181 11 = hy_z g966 181 11 := hy_ze (by rw [Eg968, if_neg (fun c => absurd c.2 (by decide))])
  have ug968_181_14 : hy_z g968 181 14 = hy_z g966 181 14 := hy_ze (by rw [Eg968, if_neg (fun c => absurd c.2 (by decide))])
  have ug968_181_15 : hy_z g968 181 15 = hy_z g966 181 15 := hy_ze (by rw [Eg968, if_neg (fun c => absurd c.2 (by decide))])
  have ug968_181_16 : hy_z g968 181 16 = hy_z g966 181 16 := hy_ze (by rw [Eg968, if_neg (fun c => absurd c.2 (by decide))])
  refine AR.s (pc' := 11) (lv' := [(0, .ref 181)]) (st' := [.ref 181]) (h' := g968) _ hn_152 hk_152_10 rfl ?_
  refine AR.iconstT hk_152_11 (by decide) (fun z969 ez969 => ?_)
  show AR _ _ _ _ _ _ _ 12 [(0, .ref 181)] [.int z969, .ref 181] g968 _ _
  refine AR.pT hk_152_12 (by decide) Hg968 Fg968 (q := 181) (by decide) (by decide +kernel) (show ax_cls[9]? = some hy_c9 from rfl) (by decide +kernel) (by decide) rfl (by rw [hy_t181_14]; exact ⟨_, rfl, by omega, by omega, Or.inl rfl⟩) (by decide +kernel) (by decide +kernel) ?_
  rintro g970 ⟨Hg970, Fg970, Gg970, Eg970⟩
  show AR _ _ _ _ _ _ _ 15 [(0, .ref 181)] [] g970 _ _
  have ig970 : hy_I g970 := ig968.st Gg970 (by decide) Eg970 (by decide +kernel)
  have ug970_181_7 : hy_z g970 181 7 = hy_z g968 181 7 := hy_ze (by rw [Eg970, if_neg (fun c => absurd c.2 (by decide))])
  have ug970_181_8 : hy_z g970 181 8 = hy_z g968 181 8 := hy_ze (by rw [Eg970, if_neg (fun c => absurd c.2 (by decide))])
  have ug970_181_9 : hy_z g970 181 9 = hy_z g968 181 9 := hy_ze (by rw [Eg970, if_neg (fun c => absurd c.2 (by decide))])
  have ug970_181_10 : hy_z g970 181 10 = hy_z g968 181 10 := hy_ze (by rw [Eg970, if_neg (fun c => absurd c.2 (by decide))])
  have ug970_181_11 : hy_z g970 181 11 = hy_z g968 181 11 := hy_ze (by rw [Eg970, if_neg (fun c => absurd c.2 (by decide))])
  have ug970_181_14 : hy_z g970 181 14 = z969.toInt := hy_zi (i := z969) (by rw [Eg970, if_pos ⟨rfl, rfl⟩])
  have ug970_181_15 : hy_z g970 181 15 = hy_z g968 181 15 := hy_ze (by rw [Eg970, if_neg (fun c => absurd c.2 (by decide))])
  have ug970_181_16 : hy_z g970 181 16 = hy_z g968 181 16 := hy_ze (by rw [Eg970, if_neg (fun c => absurd c.2 (by decide))])
  refine AR.s (pc' := 16) (lv' := [(0, .ref 181)]) (st' := [.ref 181]) (h' := g970) _ hn_152 hk_152_15 rfl ?_
  have eB : r_B g970 = r_B h := r_B_F Fg970 (by decide +kernel)
  refine AR.c9 (as := []) (rest := []) hk_152_16 Hg970 (by decide +kernel) rfl rfl (Nat.le_of_ble_eq_true rfl) (lr_147 hlst Hg970 ig970 (by omega) (by omega)) (by decide) (Nat.zero_le _) (Nat.zero_le _) (fun E h' q => by cases q.1) ?_
  rintro w971 g972 ⟨eg972, Hg972, Tg972, ig972, a1, a2, a3⟩
  cases eg972
  rw [eB, show hy_z g970 181 8 = 0 from by omega] at a1 a2 a3
  have x11 : hy_z g972 181 11 = hy_z g970 181 11 := hy_zF Tg972 11 (q := 181) (by decide) (by decide +kernel) (by decide +kernel)
  have x14 : hy_z g972 181 14 = hy_z g970 181 14 := hy_zF Tg972 14 (q := 181) (by decide) (by decide +kernel) (by decide +kernel)
  have S : r_st (r_B h) g972 (t_nx (r_B h) 0) := ⟨Hg972, ig972, a1, a2, a3, (r_B_F Tg972 (by decide +kernel)).trans eB, r_ok_nx _ hB (by decide) (by decide)⟩
  have Fn1 : ty_F 1901476993570184886567921778688 h g972 := ty_F.trans Fg970 (ty_F.sub (by decide +kernel) Tg972)
  show AR _ _ _ _ _ _ _ 19 [(0, .ref 181)] [] g972 _ _
  obtain ⟨Hg972, if973, af973, bf973, cf973, tf973, o1f973, o2f973, o3f973, o4f973, o5f973, o6f973, o7f973, o8f973, o9f973⟩ := id S
  have kf973 := r_tk_s (t_nx (r_B h) 0).1
  have Fg972 := Fn1
  show AR _ _ _ _ _ _ _ 19 [(0, .ref 181)] [] g972 _ _
  refine AR.s (pc' := 20) (lv' := [(0, .ref 181)]) (st' := [.ref 181]) (h' := g972) _ hn_152 hk_152_19 rfl ?_
  refine AR.gI hk_152_20 (by decide) Hg972 (q := 181) (n := 32) (by decide) (by decide +kernel) (by decide +kernel) (by decide) hy_t181_10 (fun x974 dx974 lx974 ux974 => ?_)
  show AR _ _ _ _ _ _ _ 23 [(0, .ref 181)] [.int x974] g972 _ _
  have sx974 := hy_zi dx974
  refine AR.bipushT hk_152_23 (by decide) (fun z975 ez975 => ?_)
  show AR _ _ _ _ _ _ _ 25 [(0, .ref 181)] [.int z975, .int x974] g972 _ _
  refine AR.jne hk_152_25 (tgt := 32) (by decide) (fun p1 => ?_) (fun p2 => ?_)
  · have em : t_mi (r_B h) (t_nx (r_B h) 0) = t_nx (r_B h) 0 := if_neg (by omega)
    refine AR.iconstT hk_152_32 (by decide) (fun z976 ez976 => ?_)
    show AR _ _ _ _ _ _ _ 33 [(0, .ref 181)] [.int z976] g972 _ _
    refine AR.s (pc' := 34) (lv' := [(1, .int z976), (0, .ref 181)]) (st' := []) (h' := g972) _ hn_152 hk_152_33 rfl ?_
    refine AR.s (pc' := 35) (lv' := [(1, .int z976), (0, .ref 181)]) (st' := [.int z976]) (h' := g972) _ hn_152 hk_152_34 rfl ?_
    refine AR.zeq hk_152_35 (tgt := 42) (by decide) (fun u1 => ?_) (fun u2 => ?_)
    · refine AR.s (pc' := 43) (lv' := [(1, .int z976), (0, .ref 181)]) (st' := [.ref 181]) (h' := g972) _ hn_152 hk_152_42 rfl ?_
      refine AR.s (pc' := 44) (lv' := [(1, .int z976), (0, .ref 181)]) (st' := [.int z976, .ref 181]) (h' := g972) _ hn_152 hk_152_43 rfl ?_
      refine AR.c9 (as := [.int z976]) (rest := []) hk_152_44 Hg972 (by decide +kernel) rfl rfl (Nat.le_of_ble_eq_true rfl) (lr_151 hlst hB S (by omega) (by omega) (by omega)) (by decide) (Nat.zero_le _) (Nat.zero_le _) (fun E h' q => by cases q.1) ?_
      rintro w977 g978 ⟨eg978, Tg978, Dg978⟩
      cases eg978
      have Fg978 := ty_F.trans Fg972 (ty_F.sub (by decide +kernel) Tg978)
      show AR _ _ _ _ _ _ _ 47 [(1, .int z976), (0, .ref 181)] [] g978 _ _
      rcases Dg978 with ⟨er, S3, hw3, hc3, hl3⟩ | ⟨er, H3, i3, me, m0⟩
      · refine AR.lessL (lv' := [(1, .int z976), (0, .ref 181)]) (List.forall_mem_cons.mpr ⟨⟨_, by simp, ax_le_rfl rfl⟩, (List.forall_mem_cons.mpr ⟨⟨_, by simp, ax_le_rfl rfl⟩, (fun _ h => absurd h List.not_mem_nil)⟩)⟩) ?_
        have eR : t_tm (r_B h) (t_nx (r_B h) 0) = (true, (t_tm (r_B h) (t_nx (r_B h) 0)).2) := Prod.ext er rfl
        have o1 := S3.2.2.2.2.2.2.1
        refine lr_w47 hlst hB 200 g978 _ _ (by omega) ⟨S3, by omega, by omega, by omega⟩ Fg978 ?_
        unfold t_all t_su
        rw [em, eR]
      · refine AR.lessL (lv' := [(1, .int z976), (0, .ref 181)]) (List.forall_mem_cons.mpr ⟨⟨_, by simp, ax_le_rfl rfl⟩, (List.forall_mem_cons.mpr ⟨⟨_, by simp, ax_le_rfl rfl⟩, (fun _ h => absurd h List.not_mem_nil)⟩)⟩) ?_
        have eR : t_tm (r_B h) (t_nx (r_B h) 0) = (false, (t_tm (r_B h) (t_nx (r_B h) 0)).2) := Prod.ext er rfl
        have ee : t_er (r_B h) = (t_tm (r_B h) (t_nx (r_B h) 0)).2.2.1 := (t_ers _ (b := false) (T := (t_tm (r_B h) (t_nx (r_B h) 0)).2) (by unfold t_all t_su; rw [em, eR, t_ms_f]; rfl)).trans (if_neg (by decide))
        exact lr_b47 hlst H3 i3 Fg978 (by omega) (by omega)
    · exact absurd u2 (by omega)
  · have em : t_mi (r_B h) (t_nx (r_B h) 0) = t_ad (r_B h) (t_nx (r_B h) 0) := if_pos (by omega)
    refine AR.iconstT hk_152_28 (by decide) (fun z979 ez979 => ?_)
    show AR _ _ _ _ _ _ _ 29 [(0, .ref 181)] [.int z979] g972 _ _
    refine AR.gotoT hk_152_29 (tgt := 33) (by decide) ?_
    refine AR.s (pc' := 34) (lv' := [(1, .int z979), (0, .ref 181)]) (st' := []) (h' := g972) _ hn_152 hk_152_33 rfl ?_
    refine AR.s (pc' := 35) (lv' := [(1, .int z979), (0, .ref 181)]) (st' := [.int z979]) (h' := g972) _ hn_152 hk_152_34 rfl ?_
    refine AR.zeq hk_152_35 (tgt := 42) (by decide) (fun u3 => ?_) (fun u4 => ?_)
    · exact absurd u3 (by omega)
    · refine AR.s (pc' := 39) (lv' := [(1, .int z979), (0, .ref 181)]) (st' := [.ref 181]) (h' := g972) _ hn_152 hk_152_38 rfl ?_
      refine AR.c9 (as := []) (rest := []) hk_152_39 Hg972 (by decide +kernel) rfl rfl (Nat.le_of_ble_eq_true rfl) (lr_nx hlst S) (by decide) (Nat.zero_le _) (Nat.zero_le _) (fun E h' q => by cases q.1) ?_
      rintro w981 g980 ⟨eg980, Sg980, Tg980, x1g980, x2g980, x3g980, x4g980⟩
      cases eg980
      have yg980 := t_ad_le _ hB S.2.2.2.2.2.2
      have Fg980 := ty_F.trans Fg972 (ty_F.sub (by decide +kernel) Tg980)
      show AR _ _ _ _ _ _ _ 42 [(1, .int z979), (0, .ref 181)] [] g980 _ _
      obtain ⟨Hg980, if982, af982, bf982, cf982, tf982, o1f982, o2f982, o3f982, o4f982, o5f982, o6f982, o7f982, o8f982, o9f982⟩ := id Sg980
      have kf982 := r_tk_s (t_ad (r_B h) (t_nx (r_B h) 0)).1
      refine AR.s (pc' := 43) (lv' := [(1, .int z979), (0, .ref 181)]) (st' := [.ref 181]) (h' := g980) _ hn_152 hk_152_42 rfl ?_
      refine AR.s (pc' := 44) (lv' := [(1, .int z979), (0, .ref 181)]) (st' := [.int z979, .ref 181]) (h' := g980) _ hn_152 hk_152_43 rfl ?_
      refine AR.c9 (as := [.int z979]) (rest := []) hk_152_44 Hg980 (by decide +kernel) rfl rfl (Nat.le_of_ble_eq_true rfl) (lr_151 hlst hB Sg980 (by omega) (by omega) (by omega)) (by decide) (Nat.zero_le _) (Nat.zero_le _) (fun E h' q => by cases q.1) ?_
      rintro w983 g984 ⟨eg984, Tg984, Dg984⟩
      cases eg984
      have Fg984 := ty_F.trans Fg980 (ty_F.sub (by decide +kernel) Tg984)
      show AR _ _ _ _ _ _ _ 47 [(1, .int z979), (0, .ref 181)] [] g984 _ _
      rcases Dg984 with ⟨er, S3, hw3, hc3, hl3⟩ | ⟨er, H3, i3, me, m0⟩
      · refine AR.lessL (lv' := [(1, .int z979), (0, .ref 181)]) (List.forall_mem_cons.mpr ⟨⟨_, by simp, ax_le_rfl rfl⟩, (List.forall_mem_cons.mpr ⟨⟨_, by simp, ax_le_rfl rfl⟩, (fun _ h => absurd h List.not_mem_nil)⟩)⟩) ?_
        have eR : t_tm (r_B h) (t_ad (r_B h) (t_nx (r_B h) 0)) = (true, (t_tm (r_B h) (t_ad (r_B h) (t_nx (r_B h) 0))).2) := Prod.ext er rfl
        have o1 := S3.2.2.2.2.2.2.1
        refine lr_w47 hlst hB 200 g984 _ _ (by omega) ⟨S3, by omega, by omega, by omega⟩ Fg984 ?_
        unfold t_all t_su
        rw [em, eR]
      · refine AR.lessL (lv' := [(1, .int z979), (0, .ref 181)]) (List.forall_mem_cons.mpr ⟨⟨_, by simp, ax_le_rfl rfl⟩, (List.forall_mem_cons.mpr ⟨⟨_, by simp, ax_le_rfl rfl⟩, (fun _ h => absurd h List.not_mem_nil)⟩)⟩) ?_
        have eR : t_tm (r_B h) (t_ad (r_B h) (t_nx (r_B h) 0)) = (false, (t_tm (r_B h) (t_ad (r_B h) (t_nx (r_B h) 0))).2) := Prod.ext er rfl
        have ee : t_er (r_B h) = (t_tm (r_B h) (t_ad (r_B h) (t_nx (r_B h) 0))).2.2.1 := (t_ers _ (b := false) (T := (t_tm (r_B h) (t_ad (r_B h) (t_nx (r_B h) 0))).2) (by unfold t_all t_su; rw [em, eR, t_ms_f]; rfl)).trans (if_neg (by decide))
        exact lr_b47 hlst H3 i3 Fg984 (by omega) (by omega)
theorem lt_no {g g' : ax_H} {W : Nat} {n : Int} {res : Option Value ⊕ String} (q : hq_no 0 g n res g') (hi : hy_I g) (F : ty_F W h g) (hs : ty_sub hy_W0 W = true) : hy_I g' ∧ ty_F W h g' ∧ hy_z g' 181 7 = hy_z g 181 7 ∧ hy_z g' 181 11 = hy_z g 181 11 := by
  obtain ⟨H, F0, e, -⟩ := q
  refine ⟨?_, ty_F.trans F (ty_F.sub hs F0), hy_zF F0 7 (by decide) (by decide +kernel) (by decide +kernel), hy_zF F0 11 (by decide) (by decide +kernel) (by decide +kernel)⟩
  refine hy_Ik g g' (fun q' j' h1 h2 h3 => F0.2.1 q' j' h1 h2 ?_) (F0.2.2.2 (by decide)) hi
  cases e : hy_W0.testBit (ty_ky q' j') with
  | false => rfl
  | true =>
    have : ty_ky q' j' = 63 := by
      rw [Nat.testBit_two_pow] at e
      exact (of_decide_eq_true e).symm
    rw [this] at h3
    exact absurd h3 (by decide +kernel)
noncomputable def lr_m156_L : List ty_E := [(.inl (some (0, 0, 0, (-2147483648), 2147483647)), [])]
noncomputable def lr_m156_c : ty_Cu := (18, [(0, (2, 181, 0, 0, 0))], [(300, 2, (0, 0, 0, 0, 200)), (181, 17, (1, 0, 0, (-22999977), 22999977)), (181, 16, (0, 0, 0, 3, 61)), (181, 15, (0, 0, 0, 1, 200))], 0, 0, 0, 0, [])
theorem lr_m156_k : ty_ctk 1000000 156 5 20559862915279324299348934656000 237684487865611034070549004288 [tk_432, tk_436, tk_435, tk_430, tk_434, tk_433, tk_429, tk_440, tk_431, tk_438, tk_226, tk_439, tk_437, tk_204, tk_224, tk_225] [] [] lr_m156_L lr_m156_c = true := by decide +kernel
theorem lr_m156_cs (G : ty_G hy_I l) : ∀ x ∈ [tk_432, tk_436, tk_435, tk_430, tk_434, tk_433, tk_429, tk_440, tk_431, tk_438, tk_226, tk_439, tk_437, tk_204, tk_224, tk_225], ty_M hy_I l x := (ty_cc (tk_432_ok G) (ty_cc (tk_436_ok G) (ty_cc (tk_435_ok G) (ty_cc (tk_430_ok G) (ty_cc (tk_434_ok G) (ty_cc (tk_433_ok G) (ty_cc (tk_429_ok G) (ty_cc (tk_440_ok G) (ty_cc (tk_431_ok G) (ty_cc (tk_438_ok G) (ty_cc (tk_226_ok G) (ty_cc (tk_439_ok G) (ty_cc (tk_437_ok G) (ty_cc (tk_204_ok G) (ty_cc (tk_224_ok G) (ty_cc (tk_225_ok G) ty_c0))))))))))))))))
def hq_156 (h : ax_H) : ax_Q := fun res g => ty_F 22461339910030100806634267738112 h g ∧ hy_H 0 g ∧ hy_I g ∧ hy_z g 181 7 = 0 ∧ hy_z g 181 11 = t_er (r_B h) ∧ ∃ z : Int32, res = .inl (some (.int z))
theorem lr_156_t (hlst : l.stackTraces = false) {g : ax_H} (H : hy_H 0 g) (hi : hy_I g) (F : ty_F 22461339910030100806634267738112 h g) (e7 : hy_z g 181 7 = 0) (e : hy_z g 181 11 = t_er (r_B h)) (c1 : 1 ≤ hy_z g 181 14) (c2 : hy_z g 181 14 ≤ hy_z g 181 8) (r1 : 3 ≤ hy_z g 181 15) (r2 : hy_z g 181 15 ≤ 61) (b1 : -22999977 ≤ hy_z g 181 16) (b2 : hy_z g 181 16 ≤ 22999977) : AR ax_ns l (ax_mm 156) 5 ty_R (ax_ret ax_ns (ax_mm 156) (hq_156 h)) (fun _ _ E h' _ _ => (ax_mm 156).2.2.2.2 = [] ∧ hq_156 h (.inr E) h') 18 [(0, .ref 181)] [] g 0 0 := by
  obtain ⟨i8, d8, l8, u8⟩ := hy_int H (q := 181) (j := 8) (a := 0) (z := 200) (by decide) rfl (by decide +kernel) (by decide +kernel)
  obtain ⟨i14, d14, l14, u14⟩ := hy_int H (q := 181) (j := 14) (a := 0) (z := 200) (by decide) rfl (by decide +kernel) (by decide +kernel)
  obtain ⟨i15, d15, l15, u15⟩ := hy_int H (q := 181) (j := 15) (a := -2147483648) (z := 2147483647) (by decide) rfl (by decide +kernel) (by decide +kernel)
  obtain ⟨x16, vs16, f1, f2, f3, d16, f5⟩ := hy_at H (q := 181) (n := 32) (j := 16) (by decide) (by decide +kernel) (by decide)
  rw [show ty_tt 181 16 = (1, 0, 0, (-30000000), 30000000) from by decide +kernel] at f5
  obtain ⟨i16, rfl, -⟩ := f5
  have z8 := hy_zi d8
  have z14 := hy_zi d14
  have z15 := hy_zi d15
  have z16 := hy_zl d16
  have K0 := ty_H.put (t := (0, 0, 0, 1, 200)) H (by decide) d14 ⟨i14, rfl, by omega, by omega, Or.inl rfl⟩
  have K1 := ty_H.put (t := (0, 0, 0, 3, 61)) K0 (by decide) d15 ⟨i15, rfl, by omega, by omega, Or.inl rfl⟩
  have K2 := ty_H.put (t := (1, 0, 0, (-22999977), 22999977)) K1 (by decide) d16 ⟨i16, rfl, by omega, by omega, Or.inl rfl⟩
  have P1 : ty_ps 0 ty_z 0 g 1 (0, 0, 0, 0, 200) := by
    intro v hv
    have e1 : ty_pv 0 g 1 = some (i8.toInt - i14.toInt) := by
      show (ty_iv (ty_fd g 181 8)).bind (fun a => (ty_iv (ty_fd g 181 14)).map (fun b => a - b)) = _
      rw [d8, d14]
      rfl
    rw [e1] at hv
    have := Option.some.inj hv
    exact ⟨by omega, by omega, Or.inl rfl⟩
  have K3 := ty_H.putp (j := 1) K2 P1
  refine lt_mid (c := lr_m156_c) (hg_G hlst) (lr_m156_cs (hg_G hlst)) (W := 20559862915279324299348934656000) (W0 := 237684487865611034070549004288) (by decide +kernel) (by decide +kernel) lr_m156_k ⟨fun j t hm => ?_, rfl, ?_⟩ hi (fun res g' q => ?_)
  · obtain ⟨rfl, rfl⟩ := Prod.mk.inj (List.mem_singleton.mp hm)
    exact ⟨_, rfl, rfl⟩
  · exact K3.n1
  · obtain ⟨F2, i2, ee, hm, rr, HH⟩ := q
    have y7 : hy_z g' 181 7 = hy_z g 181 7 := hy_zF F2 7 (q := 181) (by decide) (by decide +kernel) (by decide +kernel)
    have y11 : hy_z g' 181 11 = hy_z g 181 11 := hy_zF F2 11 (q := 181) (by decide) (by decide +kernel) (by decide +kernel)
    obtain rfl := List.mem_singleton.mp hm
    refine ⟨F.trans (ty_F.sub (by decide +kernel) F2), HH, i2, by omega, by omega, ?_⟩
    match res, rr with
    | .inl (some x), rr => obtain ⟨z, rfl, -⟩ := rr; exact ⟨z, rfl⟩
theorem lr_156 (hlst : l.stackTraces = false) (hH : hy_H 0 h) (hi : hy_I h) : AM ax_ns l (ax_mm 156) 5 ty_R (0) (0) [.ref 181] h (hq_156 h) := by
  refine AM.of (ax_mfacts (by decide +kernel : ax_has 156 = true)).2.2.2.2.2.2 hlst (by rw [hn_156]; exact Nat.le_of_ble_eq_true rfl) ?_
  show AR ax_ns l (ax_mm 156) 5 ty_R _ _ 0 [(0, .ref 181)] [] h (0) (0)
  have F : ty_F 9223372036854775808 h h := ty_F_refl _ _
  refine AR.s (pc' := 1) (lv' := [(0, .ref 181)]) (st' := [.ref 181]) (h' := h) _ hn_156 hk_156_0 rfl ?_
  refine AR.iconstT hk_156_1 (by decide) (fun z985 ez985 => ?_)
  show AR _ _ _ _ _ _ _ 2 [(0, .ref 181)] [.int z985, .ref 181] h _ _
  refine AR.pT hk_156_2 (by decide) hH F (q := 181) (by decide) (by decide +kernel) (show ax_cls[9]? = some hy_c9 from rfl) (by decide +kernel) (by decide) rfl (by rw [hy_t181_0]; exact ⟨_, rfl, by omega, by omega, Or.inl rfl⟩) (by decide +kernel) (by decide +kernel) ?_
  rintro g986 ⟨Hg986, Fg986, Gg986, Eg986⟩
  show AR _ _ _ _ _ _ _ 5 [(0, .ref 181)] [] g986 _ _
  have ig986 : hy_I g986 := hi.st Gg986 (by decide) Eg986 (by decide +kernel)
  refine AR.s (pc' := 6) (lv' := [(0, .ref 181)]) (st' := [.ref 181]) (h' := g986) _ hn_156 hk_156_5 rfl ?_
  have eB : r_B g986 = r_B h := r_B_F Fg986 (by decide +kernel)
  refine AR.c9 (as := []) (rest := []) hk_156_6 Hg986 (by decide +kernel) rfl rfl (Nat.le_of_ble_eq_true rfl) (lr_152 hlst Hg986 ig986) (by decide) (Nat.zero_le _) (Nat.zero_le _) (fun E h' q => by obtain ⟨-, -, -, -, -, _, e, -⟩ := q; cases e) ?_
  rintro w g ⟨Tg, Hg, ig, e7, e11, z, ez, D⟩
  cases ez
  rw [eB] at e11
  have Fg : ty_F 22461339910030100806634267738112 h g := ty_F.trans (ty_F.sub (by decide +kernel) Fg986) (ty_F.sub (by decide +kernel) Tg)
  show AR _ _ _ _ _ _ _ 9 [(0, .ref 181)] [.int z] g _ _
  refine AR.zne hk_156_9 (tgt := 18) (by decide) (fun p1 => ?_) (fun p2 => ?_)
  · have D2 : z.toInt = 1 ∧ hy_z g 181 11 < 0 ∧ 1 ≤ hy_z g 181 14 ∧ hy_z g 181 14 ≤ hy_z g 181 8 ∧ 3 ≤ hy_z g 181 15 ∧ hy_z g 181 15 ≤ 61 ∧ -22999977 ≤ hy_z g 181 16 ∧ hy_z g 181 16 ≤ 22999977 := by
      rcases D with ⟨e, -⟩ | e
      · exact absurd e (by omega)
      · exact e
    obtain ⟨-, -, k1, k2, k3, k4, k5, k6⟩ := D2
    exact lr_156_t hlst Hg ig Fg e7 e11 k1 k2 k3 k4 k5 k6
  · refine AR.s (pc' := 13) (lv' := [(0, .ref 181)]) (st' := [.ref 181]) (h' := g) _ hn_156 hk_156_12 rfl ?_
    refine AR.iconstT hk_156_13 (by decide) (fun z987 ez987 => ?_)
    show AR _ _ _ _ _ _ _ 14 [(0, .ref 181)] [.int z987, .ref 181] g _ _
    refine AR.c9 (as := [.int z987]) (rest := []) hk_156_14 Hg (by decide +kernel) rfl rfl (Nat.le_of_ble_eq_true rfl) (hf_no hlst Hg z987) (by decide) (Nat.zero_le _) (Nat.zero_le _) (fun E h' q => by obtain ⟨-, -, -, z, e, -⟩ := q; cases e) ?_
    rintro w g9 q9
    obtain ⟨i9, F9, c7, c11⟩ := lt_no q9 ig Fg (by decide +kernel)
    obtain ⟨H9, -, t9, z9, e9, -⟩ := q9
    cases e9
    show AR _ _ _ _ _ _ _ 17 [(0, .ref 181)] [.int z9] g9 _ _
    exact AR.iret hk_156_17 hr_156 ⟨F9, H9, i9, by omega, by omega, _, rfl⟩
noncomputable def lr_m159_L : List ty_E := [(.inl (some (0, 0, 0, (-2147483648), 2147483647)), [])]
noncomputable def lr_m159_c : ty_Cu := (26, [(0, (2, 181, 0, 0, 0))], [(300, 2, (0, 0, 0, 0, 200)), (181, 17, (1, 0, 0, (-22999977), 22999977)), (181, 16, (0, 0, 0, 3, 61)), (181, 15, (0, 0, 0, 1, 200))], 0, 0, 0, 0, [])
theorem lr_m159_k : ty_ctk 1000000 159 5 158456325332899952403295502336 158456325332899952403295502336 [tk_432, tk_436, tk_429, tk_440, tk_439, tk_448, tk_442, tk_204, tk_224, tk_447] [] [] lr_m159_L lr_m159_c = true := by decide +kernel
theorem lr_m159_cs (G : ty_G hy_I l) : ∀ x ∈ [tk_432, tk_436, tk_429, tk_440, tk_439, tk_448, tk_442, tk_204, tk_224, tk_447], ty_M hy_I l x := (ty_cc (tk_432_ok G) (ty_cc (tk_436_ok G) (ty_cc (tk_429_ok G) (ty_cc (tk_440_ok G) (ty_cc (tk_439_ok G) (ty_cc (tk_448_ok G) (ty_cc (tk_442_ok G) (ty_cc (tk_204_ok G) (ty_cc (tk_224_ok G) (ty_cc (tk_447_ok G) ty_c0))))))))))
def hq_159 (h : ax_H) : ax_Q := fun res g => ty_F 2059933320083676459688628584448 h g ∧ hy_H 0 g ∧ hy_I g ∧ hy_z g 181 7 = 0 ∧ hy_z g 181 11 = t_er (r_B h) ∧ ∃ z : Int32, res = .inl (some (.int z))
theorem lr_159_t (hlst : l.stackTraces = false) {g : ax_H} (H : hy_H 0 g) (hi : hy_I g) (F : ty_F 2059933320083676459688628584448 h g) (e7 : hy_z g 181 7 = 0) (e : hy_z g 181 11 = t_er (r_B h)) (c1 : 1 ≤ hy_z g 181 14) (c2 : hy_z g 181 14 ≤ hy_z g 181 8) (r1 : 3 ≤ hy_z g 181 15) (r2 : hy_z g 181 15 ≤ 61) (b1 : -22999977 ≤ hy_z g 181 16) (b2 : hy_z g 181 16 ≤ 22999977) : AR ax_ns l (ax_mm 159) 5 ty_R (ax_ret ax_ns (ax_mm 159) (hq_159 h)) (fun _ _ E h' _ _ => (ax_mm 159).2.2.2.2 = [] ∧ hq_159 h (.inr E) h') 26 [(0, .ref 181)] [] g 0 0 := by
  obtain ⟨i8, d8, l8, u8⟩ := hy_int H (q := 181) (j := 8) (a := 0) (z := 200) (by decide) rfl (by decide +kernel) (by decide +kernel)
  obtain ⟨i14, d14, l14, u14⟩ := hy_int H (q := 181) (j := 14) (a := 0) (z := 200) (by decide) rfl (by decide +kernel) (by decide +kernel)
  obtain ⟨i15, d15, l15, u15⟩ := hy_int H (q := 181) (j := 15) (a := -2147483648) (z := 2147483647) (by decide) rfl (by decide +kernel) (by decide +kernel)
  obtain ⟨x16, vs16, f1, f2, f3, d16, f5⟩ := hy_at H (q := 181) (n := 32) (j := 16) (by decide) (by decide +kernel) (by decide)
  rw [show ty_tt 181 16 = (1, 0, 0, (-30000000), 30000000) from by decide +kernel] at f5
  obtain ⟨i16, rfl, -⟩ := f5
  have z8 := hy_zi d8
  have z14 := hy_zi d14
  have z15 := hy_zi d15
  have z16 := hy_zl d16
  have K0 := ty_H.put (t := (0, 0, 0, 1, 200)) H (by decide) d14 ⟨i14, rfl, by omega, by omega, Or.inl rfl⟩
  have K1 := ty_H.put (t := (0, 0, 0, 3, 61)) K0 (by decide) d15 ⟨i15, rfl, by omega, by omega, Or.inl rfl⟩
  have K2 := ty_H.put (t := (1, 0, 0, (-22999977), 22999977)) K1 (by decide) d16 ⟨i16, rfl, by omega, by omega, Or.inl rfl⟩
  have P1 : ty_ps 0 ty_z 0 g 1 (0, 0, 0, 0, 200) := by
    intro v hv
    have e1 : ty_pv 0 g 1 = some (i8.toInt - i14.toInt) := by
      show (ty_iv (ty_fd g 181 8)).bind (fun a => (ty_iv (ty_fd g 181 14)).map (fun b => a - b)) = _
      rw [d8, d14]
      rfl
    rw [e1] at hv
    have := Option.some.inj hv
    exact ⟨by omega, by omega, Or.inl rfl⟩
  have K3 := ty_H.putp (j := 1) K2 P1
  refine lt_mid (c := lr_m159_c) (hg_G hlst) (lr_m159_cs (hg_G hlst)) (W := 158456325332899952403295502336) (W0 := 158456325332899952403295502336) (by decide +kernel) (by decide +kernel) lr_m159_k ⟨fun j t hm => ?_, rfl, ?_⟩ hi (fun res g' q => ?_)
  · obtain ⟨rfl, rfl⟩ := Prod.mk.inj (List.mem_singleton.mp hm)
    exact ⟨_, rfl, rfl⟩
  · exact K3.n1
  · obtain ⟨F2, i2, ee, hm, rr, HH⟩ := q
    have y7 : hy_z g' 181 7 = hy_z g 181 7 := hy_zF F2 7 (q := 181) (by decide) (by decide +kernel) (by decide +kernel)
    have y11 : hy_z g' 181 11 = hy_z g 181 11 := hy_zF F2 11 (q := 181) (by decide) (by decide +kernel) (by decide +kernel)
    obtain rfl := List.mem_singleton.mp hm
    refine ⟨F.trans (ty_F.sub (by decide +kernel) F2), HH, i2, by omega, by omega, ?_⟩
    match res, rr with
    | .inl (some x), rr => obtain ⟨z, rfl, -⟩ := rr; exact ⟨z, rfl⟩
theorem lr_159 (hlst : l.stackTraces = false) (hH : hy_H 0 h) (hi : hy_I h) : AM ax_ns l (ax_mm 159) 5 ty_R (0) (0) [.ref 181] h (hq_159 h) := by
  refine AM.of (ax_mfacts (by decide +kernel : ax_has 159 = true)).2.2.2.2.2.2 hlst (by rw [hn_159]; exact Nat.le_of_ble_eq_true rfl) ?_
  show AR ax_ns l (ax_mm 159) 5 ty_R _ _ 0 [(0, .ref 181)] [] h (0) (0)
  have F : ty_F 9223372036854775808 h h := ty_F_refl _ _
  refine AR.s (pc' := 1) (lv' := [(0, .ref 181)]) (st' := [.ref 181]) (h' := h) _ hn_159 hk_159_0 rfl ?_
  refine AR.iconstT hk_159_1 (by decide) (fun z988 ez988 => ?_)
  show AR _ _ _ _ _ _ _ 2 [(0, .ref 181)] [.int z988, .ref 181] h _ _
  refine AR.pT hk_159_2 (by decide) hH F (q := 181) (by decide) (by decide +kernel) (show ax_cls[9]? = some hy_c9 from rfl) (by decide +kernel) (by decide) rfl (by rw [hy_t181_0]; exact ⟨_, rfl, by omega, by omega, Or.inl rfl⟩) (by decide +kernel) (by decide +kernel) ?_
  rintro g989 ⟨Hg989, Fg989, Gg989, Eg989⟩
  show AR _ _ _ _ _ _ _ 5 [(0, .ref 181)] [] g989 _ _
  have ig989 : hy_I g989 := hi.st Gg989 (by decide) Eg989 (by decide +kernel)
  refine AR.s (pc' := 6) (lv' := [(0, .ref 181)]) (st' := [.ref 181]) (h' := g989) _ hn_159 hk_159_5 rfl ?_
  have eB : r_B g989 = r_B h := r_B_F Fg989 (by decide +kernel)
  refine AR.c9 (as := []) (rest := []) hk_159_6 Hg989 (by decide +kernel) rfl rfl (Nat.le_of_ble_eq_true rfl) (lr_152 hlst Hg989 ig989) (by decide) (Nat.zero_le _) (Nat.zero_le _) (fun E h' q => by obtain ⟨-, -, -, -, -, _, e, -⟩ := q; cases e) ?_
  rintro w g ⟨Tg, Hg, ig, e7, e11, z, ez, D⟩
  cases ez
  rw [eB] at e11
  have Fg : ty_F 2059933320083676459688628584448 h g := ty_F.trans (ty_F.sub (by decide +kernel) Fg989) (ty_F.sub (by decide +kernel) Tg)
  show AR _ _ _ _ _ _ _ 9 [(0, .ref 181)] [.int z] g _ _
  refine AR.zne hk_159_9 (tgt := 26) (by decide) (fun p1 => ?_) (fun p2 => ?_)
  · have D2 : z.toInt = 1 ∧ hy_z g 181 11 < 0 ∧ 1 ≤ hy_z g 181 14 ∧ hy_z g 181 14 ≤ hy_z g 181 8 ∧ 3 ≤ hy_z g 181 15 ∧ hy_z g 181 15 ≤ 61 ∧ -22999977 ≤ hy_z g 181 16 ∧ hy_z g 181 16 ≤ 22999977 := by
      rcases D with ⟨e, -⟩ | e
      · exact absurd e (by omega)
      · exact e
    obtain ⟨-, -, k1, k2, k3, k4, k5, k6⟩ := D2
    exact lr_159_t hlst Hg ig Fg e7 e11 k1 k2 k3 k4 k5 k6
  · refine AR.s (pc' := 13) (lv' := [(0, .ref 181)]) (st' := [.ref 181]) (h' := g) _ hn_159 hk_159_12 rfl ?_
    refine AR.iconstT hk_159_13 (by decide) (fun z990 ez990 => ?_)
    show AR _ _ _ _ _ _ _ 14 [(0, .ref 181)] [.int z990, .ref 181] g _ _
    refine AR.c9 (as := [.int z990]) (rest := []) hk_159_14 Hg (by decide +kernel) rfl rfl (Nat.le_of_ble_eq_true rfl) (hf_no hlst Hg z990) (by decide) (Nat.zero_le _) (Nat.zero_le _) (fun E h' q => by obtain ⟨-, -, -, z, e, -⟩ := q; cases e) ?_
    rintro w g9 q9
    obtain ⟨i9, F9, c7, c11⟩ := lt_no q9 ig Fg (by decide +kernel)
    obtain ⟨H9, -, t9, z9, e9, -⟩ := q9
    cases e9
    show AR _ _ _ _ _ _ _ 17 [(0, .ref 181)] [.int z9] g9 _ _
    refine AR.zle hk_159_17 (tgt := 24) (by decide) (fun q1 => ?_) (fun q2 => ?_)
    · refine AR.iconstT hk_159_24 (by decide) (fun z991 ez991 => ?_)
      show AR _ _ _ _ _ _ _ 25 [(0, .ref 181)] [.int z991] g9 _ _
      exact AR.zret hk_159_25 hr_159 (by omega) ⟨F9, H9, i9, by omega, by omega, _, rfl⟩
    · refine AR.iconstT hk_159_20 (by decide) (fun z992 ez992 => ?_)
      show AR _ _ _ _ _ _ _ 21 [(0, .ref 181)] [.int z992] g9 _ _
      refine AR.gotoT hk_159_21 (tgt := 25) (by decide) ?_
      exact AR.zret hk_159_25 hr_159 (by omega) ⟨F9, H9, i9, by omega, by omega, _, rfl⟩
theorem lt_74 (hlst : l.stackTraces = false) (hH : hy_H 0 h) : AM ax_ns l (ax_mm 74) 0 ty_R (0) (0) [.ref 0] h (hq_int h (hy_z h 0 2)) := by
  refine AM.of (ax_mfacts (by decide +kernel : ax_has 74 = true)).2.2.2.2.2.2 hlst (by rw [hn_74]; exact Nat.le_of_ble_eq_true rfl) ?_
  show AR ax_ns l (ax_mm 74) 0 ty_R _ _ 0 [(0, .ref 0)] [] h (0) (0)
  refine AR.s (pc' := 1) (lv' := [(0, .ref 0)]) (st' := [.ref 0]) (h' := h) _ hn_74 hk_74_0 rfl ?_
  refine AR.gI hk_74_1 (by decide) hH (q := 0) (n := 18) (by decide) (by decide +kernel) (by decide +kernel) (by decide) hy_t0_2 (fun x993 dx993 lx993 ux993 => ?_)
  show AR _ _ _ _ _ _ _ 4 [(0, .ref 0)] [.int x993] h _ _
  exact AR.iret hk_74_4 hr_74 ⟨rfl, _, rfl, (hy_zi dx993).symm⟩
def hq_160 (h : ax_H) : ax_Q := fun res g => ty_F 9223372036854775808 h g ∧ hy_H 0 g ∧ hy_I g ∧ hy_z g 181 0 = 0 ∧ ∃ z : Int32, res = .inl (some (.int z)) ∧ z.toInt = hy_z h 181 11
theorem lr_160 (hlst : l.stackTraces = false) (hH : hy_H 0 h) (hi : hy_I h) : AM ax_ns l (ax_mm 160) 0 ty_R (0) (0) [.ref 181] h (hq_160 h) := by
  refine AM.of (ax_mfacts (by decide +kernel : ax_has 160 = true)).2.2.2.2.2.2 hlst (by rw [hn_160]; exact Nat.le_of_ble_eq_true rfl) ?_
  show AR ax_ns l (ax_mm 160) 0 ty_R _ _ 0 [(0, .ref 181)] [] h (0) (0)
  have F : ty_F 9223372036854775808 h h := ty_F_refl _ _
  refine AR.s (pc' := 1) (lv' := [(0, .ref 181)]) (st' := [.ref 181]) (h' := h) _ hn_160 hk_160_0 rfl ?_
  refine AR.iconstT hk_160_1 (by decide) (fun z994 ez994 => ?_)
  show AR _ _ _ _ _ _ _ 2 [(0, .ref 181)] [.int z994, .ref 181] h _ _
  refine AR.pT hk_160_2 (by decide) hH F (q := 181) (by decide) (by decide +kernel) (show ax_cls[9]? = some hy_c9 from rfl) (by decide +kernel) (by decide) rfl (by rw [hy_t181_0]; exact ⟨_, rfl, by omega, by omega, Or.inl rfl⟩) (by decide +kernel) (by decide +kernel) ?_
  rintro g995 ⟨Hg995, Fg995, Gg995, Eg995⟩
  show AR _ _ _ _ _ _ _ 5 [(0, .ref 181)] [] g995 _ _
  have ig995 : hy_I g995 := hi.st Gg995 (by decide) Eg995 (by decide +kernel)
  have ug995_181_0 : hy_z g995 181 0 = z994.toInt := hy_zi (i := z994) (by rw [Eg995, if_pos ⟨rfl, rfl⟩])
  have ug995_181_11 : hy_z g995 181 11 = hy_z h 181 11 := hy_ze (by rw [Eg995, if_neg (fun c => absurd c.2 (by decide))])
  refine AR.s (pc' := 6) (lv' := [(0, .ref 181)]) (st' := [.ref 181]) (h' := g995) _ hn_160 hk_160_5 rfl ?_
  refine AR.gI hk_160_6 (by decide) Hg995 (q := 181) (n := 32) (by decide) (by decide +kernel) (by decide +kernel) (by decide) hy_t181_11 (fun x996 dx996 lx996 ux996 => ?_)
  show AR _ _ _ _ _ _ _ 9 [(0, .ref 181)] [.int x996] g995 _ _
  have sx996 := hy_zi dx996
  exact AR.iret hk_160_9 hr_160 ⟨Fg995, Hg995, ig995, by omega, _, rfl, by omega⟩
def hq_221 (h : ax_H) : ax_Q := fun res g => hy_H 0 g ∧ ty_F 1298074214633706914002237437509668 h g ∧ hy_I g ∧ (∃ z : Int32, res = .inl (some (.int z))) ∧ hy_z g 0 2 = t_er (t_B h) ∧ hy_z g 1 1 = 0
theorem lt_221 (hlst : l.stackTraces = false) (hH : hy_H 0 h) (hi : hy_I h) : AM ax_ns l (ax_mm 221) 8 ty_R (2) (12) [.ref 0, .ref 197] h (hq_221 h) := by
  refine AM.of (ax_mfacts (by decide +kernel : ax_has 221 = true)).2.2.2.2.2.2 hlst (by rw [hn_221]; exact Nat.le_of_ble_eq_true rfl) ?_
  show AR ax_ns l (ax_mm 221) 8 ty_R _ _ 0 [(0, .ref 0), (1, .ref 197)] [] h (2) (12)
  obtain ⟨v0, e0⟩ := lt_c0 hH
  refine AR.s (pc' := 1) (lv' := [(0, .ref 0), (1, .ref 197)]) (st' := [.ref 197]) (h' := h) _ hn_221 hk_221_0 rfl ?_
  refine AR.iconstT hk_221_1 (by decide) (fun z997 ez997 => ?_)
  show AR _ _ _ _ _ _ _ 2 [(0, .ref 0), (1, .ref 197)] [.int z997, .ref 197] h _ _
  refine AR.s (pc' := 3) (lv' := [(0, .ref 0), (1, .ref 197)]) (st' := [.ref 0, .int z997, .ref 197]) (h' := h) _ hn_221 hk_221_2 rfl ?_
  refine AR.jr (r := 0) (as := []) (rest := [.int z997, .ref 197]) hk_221_3 (by decide) (by decide +kernel) (by decide) e0 rfl rfl (Nat.le_of_ble_eq_true rfl) (lt_72 hlst hH hi) (by decide) (by decide) (by decide) ?_ ?_
  · rintro w h1 ⟨H1, F1, i1, e1, e2, (⟨z, ez⟩ | ez | ez)⟩
    · cases ez
      show AR _ _ _ _ _ _ _ 6 [(0, .ref 0), (1, .ref 197)] [.int z, .int z997, .ref 197] h1 _ _
      refine AR.i2l (z := .long z.toInt64) (ax_look_ok hk_221_6).1 rfl ?_
      show AR _ _ _ _ _ _ _ 7 [(0, .ref 0), (1, .ref 197)] [.long z.toInt64, .int z997, .ref 197] h1 _ _
      refine AR.lsT hk_221_7 H1 (ty_F.sub (W := 1298074214633706914002237437509668) (by decide +kernel) F1) (q := 197) (n := 1) (by decide) (by decide +kernel) (by decide +kernel) (by decide +kernel) hy_t197_0 (by omega) (by omega) (Int64.le_toInt _) (by have := Int64.toInt_lt z.toInt64; omega) (by decide +kernel) ?_
      rintro g ⟨Hg, Fg, Gg, Eg⟩
      show AR _ _ _ _ _ _ _ 8 [(0, .ref 0), (1, .ref 197)] [] g _ _
      refine AR.gotoT hk_221_8 (tgt := 17) (by decide) ?_
      refine AR.iconstT hk_221_17 (by decide) (fun z998 ez998 => ?_)
      show AR _ _ _ _ _ _ _ 18 [(0, .ref 0), (1, .ref 197)] [.int z998] g _ _
      have k0 : z997.toNatClampNeg = 0 := by show z997.toInt.toNat = 0; omega
      rw [k0] at Eg
      have a1 : hy_z g 0 2 = hy_z h1 0 2 := hy_ze (by rw [Eg, if_neg (fun c => absurd c.1 (by decide))])
      have a2 : hy_z g 1 1 = hy_z h1 1 1 := hy_ze (by rw [Eg, if_neg (fun c => absurd c.1 (by decide))])
      exact AR.iret hk_221_18 hr_221 ⟨Hg, Fg, i1.st Gg (by decide +kernel) Eg (by decide +kernel), ⟨_, rfl⟩, by omega, by omega⟩
    · cases ez
    · cases ez
  · rintro E h1 ⟨H1, F1, i1, e1, e2, (⟨z, ez⟩ | ez | ez)⟩
    · cases ez
    · cases ez
      refine AX.caught (pre := []) (suf := [(0, 8, 14, 13)]) (s0 := 0) (e0 := 8) (hpc := 11) (ct := 19) (by decide +kernel) (by decide) (by decide) (by decide) (ax_wk_mem (ix := 2203) (by decide +kernel)) (by decide +kernel) (fun z hz => absurd hz List.not_mem_nil) ?_
      show AR _ _ _ _ _ _ _ 11 [(0, .ref 0), (1, .ref 197)] [.retAddr 0] h1 _ _
      refine AR.s (pc' := 12) (lv' := [(2, .retAddr 0), (0, .ref 0), (1, .ref 197)]) (st' := []) (h' := h1) _ hn_221 hk_221_11 rfl ?_
      refine AR.iconstT hk_221_12 (by decide) (fun z999 ez999 => ?_)
      show AR _ _ _ _ _ _ _ 13 [(2, .retAddr 0), (0, .ref 0), (1, .ref 197)] [.int z999] h1 _ _
      exact AR.iret hk_221_13 hr_221 ⟨H1, ty_F.sub (by decide +kernel) F1, i1, ⟨_, rfl⟩, e1, e2⟩
    · cases ez
      refine AX.caught (pre := [(0, 8, 11, 19)]) (suf := []) (s0 := 0) (e0 := 8) (hpc := 14) (ct := 13) (by decide +kernel) (by decide) (by decide) (by decide) (ax_wk_mem (ix := 2120) (by decide +kernel)) (by decide +kernel) (fun z hz => by cases List.mem_singleton.mp hz; exact ⟨by decide, "java/lang/IllegalArgumentException", ax_wk_mem (ix := 2203) (by decide +kernel), by decide +kernel⟩) ?_
      show AR _ _ _ _ _ _ _ 14 [(0, .ref 0), (1, .ref 197)] [.retAddr 0] h1 _ _
      refine AR.s (pc' := 15) (lv' := [(2, .retAddr 0), (0, .ref 0), (1, .ref 197)]) (st' := []) (h' := h1) _ hn_221 hk_221_14 rfl ?_
      refine AR.iconstT hk_221_15 (by decide) (fun z1000 ez1000 => ?_)
      show AR _ _ _ _ _ _ _ 16 [(2, .retAddr 0), (0, .ref 0), (1, .ref 197)] [.int z1000] h1 _ _
      exact AR.iret hk_221_16 hr_221 ⟨H1, ty_F.sub (by decide +kernel) F1, i1, ⟨_, rfl⟩, e1, e2⟩
def hq_222 (h : ax_H) : ax_Q := fun res g => hy_H 0 g ∧ ty_F 1298074214633706911750437623824388 h g ∧ hy_I g ∧ (∃ z : Int32, res = .inl (some (.int z))) ∧ hy_z g 0 2 = t_er (t_B h) ∧ hy_z g 1 1 = 0
theorem lt_222 (hlst : l.stackTraces = false) (hH : hy_H 0 h) (hi : hy_I h) : AM ax_ns l (ax_mm 222) 8 ty_R (2) (12) [.ref 0, .ref 197] h (hq_222 h) := by
  refine AM.of (ax_mfacts (by decide +kernel : ax_has 222 = true)).2.2.2.2.2.2 hlst (by rw [hn_222]; exact Nat.le_of_ble_eq_true rfl) ?_
  show AR ax_ns l (ax_mm 222) 8 ty_R _ _ 0 [(0, .ref 0), (1, .ref 197)] [] h (2) (12)
  obtain ⟨v0, e0⟩ := lt_c0 hH
  refine AR.s (pc' := 1) (lv' := [(0, .ref 0), (1, .ref 197)]) (st' := [.ref 197]) (h' := h) _ hn_222 hk_222_0 rfl ?_
  refine AR.iconstT hk_222_1 (by decide) (fun z1001 ez1001 => ?_)
  show AR _ _ _ _ _ _ _ 2 [(0, .ref 0), (1, .ref 197)] [.int z1001, .ref 197] h _ _
  refine AR.s (pc' := 3) (lv' := [(0, .ref 0), (1, .ref 197)]) (st' := [.ref 0, .int z1001, .ref 197]) (h' := h) _ hn_222 hk_222_2 rfl ?_
  refine AR.jr (r := 0) (as := []) (rest := [.int z1001, .ref 197]) hk_222_3 (by decide) (by decide +kernel) (by decide) e0 rfl rfl (Nat.le_of_ble_eq_true rfl) (lt_73 hlst hH hi) (by decide) (by decide) (by decide) ?_ ?_
  · rintro w h1 ⟨H1, F1, i1, e1, e2, (⟨z, ez⟩ | ez)⟩
    · cases ez
      show AR _ _ _ _ _ _ _ 6 [(0, .ref 0), (1, .ref 197)] [.int z, .int z1001, .ref 197] h1 _ _
      refine AR.zeq hk_222_6 (tgt := 13) (by decide) (fun p1 => ?_) (fun p2 => ?_)
      · refine AR.lconstT hk_222_13 (fun z1002 ez1002 => ?_)
        show AR _ _ _ _ _ _ _ 14 [(0, .ref 0), (1, .ref 197)] [.long z1002, .int z1001, .ref 197] h1 _ _
        refine AR.lsT hk_222_14 H1 (ty_F.sub (W := 1298074214633706911750437623824388) (by decide +kernel) F1) (q := 197) (n := 1) (by decide) (by decide +kernel) (by decide +kernel) (by decide +kernel) hy_t197_0 (by omega) (by omega) (Int64.le_toInt _) (by have := Int64.toInt_lt z1002; omega) (by decide +kernel) ?_
        rintro g ⟨Hg, Fg, Gg, Eg⟩
        show AR _ _ _ _ _ _ _ 15 [(0, .ref 0), (1, .ref 197)] [] g _ _
        refine AR.gotoT hk_222_15 (tgt := 21) (by decide) ?_
        refine AR.iconstT hk_222_21 (by decide) (fun z1003 ez1003 => ?_)
        show AR _ _ _ _ _ _ _ 22 [(0, .ref 0), (1, .ref 197)] [.int z1003] g _ _
        have k0 : z1001.toNatClampNeg = 0 := by show z1001.toInt.toNat = 0; omega
        rw [k0] at Eg
        have a1 : hy_z g 0 2 = hy_z h1 0 2 := hy_ze (by rw [Eg, if_neg (fun c => absurd c.1 (by decide))])
        have a2 : hy_z g 1 1 = hy_z h1 1 1 := hy_ze (by rw [Eg, if_neg (fun c => absurd c.1 (by decide))])
        exact AR.iret hk_222_22 hr_222 ⟨Hg, Fg, i1.st Gg (by decide +kernel) Eg (by decide +kernel), ⟨_, rfl⟩, by omega, by omega⟩
      · refine AR.lconstT hk_222_9 (fun z1004 ez1004 => ?_)
        show AR _ _ _ _ _ _ _ 10 [(0, .ref 0), (1, .ref 197)] [.long z1004, .int z1001, .ref 197] h1 _ _
        refine AR.gotoT hk_222_10 (tgt := 14) (by decide) ?_
        refine AR.lsT hk_222_14 H1 (ty_F.sub (W := 1298074214633706911750437623824388) (by decide +kernel) F1) (q := 197) (n := 1) (by decide) (by decide +kernel) (by decide +kernel) (by decide +kernel) hy_t197_0 (by omega) (by omega) (Int64.le_toInt _) (by have := Int64.toInt_lt z1004; omega) (by decide +kernel) ?_
        rintro g ⟨Hg, Fg, Gg, Eg⟩
        show AR _ _ _ _ _ _ _ 15 [(0, .ref 0), (1, .ref 197)] [] g _ _
        refine AR.gotoT hk_222_15 (tgt := 21) (by decide) ?_
        refine AR.iconstT hk_222_21 (by decide) (fun z1005 ez1005 => ?_)
        show AR _ _ _ _ _ _ _ 22 [(0, .ref 0), (1, .ref 197)] [.int z1005] g _ _
        have k0 : z1001.toNatClampNeg = 0 := by show z1001.toInt.toNat = 0; omega
        rw [k0] at Eg
        have a1 : hy_z g 0 2 = hy_z h1 0 2 := hy_ze (by rw [Eg, if_neg (fun c => absurd c.1 (by decide))])
        have a2 : hy_z g 1 1 = hy_z h1 1 1 := hy_ze (by rw [Eg, if_neg (fun c => absurd c.1 (by decide))])
        exact AR.iret hk_222_22 hr_222 ⟨Hg, Fg, i1.st Gg (by decide +kernel) Eg (by decide +kernel), ⟨_, rfl⟩, by omega, by omega⟩
    · cases ez
  · rintro E h1 ⟨H1, F1, i1, e1, e2, (⟨z, ez⟩ | ez)⟩
    · cases ez
    · cases ez
      refine AX.caught (pre := []) (suf := []) (s0 := 0) (e0 := 15) (hpc := 18) (ct := 19) (by decide +kernel) (by decide) (by decide) (by decide) (ax_wk_mem (ix := 2203) (by decide +kernel)) (by decide +kernel) (fun z hz => absurd hz List.not_mem_nil) ?_
      show AR _ _ _ _ _ _ _ 18 [(0, .ref 0), (1, .ref 197)] [.retAddr 0] h1 _ _
      refine AR.s (pc' := 19) (lv' := [(2, .retAddr 0), (0, .ref 0), (1, .ref 197)]) (st' := []) (h' := h1) _ hn_222 hk_222_18 rfl ?_
      refine AR.iconstT hk_222_19 (by decide) (fun z1006 ez1006 => ?_)
      show AR _ _ _ _ _ _ _ 20 [(2, .retAddr 0), (0, .ref 0), (1, .ref 197)] [.int z1006] h1 _ _
      exact AR.iret hk_222_20 hr_222 ⟨H1, ty_F.sub (by decide +kernel) F1, i1, ⟨_, rfl⟩, e1, e2⟩
theorem lp_and {a b : Int32} (hb : b.toInt = 255) : 0 ≤ (a &&& b).toInt ∧ (a &&& b).toInt ≤ 255 := by
  have e : b = 255 := Int32.toInt_inj.mp hb
  subst e
  have h1 : (a &&& 255).toBitVec.toNat ≤ 255 := by
    rw [Int32.toBitVec_and, BitVec.toNat_and]
    exact Nat.and_le_right
  have h2 : (a &&& 255).toInt = ((a &&& 255).toBitVec.toNat : Int) := by
    show (a &&& 255).toBitVec.toInt = _
    rw [BitVec.toInt_eq_toNat_bmod]
    exact Int.bmod_eq_of_le (by show -_ ≤ ((a &&& 255).toBitVec.toNat : Int); omega) (by show ((a &&& 255).toBitVec.toNat : Int) < _; omega)
  omega
theorem t_i32 (i : Int32) : i.toInt ≤ 2147483647 := by
  have := Int32.toInt_lt i
  omega
/-- a byte of an int -/
def t_by (y : Int32) (n : Int) : Int := ((y >>> (Int32.ofInt n &&& 31)) &&& 255).toInt
theorem t_by_of {x s z k w : Int32} {n : Int} (hs : s.toInt = n) (hk : k.toInt = 255) (h1 : x >>> (s &&& 31) = z) (h2 : z &&& k = w) : w.toInt = t_by x n := by
  subst hs h1 h2
  have e : k = 255 := Int32.toInt_inj.mp hk
  subst e
  unfold t_by
  rw [Int32.ofInt_toInt]
def t_up1 (f : Nat → Int) (k v : Int) : Nat → Int := fun j => if (j : Int) = k then v else f j
def t_up (f : Nat → Int) (s : Int) (y : Int32) : Nat → Int := t_up1 (t_up1 (t_up1 (t_up1 f s (t_by y 24)) (s + 1) (t_by y 16)) (s + 2) (t_by y 8)) (s + 3) (t_by y 0)
def t_up5 (f : Nat → Int) (s : Int) (y1 y2 y3 y4 y5 : Int32) : Nat → Int := t_up (t_up (t_up (t_up (t_up f s y1) (s + 4) y2) (s + 8) y3) (s + 12) y4) (s + 16) y5
theorem t_up1_eq {f f' : Nat → Int} {n : Int} (h : ∀ j : Nat, (j : Int) < n → f j = f' j) (v : Int) : ∀ j : Nat, (j : Int) < n + 1 → t_up1 f n v j = t_up1 f' n v j := fun j hj => by
  unfold t_up1
  split
  · rfl
  · exact h j (by omega)
theorem t_up_eq {f f' : Nat → Int} {n : Int} (h : ∀ j : Nat, (j : Int) < n → f j = f' j) (y : Int32) : ∀ j : Nat, (j : Int) < n + 4 → t_up f n y j = t_up f' n y j := fun j hj => by
  have h1 := t_up1_eq h (t_by y 24)
  have h2 := t_up1_eq h1 (t_by y 16)
  have h3 := t_up1_eq (n := n + 2) (fun j hj => h2 j (by omega)) (t_by y 8)
  exact t_up1_eq (n := n + 3) (fun j hj => h3 j (by omega)) (t_by y 0) j (by omega)
theorem t_up5_eq {f f' : Nat → Int} {n : Int} (h : ∀ j : Nat, (j : Int) < n → f j = f' j) (y1 y2 y3 y4 y5 : Int32) : ∀ j : Nat, (j : Int) < n + 20 → t_up5 f n y1 y2 y3 y4 y5 j = t_up5 f' n y1 y2 y3 y4 y5 j := fun j hj => by
  have h1 := t_up_eq h y1
  have h2 := t_up_eq h1 y2
  have h3 := t_up_eq (n := n + 8) (fun j hj => h2 j (by omega)) y3
  have h4 := t_up_eq (n := n + 12) (fun j hj => h3 j (by omega)) y4
  exact t_up_eq (n := n + 16) (fun j hj => h4 j (by omega)) y5 j (by omega)
theorem t_put {g g' : ax_H} {q : Nat} {i v : Int32} {k V : Int} {f : Nat → Int} (E : ∀ q' j', ty_fd g' q' j' = if q' = q ∧ j' = i.toNatClampNeg then some (.int v) else ty_fd g q' j') (hi : i.toInt = k) (h0 : 0 ≤ k) (hv : v.toInt = V) (hf : hy_z g q = f) : hy_z g' q = t_up1 f k V := by
  subst hf
  funext j
  have hx : i.toNatClampNeg = i.toInt.toNat := rfl
  unfold t_up1
  split
  · rename_i e
    rw [← hv]
    exact hy_zi (by rw [E, if_pos ⟨rfl, by omega⟩])
  · rename_i e
    exact hy_ze (by rw [E, if_neg (fun c => e (by have := c.2; omega))])
theorem t_kept {g g' : ax_H} {q p k : Nat} {x : Value} {f : Nat → Int} (E : ∀ q' j', ty_fd g' q' j' = if q' = p ∧ j' = k then some x else ty_fd g q' j') (hq : q ≠ p) (hf : hy_z g q = f) : hy_z g' q = f := by
  subst hf
  funext j
  exact hy_ze (by rw [E, if_neg (fun c => hq c.1)])
def hq_67 (h : ax_H) (x : Int32) : ax_Q := fun res g => hy_H 0 g ∧ ty_F 1572864 h g ∧ hy_I g ∧ res = .inl none ∧ hy_z g 1 1 = hy_z h 1 1 + 4 ∧ hy_z g 2 = t_up (hy_z h 2) (hy_z h 1 1) x
theorem lp_67 (hlst : l.stackTraces = false) (hH : hy_H 0 h) (hi : hy_I h) (h0 : 0 ≤ hy_z h 1 1) (h1 : hy_z h 1 1 ≤ 196) : AM ax_ns l (ax_mm 67) 0 ty_R (0) (0) [.ref 1, .int x] h (hq_67 h x) := by
  refine AM.of (ax_mfacts (by decide +kernel : ax_has 67 = true)).2.2.2.2.2.2 hlst (by rw [hn_67]; exact Nat.le_of_ble_eq_true rfl) ?_
  show AR ax_ns l (ax_mm 67) 0 ty_R _ _ 0 [(0, .ref 1), (1, .int x)] [] h (0) (0)
  have F : ty_F 1572864 h h := ty_F_refl _ _
  show AR _ _ _ _ _ _ _ 0 [(0, .ref 1), (1, .int x)] [] h _ _
  refine AR.bipushT hk_67_0 (by decide) (fun z1007 ez1007 => ?_)
  show AR _ _ _ _ _ _ _ 2 [(0, .ref 1), (1, .int x)] [.int z1007] h _ _
  refine AR.s (pc' := 3) (lv' := [(2, .int z1007), (0, .ref 1), (1, .int x)]) (st' := []) (h' := h) _ hn_67 hk_67_2 rfl ?_
  refine AR.s (pc' := 4) (lv' := [(2, .int z1007), (0, .ref 1), (1, .int x)]) (st' := [.int z1007]) (h' := h) _ hn_67 hk_67_3 rfl ?_
  refine AR.zlt hk_67_4 (tgt := 49) (by decide) (fun p0 => ?_) (fun q0 => ?_)
  · exact absurd p0 (by omega)
  · refine AR.s (pc' := 8) (lv' := [(2, .int z1007), (0, .ref 1), (1, .int x)]) (st' := [.ref 1]) (h' := h) _ hn_67 hk_67_7 rfl ?_
    refine AR.gI hk_67_8 (by decide) hH (q := 1) (n := 2) (by decide) (by decide +kernel) (by decide +kernel) (by decide) hy_t1_1 (fun x1008 dx1008 lx1008 ux1008 => ?_)
    show AR _ _ _ _ _ _ _ 11 [(2, .int z1007), (0, .ref 1), (1, .int x)] [.int x1008] h _ _
    have sx1008 := hy_zi dx1008
    refine AR.sipushT hk_67_11 (by decide) (fun z1009 ez1009 => ?_)
    show AR _ _ _ _ _ _ _ 14 [(2, .int z1007), (0, .ref 1), (1, .int x)] [.int z1009, .int x1008] h _ _
    refine AR.jge hk_67_14 (tgt := 49) (by decide) (fun p1 => ?_) (fun q1 => ?_)
    · exact absurd p1 (by omega)
    · refine AR.s (pc' := 18) (lv' := [(2, .int z1007), (0, .ref 1), (1, .int x)]) (st' := [.ref 1]) (h' := h) _ hn_67 hk_67_17 rfl ?_
      refine AR.gR hk_67_18 (by decide) hH (q := 1) (n := 2) (by decide) (by decide +kernel) (by decide +kernel) (by decide) hy_t1_0 ?_
      show AR _ _ _ _ _ _ _ 21 [(2, .int z1007), (0, .ref 1), (1, .int x)] [.ref 2] h _ _
      refine AR.s (pc' := 22) (lv' := [(2, .int z1007), (0, .ref 1), (1, .int x)]) (st' := [.ref 1, .ref 2]) (h' := h) _ hn_67 hk_67_21 rfl ?_
      refine AR.gI hk_67_22 (by decide) hH (q := 1) (n := 2) (by decide) (by decide +kernel) (by decide +kernel) (by decide) hy_t1_1 (fun x1010 dx1010 lx1010 ux1010 => ?_)
      show AR _ _ _ _ _ _ _ 25 [(2, .int z1007), (0, .ref 1), (1, .int x)] [.int x1010, .ref 2] h _ _
      have sx1010 := hy_zi dx1010
      refine AR.s (pc' := 26) (lv' := [(2, .int z1007), (0, .ref 1), (1, .int x)]) (st' := [.int x, .int x1010, .ref 2]) (h' := h) _ hn_67 hk_67_25 rfl ?_
      refine AR.s (pc' := 27) (lv' := [(2, .int z1007), (0, .ref 1), (1, .int x)]) (st' := [.int z1007, .int x, .int x1010, .ref 2]) (h' := h) _ hn_67 hk_67_26 rfl ?_
      refine AR.ishr (z := .int (x >>> (z1007 &&& 31))) (ax_look_ok hk_67_27).1 rfl ?_
      generalize hhz1011 : x >>> (z1007 &&& 31) = z1011
      show AR _ _ _ _ _ _ _ 28 [(2, .int z1007), (0, .ref 1), (1, .int x)] [.int z1011, .int x1010, .ref 2] h _ _
      refine AR.sipushT hk_67_28 (by decide) (fun z1012 ez1012 => ?_)
      show AR _ _ _ _ _ _ _ 31 [(2, .int z1007), (0, .ref 1), (1, .int x)] [.int z1012, .int z1011, .int x1010, .ref 2] h _ _
      refine AR.iand (z := .int (z1011 &&& z1012)) (ax_look_ok hk_67_31).1 rfl ?_
      have ez1013 := lp_and (a := z1011) ez1012
      have bz1013 : (z1011 &&& z1012).toInt = t_by x 24 := t_by_of (by omega) ez1012 hhz1011 rfl
      generalize z1011 &&& z1012 = z1013 at ez1013 bz1013
      show AR _ _ _ _ _ _ _ 32 [(2, .int z1007), (0, .ref 1), (1, .int x)] [.int z1013, .int x1010, .ref 2] h _ _
      refine AR.isT hk_67_32 hH F (q := 2) (n := 200) (by decide) (by decide +kernel) (by decide +kernel) (by decide +kernel) hy_t2_0 (by omega) (by omega) (by omega) (by omega) (by decide +kernel) ?_
      rintro g1014 ⟨Hg1014, Fg1014, Gg1014, Eg1014⟩
      show AR _ _ _ _ _ _ _ 33 [(2, .int z1007), (0, .ref 1), (1, .int x)] [] g1014 _ _
      have ig1014 : hy_I g1014 := hi.st Gg1014 (by decide) Eg1014 (by unfold ty_ky; rw [show ty_ar 2 = true from by decide +kernel]; show ty_IK.testBit ((ty_tab 2).2.2.1 - 1 + 0) = false; decide +kernel)
      have ug1014_1_1 : hy_z g1014 1 1 = hy_z h 1 1 := hy_ze (by rw [Eg1014, if_neg (fun c => absurd c.1 (by decide))])
      have cg1014 : hy_z g1014 2 = t_up1 (hy_z h 2) (hy_z h 1 1) (t_by x 24) := t_put Eg1014 (by omega) (by omega) bz1013 rfl
      refine AR.s (pc' := 34) (lv' := [(2, .int z1007), (0, .ref 1), (1, .int x)]) (st' := [.ref 1]) (h' := g1014) _ hn_67 hk_67_33 rfl ?_
      refine AR.s (pc' := 35) (lv' := [(2, .int z1007), (0, .ref 1), (1, .int x)]) (st' := [.ref 1, .ref 1]) (h' := g1014) _ hn_67 hk_67_34 rfl ?_
      refine AR.gI hk_67_35 (by decide) Hg1014 (q := 1) (n := 2) (by decide) (by decide +kernel) (by decide +kernel) (by decide) hy_t1_1 (fun x1015 dx1015 lx1015 ux1015 => ?_)
      show AR _ _ _ _ _ _ _ 38 [(2, .int z1007), (0, .ref 1), (1, .int x)] [.int x1015, .ref 1] g1014 _ _
      have sx1015 := hy_zi dx1015
      refine AR.iconstT hk_67_38 (by decide) (fun z1016 ez1016 => ?_)
      show AR _ _ _ _ _ _ _ 39 [(2, .int z1007), (0, .ref 1), (1, .int x)] [.int z1016, .int x1015, .ref 1] g1014 _ _
      refine AR.addT hk_67_39 (by omega) (by omega) (fun z1017 ez1017 => ?_)
      show AR _ _ _ _ _ _ _ 40 [(2, .int z1007), (0, .ref 1), (1, .int x)] [.int z1017, .ref 1] g1014 _ _
      refine AR.pT hk_67_40 (by decide) Hg1014 Fg1014 (q := 1) (by decide) (by decide +kernel) (show ax_cls[7]? = some hy_c7 from rfl) (by decide +kernel) (by decide) rfl (by rw [hy_t1_1]; exact ⟨_, rfl, by omega, by omega, Or.inl rfl⟩) (by decide +kernel) (by decide +kernel) ?_
      rintro g1018 ⟨Hg1018, Fg1018, Gg1018, Eg1018⟩
      show AR _ _ _ _ _ _ _ 43 [(2, .int z1007), (0, .ref 1), (1, .int x)] [] g1018 _ _
      have ig1018 : hy_I g1018 := ig1014.st Gg1018 (by decide) Eg1018 (by decide +kernel)
      have ug1018_1_1 : hy_z g1018 1 1 = z1017.toInt := hy_zi (i := z1017) (by rw [Eg1018, if_pos ⟨rfl, rfl⟩])
      have cg1018 : hy_z g1018 2 = t_up1 (hy_z h 2) (hy_z h 1 1) (t_by x 24) := t_kept Eg1018 (by decide) cg1014
      refine AR.iincT hk_67_43 (x := z1007) rfl (by rw [hn_67]; decide) (by decide) (by omega) (by omega) (fun z1019 ez1019 => ?_)
      show AR _ _ _ _ _ _ _ 46 [(2, .int z1019), (0, .ref 1), (1, .int x)] [] g1018 _ _
      refine AR.gotoT hk_67_46 (tgt := 3) (by decide) ?_
      refine AR.s (pc' := 4) (lv' := [(2, .int z1019), (0, .ref 1), (1, .int x)]) (st' := [.int z1019]) (h' := g1018) _ hn_67 hk_67_3 rfl ?_
      refine AR.zlt hk_67_4 (tgt := 49) (by decide) (fun p2 => ?_) (fun q2 => ?_)
      · exact absurd p2 (by omega)
      · refine AR.s (pc' := 8) (lv' := [(2, .int z1019), (0, .ref 1), (1, .int x)]) (st' := [.ref 1]) (h' := g1018) _ hn_67 hk_67_7 rfl ?_
        refine AR.gI hk_67_8 (by decide) Hg1018 (q := 1) (n := 2) (by decide) (by decide +kernel) (by decide +kernel) (by decide) hy_t1_1 (fun x1020 dx1020 lx1020 ux1020 => ?_)
        show AR _ _ _ _ _ _ _ 11 [(2, .int z1019), (0, .ref 1), (1, .int x)] [.int x1020] g1018 _ _
        have sx1020 := hy_zi dx1020
        refine AR.sipushT hk_67_11 (by decide) (fun z1021 ez1021 => ?_)
        show AR _ _ _ _ _ _ _ 14 [(2, .int z1019), (0, .ref 1), (1, .int x)] [.int z1021, .int x1020] g1018 _ _
        refine AR.jge hk_67_14 (tgt := 49) (by decide) (fun p3 => ?_) (fun q3 => ?_)
        · exact absurd p3 (by omega)
        · refine AR.s (pc' := 18) (lv' := [(2, .int z1019), (0, .ref 1), (1, .int x)]) (st' := [.ref 1]) (h' := g1018) _ hn_67 hk_67_17 rfl ?_
          refine AR.gR hk_67_18 (by decide) Hg1018 (q := 1) (n := 2) (by decide) (by decide +kernel) (by decide +kernel) (by decide) hy_t1_0 ?_
          show AR _ _ _ _ _ _ _ 21 [(2, .int z1019), (0, .ref 1), (1, .int x)] [.ref 2] g1018 _ _
          refine AR.s (pc' := 22) (lv' := [(2, .int z1019), (0, .ref 1), (1, .int x)]) (st' := [.ref 1, .ref 2]) (h' := g1018) _ hn_67 hk_67_21 rfl ?_
          refine AR.gI hk_67_22 (by decide) Hg1018 (q := 1) (n := 2) (by decide) (by decide +kernel) (by decide +kernel) (by decide) hy_t1_1 (fun x1022 dx1022 lx1022 ux1022 => ?_)
          show AR _ _ _ _ _ _ _ 25 [(2, .int z1019), (0, .ref 1), (1, .int x)] [.int x1022, .ref 2] g1018 _ _
          have sx1022 := hy_zi dx1022
          refine AR.s (pc' := 26) (lv' := [(2, .int z1019), (0, .ref 1), (1, .int x)]) (st' := [.int x, .int x1022, .ref 2]) (h' := g1018) _ hn_67 hk_67_25 rfl ?_
          refine AR.s (pc' := 27) (lv' := [(2, .int z1019), (0, .ref 1), (1, .int x)]) (st' := [.int z1019, .int x, .int x1022, .ref 2]) (h' := g1018) _ hn_67 hk_67_26 rfl ?_
          refine AR.ishr (z := .int (x >>> (z1019 &&& 31))) (ax_look_ok hk_67_27).1 rfl ?_
          generalize hhz1023 : x >>> (z1019 &&& 31) = z1023
          show AR _ _ _ _ _ _ _ 28 [(2, .int z1019), (0, .ref 1), (1, .int x)] [.int z1023, .int x1022, .ref 2] g1018 _ _
          refine AR.sipushT hk_67_28 (by decide) (fun z1024 ez1024 => ?_)
          show AR _ _ _ _ _ _ _ 31 [(2, .int z1019), (0, .ref 1), (1, .int x)] [.int z1024, .int z1023, .int x1022, .ref 2] g1018 _ _
          refine AR.iand (z := .int (z1023 &&& z1024)) (ax_look_ok hk_67_31).1 rfl ?_
          have ez1025 := lp_and (a := z1023) ez1024
          have bz1025 : (z1023 &&& z1024).toInt = t_by x 16 := t_by_of (by omega) ez1024 hhz1023 rfl
          generalize z1023 &&& z1024 = z1025 at ez1025 bz1025
          show AR _ _ _ _ _ _ _ 32 [(2, .int z1019), (0, .ref 1), (1, .int x)] [.int z1025, .int x1022, .ref 2] g1018 _ _
          refine AR.isT hk_67_32 Hg1018 Fg1018 (q := 2) (n := 200) (by decide) (by decide +kernel) (by decide +kernel) (by decide +kernel) hy_t2_0 (by omega) (by omega) (by omega) (by omega) (by decide +kernel) ?_
          rintro g1026 ⟨Hg1026, Fg1026, Gg1026, Eg1026⟩
          show AR _ _ _ _ _ _ _ 33 [(2, .int z1019), (0, .ref 1), (1, .int x)] [] g1026 _ _
          have ig1026 : hy_I g1026 := ig1018.st Gg1026 (by decide) Eg1026 (by unfold ty_ky; rw [show ty_ar 2 = true from by decide +kernel]; show ty_IK.testBit ((ty_tab 2).2.2.1 - 1 + 0) = false; decide +kernel)
          have ug1026_1_1 : hy_z g1026 1 1 = hy_z g1018 1 1 := hy_ze (by rw [Eg1026, if_neg (fun c => absurd c.1 (by decide))])
          have cg1026 : hy_z g1026 2 = t_up1 (t_up1 (hy_z h 2) (hy_z h 1 1) (t_by x 24)) (hy_z h 1 1 + 1) (t_by x 16) := t_put Eg1026 (by omega) (by omega) bz1025 cg1018
          refine AR.s (pc' := 34) (lv' := [(2, .int z1019), (0, .ref 1), (1, .int x)]) (st' := [.ref 1]) (h' := g1026) _ hn_67 hk_67_33 rfl ?_
          refine AR.s (pc' := 35) (lv' := [(2, .int z1019), (0, .ref 1), (1, .int x)]) (st' := [.ref 1, .ref 1]) (h' := g1026) _ hn_67 hk_67_34 rfl ?_
          refine AR.gI hk_67_35 (by decide) Hg1026 (q := 1) (n := 2) (by decide) (by decide +kernel) (by decide +kernel) (by decide) hy_t1_1 (fun x1027 dx1027 lx1027 ux1027 => ?_)
          show AR _ _ _ _ _ _ _ 38 [(2, .int z1019), (0, .ref 1), (1, .int x)] [.int x1027, .ref 1] g1026 _ _
          have sx1027 := hy_zi dx1027
          refine AR.iconstT hk_67_38 (by decide) (fun z1028 ez1028 => ?_)
          show AR _ _ _ _ _ _ _ 39 [(2, .int z1019), (0, .ref 1), (1, .int x)] [.int z1028, .int x1027, .ref 1] g1026 _ _
          refine AR.addT hk_67_39 (by omega) (by omega) (fun z1029 ez1029 => ?_)
          show AR _ _ _ _ _ _ _ 40 [(2, .int z1019), (0, .ref 1), (1, .int x)] [.int z1029, .ref 1] g1026 _ _
          refine AR.pT hk_67_40 (by decide) Hg1026 Fg1026 (q := 1) (by decide) (by decide +kernel) (show ax_cls[7]? = some hy_c7 from rfl) (by decide +kernel) (by decide) rfl (by rw [hy_t1_1]; exact ⟨_, rfl, by omega, by omega, Or.inl rfl⟩) (by decide +kernel) (by decide +kernel) ?_
          rintro g1030 ⟨Hg1030, Fg1030, Gg1030, Eg1030⟩
          show AR _ _ _ _ _ _ _ 43 [(2, .int z1019), (0, .ref 1), (1, .int x)] [] g1030 _ _
          have ig1030 : hy_I g1030 := ig1026.st Gg1030 (by decide) Eg1030 (by decide +kernel)
          have ug1030_1_1 : hy_z g1030 1 1 = z1029.toInt := hy_zi (i := z1029) (by rw [Eg1030, if_pos ⟨rfl, rfl⟩])
          have cg1030 : hy_z g1030 2 = t_up1 (t_up1 (hy_z h 2) (hy_z h 1 1) (t_by x 24)) (hy_z h 1 1 + 1) (t_by x 16) := t_kept Eg1030 (by decide) cg1026
          refine AR.iincT hk_67_43 (x := z1019) rfl (by rw [hn_67]; decide) (by decide) (by omega) (by omega) (fun z1031 ez1031 => ?_)
          show AR _ _ _ _ _ _ _ 46 [(2, .int z1031), (0, .ref 1), (1, .int x)] [] g1030 _ _
          refine AR.gotoT hk_67_46 (tgt := 3) (by decide) ?_
          refine AR.s (pc' := 4) (lv' := [(2, .int z1031), (0, .ref 1), (1, .int x)]) (st' := [.int z1031]) (h' := g1030) _ hn_67 hk_67_3 rfl ?_
          refine AR.zlt hk_67_4 (tgt := 49) (by decide) (fun p4 => ?_) (fun q4 => ?_)
          · exact absurd p4 (by omega)
          · refine AR.s (pc' := 8) (lv' := [(2, .int z1031), (0, .ref 1), (1, .int x)]) (st' := [.ref 1]) (h' := g1030) _ hn_67 hk_67_7 rfl ?_
            refine AR.gI hk_67_8 (by decide) Hg1030 (q := 1) (n := 2) (by decide) (by decide +kernel) (by decide +kernel) (by decide) hy_t1_1 (fun x1032 dx1032 lx1032 ux1032 => ?_)
            show AR _ _ _ _ _ _ _ 11 [(2, .int z1031), (0, .ref 1), (1, .int x)] [.int x1032] g1030 _ _
            have sx1032 := hy_zi dx1032
            refine AR.sipushT hk_67_11 (by decide) (fun z1033 ez1033 => ?_)
            show AR _ _ _ _ _ _ _ 14 [(2, .int z1031), (0, .ref 1), (1, .int x)] [.int z1033, .int x1032] g1030 _ _
            refine AR.jge hk_67_14 (tgt := 49) (by decide) (fun p5 => ?_) (fun q5 => ?_)
            · exact absurd p5 (by omega)
            · refine AR.s (pc' := 18) (lv' := [(2, .int z1031), (0, .ref 1), (1, .int x)]) (st' := [.ref 1]) (h' := g1030) _ hn_67 hk_67_17 rfl ?_
              refine AR.gR hk_67_18 (by decide) Hg1030 (q := 1) (n := 2) (by decide) (by decide +kernel) (by decide +kernel) (by decide) hy_t1_0 ?_
              show AR _ _ _ _ _ _ _ 21 [(2, .int z1031), (0, .ref 1), (1, .int x)] [.ref 2] g1030 _ _
              refine AR.s (pc' := 22) (lv' := [(2, .int z1031), (0, .ref 1), (1, .int x)]) (st' := [.ref 1, .ref 2]) (h' := g1030) _ hn_67 hk_67_21 rfl ?_
              refine AR.gI hk_67_22 (by decide) Hg1030 (q := 1) (n := 2) (by decide) (by decide +kernel) (by decide +kernel) (by decide) hy_t1_1 (fun x1034 dx1034 lx1034 ux1034 => ?_)
              show AR _ _ _ _ _ _ _ 25 [(2, .int z1031), (0, .ref 1), (1, .int x)] [.int x1034, .ref 2] g1030 _ _
              have sx1034 := hy_zi dx1034
              refine AR.s (pc' := 26) (lv' := [(2, .int z1031), (0, .ref 1), (1, .int x)]) (st' := [.int x, .int x1034, .ref 2]) (h' := g1030) _ hn_67 hk_67_25 rfl ?_
              refine AR.s (pc' := 27) (lv' := [(2, .int z1031), (0, .ref 1), (1, .int x)]) (st' := [.int z1031, .int x, .int x1034, .ref 2]) (h' := g1030) _ hn_67 hk_67_26 rfl ?_
              refine AR.ishr (z := .int (x >>> (z1031 &&& 31))) (ax_look_ok hk_67_27).1 rfl ?_
              generalize hhz1035 : x >>> (z1031 &&& 31) = z1035
              show AR _ _ _ _ _ _ _ 28 [(2, .int z1031), (0, .ref 1), (1, .int x)] [.int z1035, .int x1034, .ref 2] g1030 _ _
              refine AR.sipushT hk_67_28 (by decide) (fun z1036 ez1036 => ?_)
              show AR _ _ _ _ _ _ _ 31 [(2, .int z1031), (0, .ref 1), (1, .int x)] [.int z1036, .int z1035, .int x1034, .ref 2] g1030 _ _
              refine AR.iand (z := .int (z1035 &&& z1036)) (ax_look_ok hk_67_31).1 rfl ?_
              have ez1037 := lp_and (a := z1035) ez1036
              have bz1037 : (z1035 &&& z1036).toInt = t_by x 8 := t_by_of (by omega) ez1036 hhz1035 rfl
              generalize z1035 &&& z1036 = z1037 at ez1037 bz1037
              show AR _ _ _ _ _ _ _ 32 [(2, .int z1031), (0, .ref 1), (1, .int x)] [.int z1037, .int x1034, .ref 2] g1030 _ _
              refine AR.isT hk_67_32 Hg1030 Fg1030 (q := 2) (n := 200) (by decide) (by decide +kernel) (by decide +kernel) (by decide +kernel) hy_t2_0 (by omega) (by omega) (by omega) (by omega) (by decide +kernel) ?_
              rintro g1038 ⟨Hg1038, Fg1038, Gg1038, Eg1038⟩
              show AR _ _ _ _ _ _ _ 33 [(2, .int z1031), (0, .ref 1), (1, .int x)] [] g1038 _ _
              have ig1038 : hy_I g1038 := ig1030.st Gg1038 (by decide) Eg1038 (by unfold ty_ky; rw [show ty_ar 2 = true from by decide +kernel]; show ty_IK.testBit ((ty_tab 2).2.2.1 - 1 + 0) = false; decide +kernel)
              have ug1038_1_1 : hy_z g1038 1 1 = hy_z g1030 1 1 := hy_ze (by rw [Eg1038, if_neg (fun c => absurd c.1 (by decide))])
              have cg1038 : hy_z g1038 2 = t_up1 (t_up1 (t_up1 (hy_z h 2) (hy_z h 1 1) (t_by x 24)) (hy_z h 1 1 + 1) (t_by x 16)) (hy_z h 1 1 + 2) (t_by x 8) := t_put Eg1038 (by omega) (by omega) bz1037 cg1030
              refine AR.s (pc' := 34) (lv' := [(2, .int z1031), (0, .ref 1), (1, .int x)]) (st' := [.ref 1]) (h' := g1038) _ hn_67 hk_67_33 rfl ?_
              refine AR.s (pc' := 35) (lv' := [(2, .int z1031), (0, .ref 1), (1, .int x)]) (st' := [.ref 1, .ref 1]) (h' := g1038) _ hn_67 hk_67_34 rfl ?_
              refine AR.gI hk_67_35 (by decide) Hg1038 (q := 1) (n := 2) (by decide) (by decide +kernel) (by decide +kernel) (by decide) hy_t1_1 (fun x1039 dx1039 lx1039 ux1039 => ?_)
              show AR _ _ _ _ _ _ _ 38 [(2, .int z1031), (0, .ref 1), (1, .int x)] [.int x1039, .ref 1] g1038 _ _
              have sx1039 := hy_zi dx1039
              refine AR.iconstT hk_67_38 (by decide) (fun z1040 ez1040 => ?_)
              show AR _ _ _ _ _ _ _ 39 [(2, .int z1031), (0, .ref 1), (1, .int x)] [.int z1040, .int x1039, .ref 1] g1038 _ _
              refine AR.addT hk_67_39 (by omega) (by omega) (fun z1041 ez1041 => ?_)
              show AR _ _ _ _ _ _ _ 40 [(2, .int z1031), (0, .ref 1), (1, .int x)] [.int z1041, .ref 1] g1038 _ _
              refine AR.pT hk_67_40 (by decide) Hg1038 Fg1038 (q := 1) (by decide) (by decide +kernel) (show ax_cls[7]? = some hy_c7 from rfl) (by decide +kernel) (by decide) rfl (by rw [hy_t1_1]; exact ⟨_, rfl, by omega, by omega, Or.inl rfl⟩) (by decide +kernel) (by decide +kernel) ?_
              rintro g1042 ⟨Hg1042, Fg1042, Gg1042, Eg1042⟩
              show AR _ _ _ _ _ _ _ 43 [(2, .int z1031), (0, .ref 1), (1, .int x)] [] g1042 _ _
              have ig1042 : hy_I g1042 := ig1038.st Gg1042 (by decide) Eg1042 (by decide +kernel)
              have ug1042_1_1 : hy_z g1042 1 1 = z1041.toInt := hy_zi (i := z1041) (by rw [Eg1042, if_pos ⟨rfl, rfl⟩])
              have cg1042 : hy_z g1042 2 = t_up1 (t_up1 (t_up1 (hy_z h 2) (hy_z h 1 1) (t_by x 24)) (hy_z h 1 1 + 1) (t_by x 16)) (hy_z h 1 1 + 2) (t_by x 8) := t_kept Eg1042 (by decide) cg1038
              refine AR.iincT hk_67_43 (x := z1031) rfl (by rw [hn_67]; decide) (by decide) (by omega) (by omega) (fun z1043 ez1043 => ?_)
              show AR _ _ _ _ _ _ _ 46 [(2, .int z1043), (0, .ref 1), (1, .int x)] [] g1042 _ _
              refine AR.gotoT hk_67_46 (tgt := 3) (by decide) ?_
              refine AR.s (pc' := 4) (lv' := [(2, .int z1043), (0, .ref 1), (1, .int x)]) (st' := [.int z1043]) (h' := g1042) _ hn_67 hk_67_3 rfl ?_
              refine AR.zlt hk_67_4 (tgt := 49) (by decide) (fun p6 => ?_) (fun q6 => ?_)
              · exact absurd p6 (by omega)
              · refine AR.s (pc' := 8) (lv' := [(2, .int z1043), (0, .ref 1), (1, .int x)]) (st' := [.ref 1]) (h' := g1042) _ hn_67 hk_67_7 rfl ?_
                refine AR.gI hk_67_8 (by decide) Hg1042 (q := 1) (n := 2) (by decide) (by decide +kernel) (by decide +kernel) (by decide) hy_t1_1 (fun x1044 dx1044 lx1044 ux1044 => ?_)
                show AR _ _ _ _ _ _ _ 11 [(2, .int z1043), (0, .ref 1), (1, .int x)] [.int x1044] g1042 _ _
                have sx1044 := hy_zi dx1044
                refine AR.sipushT hk_67_11 (by decide) (fun z1045 ez1045 => ?_)
                show AR _ _ _ _ _ _ _ 14 [(2, .int z1043), (0, .ref 1), (1, .int x)] [.int z1045, .int x1044] g1042 _ _
                refine AR.jge hk_67_14 (tgt := 49) (by decide) (fun p7 => ?_) (fun q7 => ?_)
                · exact absurd p7 (by omega)
                · refine AR.s (pc' := 18) (lv' := [(2, .int z1043), (0, .ref 1), (1, .int x)]) (st' := [.ref 1]) (h' := g1042) _ hn_67 hk_67_17 rfl ?_
                  refine AR.gR hk_67_18 (by decide) Hg1042 (q := 1) (n := 2) (by decide) (by decide +kernel) (by decide +kernel) (by decide) hy_t1_0 ?_
                  show AR _ _ _ _ _ _ _ 21 [(2, .int z1043), (0, .ref 1), (1, .int x)] [.ref 2] g1042 _ _
                  refine AR.s (pc' := 22) (lv' := [(2, .int z1043), (0, .ref 1), (1, .int x)]) (st' := [.ref 1, .ref 2]) (h' := g1042) _ hn_67 hk_67_21 rfl ?_
                  refine AR.gI hk_67_22 (by decide) Hg1042 (q := 1) (n := 2) (by decide) (by decide +kernel) (by decide +kernel) (by decide) hy_t1_1 (fun x1046 dx1046 lx1046 ux1046 => ?_)
                  show AR _ _ _ _ _ _ _ 25 [(2, .int z1043), (0, .ref 1), (1, .int x)] [.int x1046, .ref 2] g1042 _ _
                  have sx1046 := hy_zi dx1046
                  refine AR.s (pc' := 26) (lv' := [(2, .int z1043), (0, .ref 1), (1, .int x)]) (st' := [.int x, .int x1046, .ref 2]) (h' := g1042) _ hn_67 hk_67_25 rfl ?_
                  refine AR.s (pc' := 27) (lv' := [(2, .int z1043), (0, .ref 1), (1, .int x)]) (st' := [.int z1043, .int x, .int x1046, .ref 2]) (h' := g1042) _ hn_67 hk_67_26 rfl ?_
                  refine AR.ishr (z := .int (x >>> (z1043 &&& 31))) (ax_look_ok hk_67_27).1 rfl ?_
                  generalize hhz1047 : x >>> (z1043 &&& 31) = z1047
                  show AR _ _ _ _ _ _ _ 28 [(2, .int z1043), (0, .ref 1), (1, .int x)] [.int z1047, .int x1046, .ref 2] g1042 _ _
                  refine AR.sipushT hk_67_28 (by decide) (fun z1048 ez1048 => ?_)
                  show AR _ _ _ _ _ _ _ 31 [(2, .int z1043), (0, .ref 1), (1, .int x)] [.int z1048, .int z1047, .int x1046, .ref 2] g1042 _ _
                  refine AR.iand (z := .int (z1047 &&& z1048)) (ax_look_ok hk_67_31).1 rfl ?_
                  have ez1049 := lp_and (a := z1047) ez1048
                  have bz1049 : (z1047 &&& z1048).toInt = t_by x 0 := t_by_of (by omega) ez1048 hhz1047 rfl
                  generalize z1047 &&& z1048 = z1049 at ez1049 bz1049
                  show AR _ _ _ _ _ _ _ 32 [(2, .int z1043), (0, .ref 1), (1, .int x)] [.int z1049, .int x1046, .ref 2] g1042 _ _
                  refine AR.isT hk_67_32 Hg1042 Fg1042 (q := 2) (n := 200) (by decide) (by decide +kernel) (by decide +kernel) (by decide +kernel) hy_t2_0 (by omega) (by omega) (by omega) (by omega) (by decide +kernel) ?_
                  rintro g1050 ⟨Hg1050, Fg1050, Gg1050, Eg1050⟩
                  show AR _ _ _ _ _ _ _ 33 [(2, .int z1043), (0, .ref 1), (1, .int x)] [] g1050 _ _
                  have ig1050 : hy_I g1050 := ig1042.st Gg1050 (by decide) Eg1050 (by unfold ty_ky; rw [show ty_ar 2 = true from by decide +kernel]; show ty_IK.testBit ((ty_tab 2).2.2.1 - 1 + 0) = false; decide +kernel)
                  have ug1050_1_1 : hy_z g1050 1 1 = hy_z g1042 1 1 := hy_ze (by rw [Eg1050, if_neg (fun c => absurd c.1 (by decide))])
                  have cg1050 : hy_z g1050 2 = t_up1 (t_up1 (t_up1 (t_up1 (hy_z h 2) (hy_z h 1 1) (t_by x 24)) (hy_z h 1 1 + 1) (t_by x 16)) (hy_z h 1 1 + 2) (t_by x 8)) (hy_z h 1 1 + 3) (t_by x 0) := t_put Eg1050 (by omega) (by omega) bz1049 cg1042
                  refine AR.s (pc' := 34) (lv' := [(2, .int z1043), (0, .ref 1), (1, .int x)]) (st' := [.ref 1]) (h' := g1050) _ hn_67 hk_67_33 rfl ?_
                  refine AR.s (pc' := 35) (lv' := [(2, .int z1043), (0, .ref 1), (1, .int x)]) (st' := [.ref 1, .ref 1]) (h' := g1050) _ hn_67 hk_67_34 rfl ?_
                  refine AR.gI hk_67_35 (by decide) Hg1050 (q := 1) (n := 2) (by decide) (by decide +kernel) (by decide +kernel) (by decide) hy_t1_1 (fun x1051 dx1051 lx1051 ux1051 => ?_)
                  show AR _ _ _ _ _ _ _ 38 [(2, .int z1043), (0, .ref 1), (1, .int x)] [.int x1051, .ref 1] g1050 _ _
                  have sx1051 := hy_zi dx1051
                  refine AR.iconstT hk_67_38 (by decide) (fun z1052 ez1052 => ?_)
                  show AR _ _ _ _ _ _ _ 39 [(2, .int z1043), (0, .ref 1), (1, .int x)] [.int z1052, .int x1051, .ref 1] g1050 _ _
                  refine AR.addT hk_67_39 (by omega) (by omega) (fun z1053 ez1053 => ?_)
                  show AR _ _ _ _ _ _ _ 40 [(2, .int z1043), (0, .ref 1), (1, .int x)] [.int z1053, .ref 1] g1050 _ _
                  refine AR.pT hk_67_40 (by decide) Hg1050 Fg1050 (q := 1) (by decide) (by decide +kernel) (show ax_cls[7]? = some hy_c7 from rfl) (by decide +kernel) (by decide) rfl (by rw [hy_t1_1]; exact ⟨_, rfl, by omega, by omega, Or.inl rfl⟩) (by decide +kernel) (by decide +kernel) ?_
                  rintro g1054 ⟨Hg1054, Fg1054, Gg1054, Eg1054⟩
                  show AR _ _ _ _ _ _ _ 43 [(2, .int z1043), (0, .ref 1), (1, .int x)] [] g1054 _ _
                  have ig1054 : hy_I g1054 := ig1050.st Gg1054 (by decide) Eg1054 (by decide +kernel)
                  have ug1054_1_1 : hy_z g1054 1 1 = z1053.toInt := hy_zi (i := z1053) (by rw [Eg1054, if_pos ⟨rfl, rfl⟩])
                  have cg1054 : hy_z g1054 2 = t_up1 (t_up1 (t_up1 (t_up1 (hy_z h 2) (hy_z h 1 1) (t_by x 24)) (hy_z h 1 1 + 1) (t_by x 16)) (hy_z h 1 1 + 2) (t_by x 8)) (hy_z h 1 1 + 3) (t_by x 0) := t_kept Eg1054 (by decide) cg1050
                  refine AR.iincT hk_67_43 (x := z1043) rfl (by rw [hn_67]; decide) (by decide) (by omega) (by omega) (fun z1055 ez1055 => ?_)
                  show AR _ _ _ _ _ _ _ 46 [(2, .int z1055), (0, .ref 1), (1, .int x)] [] g1054 _ _
                  refine AR.gotoT hk_67_46 (tgt := 3) (by decide) ?_
                  refine AR.s (pc' := 4) (lv' := [(2, .int z1055), (0, .ref 1), (1, .int x)]) (st' := [.int z1055]) (h' := g1054) _ hn_67 hk_67_3 rfl ?_
                  refine AR.zlt hk_67_4 (tgt := 49) (by decide) (fun p8 => ?_) (fun q8 => ?_)
                  · exact AR.vret hk_67_49 hr_67 ⟨Hg1054, Fg1054, ig1054, rfl, by omega, cg1054⟩
                  · exact absurd q8 (by omega)
def hq_70 (h : ax_H) (y1 y2 y3 y4 y5 : Int32) : ax_Q := fun res g => hy_H 0 g ∧ ty_F 1572864 h g ∧ hy_I g ∧ ((res = .inr "java/lang/IllegalStateException" ∧ 180 < hy_z h 1 1 ∧ hy_z g 1 1 = hy_z h 1 1 ∧ hy_z g 2 = hy_z h 2) ∨ (hy_z h 1 1 ≤ 180 ∧ hy_z g 1 1 = hy_z h 1 1 + 20 ∧ hy_z g 2 = t_up5 (hy_z h 2) (hy_z h 1 1) y1 y2 y3 y4 y5 ∧ ∃ z : Int32, res = .inl (some (.int z)) ∧ z.toInt = hy_z g 1 1))
variable {y1 y2 y3 y4 y5 : Int32}
theorem lp_70 (hlst : l.stackTraces = false) (hH : hy_H 0 h) (hi : hy_I h) : AM ax_ns l (ax_mm 70) 1 ty_R (1) (6) [.ref 0, .int y1, .int y2, .int y3, .int y4, .int y5] h (hq_70 h y1 y2 y3 y4 y5) := by
  refine AM.of (ax_mfacts (by decide +kernel : ax_has 70 = true)).2.2.2.2.2.2 hlst (by rw [hn_70]; exact Nat.le_of_ble_eq_true rfl) ?_
  show AR ax_ns l (ax_mm 70) 1 ty_R _ _ 0 [(0, .ref 0), (1, .int y1), (2, .int y2), (3, .int y3), (4, .int y4), (5, .int y5)] [] h (1) (6)
  refine AR.s (pc' := 1) (lv' := [(0, .ref 0), (1, .int y1), (2, .int y2), (3, .int y3), (4, .int y4), (5, .int y5)]) (st' := [.ref 0]) (h' := h) _ hn_70 hk_70_0 rfl ?_
  refine AR.gR hk_70_1 (by decide) hH (q := 0) (n := 18) (by decide) (by decide +kernel) (by decide +kernel) (by decide) hy_t0_0 ?_
  show AR _ _ _ _ _ _ _ 4 [(0, .ref 0), (1, .int y1), (2, .int y2), (3, .int y3), (4, .int y4), (5, .int y5)] [.ref 1] h _ _
  refine AR.gI hk_70_4 (by decide) hH (q := 1) (n := 2) (by decide) (by decide +kernel) (by decide +kernel) (by decide) hy_t1_1 (fun x1056 dx1056 lx1056 ux1056 => ?_)
  show AR _ _ _ _ _ _ _ 7 [(0, .ref 0), (1, .int y1), (2, .int y2), (3, .int y3), (4, .int y4), (5, .int y5)] [.int x1056] h _ _
  have sx1056 := hy_zi dx1056
  refine AR.bipushT hk_70_7 (by decide) (fun z1057 ez1057 => ?_)
  show AR _ _ _ _ _ _ _ 9 [(0, .ref 0), (1, .int y1), (2, .int y2), (3, .int y3), (4, .int y4), (5, .int y5)] [.int z1057, .int x1056] h _ _
  refine AR.addT hk_70_9 (by omega) (by omega) (fun z1058 ez1058 => ?_)
  show AR _ _ _ _ _ _ _ 10 [(0, .ref 0), (1, .int y1), (2, .int y2), (3, .int y3), (4, .int y4), (5, .int y5)] [.int z1058] h _ _
  refine AR.sipushT hk_70_10 (by decide) (fun z1059 ez1059 => ?_)
  show AR _ _ _ _ _ _ _ 13 [(0, .ref 0), (1, .int y1), (2, .int y2), (3, .int y3), (4, .int y4), (5, .int y5)] [.int z1059, .int z1058] h _ _
  refine AR.jle hk_70_13 (tgt := 26) (by decide) (fun p1 => ?_) (fun p2 => ?_)
  · have F : ty_F 1572864 h h := ty_F_refl _ _
    refine AR.s (pc' := 27) (lv' := [(0, .ref 0), (1, .int y1), (2, .int y2), (3, .int y3), (4, .int y4), (5, .int y5)]) (st' := [.ref 0]) (h' := h) _ hn_70 hk_70_26 rfl ?_
    refine AR.gR hk_70_27 (by decide) hH (q := 0) (n := 18) (by decide) (by decide +kernel) (by decide +kernel) (by decide) hy_t0_0 ?_
    show AR _ _ _ _ _ _ _ 30 [(0, .ref 0), (1, .int y1), (2, .int y2), (3, .int y3), (4, .int y4), (5, .int y5)] [.ref 1] h _ _
    refine AR.s (pc' := 31) (lv' := [(0, .ref 0), (1, .int y1), (2, .int y2), (3, .int y3), (4, .int y4), (5, .int y5)]) (st' := [.int y1, .ref 1]) (h' := h) _ hn_70 hk_70_30 rfl ?_
    obtain ⟨v0, c0⟩ := lt_c1 hH
    refine AR.jr (r := 1) (as := [.int y1]) (rest := []) hk_70_31 (by decide) (by decide +kernel) (by decide) c0 rfl rfl (Nat.le_of_ble_eq_true rfl) (lp_67 hlst hH hi (by omega) (by omega)) (by decide) (Nat.zero_le _) (Nat.zero_le _) ?_ (fun E h' q => by cases q.2.2.2.1)
    rintro w0 g70 ⟨Hg70, Tg70, ig70, e0, ng70, mg70⟩
    cases e0
    have Fg70 : ty_F 1572864 h g70 := ty_F.trans F Tg70
    show AR _ _ _ _ _ _ _ 34 [(0, .ref 0), (1, .int y1), (2, .int y2), (3, .int y3), (4, .int y4), (5, .int y5)] [] g70 _ _
    refine AR.s (pc' := 35) (lv' := [(0, .ref 0), (1, .int y1), (2, .int y2), (3, .int y3), (4, .int y4), (5, .int y5)]) (st' := [.ref 0]) (h' := g70) _ hn_70 hk_70_34 rfl ?_
    refine AR.gR hk_70_35 (by decide) Hg70 (q := 0) (n := 18) (by decide) (by decide +kernel) (by decide +kernel) (by decide) hy_t0_0 ?_
    show AR _ _ _ _ _ _ _ 38 [(0, .ref 0), (1, .int y1), (2, .int y2), (3, .int y3), (4, .int y4), (5, .int y5)] [.ref 1] g70 _ _
    refine AR.s (pc' := 39) (lv' := [(0, .ref 0), (1, .int y1), (2, .int y2), (3, .int y3), (4, .int y4), (5, .int y5)]) (st' := [.int y2, .ref 1]) (h' := g70) _ hn_70 hk_70_38 rfl ?_
    obtain ⟨v1, c1⟩ := lt_c1 Hg70
    refine AR.jr (r := 1) (as := [.int y2]) (rest := []) hk_70_39 (by decide) (by decide +kernel) (by decide) c1 rfl rfl (Nat.le_of_ble_eq_true rfl) (lp_67 hlst Hg70 ig70 (by omega) (by omega)) (by decide) (Nat.zero_le _) (Nat.zero_le _) ?_ (fun E h' q => by cases q.2.2.2.1)
    rintro w1 g71 ⟨Hg71, Tg71, ig71, e1, ng71, mg71⟩
    cases e1
    have Fg71 : ty_F 1572864 h g71 := ty_F.trans Fg70 Tg71
    show AR _ _ _ _ _ _ _ 42 [(0, .ref 0), (1, .int y1), (2, .int y2), (3, .int y3), (4, .int y4), (5, .int y5)] [] g71 _ _
    refine AR.s (pc' := 43) (lv' := [(0, .ref 0), (1, .int y1), (2, .int y2), (3, .int y3), (4, .int y4), (5, .int y5)]) (st' := [.ref 0]) (h' := g71) _ hn_70 hk_70_42 rfl ?_
    refine AR.gR hk_70_43 (by decide) Hg71 (q := 0) (n := 18) (by decide) (by decide +kernel) (by decide +kernel) (by decide) hy_t0_0 ?_
    show AR _ _ _ _ _ _ _ 46 [(0, .ref 0), (1, .int y1), (2, .int y2), (3, .int y3), (4, .int y4), (5, .int y5)] [.ref 1] g71 _ _
    refine AR.s (pc' := 47) (lv' := [(0, .ref 0), (1, .int y1), (2, .int y2), (3, .int y3), (4, .int y4), (5, .int y5)]) (st' := [.int y3, .ref 1]) (h' := g71) _ hn_70 hk_70_46 rfl ?_
    obtain ⟨v2, c2⟩ := lt_c1 Hg71
    refine AR.jr (r := 1) (as := [.int y3]) (rest := []) hk_70_47 (by decide) (by decide +kernel) (by decide) c2 rfl rfl (Nat.le_of_ble_eq_true rfl) (lp_67 hlst Hg71 ig71 (by omega) (by omega)) (by decide) (Nat.zero_le _) (Nat.zero_le _) ?_ (fun E h' q => by cases q.2.2.2.1)
    rintro w2 g72 ⟨Hg72, Tg72, ig72, e2, ng72, mg72⟩
    cases e2
    have Fg72 : ty_F 1572864 h g72 := ty_F.trans Fg71 Tg72
    show AR _ _ _ _ _ _ _ 50 [(0, .ref 0), (1, .int y1), (2, .int y2), (3, .int y3), (4, .int y4), (5, .int y5)] [] g72 _ _
    refine AR.s (pc' := 51) (lv' := [(0, .ref 0), (1, .int y1), (2, .int y2), (3, .int y3), (4, .int y4), (5, .int y5)]) (st' := [.ref 0]) (h' := g72) _ hn_70 hk_70_50 rfl ?_
    refine AR.gR hk_70_51 (by decide) Hg72 (q := 0) (n := 18) (by decide) (by decide +kernel) (by decide +kernel) (by decide) hy_t0_0 ?_
    show AR _ _ _ _ _ _ _ 54 [(0, .ref 0), (1, .int y1), (2, .int y2), (3, .int y3), (4, .int y4), (5, .int y5)] [.ref 1] g72 _ _
    refine AR.s (pc' := 56) (lv' := [(0, .ref 0), (1, .int y1), (2, .int y2), (3, .int y3), (4, .int y4), (5, .int y5)]) (st' := [.int y4, .ref 1]) (h' := g72) _ hn_70 hk_70_54 rfl ?_
    obtain ⟨v3, c3⟩ := lt_c1 Hg72
    refine AR.jr (r := 1) (as := [.int y4]) (rest := []) hk_70_56 (by decide) (by decide +kernel) (by decide) c3 rfl rfl (Nat.le_of_ble_eq_true rfl) (lp_67 hlst Hg72 ig72 (by omega) (by omega)) (by decide) (Nat.zero_le _) (Nat.zero_le _) ?_ (fun E h' q => by cases q.2.2.2.1)
    rintro w3 g73 ⟨Hg73, Tg73, ig73, e3, ng73, mg73⟩
    cases e3
    have Fg73 : ty_F 1572864 h g73 := ty_F.trans Fg72 Tg73
    show AR _ _ _ _ _ _ _ 59 [(0, .ref 0), (1, .int y1), (2, .int y2), (3, .int y3), (4, .int y4), (5, .int y5)] [] g73 _ _
    refine AR.s (pc' := 60) (lv' := [(0, .ref 0), (1, .int y1), (2, .int y2), (3, .int y3), (4, .int y4), (5, .int y5)]) (st' := [.ref 0]) (h' := g73) _ hn_70 hk_70_59 rfl ?_
    refine AR.gR hk_70_60 (by decide) Hg73 (q := 0) (n := 18) (by decide) (by decide +kernel) (by decide +kernel) (by decide) hy_t0_0 ?_
    show AR _ _ _ _ _ _ _ 63 [(0, .ref 0), (1, .int y1), (2, .int y2), (3, .int y3), (4, .int y4), (5, .int y5)] [.ref 1] g73 _ _
    refine AR.s (pc' := 65) (lv' := [(0, .ref 0), (1, .int y1), (2, .int y2), (3, .int y3), (4, .int y4), (5, .int y5)]) (st' := [.int y5, .ref 1]) (h' := g73) _ hn_70 hk_70_63 rfl ?_
    obtain ⟨v4, c4⟩ := lt_c1 Hg73
    refine AR.jr (r := 1) (as := [.int y5]) (rest := []) hk_70_65 (by decide) (by decide +kernel) (by decide) c4 rfl rfl (Nat.le_of_ble_eq_true rfl) (lp_67 hlst Hg73 ig73 (by omega) (by omega)) (by decide) (Nat.zero_le _) (Nat.zero_le _) ?_ (fun E h' q => by cases q.2.2.2.1)
    rintro w4 g74 ⟨Hg74, Tg74, ig74, e4, ng74, mg74⟩
    cases e4
    have Fg74 : ty_F 1572864 h g74 := ty_F.trans Fg73 Tg74
    show AR _ _ _ _ _ _ _ 68 [(0, .ref 0), (1, .int y1), (2, .int y2), (3, .int y3), (4, .int y4), (5, .int y5)] [] g74 _ _
    refine AR.s (pc' := 69) (lv' := [(0, .ref 0), (1, .int y1), (2, .int y2), (3, .int y3), (4, .int y4), (5, .int y5)]) (st' := [.ref 0]) (h' := g74) _ hn_70 hk_70_68 rfl ?_
    refine AR.gR hk_70_69 (by decide) Hg74 (q := 0) (n := 18) (by decide) (by decide +kernel) (by decide +kernel) (by decide) hy_t0_0 ?_
    show AR _ _ _ _ _ _ _ 72 [(0, .ref 0), (1, .int y1), (2, .int y2), (3, .int y3), (4, .int y4), (5, .int y5)] [.ref 1] g74 _ _
    refine AR.gI hk_70_72 (by decide) Hg74 (q := 1) (n := 2) (by decide) (by decide +kernel) (by decide +kernel) (by decide) hy_t1_1 (fun x1060 dx1060 lx1060 ux1060 => ?_)
    show AR _ _ _ _ _ _ _ 75 [(0, .ref 0), (1, .int y1), (2, .int y2), (3, .int y3), (4, .int y4), (5, .int y5)] [.int x1060] g74 _ _
    have sx1060 := hy_zi dx1060
    have M : hy_z g74 2 = t_up5 (hy_z h 2) (hy_z h 1 1) y1 y2 y3 y4 y5 := by
      unfold t_up5
      rw [mg74, mg73, mg72, mg71, mg70, show hy_z g73 1 1 = hy_z h 1 1 + 16 from by omega, show hy_z g72 1 1 = hy_z h 1 1 + 12 from by omega, show hy_z g71 1 1 = hy_z h 1 1 + 8 from by omega, show hy_z g70 1 1 = hy_z h 1 1 + 4 from by omega]
    exact AR.iret hk_70_75 hr_70 ⟨Hg74, Fg74, ig74, Or.inr ⟨by omega, by omega, M, _, rfl, by omega⟩⟩
  · exact AR.at (Or.inr (Or.inr (Or.inr (Or.inr (Or.inr ⟨_, ax_thr_ok (70, 16, 0) (by decide), by decide +kernel, by decide, by decide, by decide, ⟨hy_app hH _, ty_F.push hH.1, hi.push hH _, Or.inl ⟨rfl, by omega, hy_zapp hH _ (by decide) 1, funext fun j => hy_zapp hH _ (by decide) j⟩⟩⟩)))))
def hq_71 (h : ax_H) (x : Int32) : ax_Q := fun res g => hy_H 0 g ∧ ty_F 524288 h g ∧ hy_I g ∧ ((res = .inr "java/lang/IllegalArgumentException" ∧ ¬ (0 ≤ x.toInt ∧ x.toInt ≤ hy_z h 1 1) ∧ hy_z g 1 1 = hy_z h 1 1) ∨ ((0 ≤ x.toInt ∧ x.toInt ≤ hy_z h 1 1) ∧ hy_z g 1 1 = x.toInt ∧ res = .inl (some (.int x))))
theorem lp_71 (hlst : l.stackTraces = false) (hH : hy_H 0 h) (hi : hy_I h) : AM ax_ns l (ax_mm 71) 0 ty_R (1) (6) [.ref 0, .int x] h (hq_71 h x) := by
  refine AM.of (ax_mfacts (by decide +kernel : ax_has 71 = true)).2.2.2.2.2.2 hlst (by rw [hn_71]; exact Nat.le_of_ble_eq_true rfl) ?_
  show AR ax_ns l (ax_mm 71) 0 ty_R _ _ 0 [(0, .ref 0), (1, .int x)] [] h (1) (6)
  have F : ty_F 524288 h h := ty_F_refl _ _
  refine AR.s (pc' := 1) (lv' := [(0, .ref 0), (1, .int x)]) (st' := [.int x]) (h' := h) _ hn_71 hk_71_0 rfl ?_
  refine AR.zlt hk_71_1 (tgt := 15) (by decide) (fun p1 => ?_) (fun p2 => ?_)
  · exact AR.at (Or.inr (Or.inr (Or.inr (Or.inr (Or.inr ⟨_, ax_thr_ok (71, 15, 1) (by decide), by decide +kernel, by decide, by decide, by decide, ⟨hy_app hH _, ty_F.push hH.1, hi.push hH _, Or.inl ⟨rfl, fun c => absurd c.1 (by omega), hy_zapp hH _ (by decide) 1⟩⟩⟩)))))
  · refine AR.s (pc' := 5) (lv' := [(0, .ref 0), (1, .int x)]) (st' := [.int x]) (h' := h) _ hn_71 hk_71_4 rfl ?_
    refine AR.s (pc' := 6) (lv' := [(0, .ref 0), (1, .int x)]) (st' := [.ref 0, .int x]) (h' := h) _ hn_71 hk_71_5 rfl ?_
    refine AR.gR hk_71_6 (by decide) hH (q := 0) (n := 18) (by decide) (by decide +kernel) (by decide +kernel) (by decide) hy_t0_0 ?_
    show AR _ _ _ _ _ _ _ 9 [(0, .ref 0), (1, .int x)] [.ref 1, .int x] h _ _
    refine AR.gI hk_71_9 (by decide) hH (q := 1) (n := 2) (by decide) (by decide +kernel) (by decide +kernel) (by decide) hy_t1_1 (fun x1061 dx1061 lx1061 ux1061 => ?_)
    show AR _ _ _ _ _ _ _ 12 [(0, .ref 0), (1, .int x)] [.int x1061, .int x] h _ _
    have sx1061 := hy_zi dx1061
    refine AR.jle hk_71_12 (tgt := 25) (by decide) (fun p3 => ?_) (fun p4 => ?_)
    · refine AR.s (pc' := 26) (lv' := [(0, .ref 0), (1, .int x)]) (st' := [.ref 0]) (h' := h) _ hn_71 hk_71_25 rfl ?_
      refine AR.gR hk_71_26 (by decide) hH (q := 0) (n := 18) (by decide) (by decide +kernel) (by decide +kernel) (by decide) hy_t0_0 ?_
      show AR _ _ _ _ _ _ _ 29 [(0, .ref 0), (1, .int x)] [.ref 1] h _ _
      refine AR.s (pc' := 30) (lv' := [(0, .ref 0), (1, .int x)]) (st' := [.int x, .ref 1]) (h' := h) _ hn_71 hk_71_29 rfl ?_
      refine AR.pT hk_71_30 (by decide) hH F (q := 1) (by decide) (by decide +kernel) (show ax_cls[7]? = some hy_c7 from rfl) (by decide +kernel) (by decide) rfl (by rw [hy_t1_1]; exact ⟨_, rfl, by omega, by omega, Or.inl rfl⟩) (by decide +kernel) (by decide +kernel) ?_
      rintro g1062 ⟨Hg1062, Fg1062, Gg1062, Eg1062⟩
      show AR _ _ _ _ _ _ _ 33 [(0, .ref 0), (1, .int x)] [] g1062 _ _
      have ig1062 : hy_I g1062 := hi.st Gg1062 (by decide) Eg1062 (by decide +kernel)
      have ug1062_1_1 : hy_z g1062 1 1 = x.toInt := hy_zi (i := x) (by rw [Eg1062, if_pos ⟨rfl, rfl⟩])
      refine AR.s (pc' := 34) (lv' := [(0, .ref 0), (1, .int x)]) (st' := [.int x]) (h' := g1062) _ hn_71 hk_71_33 rfl ?_
      exact AR.iret hk_71_34 hr_71 ⟨Hg1062, Fg1062, ig1062, Or.inr ⟨⟨by omega, by omega⟩, by omega, rfl⟩⟩
    · exact AR.at (Or.inr (Or.inr (Or.inr (Or.inr (Or.inr ⟨_, ax_thr_ok (71, 15, 1) (by decide), by decide +kernel, by decide, by decide, by decide, ⟨hy_app hH _, ty_F.push hH.1, hi.push hH _, Or.inl ⟨rfl, fun c => absurd c.2 (by omega), hy_zapp hH _ (by decide) 1⟩⟩⟩)))))
def hq_w2 (h : ax_H) (y1 y2 y3 y4 y5 : Int32) : ax_Q := fun res g => hy_H 0 g ∧ ty_F 1298074214633706907132624083877888 h g ∧ hy_I g ∧ ∃ z : Int32, res = .inl (some (.int z)) ∧ ((180 < hy_z h 1 1 ∧ z.toInt = 1 ∧ hy_z g 1 1 = hy_z h 1 1 ∧ hy_z g 2 = hy_z h 2) ∨ (hy_z h 1 1 ≤ 180 ∧ z.toInt = 0 ∧ hy_z g 1 1 = hy_z h 1 1 + 20 ∧ hy_z g 197 0 = hy_z g 1 1 ∧ hy_z g 2 = t_up5 (hy_z h 2) (hy_z h 1 1) y1 y2 y3 y4 y5))
def hq_w3 (h : ax_H) (x : Int32) : ax_Q := fun res g => hy_H 0 g ∧ ty_F 1298074214633706907132624082829312 h g ∧ hy_I g ∧ ∃ z : Int32, res = .inl (some (.int z)) ∧ ((¬ (0 ≤ x.toInt ∧ x.toInt ≤ hy_z h 1 1) ∧ z.toInt = 1 ∧ hy_z g 1 1 = hy_z h 1 1) ∨ ((0 ≤ x.toInt ∧ x.toInt ≤ hy_z h 1 1) ∧ z.toInt = 0 ∧ hy_z g 1 1 = x.toInt ∧ hy_z g 197 0 = hy_z g 1 1))
theorem lp_219 (hlst : l.stackTraces = false) (hH : hy_H 0 h) (hi : hy_I h) : AM ax_ns l (ax_mm 219) 2 ty_R (1) (6) [.ref 0, .int y1, .int y2, .int y3, .int y4, .int y5, .ref 197] h (hq_w2 h y1 y2 y3 y4 y5) := by
  refine AM.of (ax_mfacts (by decide +kernel : ax_has 219 = true)).2.2.2.2.2.2 hlst (by rw [hn_219]; exact Nat.le_of_ble_eq_true rfl) ?_
  show AR ax_ns l (ax_mm 219) 2 ty_R _ _ 0 [(0, .ref 0), (1, .int y1), (2, .int y2), (3, .int y3), (4, .int y4), (5, .int y5), (6, .ref 197)] [] h (1) (6)
  obtain ⟨v0, e0⟩ := lt_c0 hH
  refine AR.s (pc' := 2) (lv' := [(0, .ref 0), (1, .int y1), (2, .int y2), (3, .int y3), (4, .int y4), (5, .int y5), (6, .ref 197)]) (st' := [.ref 197]) (h' := h) _ hn_219 hk_219_0 rfl ?_
  refine AR.iconstT hk_219_2 (by decide) (fun z1063 ez1063 => ?_)
  show AR _ _ _ _ _ _ _ 3 [(0, .ref 0), (1, .int y1), (2, .int y2), (3, .int y3), (4, .int y4), (5, .int y5), (6, .ref 197)] [.int z1063, .ref 197] h _ _
  refine AR.s (pc' := 4) (lv' := [(0, .ref 0), (1, .int y1), (2, .int y2), (3, .int y3), (4, .int y4), (5, .int y5), (6, .ref 197)]) (st' := [.ref 0, .int z1063, .ref 197]) (h' := h) _ hn_219 hk_219_3 rfl ?_
  refine AR.s (pc' := 5) (lv' := [(0, .ref 0), (1, .int y1), (2, .int y2), (3, .int y3), (4, .int y4), (5, .int y5), (6, .ref 197)]) (st' := [.int y1, .ref 0, .int z1063, .ref 197]) (h' := h) _ hn_219 hk_219_4 rfl ?_
  refine AR.s (pc' := 6) (lv' := [(0, .ref 0), (1, .int y1), (2, .int y2), (3, .int y3), (4, .int y4), (5, .int y5), (6, .ref 197)]) (st' := [.int y2, .int y1, .ref 0, .int z1063, .ref 197]) (h' := h) _ hn_219 hk_219_5 rfl ?_
  refine AR.s (pc' := 7) (lv' := [(0, .ref 0), (1, .int y1), (2, .int y2), (3, .int y3), (4, .int y4), (5, .int y5), (6, .ref 197)]) (st' := [.int y3, .int y2, .int y1, .ref 0, .int z1063, .ref 197]) (h' := h) _ hn_219 hk_219_6 rfl ?_
  refine AR.s (pc' := 9) (lv' := [(0, .ref 0), (1, .int y1), (2, .int y2), (3, .int y3), (4, .int y4), (5, .int y5), (6, .ref 197)]) (st' := [.int y4, .int y3, .int y2, .int y1, .ref 0, .int z1063, .ref 197]) (h' := h) _ hn_219 hk_219_7 rfl ?_
  refine AR.s (pc' := 11) (lv' := [(0, .ref 0), (1, .int y1), (2, .int y2), (3, .int y3), (4, .int y4), (5, .int y5), (6, .ref 197)]) (st' := [.int y5, .int y4, .int y3, .int y2, .int y1, .ref 0, .int z1063, .ref 197]) (h' := h) _ hn_219 hk_219_9 rfl ?_
  refine AR.jr (r := 0) (as := [.int y1, .int y2, .int y3, .int y4, .int y5]) (rest := [.int z1063, .ref 197]) hk_219_11 (by decide) (by decide +kernel) (by decide) e0 rfl rfl (Nat.le_of_ble_eq_true rfl) (lp_70 hlst hH hi) (by decide) (by decide) (by decide) ?_ ?_
  · rintro w h1 ⟨H1, F1, i1, (⟨e, -, -, -⟩ | ⟨pn, eg, eb, z7, ex, ez⟩)⟩
    · cases e
    · cases ex
      show AR _ _ _ _ _ _ _ 14 [(0, .ref 0), (1, .int y1), (2, .int y2), (3, .int y3), (4, .int y4), (5, .int y5), (6, .ref 197)] [.int z7, .int z1063, .ref 197] h1 _ _
      refine AR.i2l (z := .long z7.toInt64) (ax_look_ok hk_219_14).1 rfl ?_
      show AR _ _ _ _ _ _ _ 15 [(0, .ref 0), (1, .int y1), (2, .int y2), (3, .int y3), (4, .int y4), (5, .int y5), (6, .ref 197)] [.long z7.toInt64, .int z1063, .ref 197] h1 _ _
      refine AR.lsT hk_219_15 H1 (ty_F.sub (W := 1298074214633706907132624083877888) (by decide +kernel) F1) (q := 197) (n := 1) (by decide) (by decide +kernel) (by decide +kernel) (by decide +kernel) hy_t197_0 (by omega) (by omega) (Int64.le_toInt _) (by have := Int64.toInt_lt z7.toInt64; omega) (by decide +kernel) ?_
      rintro g ⟨Hg, Fg, Gg, Eg⟩
      show AR _ _ _ _ _ _ _ 16 [(0, .ref 0), (1, .int y1), (2, .int y2), (3, .int y3), (4, .int y4), (5, .int y5), (6, .ref 197)] [] g _ _
      refine AR.gotoT hk_219_16 (tgt := 23) (by decide) ?_
      refine AR.iconstT hk_219_23 (by decide) (fun z1064 ez1064 => ?_)
      show AR _ _ _ _ _ _ _ 24 [(0, .ref 0), (1, .int y1), (2, .int y2), (3, .int y3), (4, .int y4), (5, .int y5), (6, .ref 197)] [.int z1064] g _ _
      have k0 : z1063.toNatClampNeg = 0 := by show z1063.toInt.toNat = 0; omega
      rw [k0] at Eg
      have a1 : hy_z g 197 0 = z7.toInt := by rw [hy_zl (i := z7.toInt64) (by rw [Eg, if_pos ⟨rfl, rfl⟩]), Int32.toInt_toInt64]
      have a2 : hy_z g 1 1 = hy_z h1 1 1 := hy_ze (by rw [Eg, if_neg (fun c => absurd c.1 (by decide))])
      have a3 : hy_z g 2 = hy_z h1 2 := t_kept Eg (by decide) rfl
      exact AR.iret hk_219_24 hr_219 ⟨Hg, Fg, i1.st Gg (by decide +kernel) Eg (by decide +kernel), _, rfl, Or.inr ⟨pn, by omega, by omega, by omega, a3.trans eb⟩⟩
  · rintro E h1 ⟨H1, F1, i1, (⟨e, pn, eg, eb⟩ | ⟨-, -, -, _, e, -⟩)⟩
    · cases e
      refine AX.caught (pre := []) (suf := []) (s0 := 0) (e0 := 16) (hpc := 19) (ct := 13) (by decide +kernel) (by decide) (by decide) (by decide) (ax_wk_mem (ix := 2120) (by decide +kernel)) (by decide +kernel) (fun z hz => absurd hz List.not_mem_nil) ?_
      show AR _ _ _ _ _ _ _ 19 [(0, .ref 0), (1, .int y1), (2, .int y2), (3, .int y3), (4, .int y4), (5, .int y5), (6, .ref 197)] [.retAddr 0] h1 _ _
      refine AR.s (pc' := 21) (lv' := [(7, .retAddr 0), (0, .ref 0), (1, .int y1), (2, .int y2), (3, .int y3), (4, .int y4), (5, .int y5), (6, .ref 197)]) (st' := []) (h' := h1) _ hn_219 hk_219_19 rfl ?_
      refine AR.iconstT hk_219_21 (by decide) (fun z1065 ez1065 => ?_)
      show AR _ _ _ _ _ _ _ 22 [(7, .retAddr 0), (0, .ref 0), (1, .int y1), (2, .int y2), (3, .int y3), (4, .int y4), (5, .int y5), (6, .ref 197)] [.int z1065] h1 _ _
      exact AR.iret hk_219_22 hr_219 ⟨H1, ty_F.sub (by decide +kernel) F1, i1, _, rfl, Or.inl ⟨pn, by omega, eg, eb⟩⟩
    · cases e
theorem lp_220 (hlst : l.stackTraces = false) (hH : hy_H 0 h) (hi : hy_I h) : AM ax_ns l (ax_mm 220) 1 ty_R (1) (6) [.ref 0, .int x, .ref 197] h (hq_w3 h x) := by
  refine AM.of (ax_mfacts (by decide +kernel : ax_has 220 = true)).2.2.2.2.2.2 hlst (by rw [hn_220]; exact Nat.le_of_ble_eq_true rfl) ?_
  show AR ax_ns l (ax_mm 220) 1 ty_R _ _ 0 [(0, .ref 0), (1, .int x), (2, .ref 197)] [] h (1) (6)
  obtain ⟨v0, e0⟩ := lt_c0 hH
  refine AR.s (pc' := 1) (lv' := [(0, .ref 0), (1, .int x), (2, .ref 197)]) (st' := [.ref 197]) (h' := h) _ hn_220 hk_220_0 rfl ?_
  refine AR.iconstT hk_220_1 (by decide) (fun z1066 ez1066 => ?_)
  show AR _ _ _ _ _ _ _ 2 [(0, .ref 0), (1, .int x), (2, .ref 197)] [.int z1066, .ref 197] h _ _
  refine AR.s (pc' := 3) (lv' := [(0, .ref 0), (1, .int x), (2, .ref 197)]) (st' := [.ref 0, .int z1066, .ref 197]) (h' := h) _ hn_220 hk_220_2 rfl ?_
  refine AR.s (pc' := 4) (lv' := [(0, .ref 0), (1, .int x), (2, .ref 197)]) (st' := [.int x, .ref 0, .int z1066, .ref 197]) (h' := h) _ hn_220 hk_220_3 rfl ?_
  refine AR.jr (r := 0) (as := [.int x]) (rest := [.int z1066, .ref 197]) hk_220_4 (by decide) (by decide +kernel) (by decide) e0 rfl rfl (Nat.le_of_ble_eq_true rfl) (lp_71 hlst hH hi) (by decide) (by decide) (by decide) ?_ ?_
  · rintro w h1 ⟨H1, F1, i1, (⟨e, -, -⟩ | ⟨pn, eg, ex⟩)⟩
    · cases e
    · cases ex
      show AR _ _ _ _ _ _ _ 7 [(0, .ref 0), (1, .int x), (2, .ref 197)] [.int x, .int z1066, .ref 197] h1 _ _
      refine AR.i2l (z := .long x.toInt64) (ax_look_ok hk_220_7).1 rfl ?_
      show AR _ _ _ _ _ _ _ 8 [(0, .ref 0), (1, .int x), (2, .ref 197)] [.long x.toInt64, .int z1066, .ref 197] h1 _ _
      refine AR.lsT hk_220_8 H1 (ty_F.sub (W := 1298074214633706907132624082829312) (by decide +kernel) F1) (q := 197) (n := 1) (by decide) (by decide +kernel) (by decide +kernel) (by decide +kernel) hy_t197_0 (by omega) (by omega) (Int64.le_toInt _) (by have := Int64.toInt_lt x.toInt64; omega) (by decide +kernel) ?_
      rintro g ⟨Hg, Fg, Gg, Eg⟩
      show AR _ _ _ _ _ _ _ 9 [(0, .ref 0), (1, .int x), (2, .ref 197)] [] g _ _
      refine AR.gotoT hk_220_9 (tgt := 15) (by decide) ?_
      refine AR.iconstT hk_220_15 (by decide) (fun z1067 ez1067 => ?_)
      show AR _ _ _ _ _ _ _ 16 [(0, .ref 0), (1, .int x), (2, .ref 197)] [.int z1067] g _ _
      have k0 : z1066.toNatClampNeg = 0 := by show z1066.toInt.toNat = 0; omega
      rw [k0] at Eg
      have a1 : hy_z g 197 0 = x.toInt := by rw [hy_zl (i := x.toInt64) (by rw [Eg, if_pos ⟨rfl, rfl⟩]), Int32.toInt_toInt64]
      have a2 : hy_z g 1 1 = hy_z h1 1 1 := hy_ze (by rw [Eg, if_neg (fun c => absurd c.1 (by decide))])
      have a3 : hy_z g 2 = hy_z h1 2 := t_kept Eg (by decide) rfl
      exact AR.iret hk_220_16 hr_220 ⟨Hg, Fg, i1.st Gg (by decide +kernel) Eg (by decide +kernel), _, rfl, Or.inr ⟨pn, by omega, by omega, by omega⟩⟩
  · rintro E h1 ⟨H1, F1, i1, (⟨e, pn, eg⟩ | ⟨-, -, e⟩)⟩
    · cases e
      refine AX.caught (pre := []) (suf := []) (s0 := 0) (e0 := 9) (hpc := 12) (ct := 19) (by decide +kernel) (by decide) (by decide) (by decide) (ax_wk_mem (ix := 2203) (by decide +kernel)) (by decide +kernel) (fun z hz => absurd hz List.not_mem_nil) ?_
      show AR _ _ _ _ _ _ _ 12 [(0, .ref 0), (1, .int x), (2, .ref 197)] [.retAddr 0] h1 _ _
      refine AR.s (pc' := 13) (lv' := [(3, .retAddr 0), (0, .ref 0), (1, .int x), (2, .ref 197)]) (st' := []) (h' := h1) _ hn_220 hk_220_12 rfl ?_
      refine AR.iconstT hk_220_13 (by decide) (fun z1068 ez1068 => ?_)
      show AR _ _ _ _ _ _ _ 14 [(3, .retAddr 0), (0, .ref 0), (1, .int x), (2, .ref 197)] [.int z1068] h1 _ _
      exact AR.iret hk_220_14 hr_220 ⟨H1, ty_F.sub (by decide +kernel) F1, i1, _, rfl, Or.inl ⟨pn, by omega, eg⟩⟩
    · cases e
def lp_A (g : ax_H) (K : Nat) : Prop := ∃ c, g[K]? = some c ∧ ty_lc 0 c
theorem lp_A.go {a g : ax_H} {W K : Nat} (A : lp_A a K) (G : ty_F W a g) (hK : 198 ≤ K) : lp_A g K := by
  obtain ⟨c, e1, e2⟩ := A
  exact G.2.2.1 K c 0 hK e1 e2
section LPR
variable {d i pc ix K : Nat} {P : ax_P} {X : ax_PX} {lv : List (Nat × Value)} {st : List Value} {g : ax_H} {bc bs' : Nat} {v : Value} {ws : List Nat} {w : Nat × Nat × Nat}
theorem AR.ld5 {j : Int32} (hl : ax_look i pc = some (.iaload, w, v, ws)) (hK : K < 1000000000) (A : lp_A g K) (j0 : 0 ≤ j.toInt) (j5 : j.toInt < 5) (k : ∀ z : Int32, AR ax_ns l (ax_mm i) d ty_R P X (pc + 1) lv (.int z :: st) g bc bs') : AR ax_ns l (ax_mm i) d ty_R P X pc lv (.int j :: .ref K :: st) g bc bs' := by
  obtain ⟨⟨t, vs⟩, e1, e2, e3, e4⟩ := A
  have hq := hj_nn j0
  have hlt : j.toNatClampNeg < vs.length := by
    have : vs.length = 5 := e3
    omega
  obtain ⟨z, hz, -⟩ := e4 _ (List.getElem_mem hlt)
  have et : t = 100 := e2
  subst et
  exact AR.iax (x := .int z) hl hK e1 hq.1 (by rw [List.getElem?_eq_getElem hlt, hz]) (k z)
theorem AR.al5 (hl : ax_look i pc = some (.arraylength, w, v, ws)) (hK : K < 1000000000) (A : lp_A g K) (k : ∀ z : Int32, z.toInt = 5 → AR ax_ns l (ax_mm i) d ty_R P X (pc + 1) lv (.int z :: st) g bc bs') : AR ax_ns l (ax_mm i) d ty_R P X pc lv (.ref K :: st) g bc bs' := by
  obtain ⟨⟨t, vs⟩, e1, e2, e3, e4⟩ := A
  have et : t = 100 := e2
  subst et
  have e3 : vs.length = 5 := e3
  refine AR.s (pc' := pc + 1) (lv' := lv) (st' := .int vs.length.toInt32 :: st) (h' := g) _ rfl hl ?_ (k _ ?_)
  · simp only [ax_one, ax_get_lt hK, e1]
    rfl
  · rw [e3]
    rfl
theorem AR.n5 {b cc : Nat} {t : ArrayType} (hl : ax_look i pc = some (.newarray t, (0, b, cc), v, ws)) (hx : x.toInt = 5) (k : AR ax_ns l (ax_mm i) d ty_R P X (pc + 2) lv (.ref g.length :: st) (g ++ [(100, List.replicate 5 (.int 0))]) bc bs') : AR ax_ns l (ax_mm i) d ty_R P X pc lv (.int x :: st) g (bc + 1) (bs' + 5) := by
  obtain ⟨hd, hok⟩ := ax_look_ok hl
  refine ax_one_ok (pc' := pc + 2) (lv' := lv) (st' := .ref g.length :: st) (h' := g ++ [(100, List.replicate 5 (.int 0))]) (dc := 1) (ds := 5) hd hok ?_ k
  have e : x.toNatClampNeg = 5 := by show x.toInt.toNat = 5; omega
  have hn : ¬ (x < 0 ∨ 60000000 < 5 ∨ 0 = 900) := by
    rintro (z | z | z)
    · exact (hj_nn (by omega)).1 z
    · omega
    · cases z
  have ht : ax_tys[0]? = some .int := rfl
  simp only [ax_one, ht, e]
  rw [if_neg hn, ax_ha_eq]
  rfl
theorem AR.ld5e {j y : Int32} {n : Nat} (hl : ax_look i pc = some (.iaload, w, v, ws)) (hK : K < 1000000000) (A : lp_A g K) (hj : j.toInt = n) (hn : n < 5) (hy : ty_fd g K n = some (.int y)) (k : AR ax_ns l (ax_mm i) d ty_R P X (pc + 1) lv (.int y :: st) g bc bs') : AR ax_ns l (ax_mm i) d ty_R P X pc lv (.int j :: .ref K :: st) g bc bs' := by
  obtain ⟨⟨t, vs⟩, e1, e2, e3, e4⟩ := A
  have hq := hj_nn (j := j) (by omega)
  have ej : j.toNatClampNeg = n := by
    have : j.toNatClampNeg = j.toInt.toNat := rfl
    omega
  have et : t = 100 := e2
  subst et
  refine AR.iax (x := .int y) hl hK e1 hq.1 ?_ k
  rw [ej]
  have hlt : n < vs.length := by
    have : vs.length = 5 := e3
    omega
  have h1 : vs[n]? = some (vs[n]'hlt) := List.getElem?_eq_getElem hlt
  have h2 := ty_fd_of e1 h1
  rw [hy] at h2
  rw [h1, ← Option.some.inj h2]
theorem AR.st5e {us : List Value} {j z : Int32} {n : Nat} (hl : ax_look i pc = some (.iastore, w, v, ws)) (hK : g.length < 1000000000) (hu : us.length = 5) (hj : j.toInt = n) (hn : n < 5) (k : AR ax_ns l (ax_mm i) d ty_R P X (pc + 1) lv st (g ++ [(100, us.set n (.int z))]) bc bs') : AR ax_ns l (ax_mm i) d ty_R P X pc lv (.int z :: .int j :: .ref g.length :: st) (g ++ [(100, us)]) bc bs' := by
  have hq := hj_nn (j := j) (by omega)
  have ej : j.toNatClampNeg = n := by
    have : j.toNatClampNeg = j.toInt.toNat := rfl
    omega
  refine AR.isx hl hK (hy_getl g _) hq.1 (by omega) rfl ?_
  rw [hy_setl, ej]
  exact k
end LPR

def hq_r2 (h : ax_H) (y1 y2 y3 y4 y5 : Int32) : ax_Q := fun res g => hy_H 0 g ∧ ty_F 2596465341918660686608376606490624 h g ∧ hy_I g ∧ ∃ z : Int32, res = .inl (some (.int z)) ∧ ((180 < hy_z h 181 7 ∧ hy_z g 181 0 = 1 ∧ hy_z g 181 7 = hy_z h 181 7 ∧ hy_z g 185 = hy_z h 185) ∨ (hy_z h 181 7 ≤ 180 ∧ hy_z g 181 0 = 0 ∧ hy_z g 181 7 = hy_z h 181 7 + 20 ∧ z.toInt = hy_z g 181 7 ∧ hy_z g 185 = t_up5 (hy_z h 185) (hy_z h 181 7) y1 y2 y3 y4 y5))
def hq_r3 (h : ax_H) (x : Int32) : ax_Q := fun res g => hy_H 0 g ∧ ty_F 1189814992754266079232 h g ∧ hy_I g ∧ ∃ z : Int32, res = .inl (some (.int z)) ∧ ((¬ (0 ≤ x.toInt ∧ x.toInt ≤ hy_z h 181 7) ∧ hy_z g 181 0 = 1 ∧ hy_z g 181 7 = hy_z h 181 7) ∨ ((0 ≤ x.toInt ∧ x.toInt ≤ hy_z h 181 7) ∧ hy_z g 181 0 = 0 ∧ hy_z g 181 7 = x.toInt ∧ z.toInt = x.toInt))
theorem lp_no {g g' : ax_H} {W : Nat} {n : Int} {res : Option Value ⊕ String} (q : hq_no 0 g n res g') (hi : hy_I g) (F : ty_F W h g) (hs : ty_sub hy_W0 W = true) : hy_I g' ∧ ty_F W h g' ∧ hy_z g' 181 7 = hy_z g 181 7 := by
  obtain ⟨H, F0, e, -⟩ := q
  refine ⟨?_, ty_F.trans F (ty_F.sub hs F0), hy_zF F0 7 (by decide) (by decide +kernel) (by decide +kernel)⟩
  refine hy_Ik g g' (fun q' j' h1 h2 h3 => F0.2.1 q' j' h1 h2 ?_) (F0.2.2.2 (by decide)) hi
  cases e : hy_W0.testBit (ty_ky q' j') with
  | false => rfl
  | true =>
    have : ty_ky q' j' = 63 := by
      rw [Nat.testBit_two_pow] at e
      exact (of_decide_eq_true e).symm
    rw [this] at h3
    exact absurd h3 (by decide +kernel)
theorem lp_b4 {P : ax_P} {X : ax_PX} {g : ax_H} {K bc bs : Nat} {v j n : Int32} (hK : 198 ≤ K) (Hg : hy_H 0 g) (hi : hy_I g) (Fg : ty_F 2596465341918660686608376606490624 h g) (L : lp_A g K) (h0 : 0 ≤ hy_z g 181 7) (h1 : hy_z g 181 7 ≤ 196) (k : ∀ g', hy_H 0 g' → hy_I g' → ty_F 2596465341918660686608376606490624 h g' → lp_A g' K → hy_z g' 181 7 = hy_z g 181 7 + 4 → hy_z g' 181 0 = hy_z g 181 0 → (∀ j, ty_fd g' K j = ty_fd g K j) → hy_z g' 185 = t_up (hy_z g 185) (hy_z g 181 7) v → AR ax_ns l (ax_mm 143) 1 ty_R P X 120 [(9, .int j), (8, .int n), (7, .ref K), (0, .ref 181)] [] g' bc bs) : AR ax_ns l (ax_mm 143) 1 ty_R P X 77 [(10, .int v), (9, .int j), (8, .int n), (7, .ref K), (0, .ref 181)] [] g bc bs := by
  have A0 : ∀ j, ty_fd g K j = ty_fd g K j := fun _ => rfl
  show AR _ _ _ _ _ _ _ 77 [(10, .int v), (9, .int j), (8, .int n), (7, .ref K), (0, .ref 181)] [] g _ _
  refine AR.bipushT hk_143_77 (by decide) (fun z1069 ez1069 => ?_)
  show AR _ _ _ _ _ _ _ 79 [(10, .int v), (9, .int j), (8, .int n), (7, .ref K), (0, .ref 181)] [.int z1069] g _ _
  refine AR.s (pc' := 81) (lv' := [(11, .int z1069), (10, .int v), (9, .int j), (8, .int n), (7, .ref K), (0, .ref 181)]) (st' := []) (h' := g) _ hn_143 hk_143_79 rfl ?_
  refine AR.s (pc' := 83) (lv' := [(11, .int z1069), (10, .int v), (9, .int j), (8, .int n), (7, .ref K), (0, .ref 181)]) (st' := [.int z1069]) (h' := g) _ hn_143 hk_143_81 rfl ?_
  refine AR.zlt hk_143_83 (tgt := 120) (by decide) (fun p0 => ?_) (fun q0 => ?_)
  · exact absurd p0 (by omega)
  · refine AR.s (pc' := 87) (lv' := [(11, .int z1069), (10, .int v), (9, .int j), (8, .int n), (7, .ref K), (0, .ref 181)]) (st' := [.ref 181]) (h' := g) _ hn_143 hk_143_86 rfl ?_
    refine AR.gR hk_143_87 (by decide) Hg (q := 181) (n := 32) (by decide) (by decide +kernel) (by decide +kernel) (by decide) hy_t181_6 ?_
    show AR _ _ _ _ _ _ _ 90 [(11, .int z1069), (10, .int v), (9, .int j), (8, .int n), (7, .ref K), (0, .ref 181)] [.ref 185] g _ _
    refine AR.s (pc' := 91) (lv' := [(11, .int z1069), (10, .int v), (9, .int j), (8, .int n), (7, .ref K), (0, .ref 181)]) (st' := [.ref 181, .ref 185]) (h' := g) _ hn_143 hk_143_90 rfl ?_
    refine AR.gI hk_143_91 (by decide) Hg (q := 181) (n := 32) (by decide) (by decide +kernel) (by decide +kernel) (by decide) hy_t181_7 (fun x1070 dx1070 lx1070 ux1070 => ?_)
    show AR _ _ _ _ _ _ _ 94 [(11, .int z1069), (10, .int v), (9, .int j), (8, .int n), (7, .ref K), (0, .ref 181)] [.int x1070, .ref 185] g _ _
    have sx1070 := hy_zi dx1070
    refine AR.s (pc' := 96) (lv' := [(11, .int z1069), (10, .int v), (9, .int j), (8, .int n), (7, .ref K), (0, .ref 181)]) (st' := [.int v, .int x1070, .ref 185]) (h' := g) _ hn_143 hk_143_94 rfl ?_
    refine AR.s (pc' := 98) (lv' := [(11, .int z1069), (10, .int v), (9, .int j), (8, .int n), (7, .ref K), (0, .ref 181)]) (st' := [.int z1069, .int v, .int x1070, .ref 185]) (h' := g) _ hn_143 hk_143_96 rfl ?_
    refine AR.ishr (z := .int (v >>> (z1069 &&& 31))) (ax_look_ok hk_143_98).1 rfl ?_
    generalize hhz1071 : v >>> (z1069 &&& 31) = z1071
    show AR _ _ _ _ _ _ _ 99 [(11, .int z1069), (10, .int v), (9, .int j), (8, .int n), (7, .ref K), (0, .ref 181)] [.int z1071, .int x1070, .ref 185] g _ _
    refine AR.sipushT hk_143_99 (by decide) (fun z1072 ez1072 => ?_)
    show AR _ _ _ _ _ _ _ 102 [(11, .int z1069), (10, .int v), (9, .int j), (8, .int n), (7, .ref K), (0, .ref 181)] [.int z1072, .int z1071, .int x1070, .ref 185] g _ _
    refine AR.iand (z := .int (z1071 &&& z1072)) (ax_look_ok hk_143_102).1 rfl ?_
    have ez1073 := lp_and (a := z1071) ez1072
    have bz1073 : (z1071 &&& z1072).toInt = t_by v 24 := t_by_of (by omega) ez1072 hhz1071 rfl
    generalize z1071 &&& z1072 = z1073 at ez1073 bz1073
    show AR _ _ _ _ _ _ _ 103 [(11, .int z1069), (10, .int v), (9, .int j), (8, .int n), (7, .ref K), (0, .ref 181)] [.int z1073, .int x1070, .ref 185] g _ _
    refine AR.isT hk_143_103 Hg Fg (q := 185) (n := 200) (by decide) (by decide +kernel) (by decide +kernel) (by decide +kernel) hy_t185_0 (by omega) (by omega) (by omega) (by omega) (by decide +kernel) ?_
    rintro g1074 ⟨Hg1074, Fg1074, Gg1074, Eg1074⟩
    show AR _ _ _ _ _ _ _ 104 [(11, .int z1069), (10, .int v), (9, .int j), (8, .int n), (7, .ref K), (0, .ref 181)] [] g1074 _ _
    have ig1074 : hy_I g1074 := hi.st Gg1074 (by decide) Eg1074 (by unfold ty_ky; rw [show ty_ar 185 = true from by decide +kernel]; show ty_IK.testBit ((ty_tab 185).2.2.1 - 1 + 0) = false; decide +kernel)
    have ug1074_181_7 : hy_z g1074 181 7 = hy_z g 181 7 := hy_ze (by rw [Eg1074, if_neg (fun c => absurd c.1 (by decide))])
    have ug1074_181_0 : hy_z g1074 181 0 = hy_z g 181 0 := hy_ze (by rw [Eg1074, if_neg (fun c => absurd c.1 (by decide))])
    have cg1074 : hy_z g1074 185 = t_up1 (hy_z g 185) (hy_z g 181 7) (t_by v 24) := t_put Eg1074 (by omega) (by omega) bz1073 rfl
    have Ag1074 : ∀ j, ty_fd g1074 K j = ty_fd g K j := fun j => (show ty_fd g1074 K j = ty_fd g K j by rw [Eg1074, if_neg (fun c => by have := c.1; omega)]).trans (A0 j)
    have Lg1074 : lp_A g1074 K := L.go Gg1074 hK
    refine AR.s (pc' := 105) (lv' := [(11, .int z1069), (10, .int v), (9, .int j), (8, .int n), (7, .ref K), (0, .ref 181)]) (st' := [.ref 181]) (h' := g1074) _ hn_143 hk_143_104 rfl ?_
    refine AR.s (pc' := 106) (lv' := [(11, .int z1069), (10, .int v), (9, .int j), (8, .int n), (7, .ref K), (0, .ref 181)]) (st' := [.ref 181, .ref 181]) (h' := g1074) _ hn_143 hk_143_105 rfl ?_
    refine AR.gI hk_143_106 (by decide) Hg1074 (q := 181) (n := 32) (by decide) (by decide +kernel) (by decide +kernel) (by decide) hy_t181_7 (fun x1075 dx1075 lx1075 ux1075 => ?_)
    show AR _ _ _ _ _ _ _ 109 [(11, .int z1069), (10, .int v), (9, .int j), (8, .int n), (7, .ref K), (0, .ref 181)] [.int x1075, .ref 181] g1074 _ _
    have sx1075 := hy_zi dx1075
    refine AR.iconstT hk_143_109 (by decide) (fun z1076 ez1076 => ?_)
    show AR _ _ _ _ _ _ _ 110 [(11, .int z1069), (10, .int v), (9, .int j), (8, .int n), (7, .ref K), (0, .ref 181)] [.int z1076, .int x1075, .ref 181] g1074 _ _
    refine AR.addT hk_143_110 (by omega) (by omega) (fun z1077 ez1077 => ?_)
    show AR _ _ _ _ _ _ _ 111 [(11, .int z1069), (10, .int v), (9, .int j), (8, .int n), (7, .ref K), (0, .ref 181)] [.int z1077, .ref 181] g1074 _ _
    refine AR.pT hk_143_111 (by decide) Hg1074 Fg1074 (q := 181) (by decide) (by decide +kernel) (show ax_cls[9]? = some hy_c9 from rfl) (by decide +kernel) (by decide) rfl (by rw [hy_t181_7]; exact ⟨_, rfl, by omega, by omega, Or.inl rfl⟩) (by decide +kernel) (by decide +kernel) ?_
    rintro g1078 ⟨Hg1078, Fg1078, Gg1078, Eg1078⟩
    show AR _ _ _ _ _ _ _ 114 [(11, .int z1069), (10, .int v), (9, .int j), (8, .int n), (7, .ref K), (0, .ref 181)] [] g1078 _ _
    have ig1078 : hy_I g1078 := ig1074.st Gg1078 (by decide) Eg1078 (by decide +kernel)
    have ug1078_181_7 : hy_z g1078 181 7 = z1077.toInt := hy_zi (i := z1077) (by rw [Eg1078, if_pos ⟨rfl, rfl⟩])
    have ug1078_181_0 : hy_z g1078 181 0 = hy_z g1074 181 0 := hy_ze (by rw [Eg1078, if_neg (fun c => absurd c.2 (by decide))])
    have cg1078 : hy_z g1078 185 = t_up1 (hy_z g 185) (hy_z g 181 7) (t_by v 24) := t_kept Eg1078 (by decide) cg1074
    have Ag1078 : ∀ j, ty_fd g1078 K j = ty_fd g K j := fun j => (show ty_fd g1078 K j = ty_fd g1074 K j by rw [Eg1078, if_neg (fun c => by have := c.1; omega)]).trans (Ag1074 j)
    have Lg1078 : lp_A g1078 K := Lg1074.go Gg1078 hK
    refine AR.iincT hk_143_114 (x := z1069) rfl (by rw [hn_143]; decide) (by decide) (by omega) (by omega) (fun z1079 ez1079 => ?_)
    show AR _ _ _ _ _ _ _ 117 [(11, .int z1079), (10, .int v), (9, .int j), (8, .int n), (7, .ref K), (0, .ref 181)] [] g1078 _ _
    refine AR.gotoT hk_143_117 (tgt := 81) (by decide) ?_
    refine AR.s (pc' := 83) (lv' := [(11, .int z1079), (10, .int v), (9, .int j), (8, .int n), (7, .ref K), (0, .ref 181)]) (st' := [.int z1079]) (h' := g1078) _ hn_143 hk_143_81 rfl ?_
    refine AR.zlt hk_143_83 (tgt := 120) (by decide) (fun p1 => ?_) (fun q1 => ?_)
    · exact absurd p1 (by omega)
    · refine AR.s (pc' := 87) (lv' := [(11, .int z1079), (10, .int v), (9, .int j), (8, .int n), (7, .ref K), (0, .ref 181)]) (st' := [.ref 181]) (h' := g1078) _ hn_143 hk_143_86 rfl ?_
      refine AR.gR hk_143_87 (by decide) Hg1078 (q := 181) (n := 32) (by decide) (by decide +kernel) (by decide +kernel) (by decide) hy_t181_6 ?_
      show AR _ _ _ _ _ _ _ 90 [(11, .int z1079), (10, .int v), (9, .int j), (8, .int n), (7, .ref K), (0, .ref 181)] [.ref 185] g1078 _ _
      refine AR.s (pc' := 91) (lv' := [(11, .int z1079), (10, .int v), (9, .int j), (8, .int n), (7, .ref K), (0, .ref 181)]) (st' := [.ref 181, .ref 185]) (h' := g1078) _ hn_143 hk_143_90 rfl ?_
      refine AR.gI hk_143_91 (by decide) Hg1078 (q := 181) (n := 32) (by decide) (by decide +kernel) (by decide +kernel) (by decide) hy_t181_7 (fun x1080 dx1080 lx1080 ux1080 => ?_)
      show AR _ _ _ _ _ _ _ 94 [(11, .int z1079), (10, .int v), (9, .int j), (8, .int n), (7, .ref K), (0, .ref 181)] [.int x1080, .ref 185] g1078 _ _
      have sx1080 := hy_zi dx1080
      refine AR.s (pc' := 96) (lv' := [(11, .int z1079), (10, .int v), (9, .int j), (8, .int n), (7, .ref K), (0, .ref 181)]) (st' := [.int v, .int x1080, .ref 185]) (h' := g1078) _ hn_143 hk_143_94 rfl ?_
      refine AR.s (pc' := 98) (lv' := [(11, .int z1079), (10, .int v), (9, .int j), (8, .int n), (7, .ref K), (0, .ref 181)]) (st' := [.int z1079, .int v, .int x1080, .ref 185]) (h' := g1078) _ hn_143 hk_143_96 rfl ?_
      refine AR.ishr (z := .int (v >>> (z1079 &&& 31))) (ax_look_ok hk_143_98).1 rfl ?_
      generalize hhz1081 : v >>> (z1079 &&& 31) = z1081
      show AR _ _ _ _ _ _ _ 99 [(11, .int z1079), (10, .int v), (9, .int j), (8, .int n), (7, .ref K), (0, .ref 181)] [.int z1081, .int x1080, .ref 185] g1078 _ _
      refine AR.sipushT hk_143_99 (by decide) (fun z1082 ez1082 => ?_)
      show AR _ _ _ _ _ _ _ 102 [(11, .int z1079), (10, .int v), (9, .int j), (8, .int n), (7, .ref K), (0, .ref 181)] [.int z1082, .int z1081, .int x1080, .ref 185] g1078 _ _
      refine AR.iand (z := .int (z1081 &&& z1082)) (ax_look_ok hk_143_102).1 rfl ?_
      have ez1083 := lp_and (a := z1081) ez1082
      have bz1083 : (z1081 &&& z1082).toInt = t_by v 16 := t_by_of (by omega) ez1082 hhz1081 rfl
      generalize z1081 &&& z1082 = z1083 at ez1083 bz1083
      show AR _ _ _ _ _ _ _ 103 [(11, .int z1079), (10, .int v), (9, .int j), (8, .int n), (7, .ref K), (0, .ref 181)] [.int z1083, .int x1080, .ref 185] g1078 _ _
      refine AR.isT hk_143_103 Hg1078 Fg1078 (q := 185) (n := 200) (by decide) (by decide +kernel) (by decide +kernel) (by decide +kernel) hy_t185_0 (by omega) (by omega) (by omega) (by omega) (by decide +kernel) ?_
      rintro g1084 ⟨Hg1084, Fg1084, Gg1084, Eg1084⟩
      show AR _ _ _ _ _ _ _ 104 [(11, .int z1079), (10, .int v), (9, .int j), (8, .int n), (7, .ref K), (0, .ref 181)] [] g1084 _ _
      have ig1084 : hy_I g1084 := ig1078.st Gg1084 (by decide) Eg1084 (by unfold ty_ky; rw [show ty_ar 185 = true from by decide +kernel]; show ty_IK.testBit ((ty_tab 185).2.2.1 - 1 + 0) = false; decide +kernel)
      have ug1084_181_7 : hy_z g1084 181 7 = hy_z g1078 181 7 := hy_ze (by rw [Eg1084, if_neg (fun c => absurd c.1 (by decide))])
      have ug1084_181_0 : hy_z g1084 181 0 = hy_z g1078 181 0 := hy_ze (by rw [Eg1084, if_neg (fun c => absurd c.1 (by decide))])
      have cg1084 : hy_z g1084 185 = t_up1 (t_up1 (hy_z g 185) (hy_z g 181 7) (t_by v 24)) (hy_z g 181 7 + 1) (t_by v 16) := t_put Eg1084 (by omega) (by omega) bz1083 cg1078
      have Ag1084 : ∀ j, ty_fd g1084 K j = ty_fd g K j := fun j => (show ty_fd g1084 K j = ty_fd g1078 K j by rw [Eg1084, if_neg (fun c => by have := c.1; omega)]).trans (Ag1078 j)
      have Lg1084 : lp_A g1084 K := Lg1078.go Gg1084 hK
      refine AR.s (pc' := 105) (lv' := [(11, .int z1079), (10, .int v), (9, .int j), (8, .int n), (7, .ref K), (0, .ref 181)]) (st' := [.ref 181]) (h' := g1084) _ hn_143 hk_143_104 rfl ?_
      refine AR.s (pc' := 106) (lv' := [(11, .int z1079), (10, .int v), (9, .int j), (8, .int n), (7, .ref K), (0, .ref 181)]) (st' := [.ref 181, .ref 181]) (h' := g1084) _ hn_143 hk_143_105 rfl ?_
      refine AR.gI hk_143_106 (by decide) Hg1084 (q := 181) (n := 32) (by decide) (by decide +kernel) (by decide +kernel) (by decide) hy_t181_7 (fun x1085 dx1085 lx1085 ux1085 => ?_)
      show AR _ _ _ _ _ _ _ 109 [(11, .int z1079), (10, .int v), (9, .int j), (8, .int n), (7, .ref K), (0, .ref 181)] [.int x1085, .ref 181] g1084 _ _
      have sx1085 := hy_zi dx1085
      refine AR.iconstT hk_143_109 (by decide) (fun z1086 ez1086 => ?_)
      show AR _ _ _ _ _ _ _ 110 [(11, .int z1079), (10, .int v), (9, .int j), (8, .int n), (7, .ref K), (0, .ref 181)] [.int z1086, .int x1085, .ref 181] g1084 _ _
      refine AR.addT hk_143_110 (by omega) (by omega) (fun z1087 ez1087 => ?_)
      show AR _ _ _ _ _ _ _ 111 [(11, .int z1079), (10, .int v), (9, .int j), (8, .int n), (7, .ref K), (0, .ref 181)] [.int z1087, .ref 181] g1084 _ _
      refine AR.pT hk_143_111 (by decide) Hg1084 Fg1084 (q := 181) (by decide) (by decide +kernel) (show ax_cls[9]? = some hy_c9 from rfl) (by decide +kernel) (by decide) rfl (by rw [hy_t181_7]; exact ⟨_, rfl, by omega, by omega, Or.inl rfl⟩) (by decide +kernel) (by decide +kernel) ?_
      rintro g1088 ⟨Hg1088, Fg1088, Gg1088, Eg1088⟩
      show AR _ _ _ _ _ _ _ 114 [(11, .int z1079), (10, .int v), (9, .int j), (8, .int n), (7, .ref K), (0, .ref 181)] [] g1088 _ _
      have ig1088 : hy_I g1088 := ig1084.st Gg1088 (by decide) Eg1088 (by decide +kernel)
      have ug1088_181_7 : hy_z g1088 181 7 = z1087.toInt := hy_zi (i := z1087) (by rw [Eg1088, if_pos ⟨rfl, rfl⟩])
      have ug1088_181_0 : hy_z g1088 181 0 = hy_z g1084 181 0 := hy_ze (by rw [Eg1088, if_neg (fun c => absurd c.2 (by decide))])
      have cg1088 : hy_z g1088 185 = t_up1 (t_up1 (hy_z g 185) (hy_z g 181 7) (t_by v 24)) (hy_z g 181 7 + 1) (t_by v 16) := t_kept Eg1088 (by decide) cg1084
      have Ag1088 : ∀ j, ty_fd g1088 K j = ty_fd g K j := fun j => (show ty_fd g1088 K j = ty_fd g1084 K j by rw [Eg1088, if_neg (fun c => by have := c.1; omega)]).trans (Ag1084 j)
      have Lg1088 : lp_A g1088 K := Lg1084.go Gg1088 hK
      refine AR.iincT hk_143_114 (x := z1079) rfl (by rw [hn_143]; decide) (by decide) (by omega) (by omega) (fun z1089 ez1089 => ?_)
      show AR _ _ _ _ _ _ _ 117 [(11, .int z1089), (10, .int v), (9, .int j), (8, .int n), (7, .ref K), (0, .ref 181)] [] g1088 _ _
      refine AR.gotoT hk_143_117 (tgt := 81) (by decide) ?_
      refine AR.s (pc' := 83) (lv' := [(11, .int z1089), (10, .int v), (9, .int j), (8, .int n), (7, .ref K), (0, .ref 181)]) (st' := [.int z1089]) (h' := g1088) _ hn_143 hk_143_81 rfl ?_
      refine AR.zlt hk_143_83 (tgt := 120) (by decide) (fun p2 => ?_) (fun q2 => ?_)
      · exact absurd p2 (by omega)
      · refine AR.s (pc' := 87) (lv' := [(11, .int z1089), (10, .int v), (9, .int j), (8, .int n), (7, .ref K), (0, .ref 181)]) (st' := [.ref 181]) (h' := g1088) _ hn_143 hk_143_86 rfl ?_
        refine AR.gR hk_143_87 (by decide) Hg1088 (q := 181) (n := 32) (by decide) (by decide +kernel) (by decide +kernel) (by decide) hy_t181_6 ?_
        show AR _ _ _ _ _ _ _ 90 [(11, .int z1089), (10, .int v), (9, .int j), (8, .int n), (7, .ref K), (0, .ref 181)] [.ref 185] g1088 _ _
        refine AR.s (pc' := 91) (lv' := [(11, .int z1089), (10, .int v), (9, .int j), (8, .int n), (7, .ref K), (0, .ref 181)]) (st' := [.ref 181, .ref 185]) (h' := g1088) _ hn_143 hk_143_90 rfl ?_
        refine AR.gI hk_143_91 (by decide) Hg1088 (q := 181) (n := 32) (by decide) (by decide +kernel) (by decide +kernel) (by decide) hy_t181_7 (fun x1090 dx1090 lx1090 ux1090 => ?_)
        show AR _ _ _ _ _ _ _ 94 [(11, .int z1089), (10, .int v), (9, .int j), (8, .int n), (7, .ref K), (0, .ref 181)] [.int x1090, .ref 185] g1088 _ _
        have sx1090 := hy_zi dx1090
        refine AR.s (pc' := 96) (lv' := [(11, .int z1089), (10, .int v), (9, .int j), (8, .int n), (7, .ref K), (0, .ref 181)]) (st' := [.int v, .int x1090, .ref 185]) (h' := g1088) _ hn_143 hk_143_94 rfl ?_
        refine AR.s (pc' := 98) (lv' := [(11, .int z1089), (10, .int v), (9, .int j), (8, .int n), (7, .ref K), (0, .ref 181)]) (st' := [.int z1089, .int v, .int x1090, .ref 185]) (h' := g1088) _ hn_143 hk_143_96 rfl ?_
        refine AR.ishr (z := .int (v >>> (z1089 &&& 31))) (ax_look_ok hk_143_98).1 rfl ?_
        generalize hhz1091 : v >>> (z1089 &&& 31) = z1091
        show AR _ _ _ _ _ _ _ 99 [(11, .int z1089), (10, .int v), (9, .int j), (8, .int n), (7, .ref K), (0, .ref 181)] [.int z1091, .int x1090, .ref 185] g1088 _ _
        refine AR.sipushT hk_143_99 (by decide) (fun z1092 ez1092 => ?_)
        show AR _ _ _ _ _ _ _ 102 [(11, .int z1089), (10, .int v), (9, .int j), (8, .int n), (7, .ref K), (0, .ref 181)] [.int z1092, .int z1091, .int x1090, .ref 185] g1088 _ _
        refine AR.iand (z := .int (z1091 &&& z1092)) (ax_look_ok hk_143_102).1 rfl ?_
        have ez1093 := lp_and (a := z1091) ez1092
        have bz1093 : (z1091 &&& z1092).toInt = t_by v 8 := t_by_of (by omega) ez1092 hhz1091 rfl
        generalize z1091 &&& z1092 = z1093 at ez1093 bz1093
        show AR _ _ _ _ _ _ _ 103 [(11, .int z1089), (10, .int v), (9, .int j), (8, .int n), (7, .ref K), (0, .ref 181)] [.int z1093, .int x1090, .ref 185] g1088 _ _
        refine AR.isT hk_143_103 Hg1088 Fg1088 (q := 185) (n := 200) (by decide) (by decide +kernel) (by decide +kernel) (by decide +kernel) hy_t185_0 (by omega) (by omega) (by omega) (by omega) (by decide +kernel) ?_
        rintro g1094 ⟨Hg1094, Fg1094, Gg1094, Eg1094⟩
        show AR _ _ _ _ _ _ _ 104 [(11, .int z1089), (10, .int v), (9, .int j), (8, .int n), (7, .ref K), (0, .ref 181)] [] g1094 _ _
        have ig1094 : hy_I g1094 := ig1088.st Gg1094 (by decide) Eg1094 (by unfold ty_ky; rw [show ty_ar 185 = true from by decide +kernel]; show ty_IK.testBit ((ty_tab 185).2.2.1 - 1 + 0) = false; decide +kernel)
        have ug1094_181_7 : hy_z g1094 181 7 = hy_z g1088 181 7 := hy_ze (by rw [Eg1094, if_neg (fun c => absurd c.1 (by decide))])
        have ug1094_181_0 : hy_z g1094 181 0 = hy_z g1088 181 0 := hy_ze (by rw [Eg1094, if_neg (fun c => absurd c.1 (by decide))])
        have cg1094 : hy_z g1094 185 = t_up1 (t_up1 (t_up1 (hy_z g 185) (hy_z g 181 7) (t_by v 24)) (hy_z g 181 7 + 1) (t_by v 16)) (hy_z g 181 7 + 2) (t_by v 8) := t_put Eg1094 (by omega) (by omega) bz1093 cg1088
        have Ag1094 : ∀ j, ty_fd g1094 K j = ty_fd g K j := fun j => (show ty_fd g1094 K j = ty_fd g1088 K j by rw [Eg1094, if_neg (fun c => by have := c.1; omega)]).trans (Ag1088 j)
        have Lg1094 : lp_A g1094 K := Lg1088.go Gg1094 hK
        refine AR.s (pc' := 105) (lv' := [(11, .int z1089), (10, .int v), (9, .int j), (8, .int n), (7, .ref K), (0, .ref 181)]) (st' := [.ref 181]) (h' := g1094) _ hn_143 hk_143_104 rfl ?_
        refine AR.s (pc' := 106) (lv' := [(11, .int z1089), (10, .int v), (9, .int j), (8, .int n), (7, .ref K), (0, .ref 181)]) (st' := [.ref 181, .ref 181]) (h' := g1094) _ hn_143 hk_143_105 rfl ?_
        refine AR.gI hk_143_106 (by decide) Hg1094 (q := 181) (n := 32) (by decide) (by decide +kernel) (by decide +kernel) (by decide) hy_t181_7 (fun x1095 dx1095 lx1095 ux1095 => ?_)
        show AR _ _ _ _ _ _ _ 109 [(11, .int z1089), (10, .int v), (9, .int j), (8, .int n), (7, .ref K), (0, .ref 181)] [.int x1095, .ref 181] g1094 _ _
        have sx1095 := hy_zi dx1095
        refine AR.iconstT hk_143_109 (by decide) (fun z1096 ez1096 => ?_)
        show AR _ _ _ _ _ _ _ 110 [(11, .int z1089), (10, .int v), (9, .int j), (8, .int n), (7, .ref K), (0, .ref 181)] [.int z1096, .int x1095, .ref 181] g1094 _ _
        refine AR.addT hk_143_110 (by omega) (by omega) (fun z1097 ez1097 => ?_)
        show AR _ _ _ _ _ _ _ 111 [(11, .int z1089), (10, .int v), (9, .int j), (8, .int n), (7, .ref K), (0, .ref 181)] [.int z1097, .ref 181] g1094 _ _
        refine AR.pT hk_143_111 (by decide) Hg1094 Fg1094 (q := 181) (by decide) (by decide +kernel) (show ax_cls[9]? = some hy_c9 from rfl) (by decide +kernel) (by decide) rfl (by rw [hy_t181_7]; exact ⟨_, rfl, by omega, by omega, Or.inl rfl⟩) (by decide +kernel) (by decide +kernel) ?_
        rintro g1098 ⟨Hg1098, Fg1098, Gg1098, Eg1098⟩
        show AR _ _ _ _ _ _ _ 114 [(11, .int z1089), (10, .int v), (9, .int j), (8, .int n), (7, .ref K), (0, .ref 181)] [] g1098 _ _
        have ig1098 : hy_I g1098 := ig1094.st Gg1098 (by decide) Eg1098 (by decide +kernel)
        have ug1098_181_7 : hy_z g1098 181 7 = z1097.toInt := hy_zi (i := z1097) (by rw [Eg1098, if_pos ⟨rfl, rfl⟩])
        have ug1098_181_0 : hy_z g1098 181 0 = hy_z g1094 181 0 := hy_ze (by rw [Eg1098, if_neg (fun c => absurd c.2 (by decide))])
        have cg1098 : hy_z g1098 185 = t_up1 (t_up1 (t_up1 (hy_z g 185) (hy_z g 181 7) (t_by v 24)) (hy_z g 181 7 + 1) (t_by v 16)) (hy_z g 181 7 + 2) (t_by v 8) := t_kept Eg1098 (by decide) cg1094
        have Ag1098 : ∀ j, ty_fd g1098 K j = ty_fd g K j := fun j => (show ty_fd g1098 K j = ty_fd g1094 K j by rw [Eg1098, if_neg (fun c => by have := c.1; omega)]).trans (Ag1094 j)
        have Lg1098 : lp_A g1098 K := Lg1094.go Gg1098 hK
        refine AR.iincT hk_143_114 (x := z1089) rfl (by rw [hn_143]; decide) (by decide) (by omega) (by omega) (fun z1099 ez1099 => ?_)
        show AR _ _ _ _ _ _ _ 117 [(11, .int z1099), (10, .int v), (9, .int j), (8, .int n), (7, .ref K), (0, .ref 181)] [] g1098 _ _
        refine AR.gotoT hk_143_117 (tgt := 81) (by decide) ?_
        refine AR.s (pc' := 83) (lv' := [(11, .int z1099), (10, .int v), (9, .int j), (8, .int n), (7, .ref K), (0, .ref 181)]) (st' := [.int z1099]) (h' := g1098) _ hn_143 hk_143_81 rfl ?_
        refine AR.zlt hk_143_83 (tgt := 120) (by decide) (fun p3 => ?_) (fun q3 => ?_)
        · exact absurd p3 (by omega)
        · refine AR.s (pc' := 87) (lv' := [(11, .int z1099), (10, .int v), (9, .int j), (8, .int n), (7, .ref K), (0, .ref 181)]) (st' := [.ref 181]) (h' := g1098) _ hn_143 hk_143_86 rfl ?_
          refine AR.gR hk_143_87 (by decide) Hg1098 (q := 181) (n := 32) (by decide) (by decide +kernel) (by decide +kernel) (by decide) hy_t181_6 ?_
          show AR _ _ _ _ _ _ _ 90 [(11, .int z1099), (10, .int v), (9, .int j), (8, .int n), (7, .ref K), (0, .ref 181)] [.ref 185] g1098 _ _
          refine AR.s (pc' := 91) (lv' := [(11, .int z1099), (10, .int v), (9, .int j), (8, .int n), (7, .ref K), (0, .ref 181)]) (st' := [.ref 181, .ref 185]) (h' := g1098) _ hn_143 hk_143_90 rfl ?_
          refine AR.gI hk_143_91 (by decide) Hg1098 (q := 181) (n := 32) (by decide) (by decide +kernel) (by decide +kernel) (by decide) hy_t181_7 (fun x1100 dx1100 lx1100 ux1100 => ?_)
          show AR _ _ _ _ _ _ _ 94 [(11, .int z1099), (10, .int v), (9, .int j), (8, .int n), (7, .ref K), (0, .ref 181)] [.int x1100, .ref 185] g1098 _ _
          have sx1100 := hy_zi dx1100
          refine AR.s (pc' := 96) (lv' := [(11, .int z1099), (10, .int v), (9, .int j), (8, .int n), (7, .ref K), (0, .ref 181)]) (st' := [.int v, .int x1100, .ref 185]) (h' := g1098) _ hn_143 hk_143_94 rfl ?_
          refine AR.s (pc' := 98) (lv' := [(11, .int z1099), (10, .int v), (9, .int j), (8, .int n), (7, .ref K), (0, .ref 181)]) (st' := [.int z1099, .int v, .int x1100, .ref 185]) (h' := g1098) _ hn_143 hk_143_96 rfl ?_
          refine AR.ishr (z := .int (v >>> (z1099 &&& 31))) (ax_look_ok hk_143_98).1 rfl ?_
          generalize hhz1101 : v >>> (z1099 &&& 31) = z1101
          show AR _ _ _ _ _ _ _ 99 [(11, .int z1099), (10, .int v), (9, .int j), (8, .int n), (7, .ref K), (0, .ref 181)] [.int z1101, .int x1100, .ref 185] g1098 _ _
          refine AR.sipushT hk_143_99 (by decide) (fun z1102 ez1102 => ?_)
          show AR _ _ _ _ _ _ _ 102 [(11, .int z1099), (10, .int v), (9, .int j), (8, .int n), (7, .ref K), (0, .ref 181)] [.int z1102, .int z1101, .int x1100, .ref 185] g1098 _ _
          refine AR.iand (z := .int (z1101 &&& z1102)) (ax_look_ok hk_143_102).1 rfl ?_
          have ez1103 := lp_and (a := z1101) ez1102
          have bz1103 : (z1101 &&& z1102).toInt = t_by v 0 := t_by_of (by omega) ez1102 hhz1101 rfl
          generalize z1101 &&& z1102 = z1103 at ez1103 bz1103
          show AR _ _ _ _ _ _ _ 103 [(11, .int z1099), (10, .int v), (9, .int j), (8, .int n), (7, .ref K), (0, .ref 181)] [.int z1103, .int x1100, .ref 185] g1098 _ _
          refine AR.isT hk_143_103 Hg1098 Fg1098 (q := 185) (n := 200) (by decide) (by decide +kernel) (by decide +kernel) (by decide +kernel) hy_t185_0 (by omega) (by omega) (by omega) (by omega) (by decide +kernel) ?_
          rintro g1104 ⟨Hg1104, Fg1104, Gg1104, Eg1104⟩
          show AR _ _ _ _ _ _ _ 104 [(11, .int z1099), (10, .int v), (9, .int j), (8, .int n), (7, .ref K), (0, .ref 181)] [] g1104 _ _
          have ig1104 : hy_I g1104 := ig1098.st Gg1104 (by decide) Eg1104 (by unfold ty_ky; rw [show ty_ar 185 = true from by decide +kernel]; show ty_IK.testBit ((ty_tab 185).2.2.1 - 1 + 0) = false; decide +kernel)
          have ug1104_181_7 : hy_z g1104 181 7 = hy_z g1098 181 7 := hy_ze (by rw [Eg1104, if_neg (fun c => absurd c.1 (by decide))])
          have ug1104_181_0 : hy_z g1104 181 0 = hy_z g1098 181 0 := hy_ze (by rw [Eg1104, if_neg (fun c => absurd c.1 (by decide))])
          have cg1104 : hy_z g1104 185 = t_up1 (t_up1 (t_up1 (t_up1 (hy_z g 185) (hy_z g 181 7) (t_by v 24)) (hy_z g 181 7 + 1) (t_by v 16)) (hy_z g 181 7 + 2) (t_by v 8)) (hy_z g 181 7 + 3) (t_by v 0) := t_put Eg1104 (by omega) (by omega) bz1103 cg1098
          have Ag1104 : ∀ j, ty_fd g1104 K j = ty_fd g K j := fun j => (show ty_fd g1104 K j = ty_fd g1098 K j by rw [Eg1104, if_neg (fun c => by have := c.1; omega)]).trans (Ag1098 j)
          have Lg1104 : lp_A g1104 K := Lg1098.go Gg1104 hK
          refine AR.s (pc' := 105) (lv' := [(11, .int z1099), (10, .int v), (9, .int j), (8, .int n), (7, .ref K), (0, .ref 181)]) (st' := [.ref 181]) (h' := g1104) _ hn_143 hk_143_104 rfl ?_
          refine AR.s (pc' := 106) (lv' := [(11, .int z1099), (10, .int v), (9, .int j), (8, .int n), (7, .ref K), (0, .ref 181)]) (st' := [.ref 181, .ref 181]) (h' := g1104) _ hn_143 hk_143_105 rfl ?_
          refine AR.gI hk_143_106 (by decide) Hg1104 (q := 181) (n := 32) (by decide) (by decide +kernel) (by decide +kernel) (by decide) hy_t181_7 (fun x1105 dx1105 lx1105 ux1105 => ?_)
          show AR _ _ _ _ _ _ _ 109 [(11, .int z1099), (10, .int v), (9, .int j), (8, .int n), (7, .ref K), (0, .ref 181)] [.int x1105, .ref 181] g1104 _ _
          have sx1105 := hy_zi dx1105
          refine AR.iconstT hk_143_109 (by decide) (fun z1106 ez1106 => ?_)
          show AR _ _ _ _ _ _ _ 110 [(11, .int z1099), (10, .int v), (9, .int j), (8, .int n), (7, .ref K), (0, .ref 181)] [.int z1106, .int x1105, .ref 181] g1104 _ _
          refine AR.addT hk_143_110 (by omega) (by omega) (fun z1107 ez1107 => ?_)
          show AR _ _ _ _ _ _ _ 111 [(11, .int z1099), (10, .int v), (9, .int j), (8, .int n), (7, .ref K), (0, .ref 181)] [.int z1107, .ref 181] g1104 _ _
          refine AR.pT hk_143_111 (by decide) Hg1104 Fg1104 (q := 181) (by decide) (by decide +kernel) (show ax_cls[9]? = some hy_c9 from rfl) (by decide +kernel) (by decide) rfl (by rw [hy_t181_7]; exact ⟨_, rfl, by omega, by omega, Or.inl rfl⟩) (by decide +kernel) (by decide +kernel) ?_
          rintro g1108 ⟨Hg1108, Fg1108, Gg1108, Eg1108⟩
          show AR _ _ _ _ _ _ _ 114 [(11, .int z1099), (10, .int v), (9, .int j), (8, .int n), (7, .ref K), (0, .ref 181)] [] g1108 _ _
          have ig1108 : hy_I g1108 := ig1104.st Gg1108 (by decide) Eg1108 (by decide +kernel)
          have ug1108_181_7 : hy_z g1108 181 7 = z1107.toInt := hy_zi (i := z1107) (by rw [Eg1108, if_pos ⟨rfl, rfl⟩])
          have ug1108_181_0 : hy_z g1108 181 0 = hy_z g1104 181 0 := hy_ze (by rw [Eg1108, if_neg (fun c => absurd c.2 (by decide))])
          have cg1108 : hy_z g1108 185 = t_up1 (t_up1 (t_up1 (t_up1 (hy_z g 185) (hy_z g 181 7) (t_by v 24)) (hy_z g 181 7 + 1) (t_by v 16)) (hy_z g 181 7 + 2) (t_by v 8)) (hy_z g 181 7 + 3) (t_by v 0) := t_kept Eg1108 (by decide) cg1104
          have Ag1108 : ∀ j, ty_fd g1108 K j = ty_fd g K j := fun j => (show ty_fd g1108 K j = ty_fd g1104 K j by rw [Eg1108, if_neg (fun c => by have := c.1; omega)]).trans (Ag1104 j)
          have Lg1108 : lp_A g1108 K := Lg1104.go Gg1108 hK
          refine AR.iincT hk_143_114 (x := z1099) rfl (by rw [hn_143]; decide) (by decide) (by omega) (by omega) (fun z1109 ez1109 => ?_)
          show AR _ _ _ _ _ _ _ 117 [(11, .int z1109), (10, .int v), (9, .int j), (8, .int n), (7, .ref K), (0, .ref 181)] [] g1108 _ _
          refine AR.gotoT hk_143_117 (tgt := 81) (by decide) ?_
          refine AR.s (pc' := 83) (lv' := [(11, .int z1109), (10, .int v), (9, .int j), (8, .int n), (7, .ref K), (0, .ref 181)]) (st' := [.int z1109]) (h' := g1108) _ hn_143 hk_143_81 rfl ?_
          refine AR.zlt hk_143_83 (tgt := 120) (by decide) (fun p4 => ?_) (fun q4 => ?_)
          · refine AR.lessL (lv' := [(9, .int j), (8, .int n), (7, .ref K), (0, .ref 181)]) (List.forall_mem_cons.mpr ⟨⟨_, by simp, ax_le_rfl rfl⟩, (List.forall_mem_cons.mpr ⟨⟨_, by simp, ax_le_rfl rfl⟩, (List.forall_mem_cons.mpr ⟨⟨_, by simp, ax_le_rfl rfl⟩, (List.forall_mem_cons.mpr ⟨⟨_, by simp, ax_le_rfl rfl⟩, (fun _ h => absurd h List.not_mem_nil)⟩)⟩)⟩)⟩) ?_
            exact k _ Hg1108 ig1108 Fg1108 Lg1108 (by omega) (by omega) Ag1108 cg1108
          · exact absurd q4 (by omega)
theorem lp_143 (hlst : l.stackTraces = false) (hH : hy_H 0 h) (hi : hy_I h) : AM ax_ns l (ax_mm 143) 1 ty_R (0 + 1) (0 + 5) [.ref 181, .int y1, .int y2, .int y3, .int y4, .int y5] h (hq_r2 h y1 y2 y3 y4 y5) := by
  refine AM.of (ax_mfacts (by decide +kernel : ax_has 143 = true)).2.2.2.2.2.2 hlst (by rw [hn_143]; exact Nat.le_of_ble_eq_true rfl) ?_
  show AR ax_ns l (ax_mm 143) 1 ty_R _ _ 0 [(0, .ref 181), (1, .int y1), (2, .int y2), (3, .int y3), (4, .int y4), (5, .int y5)] [] h (0 + 1) (0 + 5)
  have F : ty_F 2596465341918660686608376606490624 h h := ty_F_refl _ _
  refine AR.s (pc' := 1) (lv' := [(0, .ref 181), (1, .int y1), (2, .int y2), (3, .int y3), (4, .int y4), (5, .int y5)]) (st' := [.ref 181]) (h' := h) _ hn_143 hk_143_0 rfl ?_
  refine AR.iconstT hk_143_1 (by decide) (fun z1110 ez1110 => ?_)
  show AR _ _ _ _ _ _ _ 2 [(0, .ref 181), (1, .int y1), (2, .int y2), (3, .int y3), (4, .int y4), (5, .int y5)] [.int z1110, .ref 181] h _ _
  refine AR.pT hk_143_2 (by decide) hH F (q := 181) (by decide) (by decide +kernel) (show ax_cls[9]? = some hy_c9 from rfl) (by decide +kernel) (by decide) rfl (by rw [hy_t181_0]; exact ⟨_, rfl, by omega, by omega, Or.inl rfl⟩) (by decide +kernel) (by decide +kernel) ?_
  rintro g1111 ⟨Hg1111, Fg1111, Gg1111, Eg1111⟩
  show AR _ _ _ _ _ _ _ 5 [(0, .ref 181), (1, .int y1), (2, .int y2), (3, .int y3), (4, .int y4), (5, .int y5)] [] g1111 _ _
  have ig1111 : hy_I g1111 := hi.st Gg1111 (by decide) Eg1111 (by decide +kernel)
  have ug1111_181_7 : hy_z g1111 181 7 = hy_z h 181 7 := hy_ze (by rw [Eg1111, if_neg (fun c => absurd c.2 (by decide))])
  have ug1111_181_0 : hy_z g1111 181 0 = z1110.toInt := hy_zi (i := z1110) (by rw [Eg1111, if_pos ⟨rfl, rfl⟩])
  refine AR.s (pc' := 6) (lv' := [(0, .ref 181), (1, .int y1), (2, .int y2), (3, .int y3), (4, .int y4), (5, .int y5)]) (st' := [.ref 181]) (h' := g1111) _ hn_143 hk_143_5 rfl ?_
  refine AR.gI hk_143_6 (by decide) Hg1111 (q := 181) (n := 32) (by decide) (by decide +kernel) (by decide +kernel) (by decide) hy_t181_7 (fun x1112 dx1112 lx1112 ux1112 => ?_)
  show AR _ _ _ _ _ _ _ 9 [(0, .ref 181), (1, .int y1), (2, .int y2), (3, .int y3), (4, .int y4), (5, .int y5)] [.int x1112] g1111 _ _
  have sx1112 := hy_zi dx1112
  refine AR.bipushT hk_143_9 (by decide) (fun z1113 ez1113 => ?_)
  show AR _ _ _ _ _ _ _ 11 [(0, .ref 181), (1, .int y1), (2, .int y2), (3, .int y3), (4, .int y4), (5, .int y5)] [.int z1113, .int x1112] g1111 _ _
  refine AR.addT hk_143_11 (by omega) (by omega) (fun z1114 ez1114 => ?_)
  show AR _ _ _ _ _ _ _ 12 [(0, .ref 181), (1, .int y1), (2, .int y2), (3, .int y3), (4, .int y4), (5, .int y5)] [.int z1114] g1111 _ _
  refine AR.sipushT hk_143_12 (by decide) (fun z1115 ez1115 => ?_)
  show AR _ _ _ _ _ _ _ 15 [(0, .ref 181), (1, .int y1), (2, .int y2), (3, .int y3), (4, .int y4), (5, .int y5)] [.int z1115, .int z1114] g1111 _ _
  refine AR.jle hk_143_15 (tgt := 24) (by decide) (fun p1 => ?_) (fun p2 => ?_)
  · have B0 : hy_z g1111 185 = hy_z h 185 := t_kept Eg1111 (by decide) rfl
    refine AR.iconstT hk_143_24 (by decide) (fun z1117 ez1117 => ?_)
    show AR _ _ _ _ _ _ _ 25 [(0, .ref 181), (1, .int y1), (2, .int y2), (3, .int y3), (4, .int y4), (5, .int y5)] [.int z1117] g1111 _ _
    refine AR.n5 hk_143_25 ez1117 ?_
    refine AR.small (fun hsz => ?_)
    rw [List.length_append] at hsz
    have hsz2 : g1111.length < 1000000000 := by omega
    show AR _ _ _ _ _ _ _ 27 [(0, .ref 181), (1, .int y1), (2, .int y2), (3, .int y3), (4, .int y4), (5, .int y5)] [.ref g1111.length] (g1111 ++ [(100, (List.replicate 5 (Value.int 0)))]) _ _
    refine AR.s (pc' := 28) (lv' := [(0, .ref 181), (1, .int y1), (2, .int y2), (3, .int y3), (4, .int y4), (5, .int y5)]) (st' := [.ref g1111.length, .ref g1111.length]) (h' := (g1111 ++ [(100, (List.replicate 5 (Value.int 0)))])) _ hn_143 hk_143_27 rfl ?_
    refine AR.iconstT hk_143_28 (by decide) (fun z1118 ez1118 => ?_)
    show AR _ _ _ _ _ _ _ 29 [(0, .ref 181), (1, .int y1), (2, .int y2), (3, .int y3), (4, .int y4), (5, .int y5)] [.int z1118, .ref g1111.length, .ref g1111.length] (g1111 ++ [(100, (List.replicate 5 (Value.int 0)))]) _ _
    refine AR.s (pc' := 30) (lv' := [(0, .ref 181), (1, .int y1), (2, .int y2), (3, .int y3), (4, .int y4), (5, .int y5)]) (st' := [.int y1, .int z1118, .ref g1111.length, .ref g1111.length]) (h' := (g1111 ++ [(100, (List.replicate 5 (Value.int 0)))])) _ hn_143 hk_143_29 rfl ?_
    refine AR.st5e (n := 0) hk_143_30 hsz2 rfl (by omega) (by decide) ?_
    show AR _ _ _ _ _ _ _ 31 [(0, .ref 181), (1, .int y1), (2, .int y2), (3, .int y3), (4, .int y4), (5, .int y5)] [.ref g1111.length] (g1111 ++ [(100, ((List.replicate 5 (Value.int 0)).set 0 (.int y1)))]) _ _
    refine AR.s (pc' := 32) (lv' := [(0, .ref 181), (1, .int y1), (2, .int y2), (3, .int y3), (4, .int y4), (5, .int y5)]) (st' := [.ref g1111.length, .ref g1111.length]) (h' := (g1111 ++ [(100, ((List.replicate 5 (Value.int 0)).set 0 (.int y1)))])) _ hn_143 hk_143_31 rfl ?_
    refine AR.iconstT hk_143_32 (by decide) (fun z1119 ez1119 => ?_)
    show AR _ _ _ _ _ _ _ 33 [(0, .ref 181), (1, .int y1), (2, .int y2), (3, .int y3), (4, .int y4), (5, .int y5)] [.int z1119, .ref g1111.length, .ref g1111.length] (g1111 ++ [(100, ((List.replicate 5 (Value.int 0)).set 0 (.int y1)))]) _ _
    refine AR.s (pc' := 34) (lv' := [(0, .ref 181), (1, .int y1), (2, .int y2), (3, .int y3), (4, .int y4), (5, .int y5)]) (st' := [.int y2, .int z1119, .ref g1111.length, .ref g1111.length]) (h' := (g1111 ++ [(100, ((List.replicate 5 (Value.int 0)).set 0 (.int y1)))])) _ hn_143 hk_143_33 rfl ?_
    refine AR.st5e (n := 1) hk_143_34 hsz2 rfl (by omega) (by decide) ?_
    show AR _ _ _ _ _ _ _ 35 [(0, .ref 181), (1, .int y1), (2, .int y2), (3, .int y3), (4, .int y4), (5, .int y5)] [.ref g1111.length] (g1111 ++ [(100, (((List.replicate 5 (Value.int 0)).set 0 (.int y1)).set 1 (.int y2)))]) _ _
    refine AR.s (pc' := 36) (lv' := [(0, .ref 181), (1, .int y1), (2, .int y2), (3, .int y3), (4, .int y4), (5, .int y5)]) (st' := [.ref g1111.length, .ref g1111.length]) (h' := (g1111 ++ [(100, (((List.replicate 5 (Value.int 0)).set 0 (.int y1)).set 1 (.int y2)))])) _ hn_143 hk_143_35 rfl ?_
    refine AR.iconstT hk_143_36 (by decide) (fun z1120 ez1120 => ?_)
    show AR _ _ _ _ _ _ _ 37 [(0, .ref 181), (1, .int y1), (2, .int y2), (3, .int y3), (4, .int y4), (5, .int y5)] [.int z1120, .ref g1111.length, .ref g1111.length] (g1111 ++ [(100, (((List.replicate 5 (Value.int 0)).set 0 (.int y1)).set 1 (.int y2)))]) _ _
    refine AR.s (pc' := 38) (lv' := [(0, .ref 181), (1, .int y1), (2, .int y2), (3, .int y3), (4, .int y4), (5, .int y5)]) (st' := [.int y3, .int z1120, .ref g1111.length, .ref g1111.length]) (h' := (g1111 ++ [(100, (((List.replicate 5 (Value.int 0)).set 0 (.int y1)).set 1 (.int y2)))])) _ hn_143 hk_143_37 rfl ?_
    refine AR.st5e (n := 2) hk_143_38 hsz2 rfl (by omega) (by decide) ?_
    show AR _ _ _ _ _ _ _ 39 [(0, .ref 181), (1, .int y1), (2, .int y2), (3, .int y3), (4, .int y4), (5, .int y5)] [.ref g1111.length] (g1111 ++ [(100, ((((List.replicate 5 (Value.int 0)).set 0 (.int y1)).set 1 (.int y2)).set 2 (.int y3)))]) _ _
    refine AR.s (pc' := 40) (lv' := [(0, .ref 181), (1, .int y1), (2, .int y2), (3, .int y3), (4, .int y4), (5, .int y5)]) (st' := [.ref g1111.length, .ref g1111.length]) (h' := (g1111 ++ [(100, ((((List.replicate 5 (Value.int 0)).set 0 (.int y1)).set 1 (.int y2)).set 2 (.int y3)))])) _ hn_143 hk_143_39 rfl ?_
    refine AR.iconstT hk_143_40 (by decide) (fun z1121 ez1121 => ?_)
    show AR _ _ _ _ _ _ _ 41 [(0, .ref 181), (1, .int y1), (2, .int y2), (3, .int y3), (4, .int y4), (5, .int y5)] [.int z1121, .ref g1111.length, .ref g1111.length] (g1111 ++ [(100, ((((List.replicate 5 (Value.int 0)).set 0 (.int y1)).set 1 (.int y2)).set 2 (.int y3)))]) _ _
    refine AR.s (pc' := 43) (lv' := [(0, .ref 181), (1, .int y1), (2, .int y2), (3, .int y3), (4, .int y4), (5, .int y5)]) (st' := [.int y4, .int z1121, .ref g1111.length, .ref g1111.length]) (h' := (g1111 ++ [(100, ((((List.replicate 5 (Value.int 0)).set 0 (.int y1)).set 1 (.int y2)).set 2 (.int y3)))])) _ hn_143 hk_143_41 rfl ?_
    refine AR.st5e (n := 3) hk_143_43 hsz2 rfl (by omega) (by decide) ?_
    show AR _ _ _ _ _ _ _ 44 [(0, .ref 181), (1, .int y1), (2, .int y2), (3, .int y3), (4, .int y4), (5, .int y5)] [.ref g1111.length] (g1111 ++ [(100, (((((List.replicate 5 (Value.int 0)).set 0 (.int y1)).set 1 (.int y2)).set 2 (.int y3)).set 3 (.int y4)))]) _ _
    refine AR.s (pc' := 45) (lv' := [(0, .ref 181), (1, .int y1), (2, .int y2), (3, .int y3), (4, .int y4), (5, .int y5)]) (st' := [.ref g1111.length, .ref g1111.length]) (h' := (g1111 ++ [(100, (((((List.replicate 5 (Value.int 0)).set 0 (.int y1)).set 1 (.int y2)).set 2 (.int y3)).set 3 (.int y4)))])) _ hn_143 hk_143_44 rfl ?_
    refine AR.iconstT hk_143_45 (by decide) (fun z1122 ez1122 => ?_)
    show AR _ _ _ _ _ _ _ 46 [(0, .ref 181), (1, .int y1), (2, .int y2), (3, .int y3), (4, .int y4), (5, .int y5)] [.int z1122, .ref g1111.length, .ref g1111.length] (g1111 ++ [(100, (((((List.replicate 5 (Value.int 0)).set 0 (.int y1)).set 1 (.int y2)).set 2 (.int y3)).set 3 (.int y4)))]) _ _
    refine AR.s (pc' := 48) (lv' := [(0, .ref 181), (1, .int y1), (2, .int y2), (3, .int y3), (4, .int y4), (5, .int y5)]) (st' := [.int y5, .int z1122, .ref g1111.length, .ref g1111.length]) (h' := (g1111 ++ [(100, (((((List.replicate 5 (Value.int 0)).set 0 (.int y1)).set 1 (.int y2)).set 2 (.int y3)).set 3 (.int y4)))])) _ hn_143 hk_143_46 rfl ?_
    refine AR.st5e (n := 4) hk_143_48 hsz2 rfl (by omega) (by decide) ?_
    show AR _ _ _ _ _ _ _ 49 [(0, .ref 181), (1, .int y1), (2, .int y2), (3, .int y3), (4, .int y4), (5, .int y5)] [.ref g1111.length] (g1111 ++ [(100, ((((((List.replicate 5 (Value.int 0)).set 0 (.int y1)).set 1 (.int y2)).set 2 (.int y3)).set 3 (.int y4)).set 4 (.int y5)))]) _ _
    show AR _ _ _ _ _ _ _ 49 [(0, .ref 181), (1, .int y1), (2, .int y2), (3, .int y3), (4, .int y4), (5, .int y5)] [.ref g1111.length] (g1111 ++ [(100, [.int y1, .int y2, .int y3, .int y4, .int y5])]) _ _
    have hK : 198 ≤ g1111.length := Hg1111.1
    have L : lp_A (g1111 ++ [(100, [.int y1, .int y2, .int y3, .int y4, .int y5])]) g1111.length := ⟨_, hy_getl g1111 _, rfl, rfl, fun x hx => by simp only [List.mem_cons, List.not_mem_nil, or_false] at hx; rcases hx with rfl | rfl | rfl | rfl | rfl <;> exact ⟨_, rfl, Int32.le_toInt _, t_i32 _⟩⟩
    have Yb : ∀ j : Nat, ty_fd (g1111 ++ [(100, [.int y1, .int y2, .int y3, .int y4, .int y5])]) g1111.length j = ([.int y1, .int y2, .int y3, .int y4, .int y5] : List Value)[j]? := fun j => by
      unfold ty_fd
      rw [hy_getl]
      rfl
    have Hb := hy_app Hg1111 [(100, [.int y1, .int y2, .int y3, .int y4, .int y5])]
    have ib := ig1111.push Hg1111 [(100, [.int y1, .int y2, .int y3, .int y4, .int y5])]
    have Fb : ty_F 2596465341918660686608376606490624 h (g1111 ++ [(100, [.int y1, .int y2, .int y3, .int y4, .int y5])]) := ty_F.trans Fg1111 (ty_F.push Hg1111.1)
    have ub7 : hy_z (g1111 ++ [(100, [.int y1, .int y2, .int y3, .int y4, .int y5])]) 181 7 = hy_z g1111 181 7 := hy_zapp Hg1111 _ (by decide) 7
    have ub0 : hy_z (g1111 ++ [(100, [.int y1, .int y2, .int y3, .int y4, .int y5])]) 181 0 = hy_z g1111 181 0 := hy_zapp Hg1111 _ (by decide) 0
    have Bb : hy_z (g1111 ++ [(100, [.int y1, .int y2, .int y3, .int y4, .int y5])]) 185 = hy_z h 185 := (funext fun j => hy_zapp Hg1111 _ (by decide) j).trans B0
    generalize g1111.length = K at hK hsz2 L Yb ⊢
    generalize g1111 ++ [(100, [.int y1, .int y2, .int y3, .int y4, .int y5])] = gb at L Yb Hb ib Fb ub7 ub0 Bb ⊢
    show AR _ _ _ _ _ _ _ 49 [(0, .ref 181), (1, .int y1), (2, .int y2), (3, .int y3), (4, .int y4), (5, .int y5)] [.ref K] gb _ _
    refine AR.s (pc' := 51) (lv' := [(6, .ref K), (0, .ref 181), (1, .int y1), (2, .int y2), (3, .int y3), (4, .int y4), (5, .int y5)]) (st' := []) (h' := gb) _ hn_143 hk_143_49 rfl ?_
    refine AR.s (pc' := 53) (lv' := [(6, .ref K), (0, .ref 181), (1, .int y1), (2, .int y2), (3, .int y3), (4, .int y4), (5, .int y5)]) (st' := [.ref K]) (h' := gb) _ hn_143 hk_143_51 rfl ?_
    refine AR.s (pc' := 55) (lv' := [(7, .ref K), (6, .ref K), (0, .ref 181), (1, .int y1), (2, .int y2), (3, .int y3), (4, .int y4), (5, .int y5)]) (st' := []) (h' := gb) _ hn_143 hk_143_53 rfl ?_
    refine AR.s (pc' := 57) (lv' := [(7, .ref K), (6, .ref K), (0, .ref 181), (1, .int y1), (2, .int y2), (3, .int y3), (4, .int y4), (5, .int y5)]) (st' := [.ref K]) (h' := gb) _ hn_143 hk_143_55 rfl ?_
    refine AR.al5 hk_143_57 hsz2 L (fun n5 en5 => ?_)
    show AR _ _ _ _ _ _ _ 58 [(7, .ref K), (6, .ref K), (0, .ref 181), (1, .int y1), (2, .int y2), (3, .int y3), (4, .int y4), (5, .int y5)] [.int n5] gb _ _
    refine AR.s (pc' := 60) (lv' := [(8, .int n5), (7, .ref K), (6, .ref K), (0, .ref 181), (1, .int y1), (2, .int y2), (3, .int y3), (4, .int y4), (5, .int y5)]) (st' := []) (h' := gb) _ hn_143 hk_143_58 rfl ?_
    refine AR.iconstT hk_143_60 (by decide) (fun z1123 ez1123 => ?_)
    show AR _ _ _ _ _ _ _ 61 [(8, .int n5), (7, .ref K), (6, .ref K), (0, .ref 181), (1, .int y1), (2, .int y2), (3, .int y3), (4, .int y4), (5, .int y5)] [.int z1123] gb _ _
    refine AR.s (pc' := 63) (lv' := [(9, .int z1123), (8, .int n5), (7, .ref K), (6, .ref K), (0, .ref 181), (1, .int y1), (2, .int y2), (3, .int y3), (4, .int y4), (5, .int y5)]) (st' := []) (h' := gb) _ hn_143 hk_143_61 rfl ?_
    refine AR.lessL (lv' := [(9, .int z1123), (8, .int n5), (7, .ref K), (0, .ref 181)]) (List.forall_mem_cons.mpr ⟨⟨_, by simp, ax_le_rfl rfl⟩, (List.forall_mem_cons.mpr ⟨⟨_, by simp, ax_le_rfl rfl⟩, (List.forall_mem_cons.mpr ⟨⟨_, by simp, ax_le_rfl rfl⟩, (List.forall_mem_cons.mpr ⟨⟨_, by simp, ax_le_rfl rfl⟩, (fun _ h => absurd h List.not_mem_nil)⟩)⟩)⟩)⟩) ?_
    refine AR.s (pc' := 65) (lv' := [(9, .int z1123), (8, .int n5), (7, .ref K), (0, .ref 181)]) (st' := [.int z1123]) (h' := gb) _ hn_143 hk_143_63 rfl ?_
    refine AR.s (pc' := 67) (lv' := [(9, .int z1123), (8, .int n5), (7, .ref K), (0, .ref 181)]) (st' := [.int n5, .int z1123]) (h' := gb) _ hn_143 hk_143_65 rfl ?_
    refine AR.jge hk_143_67 (tgt := 126) (by decide) (fun m0 => ?_) (fun n0 => ?_)
    · exact absurd m0 (by omega)
    · refine AR.s (pc' := 72) (lv' := [(9, .int z1123), (8, .int n5), (7, .ref K), (0, .ref 181)]) (st' := [.ref K]) (h' := gb) _ hn_143 hk_143_70 rfl ?_
      refine AR.s (pc' := 74) (lv' := [(9, .int z1123), (8, .int n5), (7, .ref K), (0, .ref 181)]) (st' := [.int z1123, .ref K]) (h' := gb) _ hn_143 hk_143_72 rfl ?_
      refine AR.ld5e (n := 0) hk_143_74 hsz2 L (by omega) (by decide) ((Yb 0).trans rfl) ?_
      show AR _ _ _ _ _ _ _ 75 [(9, .int z1123), (8, .int n5), (7, .ref K), (0, .ref 181)] [.int y1] gb _ _
      refine AR.s (pc' := 77) (lv' := [(10, .int y1), (9, .int z1123), (8, .int n5), (7, .ref K), (0, .ref 181)]) (st' := []) (h' := gb) _ hn_143 hk_143_75 rfl ?_
      refine AR.lessL (lv' := [(10, .int y1), (9, .int z1123), (8, .int n5), (7, .ref K), (0, .ref 181)]) (List.forall_mem_cons.mpr ⟨⟨_, by simp, ax_le_rfl rfl⟩, (List.forall_mem_cons.mpr ⟨⟨_, by simp, ax_le_rfl rfl⟩, (List.forall_mem_cons.mpr ⟨⟨_, by simp, ax_le_rfl rfl⟩, (List.forall_mem_cons.mpr ⟨⟨_, by simp, ax_le_rfl rfl⟩, (List.forall_mem_cons.mpr ⟨⟨_, by simp, ax_le_rfl rfl⟩, (fun _ h => absurd h List.not_mem_nil)⟩)⟩)⟩)⟩)⟩) ?_
      refine lp_b4 hK Hb ib Fb L (by omega) (by omega) (fun gq0 Hgq0 Igq0 Fgq0 Agq0 s7gq0 s0gq0 dgq0 bgq0 => ?_)
      have Ygq0 : ∀ j : Nat, ty_fd gq0 K j = ([.int y1, .int y2, .int y3, .int y4, .int y5] : List Value)[j]? := fun j => (dgq0 j).trans (Yb j)
      show AR _ _ _ _ _ _ _ 120 [(9, .int z1123), (8, .int n5), (7, .ref K), (0, .ref 181)] [] gq0 _ _
      refine AR.iincT hk_143_120 (x := z1123) rfl (by rw [hn_143]; decide) (by decide) (by omega) (by omega) (fun z1124 ez1124 => ?_)
      show AR _ _ _ _ _ _ _ 123 [(9, .int z1124), (8, .int n5), (7, .ref K), (0, .ref 181)] [] gq0 _ _
      refine AR.gotoT hk_143_123 (tgt := 63) (by decide) ?_
      refine AR.lessL (lv' := [(9, .int z1124), (8, .int n5), (7, .ref K), (0, .ref 181)]) (List.forall_mem_cons.mpr ⟨⟨_, by simp, ax_le_rfl rfl⟩, (List.forall_mem_cons.mpr ⟨⟨_, by simp, ax_le_rfl rfl⟩, (List.forall_mem_cons.mpr ⟨⟨_, by simp, ax_le_rfl rfl⟩, (List.forall_mem_cons.mpr ⟨⟨_, by simp, ax_le_rfl rfl⟩, (fun _ h => absurd h List.not_mem_nil)⟩)⟩)⟩)⟩) ?_
      refine AR.s (pc' := 65) (lv' := [(9, .int z1124), (8, .int n5), (7, .ref K), (0, .ref 181)]) (st' := [.int z1124]) (h' := gq0) _ hn_143 hk_143_63 rfl ?_
      refine AR.s (pc' := 67) (lv' := [(9, .int z1124), (8, .int n5), (7, .ref K), (0, .ref 181)]) (st' := [.int n5, .int z1124]) (h' := gq0) _ hn_143 hk_143_65 rfl ?_
      refine AR.jge hk_143_67 (tgt := 126) (by decide) (fun m1 => ?_) (fun n1 => ?_)
      · exact absurd m1 (by omega)
      · refine AR.s (pc' := 72) (lv' := [(9, .int z1124), (8, .int n5), (7, .ref K), (0, .ref 181)]) (st' := [.ref K]) (h' := gq0) _ hn_143 hk_143_70 rfl ?_
        refine AR.s (pc' := 74) (lv' := [(9, .int z1124), (8, .int n5), (7, .ref K), (0, .ref 181)]) (st' := [.int z1124, .ref K]) (h' := gq0) _ hn_143 hk_143_72 rfl ?_
        refine AR.ld5e (n := 1) hk_143_74 hsz2 Agq0 (by omega) (by decide) ((Ygq0 1).trans rfl) ?_
        show AR _ _ _ _ _ _ _ 75 [(9, .int z1124), (8, .int n5), (7, .ref K), (0, .ref 181)] [.int y2] gq0 _ _
        refine AR.s (pc' := 77) (lv' := [(10, .int y2), (9, .int z1124), (8, .int n5), (7, .ref K), (0, .ref 181)]) (st' := []) (h' := gq0) _ hn_143 hk_143_75 rfl ?_
        refine AR.lessL (lv' := [(10, .int y2), (9, .int z1124), (8, .int n5), (7, .ref K), (0, .ref 181)]) (List.forall_mem_cons.mpr ⟨⟨_, by simp, ax_le_rfl rfl⟩, (List.forall_mem_cons.mpr ⟨⟨_, by simp, ax_le_rfl rfl⟩, (List.forall_mem_cons.mpr ⟨⟨_, by simp, ax_le_rfl rfl⟩, (List.forall_mem_cons.mpr ⟨⟨_, by simp, ax_le_rfl rfl⟩, (List.forall_mem_cons.mpr ⟨⟨_, by simp, ax_le_rfl rfl⟩, (fun _ h => absurd h List.not_mem_nil)⟩)⟩)⟩)⟩)⟩) ?_
        refine lp_b4 hK Hgq0 Igq0 Fgq0 Agq0 (by omega) (by omega) (fun gq1 Hgq1 Igq1 Fgq1 Agq1 s7gq1 s0gq1 dgq1 bgq1 => ?_)
        have Ygq1 : ∀ j : Nat, ty_fd gq1 K j = ([.int y1, .int y2, .int y3, .int y4, .int y5] : List Value)[j]? := fun j => (dgq1 j).trans (Ygq0 j)
        show AR _ _ _ _ _ _ _ 120 [(9, .int z1124), (8, .int n5), (7, .ref K), (0, .ref 181)] [] gq1 _ _
        refine AR.iincT hk_143_120 (x := z1124) rfl (by rw [hn_143]; decide) (by decide) (by omega) (by omega) (fun z1125 ez1125 => ?_)
        show AR _ _ _ _ _ _ _ 123 [(9, .int z1125), (8, .int n5), (7, .ref K), (0, .ref 181)] [] gq1 _ _
        refine AR.gotoT hk_143_123 (tgt := 63) (by decide) ?_
        refine AR.lessL (lv' := [(9, .int z1125), (8, .int n5), (7, .ref K), (0, .ref 181)]) (List.forall_mem_cons.mpr ⟨⟨_, by simp, ax_le_rfl rfl⟩, (List.forall_mem_cons.mpr ⟨⟨_, by simp, ax_le_rfl rfl⟩, (List.forall_mem_cons.mpr ⟨⟨_, by simp, ax_le_rfl rfl⟩, (List.forall_mem_cons.mpr ⟨⟨_, by simp, ax_le_rfl rfl⟩, (fun _ h => absurd h List.not_mem_nil)⟩)⟩)⟩)⟩) ?_
        refine AR.s (pc' := 65) (lv' := [(9, .int z1125), (8, .int n5), (7, .ref K), (0, .ref 181)]) (st' := [.int z1125]) (h' := gq1) _ hn_143 hk_143_63 rfl ?_
        refine AR.s (pc' := 67) (lv' := [(9, .int z1125), (8, .int n5), (7, .ref K), (0, .ref 181)]) (st' := [.int n5, .int z1125]) (h' := gq1) _ hn_143 hk_143_65 rfl ?_
        refine AR.jge hk_143_67 (tgt := 126) (by decide) (fun m2 => ?_) (fun n2 => ?_)
        · exact absurd m2 (by omega)
        · refine AR.s (pc' := 72) (lv' := [(9, .int z1125), (8, .int n5), (7, .ref K), (0, .ref 181)]) (st' := [.ref K]) (h' := gq1) _ hn_143 hk_143_70 rfl ?_
          refine AR.s (pc' := 74) (lv' := [(9, .int z1125), (8, .int n5), (7, .ref K), (0, .ref 181)]) (st' := [.int z1125, .ref K]) (h' := gq1) _ hn_143 hk_143_72 rfl ?_
          refine AR.ld5e (n := 2) hk_143_74 hsz2 Agq1 (by omega) (by decide) ((Ygq1 2).trans rfl) ?_
          show AR _ _ _ _ _ _ _ 75 [(9, .int z1125), (8, .int n5), (7, .ref K), (0, .ref 181)] [.int y3] gq1 _ _
          refine AR.s (pc' := 77) (lv' := [(10, .int y3), (9, .int z1125), (8, .int n5), (7, .ref K), (0, .ref 181)]) (st' := []) (h' := gq1) _ hn_143 hk_143_75 rfl ?_
          refine AR.lessL (lv' := [(10, .int y3), (9, .int z1125), (8, .int n5), (7, .ref K), (0, .ref 181)]) (List.forall_mem_cons.mpr ⟨⟨_, by simp, ax_le_rfl rfl⟩, (List.forall_mem_cons.mpr ⟨⟨_, by simp, ax_le_rfl rfl⟩, (List.forall_mem_cons.mpr ⟨⟨_, by simp, ax_le_rfl rfl⟩, (List.forall_mem_cons.mpr ⟨⟨_, by simp, ax_le_rfl rfl⟩, (List.forall_mem_cons.mpr ⟨⟨_, by simp, ax_le_rfl rfl⟩, (fun _ h => absurd h List.not_mem_nil)⟩)⟩)⟩)⟩)⟩) ?_
          refine lp_b4 hK Hgq1 Igq1 Fgq1 Agq1 (by omega) (by omega) (fun gq2 Hgq2 Igq2 Fgq2 Agq2 s7gq2 s0gq2 dgq2 bgq2 => ?_)
          have Ygq2 : ∀ j : Nat, ty_fd gq2 K j = ([.int y1, .int y2, .int y3, .int y4, .int y5] : List Value)[j]? := fun j => (dgq2 j).trans (Ygq1 j)
          show AR _ _ _ _ _ _ _ 120 [(9, .int z1125), (8, .int n5), (7, .ref K), (0, .ref 181)] [] gq2 _ _
          refine AR.iincT hk_143_120 (x := z1125) rfl (by rw [hn_143]; decide) (by decide) (by omega) (by omega) (fun z1126 ez1126 => ?_)
          show AR _ _ _ _ _ _ _ 123 [(9, .int z1126), (8, .int n5), (7, .ref K), (0, .ref 181)] [] gq2 _ _
          refine AR.gotoT hk_143_123 (tgt := 63) (by decide) ?_
          refine AR.lessL (lv' := [(9, .int z1126), (8, .int n5), (7, .ref K), (0, .ref 181)]) (List.forall_mem_cons.mpr ⟨⟨_, by simp, ax_le_rfl rfl⟩, (List.forall_mem_cons.mpr ⟨⟨_, by simp, ax_le_rfl rfl⟩, (List.forall_mem_cons.mpr ⟨⟨_, by simp, ax_le_rfl rfl⟩, (List.forall_mem_cons.mpr ⟨⟨_, by simp, ax_le_rfl rfl⟩, (fun _ h => absurd h List.not_mem_nil)⟩)⟩)⟩)⟩) ?_
          refine AR.s (pc' := 65) (lv' := [(9, .int z1126), (8, .int n5), (7, .ref K), (0, .ref 181)]) (st' := [.int z1126]) (h' := gq2) _ hn_143 hk_143_63 rfl ?_
          refine AR.s (pc' := 67) (lv' := [(9, .int z1126), (8, .int n5), (7, .ref K), (0, .ref 181)]) (st' := [.int n5, .int z1126]) (h' := gq2) _ hn_143 hk_143_65 rfl ?_
          refine AR.jge hk_143_67 (tgt := 126) (by decide) (fun m3 => ?_) (fun n3 => ?_)
          · exact absurd m3 (by omega)
          · refine AR.s (pc' := 72) (lv' := [(9, .int z1126), (8, .int n5), (7, .ref K), (0, .ref 181)]) (st' := [.ref K]) (h' := gq2) _ hn_143 hk_143_70 rfl ?_
            refine AR.s (pc' := 74) (lv' := [(9, .int z1126), (8, .int n5), (7, .ref K), (0, .ref 181)]) (st' := [.int z1126, .ref K]) (h' := gq2) _ hn_143 hk_143_72 rfl ?_
            refine AR.ld5e (n := 3) hk_143_74 hsz2 Agq2 (by omega) (by decide) ((Ygq2 3).trans rfl) ?_
            show AR _ _ _ _ _ _ _ 75 [(9, .int z1126), (8, .int n5), (7, .ref K), (0, .ref 181)] [.int y4] gq2 _ _
            refine AR.s (pc' := 77) (lv' := [(10, .int y4), (9, .int z1126), (8, .int n5), (7, .ref K), (0, .ref 181)]) (st' := []) (h' := gq2) _ hn_143 hk_143_75 rfl ?_
            refine AR.lessL (lv' := [(10, .int y4), (9, .int z1126), (8, .int n5), (7, .ref K), (0, .ref 181)]) (List.forall_mem_cons.mpr ⟨⟨_, by simp, ax_le_rfl rfl⟩, (List.forall_mem_cons.mpr ⟨⟨_, by simp, ax_le_rfl rfl⟩, (List.forall_mem_cons.mpr ⟨⟨_, by simp, ax_le_rfl rfl⟩, (List.forall_mem_cons.mpr ⟨⟨_, by simp, ax_le_rfl rfl⟩, (List.forall_mem_cons.mpr ⟨⟨_, by simp, ax_le_rfl rfl⟩, (fun _ h => absurd h List.not_mem_nil)⟩)⟩)⟩)⟩)⟩) ?_
            refine lp_b4 hK Hgq2 Igq2 Fgq2 Agq2 (by omega) (by omega) (fun gq3 Hgq3 Igq3 Fgq3 Agq3 s7gq3 s0gq3 dgq3 bgq3 => ?_)
            have Ygq3 : ∀ j : Nat, ty_fd gq3 K j = ([.int y1, .int y2, .int y3, .int y4, .int y5] : List Value)[j]? := fun j => (dgq3 j).trans (Ygq2 j)
            show AR _ _ _ _ _ _ _ 120 [(9, .int z1126), (8, .int n5), (7, .ref K), (0, .ref 181)] [] gq3 _ _
            refine AR.iincT hk_143_120 (x := z1126) rfl (by rw [hn_143]; decide) (by decide) (by omega) (by omega) (fun z1127 ez1127 => ?_)
            show AR _ _ _ _ _ _ _ 123 [(9, .int z1127), (8, .int n5), (7, .ref K), (0, .ref 181)] [] gq3 _ _
            refine AR.gotoT hk_143_123 (tgt := 63) (by decide) ?_
            refine AR.lessL (lv' := [(9, .int z1127), (8, .int n5), (7, .ref K), (0, .ref 181)]) (List.forall_mem_cons.mpr ⟨⟨_, by simp, ax_le_rfl rfl⟩, (List.forall_mem_cons.mpr ⟨⟨_, by simp, ax_le_rfl rfl⟩, (List.forall_mem_cons.mpr ⟨⟨_, by simp, ax_le_rfl rfl⟩, (List.forall_mem_cons.mpr ⟨⟨_, by simp, ax_le_rfl rfl⟩, (fun _ h => absurd h List.not_mem_nil)⟩)⟩)⟩)⟩) ?_
            refine AR.s (pc' := 65) (lv' := [(9, .int z1127), (8, .int n5), (7, .ref K), (0, .ref 181)]) (st' := [.int z1127]) (h' := gq3) _ hn_143 hk_143_63 rfl ?_
            refine AR.s (pc' := 67) (lv' := [(9, .int z1127), (8, .int n5), (7, .ref K), (0, .ref 181)]) (st' := [.int n5, .int z1127]) (h' := gq3) _ hn_143 hk_143_65 rfl ?_
            refine AR.jge hk_143_67 (tgt := 126) (by decide) (fun m4 => ?_) (fun n4 => ?_)
            · exact absurd m4 (by omega)
            · refine AR.s (pc' := 72) (lv' := [(9, .int z1127), (8, .int n5), (7, .ref K), (0, .ref 181)]) (st' := [.ref K]) (h' := gq3) _ hn_143 hk_143_70 rfl ?_
              refine AR.s (pc' := 74) (lv' := [(9, .int z1127), (8, .int n5), (7, .ref K), (0, .ref 181)]) (st' := [.int z1127, .ref K]) (h' := gq3) _ hn_143 hk_143_72 rfl ?_
              refine AR.ld5e (n := 4) hk_143_74 hsz2 Agq3 (by omega) (by decide) ((Ygq3 4).trans rfl) ?_
              show AR _ _ _ _ _ _ _ 75 [(9, .int z1127), (8, .int n5), (7, .ref K), (0, .ref 181)] [.int y5] gq3 _ _
              refine AR.s (pc' := 77) (lv' := [(10, .int y5), (9, .int z1127), (8, .int n5), (7, .ref K), (0, .ref 181)]) (st' := []) (h' := gq3) _ hn_143 hk_143_75 rfl ?_
              refine AR.lessL (lv' := [(10, .int y5), (9, .int z1127), (8, .int n5), (7, .ref K), (0, .ref 181)]) (List.forall_mem_cons.mpr ⟨⟨_, by simp, ax_le_rfl rfl⟩, (List.forall_mem_cons.mpr ⟨⟨_, by simp, ax_le_rfl rfl⟩, (List.forall_mem_cons.mpr ⟨⟨_, by simp, ax_le_rfl rfl⟩, (List.forall_mem_cons.mpr ⟨⟨_, by simp, ax_le_rfl rfl⟩, (List.forall_mem_cons.mpr ⟨⟨_, by simp, ax_le_rfl rfl⟩, (fun _ h => absurd h List.not_mem_nil)⟩)⟩)⟩)⟩)⟩) ?_
              refine lp_b4 hK Hgq3 Igq3 Fgq3 Agq3 (by omega) (by omega) (fun gq4 Hgq4 Igq4 Fgq4 Agq4 s7gq4 s0gq4 dgq4 bgq4 => ?_)
              have Ygq4 : ∀ j : Nat, ty_fd gq4 K j = ([.int y1, .int y2, .int y3, .int y4, .int y5] : List Value)[j]? := fun j => (dgq4 j).trans (Ygq3 j)
              show AR _ _ _ _ _ _ _ 120 [(9, .int z1127), (8, .int n5), (7, .ref K), (0, .ref 181)] [] gq4 _ _
              refine AR.iincT hk_143_120 (x := z1127) rfl (by rw [hn_143]; decide) (by decide) (by omega) (by omega) (fun z1128 ez1128 => ?_)
              show AR _ _ _ _ _ _ _ 123 [(9, .int z1128), (8, .int n5), (7, .ref K), (0, .ref 181)] [] gq4 _ _
              refine AR.gotoT hk_143_123 (tgt := 63) (by decide) ?_
              refine AR.lessL (lv' := [(9, .int z1128), (8, .int n5), (7, .ref K), (0, .ref 181)]) (List.forall_mem_cons.mpr ⟨⟨_, by simp, ax_le_rfl rfl⟩, (List.forall_mem_cons.mpr ⟨⟨_, by simp, ax_le_rfl rfl⟩, (List.forall_mem_cons.mpr ⟨⟨_, by simp, ax_le_rfl rfl⟩, (List.forall_mem_cons.mpr ⟨⟨_, by simp, ax_le_rfl rfl⟩, (fun _ h => absurd h List.not_mem_nil)⟩)⟩)⟩)⟩) ?_
              refine AR.s (pc' := 65) (lv' := [(9, .int z1128), (8, .int n5), (7, .ref K), (0, .ref 181)]) (st' := [.int z1128]) (h' := gq4) _ hn_143 hk_143_63 rfl ?_
              refine AR.s (pc' := 67) (lv' := [(9, .int z1128), (8, .int n5), (7, .ref K), (0, .ref 181)]) (st' := [.int n5, .int z1128]) (h' := gq4) _ hn_143 hk_143_65 rfl ?_
              refine AR.jge hk_143_67 (tgt := 126) (by decide) (fun m5 => ?_) (fun n5 => ?_)
              · refine AR.s (pc' := 127) (lv' := [(9, .int z1128), (8, .int n5), (7, .ref K), (0, .ref 181)]) (st' := [.ref 181]) (h' := gq4) _ hn_143 hk_143_126 rfl ?_
                refine AR.gI hk_143_127 (by decide) Hgq4 (q := 181) (n := 32) (by decide) (by decide +kernel) (by decide +kernel) (by decide) hy_t181_7 (fun x1129 dx1129 lx1129 ux1129 => ?_)
                show AR _ _ _ _ _ _ _ 130 [(9, .int z1128), (8, .int n5), (7, .ref K), (0, .ref 181)] [.int x1129] gq4 _ _
                have sx1129 := hy_zi dx1129
                have M : hy_z gq4 185 = t_up5 (hy_z h 185) (hy_z h 181 7) y1 y2 y3 y4 y5 := by
                  unfold t_up5
                  rw [bgq4, bgq3, bgq2, bgq1, bgq0, Bb, show hy_z gq3 181 7 = hy_z h 181 7 + 16 from by omega, show hy_z gq2 181 7 = hy_z h 181 7 + 12 from by omega, show hy_z gq1 181 7 = hy_z h 181 7 + 8 from by omega, show hy_z gq0 181 7 = hy_z h 181 7 + 4 from by omega, show hy_z gb 181 7 = hy_z h 181 7 from by omega]
                exact AR.iret hk_143_130 hr_143 ⟨Hgq4, Fgq4, Igq4, _, rfl, Or.inr ⟨by omega, by omega, by omega, by omega, M⟩⟩
              · exact absurd n5 (by omega)
  · have B0 : hy_z g1111 185 = hy_z h 185 := t_kept Eg1111 (by decide) rfl
    refine AR.s (pc' := 19) (lv' := [(0, .ref 181), (1, .int y1), (2, .int y2), (3, .int y3), (4, .int y4), (5, .int y5)]) (st' := [.ref 181]) (h' := g1111) _ hn_143 hk_143_18 rfl ?_
    refine AR.iconstT hk_143_19 (by decide) (fun z1116 ez1116 => ?_)
    show AR _ _ _ _ _ _ _ 20 [(0, .ref 181), (1, .int y1), (2, .int y2), (3, .int y3), (4, .int y4), (5, .int y5)] [.int z1116, .ref 181] g1111 _ _
    refine AR.c9 (as := [.int z1116]) (rest := []) hk_143_20 Hg1111 (by decide +kernel) rfl rfl (Nat.le_of_ble_eq_true rfl) (hf_no hlst Hg1111 z1116) (by decide) (Nat.zero_le _) (Nat.zero_le _) (fun E h' q => by obtain ⟨-, -, -, z, e, -⟩ := q; cases e) ?_
    rintro w g9 q9
    obtain ⟨i9, F9, c9, -⟩ := lt_no q9 ig1111 Fg1111 (by decide +kernel)
    obtain ⟨H9, F8, t9, z9, e9, -⟩ := q9
    cases e9
    have b9 : hy_z g9 185 = hy_z g1111 185 := funext (hy_zA F8 (by decide +kernel) (by decide) (by decide +kernel) (by decide +kernel))
    show AR _ _ _ _ _ _ _ 23 [(0, .ref 181), (1, .int y1), (2, .int y2), (3, .int y3), (4, .int y4), (5, .int y5)] [.int z9] g9 _ _
    exact AR.iret hk_143_23 hr_143 ⟨H9, F9, i9, _, rfl, Or.inl ⟨by omega, by omega, by omega, b9.trans B0⟩⟩
theorem lp_144 (hlst : l.stackTraces = false) (hH : hy_H 0 h) (hi : hy_I h) : AM ax_ns l (ax_mm 144) 1 ty_R (0) (0) [.ref 181, .int x] h (hq_r3 h x) := by
  refine AM.of (ax_mfacts (by decide +kernel : ax_has 144 = true)).2.2.2.2.2.2 hlst (by rw [hn_144]; exact Nat.le_of_ble_eq_true rfl) ?_
  show AR ax_ns l (ax_mm 144) 1 ty_R _ _ 0 [(0, .ref 181), (1, .int x)] [] h (0) (0)
  have F : ty_F 1189814992754266079232 h h := ty_F_refl _ _
  refine AR.s (pc' := 1) (lv' := [(0, .ref 181), (1, .int x)]) (st' := [.ref 181]) (h' := h) _ hn_144 hk_144_0 rfl ?_
  refine AR.iconstT hk_144_1 (by decide) (fun z1130 ez1130 => ?_)
  show AR _ _ _ _ _ _ _ 2 [(0, .ref 181), (1, .int x)] [.int z1130, .ref 181] h _ _
  refine AR.pT hk_144_2 (by decide) hH F (q := 181) (by decide) (by decide +kernel) (show ax_cls[9]? = some hy_c9 from rfl) (by decide +kernel) (by decide) rfl (by rw [hy_t181_0]; exact ⟨_, rfl, by omega, by omega, Or.inl rfl⟩) (by decide +kernel) (by decide +kernel) ?_
  rintro g1131 ⟨Hg1131, Fg1131, Gg1131, Eg1131⟩
  show AR _ _ _ _ _ _ _ 5 [(0, .ref 181), (1, .int x)] [] g1131 _ _
  have ig1131 : hy_I g1131 := hi.st Gg1131 (by decide) Eg1131 (by decide +kernel)
  have ug1131_181_7 : hy_z g1131 181 7 = hy_z h 181 7 := hy_ze (by rw [Eg1131, if_neg (fun c => absurd c.2 (by decide))])
  have ug1131_181_0 : hy_z g1131 181 0 = z1130.toInt := hy_zi (i := z1130) (by rw [Eg1131, if_pos ⟨rfl, rfl⟩])
  refine AR.s (pc' := 6) (lv' := [(0, .ref 181), (1, .int x)]) (st' := [.int x]) (h' := g1131) _ hn_144 hk_144_5 rfl ?_
  refine AR.zlt hk_144_6 (tgt := 17) (by decide) (fun p1 => ?_) (fun p2 => ?_)
  · refine AR.s (pc' := 18) (lv' := [(0, .ref 181), (1, .int x)]) (st' := [.ref 181]) (h' := g1131) _ hn_144 hk_144_17 rfl ?_
    refine AR.iconstT hk_144_18 (by decide) (fun z1132 ez1132 => ?_)
    show AR _ _ _ _ _ _ _ 19 [(0, .ref 181), (1, .int x)] [.int z1132, .ref 181] g1131 _ _
    refine AR.c9 (as := [.int z1132]) (rest := []) hk_144_19 Hg1131 (by decide +kernel) rfl rfl (Nat.le_of_ble_eq_true rfl) (hf_no hlst Hg1131 z1132) (by decide) (Nat.zero_le _) (Nat.zero_le _) (fun E h' q => by obtain ⟨-, -, -, z, e, -⟩ := q; cases e) ?_
    rintro w g9 q9
    obtain ⟨i9, F9, c9, -⟩ := lt_no q9 ig1131 Fg1131 (by decide +kernel)
    obtain ⟨H9, F8, t9, z9, e9, -⟩ := q9
    cases e9
    have b9 : hy_z g9 185 = hy_z g1131 185 := funext (hy_zA F8 (by decide +kernel) (by decide) (by decide +kernel) (by decide +kernel))
    show AR _ _ _ _ _ _ _ 22 [(0, .ref 181), (1, .int x)] [.int z9] g9 _ _
    exact AR.iret hk_144_22 hr_144 ⟨H9, F9, i9, _, rfl, Or.inl ⟨fun c => absurd c.1 (by omega), by omega, by omega⟩⟩
  · refine AR.s (pc' := 10) (lv' := [(0, .ref 181), (1, .int x)]) (st' := [.int x]) (h' := g1131) _ hn_144 hk_144_9 rfl ?_
    refine AR.s (pc' := 11) (lv' := [(0, .ref 181), (1, .int x)]) (st' := [.ref 181, .int x]) (h' := g1131) _ hn_144 hk_144_10 rfl ?_
    refine AR.gI hk_144_11 (by decide) Hg1131 (q := 181) (n := 32) (by decide) (by decide +kernel) (by decide +kernel) (by decide) hy_t181_7 (fun x1133 dx1133 lx1133 ux1133 => ?_)
    show AR _ _ _ _ _ _ _ 14 [(0, .ref 181), (1, .int x)] [.int x1133, .int x] g1131 _ _
    have sx1133 := hy_zi dx1133
    refine AR.jle hk_144_14 (tgt := 23) (by decide) (fun p3 => ?_) (fun p4 => ?_)
    · refine AR.s (pc' := 24) (lv' := [(0, .ref 181), (1, .int x)]) (st' := [.ref 181]) (h' := g1131) _ hn_144 hk_144_23 rfl ?_
      refine AR.s (pc' := 25) (lv' := [(0, .ref 181), (1, .int x)]) (st' := [.int x, .ref 181]) (h' := g1131) _ hn_144 hk_144_24 rfl ?_
      refine AR.pT hk_144_25 (by decide) Hg1131 Fg1131 (q := 181) (by decide) (by decide +kernel) (show ax_cls[9]? = some hy_c9 from rfl) (by decide +kernel) (by decide) rfl (by rw [hy_t181_7]; exact ⟨_, rfl, by omega, by omega, Or.inl rfl⟩) (by decide +kernel) (by decide +kernel) ?_
      rintro g1135 ⟨Hg1135, Fg1135, Gg1135, Eg1135⟩
      show AR _ _ _ _ _ _ _ 28 [(0, .ref 181), (1, .int x)] [] g1135 _ _
      have ig1135 : hy_I g1135 := ig1131.st Gg1135 (by decide) Eg1135 (by decide +kernel)
      have ug1135_181_7 : hy_z g1135 181 7 = x.toInt := hy_zi (i := x) (by rw [Eg1135, if_pos ⟨rfl, rfl⟩])
      have ug1135_181_0 : hy_z g1135 181 0 = hy_z g1131 181 0 := hy_ze (by rw [Eg1135, if_neg (fun c => absurd c.2 (by decide))])
      refine AR.s (pc' := 29) (lv' := [(0, .ref 181), (1, .int x)]) (st' := [.int x]) (h' := g1135) _ hn_144 hk_144_28 rfl ?_
      exact AR.iret hk_144_29 hr_144 ⟨Hg1135, Fg1135, ig1135, _, rfl, Or.inr ⟨⟨by omega, by omega⟩, by omega, by omega, rfl⟩⟩
    · refine AR.s (pc' := 18) (lv' := [(0, .ref 181), (1, .int x)]) (st' := [.ref 181]) (h' := g1131) _ hn_144 hk_144_17 rfl ?_
      refine AR.iconstT hk_144_18 (by decide) (fun z1134 ez1134 => ?_)
      show AR _ _ _ _ _ _ _ 19 [(0, .ref 181), (1, .int x)] [.int z1134, .ref 181] g1131 _ _
      refine AR.c9 (as := [.int z1134]) (rest := []) hk_144_19 Hg1131 (by decide +kernel) rfl rfl (Nat.le_of_ble_eq_true rfl) (hf_no hlst Hg1131 z1134) (by decide) (Nat.zero_le _) (Nat.zero_le _) (fun E h' q => by obtain ⟨-, -, -, z, e, -⟩ := q; cases e) ?_
      rintro w g9 q9
      obtain ⟨i9, F9, c9, -⟩ := lt_no q9 ig1131 Fg1131 (by decide +kernel)
      obtain ⟨H9, F8, t9, z9, e9, -⟩ := q9
      cases e9
      have b9 : hy_z g9 185 = hy_z g1131 185 := funext (hy_zA F8 (by decide +kernel) (by decide) (by decide +kernel) (by decide +kernel))
      show AR _ _ _ _ _ _ _ 22 [(0, .ref 181), (1, .int x)] [.int z9] g9 _ _
      exact AR.iret hk_144_22 hr_144 ⟨H9, F9, i9, _, rfl, Or.inl ⟨fun c => absurd c.2 (by omega), by omega, by omega⟩⟩
end LPP
