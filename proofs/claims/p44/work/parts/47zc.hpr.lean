/-! BY HAND, 5: fill, propagate -/
theorem hn_192 : (ax_mm 192).2.2.1 = 6 := by decide +kernel
theorem hr_192 : (ax_mm 192).2.2.2.1 = some .boolean := by decide +kernel
theorem hk_192_0 : ax_look 192 0 = some (.aload_n 0, (0, 0, 0), .null, []) := by decide +kernel
theorem hk_192_1 : ax_look 192 1 = some (.iload_n 1, (0, 0, 0), .null, []) := by decide +kernel
theorem hk_192_2 : ax_look 192 2 = some (.aload_n 0, (0, 0, 0), .null, []) := by decide +kernel
theorem hk_192_3 : ax_look 192 3 = some (.getfield 43, (9, 23, 0), .null, [999999]) := by decide +kernel
theorem hk_192_6 : ax_look 192 6 = some (.invokevirtual 204, (170, 2, 9), .null, [999999, 999999]) := by decide +kernel
theorem hk_192_9 : ax_look 192 9 = some (.lstore_n 2, (0, 0, 0), .null, []) := by decide +kernel
theorem hk_192_10 : ax_look 192 10 = some (.iconst 0, (0, 0, 0), .null, []) := by decide +kernel
theorem hk_192_11 : ax_look 192 11 = some (.istore 4, (0, 0, 0), .null, []) := by decide +kernel
theorem hk_192_13 : ax_look 192 13 = some (.iconst 0, (0, 0, 0), .null, []) := by decide +kernel
theorem hk_192_14 : ax_look 192 14 = some (.istore 5, (0, 0, 0), .null, []) := by decide +kernel
theorem hk_192_16 : ax_look 192 16 = some (.iload 5, (0, 0, 0), .null, []) := by decide +kernel
theorem hk_192_18 : ax_look 192 18 = some (.bipush 24, (0, 0, 0), .null, []) := by decide +kernel
theorem hk_192_20 : ax_look 192 20 = some (.if_icmp .ge 54, (0, 0, 0), .null, []) := by decide +kernel
theorem hk_192_23 : ax_look 192 23 = some (.aload_n 0, (0, 0, 0), .null, []) := by decide +kernel
theorem hk_192_24 : ax_look 192 24 = some (.getfield 43, (9, 23, 0), .null, [999999]) := by decide +kernel
theorem hk_192_27 : ax_look 192 27 = some (.iload 5, (0, 0, 0), .null, []) := by decide +kernel
theorem hk_192_29 : ax_look 192 29 = some (.iconst 2, (0, 0, 0), .null, []) := by decide +kernel
theorem hk_192_30 : ax_look 192 30 = some (.idiv, (0, 0, 0), .null, []) := by decide +kernel
theorem hk_192_31 : ax_look 192 31 = some (.iaload, (0, 0, 0), .null, []) := by decide +kernel
theorem hk_192_32 : ax_look 192 32 = some (.ifCond .ge 36, (0, 0, 0), .null, []) := by decide +kernel
theorem hk_192_35 : ax_look 192 35 = some (.aload_n 0, (0, 0, 0), .null, []) := by decide +kernel
theorem hk_192_36 : ax_look 192 36 = some (.iload_n 1, (0, 0, 0), .null, []) := by decide +kernel
theorem hk_192_37 : ax_look 192 37 = some (.iload 5, (0, 0, 0), .null, []) := by decide +kernel
theorem hk_192_39 : ax_look 192 39 = some (.invokevirtual 71, (136, 2, 9), .null, [999999, 999999]) := by decide +kernel
theorem hk_192_42 : ax_look 192 42 = some (.lload_n 2, (0, 0, 0), .null, []) := by decide +kernel
theorem hk_192_43 : ax_look 192 43 = some (.lcmp, (0, 0, 0), .null, []) := by decide +kernel
theorem hk_192_44 : ax_look 192 44 = some (.ifCond .gt 6, (0, 0, 0), .null, []) := by decide +kernel
theorem hk_192_47 : ax_look 192 47 = some (.goto 21, (0, 0, 0), .null, []) := by decide +kernel
theorem hk_192_50 : ax_look 192 50 = some (.aload_n 0, (0, 0, 0), .null, []) := by decide +kernel
theorem hk_192_51 : ax_look 192 51 = some (.getfield 43, (9, 23, 0), .null, [999999]) := by decide +kernel
theorem hk_192_54 : ax_look 192 54 = some (.iload 5, (0, 0, 0), .null, []) := by decide +kernel
theorem hk_192_56 : ax_look 192 56 = some (.iconst 2, (0, 0, 0), .null, []) := by decide +kernel
theorem hk_192_57 : ax_look 192 57 = some (.idiv, (0, 0, 0), .null, []) := by decide +kernel
theorem hk_192_58 : ax_look 192 58 = some (.iconst 1, (0, 0, 0), .null, []) := by decide +kernel
theorem hk_192_59 : ax_look 192 59 = some (.iload 5, (0, 0, 0), .null, []) := by decide +kernel
theorem hk_192_61 : ax_look 192 61 = some (.iconst 2, (0, 0, 0), .null, []) := by decide +kernel
theorem hk_192_62 : ax_look 192 62 = some (.irem, (0, 0, 0), .null, []) := by decide +kernel
theorem hk_192_63 : ax_look 192 63 = some (.isub, (0, 0, 0), .null, []) := by decide +kernel
theorem hk_192_64 : ax_look 192 64 = some (.iastore, (0, 0, 0), .null, []) := by decide +kernel
theorem hk_192_65 : ax_look 192 65 = some (.iconst 1, (0, 0, 0), .null, []) := by decide +kernel
theorem hk_192_66 : ax_look 192 66 = some (.istore 4, (0, 0, 0), .null, []) := by decide +kernel
theorem hk_192_68 : ax_look 192 68 = some (.iinc 5 1, (0, 0, 0), .null, []) := by decide +kernel
theorem hk_192_71 : ax_look 192 71 = some (.goto (-55), (0, 0, 0), .null, []) := by decide +kernel
theorem hk_192_74 : ax_look 192 74 = some (.iload 4, (0, 0, 0), .null, []) := by decide +kernel
theorem hk_192_76 : ax_look 192 76 = some (.ireturn, (0, 0, 0), .null, []) := by decide +kernel
theorem hn_191 : (ax_mm 191).2.2.1 = 3 := by decide +kernel
theorem hr_191 : (ax_mm 191).2.2.2.1 = none := by decide +kernel
theorem hk_191_0 : ax_look 191 0 = some (.iconst 0, (0, 0, 0), .null, []) := by decide +kernel
theorem hk_191_1 : ax_look 191 1 = some (.istore_n 1, (0, 0, 0), .null, []) := by decide +kernel
theorem hk_191_2 : ax_look 191 2 = some (.iload_n 1, (0, 0, 0), .null, []) := by decide +kernel
theorem hk_191_3 : ax_look 191 3 = some (.bipush 12, (0, 0, 0), .null, []) := by decide +kernel
theorem hk_191_5 : ax_look 191 5 = some (.if_icmp .ge 16, (0, 0, 0), .null, []) := by decide +kernel
theorem hk_191_8 : ax_look 191 8 = some (.aload_n 0, (0, 0, 0), .null, []) := by decide +kernel
theorem hk_191_9 : ax_look 191 9 = some (.getfield 43, (9, 23, 0), .null, [999999]) := by decide +kernel
theorem hk_191_12 : ax_look 191 12 = some (.iload_n 1, (0, 0, 0), .null, []) := by decide +kernel
theorem hk_191_13 : ax_look 191 13 = some (.iconst (-1), (0, 0, 0), .null, []) := by decide +kernel
theorem hk_191_14 : ax_look 191 14 = some (.iastore, (0, 0, 0), .null, []) := by decide +kernel
theorem hk_191_15 : ax_look 191 15 = some (.iinc 1 1, (0, 0, 0), .null, []) := by decide +kernel
theorem hk_191_18 : ax_look 191 18 = some (.goto (-16), (0, 0, 0), .null, []) := by decide +kernel
theorem hk_191_21 : ax_look 191 21 = some (.iconst 0, (0, 0, 0), .null, []) := by decide +kernel
theorem hk_191_22 : ax_look 191 22 = some (.istore_n 1, (0, 0, 0), .null, []) := by decide +kernel
theorem hk_191_23 : ax_look 191 23 = some (.iload_n 1, (0, 0, 0), .null, []) := by decide +kernel
theorem hk_191_24 : ax_look 191 24 = some (.aload_n 0, (0, 0, 0), .null, []) := by decide +kernel
theorem hk_191_25 : ax_look 191 25 = some (.getfield 244, (9, 21, 0), .null, [999999]) := by decide +kernel
theorem hk_191_28 : ax_look 191 28 = some (.if_icmp .ge 32, (0, 0, 0), .null, []) := by decide +kernel
theorem hk_191_31 : ax_look 191 31 = some (.aload_n 0, (0, 0, 0), .null, []) := by decide +kernel
theorem hk_191_32 : ax_look 191 32 = some (.getfield 43, (9, 23, 0), .null, [999999]) := by decide +kernel
theorem hk_191_35 : ax_look 191 35 = some (.aload_n 0, (0, 0, 0), .null, []) := by decide +kernel
theorem hk_191_36 : ax_look 191 36 = some (.getfield 40, (9, 22, 0), .null, [999999]) := by decide +kernel
theorem hk_191_39 : ax_look 191 39 = some (.iload_n 1, (0, 0, 0), .null, []) := by decide +kernel
theorem hk_191_40 : ax_look 191 40 = some (.iaload, (0, 0, 0), .null, []) := by decide +kernel
theorem hk_191_41 : ax_look 191 41 = some (.iconst 2, (0, 0, 0), .null, []) := by decide +kernel
theorem hk_191_42 : ax_look 191 42 = some (.idiv, (0, 0, 0), .null, []) := by decide +kernel
theorem hk_191_43 : ax_look 191 43 = some (.iconst 1, (0, 0, 0), .null, []) := by decide +kernel
theorem hk_191_44 : ax_look 191 44 = some (.aload_n 0, (0, 0, 0), .null, []) := by decide +kernel
theorem hk_191_45 : ax_look 191 45 = some (.getfield 40, (9, 22, 0), .null, [999999]) := by decide +kernel
theorem hk_191_48 : ax_look 191 48 = some (.iload_n 1, (0, 0, 0), .null, []) := by decide +kernel
theorem hk_191_49 : ax_look 191 49 = some (.iaload, (0, 0, 0), .null, []) := by decide +kernel
theorem hk_191_50 : ax_look 191 50 = some (.iconst 2, (0, 0, 0), .null, []) := by decide +kernel
theorem hk_191_51 : ax_look 191 51 = some (.irem, (0, 0, 0), .null, []) := by decide +kernel
theorem hk_191_52 : ax_look 191 52 = some (.isub, (0, 0, 0), .null, []) := by decide +kernel
theorem hk_191_53 : ax_look 191 53 = some (.iastore, (0, 0, 0), .null, []) := by decide +kernel
theorem hk_191_54 : ax_look 191 54 = some (.iinc 1 1, (0, 0, 0), .null, []) := by decide +kernel
theorem hk_191_57 : ax_look 191 57 = some (.goto (-34), (0, 0, 0), .null, []) := by decide +kernel
theorem hk_191_60 : ax_look 191 60 = some (.aload_n 0, (0, 0, 0), .null, []) := by decide +kernel
theorem hk_191_61 : ax_look 191 61 = some (.iconst 0, (0, 0, 0), .null, []) := by decide +kernel
theorem hk_191_62 : ax_look 191 62 = some (.putfield 247, (9, 24, 0), .null, [999999]) := by decide +kernel
theorem hk_191_65 : ax_look 191 65 = some (.iconst 1, (0, 0, 0), .null, []) := by decide +kernel
theorem hk_191_66 : ax_look 191 66 = some (.istore_n 1, (0, 0, 0), .null, []) := by decide +kernel
theorem hk_191_67 : ax_look 191 67 = some (.iload_n 1, (0, 0, 0), .null, []) := by decide +kernel
theorem hk_191_68 : ax_look 191 68 = some (.ifCond .eq 84, (0, 0, 0), .null, []) := by decide +kernel
theorem hk_191_71 : ax_look 191 71 = some (.aload_n 0, (0, 0, 0), .null, []) := by decide +kernel
theorem hk_191_72 : ax_look 191 72 = some (.getfield 247, (9, 24, 0), .null, [999999]) := by decide +kernel
theorem hk_191_75 : ax_look 191 75 = some (.ifCond .ne 77, (0, 0, 0), .null, []) := by decide +kernel
theorem hk_191_78 : ax_look 191 78 = some (.iconst 0, (0, 0, 0), .null, []) := by decide +kernel
theorem hk_191_79 : ax_look 191 79 = some (.istore_n 1, (0, 0, 0), .null, []) := by decide +kernel
theorem hk_191_80 : ax_look 191 80 = some (.iconst 0, (0, 0, 0), .null, []) := by decide +kernel
theorem hk_191_81 : ax_look 191 81 = some (.istore_n 2, (0, 0, 0), .null, []) := by decide +kernel
theorem hk_191_82 : ax_look 191 82 = some (.iload_n 2, (0, 0, 0), .null, []) := by decide +kernel
theorem hk_191_83 : ax_look 191 83 = some (.aload_n 0, (0, 0, 0), .null, []) := by decide +kernel
theorem hk_191_84 : ax_look 191 84 = some (.getfield 64, (9, 1, 0), .null, [999999]) := by decide +kernel
theorem hk_191_87 : ax_look 191 87 = some (.if_icmp .ge 62, (0, 0, 0), .null, []) := by decide +kernel
theorem hk_191_90 : ax_look 191 90 = some (.aload_n 0, (0, 0, 0), .null, []) := by decide +kernel
theorem hk_191_91 : ax_look 191 91 = some (.getfield 247, (9, 24, 0), .null, [999999]) := by decide +kernel
theorem hk_191_94 : ax_look 191 94 = some (.ifCond .ne 55, (0, 0, 0), .null, []) := by decide +kernel
theorem hk_191_97 : ax_look 191 97 = some (.aload_n 0, (0, 0, 0), .null, []) := by decide +kernel
theorem hk_191_98 : ax_look 191 98 = some (.aload_n 0, (0, 0, 0), .null, []) := by decide +kernel
theorem hk_191_99 : ax_look 191 99 = some (.iload_n 2, (0, 0, 0), .null, []) := by decide +kernel
theorem hk_191_100 : ax_look 191 100 = some (.aload_n 0, (0, 0, 0), .null, []) := by decide +kernel
theorem hk_191_101 : ax_look 191 101 = some (.getfield 43, (9, 23, 0), .null, [999999]) := by decide +kernel
theorem hk_191_104 : ax_look 191 104 = some (.invokevirtual 204, (170, 2, 9), .null, [999999, 999999]) := by decide +kernel
theorem hk_191_107 : ax_look 191 107 = some (.lconst 0, (0, 0, 0), .null, []) := by decide +kernel
theorem hk_191_108 : ax_look 191 108 = some (.lcmp, (0, 0, 0), .null, []) := by decide +kernel
theorem hk_191_109 : ax_look 191 109 = some (.ifCond .ge 7, (0, 0, 0), .null, []) := by decide +kernel
theorem hk_191_112 : ax_look 191 112 = some (.iconst 1, (0, 0, 0), .null, []) := by decide +kernel
theorem hk_191_113 : ax_look 191 113 = some (.goto 4, (0, 0, 0), .null, []) := by decide +kernel
theorem hk_191_116 : ax_look 191 116 = some (.iconst 0, (0, 0, 0), .null, []) := by decide +kernel
theorem hk_191_117 : ax_look 191 117 = some (.putfield 247, (9, 24, 0), .null, [999999]) := by decide +kernel
theorem hk_191_120 : ax_look 191 120 = some (.iload_n 1, (0, 0, 0), .null, []) := by decide +kernel
theorem hk_191_121 : ax_look 191 121 = some (.aload_n 0, (0, 0, 0), .null, []) := by decide +kernel
theorem hk_191_122 : ax_look 191 122 = some (.getfield 247, (9, 24, 0), .null, [999999]) := by decide +kernel
theorem hk_191_125 : ax_look 191 125 = some (.ifCond .ne 15, (0, 0, 0), .null, []) := by decide +kernel
theorem hk_191_128 : ax_look 191 128 = some (.aload_n 0, (0, 0, 0), .null, []) := by decide +kernel
theorem hk_191_129 : ax_look 191 129 = some (.iload_n 2, (0, 0, 0), .null, []) := by decide +kernel
theorem hk_191_130 : ax_look 191 130 = some (.invokevirtual 250, (192, 1, 9), .null, [999999, 999999]) := by decide +kernel
theorem hk_191_133 : ax_look 191 133 = some (.ifCond .eq 7, (0, 0, 0), .null, []) := by decide +kernel
theorem hk_191_136 : ax_look 191 136 = some (.iconst 1, (0, 0, 0), .null, []) := by decide +kernel
theorem hk_191_137 : ax_look 191 137 = some (.goto 4, (0, 0, 0), .null, []) := by decide +kernel
theorem hk_191_140 : ax_look 191 140 = some (.iconst 0, (0, 0, 0), .null, []) := by decide +kernel
theorem hk_191_141 : ax_look 191 141 = some (.ior, (0, 0, 0), .null, []) := by decide +kernel
theorem hk_191_142 : ax_look 191 142 = some (.istore_n 1, (0, 0, 0), .null, []) := by decide +kernel
theorem hk_191_143 : ax_look 191 143 = some (.iinc 2 1, (0, 0, 0), .null, []) := by decide +kernel
theorem hk_191_146 : ax_look 191 146 = some (.goto (-64), (0, 0, 0), .null, []) := by decide +kernel
theorem hk_191_149 : ax_look 191 149 = some (.goto (-82), (0, 0, 0), .null, []) := by decide +kernel
theorem hk_191_152 : ax_look 191 152 = some (.iconst 0, (0, 0, 0), .null, []) := by decide +kernel
theorem hk_191_153 : ax_look 191 153 = some (.istore_n 2, (0, 0, 0), .null, []) := by decide +kernel
theorem hk_191_154 : ax_look 191 154 = some (.iload_n 2, (0, 0, 0), .null, []) := by decide +kernel
theorem hk_191_155 : ax_look 191 155 = some (.bipush 12, (0, 0, 0), .null, []) := by decide +kernel
theorem hk_191_157 : ax_look 191 157 = some (.if_icmp .ge 23, (0, 0, 0), .null, []) := by decide +kernel
theorem hk_191_160 : ax_look 191 160 = some (.aload_n 0, (0, 0, 0), .null, []) := by decide +kernel
theorem hk_191_161 : ax_look 191 161 = some (.getfield 247, (9, 24, 0), .null, [999999]) := by decide +kernel
theorem hk_191_164 : ax_look 191 164 = some (.ifCond .eq 16, (0, 0, 0), .null, []) := by decide +kernel
theorem hk_191_167 : ax_look 191 167 = some (.aload_n 0, (0, 0, 0), .null, []) := by decide +kernel
theorem hk_191_168 : ax_look 191 168 = some (.getfield 43, (9, 23, 0), .null, [999999]) := by decide +kernel
theorem hk_191_171 : ax_look 191 171 = some (.iload_n 2, (0, 0, 0), .null, []) := by decide +kernel
theorem hk_191_172 : ax_look 191 172 = some (.iconst (-1), (0, 0, 0), .null, []) := by decide +kernel
theorem hk_191_173 : ax_look 191 173 = some (.iastore, (0, 0, 0), .null, []) := by decide +kernel
theorem hk_191_174 : ax_look 191 174 = some (.iinc 2 1, (0, 0, 0), .null, []) := by decide +kernel
theorem hk_191_177 : ax_look 191 177 = some (.goto (-23), (0, 0, 0), .null, []) := by decide +kernel
theorem hk_191_180 : ax_look 191 180 = some (.return_, (0, 0, 0), .null, []) := by decide +kernel
theorem hy_t181_23 : ty_tt 181 23 = (2, 191, 0, 0, 0) := by decide +kernel
theorem hy_t191_0 : ty_tt 191 0 = (0, 0, 0, (-1), 1) := by decide +kernel
theorem hy_t190_0 : ty_tt 190 0 = (0, 0, 0, 0, 23) := by decide +kernel
theorem hy_t181_21 : ty_tt 181 21 = (0, 0, 0, 0, 12) := by decide +kernel
theorem hy_t181_24 : ty_tt 181 24 = (0, 0, 0, 0, 1) := by decide +kernel
theorem hy_t181_1 : ty_tt 181 1 = (0, 0, 0, 0, 60) := by decide +kernel
theorem hy_t181_22 : ty_tt 181 22 = (2, 190, 0, 0, 0) := by decide +kernel
theorem hy_zput {g g' : ax_H} {q j : Nat} {x : Int32} (E : ∀ q' j', ty_fd g' q' j' = if q' = q ∧ j' = j then some (.int x) else ty_fd g q' j') (q' j' : Nat) : hy_z g' q' j' = if q' = q ∧ j' = j then x.toInt else hy_z g q' j' := by
  by_cases e : q' = q ∧ j' = j
  · rw [if_pos e]
    exact hy_zi (by rw [E, if_pos e])
  · rw [if_neg e]
    exact hy_ze (by rw [E, if_neg e])
theorem hy_zputl {g g' : ax_H} {q j : Nat} {x : Int64} (E : ∀ q' j', ty_fd g' q' j' = if q' = q ∧ j' = j then some (.long x) else ty_fd g q' j') (q' j' : Nat) : hy_z g' q' j' = if q' = q ∧ j' = j then x.toInt else hy_z g q' j' := by
  by_cases e : q' = q ∧ j' = j
  · rw [if_pos e]
    exact hy_zl (by rw [E, if_pos e])
  · rw [if_neg e]
    exact hy_ze (by rw [E, if_neg e])
/-- keyed cells that W leaves -/
theorem hy_zF {W : Nat} {g g' : ax_H} (F : ty_F W g g') {q : Nat} (j : Nat) (hq : q < 198) (hk : (ty_tab q).2.2.1 ≠ 0) (hw : W.testBit (ty_ky q j) = false) : hy_z g' q j = hy_z g q j := hy_ze (F.2.1 q j hq hk hw)
theorem hy_kA {W q : Nat} (ha : ty_ar q = true) (hw : W.testBit (ty_ky q 0) = false) (j : Nat) : W.testBit (ty_ky q j) = false := by
  unfold ty_ky at hw ⊢
  rw [ha] at hw ⊢
  exact hw
theorem AR.orT {l : Launch} {d i pc : Nat} {P : ax_P} {X : ax_PX} {lv : List (Nat × Value)} {st : List Value} {h : ax_H} {bc bs : Nat} {x y : Int32} {v : Value} {ws : List Nat} {w : Nat × Nat × Nat} (hl : ax_look i pc = some (.ior, w, v, ws)) (hx : x.toInt = 0 ∨ x.toInt = 1) (hy : y.toInt = 0 ∨ y.toInt = 1) (k : ∀ z : Int32, (z.toInt = 0 ∨ z.toInt = 1) ∧ (z.toInt = 1 ↔ (x.toInt = 1 ∨ y.toInt = 1)) → AR ax_ns l (ax_mm i) d ty_R P X (pc + 1) lv (.int z :: st) h bc bs) : AR ax_ns l (ax_mm i) d ty_R P X pc lv (.int y :: .int x :: st) h bc bs := by
  refine AR.s _ rfl hl rfl (k (x ||| y) ?_)
  have ex : x = 0 ∨ x = 1 := hx.imp (fun e => Int32.toInt_inj.mp (by rw [e]; rfl)) (fun e => Int32.toInt_inj.mp (by rw [e]; rfl))
  have ey : y = 0 ∨ y = 1 := hy.imp (fun e => Int32.toInt_inj.mp (by rw [e]; rfl)) (fun e => Int32.toInt_inj.mp (by rw [e]; rfl))
  rcases ex with rfl | rfl <;> rcases ey with rfl | rfl <;> decide
theorem hy_T : ty_Ik (fun _ => True) := fun _ _ _ _ _ => trivial
noncomputable def ck_444 : ty_Ct := (136, 0, 0, 0, 0, [(2, 181, 0, 0, 0), (0, 0, 0, 0, 59), (0, 0, 0, 0, 23)], [], [(.inl (some (1, 0, 0, (-9223372036854775808), 9999999999)), [])])
noncomputable def ck_1108 : ty_Ct := (170, 1, 0, 0, 0, [(2, 181, 0, 0, 0), (0, 0, 0, 0, 59), (2, 191, 0, 0, 0)], [], [(.inl (some (1, 0, 0, (-9223372036854775808), 9223372036854775807)), [])])
noncomputable def cu_1108 : List ty_Cu := [(11, [(0, (2, 181, 0, 0, 0)), (1, (0, 0, 0, 0, 59)), (2, (2, 191, 0, 0, 0)), (3, (1, 0, 0, (-9223372036854775808), 9223372036854775807)), (5, (0, 0, 0, 0, 24))], [], 0, 0, 0, 1, [(0, 5, 0, true)])]
theorem ck_444_ok {I : ax_H → Prop} {l : Launch} (hI : ty_Ik I) (hp : ty_pkM l) (hlst : l.stackTraces = false) : ty_M I l ck_444 := ty_ckC_ok (c := ck_444) hI hp hlst 0 [] [] [] 1 (by decide +kernel) ty_c0
theorem ck_1108_ok {I : ax_H → Prop} {l : Launch} (hI : ty_Ik I) (hp : ty_pkM l) (hlst : l.stackTraces = false) : ty_M I l ck_1108 := ty_ckC_ok (c := ck_1108) hI hp hlst 0 [ck_444] [11] cu_1108 2 (by decide +kernel) (ty_cc (ck_444_ok hI hp hlst) ty_c0)
section HM2
variable {l : Launch} {K : Int} {h h0 g : ax_H} {c y : Int32} {cn yn : Nat}
theorem AR.slk {d i pc ix : Nat} {P : ax_P} {X : ax_PX} {lv : List (Nat × Value)} {rest : List Value} {bc bs : Nat} {v : Value} {ws : List Nat} (hp : ty_pkM l) (hlst : l.stackTraces = false) (hl : ax_look i pc = some (.invokevirtual ix, (170, 2, 9), v, ws)) (hH : hy_H K h) (hc0 : 0 ≤ c.toInt) (hc1 : c.toInt ≤ 59) (hcat : (rest.map fun v => v.category).sum ≤ 8) (hd : 2 ≤ d)
    (k : ∀ (x : Int64) (g : ax_H), hy_H K g → ty_F 0 h g → AR ax_ns l (ax_mm i) d ty_R P X (pc + 3) lv (.long x :: rest) g bc bs) : AR ax_ns l (ax_mm i) d ty_R P X pc lv (.ref 191 :: .int c :: .ref 181 :: rest) h bc bs := by
  have hM := ck_1108_ok hy_T hp hlst K h [.ref 181, .int c, .ref 191] ⟨_, _, rfl, rfl, _, _, rfl, ⟨c, rfl, hc0, hc1, Or.inl rfl⟩, _, _, rfl, rfl, rfl⟩ hH trivial
  refine AR.c9 (as := [.int c, .ref 191]) (rest := rest) hl hH (by decide +kernel) rfl rfl hcat hM hd (Nat.zero_le _) (Nat.zero_le _) (fun E h' q => ?_) (fun x g q => ?_)
  · obtain ⟨-, -, e, he, hr, -⟩ := q
    cases List.mem_singleton.mp he
    exact hr
  · obtain ⟨F, -, e, he, hr, hH'⟩ := q
    cases List.mem_singleton.mp he
    cases x with
    | none => exact hr.elim
    | some x =>
      obtain ⟨y, rfl, -⟩ := hr
      exact k y g hH' F
/-- values only come, none goes -/
def hy_mo (h g : ax_H) : Prop := ∀ v : Nat, v < 12 → 0 ≤ hy_z h 191 v → 0 ≤ hy_z g 191 v
def hy_nw (h g : ax_H) : Prop := ∃ v : Nat, v < 12 ∧ hy_z h 191 v < 0 ∧ 0 ≤ hy_z g 191 v
abbrev hy_W1 : Nat := 2 ^ 104
def hq_fill (K : Int) (h0 : ax_H) : ax_Q := fun res g => hy_H K g ∧ ty_F hy_W1 h0 g ∧ hy_mo h0 g ∧ ∃ x : Int32, res = .inl (some (.int x)) ∧ (x.toInt = 0 ∨ x.toInt = 1) ∧ (x.toInt = 1 → hy_nw h0 g)
theorem hf_fillL (hlst : l.stackTraces = false) {X : ax_PX} (hc : c.toInt = (cn : Nat)) (hc1 : cn < 60) (sl : Int64) : ∀ (m t : Nat) (h : ax_H) (y sm : Int32), t + m = 24 → y.toInt = (t : Nat) → hy_H K h → ty_F hy_W1 h0 h → hy_mo h0 h → (sm.toInt = 0 ∨ sm.toInt = 1) → (sm.toInt = 1 → hy_nw h0 h) → AR ax_ns l (ax_mm 192) 2 ty_R (ax_ret ax_ns (ax_mm 192) (hq_fill K h0)) X 16 [(5, .int y), (4, .int sm), (2, .long sl), (0, .ref 181), (1, .int c)] [] h 0 0 := by
  intro m
  induction m with
  | zero =>
    intro t h y sm ht hy hH F hmo hs1 hs2
    refine AR.s (pc' := 18) (lv' := [(5, .int y), (4, .int sm), (2, .long sl), (0, .ref 181), (1, .int c)]) (st' := [.int y]) (h' := h) _ hn_192 hk_192_16 rfl ?_
    refine AR.bipushT hk_192_18 (by decide) (fun z1 ez1 => ?_)
    show AR _ _ _ _ _ _ _ 20 [(5, .int y), (4, .int sm), (2, .long sl), (0, .ref 181), (1, .int c)] [.int z1, .int y] h _ _
    refine AR.jge hk_192_20 (tgt := 74) (by decide) (fun j1 => ?_) (fun j2 => ?_)
    · refine AR.s (pc' := 76) (lv' := [(5, .int y), (4, .int sm), (2, .long sl), (0, .ref 181), (1, .int c)]) (st' := [.int sm]) (h' := h) _ hn_192 hk_192_74 rfl ?_
      exact AR.zret hk_192_76 hr_192 hs1 ⟨hH, F, hmo, sm, rfl, hs1, hs2⟩
    · exact absurd j2 (by omega)
  | succ m ih =>
    intro t h y sm ht hy hH F hmo hs1 hs2
    refine AR.s (pc' := 18) (lv' := [(5, .int y), (4, .int sm), (2, .long sl), (0, .ref 181), (1, .int c)]) (st' := [.int y]) (h' := h) _ hn_192 hk_192_16 rfl ?_
    refine AR.bipushT hk_192_18 (by decide) (fun z2 ez2 => ?_)
    show AR _ _ _ _ _ _ _ 20 [(5, .int y), (4, .int sm), (2, .long sl), (0, .ref 181), (1, .int c)] [.int z2, .int y] h _ _
    refine AR.jge hk_192_20 (tgt := 74) (by decide) (fun j1 => ?_) (fun j2 => ?_)
    · exact absurd j1 (by omega)
    · refine AR.s (pc' := 24) (lv' := [(5, .int y), (4, .int sm), (2, .long sl), (0, .ref 181), (1, .int c)]) (st' := [.ref 181]) (h' := h) _ hn_192 hk_192_23 rfl ?_
      refine AR.gR hk_192_24 (by decide) hH (q := 181) (n := 32) (by decide) (by decide +kernel) (by decide +kernel) (by decide) hy_t181_23 ?_
      show AR _ _ _ _ _ _ _ 27 [(5, .int y), (4, .int sm), (2, .long sl), (0, .ref 181), (1, .int c)] [.ref 191] h _ _
      refine AR.s (pc' := 29) (lv' := [(5, .int y), (4, .int sm), (2, .long sl), (0, .ref 181), (1, .int c)]) (st' := [.int y, .ref 191]) (h' := h) _ hn_192 hk_192_27 rfl ?_
      refine AR.iconstT hk_192_29 (by decide) (fun z3 ez3 => ?_)
      show AR _ _ _ _ _ _ _ 30 [(5, .int y), (4, .int sm), (2, .long sl), (0, .ref 181), (1, .int c)] [.int z3, .int y, .ref 191] h _ _
      refine AR.halfT hk_192_30 ez3 (by omega) (fun z4 ez4 => ?_)
      show AR _ _ _ _ _ _ _ 31 [(5, .int y), (4, .int sm), (2, .long sl), (0, .ref 181), (1, .int c)] [.int z4, .ref 191] h _ _
      refine AR.iaI hk_192_31 hH (q := 191) (n := 12) (by decide) (by decide +kernel) (by decide +kernel) (by decide +kernel) hy_t191_0 (by omega) (by omega) (fun x5 dx5 lx5 ux5 => ?_)
      show AR _ _ _ _ _ _ _ 32 [(5, .int y), (4, .int sm), (2, .long sl), (0, .ref 181), (1, .int c)] [.int x5] h _ _
      refine AR.zge hk_192_32 (tgt := 68) (by decide) (fun q1 => ?_) (fun q2 => ?_)
      · refine AR.iincT hk_192_68 (x := y) rfl (by rw [hn_192]; decide) (by decide) (by omega) (by omega) (fun z6 ez6 => ?_)
        show AR _ _ _ _ _ _ _ 71 [(5, .int z6), (4, .int sm), (2, .long sl), (0, .ref 181), (1, .int c)] [] h _ _
        refine AR.gotoT hk_192_71 (tgt := 16) (by decide) ?_
        exact ih (t + 1) h z6 sm (by omega) (by omega) hH F hmo hs1 hs2
      · refine AR.s (pc' := 36) (lv' := [(5, .int y), (4, .int sm), (2, .long sl), (0, .ref 181), (1, .int c)]) (st' := [.ref 181]) (h' := h) _ hn_192 hk_192_35 rfl ?_
        refine AR.s (pc' := 37) (lv' := [(5, .int y), (4, .int sm), (2, .long sl), (0, .ref 181), (1, .int c)]) (st' := [.int c, .ref 181]) (h' := h) _ hn_192 hk_192_36 rfl ?_
        refine AR.s (pc' := 39) (lv' := [(5, .int y), (4, .int sm), (2, .long sl), (0, .ref 181), (1, .int c)]) (st' := [.int y, .int c, .ref 181]) (h' := h) _ hn_192 hk_192_37 rfl ?_
        refine AR.c9 (as := [.int c, .int y]) (rest := []) hk_192_39 hH (by decide +kernel) rfl rfl (Nat.le_of_ble_eq_true rfl) (hf_of hlst hH hc hc1 hy (yn := t) (by omega)) (by decide) (Nat.le_refl _) (Nat.le_refl _) (fun E h' q => by obtain ⟨-, x, e, -⟩ := q; cases e) ?_
        rintro w h' ⟨rfl, x, e, hx⟩
        cases e
        show AR _ _ _ _ _ _ _ 42 [(5, .int y), (4, .int sm), (2, .long sl), (0, .ref 181), (1, .int c)] [.long x] h' _ _
        refine AR.s (pc' := 43) (lv' := [(5, .int y), (4, .int sm), (2, .long sl), (0, .ref 181), (1, .int c)]) (st' := [.long sl, .long x]) (h' := h') _ hn_192 hk_192_42 rfl ?_
        refine AR.lcmpT hk_192_43 (fun w9 c9 => ?_)
        show AR _ _ _ _ _ _ _ 44 [(5, .int y), (4, .int sm), (2, .long sl), (0, .ref 181), (1, .int c)] [.int w9] h' _ _
        refine AR.zgt hk_192_44 (tgt := 50) (by decide) (fun r1 => ?_) (fun r2 => ?_)
        · refine AR.s (pc' := 51) (lv' := [(5, .int y), (4, .int sm), (2, .long sl), (0, .ref 181), (1, .int c)]) (st' := [.ref 181]) (h' := h') _ hn_192 hk_192_50 rfl ?_
          refine AR.gR hk_192_51 (by decide) hH (q := 181) (n := 32) (by decide) (by decide +kernel) (by decide +kernel) (by decide) hy_t181_23 ?_
          show AR _ _ _ _ _ _ _ 54 [(5, .int y), (4, .int sm), (2, .long sl), (0, .ref 181), (1, .int c)] [.ref 191] h' _ _
          refine AR.s (pc' := 56) (lv' := [(5, .int y), (4, .int sm), (2, .long sl), (0, .ref 181), (1, .int c)]) (st' := [.int y, .ref 191]) (h' := h') _ hn_192 hk_192_54 rfl ?_
          refine AR.iconstT hk_192_56 (by decide) (fun z8 ez8 => ?_)
          show AR _ _ _ _ _ _ _ 57 [(5, .int y), (4, .int sm), (2, .long sl), (0, .ref 181), (1, .int c)] [.int z8, .int y, .ref 191] h' _ _
          refine AR.halfT hk_192_57 ez8 (by omega) (fun z9 ez9 => ?_)
          show AR _ _ _ _ _ _ _ 58 [(5, .int y), (4, .int sm), (2, .long sl), (0, .ref 181), (1, .int c)] [.int z9, .ref 191] h' _ _
          refine AR.iconstT hk_192_58 (by decide) (fun z10 ez10 => ?_)
          show AR _ _ _ _ _ _ _ 59 [(5, .int y), (4, .int sm), (2, .long sl), (0, .ref 181), (1, .int c)] [.int z10, .int z9, .ref 191] h' _ _
          refine AR.s (pc' := 61) (lv' := [(5, .int y), (4, .int sm), (2, .long sl), (0, .ref 181), (1, .int c)]) (st' := [.int y, .int z10, .int z9, .ref 191]) (h' := h') _ hn_192 hk_192_59 rfl ?_
          refine AR.iconstT hk_192_61 (by decide) (fun z11 ez11 => ?_)
          show AR _ _ _ _ _ _ _ 62 [(5, .int y), (4, .int sm), (2, .long sl), (0, .ref 181), (1, .int c)] [.int z11, .int y, .int z10, .int z9, .ref 191] h' _ _
          refine AR.parT hk_192_62 ez11 (by omega) (fun z12 ez12 => ?_)
          show AR _ _ _ _ _ _ _ 63 [(5, .int y), (4, .int sm), (2, .long sl), (0, .ref 181), (1, .int c)] [.int z12, .int z10, .int z9, .ref 191] h' _ _
          refine AR.subT hk_192_63 (by omega) (by omega) (fun z13 ez13 => ?_)
          show AR _ _ _ _ _ _ _ 64 [(5, .int y), (4, .int sm), (2, .long sl), (0, .ref 181), (1, .int c)] [.int z13, .int z9, .ref 191] h' _ _
          refine AR.isT hk_192_64 hH F (q := 191) (n := 12) (by decide) (by decide +kernel) (by decide +kernel) (by decide +kernel) hy_t191_0 (by omega) (by omega) (by omega) (by omega) (by decide +kernel) ?_
          rintro g14 ⟨Hg14, Fg14, Gg14, Eg14⟩
          show AR _ _ _ _ _ _ _ 65 [(5, .int y), (4, .int sm), (2, .long sl), (0, .ref 181), (1, .int c)] [] g14 _ _
          refine AR.iconstT hk_192_65 (by decide) (fun z15 ez15 => ?_)
          show AR _ _ _ _ _ _ _ 66 [(5, .int y), (4, .int sm), (2, .long sl), (0, .ref 181), (1, .int c)] [.int z15] g14 _ _
          refine AR.s (pc' := 68) (lv' := [(4, .int z15), (5, .int y), (2, .long sl), (0, .ref 181), (1, .int c)]) (st' := []) (h' := g14) _ hn_192 hk_192_66 rfl ?_
          refine AR.iincT hk_192_68 (x := y) rfl (by rw [hn_192]; decide) (by decide) (by omega) (by omega) (fun z16 ez16 => ?_)
          show AR _ _ _ _ _ _ _ 71 [(5, .int z16), (4, .int z15), (2, .long sl), (0, .ref 181), (1, .int c)] [] g14 _ _
          refine AR.gotoT hk_192_71 (tgt := 16) (by decide) ?_
          have ei : z9.toNatClampNeg = z4.toNatClampNeg := by
            show z9.toInt.toNat = z4.toInt.toNat
            omega
          have hv : hy_z h' 191 z9.toNatClampNeg < 0 := by
            rw [ei, hy_zi dx5]
            exact q2
          have hz := hy_zput Eg14
          have hn : hy_nw h0 g14 := by
            refine ⟨z9.toNatClampNeg, by show z9.toInt.toNat < 12; omega, ?_, ?_⟩
            · exact Int.not_le.mp (fun e => by have := hmo z9.toNatClampNeg (by show z9.toInt.toNat < 12; omega) e; omega)
            · rw [hz, if_pos ⟨rfl, rfl⟩]
              omega
          refine ih (t + 1) g14 z16 z15 (by omega) (by omega) Hg14 Fg14 (fun v hv12 e => ?_) (by omega) (fun _ => hn)
          rw [hz]
          split
          · omega
          · exact hmo v hv12 e
        · refine AR.gotoT hk_192_47 (tgt := 68) (by decide) ?_
          refine AR.iincT hk_192_68 (x := y) rfl (by rw [hn_192]; decide) (by decide) (by omega) (by omega) (fun z7 ez7 => ?_)
          show AR _ _ _ _ _ _ _ 71 [(5, .int z7), (4, .int sm), (2, .long sl), (0, .ref 181), (1, .int c)] [] h' _ _
          refine AR.gotoT hk_192_71 (tgt := 16) (by decide) ?_
          exact ih (t + 1) h' z7 sm (by omega) (by omega) hH F hmo hs1 hs2
theorem hf_fill (hp : ty_pkM l) (hlst : l.stackTraces = false) (hH : hy_H K h) (hc : c.toInt = (cn : Nat)) (hc1 : cn < 60) : AM ax_ns l (ax_mm 192) 2 ty_R 0 0 [.ref 181, .int c] h (hq_fill K h) := by
  refine AM.of (ax_mfacts (by decide +kernel : ax_has 192 = true)).2.2.2.2.2.2 hlst (by rw [hn_192]; exact Nat.le_of_ble_eq_true rfl) ?_
  show AR ax_ns l (ax_mm 192) 2 ty_R _ _ 0 [(0, .ref 181), (1, .int c)] [] h 0 0
  refine AR.s (pc' := 1) (lv' := [(0, .ref 181), (1, .int c)]) (st' := [.ref 181]) (h' := h) _ hn_192 hk_192_0 rfl ?_
  refine AR.s (pc' := 2) (lv' := [(0, .ref 181), (1, .int c)]) (st' := [.int c, .ref 181]) (h' := h) _ hn_192 hk_192_1 rfl ?_
  refine AR.s (pc' := 3) (lv' := [(0, .ref 181), (1, .int c)]) (st' := [.ref 181, .int c, .ref 181]) (h' := h) _ hn_192 hk_192_2 rfl ?_
  refine AR.gR hk_192_3 (by decide) hH (q := 181) (n := 32) (by decide) (by decide +kernel) (by decide +kernel) (by decide) hy_t181_23 ?_
  show AR _ _ _ _ _ _ _ 6 [(0, .ref 181), (1, .int c)] [.ref 191, .int c, .ref 181] h _ _
  refine AR.slk hp hlst hk_192_6 hH (by omega) (by omega) (Nat.le_of_ble_eq_true rfl) (by decide) (fun sl g hg F0 => ?_)
  show AR _ _ _ _ _ _ _ 9 [(0, .ref 181), (1, .int c)] [.long sl] g _ _
  refine AR.s (pc' := 10) (lv' := [(2, .long sl), (0, .ref 181), (1, .int c)]) (st' := []) (h' := g) _ hn_192 hk_192_9 rfl ?_
  refine AR.iconstT hk_192_10 (by decide) (fun z17 ez17 => ?_)
  show AR _ _ _ _ _ _ _ 11 [(2, .long sl), (0, .ref 181), (1, .int c)] [.int z17] g _ _
  refine AR.s (pc' := 13) (lv' := [(4, .int z17), (2, .long sl), (0, .ref 181), (1, .int c)]) (st' := []) (h' := g) _ hn_192 hk_192_11 rfl ?_
  refine AR.iconstT hk_192_13 (by decide) (fun z18 ez18 => ?_)
  show AR _ _ _ _ _ _ _ 14 [(4, .int z17), (2, .long sl), (0, .ref 181), (1, .int c)] [.int z18] g _ _
  refine AR.s (pc' := 16) (lv' := [(5, .int z18), (4, .int z17), (2, .long sl), (0, .ref 181), (1, .int c)]) (st' := []) (h' := g) _ hn_192 hk_192_14 rfl ?_
  have e1 : ∀ v, hy_z g 191 v = hy_z h 191 v := fun v => hy_zF F0 v (by decide) (by decide +kernel) (Nat.zero_testBit _)
  exact hf_fillL hlst hc hc1 sl 24 0 g z18 z17 rfl (by omega) hg (ty_F.sub (by decide +kernel) F0) (fun v _ e => by rw [e1]; exact e) (by omega) (fun e => by omega)
def hy_ng (g : ax_H) (v : Nat) : Nat := if hy_z g 191 v < 0 then 1 else 0
def hy_ct (g : ax_H) : Nat → Nat
  | 0 => 0
  | n + 1 => hy_ng g n + hy_ct g n
theorem hy_ct_le {h g : ax_H} (hm : hy_mo h g) : ∀ n, n ≤ 12 → hy_ct g n ≤ hy_ct h n
  | 0, _ => Nat.le_refl _
  | n + 1, hn => by
    have h1 := hy_ct_le hm n (by omega)
    have h2 := hm n (by omega)
    simp only [hy_ct, hy_ng]
    split <;> split <;> omega
theorem hy_ct_lt {h g : ax_H} (hm : hy_mo h g) {v : Nat} (a : hy_z h 191 v < 0) (b : 0 ≤ hy_z g 191 v) : ∀ n, n ≤ 12 → v < n → hy_ct g n < hy_ct h n
  | 0, _, hv => absurd hv (Nat.not_lt_zero _)
  | n + 1, hn, hv => by
    have h2 := hm n (by omega)
    have h0 := hy_ct_le hm n (by omega)
    simp only [hy_ct, hy_ng]
    by_cases e : v = n
    · subst e
      rw [if_neg (Int.not_lt.mpr b), if_pos a]
      omega
    · have h1 := hy_ct_lt hm a b n (by omega) (by omega)
      split <;> split <;> omega
def hy_VV (g : ax_H) : Prop := ∀ j : Nat, (j : Int) < hy_z g 181 21 → 0 ≤ hy_z g 191 (hy_z g 190 j / 2).toNat
abbrev hy_W2 : Nat := 2 ^ 104 + 2 ^ 87
theorem hy_dec (hH : hy_H K h) {j : Nat} (hj : j < 12) : 0 ≤ hy_z h 190 j ∧ hy_z h 190 j ≤ 23 := by
  obtain ⟨i, e, a, b⟩ := hy_int hH (q := 190) (n := 12) (by decide) (by decide +kernel) hj (by rw [ty_tt_ar (q := 190) (by decide +kernel)]; exact hy_t190_0)
  rw [hy_zi e]
  exact ⟨a, b⟩
theorem hy_ndec (hH : hy_H K h) : 0 ≤ hy_z h 181 21 ∧ hy_z h 181 21 ≤ 12 := by
  obtain ⟨i, e, a, b⟩ := hy_int hH (q := 181) (n := 32) (by decide) (by decide +kernel) (by decide) hy_t181_21
  rw [hy_zi e]
  exact ⟨a, b⟩
/-- keyed cells but the values -/
theorem hy_z1 {g g' : ax_H} (F : ty_F hy_W1 g g') : (∀ j, hy_z g' 190 j = hy_z g 190 j) ∧ hy_z g' 181 21 = hy_z g 181 21 ∧ hy_z g' 181 24 = hy_z g 181 24 :=
  ⟨fun j => hy_zF F j (by decide) (by decide +kernel) (hy_kA (by decide +kernel) (by decide +kernel) j), hy_zF F 21 (by decide) (by decide +kernel) (by decide +kernel), hy_zF F 24 (by decide) (by decide +kernel) (by decide +kernel)⟩
theorem hy_VV.go {g g' : ax_H} (hH : hy_H K g) (hv : hy_VV g) (F : ty_F hy_W1 g g') (hm : hy_mo g g') : hy_VV g' := by
  obtain ⟨e1, e2, -⟩ := hy_z1 F
  intro j hj
  rw [e2] at hj
  rw [e1]
  have hn := hy_ndec hH
  have hd := hy_dec hH (j := j) (by omega)
  exact hm _ (by omega) (hv j hj)
def hq_pr (K : Int) (h0 : ax_H) : ax_Q := fun res g => res = .inl none ∧ hy_H K g ∧ ty_F hy_W2 h0 g ∧ hy_Iv g

theorem hf_pr5 {X : ax_PX} (w : Int32) : ∀ (m t : Nat) (h : ax_H) (y : Int32), t + m = 12 → y.toInt = (t : Nat) → hy_H K h → ty_F hy_W2 h0 h → hy_Iv h → AR ax_ns l (ax_mm 191) 3 ty_R (ax_ret ax_ns (ax_mm 191) (hq_pr K h0)) X 154 [(2, .int y), (0, .ref 181), (1, .int w)] [] h 0 0 := by
  intro m
  induction m with
  | zero =>
    intro t h y ht hy hH F hv
    refine AR.s (pc' := 155) (lv' := [(2, .int y), (0, .ref 181), (1, .int w)]) (st' := [.int y]) (h' := h) _ hn_191 hk_191_154 rfl ?_
    refine AR.bipushT hk_191_155 (by decide) (fun z19 ez19 => ?_)
    show AR _ _ _ _ _ _ _ 157 [(2, .int y), (0, .ref 181), (1, .int w)] [.int z19, .int y] h _ _
    refine AR.jge hk_191_157 (tgt := 180) (by decide) (fun j1 => ?_) (fun j2 => ?_)
    · exact AR.vret hk_191_180 hr_191 ⟨rfl, hH, F, hv⟩
    · exact absurd j2 (by omega)
  | succ m ih =>
    intro t h y ht hy hH F hv
    refine AR.s (pc' := 155) (lv' := [(2, .int y), (0, .ref 181), (1, .int w)]) (st' := [.int y]) (h' := h) _ hn_191 hk_191_154 rfl ?_
    refine AR.bipushT hk_191_155 (by decide) (fun z20 ez20 => ?_)
    show AR _ _ _ _ _ _ _ 157 [(2, .int y), (0, .ref 181), (1, .int w)] [.int z20, .int y] h _ _
    refine AR.jge hk_191_157 (tgt := 180) (by decide) (fun j1 => ?_) (fun j2 => ?_)
    · exact AR.vret hk_191_180 hr_191 ⟨rfl, hH, F, hv⟩
    · refine AR.s (pc' := 161) (lv' := [(2, .int y), (0, .ref 181), (1, .int w)]) (st' := [.ref 181]) (h' := h) _ hn_191 hk_191_160 rfl ?_
      refine AR.gI hk_191_161 (by decide) hH (q := 181) (n := 32) (by decide) (by decide +kernel) (by decide +kernel) (by decide) hy_t181_24 (fun x21 dx21 lx21 ux21 => ?_)
      show AR _ _ _ _ _ _ _ 164 [(2, .int y), (0, .ref 181), (1, .int w)] [.int x21] h _ _
      refine AR.zeq hk_191_164 (tgt := 180) (by decide) (fun q1 => ?_) (fun q2 => ?_)
      · exact AR.vret hk_191_180 hr_191 ⟨rfl, hH, F, hv⟩
      · refine AR.s (pc' := 168) (lv' := [(2, .int y), (0, .ref 181), (1, .int w)]) (st' := [.ref 181]) (h' := h) _ hn_191 hk_191_167 rfl ?_
        refine AR.gR hk_191_168 (by decide) hH (q := 181) (n := 32) (by decide) (by decide +kernel) (by decide +kernel) (by decide) hy_t181_23 ?_
        show AR _ _ _ _ _ _ _ 171 [(2, .int y), (0, .ref 181), (1, .int w)] [.ref 191] h _ _
        refine AR.s (pc' := 172) (lv' := [(2, .int y), (0, .ref 181), (1, .int w)]) (st' := [.int y, .ref 191]) (h' := h) _ hn_191 hk_191_171 rfl ?_
        refine AR.iconstT hk_191_172 (by decide) (fun z22 ez22 => ?_)
        show AR _ _ _ _ _ _ _ 173 [(2, .int y), (0, .ref 181), (1, .int w)] [.int z22, .int y, .ref 191] h _ _
        refine AR.isT hk_191_173 hH F (q := 191) (n := 12) (by decide) (by decide +kernel) (by decide +kernel) (by decide +kernel) hy_t191_0 (by omega) (by omega) (by omega) (by omega) (by decide +kernel) ?_
        rintro g23 ⟨Hg23, Fg23, Gg23, Eg23⟩
        show AR _ _ _ _ _ _ _ 174 [(2, .int y), (0, .ref 181), (1, .int w)] [] g23 _ _
        refine AR.iincT hk_191_174 (x := y) rfl (by rw [hn_191]; decide) (by decide) (by omega) (by omega) (fun z24 ez24 => ?_)
        show AR _ _ _ _ _ _ _ 177 [(2, .int z24), (0, .ref 181), (1, .int w)] [] g23 _ _
        refine AR.gotoT hk_191_177 (tgt := 154) (by decide) ?_
        refine ih (t + 1) g23 z24 (by omega) (by omega) Hg23 Fg23 (fun e => ?_)
        have hz := hy_zput Eg23 181 24
        rw [if_neg (by omega)] at hz
        rw [hz, hy_zi dx21] at e
        exact absurd e q2
theorem hf_pr152 {X : ax_PX} (w : Int32) (rest : List (Nat × Value)) (hr : rest = [(2, .int c), (0, .ref 181)] ∨ rest = [(0, .ref 181)]) (hH : hy_H K h) (F : ty_F hy_W2 h0 h) (hv : hy_Iv h) : AR ax_ns l (ax_mm 191) 3 ty_R (ax_ret ax_ns (ax_mm 191) (hq_pr K h0)) X 152 ((1, .int w) :: rest) [] h 0 0 := by
  rcases hr with rfl | rfl
  · refine AR.iconstT hk_191_152 (by decide) (fun z25 ez25 => ?_)
    show AR _ _ _ _ _ _ _ 153 [(1, .int w), (2, .int c), (0, .ref 181)] [.int z25] h _ _
    refine AR.s (pc' := 154) (lv' := [(2, .int z25), (1, .int w), (0, .ref 181)]) (st' := []) (h' := h) _ hn_191 hk_191_153 rfl ?_
    refine AR.lessL (lv' := [(2, .int z25), (0, .ref 181), (1, .int w)]) (fun q hq => ?_) (hf_pr5 w 12 0 h z25 rfl (by omega) hH F hv)
    simp only [List.mem_cons, List.not_mem_nil, or_false] at hq
    rcases hq with rfl | rfl | rfl
    · exact ⟨_, List.mem_cons_self, decide_eq_true rfl⟩
    · exact ⟨.ref 181, by simp, rfl⟩
    · exact ⟨.int w, by simp, decide_eq_true rfl⟩
  · refine AR.iconstT hk_191_152 (by decide) (fun z26 ez26 => ?_)
    show AR _ _ _ _ _ _ _ 153 [(1, .int w), (0, .ref 181)] [.int z26] h _ _
    refine AR.s (pc' := 154) (lv' := [(2, .int z26), (1, .int w), (0, .ref 181)]) (st' := []) (h' := h) _ hn_191 hk_191_153 rfl ?_
    refine AR.lessL (lv' := [(2, .int z26), (0, .ref 181), (1, .int w)]) (fun q hq => ?_) (hf_pr5 w 12 0 h z26 rfl (by omega) hH F hv)
    simp only [List.mem_cons, List.not_mem_nil, or_false] at hq
    rcases hq with rfl | rfl | rfl
    · exact ⟨_, List.mem_cons_self, decide_eq_true rfl⟩
    · exact ⟨.ref 181, by simp, rfl⟩
    · exact ⟨.int w, by simp, decide_eq_true rfl⟩
theorem hf_pr5b {X : ax_PX} : ∀ (m t : Nat) (h : ax_H) (y : Int32), t + m = 12 → y.toInt = (t : Nat) → hy_H K h → ty_F hy_W2 h0 h → hy_Iv h → AR ax_ns l (ax_mm 191) 3 ty_R (ax_ret ax_ns (ax_mm 191) (hq_pr K h0)) X 154 [(2, .int y), (0, .ref 181)] [] h 0 0 := by
  intro m
  induction m with
  | zero =>
    intro t h y ht hy hH F hv
    refine AR.s (pc' := 155) (lv' := [(2, .int y), (0, .ref 181)]) (st' := [.int y]) (h' := h) _ hn_191 hk_191_154 rfl ?_
    refine AR.bipushT hk_191_155 (by decide) (fun z31 ez31 => ?_)
    show AR _ _ _ _ _ _ _ 157 [(2, .int y), (0, .ref 181)] [.int z31, .int y] h _ _
    refine AR.jge hk_191_157 (tgt := 180) (by decide) (fun j1 => ?_) (fun j2 => ?_)
    · exact AR.vret hk_191_180 hr_191 ⟨rfl, hH, F, hv⟩
    · exact absurd j2 (by omega)
  | succ m ih =>
    intro t h y ht hy hH F hv
    refine AR.s (pc' := 155) (lv' := [(2, .int y), (0, .ref 181)]) (st' := [.int y]) (h' := h) _ hn_191 hk_191_154 rfl ?_
    refine AR.bipushT hk_191_155 (by decide) (fun z32 ez32 => ?_)
    show AR _ _ _ _ _ _ _ 157 [(2, .int y), (0, .ref 181)] [.int z32, .int y] h _ _
    refine AR.jge hk_191_157 (tgt := 180) (by decide) (fun j1 => ?_) (fun j2 => ?_)
    · exact AR.vret hk_191_180 hr_191 ⟨rfl, hH, F, hv⟩
    · refine AR.s (pc' := 161) (lv' := [(2, .int y), (0, .ref 181)]) (st' := [.ref 181]) (h' := h) _ hn_191 hk_191_160 rfl ?_
      refine AR.gI hk_191_161 (by decide) hH (q := 181) (n := 32) (by decide) (by decide +kernel) (by decide +kernel) (by decide) hy_t181_24 (fun x33 dx33 lx33 ux33 => ?_)
      show AR _ _ _ _ _ _ _ 164 [(2, .int y), (0, .ref 181)] [.int x33] h _ _
      refine AR.zeq hk_191_164 (tgt := 180) (by decide) (fun q1 => ?_) (fun q2 => ?_)
      · exact AR.vret hk_191_180 hr_191 ⟨rfl, hH, F, hv⟩
      · refine AR.s (pc' := 168) (lv' := [(2, .int y), (0, .ref 181)]) (st' := [.ref 181]) (h' := h) _ hn_191 hk_191_167 rfl ?_
        refine AR.gR hk_191_168 (by decide) hH (q := 181) (n := 32) (by decide) (by decide +kernel) (by decide +kernel) (by decide) hy_t181_23 ?_
        show AR _ _ _ _ _ _ _ 171 [(2, .int y), (0, .ref 181)] [.ref 191] h _ _
        refine AR.s (pc' := 172) (lv' := [(2, .int y), (0, .ref 181)]) (st' := [.int y, .ref 191]) (h' := h) _ hn_191 hk_191_171 rfl ?_
        refine AR.iconstT hk_191_172 (by decide) (fun z34 ez34 => ?_)
        show AR _ _ _ _ _ _ _ 173 [(2, .int y), (0, .ref 181)] [.int z34, .int y, .ref 191] h _ _
        refine AR.isT hk_191_173 hH F (q := 191) (n := 12) (by decide) (by decide +kernel) (by decide +kernel) (by decide +kernel) hy_t191_0 (by omega) (by omega) (by omega) (by omega) (by decide +kernel) ?_
        rintro g35 ⟨Hg35, Fg35, Gg35, Eg35⟩
        show AR _ _ _ _ _ _ _ 174 [(2, .int y), (0, .ref 181)] [] g35 _ _
        refine AR.iincT hk_191_174 (x := y) rfl (by rw [hn_191]; decide) (by decide) (by omega) (by omega) (fun z36 ez36 => ?_)
        show AR _ _ _ _ _ _ _ 177 [(2, .int z36), (0, .ref 181)] [] g35 _ _
        refine AR.gotoT hk_191_177 (tgt := 154) (by decide) ?_
        refine ih (t + 1) g35 z36 (by omega) (by omega) Hg35 Fg35 (fun e => ?_)
        have hz := hy_zput Eg35 181 24
        rw [if_neg (by omega)] at hz
        rw [hz, hy_zi dx33] at e
        exact absurd e q2
theorem hf_prx {X : ax_PX} (hH : hy_H K h) (F : ty_F hy_W2 h0 h) (hv : hy_Iv h) : AR ax_ns l (ax_mm 191) 3 ty_R (ax_ret ax_ns (ax_mm 191) (hq_pr K h0)) X 152 [(0, .ref 181)] [] h 0 0 := by
  refine AR.iconstT hk_191_152 (by decide) (fun z30 ez30 => ?_)
  show AR _ _ _ _ _ _ _ 153 [(0, .ref 181)] [.int z30] h _ _
  refine AR.s (pc' := 154) (lv' := [(2, .int z30), (0, .ref 181)]) (st' := []) (h' := h) _ hn_191 hk_191_153 rfl ?_
  exact hf_pr5b 12 0 h z30 rfl (by omega) hH F hv
theorem hf_pr82 (hp : ty_pkM l) (hlst : l.stackTraces = false) {X : ax_PX} (N : Nat) (ihN : ∀ (h : ax_H) (w : Int32) (rest : List (Nat × Value)), (w.toInt = 0 ∨ (w.toInt = 1 ∧ hy_ct h 12 < N)) → ((∃ c, rest = [(2, .int c), (0, .ref 181)]) ∨ rest = [(0, .ref 181)]) → hy_H K h → ty_F hy_W2 h0 h → hy_VV h → AR ax_ns l (ax_mm 191) 3 ty_R (ax_ret ax_ns (ax_mm 191) (hq_pr K h0)) X 67 ((1, .int w) :: rest) [] h 0 0) : ∀ (m t : Nat) (h : ax_H) (w c : Int32), t + m = 60 → c.toInt = (t : Nat) → (w.toInt = 0 ∨ (w.toInt = 1 ∧ hy_ct h 12 < N)) → hy_ct h 12 ≤ N → hy_H K h → ty_F hy_W2 h0 h → hy_VV h → AR ax_ns l (ax_mm 191) 3 ty_R (ax_ret ax_ns (ax_mm 191) (hq_pr K h0)) X 82 [(2, .int c), (1, .int w), (0, .ref 181)] [] h 0 0 := by
  intro m
  induction m with
  | zero =>
    intro t h w c ht hc hw hct hH F hv
    refine AR.s (pc' := 83) (lv' := [(2, .int c), (1, .int w), (0, .ref 181)]) (st' := [.int c]) (h' := h) _ hn_191 hk_191_82 rfl ?_
    refine AR.s (pc' := 84) (lv' := [(2, .int c), (1, .int w), (0, .ref 181)]) (st' := [.ref 181, .int c]) (h' := h) _ hn_191 hk_191_83 rfl ?_
    refine AR.gI hk_191_84 (by decide) hH (q := 181) (n := 32) (by decide) (by decide +kernel) (by decide +kernel) (by decide) hy_t181_1 (fun x37 dx37 lx37 ux37 => ?_)
    show AR _ _ _ _ _ _ _ 87 [(2, .int c), (1, .int w), (0, .ref 181)] [.int x37, .int c] h _ _
    refine AR.jge hk_191_87 (tgt := 149) (by decide) (fun j1 => ?_) (fun j2 => ?_)
    · refine AR.gotoT hk_191_149 (tgt := 67) (by decide) ?_
      refine AR.lessL (lv' := [(1, .int w), (2, .int c), (0, .ref 181)]) (fun q hq => ?_) (ihN h w _ hw (Or.inl ⟨c, rfl⟩) hH F hv)
      simp only [List.mem_cons, List.not_mem_nil, or_false] at hq
      rcases hq with rfl | rfl | rfl
      · exact ⟨.int w, by simp, decide_eq_true rfl⟩
      · exact ⟨.int c, by simp, decide_eq_true rfl⟩
      · exact ⟨.ref 181, by simp, rfl⟩
    · exact absurd j2 (by omega)
  | succ m ih =>
    intro t h w c ht hc hw hct hH F hv
    refine AR.s (pc' := 83) (lv' := [(2, .int c), (1, .int w), (0, .ref 181)]) (st' := [.int c]) (h' := h) _ hn_191 hk_191_82 rfl ?_
    refine AR.s (pc' := 84) (lv' := [(2, .int c), (1, .int w), (0, .ref 181)]) (st' := [.ref 181, .int c]) (h' := h) _ hn_191 hk_191_83 rfl ?_
    refine AR.gI hk_191_84 (by decide) hH (q := 181) (n := 32) (by decide) (by decide +kernel) (by decide +kernel) (by decide) hy_t181_1 (fun x38 dx38 lx38 ux38 => ?_)
    show AR _ _ _ _ _ _ _ 87 [(2, .int c), (1, .int w), (0, .ref 181)] [.int x38, .int c] h _ _
    refine AR.jge hk_191_87 (tgt := 149) (by decide) (fun j1 => ?_) (fun j2 => ?_)
    · refine AR.gotoT hk_191_149 (tgt := 67) (by decide) ?_
      refine AR.lessL (lv' := [(1, .int w), (2, .int c), (0, .ref 181)]) (fun q hq => ?_) (ihN h w _ hw (Or.inl ⟨c, rfl⟩) hH F hv)
      simp only [List.mem_cons, List.not_mem_nil, or_false] at hq
      rcases hq with rfl | rfl | rfl
      · exact ⟨.int w, by simp, decide_eq_true rfl⟩
      · exact ⟨.int c, by simp, decide_eq_true rfl⟩
      · exact ⟨.ref 181, by simp, rfl⟩
    · refine AR.s (pc' := 91) (lv' := [(2, .int c), (1, .int w), (0, .ref 181)]) (st' := [.ref 181]) (h' := h) _ hn_191 hk_191_90 rfl ?_
      refine AR.gI hk_191_91 (by decide) hH (q := 181) (n := 32) (by decide) (by decide +kernel) (by decide +kernel) (by decide) hy_t181_24 (fun x39 dx39 lx39 ux39 => ?_)
      show AR _ _ _ _ _ _ _ 94 [(2, .int c), (1, .int w), (0, .ref 181)] [.int x39] h _ _
      refine AR.zne hk_191_94 (tgt := 149) (by decide) (fun q1 => ?_) (fun q2 => ?_)
      · refine AR.gotoT hk_191_149 (tgt := 67) (by decide) ?_
        refine AR.lessL (lv' := [(1, .int w), (2, .int c), (0, .ref 181)]) (fun q hq => ?_) (ihN h w _ hw (Or.inl ⟨c, rfl⟩) hH F hv)
        simp only [List.mem_cons, List.not_mem_nil, or_false] at hq
        rcases hq with rfl | rfl | rfl
        · exact ⟨.int w, by simp, decide_eq_true rfl⟩
        · exact ⟨.int c, by simp, decide_eq_true rfl⟩
        · exact ⟨.ref 181, by simp, rfl⟩
      · refine AR.s (pc' := 98) (lv' := [(2, .int c), (1, .int w), (0, .ref 181)]) (st' := [.ref 181]) (h' := h) _ hn_191 hk_191_97 rfl ?_
        refine AR.s (pc' := 99) (lv' := [(2, .int c), (1, .int w), (0, .ref 181)]) (st' := [.ref 181, .ref 181]) (h' := h) _ hn_191 hk_191_98 rfl ?_
        refine AR.s (pc' := 100) (lv' := [(2, .int c), (1, .int w), (0, .ref 181)]) (st' := [.int c, .ref 181, .ref 181]) (h' := h) _ hn_191 hk_191_99 rfl ?_
        refine AR.s (pc' := 101) (lv' := [(2, .int c), (1, .int w), (0, .ref 181)]) (st' := [.ref 181, .int c, .ref 181, .ref 181]) (h' := h) _ hn_191 hk_191_100 rfl ?_
        refine AR.gR hk_191_101 (by decide) hH (q := 181) (n := 32) (by decide) (by decide +kernel) (by decide +kernel) (by decide) hy_t181_23 ?_
        show AR _ _ _ _ _ _ _ 104 [(2, .int c), (1, .int w), (0, .ref 181)] [.ref 191, .int c, .ref 181, .ref 181] h _ _
        refine AR.slk hp hlst hk_191_104 hH (by omega) (by omega) (Nat.le_of_ble_eq_true rfl) (by decide) (fun sl g hg F0 => ?_)
        show AR _ _ _ _ _ _ _ 107 [(2, .int c), (1, .int w), (0, .ref 181)] [.long sl, .ref 181] g _ _
        have Fg : ty_F hy_W2 h0 g := ty_F.trans F (ty_F.sub (by decide +kernel) F0)
        have mg : hy_mo h g := fun v _ e => by rw [hy_zF F0 v (by decide) (by decide +kernel) (Nat.zero_testBit _)]; exact e
        have vg : hy_VV g := hy_VV.go hH hv (ty_F.sub (by decide +kernel) F0) mg
        have cg : hy_ct g 12 ≤ hy_ct h 12 := hy_ct_le mg 12 (by decide)
        refine AR.lconstT hk_191_107 (fun z40 ez40 => ?_)
        show AR _ _ _ _ _ _ _ 108 [(2, .int c), (1, .int w), (0, .ref 181)] [.long z40, .long sl, .ref 181] g _ _
        refine AR.lcmpT hk_191_108 (fun w9 c9 => ?_)
        show AR _ _ _ _ _ _ _ 109 [(2, .int c), (1, .int w), (0, .ref 181)] [.int w9, .ref 181] g _ _
        refine AR.zge hk_191_109 (tgt := 116) (by decide) (fun r1 => ?_) (fun r2 => ?_)
        · refine AR.iconstT hk_191_116 (by decide) (fun z41 ez41 => ?_)
          show AR _ _ _ _ _ _ _ 117 [(2, .int c), (1, .int w), (0, .ref 181)] [.int z41, .ref 181] g _ _
          refine AR.pT hk_191_117 (by decide) hg Fg (q := 181) (by decide) (by decide +kernel) (show ax_cls[9]? = some hy_c9 from rfl) (by decide +kernel) (by decide) (hy_fz (by omega)) (by rw [hy_t181_24]; exact ⟨_, rfl, by omega, by omega, Or.inl rfl⟩) (by decide +kernel) (by decide +kernel) ?_
          rintro g42 ⟨Hg42, Fg42, Gg42, Eg42⟩
          show AR _ _ _ _ _ _ _ 120 [(2, .int c), (1, .int w), (0, .ref 181)] [] g42 _ _
          refine AR.s (pc' := 121) (lv' := [(2, .int c), (1, .int w), (0, .ref 181)]) (st' := [.int w]) (h' := g42) _ hn_191 hk_191_120 rfl ?_
          refine AR.s (pc' := 122) (lv' := [(2, .int c), (1, .int w), (0, .ref 181)]) (st' := [.ref 181, .int w]) (h' := g42) _ hn_191 hk_191_121 rfl ?_
          refine AR.gI hk_191_122 (by decide) Hg42 (q := 181) (n := 32) (by decide) (by decide +kernel) (by decide +kernel) (by decide) hy_t181_24 (fun x43 dx43 lx43 ux43 => ?_)
          show AR _ _ _ _ _ _ _ 125 [(2, .int c), (1, .int w), (0, .ref 181)] [.int x43, .int w] g42 _ _
          have hz := hy_zput Eg42
          have m1 : hy_mo g g42 := fun v _ e => by rw [hz, if_neg (by omega)]; exact e
          have c1 : hy_ct g42 12 ≤ hy_ct g 12 := hy_ct_le m1 12 (by decide)
          have v1 : hy_VV g42 := by
            intro j hj
            rw [hz, if_neg (by omega)] at hj
            rw [hz, if_neg (by omega), hz, if_neg (by omega)]
            exact vg j hj
          have ex : x43.toInt = z41.toInt := by rw [← hy_zi dx43, hz, if_pos ⟨rfl, rfl⟩]
          refine AR.zne hk_191_125 (tgt := 140) (by decide) (fun t1 => ?_) (fun t2 => ?_)
          · exact absurd ex (by omega)
          · refine AR.s (pc' := 129) (lv' := [(2, .int c), (1, .int w), (0, .ref 181)]) (st' := [.ref 181, .int w]) (h' := g42) _ hn_191 hk_191_128 rfl ?_
            refine AR.s (pc' := 130) (lv' := [(2, .int c), (1, .int w), (0, .ref 181)]) (st' := [.int c, .ref 181, .int w]) (h' := g42) _ hn_191 hk_191_129 rfl ?_
            refine AR.c9 (as := [.int c]) (rest := [.int w]) hk_191_130 Hg42 (by decide +kernel) rfl rfl (Nat.le_of_ble_eq_true rfl) (hf_fill hp hlst Hg42 hc (by omega)) (by decide) (Nat.le_refl _) (Nat.le_refl _) (fun E h' q => by obtain ⟨-, -, -, x, e, -⟩ := q; cases e) ?_
            rintro x2 g2 ⟨hg2, F1, mo2, x3, e, hx0, hx1⟩
            cases e
            have F2 : ty_F hy_W2 h0 g2 := ty_F.trans Fg42 (ty_F.sub (by decide +kernel) F1)
            have v2 : hy_VV g2 := hy_VV.go Hg42 v1 F1 mo2
            have c2 : hy_ct g2 12 ≤ hy_ct g42 12 := hy_ct_le mo2 12 (by decide)
            have c3 : x3.toInt = 1 → hy_ct g2 12 < hy_ct g42 12 := fun e => by obtain ⟨v, v0, v3, v4⟩ := hx1 e; exact hy_ct_lt mo2 v3 v4 12 (by decide) v0
            show AR _ _ _ _ _ _ _ 133 [(2, .int c), (1, .int w), (0, .ref 181)] [.int x3, .int w] g2 _ _
            refine AR.zeq hk_191_133 (tgt := 140) (by decide) (fun s1 => ?_) (fun s2 => ?_)
            · refine AR.iconstT hk_191_140 (by decide) (fun z44 ez44 => ?_)
              show AR _ _ _ _ _ _ _ 141 [(2, .int c), (1, .int w), (0, .ref 181)] [.int z44, .int w] g2 _ _
              refine AR.orT hk_191_141 (by omega) (by omega) (fun w2 e2 => ?_)
              show AR _ _ _ _ _ _ _ 142 [(2, .int c), (1, .int w), (0, .ref 181)] [.int w2] g2 _ _
              refine AR.s (pc' := 143) (lv' := [(1, .int w2), (2, .int c), (0, .ref 181)]) (st' := []) (h' := g2) _ hn_191 hk_191_142 rfl ?_
              refine AR.iincT hk_191_143 (x := c) rfl (by rw [hn_191]; decide) (by decide) (by omega) (by omega) (fun z45 ez45 => ?_)
              show AR _ _ _ _ _ _ _ 146 [(2, .int z45), (1, .int w2), (0, .ref 181)] [] g2 _ _
              refine AR.gotoT hk_191_146 (tgt := 82) (by decide) ?_
              exact ih (t + 1) g2 w2 z45 (by omega) (by omega) (by omega) (by omega) hg2 F2 v2
            · refine AR.iconstT hk_191_136 (by decide) (fun z46 ez46 => ?_)
              show AR _ _ _ _ _ _ _ 137 [(2, .int c), (1, .int w), (0, .ref 181)] [.int z46, .int w] g2 _ _
              refine AR.gotoT hk_191_137 (tgt := 141) (by decide) ?_
              refine AR.orT hk_191_141 (by omega) (by omega) (fun w2 e2 => ?_)
              show AR _ _ _ _ _ _ _ 142 [(2, .int c), (1, .int w), (0, .ref 181)] [.int w2] g2 _ _
              refine AR.s (pc' := 143) (lv' := [(1, .int w2), (2, .int c), (0, .ref 181)]) (st' := []) (h' := g2) _ hn_191 hk_191_142 rfl ?_
              refine AR.iincT hk_191_143 (x := c) rfl (by rw [hn_191]; decide) (by decide) (by omega) (by omega) (fun z47 ez47 => ?_)
              show AR _ _ _ _ _ _ _ 146 [(2, .int z47), (1, .int w2), (0, .ref 181)] [] g2 _ _
              refine AR.gotoT hk_191_146 (tgt := 82) (by decide) ?_
              have c4 := c3 (by omega)
              exact ih (t + 1) g2 w2 z47 (by omega) (by omega) (by omega) (by omega) hg2 F2 v2
        · refine AR.iconstT hk_191_112 (by decide) (fun z48 ez48 => ?_)
          show AR _ _ _ _ _ _ _ 113 [(2, .int c), (1, .int w), (0, .ref 181)] [.int z48, .ref 181] g _ _
          refine AR.gotoT hk_191_113 (tgt := 117) (by decide) ?_
          refine AR.pT hk_191_117 (by decide) hg Fg (q := 181) (by decide) (by decide +kernel) (show ax_cls[9]? = some hy_c9 from rfl) (by decide +kernel) (by decide) (hy_fz (by omega)) (by rw [hy_t181_24]; exact ⟨_, rfl, by omega, by omega, Or.inl rfl⟩) (by decide +kernel) (by decide +kernel) ?_
          rintro g49 ⟨Hg49, Fg49, Gg49, Eg49⟩
          show AR _ _ _ _ _ _ _ 120 [(2, .int c), (1, .int w), (0, .ref 181)] [] g49 _ _
          refine AR.s (pc' := 121) (lv' := [(2, .int c), (1, .int w), (0, .ref 181)]) (st' := [.int w]) (h' := g49) _ hn_191 hk_191_120 rfl ?_
          refine AR.s (pc' := 122) (lv' := [(2, .int c), (1, .int w), (0, .ref 181)]) (st' := [.ref 181, .int w]) (h' := g49) _ hn_191 hk_191_121 rfl ?_
          refine AR.gI hk_191_122 (by decide) Hg49 (q := 181) (n := 32) (by decide) (by decide +kernel) (by decide +kernel) (by decide) hy_t181_24 (fun x50 dx50 lx50 ux50 => ?_)
          show AR _ _ _ _ _ _ _ 125 [(2, .int c), (1, .int w), (0, .ref 181)] [.int x50, .int w] g49 _ _
          have hz := hy_zput Eg49
          have m1 : hy_mo g g49 := fun v _ e => by rw [hz, if_neg (by omega)]; exact e
          have c1 : hy_ct g49 12 ≤ hy_ct g 12 := hy_ct_le m1 12 (by decide)
          have v1 : hy_VV g49 := by
            intro j hj
            rw [hz, if_neg (by omega)] at hj
            rw [hz, if_neg (by omega), hz, if_neg (by omega)]
            exact vg j hj
          have ex : x50.toInt = z48.toInt := by rw [← hy_zi dx50, hz, if_pos ⟨rfl, rfl⟩]
          refine AR.zne hk_191_125 (tgt := 140) (by decide) (fun t1 => ?_) (fun t2 => ?_)
          · refine AR.iconstT hk_191_140 (by decide) (fun z51 ez51 => ?_)
            show AR _ _ _ _ _ _ _ 141 [(2, .int c), (1, .int w), (0, .ref 181)] [.int z51, .int w] g49 _ _
            refine AR.orT hk_191_141 (by omega) (by omega) (fun w2 e2 => ?_)
            show AR _ _ _ _ _ _ _ 142 [(2, .int c), (1, .int w), (0, .ref 181)] [.int w2] g49 _ _
            refine AR.s (pc' := 143) (lv' := [(1, .int w2), (2, .int c), (0, .ref 181)]) (st' := []) (h' := g49) _ hn_191 hk_191_142 rfl ?_
            refine AR.iincT hk_191_143 (x := c) rfl (by rw [hn_191]; decide) (by decide) (by omega) (by omega) (fun z52 ez52 => ?_)
            show AR _ _ _ _ _ _ _ 146 [(2, .int z52), (1, .int w2), (0, .ref 181)] [] g49 _ _
            refine AR.gotoT hk_191_146 (tgt := 82) (by decide) ?_
            exact ih (t + 1) g49 w2 z52 (by omega) (by omega) (by omega) (by omega) Hg49 Fg49 v1
          · exact absurd ex (by omega)
theorem hf_pr67 (hp : ty_pkM l) (hlst : l.stackTraces = false) {X : ax_PX} : ∀ (N : Nat) (h : ax_H) (w : Int32) (rest : List (Nat × Value)), (w.toInt = 0 ∨ (w.toInt = 1 ∧ hy_ct h 12 < N)) → ((∃ c, rest = [(2, .int c), (0, .ref 181)]) ∨ rest = [(0, .ref 181)]) → hy_H K h → ty_F hy_W2 h0 h → hy_VV h → AR ax_ns l (ax_mm 191) 3 ty_R (ax_ret ax_ns (ax_mm 191) (hq_pr K h0)) X 67 ((1, .int w) :: rest) [] h 0 0 := by
  intro N
  induction N with
  | zero =>
    intro h w rest hw hr hH F hv
    have hex : AR ax_ns l (ax_mm 191) 3 ty_R (ax_ret ax_ns (ax_mm 191) (hq_pr K h0)) X 152 ((1, .int w) :: rest) [] h 0 0 := by
      rcases hr with ⟨c, rfl⟩ | rfl
      · exact hf_pr152 w _ (Or.inl rfl) hH F (fun _ => hv)
      · exact hf_pr152 (c := w) w _ (Or.inr rfl) hH F (fun _ => hv)
    refine AR.s (pc' := 68) (lv' := (1, .int w) :: rest) (st' := [.int w]) (h' := h) _ hn_191 hk_191_67 rfl ?_
    refine AR.zeq hk_191_68 (tgt := 152) (by decide) (fun _ => hex) (fun w1 => ?_)
    exact absurd hw (by omega)
  | succ N ihN =>
    intro h w rest hw hr hH F hv
    have hex : AR ax_ns l (ax_mm 191) 3 ty_R (ax_ret ax_ns (ax_mm 191) (hq_pr K h0)) X 152 ((1, .int w) :: rest) [] h 0 0 := by
      rcases hr with ⟨c, rfl⟩ | rfl
      · exact hf_pr152 w _ (Or.inl rfl) hH F (fun _ => hv)
      · exact hf_pr152 (c := w) w _ (Or.inr rfl) hH F (fun _ => hv)
    refine AR.s (pc' := 68) (lv' := (1, .int w) :: rest) (st' := [.int w]) (h' := h) _ hn_191 hk_191_67 rfl ?_
    refine AR.zeq hk_191_68 (tgt := 152) (by decide) (fun _ => hex) (fun w1 => ?_)
    have hN : hy_ct h 12 ≤ N := by omega
    refine AR.lessL (lv' := [(0, .ref 181)]) (fun q hq => ?_) ?_
    · cases List.mem_singleton.mp hq
      rcases hr with ⟨c, rfl⟩ | rfl
      · exact ⟨.ref 181, by simp, rfl⟩
      · exact ⟨.ref 181, by simp, rfl⟩
    refine AR.s (pc' := 72) (lv' := [(0, .ref 181)]) (st' := [.ref 181]) (h' := h) _ hn_191 hk_191_71 rfl ?_
    refine AR.gI hk_191_72 (by decide) hH (q := 181) (n := 32) (by decide) (by decide +kernel) (by decide +kernel) (by decide) hy_t181_24 (fun x27 dx27 lx27 ux27 => ?_)
    show AR _ _ _ _ _ _ _ 75 [(0, .ref 181)] [.int x27] h _ _
    refine AR.zne hk_191_75 (tgt := 152) (by decide) (fun q1 => ?_) (fun q2 => ?_)
    · refine AR.lessL (lv' := [(0, .ref 181)]) (fun q hq => ⟨q.2, hq, ?_⟩) ?_
      · cases List.mem_singleton.mp hq
        rfl
      exact hf_prx hH F (fun _ => hv)
    · refine AR.iconstT hk_191_78 (by decide) (fun z28 ez28 => ?_)
      show AR _ _ _ _ _ _ _ 79 [(0, .ref 181)] [.int z28] h _ _
      refine AR.s (pc' := 80) (lv' := [(1, .int z28), (0, .ref 181)]) (st' := []) (h' := h) _ hn_191 hk_191_79 rfl ?_
      refine AR.iconstT hk_191_80 (by decide) (fun z29 ez29 => ?_)
      show AR _ _ _ _ _ _ _ 81 [(1, .int z28), (0, .ref 181)] [.int z29] h _ _
      refine AR.s (pc' := 82) (lv' := [(2, .int z29), (1, .int z28), (0, .ref 181)]) (st' := []) (h' := h) _ hn_191 hk_191_81 rfl ?_
      exact hf_pr82 hp hlst N (fun h w rest a1 a2 a3 a4 a5 => ihN h w rest a1 a2 a3 a4 a5) 60 0 h z28 z29 rfl (by omega) (Or.inl (by omega)) hN hH F hv
theorem hf_pr23 (hp : ty_pkM l) (hlst : l.stackTraces = false) {X : ax_PX} : ∀ (m t : Nat) (h : ax_H) (y : Int32), t + m = 12 → y.toInt = (t : Nat) → hy_H K h → ty_F hy_W2 h0 h → (∀ j : Nat, j < t → 0 ≤ hy_z h 191 (hy_z h 190 j / 2).toNat) → AR ax_ns l (ax_mm 191) 3 ty_R (ax_ret ax_ns (ax_mm 191) (hq_pr K h0)) X 23 [(1, .int y), (0, .ref 181)] [] h 0 0 := by
  intro m
  induction m with
  | zero =>
    intro t h y ht hy hH F hv
    refine AR.s (pc' := 24) (lv' := [(1, .int y), (0, .ref 181)]) (st' := [.int y]) (h' := h) _ hn_191 hk_191_23 rfl ?_
    refine AR.s (pc' := 25) (lv' := [(1, .int y), (0, .ref 181)]) (st' := [.ref 181, .int y]) (h' := h) _ hn_191 hk_191_24 rfl ?_
    refine AR.gI hk_191_25 (by decide) hH (q := 181) (n := 32) (by decide) (by decide +kernel) (by decide +kernel) (by decide) hy_t181_21 (fun x53 dx53 lx53 ux53 => ?_)
    show AR _ _ _ _ _ _ _ 28 [(1, .int y), (0, .ref 181)] [.int x53, .int y] h _ _
    refine AR.jge hk_191_28 (tgt := 60) (by decide) (fun j1 => ?_) (fun j2 => ?_)
    · refine AR.s (pc' := 61) (lv' := [(1, .int y), (0, .ref 181)]) (st' := [.ref 181]) (h' := h) _ hn_191 hk_191_60 rfl ?_
      refine AR.iconstT hk_191_61 (by decide) (fun z54 ez54 => ?_)
      show AR _ _ _ _ _ _ _ 62 [(1, .int y), (0, .ref 181)] [.int z54, .ref 181] h _ _
      refine AR.pT hk_191_62 (by decide) hH F (q := 181) (by decide) (by decide +kernel) (show ax_cls[9]? = some hy_c9 from rfl) (by decide +kernel) (by decide) (hy_fz (by omega)) (by rw [hy_t181_24]; exact ⟨_, rfl, by omega, by omega, Or.inl rfl⟩) (by decide +kernel) (by decide +kernel) ?_
      rintro g55 ⟨Hg55, Fg55, Gg55, Eg55⟩
      show AR _ _ _ _ _ _ _ 65 [(1, .int y), (0, .ref 181)] [] g55 _ _
      refine AR.iconstT hk_191_65 (by decide) (fun z56 ez56 => ?_)
      show AR _ _ _ _ _ _ _ 66 [(1, .int y), (0, .ref 181)] [.int z56] g55 _ _
      refine AR.s (pc' := 67) (lv' := [(1, .int z56), (0, .ref 181)]) (st' := []) (h' := g55) _ hn_191 hk_191_66 rfl ?_
      have hz := hy_zput Eg55
      have v1 : hy_VV g55 := by
        intro j hj
        rw [hz, if_neg (by omega), hy_zi dx53] at hj
        rw [hz, if_neg (by omega), hz, if_neg (by omega)]
        exact hv j (by omega)
      exact hf_pr67 hp hlst (hy_ct g55 12 + 1) g55 z56 _ (Or.inr ⟨by omega, by omega⟩) (Or.inr rfl) Hg55 Fg55 v1
    · exact absurd j2 (by omega)
  | succ m ih =>
    intro t h y ht hy hH F hv
    refine AR.s (pc' := 24) (lv' := [(1, .int y), (0, .ref 181)]) (st' := [.int y]) (h' := h) _ hn_191 hk_191_23 rfl ?_
    refine AR.s (pc' := 25) (lv' := [(1, .int y), (0, .ref 181)]) (st' := [.ref 181, .int y]) (h' := h) _ hn_191 hk_191_24 rfl ?_
    refine AR.gI hk_191_25 (by decide) hH (q := 181) (n := 32) (by decide) (by decide +kernel) (by decide +kernel) (by decide) hy_t181_21 (fun x57 dx57 lx57 ux57 => ?_)
    show AR _ _ _ _ _ _ _ 28 [(1, .int y), (0, .ref 181)] [.int x57, .int y] h _ _
    refine AR.jge hk_191_28 (tgt := 60) (by decide) (fun j1 => ?_) (fun j2 => ?_)
    · refine AR.s (pc' := 61) (lv' := [(1, .int y), (0, .ref 181)]) (st' := [.ref 181]) (h' := h) _ hn_191 hk_191_60 rfl ?_
      refine AR.iconstT hk_191_61 (by decide) (fun z58 ez58 => ?_)
      show AR _ _ _ _ _ _ _ 62 [(1, .int y), (0, .ref 181)] [.int z58, .ref 181] h _ _
      refine AR.pT hk_191_62 (by decide) hH F (q := 181) (by decide) (by decide +kernel) (show ax_cls[9]? = some hy_c9 from rfl) (by decide +kernel) (by decide) (hy_fz (by omega)) (by rw [hy_t181_24]; exact ⟨_, rfl, by omega, by omega, Or.inl rfl⟩) (by decide +kernel) (by decide +kernel) ?_
      rintro g59 ⟨Hg59, Fg59, Gg59, Eg59⟩
      show AR _ _ _ _ _ _ _ 65 [(1, .int y), (0, .ref 181)] [] g59 _ _
      refine AR.iconstT hk_191_65 (by decide) (fun z60 ez60 => ?_)
      show AR _ _ _ _ _ _ _ 66 [(1, .int y), (0, .ref 181)] [.int z60] g59 _ _
      refine AR.s (pc' := 67) (lv' := [(1, .int z60), (0, .ref 181)]) (st' := []) (h' := g59) _ hn_191 hk_191_66 rfl ?_
      have hz := hy_zput Eg59
      have v1 : hy_VV g59 := by
        intro j hj
        rw [hz, if_neg (by omega), hy_zi dx57] at hj
        rw [hz, if_neg (by omega), hz, if_neg (by omega)]
        exact hv j (by omega)
      exact hf_pr67 hp hlst (hy_ct g59 12 + 1) g59 z60 _ (Or.inr ⟨by omega, by omega⟩) (Or.inr rfl) Hg59 Fg59 v1
    · refine AR.s (pc' := 32) (lv' := [(1, .int y), (0, .ref 181)]) (st' := [.ref 181]) (h' := h) _ hn_191 hk_191_31 rfl ?_
      refine AR.gR hk_191_32 (by decide) hH (q := 181) (n := 32) (by decide) (by decide +kernel) (by decide +kernel) (by decide) hy_t181_23 ?_
      show AR _ _ _ _ _ _ _ 35 [(1, .int y), (0, .ref 181)] [.ref 191] h _ _
      refine AR.s (pc' := 36) (lv' := [(1, .int y), (0, .ref 181)]) (st' := [.ref 181, .ref 191]) (h' := h) _ hn_191 hk_191_35 rfl ?_
      refine AR.gR hk_191_36 (by decide) hH (q := 181) (n := 32) (by decide) (by decide +kernel) (by decide +kernel) (by decide) hy_t181_22 ?_
      show AR _ _ _ _ _ _ _ 39 [(1, .int y), (0, .ref 181)] [.ref 190, .ref 191] h _ _
      refine AR.s (pc' := 40) (lv' := [(1, .int y), (0, .ref 181)]) (st' := [.int y, .ref 190, .ref 191]) (h' := h) _ hn_191 hk_191_39 rfl ?_
      refine AR.iaI hk_191_40 hH (q := 190) (n := 12) (by decide) (by decide +kernel) (by decide +kernel) (by decide +kernel) hy_t190_0 (by omega) (by omega) (fun x61 dx61 lx61 ux61 => ?_)
      show AR _ _ _ _ _ _ _ 41 [(1, .int y), (0, .ref 181)] [.int x61, .ref 191] h _ _
      refine AR.iconstT hk_191_41 (by decide) (fun z62 ez62 => ?_)
      show AR _ _ _ _ _ _ _ 42 [(1, .int y), (0, .ref 181)] [.int z62, .int x61, .ref 191] h _ _
      refine AR.halfT hk_191_42 ez62 (by omega) (fun z63 ez63 => ?_)
      show AR _ _ _ _ _ _ _ 43 [(1, .int y), (0, .ref 181)] [.int z63, .ref 191] h _ _
      refine AR.iconstT hk_191_43 (by decide) (fun z64 ez64 => ?_)
      show AR _ _ _ _ _ _ _ 44 [(1, .int y), (0, .ref 181)] [.int z64, .int z63, .ref 191] h _ _
      refine AR.s (pc' := 45) (lv' := [(1, .int y), (0, .ref 181)]) (st' := [.ref 181, .int z64, .int z63, .ref 191]) (h' := h) _ hn_191 hk_191_44 rfl ?_
      refine AR.gR hk_191_45 (by decide) hH (q := 181) (n := 32) (by decide) (by decide +kernel) (by decide +kernel) (by decide) hy_t181_22 ?_
      show AR _ _ _ _ _ _ _ 48 [(1, .int y), (0, .ref 181)] [.ref 190, .int z64, .int z63, .ref 191] h _ _
      refine AR.s (pc' := 49) (lv' := [(1, .int y), (0, .ref 181)]) (st' := [.int y, .ref 190, .int z64, .int z63, .ref 191]) (h' := h) _ hn_191 hk_191_48 rfl ?_
      refine AR.iaI hk_191_49 hH (q := 190) (n := 12) (by decide) (by decide +kernel) (by decide +kernel) (by decide +kernel) hy_t190_0 (by omega) (by omega) (fun x65 dx65 lx65 ux65 => ?_)
      show AR _ _ _ _ _ _ _ 50 [(1, .int y), (0, .ref 181)] [.int x65, .int z64, .int z63, .ref 191] h _ _
      refine AR.iconstT hk_191_50 (by decide) (fun z66 ez66 => ?_)
      show AR _ _ _ _ _ _ _ 51 [(1, .int y), (0, .ref 181)] [.int z66, .int x65, .int z64, .int z63, .ref 191] h _ _
      refine AR.parT hk_191_51 ez66 (by omega) (fun z67 ez67 => ?_)
      show AR _ _ _ _ _ _ _ 52 [(1, .int y), (0, .ref 181)] [.int z67, .int z64, .int z63, .ref 191] h _ _
      refine AR.subT hk_191_52 (by omega) (by omega) (fun z68 ez68 => ?_)
      show AR _ _ _ _ _ _ _ 53 [(1, .int y), (0, .ref 181)] [.int z68, .int z63, .ref 191] h _ _
      have ed : x61 = x65 := by have := dx61.symm.trans dx65; cases this; rfl
      subst ed
      refine AR.isT hk_191_53 hH F (q := 191) (n := 12) (by decide) (by decide +kernel) (by decide +kernel) (by decide +kernel) hy_t191_0 (by omega) (by omega) (by omega) (by omega) (by decide +kernel) ?_
      rintro g69 ⟨Hg69, Fg69, Gg69, Eg69⟩
      show AR _ _ _ _ _ _ _ 54 [(1, .int y), (0, .ref 181)] [] g69 _ _
      refine AR.iincT hk_191_54 (x := y) rfl (by rw [hn_191]; decide) (by decide) (by omega) (by omega) (fun z70 ez70 => ?_)
      show AR _ _ _ _ _ _ _ 57 [(1, .int z70), (0, .ref 181)] [] g69 _ _
      refine AR.gotoT hk_191_57 (tgt := 23) (by decide) ?_
      have hz := hy_zput Eg69
      refine ih (t + 1) g69 z70 (by omega) (by omega) Hg69 Fg69 (fun j hj => ?_)
      rw [hz, hz, if_neg (show ¬ ((190 : Nat) = 191 ∧ j = _) by omega)]
      split
      · omega
      · rename_i hne
        rcases (by omega : j < t ∨ j = t) with e | e
        · exact hv j e
        · subst e
          refine absurd ⟨rfl, ?_⟩ hne
          have e5 : y.toNatClampNeg = j := by show y.toInt.toNat = j; omega
          rw [e5] at dx61
          rw [hy_zi dx61]
          show _ = z63.toInt.toNat
          omega
theorem hf_pr2 (hp : ty_pkM l) (hlst : l.stackTraces = false) {X : ax_PX} : ∀ (m t : Nat) (h : ax_H) (y : Int32), t + m = 12 → y.toInt = (t : Nat) → hy_H K h → ty_F hy_W2 h0 h → AR ax_ns l (ax_mm 191) 3 ty_R (ax_ret ax_ns (ax_mm 191) (hq_pr K h0)) X 2 [(1, .int y), (0, .ref 181)] [] h 0 0 := by
  intro m
  induction m with
  | zero =>
    intro t h y ht hy hH F
    refine AR.s (pc' := 3) (lv' := [(1, .int y), (0, .ref 181)]) (st' := [.int y]) (h' := h) _ hn_191 hk_191_2 rfl ?_
    refine AR.bipushT hk_191_3 (by decide) (fun z71 ez71 => ?_)
    show AR _ _ _ _ _ _ _ 5 [(1, .int y), (0, .ref 181)] [.int z71, .int y] h _ _
    refine AR.jge hk_191_5 (tgt := 21) (by decide) (fun j1 => ?_) (fun j2 => ?_)
    · refine AR.iconstT hk_191_21 (by decide) (fun z72 ez72 => ?_)
      show AR _ _ _ _ _ _ _ 22 [(1, .int y), (0, .ref 181)] [.int z72] h _ _
      refine AR.s (pc' := 23) (lv' := [(1, .int z72), (0, .ref 181)]) (st' := []) (h' := h) _ hn_191 hk_191_22 rfl ?_
      exact hf_pr23 hp hlst 12 0 h z72 rfl (by omega) hH F (fun j hj => absurd hj (Nat.not_lt_zero _))
    · exact absurd j2 (by omega)
  | succ m ih =>
    intro t h y ht hy hH F
    refine AR.s (pc' := 3) (lv' := [(1, .int y), (0, .ref 181)]) (st' := [.int y]) (h' := h) _ hn_191 hk_191_2 rfl ?_
    refine AR.bipushT hk_191_3 (by decide) (fun z73 ez73 => ?_)
    show AR _ _ _ _ _ _ _ 5 [(1, .int y), (0, .ref 181)] [.int z73, .int y] h _ _
    refine AR.jge hk_191_5 (tgt := 21) (by decide) (fun j1 => ?_) (fun j2 => ?_)
    · refine AR.iconstT hk_191_21 (by decide) (fun z74 ez74 => ?_)
      show AR _ _ _ _ _ _ _ 22 [(1, .int y), (0, .ref 181)] [.int z74] h _ _
      refine AR.s (pc' := 23) (lv' := [(1, .int z74), (0, .ref 181)]) (st' := []) (h' := h) _ hn_191 hk_191_22 rfl ?_
      exact hf_pr23 hp hlst 12 0 h z74 rfl (by omega) hH F (fun j hj => absurd hj (Nat.not_lt_zero _))
    · refine AR.s (pc' := 9) (lv' := [(1, .int y), (0, .ref 181)]) (st' := [.ref 181]) (h' := h) _ hn_191 hk_191_8 rfl ?_
      refine AR.gR hk_191_9 (by decide) hH (q := 181) (n := 32) (by decide) (by decide +kernel) (by decide +kernel) (by decide) hy_t181_23 ?_
      show AR _ _ _ _ _ _ _ 12 [(1, .int y), (0, .ref 181)] [.ref 191] h _ _
      refine AR.s (pc' := 13) (lv' := [(1, .int y), (0, .ref 181)]) (st' := [.int y, .ref 191]) (h' := h) _ hn_191 hk_191_12 rfl ?_
      refine AR.iconstT hk_191_13 (by decide) (fun z75 ez75 => ?_)
      show AR _ _ _ _ _ _ _ 14 [(1, .int y), (0, .ref 181)] [.int z75, .int y, .ref 191] h _ _
      refine AR.isT hk_191_14 hH F (q := 191) (n := 12) (by decide) (by decide +kernel) (by decide +kernel) (by decide +kernel) hy_t191_0 (by omega) (by omega) (by omega) (by omega) (by decide +kernel) ?_
      rintro g76 ⟨Hg76, Fg76, Gg76, Eg76⟩
      show AR _ _ _ _ _ _ _ 15 [(1, .int y), (0, .ref 181)] [] g76 _ _
      refine AR.iincT hk_191_15 (x := y) rfl (by rw [hn_191]; decide) (by decide) (by omega) (by omega) (fun z77 ez77 => ?_)
      show AR _ _ _ _ _ _ _ 18 [(1, .int z77), (0, .ref 181)] [] g76 _ _
      refine AR.gotoT hk_191_18 (tgt := 2) (by decide) ?_
      exact ih (t + 1) g76 z77 (by omega) (by omega) Hg76 Fg76
theorem hf_prop (hp : ty_pkM l) (hlst : l.stackTraces = false) (hH : hy_H K h) : AM ax_ns l (ax_mm 191) 3 ty_R 0 0 [.ref 181] h (hq_pr K h) := by
  refine AM.of (ax_mfacts (by decide +kernel : ax_has 191 = true)).2.2.2.2.2.2 hlst (by rw [hn_191]; exact Nat.le_of_ble_eq_true rfl) ?_
  show AR ax_ns l (ax_mm 191) 3 ty_R _ _ 0 [(0, .ref 181)] [] h 0 0
  refine AR.iconstT hk_191_0 (by decide) (fun z78 ez78 => ?_)
  show AR _ _ _ _ _ _ _ 1 [(0, .ref 181)] [.int z78] h _ _
  refine AR.s (pc' := 2) (lv' := [(1, .int z78), (0, .ref 181)]) (st' := []) (h' := h) _ hn_191 hk_191_1 rfl ?_
  exact hf_pr2 hp hlst 12 0 h z78 rfl (by omega) hH (ty_F_refl _ _)
end HM2
