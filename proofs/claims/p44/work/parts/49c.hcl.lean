/-! BY HAND, 12: what the class writes -/
theorem hn_16 : (ax_mm 16).2.2.1 = 4 := by decide +kernel
theorem hr_16 : (ax_mm 16).2.2.2.1 = none := by decide +kernel
theorem hk_16_0 : ax_look 16 0 = some (.iconst 0, (0, 0, 0), .null, []) := by decide +kernel
theorem hk_16_1 : ax_look 16 1 = some (.istore_n 2, (0, 0, 0), .null, []) := by decide +kernel
theorem hk_16_2 : ax_look 16 2 = some (.iconst 0, (0, 0, 0), .null, []) := by decide +kernel
theorem hk_16_3 : ax_look 16 3 = some (.istore_n 3, (0, 0, 0), .null, []) := by decide +kernel
theorem hk_16_4 : ax_look 16 4 = some (.iload_n 3, (0, 0, 0), .null, []) := by decide +kernel
theorem hk_16_5 : ax_look 16 5 = some (.bipush 24, (0, 0, 0), .null, []) := by decide +kernel
theorem hk_16_7 : ax_look 16 7 = some (.if_icmp .ge 38, (0, 0, 0), .null, []) := by decide +kernel
theorem hk_16_10 : ax_look 16 10 = some (.aload_n 0, (0, 0, 0), .null, []) := by decide +kernel
theorem hk_16_11 : ax_look 16 11 = some (.getfield 9, (1, 0, 0), .null, [1146]) := by decide +kernel
theorem hk_16_14 : ax_look 16 14 = some (.iload_n 3, (0, 0, 0), .null, []) := by decide +kernel
theorem hk_16_15 : ax_look 16 15 = some (.iaload, (0, 0, 0), .null, []) := by decide +kernel
theorem hk_16_16 : ax_look 16 16 = some (.ifCond .le 23, (0, 0, 0), .null, []) := by decide +kernel
theorem hk_16_19 : ax_look 16 19 = some (.iload_n 2, (0, 0, 0), .null, []) := by decide +kernel
theorem hk_16_20 : ax_look 16 20 = some (.ifCond .le 10, (0, 0, 0), .null, []) := by decide +kernel
theorem hk_16_23 : ax_look 16 23 = some (.aload_n 1, (0, 0, 0), .null, []) := by decide +kernel
theorem hk_16_24 : ax_look 16 24 = some (.ldc 61, (900, 0, 0), .null, []) := by decide +kernel
theorem hk_16_26 : ax_look 16 26 = some (.invokevirtual 63, (262, 1, 10), .null, [999999, 4025]) := by decide +kernel
theorem hk_16_29 : ax_look 16 29 = some (.pop, (0, 0, 0), .null, []) := by decide +kernel
theorem hk_16_30 : ax_look 16 30 = some (.aload_n 0, (0, 0, 0), .null, []) := by decide +kernel
theorem hk_16_31 : ax_look 16 31 = some (.aload_n 1, (0, 0, 0), .null, []) := by decide +kernel
theorem hk_16_32 : ax_look 16 32 = some (.iload_n 3, (0, 0, 0), .null, []) := by decide +kernel
theorem hk_16_33 : ax_look 16 33 = some (.invokevirtual 69, (17, 2, 1), .null, [999999, 999999]) := by decide +kernel
theorem hk_16_36 : ax_look 16 36 = some (.iinc 2 1, (0, 0, 0), .null, []) := by decide +kernel
theorem hk_16_39 : ax_look 16 39 = some (.iinc 3 1, (0, 0, 0), .null, []) := by decide +kernel
theorem hk_16_42 : ax_look 16 42 = some (.goto (-38), (0, 0, 0), .null, []) := by decide +kernel
theorem hk_16_45 : ax_look 16 45 = some (.iload_n 2, (0, 0, 0), .null, []) := by decide +kernel
theorem hk_16_46 : ax_look 16 46 = some (.ifCond .ne 10, (0, 0, 0), .null, []) := by decide +kernel
theorem hk_16_49 : ax_look 16 49 = some (.aload_n 1, (0, 0, 0), .null, []) := by decide +kernel
theorem hk_16_50 : ax_look 16 50 = some (.bipush 48, (0, 0, 0), .null, []) := by decide +kernel
theorem hk_16_52 : ax_look 16 52 = some (.invokevirtual 73, (260, 1, 10), .null, [999999, 4214]) := by decide +kernel
theorem hk_16_55 : ax_look 16 55 = some (.pop, (0, 0, 0), .null, []) := by decide +kernel
theorem hk_16_56 : ax_look 16 56 = some (.aload_n 1, (0, 0, 0), .null, []) := by decide +kernel
theorem hk_16_57 : ax_look 16 57 = some (.ldc 76, (900, 0, 0), .null, []) := by decide +kernel
theorem hk_16_59 : ax_look 16 59 = some (.invokevirtual 63, (262, 1, 10), .null, [999999, 4025]) := by decide +kernel
theorem hk_16_62 : ax_look 16 62 = some (.pop, (0, 0, 0), .null, []) := by decide +kernel
theorem hk_16_63 : ax_look 16 63 = some (.aload_n 1, (0, 0, 0), .null, []) := by decide +kernel
theorem hk_16_64 : ax_look 16 64 = some (.aload_n 0, (0, 0, 0), .null, []) := by decide +kernel
theorem hk_16_65 : ax_look 16 65 = some (.getfield 15, (1, 1, 0), .null, [1150]) := by decide +kernel
theorem hk_16_68 : ax_look 16 68 = some (.invokevirtual 78, (261, 1, 10), .null, [999999, 4128]) := by decide +kernel
theorem hk_16_71 : ax_look 16 71 = some (.pop, (0, 0, 0), .null, []) := by decide +kernel
theorem hk_16_72 : ax_look 16 72 = some (.return_, (0, 0, 0), .null, []) := by decide +kernel
theorem hn_17 : (ax_mm 17).2.2.1 = 3 := by decide +kernel
theorem hr_17 : (ax_mm 17).2.2.2.1 = none := by decide +kernel
theorem hk_17_0 : ax_look 17 0 = some (.aload_n 0, (0, 0, 0), .null, []) := by decide +kernel
theorem hk_17_1 : ax_look 17 1 = some (.getfield 9, (1, 0, 0), .null, [1146]) := by decide +kernel
theorem hk_17_4 : ax_look 17 4 = some (.iload_n 2, (0, 0, 0), .null, []) := by decide +kernel
theorem hk_17_5 : ax_look 17 5 = some (.iaload, (0, 0, 0), .null, []) := by decide +kernel
theorem hk_17_6 : ax_look 17 6 = some (.iconst 1, (0, 0, 0), .null, []) := by decide +kernel
theorem hk_17_7 : ax_look 17 7 = some (.if_icmp .eq 14, (0, 0, 0), .null, []) := by decide +kernel
theorem hk_17_10 : ax_look 17 10 = some (.aload_n 1, (0, 0, 0), .null, []) := by decide +kernel
theorem hk_17_11 : ax_look 17 11 = some (.aload_n 0, (0, 0, 0), .null, []) := by decide +kernel
theorem hk_17_12 : ax_look 17 12 = some (.getfield 9, (1, 0, 0), .null, [1146]) := by decide +kernel
theorem hk_17_15 : ax_look 17 15 = some (.iload_n 2, (0, 0, 0), .null, []) := by decide +kernel
theorem hk_17_16 : ax_look 17 16 = some (.iaload, (0, 0, 0), .null, []) := by decide +kernel
theorem hk_17_17 : ax_look 17 17 = some (.invokevirtual 78, (261, 1, 10), .null, [999999, 4128]) := by decide +kernel
theorem hk_17_20 : ax_look 17 20 = some (.pop, (0, 0, 0), .null, []) := by decide +kernel
theorem hk_17_21 : ax_look 17 21 = some (.iload_n 2, (0, 0, 0), .null, []) := by decide +kernel
theorem hk_17_22 : ax_look 17 22 = some (.iconst 1, (0, 0, 0), .null, []) := by decide +kernel
theorem hk_17_23 : ax_look 17 23 = some (.iand, (0, 0, 0), .null, []) := by decide +kernel
theorem hk_17_24 : ax_look 17 24 = some (.iconst 1, (0, 0, 0), .null, []) := by decide +kernel
theorem hk_17_25 : ax_look 17 25 = some (.if_icmp .ne 10, (0, 0, 0), .null, []) := by decide +kernel
theorem hk_17_28 : ax_look 17 28 = some (.aload_n 1, (0, 0, 0), .null, []) := by decide +kernel
theorem hk_17_29 : ax_look 17 29 = some (.bipush 126, (0, 0, 0), .null, []) := by decide +kernel
theorem hk_17_31 : ax_look 17 31 = some (.invokevirtual 73, (260, 1, 10), .null, [999999, 4214]) := by decide +kernel
theorem hk_17_34 : ax_look 17 34 = some (.pop, (0, 0, 0), .null, []) := by decide +kernel
theorem hk_17_35 : ax_look 17 35 = some (.aload_n 1, (0, 0, 0), .null, []) := by decide +kernel
theorem hk_17_36 : ax_look 17 36 = some (.bipush 97, (0, 0, 0), .null, []) := by decide +kernel
theorem hk_17_38 : ax_look 17 38 = some (.iload_n 2, (0, 0, 0), .null, []) := by decide +kernel
theorem hk_17_39 : ax_look 17 39 = some (.iconst 1, (0, 0, 0), .null, []) := by decide +kernel
theorem hk_17_40 : ax_look 17 40 = some (.ishr, (0, 0, 0), .null, []) := by decide +kernel
theorem hk_17_41 : ax_look 17 41 = some (.iadd, (0, 0, 0), .null, []) := by decide +kernel
theorem hk_17_42 : ax_look 17 42 = some (.i2c, (0, 0, 0), .null, []) := by decide +kernel
theorem hk_17_43 : ax_look 17 43 = some (.invokevirtual 73, (260, 1, 10), .null, [999999, 4214]) := by decide +kernel
theorem hk_17_46 : ax_look 17 46 = some (.pop, (0, 0, 0), .null, []) := by decide +kernel
theorem hk_17_47 : ax_look 17 47 = some (.return_, (0, 0, 0), .null, []) := by decide +kernel
theorem hn_75 : (ax_mm 75).2.2.1 = 2 := by decide +kernel
theorem hr_75 : (ax_mm 75).2.2.2.1 = (some .int) := by decide +kernel
theorem hk_75_0 : ax_look 75 0 = some (.aload_n 0, (0, 0, 0), .null, []) := by decide +kernel
theorem hk_75_1 : ax_look 75 1 = some (.iload_n 1, (0, 0, 0), .null, []) := by decide +kernel
theorem hk_75_2 : ax_look 75 2 = some (.invokevirtual 158, (111, 1, 8), .null, [2238, 15]) := by decide +kernel
theorem hk_75_5 : ax_look 75 5 = some (.aload_n 0, (0, 0, 0), .null, []) := by decide +kernel
theorem hk_75_6 : ax_look 75 6 = some (.getfield 32, (8, 3, 0), .null, [1226]) := by decide +kernel
theorem hk_75_9 : ax_look 75 9 = some (.iconst 0, (0, 0, 0), .null, []) := by decide +kernel
theorem hk_75_10 : ax_look 75 10 = some (.invokevirtual 161, (263, 1, 10), .null, [999999, 999999]) := by decide +kernel
theorem hk_75_13 : ax_look 75 13 = some (.aload_n 0, (0, 0, 0), .null, []) := by decide +kernel
theorem hk_75_14 : ax_look 75 14 = some (.getfield 38, (8, 4, 0), .null, [1227]) := by decide +kernel
theorem hk_75_17 : ax_look 75 17 = some (.iload_n 1, (0, 0, 0), .null, []) := by decide +kernel
theorem hk_75_18 : ax_look 75 18 = some (.aaload, (0, 0, 0), .null, []) := by decide +kernel
theorem hk_75_19 : ax_look 75 19 = some (.aload_n 0, (0, 0, 0), .null, []) := by decide +kernel
theorem hk_75_20 : ax_look 75 20 = some (.getfield 32, (8, 3, 0), .null, [1226]) := by decide +kernel
theorem hk_75_23 : ax_look 75 23 = some (.invokevirtual 164, (16, 1, 1), .null, [999999, 999999]) := by decide +kernel
theorem hk_75_26 : ax_look 75 26 = some (.aload_n 0, (0, 0, 0), .null, []) := by decide +kernel
theorem hk_75_27 : ax_look 75 27 = some (.getfield 32, (8, 3, 0), .null, [1226]) := by decide +kernel
theorem hk_75_30 : ax_look 75 30 = some (.invokevirtual 168, (258, 0, 10), .null, [999999, 999999]) := by decide +kernel
theorem hk_75_33 : ax_look 75 33 = some (.ireturn, (0, 0, 0), .null, []) := by decide +kernel
theorem hn_76 : (ax_mm 76).2.2.1 = 2 := by decide +kernel
theorem hr_76 : (ax_mm 76).2.2.2.1 = (some .int) := by decide +kernel
theorem hk_76_0 : ax_look 76 0 = some (.iload_n 1, (0, 0, 0), .null, []) := by decide +kernel
theorem hk_76_1 : ax_look 76 1 = some (.ifCond .lt 14, (0, 0, 0), .null, []) := by decide +kernel
theorem hk_76_4 : ax_look 76 4 = some (.iload_n 1, (0, 0, 0), .null, []) := by decide +kernel
theorem hk_76_5 : ax_look 76 5 = some (.aload_n 0, (0, 0, 0), .null, []) := by decide +kernel
theorem hk_76_6 : ax_look 76 6 = some (.getfield 32, (8, 3, 0), .null, [1226]) := by decide +kernel
theorem hk_76_9 : ax_look 76 9 = some (.invokevirtual 168, (258, 0, 10), .null, [999999, 999999]) := by decide +kernel
theorem hk_76_12 : ax_look 76 12 = some (.if_icmp .lt 13, (0, 0, 0), .null, []) := by decide +kernel
theorem hk_76_15 : ax_look 76 15 = some (.new 170, (802, 0, 0), .null, []) := by decide +kernel
theorem hk_76_18 : ax_look 76 18 = some (.dup, (0, 0, 0), .null, []) := by decide +kernel
theorem hk_76_19 : ax_look 76 19 = some (.ldc 172, (900, 0, 0), .null, []) := by decide +kernel
theorem hk_76_21 : ax_look 76 21 = some (.invokespecial 174, (900, 0, 0), .null, []) := by decide +kernel
theorem hk_76_24 : ax_look 76 24 = some (.athrow, (0, 0, 0), .null, []) := by decide +kernel
theorem hk_76_25 : ax_look 76 25 = some (.aload_n 0, (0, 0, 0), .null, []) := by decide +kernel
theorem hk_76_26 : ax_look 76 26 = some (.getfield 32, (8, 3, 0), .null, [1226]) := by decide +kernel
theorem hk_76_29 : ax_look 76 29 = some (.iload_n 1, (0, 0, 0), .null, []) := by decide +kernel
theorem hk_76_30 : ax_look 76 30 = some (.invokevirtual 175, (264, 1, 10), .null, [999999, 999999]) := by decide +kernel
theorem hk_76_33 : ax_look 76 33 = some (.ireturn, (0, 0, 0), .null, []) := by decide +kernel
theorem hn_111 : (ax_mm 111).2.2.1 = 2 := by decide +kernel
theorem hr_111 : (ax_mm 111).2.2.2.1 = none := by decide +kernel
theorem hk_111_0 : ax_look 111 0 = some (.iload_n 1, (0, 0, 0), .null, []) := by decide +kernel
theorem hk_111_1 : ax_look 111 1 = some (.ifCond .lt 11, (0, 0, 0), .null, []) := by decide +kernel
theorem hk_111_4 : ax_look 111 4 = some (.iload_n 1, (0, 0, 0), .null, []) := by decide +kernel
theorem hk_111_5 : ax_look 111 5 = some (.aload_n 0, (0, 0, 0), .null, []) := by decide +kernel
theorem hk_111_6 : ax_look 111 6 = some (.getfield 42, (8, 5, 0), .null, [1228]) := by decide +kernel
theorem hk_111_9 : ax_look 111 9 = some (.if_icmp .lt 14, (0, 0, 0), .null, []) := by decide +kernel
theorem hk_111_12 : ax_look 111 12 = some (.new 170, (802, 0, 0), .null, []) := by decide +kernel
theorem hk_111_15 : ax_look 111 15 = some (.dup, (0, 0, 0), .null, []) := by decide +kernel
theorem hk_111_16 : ax_look 111 16 = some (.ldc_w 356, (900, 0, 0), .null, []) := by decide +kernel
theorem hk_111_19 : ax_look 111 19 = some (.invokespecial 174, (900, 0, 0), .null, []) := by decide +kernel
theorem hk_111_22 : ax_look 111 22 = some (.athrow, (0, 0, 0), .null, []) := by decide +kernel
theorem hk_111_23 : ax_look 111 23 = some (.return_, (0, 0, 0), .null, []) := by decide +kernel
theorem hn_258 : (ax_mm 258).2.2.1 = 1 := by decide +kernel
theorem hr_258 : (ax_mm 258).2.2.2.1 = (some .int) := by decide +kernel
theorem hk_258_0 : ax_look 258 0 = some (.aload_n 0, (0, 0, 0), .null, []) := by decide +kernel
theorem hk_258_1 : ax_look 258 1 = some (.invokespecial 343, (259, 0, 3), .null, [4175, 4171, 1119]) := by decide +kernel
theorem hk_258_4 : ax_look 258 4 = some (.ireturn, (0, 0, 0), .null, []) := by decide +kernel
theorem hn_259 : (ax_mm 259).2.2.1 = 1 := by decide +kernel
theorem hr_259 : (ax_mm 259).2.2.2.1 = (some .int) := by decide +kernel
theorem hk_259_0 : ax_look 259 0 = some (.aload_n 0, (0, 0, 0), .null, []) := by decide +kernel
theorem hk_259_1 : ax_look 259 1 = some (.getfield 79, (10, 3, 0), .null, [1110]) := by decide +kernel
theorem hk_259_4 : ax_look 259 4 = some (.ireturn, (0, 0, 0), .null, []) := by decide +kernel
theorem hy_t0_5 : ty_tt 0 5 = (0, 0, 0, 0, 60) := by decide +kernel
theorem hy_t0_3 : ty_tt 0 3 = (2, 5, 0, 0, 0) := by decide +kernel

section HA
variable {l : Launch} {d i pc ix : Nat} {P : ax_P} {X : ax_PX} {lv : List (Nat × Value)} {st rest : List Value} {h h0 h' : ax_H} {bc bs' : Nat} {v : Value} {ws : List Nat} {w : Nat × Nat × Nat} {e a c F G : Nat} {q q' : Int} {K : Int}
def hb_Le : Nat → Nat
  | 0 => 16
  | 1 => 34
  | 2 => 70
  | 3 => 142
  | 4 => 286
  | _ => 574
def hb_Pc (e : Nat) : Nat := 5 - e
def hb_Ps : Nat → Nat
  | 0 => 1106
  | 1 => 1072
  | 2 => 1002
  | 3 => 860
  | 4 => 574
  | _ => 0
def hb_E (e : Nat) (q : Int) : Nat := if q ≤ hb_Le e then e else e + 1
theorem hb_Lm : ∀ e, 16 ≤ hb_Le e ∧ hb_Le e ≤ 574
  | 0 => by decide
  | 1 => by decide
  | 2 => by decide
  | 3 => by decide
  | 4 => by decide
  | _ + 5 => (show 16 ≤ 574 ∧ 574 ≤ 574 from by decide)
theorem hb_pot (he : e < 6) (h1 : q ≤ 574) (h2 : q ≤ 2 * hb_Le e + 2) : hb_E e q < 6 ∧ hb_L (hb_Le e) q = hb_Le (hb_E e q) ∧ q ≤ hb_Le (hb_E e q) ∧ hb_Pc (hb_E e q) + hb_c (hb_Le e) q = hb_Pc e ∧ hb_Ps (hb_E e q) + hb_m (hb_Le e) q = hb_Ps e := by
  by_cases c : q ≤ hb_Le e
  · have e1 : hb_E e q = e := if_pos c
    have e2 : hb_L (hb_Le e) q = hb_Le e := if_pos c
    have e3 : hb_c (hb_Le e) q = 0 := if_pos c
    have e4 : hb_m (hb_Le e) q = 0 := if_pos c
    rw [e1, e2, e3, e4]
    exact ⟨he, rfl, c, rfl, rfl⟩
  · have e1 : hb_E e q = e + 1 := if_neg c
    have e2 : hb_L (hb_Le e) q = 2 * hb_Le e + 2 := if_neg c
    have e3 : hb_c (hb_Le e) q = 1 := if_neg c
    have e4 : hb_m (hb_Le e) q = 2 * hb_Le e + 2 := if_neg c
    rw [e1, e2, e3, e4]
    rcases (by omega : e = 0 ∨ e = 1 ∨ e = 2 ∨ e = 3 ∨ e = 4 ∨ e = 5) with rfl | rfl | rfl | rfl | rfl | rfl
    · exact ⟨by decide, rfl, by show q ≤ (34 : Int); have : q ≤ 2 * (16 : Int) + 2 := h2; omega, rfl, rfl⟩
    · exact ⟨by decide, rfl, by show q ≤ (70 : Int); have : q ≤ 2 * (34 : Int) + 2 := h2; omega, rfl, rfl⟩
    · exact ⟨by decide, rfl, by show q ≤ (142 : Int); have : q ≤ 2 * (70 : Int) + 2 := h2; omega, rfl, rfl⟩
    · exact ⟨by decide, rfl, by show q ≤ (286 : Int); have : q ≤ 2 * (142 : Int) + 2 := h2; omega, rfl, rfl⟩
    · exact ⟨by decide, rfl, by show q ≤ (574 : Int); exact h1, rfl, rfl⟩
    · exact absurd (show q ≤ (574 : Int) from h1) c
theorem hb_E_le : e ≤ hb_E e q := by unfold hb_E; split <;> omega
theorem hb_E_mono (h : q ≤ q') : hb_E e q ≤ hb_E e q' := by unfold hb_E; split <;> split <;> omega
theorem hb_E_E (he : e < 6) (h : q ≤ q') (h1 : q' ≤ 574) (h2 : q' ≤ 2 * hb_Le e + 2) : hb_E (hb_E e q) q' = hb_E e q' := by
  by_cases c : q ≤ hb_Le e
  · rw [show hb_E e q = e from if_pos c]
  · have e1 : hb_E e q = e + 1 := if_neg c
    have e2 : hb_E e q' = e + 1 := if_neg (by omega)
    have := (hb_pot he h1 h2).2.2.1
    rw [e2] at this
    rw [e1, e2]
    exact if_pos this
theorem hb_Pm {e e' : Nat} (h : e ≤ e') : hb_Pc e' ≤ hb_Pc e := by unfold hb_Pc; omega
theorem hb_Psm {e e' : Nat} (h : e ≤ e') (h6 : e' < 6) : hb_Ps e' ≤ hb_Ps e := by
  have : ∀ e' < 6, ∀ e < 6, e ≤ e' → hb_Ps e' ≤ hb_Ps e := by decide
  exact this e' h6 e (by omega) h
/-- the builder, e times grown, with q letters -/
def hb_S (e : Nat) (q : Int) (h : ax_H) : Prop := e < 6 ∧ 0 ≤ q ∧ q ≤ hb_Le e ∧ ∃ k bs ml, ∃ n : Int32, hb k bs ml n h ∧ bs.length = hb_Le e ∧ n.toInt = q
theorem AR.ap {x : Value} (hl : ax_look i pc = some (.invokevirtual ix, (a, 1, 10), v, ws)) (hm : ax_has a = true ∧ ax_st a = false ∧ (ax_mm a).2.2.2.2 = []) (S : hb_S e q h) (hM : ∀ k bs ml, ∀ n : Int32, hb k bs ml n h → bs.length = hb_Le e → n.toInt = q → AM ax_ns l (ax_mm a) 4 ty_R (hb_c bs.length q') (hb_m bs.length q') [.ref 5, x] h (hq_ap h bs.length q')) (g0 : q ≤ q') (g1 : q' ≤ 574) (g2 : q' ≤ q + 14) (hF : F ≤ hb_Pc (hb_E e q')) (hG : G ≤ hb_Ps (hb_E e q')) (hd : 5 ≤ d) (hcat : (rest.map fun v => v.category).sum ≤ 8) (k : ∀ h', hb_fr h h' → hb_S (hb_E e q') q' h' → AR ax_ns l (ax_mm i) d ty_R P X (pc + 3) lv (.ref 5 :: rest) h' (hb_Pc (hb_E e q') - F) (hb_Ps (hb_E e q') - G)) : AR ax_ns l (ax_mm i) d ty_R P X pc lv (x :: .ref 5 :: rest) h (hb_Pc e - F) (hb_Ps e - G) := by
  obtain ⟨he, q0, q1, kk, bs, ml, n, B, hL, hn⟩ := S
  have hLm := hb_Lm e
  obtain ⟨p1, p2, p3, p4, p5⟩ := hb_pot he g1 (by omega)
  refine AR.j5 (as := [x]) (rest := rest) hl hm B.1 rfl rfl hcat (hM kk bs ml n B hL hn) (by omega) (by rw [hL]; omega) (by rw [hL]; omega) (fun E h' q => by cases q.1) ?_
  rintro w h' ⟨e9, Fr, k', bs', ml', n', B', l', n2⟩
  cases e9
  rw [hL] at l'
  have r := k h' Fr ⟨p1, by omega, p3, k', bs', ml', n', B', by rw [l', p2], n2⟩
  rw [hL, show hb_Pc e - F - hb_c (hb_Le e) q' = hb_Pc (hb_E e q') - F by omega, show hb_Ps e - G - hb_m (hb_Le e) q' = hb_Ps (hb_E e q') - G by omega]
  exact r
theorem AR.apC (hlst : l.stackTraces = false) {y : Int32} (hl : ax_look i pc = some (.invokevirtual ix, (260, 1, 10), v, ws)) (S : hb_S e q h) (hy : y.toInt ≤ 255) (g1 : q + 1 ≤ 574) (hF : F ≤ hb_Pc (hb_E e (q + 1))) (hG : G ≤ hb_Ps (hb_E e (q + 1))) (hd : 5 ≤ d) (hcat : (rest.map fun v => v.category).sum ≤ 8) (k : ∀ h', hb_fr h h' → hb_S (hb_E e (q + 1)) (q + 1) h' → AR ax_ns l (ax_mm i) d ty_R P X (pc + 3) lv (.ref 5 :: rest) h' (hb_Pc (hb_E e (q + 1)) - F) (hb_Ps (hb_E e (q + 1)) - G)) : AR ax_ns l (ax_mm i) d ty_R P X pc lv (.int y :: .ref 5 :: rest) h (hb_Pc e - F) (hb_Ps e - G) :=
  AR.ap hl (by decide +kernel) S (fun kk bs ml n B hL hn => by
    have h1 := hb_Lm e
    have h2 := S.2.1
    have h3 := S.2.2.1
    rw [← hn]
    exact hj_C hlst B (by omega) (by omega) (by omega) (by omega) hy) (by omega) g1 (by omega) hF hG hd hcat k
theorem AR.apI (hlst : l.stackTraces = false) {y : Int32} (hl : ax_look i pc = some (.invokevirtual ix, (261, 1, 10), v, ws)) (S : hb_S e q h) (g1 : q + hb_sz y.toInt ≤ 574) (hF : F ≤ hb_Pc (hb_E e (q + hb_sz y.toInt))) (hG : G ≤ hb_Ps (hb_E e (q + hb_sz y.toInt))) (hd : 5 ≤ d) (hcat : (rest.map fun v => v.category).sum ≤ 8) (k : ∀ h', hb_fr h h' → hb_S (hb_E e (q + hb_sz y.toInt)) (q + hb_sz y.toInt) h' → AR ax_ns l (ax_mm i) d ty_R P X (pc + 3) lv (.ref 5 :: rest) h' (hb_Pc (hb_E e (q + hb_sz y.toInt)) - F) (hb_Ps (hb_E e (q + hb_sz y.toInt)) - G)) : AR ax_ns l (ax_mm i) d ty_R P X pc lv (.int y :: .ref 5 :: rest) h (hb_Pc e - F) (hb_Ps e - G) :=
  have hz := hb_sz_le y
  AR.ap hl (by decide +kernel) S (fun kk bs ml n B hL hn => by
    have h1 := hb_Lm e
    have h2 := S.2.1
    have h3 := S.2.2.1
    rw [← hn]
    exact hj_I hlst B (by omega) (by omega) (by omega) (by omega)) (by omega) g1 (by omega) hF hG hd hcat k
theorem AR.apS (hlst : l.stackTraces = false) {j nn : Nat} (hs : hj_st j nn) (hl : ax_look i pc = some (.invokevirtual ix, (262, 1, 10), v, ws)) (S : hb_S e q h) (g1 : q + nn ≤ 574) (hF : F ≤ hb_Pc (hb_E e (q + nn))) (hG : G ≤ hb_Ps (hb_E e (q + nn))) (hd : 5 ≤ d) (hcat : (rest.map fun v => v.category).sum ≤ 8) (k : ∀ h', hb_fr h h' → hb_S (hb_E e (q + nn)) (q + nn) h' → AR ax_ns l (ax_mm i) d ty_R P X (pc + 3) lv (.ref 5 :: rest) h' (hb_Pc (hb_E e (q + nn)) - F) (hb_Ps (hb_E e (q + nn)) - G)) : AR ax_ns l (ax_mm i) d ty_R P X pc lv (.ref (1000000000 + j) :: .ref 5 :: rest) h (hb_Pc e - F) (hb_Ps e - G) :=
  have hz := hs.le
  AR.ap hl (by decide +kernel) S (fun kk bs ml n B hL hn => by
    have h1 := hb_Lm e
    have h2 := S.2.1
    have h3 := S.2.2.1
    rw [← hn]
    exact hj_S hlst B (by omega) (by omega) (by omega) (by omega) hs) (by omega) g1 (by omega) hF hG hd hcat k
/-- a call on an object of any class of ours -/
theorem AR.jr {b r t dy mc ms : Nat} {as : List Value} {Q : ax_Q} {vs : List Value} (hl : ax_look i pc = some (.invokevirtual ix, (a, b, t), v, ws)) (ht : t < 11) (hm : ax_has a = true ∧ ax_st a = false ∧ (ax_mm a).2.2.2.2 = []) (hr : r < 1000000000) (hg : h[r]? = some (t, vs)) (hst : st = as.reverse ++ .ref r :: rest) (hb : as.length = b) (hcat : (rest.map fun v => v.category).sum ≤ 8) (hM : AM ax_ns l (ax_mm a) dy ty_R mc ms (.ref r :: as) h Q) (hdy : dy + 1 ≤ d) (hmc : mc ≤ bc) (hms : ms ≤ bs')
    (k : ∀ x h', Q (.inl x) h' → AR ax_ns l (ax_mm i) d ty_R P X (pc + 3) lv (x.toList ++ rest) h' (bc - mc) (bs' - ms)) (kx : ∀ E h', Q (.inr E) h' → AX ax_ns l (ax_mm i) d ty_R P X pc lv E h' (bc - mc) (bs' - ms)) : AR ax_ns l (ax_mm i) d ty_R P X pc lv st h bc bs' := by
  obtain ⟨d1, d2, d3⟩ := hy_drop (rest := rest) (.ref r) hb
  refine AR.call hl (as := .ref r :: as) (rest := rest) ?_ hM hdy hmc hms k kx
  subst hst
  have hc : ax_has a = true ∧ ax_st a = false ∧ (ax_mm a).2.2.2.2 = [] ∧ b ≤ (as.reverse ++ .ref r :: rest).length ∧ (rest.map fun v => v.category).sum ≤ 8 ∧ True := ⟨hm.1, hm.2.1, hm.2.2, d3, hcat, trivial⟩
  have hg2 := hb_get hr hg
  simp only [ax_arg, d1, hg2, d2]
  rw [if_pos hc]
/-- a constraint: its coefficients at a, its bound -/
def hb_cn (h : ax_H) (c a : Nat) (cs : List Value) (bd : Int32) : Prop := (∃ y, h[c]? = some (1, [.ref a, .int bd, y])) ∧ h[a]? = some (100, cs) ∧ cs.length = 24 ∧ (∀ x ∈ cs, ∃ i : Int32, x = .int i) ∧ c < 198 ∧ a < 198 ∧ c ≠ 5 ∧ a ≠ 5
theorem hb_cn.fr {cs : List Value} {bd : Int32} (C : hb_cn h c a cs bd) (F : hb_fr h h') : hb_cn h' c a cs bd := by
  obtain ⟨⟨y, c1⟩, c2, c3, c4, c5, c6, c7, c8⟩ := C
  exact ⟨⟨y, (F.2 c c7 _ c1).1 (Nat.ne_of_beq_eq_false rfl)⟩, (F.2 a c8 _ c2).1 (Nat.ne_of_beq_eq_false rfl), c3, c4, c5, c6, c7, c8⟩
theorem hb_ct1 : ∀ c, c < 198 → ax_gm 0 c = true → (ty_tab c).1 = 1 ∧ (ty_tab c).2.1 = 3 := by decide +kernel
theorem hb_vx {t : ty_V} {k n : Nat} {f a z : Int} (h : t.1 = k ∧ t.2.1 = n ∧ t.2.2.1 = f ∧ t.2.2.2.1 = a ∧ t.2.2.2.2 = z) : t = (k, n, f, a, z) := by
  obtain ⟨x1, x2, x3, x4, x5⟩ := t
  obtain ⟨h1, h2, h3, h4, h5⟩ := h
  have h1 : x1 = k := h1
  have h2 : x2 = n := h2
  have h3 : x3 = f := h3
  have h4 : x4 = a := h4
  have h5 : x5 = z := h5
  subst h1 h2 h3 h4 h5
  rfl
theorem hb_ct2 : ∀ c, c < 198 → ax_gm 0 c = true → (ty_tt c 0).1 = 2 ∧ (ty_tt c 0).2.1 = c + 1 ∧ (ty_tt c 0).2.2.1 = 0 ∧ (ty_tt c 0).2.2.2.1 = 0 ∧ (ty_tt c 0).2.2.2.2 = 0 := by decide +kernel
theorem hb_ct3 : ∀ c, c < 198 → ax_gm 0 c = true → (ty_tt c 1).1 = 0 ∧ (ty_tt c 1).2.1 = 0 ∧ (ty_tt c 1).2.2.1 = 0 ∧ (ty_tt c 1).2.2.2.1 = -2147483648 ∧ (ty_tt c 1).2.2.2.2 = 2147483647 := by decide +kernel
theorem hb_ct4 : ∀ c, c < 198 → ax_gm 0 c = true → c + 1 < 198 ∧ (ty_tab (c + 1)).1 = 100 ∧ (ty_tab (c + 1)).2.1 = 24 := by decide +kernel
theorem hb_ct5 : ∀ c, c < 198 → ax_gm 0 c = true → (ty_tt (c + 1) 0).1 = 0 ∧ (ty_tt (c + 1) 0).2.1 = 0 ∧ (ty_tt (c + 1) 0).2.2.1 = 0 ∧ (ty_tt (c + 1) 0).2.2.2.1 = -2147483648 ∧ (ty_tt (c + 1) 0).2.2.2.2 = 2147483647 := by decide +kernel
theorem hb_ct6 : ∀ c, c < 198 → ax_gm 0 c = true → ty_ar (c + 1) = true ∧ c ≠ 5 ∧ c + 1 ≠ 5 := by decide +kernel
theorem hb_cn.of (hH : hy_H K h) (hc : ax_gm 0 c = true) : ∃ a cs bd, hb_cn h c a cs bd := by
  have hc1 := ty_gm_lt hc
  obtain ⟨t1, t2⟩ := hb_ct1 c hc1 hc
  have t3 := hb_vx (hb_ct2 c hc1 hc)
  have t4 := hb_vx (hb_ct3 c hc1 hc)
  obtain ⟨t5, t6, t7⟩ := hb_ct4 c hc1 hc
  have t8 := hb_vx (hb_ct5 c hc1 hc)
  obtain ⟨t9, t10, t11⟩ := hb_ct6 c hc1 hc
  obtain ⟨vs, e1, e2, e3⟩ := hy_cell hH hc1
  obtain ⟨us, f1, f2, f3⟩ := hy_cell hH t5
  rw [t1] at e1
  rw [t6] at f1
  rw [t2] at e2
  rw [t7] at f2
  match vs, e2 with
  | [x0, x1, x2], _ =>
    have a0 := e3 0 x0 rfl
    have a1 := e3 1 x1 rfl
    rw [t3] at a0
    rw [t4] at a1
    obtain ⟨bd, rfl, -⟩ := a1
    cases (show x0 = .ref (c + 1) from a0)
    refine ⟨c + 1, us, bd, ⟨x2, e1⟩, f1, f2, fun x hx => ?_, hc1, t5, t10, t11⟩
    obtain ⟨j, hj, rfl⟩ := List.mem_iff_getElem.mp hx
    have b := f3 j _ (List.getElem?_eq_getElem hj)
    rw [ty_tt_ar t9, t8] at b
    obtain ⟨i, hi, -⟩ := b
    exact ⟨i, hi⟩
theorem hb_co {cs : List Value} {bd y : Int32} (C : hb_cn h c a cs bd) (h0 : 0 ≤ y.toInt) (h1 : y.toInt < 24) : ∃ co : Int32, cs[y.toInt.toNat]? = some (.int co) := by
  have hl : y.toInt.toNat < cs.length := by have := C.2.2.1; omega
  obtain ⟨co, e⟩ := C.2.2.2.1 _ (List.getElem_mem hl)
  exact ⟨co, by rw [List.getElem?_eq_getElem hl, e]⟩
theorem AR.co {cs : List Value} {bd y co : Int32} (hl : ax_look i pc = some (.iaload, w, v, ws)) (C : hb_cn h c a cs bd) (h0 : 0 ≤ y.toInt) (hco : cs[y.toInt.toNat]? = some (.int co)) (k : AR ax_ns l (ax_mm i) d ty_R P X (pc + 1) lv (.int co :: st) h bc bs') : AR ax_ns l (ax_mm i) d ty_R P X pc lv (.int y :: .ref a :: st) h bc bs' :=
  AR.iax hl (by have := C.2.2.2.2.2.1; omega) C.2.1 (hj_nn h0).1 hco k
theorem AR.c0 {f : Nat} {cs : List Value} {bd : Int32} (hl : ax_look i pc = some (.getfield ix, (1, 0, f), v, ws)) (C : hb_cn h c a cs bd) (k : AR ax_ns l (ax_mm i) d ty_R P X (pc + 3) lv (.ref a :: st) h bc bs') : AR ax_ns l (ax_mm i) d ty_R P X pc lv (.ref c :: st) h bc bs' := by
  obtain ⟨y, c1⟩ := C.1
  exact AR.gx hl (by decide) (by have := C.2.2.2.2.1; omega) c1 rfl k
theorem AR.c1 {f : Nat} {cs : List Value} {bd : Int32} (hl : ax_look i pc = some (.getfield ix, (1, 1, f), v, ws)) (C : hb_cn h c a cs bd) (k : AR ax_ns l (ax_mm i) d ty_R P X (pc + 3) lv (.int bd :: st) h bc bs') : AR ax_ns l (ax_mm i) d ty_R P X pc lv (.ref c :: st) h bc bs' := by
  obtain ⟨y, c1⟩ := C.1
  exact AR.gx hl (by decide) (by have := C.2.2.2.2.1; omega) c1 rfl k
def hb_pa (y : Int32) : Int := if (y &&& Int32.ofInt 1).toInt = 1 then 1 else 0
def hb_tc (co : Int32) : Int := if co.toInt = 1 then 0 else hb_sz co.toInt
theorem hb_pa_le (y : Int32) : 0 ≤ hb_pa y ∧ hb_pa y ≤ 1 := by unfold hb_pa; split <;> omega
theorem hb_tc_le (y : Int32) : 0 ≤ hb_tc y ∧ hb_tc y ≤ 11 := by
  have := hb_sz_le y
  unfold hb_tc
  split <;> omega
theorem hb_let {y : Int32} (h0 : 0 ≤ y.toInt) (h1 : y.toInt < 24) : ((((Int8.ofInt 97).toInt32 + (y >>> (Int32.ofInt 1 &&& 31))).toUInt32 % 65536).toInt32).toInt ≤ 255 := by
  have g : ∀ n < 24, ((((Int8.ofInt 97).toInt32 + (Int32.ofNat n >>> (Int32.ofInt 1 &&& 31))).toUInt32 % 65536).toInt32).toInt ≤ 255 := by decide +kernel
  have e : y = Int32.ofNat y.toInt.toNat := Int32.toInt_inj.mp (by rw [Int32.toInt_ofNat_of_lt (by omega)]; omega)
  rw [e]
  exact g _ (by omega)
def hq_at (h0 : ax_H) (e : Nat) (q : Int) : ax_Q := fun res h' => res = .inl none ∧ hb_fr h0 h' ∧ hb_S e q h'
theorem ha_17c (hlst : l.stackTraces = false) {y : Int32} (S : hb_S e q h) (F0 : hb_fr h0 h) (y0 : 0 ≤ y.toInt) (y1 : y.toInt < 24) (hq : q + 1 ≤ 574) (hF : F = hb_Pc (hb_E e (q + 1))) (hG : G = hb_Ps (hb_E e (q + 1))) : AR ax_ns l (ax_mm 17) 5 ty_R (ax_ret ax_ns (ax_mm 17) (hq_at h0 (hb_E e (q + 1)) (q + 1))) X 35 [(0, .ref c), (1, .ref 5), (2, .int y)] [] h (hb_Pc e - F) (hb_Ps e - G) := by
  show AR _ _ _ _ _ _ _ 35 [(0, .ref c), (1, .ref 5), (2, .int y)] [] h _ _
  refine AR.s (pc' := 36) (lv' := [(0, .ref c), (1, .ref 5), (2, .int y)]) (st' := [.ref 5]) (h' := h) _ hn_17 hk_17_35 rfl ?_
  refine AR.s (pc' := 38) (lv' := [(0, .ref c), (1, .ref 5), (2, .int y)]) (st' := [.int (Int8.ofInt 97).toInt32, .ref 5]) (h' := h) _ hn_17 hk_17_36 rfl ?_
  refine AR.s (pc' := 39) (lv' := [(0, .ref c), (1, .ref 5), (2, .int y)]) (st' := [.int y, .int (Int8.ofInt 97).toInt32, .ref 5]) (h' := h) _ hn_17 hk_17_38 rfl ?_
  refine AR.s (pc' := 40) (lv' := [(0, .ref c), (1, .ref 5), (2, .int y)]) (st' := [.int (Int32.ofInt 1), .int y, .int (Int8.ofInt 97).toInt32, .ref 5]) (h' := h) _ hn_17 hk_17_39 rfl ?_
  refine AR.s (pc' := 41) (lv' := [(0, .ref c), (1, .ref 5), (2, .int y)]) (st' := [.int (y >>> (Int32.ofInt 1 &&& 31)), .int (Int8.ofInt 97).toInt32, .ref 5]) (h' := h) _ hn_17 hk_17_40 rfl ?_
  refine AR.s (pc' := 42) (lv' := [(0, .ref c), (1, .ref 5), (2, .int y)]) (st' := [.int ((Int8.ofInt 97).toInt32 + (y >>> (Int32.ofInt 1 &&& 31))), .ref 5]) (h' := h) _ hn_17 hk_17_41 rfl ?_
  refine AR.i2c (z := .int (((Int8.ofInt 97).toInt32 + (y >>> (Int32.ofInt 1 &&& 31))).toUInt32 % 65536).toInt32) (ax_look_ok hk_17_42).1 rfl ?_
  have hle := hb_let y0 y1
  generalize (((Int8.ofInt 97).toInt32 + (y >>> (Int32.ofInt 1 &&& 31))).toUInt32 % 65536).toInt32 = ch at hle
  show AR _ _ _ _ _ _ _ 43 [(0, .ref c), (1, .ref 5), (2, .int y)] [.int ch, .ref 5] h _ _
  refine AR.apC hlst hk_17_43 S hle (by omega) (by rw [hF]; exact Nat.le_refl _) (by rw [hG]; exact Nat.le_refl _) (by decide) (Nat.le_of_ble_eq_true rfl) (fun g139 Fg139 Sg139 => ?_)
  show AR _ _ _ _ _ _ _ 46 [(0, .ref c), (1, .ref 5), (2, .int y)] [.ref 5] g139 _ _
  refine AR.s (pc' := 47) (lv' := [(0, .ref c), (1, .ref 5), (2, .int y)]) (st' := []) (h' := g139) _ hn_17 hk_17_46 rfl ?_
  exact AR.vret hk_17_47 hr_17 ⟨rfl, hb_fr.trans F0 Fg139, Sg139⟩
theorem ha_17b (hlst : l.stackTraces = false) {y : Int32} (S : hb_S e q h) (F0 : hb_fr h0 h) (y0 : 0 ≤ y.toInt) (y1 : y.toInt < 24) (hq : q + 2 ≤ 574) (hF : F = hb_Pc (hb_E e (q + hb_pa y + 1))) (hG : G = hb_Ps (hb_E e (q + hb_pa y + 1))) : AR ax_ns l (ax_mm 17) 5 ty_R (ax_ret ax_ns (ax_mm 17) (hq_at h0 (hb_E e (q + hb_pa y + 1)) (q + hb_pa y + 1))) X 21 [(0, .ref c), (1, .ref 5), (2, .int y)] [] h (hb_Pc e - F) (hb_Ps e - G) := by
  have hLm := hb_Lm e
  have hqL := S.2.2.1
  have hpa := hb_pa_le y
  show AR _ _ _ _ _ _ _ 21 [(0, .ref c), (1, .ref 5), (2, .int y)] [] h _ _
  refine AR.s (pc' := 22) (lv' := [(0, .ref c), (1, .ref 5), (2, .int y)]) (st' := [.int y]) (h' := h) _ hn_17 hk_17_21 rfl ?_
  refine AR.s (pc' := 23) (lv' := [(0, .ref c), (1, .ref 5), (2, .int y)]) (st' := [.int (Int32.ofInt 1), .int y]) (h' := h) _ hn_17 hk_17_22 rfl ?_
  refine AR.s (pc' := 24) (lv' := [(0, .ref c), (1, .ref 5), (2, .int y)]) (st' := [.int (y &&& Int32.ofInt 1)]) (h' := h) _ hn_17 hk_17_23 rfl ?_
  refine AR.iconstT hk_17_24 (by decide) (fun z140 ez140 => ?_)
  show AR _ _ _ _ _ _ _ 25 [(0, .ref c), (1, .ref 5), (2, .int y)] [.int z140, .int (y &&& Int32.ofInt 1)] h _ _
  refine AR.jne hk_17_25 (tgt := 35) (by decide) (fun p1 => ?_) (fun p2 => ?_)
  · have hp : hb_pa y = 0 := if_neg (by omega)
    rw [hp, Int.add_zero] at hF hG ⊢
    exact ha_17c hlst S F0 y0 y1 (by omega) hF hG
  · have hp : hb_pa y = 1 := if_pos (by omega)
    rw [hp] at hF hG ⊢
    have hEE := hb_E_E (q := q + 1) (q' := q + 1 + 1) S.1 (by omega) (by omega) (by omega)
    have hE6 := (hb_pot (q := q + 1 + 1) S.1 (by omega) (by omega)).1
    show AR _ _ _ _ _ _ _ 28 [(0, .ref c), (1, .ref 5), (2, .int y)] [] h _ _
    refine AR.s (pc' := 29) (lv' := [(0, .ref c), (1, .ref 5), (2, .int y)]) (st' := [.ref 5]) (h' := h) _ hn_17 hk_17_28 rfl ?_
    refine AR.bipushT hk_17_29 (by decide) (fun z141 ez141 => ?_)
    show AR _ _ _ _ _ _ _ 31 [(0, .ref c), (1, .ref 5), (2, .int y)] [.int z141, .ref 5] h _ _
    refine AR.apC hlst hk_17_31 S (by omega) (by omega) (by rw [hF]; exact hb_Pm (hb_E_mono (by omega))) (by rw [hG]; exact hb_Psm (hb_E_mono (by omega)) hE6) (by decide) (Nat.le_of_ble_eq_true rfl) (fun g142 Fg142 Sg142 => ?_)
    show AR _ _ _ _ _ _ _ 34 [(0, .ref c), (1, .ref 5), (2, .int y)] [.ref 5] g142 _ _
    refine AR.s (pc' := 35) (lv' := [(0, .ref c), (1, .ref 5), (2, .int y)]) (st' := []) (h' := g142) _ hn_17 hk_17_34 rfl ?_
    rw [← hEE] at hF hG ⊢
    exact ha_17c hlst Sg142 (hb_fr.trans F0 Fg142) y0 y1 (by omega) hF hG
theorem ha_17 (hlst : l.stackTraces = false) {cs : List Value} {bd : Int32} {y co : Int32} (C : hb_cn h c a cs bd) (S : hb_S e q h) (y0 : 0 ≤ y.toInt) (y1 : y.toInt < 24) (hco : cs[y.toInt.toNat]? = some (.int co)) (hq : q + 13 ≤ 574) : AM ax_ns l (ax_mm 17) 5 ty_R (hb_Pc e - hb_Pc (hb_E e (q + hb_tc co + hb_pa y + 1))) (hb_Ps e - hb_Ps (hb_E e (q + hb_tc co + hb_pa y + 1))) [.ref c, .ref 5, .int y] h (hq_at h (hb_E e (q + hb_tc co + hb_pa y + 1)) (q + hb_tc co + hb_pa y + 1)) := by
  refine AM.of (ax_mfacts (by decide +kernel : ax_has 17 = true)).2.2.2.2.2.2 hlst (by rw [hn_17]; exact Nat.le_of_ble_eq_true rfl) ?_
  have hLm := hb_Lm e
  have hqL := S.2.2.1
  have hpa := hb_pa_le y
  have htc := hb_tc_le co
  show AR ax_ns l (ax_mm 17) 5 ty_R _ _ 0 [(0, .ref c), (1, .ref 5), (2, .int y)] [] h _ _
  refine AR.s (pc' := 1) (lv' := [(0, .ref c), (1, .ref 5), (2, .int y)]) (st' := [.ref c]) (h' := h) _ hn_17 hk_17_0 rfl ?_
  refine AR.c0 hk_17_1 C ?_
  show AR _ _ _ _ _ _ _ 4 [(0, .ref c), (1, .ref 5), (2, .int y)] [.ref a] h _ _
  refine AR.s (pc' := 5) (lv' := [(0, .ref c), (1, .ref 5), (2, .int y)]) (st' := [.int y, .ref a]) (h' := h) _ hn_17 hk_17_4 rfl ?_
  refine AR.co hk_17_5 C y0 hco ?_
  show AR _ _ _ _ _ _ _ 6 [(0, .ref c), (1, .ref 5), (2, .int y)] [.int co] h _ _
  refine AR.iconstT hk_17_6 (by decide) (fun z143 ez143 => ?_)
  show AR _ _ _ _ _ _ _ 7 [(0, .ref c), (1, .ref 5), (2, .int y)] [.int z143, .int co] h _ _
  refine AR.jeq hk_17_7 (tgt := 21) (by decide) (fun p1 => ?_) (fun p2 => ?_)
  · have hp : hb_tc co = 0 := if_pos (by omega)
    rw [hp, Int.add_zero]
    exact ha_17b hlst S (hb_fr.refl h) y0 y1 (by omega) rfl rfl
  · have hp : hb_tc co = hb_sz co.toInt := if_neg (by omega)
    rw [hp] at htc ⊢
    have hEE := hb_E_E (q := q + hb_sz co.toInt) (q' := q + hb_sz co.toInt + hb_pa y + 1) S.1 (by omega) (by omega) (by omega)
    have hE6 := (hb_pot (q := q + hb_sz co.toInt + hb_pa y + 1) S.1 (by omega) (by omega)).1
    show AR _ _ _ _ _ _ _ 10 [(0, .ref c), (1, .ref 5), (2, .int y)] [] h _ _
    refine AR.s (pc' := 11) (lv' := [(0, .ref c), (1, .ref 5), (2, .int y)]) (st' := [.ref 5]) (h' := h) _ hn_17 hk_17_10 rfl ?_
    refine AR.s (pc' := 12) (lv' := [(0, .ref c), (1, .ref 5), (2, .int y)]) (st' := [.ref c, .ref 5]) (h' := h) _ hn_17 hk_17_11 rfl ?_
    refine AR.c0 hk_17_12 C ?_
    show AR _ _ _ _ _ _ _ 15 [(0, .ref c), (1, .ref 5), (2, .int y)] [.ref a, .ref 5] h _ _
    refine AR.s (pc' := 16) (lv' := [(0, .ref c), (1, .ref 5), (2, .int y)]) (st' := [.int y, .ref a, .ref 5]) (h' := h) _ hn_17 hk_17_15 rfl ?_
    refine AR.co hk_17_16 C y0 hco ?_
    show AR _ _ _ _ _ _ _ 17 [(0, .ref c), (1, .ref 5), (2, .int y)] [.int co, .ref 5] h _ _
    refine AR.apI hlst hk_17_17 S (by omega) (hb_Pm (hb_E_mono (by omega))) (hb_Psm (hb_E_mono (by omega)) hE6) (by decide) (Nat.le_of_ble_eq_true rfl) (fun g144 Fg144 Sg144 => ?_)
    show AR _ _ _ _ _ _ _ 20 [(0, .ref c), (1, .ref 5), (2, .int y)] [.ref 5] g144 _ _
    refine AR.s (pc' := 21) (lv' := [(0, .ref c), (1, .ref 5), (2, .int y)]) (st' := []) (h' := g144) _ hn_17 hk_17_20 rfl ?_
    rw [← hEE]
    exact ha_17b hlst Sg144 Fg144 y0 y1 (by omega) rfl rfl
def hq_16 (h0 : ax_H) : ax_Q := fun res h' => res = .inl none ∧ hb_fr h0 h' ∧ ∃ e q, hb_S e q h'
theorem hc_16 : (ax_mm 16).1.cls = "PseudoBoolean$Constraint" := by decide +kernel
theorem AR.l2 {ix : Nat} (hl : ax_look 16 pc = some (.ldc ix, w, v, ws)) (hi : ix = 61) (k : AR ax_ns l (ax_mm 16) d ty_R P X (pc + 2) lv (.ref (1000000000 + 2) :: st) h bc bs') : AR ax_ns l (ax_mm 16) d ty_R P X pc lv st h bc bs' := by
  subst hi
  exact AR.ldcS (j := 2) (ax_look_ok hl).1 (by decide) (fun b o U hJ => by rw [hc_16]; exact hJ.1.2) k
theorem AR.l4 {ix : Nat} (hl : ax_look 16 pc = some (.ldc ix, w, v, ws)) (hi : ix = 76) (k : AR ax_ns l (ax_mm 16) d ty_R P X (pc + 2) lv (.ref (1000000000 + 4) :: st) h bc bs') : AR ax_ns l (ax_mm 16) d ty_R P X pc lv st h bc bs' := by
  subst hi
  exact AR.ldcS (j := 4) (ax_look_ok hl).1 (by decide) (fun b o U hJ => by rw [hc_16]; exact hJ.2.1.2) k
theorem ha_16F (hlst : l.stackTraces = false) {cs : List Value} {bd : Int32} {ct : Int32} (C : hb_cn h0 c a cs bd) (S : hb_S e q h) (F0 : hb_fr h0 h) (hq : q ≤ 385) : AR ax_ns l (ax_mm 16) 6 ty_R (ax_ret ax_ns (ax_mm 16) (hq_16 h0)) X 56 [(2, .int ct), (0, .ref c), (1, .ref 5)] [] h (hb_Pc e - 0) (hb_Ps e - 0) := by
  have hz := hb_sz_le bd
  show AR _ _ _ _ _ _ _ 56 [(2, .int ct), (0, .ref c), (1, .ref 5)] [] h _ _
  refine AR.s (pc' := 57) (lv' := [(2, .int ct), (0, .ref c), (1, .ref 5)]) (st' := [.ref 5]) (h' := h) _ hn_16 hk_16_56 rfl ?_
  refine AR.l4 hk_16_57 rfl ?_
  show AR _ _ _ _ _ _ _ 59 [(2, .int ct), (0, .ref c), (1, .ref 5)] [.ref (1000000000 + 4), .ref 5] h _ _
  refine AR.apS hlst (Or.inr ⟨rfl, rfl⟩ : hj_st 4 4) hk_16_59 S (by omega) (Nat.zero_le _) (Nat.zero_le _) (by decide) (Nat.le_of_ble_eq_true rfl) (fun g145 Fg145 Sg145 => ?_)
  show AR _ _ _ _ _ _ _ 62 [(2, .int ct), (0, .ref c), (1, .ref 5)] [.ref 5] g145 _ _
  refine AR.s (pc' := 63) (lv' := [(2, .int ct), (0, .ref c), (1, .ref 5)]) (st' := []) (h' := g145) _ hn_16 hk_16_62 rfl ?_
  refine AR.s (pc' := 64) (lv' := [(2, .int ct), (0, .ref c), (1, .ref 5)]) (st' := [.ref 5]) (h' := g145) _ hn_16 hk_16_63 rfl ?_
  refine AR.s (pc' := 65) (lv' := [(2, .int ct), (0, .ref c), (1, .ref 5)]) (st' := [.ref c, .ref 5]) (h' := g145) _ hn_16 hk_16_64 rfl ?_
  refine AR.c1 hk_16_65 ((C.fr F0).fr Fg145) ?_
  show AR _ _ _ _ _ _ _ 68 [(2, .int ct), (0, .ref c), (1, .ref 5)] [.int bd, .ref 5] g145 _ _
  refine AR.apI hlst hk_16_68 Sg145 (by omega) (Nat.zero_le _) (Nat.zero_le _) (by decide) (Nat.le_of_ble_eq_true rfl) (fun g146 Fg146 Sg146 => ?_)
  show AR _ _ _ _ _ _ _ 71 [(2, .int ct), (0, .ref c), (1, .ref 5)] [.ref 5] g146 _ _
  refine AR.s (pc' := 72) (lv' := [(2, .int ct), (0, .ref c), (1, .ref 5)]) (st' := []) (h' := g146) _ hn_16 hk_16_71 rfl ?_
  exact AR.vret hk_16_72 hr_16 ⟨rfl, hb_fr.trans F0 (hb_fr.trans Fg145 Fg146), _, _, Sg146⟩
theorem ha_16E (hlst : l.stackTraces = false) {cs : List Value} {bd : Int32} {ct : Int32} (C : hb_cn h0 c a cs bd) (S : hb_S e q h) (F0 : hb_fr h0 h) (hq : q ≤ 384) : AR ax_ns l (ax_mm 16) 6 ty_R (ax_ret ax_ns (ax_mm 16) (hq_16 h0)) X 45 [(2, .int ct), (0, .ref c), (1, .ref 5)] [] h (hb_Pc e - 0) (hb_Ps e - 0) := by
  show AR _ _ _ _ _ _ _ 45 [(2, .int ct), (0, .ref c), (1, .ref 5)] [] h _ _
  refine AR.s (pc' := 46) (lv' := [(2, .int ct), (0, .ref c), (1, .ref 5)]) (st' := [.int ct]) (h' := h) _ hn_16 hk_16_45 rfl ?_
  refine AR.zne hk_16_46 (tgt := 56) (by decide) (fun p1 => ?_) (fun p2 => ?_)
  · exact ha_16F hlst C S F0 (by omega)
  · refine AR.s (pc' := 50) (lv' := [(2, .int ct), (0, .ref c), (1, .ref 5)]) (st' := [.ref 5]) (h' := h) _ hn_16 hk_16_49 rfl ?_
    refine AR.bipushT hk_16_50 (by decide) (fun z147 ez147 => ?_)
    show AR _ _ _ _ _ _ _ 52 [(2, .int ct), (0, .ref c), (1, .ref 5)] [.int z147, .ref 5] h _ _
    refine AR.apC hlst hk_16_52 S (by omega) (by omega) (Nat.zero_le _) (Nat.zero_le _) (by decide) (Nat.le_of_ble_eq_true rfl) (fun g148 Fg148 Sg148 => ?_)
    show AR _ _ _ _ _ _ _ 55 [(2, .int ct), (0, .ref c), (1, .ref 5)] [.ref 5] g148 _ _
    refine AR.s (pc' := 56) (lv' := [(2, .int ct), (0, .ref c), (1, .ref 5)]) (st' := []) (h' := g148) _ hn_16 hk_16_55 rfl ?_
    exact ha_16F hlst C Sg148 (hb_fr.trans F0 Fg148) (by omega)
theorem ha_16L (hlst : l.stackTraces = false) {X : ax_PX} {cs : List Value} {bd : Int32} (C : hb_cn h0 c a cs bd) : ∀ (m : Nat) (y ct : Int32) (e : Nat) (q : Int) (h : ax_H), y.toInt + m = 24 → 0 ≤ y.toInt → 0 ≤ ct.toInt → ct.toInt ≤ y.toInt → hb_fr h0 h → hb_S e q h → q ≤ 16 * y.toInt → AR ax_ns l (ax_mm 16) 6 ty_R (ax_ret ax_ns (ax_mm 16) (hq_16 h0)) X 4 [(3, .int y), (2, .int ct), (0, .ref c), (1, .ref 5)] [] h (hb_Pc e - 0) (hb_Ps e - 0) := by
  intro m
  induction m with
  | zero =>
    intro y ct e q h hm y0 c0 c1 F0 S hq
    show AR _ _ _ _ _ _ _ 4 [(3, .int y), (2, .int ct), (0, .ref c), (1, .ref 5)] [] h _ _
    refine AR.s (pc' := 5) (lv' := [(3, .int y), (2, .int ct), (0, .ref c), (1, .ref 5)]) (st' := [.int y]) (h' := h) _ hn_16 hk_16_4 rfl ?_
    refine AR.bipushT hk_16_5 (by decide) (fun z149 ez149 => ?_)
    show AR _ _ _ _ _ _ _ 7 [(3, .int y), (2, .int ct), (0, .ref c), (1, .ref 5)] [.int z149, .int y] h _ _
    refine AR.jge hk_16_7 (tgt := 45) (by decide) (fun p1 => ?_) (fun p2 => ?_)
    · refine AR.lessL (lv' := [(2, .int ct), (0, .ref c), (1, .ref 5)]) (List.forall_mem_cons.mpr ⟨⟨_, by simp, ax_le_rfl rfl⟩, (List.forall_mem_cons.mpr ⟨⟨_, by simp, ax_le_rfl rfl⟩, (List.forall_mem_cons.mpr ⟨⟨_, by simp, ax_le_rfl rfl⟩, (fun _ h => absurd h List.not_mem_nil)⟩)⟩)⟩) ?_
      exact ha_16E hlst C S F0 (by omega)
    · exact absurd p2 (by omega)
  | succ m ih =>
    intro y ct e q h hm y0 c0 c1 F0 S hq
    show AR _ _ _ _ _ _ _ 4 [(3, .int y), (2, .int ct), (0, .ref c), (1, .ref 5)] [] h _ _
    refine AR.s (pc' := 5) (lv' := [(3, .int y), (2, .int ct), (0, .ref c), (1, .ref 5)]) (st' := [.int y]) (h' := h) _ hn_16 hk_16_4 rfl ?_
    refine AR.bipushT hk_16_5 (by decide) (fun z150 ez150 => ?_)
    show AR _ _ _ _ _ _ _ 7 [(3, .int y), (2, .int ct), (0, .ref c), (1, .ref 5)] [.int z150, .int y] h _ _
    refine AR.jge hk_16_7 (tgt := 45) (by decide) (fun p1 => ?_) (fun p2 => ?_)
    · exact absurd p1 (by omega)
    · have C1 := C.fr F0
      obtain ⟨co, hco⟩ := hb_co C1 y0 (by omega)
      have htc := hb_tc_le co
      have hpa := hb_pa_le y
      show AR _ _ _ _ _ _ _ 10 [(3, .int y), (2, .int ct), (0, .ref c), (1, .ref 5)] [] h _ _
      refine AR.s (pc' := 11) (lv' := [(3, .int y), (2, .int ct), (0, .ref c), (1, .ref 5)]) (st' := [.ref c]) (h' := h) _ hn_16 hk_16_10 rfl ?_
      refine AR.c0 hk_16_11 C1 ?_
      show AR _ _ _ _ _ _ _ 14 [(3, .int y), (2, .int ct), (0, .ref c), (1, .ref 5)] [.ref a] h _ _
      refine AR.s (pc' := 15) (lv' := [(3, .int y), (2, .int ct), (0, .ref c), (1, .ref 5)]) (st' := [.int y, .ref a]) (h' := h) _ hn_16 hk_16_14 rfl ?_
      refine AR.co hk_16_15 C1 y0 hco ?_
      show AR _ _ _ _ _ _ _ 16 [(3, .int y), (2, .int ct), (0, .ref c), (1, .ref 5)] [.int co] h _ _
      refine AR.zle hk_16_16 (tgt := 39) (by decide) (fun p3 => ?_) (fun p4 => ?_)
      · refine AR.iincT hk_16_39 (x := y) rfl (by rw [hn_16]; decide) (by decide) (by omega) (by omega) (fun z151 ez151 => ?_)
        show AR _ _ _ _ _ _ _ 42 [(3, .int z151), (2, .int ct), (0, .ref c), (1, .ref 5)] [] h _ _
        refine AR.gotoT hk_16_42 (tgt := 4) (by decide) ?_
        refine AR.lessL (lv' := [(3, .int z151), (2, .int ct), (0, .ref c), (1, .ref 5)]) (List.forall_mem_cons.mpr ⟨⟨_, by simp, ax_le_rfl rfl⟩, (List.forall_mem_cons.mpr ⟨⟨_, by simp, ax_le_rfl rfl⟩, (List.forall_mem_cons.mpr ⟨⟨_, by simp, ax_le_rfl rfl⟩, (List.forall_mem_cons.mpr ⟨⟨_, by simp, ax_le_rfl rfl⟩, (fun _ h => absurd h List.not_mem_nil)⟩)⟩)⟩)⟩) ?_
        exact ih z151 ct _ _ _ (by omega) (by omega) (by omega) (by omega) F0 S (by omega)
      · refine AR.s (pc' := 20) (lv' := [(3, .int y), (2, .int ct), (0, .ref c), (1, .ref 5)]) (st' := [.int ct]) (h' := h) _ hn_16 hk_16_19 rfl ?_
        refine AR.zle hk_16_20 (tgt := 30) (by decide) (fun p5 => ?_) (fun p6 => ?_)
        · have C2 := C.fr F0
          refine AR.s (pc' := 31) (lv' := [(3, .int y), (2, .int ct), (0, .ref c), (1, .ref 5)]) (st' := [.ref c]) (h' := h) _ hn_16 hk_16_30 rfl ?_
          refine AR.s (pc' := 32) (lv' := [(3, .int y), (2, .int ct), (0, .ref c), (1, .ref 5)]) (st' := [.ref 5, .ref c]) (h' := h) _ hn_16 hk_16_31 rfl ?_
          refine AR.s (pc' := 33) (lv' := [(3, .int y), (2, .int ct), (0, .ref c), (1, .ref 5)]) (st' := [.int y, .ref 5, .ref c]) (h' := h) _ hn_16 hk_16_32 rfl ?_
          have hS6 := S.2.2.1
          have hl6 := hb_Lm e
          have hE6 := (hb_pot (q := q + hb_tc co + hb_pa y + 1) S.1 (by omega) (by omega)).1
          have b1 := hb_Pm (hb_E_le (e := e) (q := q + hb_tc co + hb_pa y + 1))
          have b2 := hb_Psm (hb_E_le (e := e) (q := q + hb_tc co + hb_pa y + 1)) hE6
          refine AR.jr (r := c) (as := [.ref 5, .int y]) (rest := []) hk_16_33 (by decide) (by decide +kernel) (by have := C2.2.2.2.2.1; omega) C2.1.choose_spec rfl rfl (Nat.le_of_ble_eq_true rfl) (ha_17 hlst C2 S y0 (by omega) hco (by omega)) (by decide) (by omega) (by omega) ?_ (fun E h' q => by cases q.1)
          rintro w7 h7 ⟨e7, F7, S7⟩
          cases e7
          rw [show hb_Pc e - 0 - (hb_Pc e - hb_Pc (hb_E e (q + hb_tc co + hb_pa y + 1))) = hb_Pc (hb_E e (q + hb_tc co + hb_pa y + 1)) - 0 by omega, show hb_Ps e - 0 - (hb_Ps e - hb_Ps (hb_E e (q + hb_tc co + hb_pa y + 1))) = hb_Ps (hb_E e (q + hb_tc co + hb_pa y + 1)) - 0 by omega]
          show AR _ _ _ _ _ _ _ 36 [(3, .int y), (2, .int ct), (0, .ref c), (1, .ref 5)] [] h7 _ _
          refine AR.iincT hk_16_36 (x := ct) rfl (by rw [hn_16]; decide) (by decide) (by omega) (by omega) (fun z152 ez152 => ?_)
          show AR _ _ _ _ _ _ _ 39 [(2, .int z152), (3, .int y), (0, .ref c), (1, .ref 5)] [] h7 _ _
          refine AR.iincT hk_16_39 (x := y) rfl (by rw [hn_16]; decide) (by decide) (by omega) (by omega) (fun z153 ez153 => ?_)
          show AR _ _ _ _ _ _ _ 42 [(3, .int z153), (2, .int z152), (0, .ref c), (1, .ref 5)] [] h7 _ _
          refine AR.gotoT hk_16_42 (tgt := 4) (by decide) ?_
          refine AR.lessL (lv' := [(3, .int z153), (2, .int z152), (0, .ref c), (1, .ref 5)]) (List.forall_mem_cons.mpr ⟨⟨_, by simp, ax_le_rfl rfl⟩, (List.forall_mem_cons.mpr ⟨⟨_, by simp, ax_le_rfl rfl⟩, (List.forall_mem_cons.mpr ⟨⟨_, by simp, ax_le_rfl rfl⟩, (List.forall_mem_cons.mpr ⟨⟨_, by simp, ax_le_rfl rfl⟩, (fun _ h => absurd h List.not_mem_nil)⟩)⟩)⟩)⟩) ?_
          exact ih z153 z152 _ _ _ (by omega) (by omega) (by omega) (by omega) (hb_fr.trans F0 F7) S7 (by omega)
        · refine AR.s (pc' := 24) (lv' := [(3, .int y), (2, .int ct), (0, .ref c), (1, .ref 5)]) (st' := [.ref 5]) (h' := h) _ hn_16 hk_16_23 rfl ?_
          refine AR.l2 hk_16_24 rfl ?_
          show AR _ _ _ _ _ _ _ 26 [(3, .int y), (2, .int ct), (0, .ref c), (1, .ref 5)] [.ref (1000000000 + 2), .ref 5] h _ _
          refine AR.apS hlst (Or.inl ⟨rfl, rfl⟩ : hj_st 2 3) hk_16_26 S (by omega) (Nat.zero_le _) (Nat.zero_le _) (by decide) (Nat.le_of_ble_eq_true rfl) (fun g154 Fg154 Sg154 => ?_)
          show AR _ _ _ _ _ _ _ 29 [(3, .int y), (2, .int ct), (0, .ref c), (1, .ref 5)] [.ref 5] g154 _ _
          refine AR.s (pc' := 30) (lv' := [(3, .int y), (2, .int ct), (0, .ref c), (1, .ref 5)]) (st' := []) (h' := g154) _ hn_16 hk_16_29 rfl ?_
          have C2 := C.fr (hb_fr.trans F0 Fg154)
          refine AR.s (pc' := 31) (lv' := [(3, .int y), (2, .int ct), (0, .ref c), (1, .ref 5)]) (st' := [.ref c]) (h' := g154) _ hn_16 hk_16_30 rfl ?_
          refine AR.s (pc' := 32) (lv' := [(3, .int y), (2, .int ct), (0, .ref c), (1, .ref 5)]) (st' := [.ref 5, .ref c]) (h' := g154) _ hn_16 hk_16_31 rfl ?_
          refine AR.s (pc' := 33) (lv' := [(3, .int y), (2, .int ct), (0, .ref c), (1, .ref 5)]) (st' := [.int y, .ref 5, .ref c]) (h' := g154) _ hn_16 hk_16_32 rfl ?_
          have hS6 := Sg154.2.2.1
          have hl6 := hb_Lm (hb_E e (q + (3 : Nat)))
          have hE6 := (hb_pot (q := q + (3 : Nat) + hb_tc co + hb_pa y + 1) Sg154.1 (by omega) (by omega)).1
          have b1 := hb_Pm (hb_E_le (e := (hb_E e (q + (3 : Nat)))) (q := q + (3 : Nat) + hb_tc co + hb_pa y + 1))
          have b2 := hb_Psm (hb_E_le (e := (hb_E e (q + (3 : Nat)))) (q := q + (3 : Nat) + hb_tc co + hb_pa y + 1)) hE6
          refine AR.jr (r := c) (as := [.ref 5, .int y]) (rest := []) hk_16_33 (by decide) (by decide +kernel) (by have := C2.2.2.2.2.1; omega) C2.1.choose_spec rfl rfl (Nat.le_of_ble_eq_true rfl) (ha_17 hlst C2 Sg154 y0 (by omega) hco (by omega)) (by decide) (by omega) (by omega) ?_ (fun E h' q => by cases q.1)
          rintro w7 h7 ⟨e7, F7, S7⟩
          cases e7
          rw [show hb_Pc (hb_E e (q + (3 : Nat))) - 0 - (hb_Pc (hb_E e (q + (3 : Nat))) - hb_Pc (hb_E (hb_E e (q + (3 : Nat))) (q + (3 : Nat) + hb_tc co + hb_pa y + 1))) = hb_Pc (hb_E (hb_E e (q + (3 : Nat))) (q + (3 : Nat) + hb_tc co + hb_pa y + 1)) - 0 by omega, show hb_Ps (hb_E e (q + (3 : Nat))) - 0 - (hb_Ps (hb_E e (q + (3 : Nat))) - hb_Ps (hb_E (hb_E e (q + (3 : Nat))) (q + (3 : Nat) + hb_tc co + hb_pa y + 1))) = hb_Ps (hb_E (hb_E e (q + (3 : Nat))) (q + (3 : Nat) + hb_tc co + hb_pa y + 1)) - 0 by omega]
          show AR _ _ _ _ _ _ _ 36 [(3, .int y), (2, .int ct), (0, .ref c), (1, .ref 5)] [] h7 _ _
          refine AR.iincT hk_16_36 (x := ct) rfl (by rw [hn_16]; decide) (by decide) (by omega) (by omega) (fun z155 ez155 => ?_)
          show AR _ _ _ _ _ _ _ 39 [(2, .int z155), (3, .int y), (0, .ref c), (1, .ref 5)] [] h7 _ _
          refine AR.iincT hk_16_39 (x := y) rfl (by rw [hn_16]; decide) (by decide) (by omega) (by omega) (fun z156 ez156 => ?_)
          show AR _ _ _ _ _ _ _ 42 [(3, .int z156), (2, .int z155), (0, .ref c), (1, .ref 5)] [] h7 _ _
          refine AR.gotoT hk_16_42 (tgt := 4) (by decide) ?_
          refine AR.lessL (lv' := [(3, .int z156), (2, .int z155), (0, .ref c), (1, .ref 5)]) (List.forall_mem_cons.mpr ⟨⟨_, by simp, ax_le_rfl rfl⟩, (List.forall_mem_cons.mpr ⟨⟨_, by simp, ax_le_rfl rfl⟩, (List.forall_mem_cons.mpr ⟨⟨_, by simp, ax_le_rfl rfl⟩, (List.forall_mem_cons.mpr ⟨⟨_, by simp, ax_le_rfl rfl⟩, (fun _ h => absurd h List.not_mem_nil)⟩)⟩)⟩)⟩) ?_
          exact ih z156 z155 _ _ _ (by omega) (by omega) (by omega) (by omega) (hb_fr.trans (hb_fr.trans F0 Fg154) F7) S7 (by omega)
theorem ha_16 (hlst : l.stackTraces = false) {cs : List Value} {bd : Int32} (C : hb_cn h c a cs bd) (S : hb_S e 0 h) : AM ax_ns l (ax_mm 16) 6 ty_R (hb_Pc e - 0) (hb_Ps e - 0) [.ref c, .ref 5] h (hq_16 h) := by
  refine AM.of (ax_mfacts (by decide +kernel : ax_has 16 = true)).2.2.2.2.2.2 hlst (by rw [hn_16]; exact Nat.le_of_ble_eq_true rfl) ?_
  show AR ax_ns l (ax_mm 16) 6 ty_R _ _ 0 [(0, .ref c), (1, .ref 5)] [] h _ _
  refine AR.iconstT hk_16_0 (by decide) (fun z157 ez157 => ?_)
  show AR _ _ _ _ _ _ _ 1 [(0, .ref c), (1, .ref 5)] [.int z157] h _ _
  refine AR.s (pc' := 2) (lv' := [(2, .int z157), (0, .ref c), (1, .ref 5)]) (st' := []) (h' := h) _ hn_16 hk_16_1 rfl ?_
  refine AR.iconstT hk_16_2 (by decide) (fun z158 ez158 => ?_)
  show AR _ _ _ _ _ _ _ 3 [(2, .int z157), (0, .ref c), (1, .ref 5)] [.int z158] h _ _
  refine AR.s (pc' := 4) (lv' := [(3, .int z158), (2, .int z157), (0, .ref c), (1, .ref 5)]) (st' := []) (h' := h) _ hn_16 hk_16_3 rfl ?_
  refine AR.lessL (lv' := [(3, .int z158), (2, .int z157), (0, .ref c), (1, .ref 5)]) (List.forall_mem_cons.mpr ⟨⟨_, by simp, ax_le_rfl rfl⟩, (List.forall_mem_cons.mpr ⟨⟨_, by simp, ax_le_rfl rfl⟩, (List.forall_mem_cons.mpr ⟨⟨_, by simp, ax_le_rfl rfl⟩, (List.forall_mem_cons.mpr ⟨⟨_, by simp, ax_le_rfl rfl⟩, (fun _ h => absurd h List.not_mem_nil)⟩)⟩)⟩)⟩) ?_
  exact ha_16L hlst C 24 z158 z157 e 0 h (by omega) (by omega) (by omega) (by omega) (hb_fr.refl h) S (by omega)
theorem hb_t5 (j : Nat) : ty_tt 5 j = (7, 0, 0, 0, 0) := by
  have e : ty_tt 5 j = ([(7, 0, 0, 0, 0), (7, 0, 0, 0, 0), (7, 0, 0, 0, 0), (7, 0, 0, 0, 0)] : List ty_V).getD j (7, 0, 0, 0, 0) := rfl
  rw [e]
  rcases j with _ | _ | _ | _ | j <;> rfl
theorem hb_t6 (j : Nat) : ty_tt 6 j = (7, 0, 0, 0, 0) := (ty_tt_ar (q := 6) (by decide +kernel) j).trans (by decide +kernel)
theorem hb_tag : ∀ q, q < 198 → (ty_tab q).1 = 103 → q = 6 := by decide +kernel
theorem hb_lt (t : Nat) : (ty_lt t).1 ≠ 103 := by
  rcases t with _ | _ | t
  · decide
  · decide
  · show (100 : Nat) ≠ 103
    decide
theorem hb_fr.Lo (F : hb_fr h h') : ty_Lo h h' := fun k c t h1 h2 h3 => ⟨c, (F.2 k (by omega) c h2).1 (fun e => hb_lt t (by rw [← h3.1]; exact e)), h3⟩
theorem hb_fr.same (hH : hy_H K h) (F : hb_fr h h') {q : Nat} (hq : q < 198) (h5 : q ≠ 5) (h6 : q ≠ 6) : h'[q]? = h[q]? := by
  obtain ⟨vs, e1, -⟩ := hy_cell hH hq
  rw [e1]
  exact (F.2 q h5 _ e1).1 (fun e => h6 (hb_tag q hq e))
theorem hb_fr.fH (hH : hy_H K h) (F : hb_fr h h') (S : hb_S e q h') : hy_H K h' := by
  have hL := F.Lo
  obtain ⟨-, -, -, k, bs, ml, n, B, -⟩ := S
  refine ⟨Nat.le_trans hH.1 F.1, fun q hq => ?_, fun j => hy_ps j⟩
  by_cases h5 : q = 5
  · subst h5
    refine ⟨_, B.1, rfl, fun j x _ => ?_⟩
    rw [hy_lk, hb_t5]
    exact ⟨trivial, fun _ => trivial⟩
  obtain ⟨vs, e1, e2, e3⟩ := hH.2.1 q hq
  by_cases h6 : q = 6
  · subst h6
    obtain ⟨c', f1, f2, f3⟩ := (F.2 6 (by decide) _ e1).2 (show (ty_tab 6).1 = 103 from by decide +kernel)
    obtain ⟨t, us⟩ := c'
    refine ⟨us, by rw [f1, show t = 103 from f2]; rfl, by rw [← e2]; exact f3, fun j x _ => ?_⟩
    rw [hy_lk, hb_t6]
    exact ⟨trivial, fun _ => trivial⟩
  · refine ⟨vs, by rw [hb_fr.same hH F hq h5 h6]; exact e1, e2, fun j x hx => ⟨(e3 j x hx).1.mv hL, fun hm => ((e3 j x hx).2 hm).mv hL⟩⟩
theorem hb_fr.fF (hH : hy_H K h) (F : hb_fr h h') (S : hb_S e q h') : ty_F 32212254720 h h' := by
  obtain ⟨-, -, -, k, bs, ml, n, B, -⟩ := S
  refine ⟨F.1, fun q j hq hk hw => ?_, F.Lo, fun h31 => absurd h31 (by decide)⟩
  by_cases h5 : q = 5
  · subst h5
    rcases j with _ | _ | _ | _ | j
    · exact absurd hw (by decide +kernel)
    · exact absurd hw (by decide +kernel)
    · exact absurd hw (by decide +kernel)
    · exact absurd hw (by decide +kernel)
    · obtain ⟨vs, e1, e2, -⟩ := hy_cell hH (q := 5) (by decide)
      have e3 : vs.length = 4 := e2.trans (by decide +kernel)
      unfold ty_fd
      rw [B.1, e1]
      show none = vs[j + 4]?
      rw [List.getElem?_eq_none (by omega)]
  · unfold ty_fd
    rw [hb_fr.same hH F hq h5 (fun e => by subst e; exact hk (by decide +kernel))]
theorem hb_fr.fIs (hH : hy_H K h) (F : hb_fr h h') (S : hb_S e q h') : hy_Is h' := by
  obtain ⟨he, q0, q1, k, bs, ml, n, B, hL, hn⟩ := S
  refine ⟨k, bs, n, by unfold ty_fd; rw [B.1]; rfl, by unfold ty_fd; rw [B.1]; rfl, by unfold ty_fd; rw [B.1]; rfl, B.2.1, ?_, B.2.2.2.1, by omega, by omega, ⟨e, he, ?_⟩, B.2.2.2.2⟩
  · by_cases h6 : k = 6
    · exact Or.inl h6
    · refine Or.inr (Nat.le_of_not_lt (fun hk => ?_))
      obtain ⟨vs, e1, -⟩ := hy_cell hH hk
      have e2 := hb_fr.same hH F hk B.2.2.1 h6
      rw [e1, B.2.1] at e2
      exact h6 (hb_tag k hk (Prod.mk.inj (Option.some.inj e2)).1.symm)
  · rw [hL]
    rcases (by omega : e = 0 ∨ e = 1 ∨ e = 2 ∨ e = 3 ∨ e = 4 ∨ e = 5) with rfl | rfl | rfl | rfl | rfl | rfl <;> rfl
theorem hb_fr.fI (hH : hy_H K h) (F : hb_fr h h') (S : hb_S e q h') (hi : hy_I h) : hy_I h' := by
  have f : ∀ q : Nat, q < 198 → q ≠ 5 → q ≠ 6 → ∀ j, hy_z h' q j = hy_z h q j := fun q h1 h2 h3 j => hy_ze (by unfold ty_fd; rw [hb_fr.same hH F h1 h2 h3])
  have a190 := f 190 (by decide) (by decide) (by decide)
  have a191 := f 191 (by decide) (by decide) (by decide)
  have a195 := f 195 (by decide) (by decide) (by decide)
  have a196 := f 196 (by decide) (by decide) (by decide)
  have a182 := f 182 (by decide) (by decide) (by decide)
  have a181 := f 181 (by decide) (by decide) (by decide)
  obtain ⟨i1, i2, i3, i4, -⟩ := hi
  refine ⟨?_, ?_, ?_, ?_, F.fIs hH S⟩
  · unfold hy_Id at i1 ⊢
    simp only [a190, a181]
    exact i1
  · unfold hy_Iv at i2 ⊢
    simp only [a190, a191, a181]
    exact i2
  · unfold hy_Il at i3 ⊢
    simp only [a195, a196]
    exact i3
  · unfold hy_Ip at i4 ⊢
    simp only [a182]
    exact i4
theorem hb_S.of (hH : hy_H K h) (hs : hy_Is h) : ∃ e q, hb_S e q h := by
  obtain ⟨k, bs, n, a1, a2, a3, a4, a5, a6, a7, a8, ⟨e, he, hl⟩, a9⟩ := hs
  obtain ⟨vs, e1, e2, -⟩ := hy_cell hH (q := 5) (by decide)
  rw [show (ty_tab 5).1 = 10 from by decide +kernel] at e1
  rw [show (ty_tab 5).2.1 = 4 from by decide +kernel] at e2
  unfold ty_fd at a1 a2 a3
  rw [e1] at a1 a2 a3
  match vs, e2 with
  | [x0, x1, x2, x3], _ =>
    cases (show some x0 = some (.ref k) from a1)
    cases (show some x1 = some (.int 0) from a2)
    cases (show some x3 = some (.int n) from a3)
    have hL : bs.length = hb_Le e := by
      rw [hl]
      rcases (by omega : e = 0 ∨ e = 1 ∨ e = 2 ∨ e = 3 ∨ e = 4 ∨ e = 5) with rfl | rfl | rfl | rfl | rfl | rfl <;> rfl
    exact ⟨e, n.toInt, he, a7, by omega, k, bs, x2, n, ⟨e1, a4, by rcases a5 with r | r <;> omega, a6, a9⟩, hL, rfl⟩
theorem ha_v0 (hH : hy_H K h) : ∃ v0, h[0]? = some (8, v0) ∧ v0[3]? = some (.ref 5) ∧ v0[4]? = some (.ref 7) := by
  obtain ⟨x3, vs, e1, e2, e3, e4, e5⟩ := hy_at hH (q := 0) (n := 18) (j := 3) (by decide) (by decide +kernel) (by decide)
  obtain ⟨x4, vs', f1, f2, f3, f4, f5⟩ := hy_at hH (q := 0) (n := 18) (j := 4) (by decide) (by decide +kernel) (by decide)
  rw [show (ty_tab 0).1 = 8 from by decide +kernel] at e1 f1
  rw [e1] at f1
  cases f1
  cases (show x3 = .ref 5 from by rw [show ty_tt 0 3 = (2, 5, 0, 0, 0) from by decide +kernel] at e5; exact e5)
  cases (show x4 = .ref 7 from by rw [show ty_tt 0 4 = (2, 7, 0, 0, 0) from by decide +kernel] at f5; exact f5)
  exact ⟨vs, e1, e3, f3⟩
theorem ha_v7 (hH : hy_H K h) {x : Int32} (h0 : 0 ≤ x.toInt) (h1 : x.toInt < 60) : ∃ v7 c, h[7]? = some (104, v7) ∧ v7[x.toInt.toNat]? = some (.ref c) ∧ ax_gm 0 c = true := by
  obtain ⟨x3, vs, e1, e2, e3, e4, e5⟩ := hy_at hH (q := 7) (n := 60) (j := x.toInt.toNat) (by decide) (by decide +kernel) (by omega)
  rw [ty_tt_ar (q := 7) (by decide +kernel), show ty_tt 7 0 = (3, 0, 0, 0, 0) from by decide +kernel] at e5
  obtain ⟨c, rfl, hc⟩ := e5
  rw [show (ty_tab 7).1 = 104 from by decide +kernel] at e1
  exact ⟨vs, c, e1, e3, hc⟩
theorem hb_Pc5 : hb_Pc e ≤ 5 := by unfold hb_Pc; omega
theorem hb_Ps5 : hb_Ps e ≤ 1106 := by
  rcases e with _ | _ | _ | _ | _ | e
  · decide
  · decide
  · decide
  · decide
  · decide
  · exact Nat.zero_le _
theorem hj_la (hlst : l.stackTraces = false) {k : Nat} {bs : List Value} {ml : Value} {n : Int32} (B : hb k bs ml n h) : AM ax_ns l (ax_mm 259) 0 ty_R (0) (0) [.ref 5] h (hq_int h n.toInt) := by
  refine AM.of (ax_mfacts (by decide +kernel : ax_has 259 = true)).2.2.2.2.2.2 hlst (by rw [hn_259]; exact Nat.le_of_ble_eq_true rfl) ?_
  show AR ax_ns l (ax_mm 259) 0 ty_R _ _ 0 [(0, .ref 5)] [] h (0) (0)
  refine AR.s (pc' := 1) (lv' := [(0, .ref 5)]) (st' := [.ref 5]) (h' := h) _ hn_259 hk_259_0 rfl ?_
  refine AR.gx hk_259_1 (by decide) (by decide) B.1 (x := .int n) rfl ?_
  show AR _ _ _ _ _ _ _ 4 [(0, .ref 5)] [.int n] h _ _
  exact AR.iret hk_259_4 hr_259 ⟨rfl, _, rfl, rfl⟩
theorem hj_lb (hlst : l.stackTraces = false) {k : Nat} {bs : List Value} {ml : Value} {n : Int32} (B : hb k bs ml n h) : AM ax_ns l (ax_mm 258) 1 ty_R (0) (0) [.ref 5] h (hq_int h n.toInt) := by
  refine AM.of (ax_mfacts (by decide +kernel : ax_has 258 = true)).2.2.2.2.2.2 hlst (by rw [hn_258]; exact Nat.le_of_ble_eq_true rfl) ?_
  show AR ax_ns l (ax_mm 258) 1 ty_R _ _ 0 [(0, .ref 5)] [] h (0) (0)
  refine AR.s (pc' := 1) (lv' := [(0, .ref 5)]) (st' := [.ref 5]) (h' := h) _ hn_258 hk_258_0 rfl ?_
  refine AR.ju (as := []) (rest := []) hk_258_1 (by decide +kernel) (by decide +kernel) (by decide +kernel) B.1 rfl rfl (Nat.le_of_ble_eq_true rfl) (hj_la hlst B) (by decide) (Nat.le_refl _) (Nat.le_refl _) (fun E h' q => by obtain ⟨-, x, e, -⟩ := q; cases e) ?_
  rintro w159 g160 ⟨eg160, z161, e, ez161⟩
  cases e
  obtain rfl := eg160.symm
  show AR _ _ _ _ _ _ _ 4 [(0, .ref 5)] [.int z161] h _ _
  exact AR.iret hk_258_4 hr_258 ⟨rfl, _, rfl, ez161⟩
def hq_111 (h : ax_H) (x : Int32) : ax_Q := fun res h' => (res = .inl none ∧ h' = h ∧ 0 ≤ x.toInt ∧ x.toInt < 60) ∨ (res = .inr "java/lang/IndexOutOfBoundsException" ∧ h' = h ++ [(99, [])])
theorem ha_111 (hlst : l.stackTraces = false) (hH : hy_H K h) {x : Int32} : AM ax_ns l (ax_mm 111) 0 ty_R (1) (6) [.ref 0, .int x] h (hq_111 h x) := by
  refine AM.of (ax_mfacts (by decide +kernel : ax_has 111 = true)).2.2.2.2.2.2 hlst (by rw [hn_111]; exact Nat.le_of_ble_eq_true rfl) ?_
  show AR ax_ns l (ax_mm 111) 0 ty_R _ _ 0 [(0, .ref 0), (1, .int x)] [] h (1) (6)
  refine AR.s (pc' := 1) (lv' := [(0, .ref 0), (1, .int x)]) (st' := [.int x]) (h' := h) _ hn_111 hk_111_0 rfl ?_
  refine AR.zlt hk_111_1 (tgt := 12) (by decide) (fun p1 => ?_) (fun p2 => ?_)
  · exact AR.at (Or.inr (Or.inr (Or.inr (Or.inr (Or.inr ⟨_, ax_thr_ok (111, 12, 2) (by decide), by decide +kernel, by decide, by decide, by decide, Or.inr ⟨rfl, rfl⟩⟩)))))
  · refine AR.s (pc' := 5) (lv' := [(0, .ref 0), (1, .int x)]) (st' := [.int x]) (h' := h) _ hn_111 hk_111_4 rfl ?_
    refine AR.s (pc' := 6) (lv' := [(0, .ref 0), (1, .int x)]) (st' := [.ref 0, .int x]) (h' := h) _ hn_111 hk_111_5 rfl ?_
    refine AR.gI hk_111_6 (by decide) hH (q := 0) (n := 18) (by decide) (by decide +kernel) (by decide +kernel) (by decide) hy_t0_5 (fun x162 dx162 lx162 ux162 => ?_)
    show AR _ _ _ _ _ _ _ 9 [(0, .ref 0), (1, .int x)] [.int x162, .int x] h _ _
    refine AR.jlt hk_111_9 (tgt := 23) (by decide) (fun p3 => ?_) (fun p4 => ?_)
    · exact AR.vret hk_111_23 hr_111 (Or.inl ⟨rfl, rfl, by omega, by omega⟩)
    · exact AR.at (Or.inr (Or.inr (Or.inr (Or.inr (Or.inr ⟨_, ax_thr_ok (111, 12, 2) (by decide), by decide +kernel, by decide, by decide, by decide, Or.inr ⟨rfl, rfl⟩⟩)))))
theorem ha_75 (hlst : l.stackTraces = false) (hH : hy_H K h) (hi : hy_I h) {x : Int32} : AM ax_ns l (ax_mm 75) 8 ty_R (9) (3000) [.ref 0, .int x] h (ty_Q hy_I K 32212254720 [(.inl (some (0, 0, 0, (-2147483648), 2147483647)), []), (.inr "java/lang/IndexOutOfBoundsException", [])] h) := by
  refine AM.of (ax_mfacts (by decide +kernel : ax_has 75 = true)).2.2.2.2.2.2 hlst (by rw [hn_75]; exact Nat.le_of_ble_eq_true rfl) ?_
  show AR ax_ns l (ax_mm 75) 8 ty_R _ _ 0 [(0, .ref 0), (1, .int x)] [] h (9) (3000)
  obtain ⟨v0, e0, e3, e4⟩ := ha_v0 hH
  obtain ⟨e, q, S⟩ := hb_S.of hH hi.2.2.2.2
  show AR _ _ _ _ _ _ _ 0 [(0, .ref 0), (1, .int x)] [] h _ _
  refine AR.s (pc' := 1) (lv' := [(0, .ref 0), (1, .int x)]) (st' := [.ref 0]) (h' := h) _ hn_75 hk_75_0 rfl ?_
  refine AR.s (pc' := 2) (lv' := [(0, .ref 0), (1, .int x)]) (st' := [.int x, .ref 0]) (h' := h) _ hn_75 hk_75_1 rfl ?_
  refine AR.jr (r := 0) (as := [.int x]) (rest := []) hk_75_2 (by decide) (by decide +kernel) (by decide) e0 rfl rfl (Nat.le_of_ble_eq_true rfl) (ha_111 hlst hH) (by decide) (by decide) (by decide) ?_ ?_
  · rintro w h1 (⟨e9, eh, x0, x1⟩ | ⟨e9, -⟩)
    · cases e9
      obtain rfl := eh.symm
      show AR _ _ _ _ _ _ _ 5 [(0, .ref 0), (1, .int x)] [] h _ _
      refine AR.s (pc' := 6) (lv' := [(0, .ref 0), (1, .int x)]) (st' := [.ref 0]) (h' := h) _ hn_75 hk_75_5 rfl ?_
      refine AR.gR hk_75_6 (by decide) hH (q := 0) (n := 18) (by decide) (by decide +kernel) (by decide +kernel) (by decide) hy_t0_3 ?_
      show AR _ _ _ _ _ _ _ 9 [(0, .ref 0), (1, .int x)] [.ref 5] h _ _
      refine AR.iconstT hk_75_9 (by decide) (fun z163 ez163 => ?_)
      show AR _ _ _ _ _ _ _ 10 [(0, .ref 0), (1, .int x)] [.int z163, .ref 5] h _ _
      obtain ⟨he, q0, q1, k, bs, ml, n, B, hL, hn⟩ := S
      have hLm := hb_Lm e
      refine AR.j5 (as := [.int z163]) (rest := []) hk_75_10 (by decide +kernel) B.1 rfl rfl (Nat.le_of_ble_eq_true rfl) (hj_s0 hlst B (by omega) (by omega) (by omega) (by omega) ez163) (by decide) (by decide) (by decide) (fun E h' q => by cases q.1) ?_
      rintro w h2 ⟨e9, F2, k2, bs2, ml2, n2, B2, l2, n20⟩
      cases e9
      have S2 : hb_S e 0 h2 := ⟨he, by decide, by omega, k2, bs2, ml2, n2, B2, l2.trans ((if_pos (by omega)).trans hL), n20⟩
      have g0 := (F2.2 0 (by decide) _ e0).1 (Nat.ne_of_beq_eq_false rfl)
      show AR _ _ _ _ _ _ _ 13 [(0, .ref 0), (1, .int x)] [] h2 _ _
      refine AR.s (pc' := 14) (lv' := [(0, .ref 0), (1, .int x)]) (st' := [.ref 0]) (h' := h2) _ hn_75 hk_75_13 rfl ?_
      refine AR.gx hk_75_14 (by decide) (by decide) g0 e4 ?_
      show AR _ _ _ _ _ _ _ 17 [(0, .ref 0), (1, .int x)] [.ref 7] h2 _ _
      refine AR.s (pc' := 18) (lv' := [(0, .ref 0), (1, .int x)]) (st' := [.int x, .ref 7]) (h' := h2) _ hn_75 hk_75_17 rfl ?_
      obtain ⟨v7, c, e7, ec, hc⟩ := ha_v7 hH x0 x1
      obtain ⟨a, cs, bd, C⟩ := hb_cn.of hH hc
      have C2 := C.fr F2
      have g7 := (F2.2 7 (by decide) _ e7).1 (Nat.ne_of_beq_eq_false rfl)
      refine AR.aaload (ax_look_ok hk_75_18).1 (t := 4) (show ax_tys[4]? = some _ from rfl) (by decide) (hb_get (by decide) g7) (hj_nn x0).1 ec ?_
      show AR _ _ _ _ _ _ _ 19 [(0, .ref 0), (1, .int x)] [.ref c] h2 _ _
      refine AR.s (pc' := 20) (lv' := [(0, .ref 0), (1, .int x)]) (st' := [.ref 0, .ref c]) (h' := h2) _ hn_75 hk_75_19 rfl ?_
      refine AR.gx hk_75_20 (by decide) (by decide) g0 e3 ?_
      show AR _ _ _ _ _ _ _ 23 [(0, .ref 0), (1, .int x)] [.ref 5, .ref c] h2 _ _
      have b1 := @hb_Pc5 e
      have b2 := @hb_Ps5 e
      refine AR.jr (r := c) (as := [.ref 5]) (rest := []) hk_75_23 (by decide) (by decide +kernel) (by have := C2.2.2.2.2.1; omega) C2.1.choose_spec rfl rfl (Nat.le_of_ble_eq_true rfl) (ha_16 hlst C2 S2) (by decide) (by omega) (by omega) ?_ (fun E h' q => by cases q.1)
      rintro w h3 ⟨e9, F3, e8, q8, S3⟩
      cases e9
      have g3 := (F3.2 0 (by decide) _ g0).1 (Nat.ne_of_beq_eq_false rfl)
      have FF := hb_fr.trans F2 F3
      show AR _ _ _ _ _ _ _ 26 [(0, .ref 0), (1, .int x)] [] h3 _ _
      refine AR.s (pc' := 27) (lv' := [(0, .ref 0), (1, .int x)]) (st' := [.ref 0]) (h' := h3) _ hn_75 hk_75_26 rfl ?_
      refine AR.gx hk_75_27 (by decide) (by decide) g3 e3 ?_
      show AR _ _ _ _ _ _ _ 30 [(0, .ref 0), (1, .int x)] [.ref 5] h3 _ _
      obtain ⟨-, -, -, k3, bs3, ml3, n3, B3, -, -⟩ := id S3
      refine AR.j5 (as := []) (rest := []) hk_75_30 (by decide +kernel) B3.1 rfl rfl (Nat.le_of_ble_eq_true rfl) (hj_lb hlst B3) (by decide) (Nat.zero_le _) (Nat.zero_le _) (fun E h' q => by obtain ⟨-, x, e, -⟩ := q; cases e) ?_
      rintro w164 g165 ⟨eg165, z166, e, ez166⟩
      cases e
      obtain rfl := eg165.symm
      show AR _ _ _ _ _ _ _ 33 [(0, .ref 0), (1, .int x)] [.int z166] h3 _ _
      exact AR.iret hk_75_33 hr_75 ⟨FF.fF hH S3, FF.fI hH S3 hi, _, List.mem_cons_self, ⟨_, rfl, Int32.le_toInt _, by have := Int32.toInt_lt z166; omega, Or.inl rfl⟩, FF.fH hH S3⟩
    · cases e9
  · rintro E h1 (⟨e9, -⟩ | ⟨e9, rfl⟩)
    · cases e9
    · cases e9
      refine AX.out ⟨by decide +kernel, ty_F.push hH.1, ?_, _, List.mem_cons_of_mem _ List.mem_cons_self, rfl, hy_app hH _⟩
      obtain ⟨he, q0, q1, k, bs, ml, n, B, hL, hn⟩ := S
      have g9 : ∀ (p : Nat) c, h[p]? = some c → (h ++ [(99, [])])[p]? = some c := fun p c ec => by rw [List.getElem?_append_left (List.getElem?_eq_some_iff.mp ec).1]; exact ec
      exact (hb_fr.pu h [(99, [])]).fI hH (e := e) (q := q) ⟨he, q0, q1, k, bs, ml, n, ⟨g9 _ _ B.1, g9 _ _ B.2.1, B.2.2⟩, hL, hn⟩ hi
theorem ha_76 (hlst : l.stackTraces = false) (hH : hy_H K h) (hi : hy_I h) {x : Int32} : AM ax_ns l (ax_mm 76) 6 ty_R (1) (6) [.ref 0, .int x] h (ty_Q hy_I K 0 [(.inl (some (0, 0, 0, 0, 65535)), []), (.inr "java/lang/IndexOutOfBoundsException", [])] h) := by
  refine AM.of (ax_mfacts (by decide +kernel : ax_has 76 = true)).2.2.2.2.2.2 hlst (by rw [hn_76]; exact Nat.le_of_ble_eq_true rfl) ?_
  show AR ax_ns l (ax_mm 76) 6 ty_R _ _ 0 [(0, .ref 0), (1, .int x)] [] h (1) (6)
  obtain ⟨e, q, S⟩ := hb_S.of hH hi.2.2.2.2
  obtain ⟨he, q0, q1, k, bs, ml, n, B, hL, hn⟩ := S
  have hLm := hb_Lm e
  have hIt : hy_I (h ++ [(99, [])]) := by
    have g9 : ∀ (p : Nat) c, h[p]? = some c → (h ++ [(99, [])])[p]? = some c := fun p c ec => by rw [List.getElem?_append_left (List.getElem?_eq_some_iff.mp ec).1]; exact ec
    exact (hb_fr.pu h [(99, [])]).fI hH (e := e) (q := q) ⟨he, q0, q1, k, bs, ml, n, ⟨g9 _ _ B.1, g9 _ _ B.2.1, B.2.2⟩, hL, hn⟩ hi
  show AR _ _ _ _ _ _ _ 0 [(0, .ref 0), (1, .int x)] [] h _ _
  refine AR.s (pc' := 1) (lv' := [(0, .ref 0), (1, .int x)]) (st' := [.int x]) (h' := h) _ hn_76 hk_76_0 rfl ?_
  refine AR.zlt hk_76_1 (tgt := 15) (by decide) (fun p1 => ?_) (fun p2 => ?_)
  · exact AR.at (Or.inr (Or.inr (Or.inr (Or.inr (Or.inr ⟨_, ax_thr_ok (76, 15, 2) (by decide), by decide +kernel, by decide, by decide, by decide, ⟨ty_F.push hH.1, hIt, _, List.mem_cons_of_mem _ List.mem_cons_self, rfl, hy_app hH _⟩⟩)))))
  · refine AR.s (pc' := 5) (lv' := [(0, .ref 0), (1, .int x)]) (st' := [.int x]) (h' := h) _ hn_76 hk_76_4 rfl ?_
    refine AR.s (pc' := 6) (lv' := [(0, .ref 0), (1, .int x)]) (st' := [.ref 0, .int x]) (h' := h) _ hn_76 hk_76_5 rfl ?_
    refine AR.gR hk_76_6 (by decide) hH (q := 0) (n := 18) (by decide) (by decide +kernel) (by decide +kernel) (by decide) hy_t0_3 ?_
    show AR _ _ _ _ _ _ _ 9 [(0, .ref 0), (1, .int x)] [.ref 5, .int x] h _ _
    refine AR.j5 (as := []) (rest := [.int x]) hk_76_9 (by decide +kernel) B.1 rfl rfl (Nat.le_of_ble_eq_true rfl) (hj_lb hlst B) (by decide) (Nat.zero_le _) (Nat.zero_le _) (fun E h' q => by obtain ⟨-, x, e, -⟩ := q; cases e) ?_
    rintro w167 g168 ⟨eg168, z169, e, ez169⟩
    cases e
    obtain rfl := eg168.symm
    show AR _ _ _ _ _ _ _ 12 [(0, .ref 0), (1, .int x)] [.int z169, .int x] h _ _
    refine AR.jlt hk_76_12 (tgt := 25) (by decide) (fun p3 => ?_) (fun p4 => ?_)
    · refine AR.s (pc' := 26) (lv' := [(0, .ref 0), (1, .int x)]) (st' := [.ref 0]) (h' := h) _ hn_76 hk_76_25 rfl ?_
      refine AR.gR hk_76_26 (by decide) hH (q := 0) (n := 18) (by decide) (by decide +kernel) (by decide +kernel) (by decide) hy_t0_3 ?_
      show AR _ _ _ _ _ _ _ 29 [(0, .ref 0), (1, .int x)] [.ref 5] h _ _
      refine AR.s (pc' := 30) (lv' := [(0, .ref 0), (1, .int x)]) (st' := [.int x, .ref 5]) (h' := h) _ hn_76 hk_76_29 rfl ?_
      refine AR.j5 (as := [.int x]) (rest := []) hk_76_30 (by decide +kernel) B.1 rfl rfl (Nat.le_of_ble_eq_true rfl) (hj_ch hlst B (by omega) (by omega) (by omega) (by omega)) (by decide) (Nat.zero_le _) (Nat.zero_le _) (fun E h' q => by obtain ⟨-, x, e, -⟩ := q; cases e) ?_
      rintro w7 h7 ⟨e7, z7, e, c7⟩
      cases e
      obtain rfl := e7.symm
      show AR _ _ _ _ _ _ _ 33 [(0, .ref 0), (1, .int x)] [.int z7] h _ _
      exact AR.iret hk_76_33 hr_76 ⟨ty_F_refl _ _, hi, _, List.mem_cons_self, ⟨_, rfl, c7.2.1, c7.2.2, Or.inl rfl⟩, hH⟩
    · exact AR.at (Or.inr (Or.inr (Or.inr (Or.inr (Or.inr ⟨_, ax_thr_ok (76, 15, 2) (by decide), by decide +kernel, by decide, by decide, by decide, ⟨ty_F.push hH.1, hIt, _, List.mem_cons_of_mem _ List.mem_cons_self, rfl, hy_app hH _⟩⟩)))))
end HA
