/-! THROWS, and whole runs of the abstract machine -/
def ax_in (w : Cond) : Bool := decide (w ∈ ax_nw) || (lw_tbl.any (fun v => decide (v = w)) && goodWord w)
theorem ax_in_ok {w : Cond} (h : ax_in w = true) : w ∈ ax_tb ∨ w ∈ ax_nw := by
  simp only [ax_in, Bool.or_eq_true, Bool.and_eq_true, decide_eq_true_eq, List.any_eq_true] at h
  rcases h with h | ⟨⟨v, h1, h2⟩, h3⟩
  · exact Or.inr h
  · exact Or.inl (List.mem_filter.mpr ⟨by rw [← h2]; exact h1, h3⟩)
set_option maxRecDepth 100000 in
theorem ax_at0 : (vx_atS "PseudoBoolean" 112 "java/lang/IllegalStateException" ["java/lang/RuntimeException", "java/lang/Exception"]).all ax_in = true := by decide +kernel
set_option maxRecDepth 100000 in
theorem ax_at1 : (vx_atS "PseudoBoolean" 123 "java/lang/IllegalArgumentException" ["java/lang/RuntimeException", "java/lang/Exception"]).all ax_in = true := by decide +kernel
set_option maxRecDepth 100000 in
theorem ax_at2 : (vx_atS "PseudoBoolean" 174 "java/lang/IndexOutOfBoundsException" ["java/lang/RuntimeException", "java/lang/Exception"]).all ax_in = true := by decide +kernel
set_option maxRecDepth 100000 in
theorem ax_at3 : (vx_atS "PseudoBoolean" 272 "java/util/NoSuchElementException" ["java/lang/RuntimeException", "java/lang/Exception"]).all ax_in = true := by decide +kernel
set_option maxRecDepth 100000 in
theorem ax_at4 : (vx_atS "PseudoBoolean" 381 "java/lang/ArithmeticException" ["java/lang/RuntimeException", "java/lang/Exception"]).all ax_in = true := by decide +kernel
set_option maxRecDepth 100000 in
theorem ax_h0 : ax_thr ax_ns ax_q70 16 "java/lang/IllegalStateException" := ⟨108, 110, 112, "the text buffer is full", ["java/lang/RuntimeException", "java/lang/Exception"], false, by decide +kernel, by decide +kernel, by simp only [if_true, if_false, Bool.false_eq_true]; exact ⟨by decide +kernel, by decide +kernel, by decide +kernel⟩, by decide +kernel, by decide +kernel, by decide, ax_mem 431 (by decide +kernel) (by decide +kernel), ax_mem 85 (by decide +kernel) (by decide +kernel), List.mem_of_getElem? (i := 2) (by decide +kernel), fun w hw => ax_in_ok (List.all_eq_true.mp ax_at0 w hw), by decide +kernel⟩
set_option maxRecDepth 100000 in
theorem ax_h1 : ax_thr ax_ns ax_q71 15 "java/lang/IllegalArgumentException" := ⟨119, 121, 123, "the text buffer does not have so many bytes", ["java/lang/RuntimeException", "java/lang/Exception"], false, by decide +kernel, by decide +kernel, by simp only [if_true, if_false, Bool.false_eq_true]; exact ⟨by decide +kernel, by decide +kernel, by decide +kernel⟩, by decide +kernel, by decide +kernel, by decide, ax_mem 514 (by decide +kernel) (by decide +kernel), ax_mem 86 (by decide +kernel) (by decide +kernel), List.mem_of_getElem? (i := 3) (by decide +kernel), fun w hw => ax_in_ok (List.all_eq_true.mp ax_at1 w hw), by decide +kernel⟩
set_option maxRecDepth 100000 in
theorem ax_h2 : ax_thr ax_ns ax_q76 15 "java/lang/IndexOutOfBoundsException" := ⟨170, 172, 174, "no such byte of the output", ["java/lang/RuntimeException", "java/lang/Exception"], false, by decide +kernel, by decide +kernel, by simp only [if_true, if_false, Bool.false_eq_true]; exact ⟨by decide +kernel, by decide +kernel, by decide +kernel⟩, by decide +kernel, by decide +kernel, by decide, ax_mem 742 (by decide +kernel) (by decide +kernel), ax_mem 88 (by decide +kernel) (by decide +kernel), List.mem_of_getElem? (i := 4) (by decide +kernel), fun w hw => ax_in_ok (List.all_eq_true.mp ax_at2 w hw), by decide +kernel⟩
set_option maxRecDepth 100000 in
theorem ax_h3 : ax_thr ax_ns ax_q84 17 "java/lang/IllegalArgumentException" := ⟨119, 208, 123, "the factor is not 1 to 1000", ["java/lang/RuntimeException", "java/lang/Exception"], false, by decide +kernel, by decide +kernel, by simp only [if_true, if_false, Bool.false_eq_true]; exact ⟨by decide +kernel, by decide +kernel, by decide +kernel⟩, by decide +kernel, by decide +kernel, by decide, ax_mem 514 (by decide +kernel) (by decide +kernel), ax_mem 86 (by decide +kernel) (by decide +kernel), List.mem_of_getElem? (i := 5) (by decide +kernel), fun w hw => ax_in_ok (List.all_eq_true.mp ax_at1 w hw), by decide +kernel⟩
set_option maxRecDepth 100000 in
theorem ax_h4 : ax_thr ax_ns ax_q85 10 "java/lang/IllegalArgumentException" := ⟨119, 210, 123, "the divisor is less than 1", ["java/lang/RuntimeException", "java/lang/Exception"], false, by decide +kernel, by decide +kernel, by simp only [if_true, if_false, Bool.false_eq_true]; exact ⟨by decide +kernel, by decide +kernel, by decide +kernel⟩, by decide +kernel, by decide +kernel, by decide, ax_mem 514 (by decide +kernel) (by decide +kernel), ax_mem 86 (by decide +kernel) (by decide +kernel), List.mem_of_getElem? (i := 6) (by decide +kernel), fun w hw => ax_in_ok (List.all_eq_true.mp ax_at1 w hw), by decide +kernel⟩
set_option maxRecDepth 100000 in
theorem ax_h5 : ax_thr ax_ns ax_q87 22 "java/lang/IllegalArgumentException" := ⟨119, 226, 123, "the constraint has no literal of the variable", ["java/lang/RuntimeException", "java/lang/Exception"], false, by decide +kernel, by decide +kernel, by simp only [if_true, if_false, Bool.false_eq_true]; exact ⟨by decide +kernel, by decide +kernel, by decide +kernel⟩, by decide +kernel, by decide +kernel, by decide, ax_mem 514 (by decide +kernel) (by decide +kernel), ax_mem 86 (by decide +kernel) (by decide +kernel), List.mem_of_getElem? (i := 7) (by decide +kernel), fun w hw => ax_in_ok (List.all_eq_true.mp ax_at1 w hw), by decide +kernel⟩
set_option maxRecDepth 100000 in
theorem ax_h6 : ax_thr ax_ns ax_q88 48 "java/lang/IllegalArgumentException" := ⟨119, 235, 123, "there are no opposite literals of the variable", ["java/lang/RuntimeException", "java/lang/Exception"], false, by decide +kernel, by decide +kernel, by simp only [if_true, if_false, Bool.false_eq_true]; exact ⟨by decide +kernel, by decide +kernel, by decide +kernel⟩, by decide +kernel, by decide +kernel, by decide, ax_mem 514 (by decide +kernel) (by decide +kernel), ax_mem 86 (by decide +kernel) (by decide +kernel), List.mem_of_getElem? (i := 8) (by decide +kernel), fun w hw => ax_in_ok (List.all_eq_true.mp ax_at1 w hw), by decide +kernel⟩
set_option maxRecDepth 100000 in
theorem ax_h7 : ax_thr ax_ns ax_q93 10 "java/util/NoSuchElementException" := ⟨268, 270, 272, "no group is kept", ["java/lang/RuntimeException", "java/lang/Exception"], true, by decide +kernel, by decide +kernel, by simp only [if_true, if_false, Bool.false_eq_true]; exact ⟨by decide +kernel, by decide +kernel, by decide +kernel⟩, by decide +kernel, by decide +kernel, by decide, ax_mem 1282 (by decide +kernel) (by decide +kernel), ax_mem 98 (by decide +kernel) (by decide +kernel), List.mem_of_getElem? (i := 9) (by decide +kernel), fun w hw => ax_in_ok (List.all_eq_true.mp ax_at3 w hw), by decide +kernel⟩
set_option maxRecDepth 100000 in
theorem ax_h8 : ax_thr ax_ns ax_q94 27 "java/lang/IllegalStateException" := ⟨108, 280, 112, "the literal cannot be decided", ["java/lang/RuntimeException", "java/lang/Exception"], true, by decide +kernel, by decide +kernel, by simp only [if_true, if_false, Bool.false_eq_true]; exact ⟨by decide +kernel, by decide +kernel, by decide +kernel⟩, by decide +kernel, by decide +kernel, by decide, ax_mem 431 (by decide +kernel) (by decide +kernel), ax_mem 85 (by decide +kernel) (by decide +kernel), List.mem_of_getElem? (i := 10) (by decide +kernel), fun w hw => ax_in_ok (List.all_eq_true.mp ax_at0 w hw), by decide +kernel⟩
set_option maxRecDepth 100000 in
theorem ax_h9 : ax_thr ax_ns ax_q95 10 "java/lang/IllegalStateException" := ⟨108, 294, 112, "there are no decisions", ["java/lang/RuntimeException", "java/lang/Exception"], true, by decide +kernel, by decide +kernel, by simp only [if_true, if_false, Bool.false_eq_true]; exact ⟨by decide +kernel, by decide +kernel, by decide +kernel⟩, by decide +kernel, by decide +kernel, by decide, ax_mem 431 (by decide +kernel) (by decide +kernel), ax_mem 85 (by decide +kernel) (by decide +kernel), List.mem_of_getElem? (i := 11) (by decide +kernel), fun w hw => ax_in_ok (List.all_eq_true.mp ax_at0 w hw), by decide +kernel⟩
set_option maxRecDepth 100000 in
theorem ax_h10 : ax_thr ax_ns ax_q100 7 "java/lang/IllegalArgumentException" := ⟨119, 316, 123, "the mask is not 0 to 4095", ["java/lang/RuntimeException", "java/lang/Exception"], true, by decide +kernel, by decide +kernel, by simp only [if_true, if_false, Bool.false_eq_true]; exact ⟨by decide +kernel, by decide +kernel, by decide +kernel⟩, by decide +kernel, by decide +kernel, by decide, ax_mem 514 (by decide +kernel) (by decide +kernel), ax_mem 86 (by decide +kernel) (by decide +kernel), List.mem_of_getElem? (i := 12) (by decide +kernel), fun w hw => ax_in_ok (List.all_eq_true.mp ax_at1 w hw), by decide +kernel⟩
set_option maxRecDepth 100000 in
theorem ax_h11 : ax_thr ax_ns ax_q103 18 "java/lang/IllegalArgumentException" := ⟨119, 324, 123, "the cost is not -1000 to 1000", ["java/lang/RuntimeException", "java/lang/Exception"], true, by decide +kernel, by decide +kernel, by simp only [if_true, if_false, Bool.false_eq_true]; exact ⟨by decide +kernel, by decide +kernel, by decide +kernel⟩, by decide +kernel, by decide +kernel, by decide, ax_mem 514 (by decide +kernel) (by decide +kernel), ax_mem 86 (by decide +kernel) (by decide +kernel), List.mem_of_getElem? (i := 13) (by decide +kernel), fun w hw => ax_in_ok (List.all_eq_true.mp ax_at1 w hw), by decide +kernel⟩
set_option maxRecDepth 100000 in
theorem ax_h12 : ax_thr ax_ns ax_q106 20 "java/lang/IllegalArgumentException" := ⟨119, 333, 123, "these are not two masks without a common variable", ["java/lang/RuntimeException", "java/lang/Exception"], true, by decide +kernel, by decide +kernel, by simp only [if_true, if_false, Bool.false_eq_true]; exact ⟨by decide +kernel, by decide +kernel, by decide +kernel⟩, by decide +kernel, by decide +kernel, by decide, ax_mem 514 (by decide +kernel) (by decide +kernel), ax_mem 86 (by decide +kernel) (by decide +kernel), List.mem_of_getElem? (i := 14) (by decide +kernel), fun w hw => ax_in_ok (List.all_eq_true.mp ax_at1 w hw), by decide +kernel⟩
set_option maxRecDepth 100000 in
theorem ax_h13 : ax_thr ax_ns ax_q106 40 "java/util/NoSuchElementException" := ⟨268, 335, 272, "there is a model", ["java/lang/RuntimeException", "java/lang/Exception"], true, by decide +kernel, by decide +kernel, by simp only [if_true, if_false, Bool.false_eq_true]; exact ⟨by decide +kernel, by decide +kernel, by decide +kernel⟩, by decide +kernel, by decide +kernel, by decide, ax_mem 1282 (by decide +kernel) (by decide +kernel), ax_mem 98 (by decide +kernel) (by decide +kernel), List.mem_of_getElem? (i := 15) (by decide +kernel), fun w hw => ax_in_ok (List.all_eq_true.mp ax_at3 w hw), by decide +kernel⟩
set_option maxRecDepth 100000 in
theorem ax_h14 : ax_thr ax_ns ax_q108 9 "java/lang/IllegalStateException" := ⟨108, 337, 112, "there are 8 levels", ["java/lang/RuntimeException", "java/lang/Exception"], true, by decide +kernel, by decide +kernel, by simp only [if_true, if_false, Bool.false_eq_true]; exact ⟨by decide +kernel, by decide +kernel, by decide +kernel⟩, by decide +kernel, by decide +kernel, by decide, ax_mem 431 (by decide +kernel) (by decide +kernel), ax_mem 85 (by decide +kernel) (by decide +kernel), List.mem_of_getElem? (i := 16) (by decide +kernel), fun w hw => ax_in_ok (List.all_eq_true.mp ax_at0 w hw), by decide +kernel⟩
set_option maxRecDepth 100000 in
theorem ax_h15 : ax_thr ax_ns ax_q109 7 "java/lang/IllegalStateException" := ⟨108, 346, 112, "there is no level", ["java/lang/RuntimeException", "java/lang/Exception"], true, by decide +kernel, by decide +kernel, by simp only [if_true, if_false, Bool.false_eq_true]; exact ⟨by decide +kernel, by decide +kernel, by decide +kernel⟩, by decide +kernel, by decide +kernel, by decide, ax_mem 431 (by decide +kernel) (by decide +kernel), ax_mem 85 (by decide +kernel) (by decide +kernel), List.mem_of_getElem? (i := 17) (by decide +kernel), fun w hw => ax_in_ok (List.all_eq_true.mp ax_at0 w hw), by decide +kernel⟩
set_option maxRecDepth 100000 in
theorem ax_h16 : ax_thr ax_ns ax_q111 12 "java/lang/IndexOutOfBoundsException" := ⟨170, 356, 174, "no such constraint", ["java/lang/RuntimeException", "java/lang/Exception"], true, by decide +kernel, by decide +kernel, by simp only [if_true, if_false, Bool.false_eq_true]; exact ⟨by decide +kernel, by decide +kernel, by decide +kernel⟩, by decide +kernel, by decide +kernel, by decide, ax_mem 742 (by decide +kernel) (by decide +kernel), ax_mem 88 (by decide +kernel) (by decide +kernel), List.mem_of_getElem? (i := 18) (by decide +kernel), fun w hw => ax_in_ok (List.all_eq_true.mp ax_at2 w hw), by decide +kernel⟩
set_option maxRecDepth 100000 in
theorem ax_h17 : ax_thr ax_ns ax_q112 10 "java/lang/IndexOutOfBoundsException" := ⟨170, 358, 174, "no such literal", ["java/lang/RuntimeException", "java/lang/Exception"], true, by decide +kernel, by decide +kernel, by simp only [if_true, if_false, Bool.false_eq_true]; exact ⟨by decide +kernel, by decide +kernel, by decide +kernel⟩, by decide +kernel, by decide +kernel, by decide, ax_mem 742 (by decide +kernel) (by decide +kernel), ax_mem 88 (by decide +kernel) (by decide +kernel), List.mem_of_getElem? (i := 19) (by decide +kernel), fun w hw => ax_in_ok (List.all_eq_true.mp ax_at2 w hw), by decide +kernel⟩
set_option maxRecDepth 100000 in
theorem ax_h18 : ax_thr ax_ns ax_q113 10 "java/lang/IndexOutOfBoundsException" := ⟨170, 360, 174, "no such variable", ["java/lang/RuntimeException", "java/lang/Exception"], true, by decide +kernel, by decide +kernel, by simp only [if_true, if_false, Bool.false_eq_true]; exact ⟨by decide +kernel, by decide +kernel, by decide +kernel⟩, by decide +kernel, by decide +kernel, by decide, ax_mem 742 (by decide +kernel) (by decide +kernel), ax_mem 88 (by decide +kernel) (by decide +kernel), List.mem_of_getElem? (i := 20) (by decide +kernel), fun w hw => ax_in_ok (List.all_eq_true.mp ax_at2 w hw), by decide +kernel⟩
set_option maxRecDepth 100000 in
theorem ax_h19 : ax_thr ax_ns ax_q114 12 "java/lang/IndexOutOfBoundsException" := ⟨170, 362, 174, "no such index", ["java/lang/RuntimeException", "java/lang/Exception"], true, by decide +kernel, by decide +kernel, by simp only [if_true, if_false, Bool.false_eq_true]; exact ⟨by decide +kernel, by decide +kernel, by decide +kernel⟩, by decide +kernel, by decide +kernel, by decide, ax_mem 742 (by decide +kernel) (by decide +kernel), ax_mem 88 (by decide +kernel) (by decide +kernel), List.mem_of_getElem? (i := 21) (by decide +kernel), fun w hw => ax_in_ok (List.all_eq_true.mp ax_at2 w hw), by decide +kernel⟩
set_option maxRecDepth 100000 in
theorem ax_h20 : ax_thr ax_ns ax_q115 11 "java/lang/IllegalStateException" := ⟨108, 364, 112, "there would be more than 60 constraints", ["java/lang/RuntimeException", "java/lang/Exception"], true, by decide +kernel, by decide +kernel, by simp only [if_true, if_false, Bool.false_eq_true]; exact ⟨by decide +kernel, by decide +kernel, by decide +kernel⟩, by decide +kernel, by decide +kernel, by decide, ax_mem 431 (by decide +kernel) (by decide +kernel), ax_mem 85 (by decide +kernel) (by decide +kernel), List.mem_of_getElem? (i := 22) (by decide +kernel), fun w hw => ax_in_ok (List.all_eq_true.mp ax_at0 w hw), by decide +kernel⟩
set_option maxRecDepth 100000 in
theorem ax_h21 : ax_thr ax_ns ax_q117 31 "java/lang/IllegalArgumentException" := ⟨119, 369, 123, "the text is not a constraint", ["java/lang/RuntimeException", "java/lang/Exception"], true, by decide +kernel, by decide +kernel, by simp only [if_true, if_false, Bool.false_eq_true]; exact ⟨by decide +kernel, by decide +kernel, by decide +kernel⟩, by decide +kernel, by decide +kernel, by decide, ax_mem 514 (by decide +kernel) (by decide +kernel), ax_mem 86 (by decide +kernel) (by decide +kernel), List.mem_of_getElem? (i := 23) (by decide +kernel), fun w hw => ax_in_ok (List.all_eq_true.mp ax_at1 w hw), by decide +kernel⟩
set_option maxRecDepth 100000 in
theorem ax_h22 : ax_thr ax_ns ax_q118 17 "java/lang/ArithmeticException" := ⟨377, 379, 381, "a coefficient or the degree would be greater than 10^9", ["java/lang/RuntimeException", "java/lang/Exception"], true, by decide +kernel, by decide +kernel, by simp only [if_true, if_false, Bool.false_eq_true]; exact ⟨by decide +kernel, by decide +kernel, by decide +kernel⟩, by decide +kernel, by decide +kernel, by decide, ax_mem 1150 (by decide +kernel) (by decide +kernel), ax_mem 97 (by decide +kernel) (by decide +kernel), List.mem_of_getElem? (i := 24) (by decide +kernel), fun w hw => ax_in_ok (List.all_eq_true.mp ax_at4 w hw), by decide +kernel⟩
set_option maxRecDepth 100000 in
theorem ax_h23 : ax_thr ax_ns ax_q126 35 "java/util/NoSuchElementException" := ⟨268, 415, 272, "there is no model", ["java/lang/RuntimeException", "java/lang/Exception"], true, by decide +kernel, by decide +kernel, by simp only [if_true, if_false, Bool.false_eq_true]; exact ⟨by decide +kernel, by decide +kernel, by decide +kernel⟩, by decide +kernel, by decide +kernel, by decide, ax_mem 1282 (by decide +kernel) (by decide +kernel), ax_mem 98 (by decide +kernel) (by decide +kernel), List.mem_of_getElem? (i := 25) (by decide +kernel), fun w hw => ax_in_ok (List.all_eq_true.mp ax_at3 w hw), by decide +kernel⟩
def ax_thrs : List (Nat × Nat × Nat) := [(70, 16, 0), (71, 15, 1), (76, 15, 2), (84, 17, 1), (85, 10, 1), (87, 22, 1), (88, 48, 1), (93, 10, 4), (94, 27, 0), (95, 10, 0), (100, 7, 1), (103, 18, 1), (106, 20, 1), (106, 40, 4), (108, 9, 0), (109, 7, 0), (111, 12, 2), (112, 10, 2), (113, 10, 2), (114, 12, 2), (115, 11, 0), (117, 31, 1), (118, 17, 3), (126, 35, 4)]
theorem ax_thr_ok : ∀ q ∈ ax_thrs, ax_thr ax_ns (ax_mm q.1) q.2.1 (ax_exc.getD q.2.2 "") := by
  unfold ax_thrs
  refine List.forall_mem_cons.mpr ⟨ax_h0, ?_⟩
  refine List.forall_mem_cons.mpr ⟨ax_h1, ?_⟩
  refine List.forall_mem_cons.mpr ⟨ax_h2, ?_⟩
  refine List.forall_mem_cons.mpr ⟨ax_h3, ?_⟩
  refine List.forall_mem_cons.mpr ⟨ax_h4, ?_⟩
  refine List.forall_mem_cons.mpr ⟨ax_h5, ?_⟩
  refine List.forall_mem_cons.mpr ⟨ax_h6, ?_⟩
  refine List.forall_mem_cons.mpr ⟨ax_h7, ?_⟩
  refine List.forall_mem_cons.mpr ⟨ax_h8, ?_⟩
  refine List.forall_mem_cons.mpr ⟨ax_h9, ?_⟩
  refine List.forall_mem_cons.mpr ⟨ax_h10, ?_⟩
  refine List.forall_mem_cons.mpr ⟨ax_h11, ?_⟩
  refine List.forall_mem_cons.mpr ⟨ax_h12, ?_⟩
  refine List.forall_mem_cons.mpr ⟨ax_h13, ?_⟩
  refine List.forall_mem_cons.mpr ⟨ax_h14, ?_⟩
  refine List.forall_mem_cons.mpr ⟨ax_h15, ?_⟩
  refine List.forall_mem_cons.mpr ⟨ax_h16, ?_⟩
  refine List.forall_mem_cons.mpr ⟨ax_h17, ?_⟩
  refine List.forall_mem_cons.mpr ⟨ax_h18, ?_⟩
  refine List.forall_mem_cons.mpr ⟨ax_h19, ?_⟩
  refine List.forall_mem_cons.mpr ⟨ax_h20, ?_⟩
  refine List.forall_mem_cons.mpr ⟨ax_h21, ?_⟩
  refine List.forall_mem_cons.mpr ⟨ax_h22, ?_⟩
  refine List.forall_mem_cons.mpr ⟨ax_h23, ?_⟩
  exact fun _ h => absurd h List.not_mem_nil
def ax_hands : List (Nat × Nat × Nat × Nat × String) := [(219, 0, 16, 19, "java/lang/IllegalStateException"), (220, 0, 9, 12, "java/lang/IllegalArgumentException"), (221, 0, 8, 11, "java/lang/IllegalArgumentException"), (221, 0, 8, 14, "java/lang/IllegalStateException"), (222, 0, 15, 18, "java/lang/IllegalArgumentException"), (223, 0, 9, 12, "java/lang/IndexOutOfBoundsException"), (224, 0, 9, 12, "java/lang/IndexOutOfBoundsException"), (225, 0, 9, 12, "java/lang/IndexOutOfBoundsException"), (226, 0, 9, 12, "java/lang/IndexOutOfBoundsException"), (227, 0, 10, 13, "java/lang/IndexOutOfBoundsException"), (228, 0, 8, 11, "java/lang/IndexOutOfBoundsException"), (229, 0, 9, 12, "java/lang/IndexOutOfBoundsException"), (230, 0, 10, 13, "java/lang/IndexOutOfBoundsException"), (230, 0, 10, 17, "java/lang/IllegalStateException"), (230, 0, 10, 21, "java/lang/ArithmeticException"), (231, 0, 10, 13, "java/lang/IndexOutOfBoundsException"), (231, 0, 10, 17, "java/lang/IllegalArgumentException"), (231, 0, 10, 21, "java/lang/IllegalStateException"), (231, 0, 10, 25, "java/lang/ArithmeticException"), (232, 0, 10, 13, "java/lang/IndexOutOfBoundsException"), (232, 0, 10, 17, "java/lang/IllegalArgumentException"), (232, 0, 10, 21, "java/lang/IllegalStateException"), (233, 0, 9, 12, "java/lang/IndexOutOfBoundsException"), (233, 0, 9, 15, "java/lang/IllegalStateException"), (234, 0, 10, 13, "java/lang/IndexOutOfBoundsException"), (234, 0, 10, 17, "java/lang/IllegalArgumentException"), (234, 0, 10, 21, "java/lang/IllegalStateException"), (235, 0, 12, 15, "java/lang/IndexOutOfBoundsException"), (235, 0, 12, 19, "java/lang/IllegalArgumentException"), (235, 0, 12, 23, "java/lang/IllegalStateException"), (235, 0, 12, 27, "java/lang/ArithmeticException"), (236, 0, 9, 12, "java/lang/IndexOutOfBoundsException"), (236, 0, 9, 15, "java/lang/IllegalStateException"), (237, 0, 17, 20, "java/lang/IndexOutOfBoundsException"), (238, 0, 9, 12, "java/lang/IndexOutOfBoundsException"), (239, 0, 9, 12, "java/lang/IndexOutOfBoundsException"), (240, 0, 8, 11, "java/util/NoSuchElementException"), (240, 0, 8, 14, "java/lang/IllegalStateException"), (241, 0, 9, 12, "java/lang/IndexOutOfBoundsException"), (241, 0, 9, 15, "java/lang/IllegalStateException"), (242, 0, 8, 11, "java/lang/IllegalStateException"), (243, 0, 9, 12, "java/lang/IndexOutOfBoundsException"), (244, 0, 9, 12, "java/lang/IllegalArgumentException"), (245, 0, 16, 19, "java/lang/IndexOutOfBoundsException"), (246, 0, 10, 13, "java/lang/IndexOutOfBoundsException"), (246, 0, 10, 17, "java/lang/IllegalArgumentException"), (247, 0, 8, 11, "java/util/NoSuchElementException"), (248, 0, 8, 11, "java/util/NoSuchElementException"), (249, 0, 10, 13, "java/lang/IllegalArgumentException"), (249, 0, 10, 17, "java/util/NoSuchElementException"), (250, 0, 9, 12, "java/lang/IndexOutOfBoundsException"), (251, 0, 8, 11, "java/lang/IllegalStateException"), (252, 0, 8, 11, "java/lang/IllegalStateException")]
def ax_hok (q : Nat × Nat × Nat × Nat × String) : Prop := ∃ (pre suf : List (Nat × Nat × Nat × Nat)) (ct : Nat), (ax_mm q.1).2.2.2.2 = pre ++ (q.2.1, q.2.2.1, q.2.2.2.1, ct) :: suf ∧ ct ≠ 0 ∧ Cond.classLink (ax_mm q.1).1.cls ct q.2.2.2.2 ∈ ax_tb ∧ Cond.castable q.2.2.2.2 q.2.2.2.2 ∈ ax_nw ∧ ∀ z ∈ pre, z.2.2.2 ≠ 0 ∧ ∃ nm, Cond.classLink (ax_mm q.1).1.cls z.2.2.2 nm ∈ ax_tb ∧ (q.2.2.2.2, nm) ∈ ax_ncs
theorem ax_cll13 : Cond.classLink "PseudoBooleanLaw" 13 "java/lang/IllegalStateException" ∈ ax_tb := ax_wk_mem (ix := 2120) (by decide +kernel)
theorem ax_cll19 : Cond.classLink "PseudoBooleanLaw" 19 "java/lang/IllegalArgumentException" ∈ ax_tb := ax_wk_mem (ix := 2203) (by decide +kernel)
theorem ax_cll32 : Cond.classLink "PseudoBooleanLaw" 32 "java/lang/IndexOutOfBoundsException" ∈ ax_tb := ax_wk_mem (ix := 3164) (by decide +kernel)
theorem ax_cll57 : Cond.classLink "PseudoBooleanLaw" 57 "java/lang/ArithmeticException" ∈ ax_tb := ax_wk_mem (ix := 5092) (by decide +kernel)
theorem ax_cll91 : Cond.classLink "PseudoBooleanLaw" 91 "java/util/NoSuchElementException" ∈ ax_tb := ax_wk_mem (ix := 6011) (by decide +kernel)
theorem ax_hn0 : ax_hok (219, 0, 16, 19, "java/lang/IllegalStateException") := ⟨[], [], 13, rfl, by decide, ax_cll13, by decide +kernel, fun _ h => absurd h List.not_mem_nil⟩
theorem ax_hn1 : ax_hok (220, 0, 9, 12, "java/lang/IllegalArgumentException") := ⟨[], [], 19, rfl, by decide, ax_cll19, by decide +kernel, fun _ h => absurd h List.not_mem_nil⟩
theorem ax_hn2 : ax_hok (221, 0, 8, 11, "java/lang/IllegalArgumentException") := ⟨[], [(0, 8, 14, 13)], 19, rfl, by decide, ax_cll19, by decide +kernel, fun _ h => absurd h List.not_mem_nil⟩
theorem ax_hn3 : ax_hok (221, 0, 8, 14, "java/lang/IllegalStateException") := ⟨[(0, 8, 11, 19)], [], 13, rfl, by decide, ax_cll13, by decide +kernel, List.forall_mem_cons.mpr ⟨⟨by decide, "java/lang/IllegalArgumentException", ax_cll19, by decide +kernel⟩, fun _ h => absurd h List.not_mem_nil⟩⟩
theorem ax_hn4 : ax_hok (222, 0, 15, 18, "java/lang/IllegalArgumentException") := ⟨[], [], 19, rfl, by decide, ax_cll19, by decide +kernel, fun _ h => absurd h List.not_mem_nil⟩
theorem ax_hn5 : ax_hok (223, 0, 9, 12, "java/lang/IndexOutOfBoundsException") := ⟨[], [], 32, rfl, by decide, ax_cll32, by decide +kernel, fun _ h => absurd h List.not_mem_nil⟩
theorem ax_hn6 : ax_hok (224, 0, 9, 12, "java/lang/IndexOutOfBoundsException") := ⟨[], [], 32, rfl, by decide, ax_cll32, by decide +kernel, fun _ h => absurd h List.not_mem_nil⟩
theorem ax_hn7 : ax_hok (225, 0, 9, 12, "java/lang/IndexOutOfBoundsException") := ⟨[], [], 32, rfl, by decide, ax_cll32, by decide +kernel, fun _ h => absurd h List.not_mem_nil⟩
theorem ax_hn8 : ax_hok (226, 0, 9, 12, "java/lang/IndexOutOfBoundsException") := ⟨[], [], 32, rfl, by decide, ax_cll32, by decide +kernel, fun _ h => absurd h List.not_mem_nil⟩
theorem ax_hn9 : ax_hok (227, 0, 10, 13, "java/lang/IndexOutOfBoundsException") := ⟨[], [], 32, rfl, by decide, ax_cll32, by decide +kernel, fun _ h => absurd h List.not_mem_nil⟩
theorem ax_hn10 : ax_hok (228, 0, 8, 11, "java/lang/IndexOutOfBoundsException") := ⟨[], [], 32, rfl, by decide, ax_cll32, by decide +kernel, fun _ h => absurd h List.not_mem_nil⟩
theorem ax_hn11 : ax_hok (229, 0, 9, 12, "java/lang/IndexOutOfBoundsException") := ⟨[], [], 32, rfl, by decide, ax_cll32, by decide +kernel, fun _ h => absurd h List.not_mem_nil⟩
theorem ax_hn12 : ax_hok (230, 0, 10, 13, "java/lang/IndexOutOfBoundsException") := ⟨[], [(0, 10, 17, 13), (0, 10, 21, 57)], 32, rfl, by decide, ax_cll32, by decide +kernel, fun _ h => absurd h List.not_mem_nil⟩
theorem ax_hn13 : ax_hok (230, 0, 10, 17, "java/lang/IllegalStateException") := ⟨[(0, 10, 13, 32)], [(0, 10, 21, 57)], 13, rfl, by decide, ax_cll13, by decide +kernel, List.forall_mem_cons.mpr ⟨⟨by decide, "java/lang/IndexOutOfBoundsException", ax_cll32, by decide +kernel⟩, fun _ h => absurd h List.not_mem_nil⟩⟩
theorem ax_hn14 : ax_hok (230, 0, 10, 21, "java/lang/ArithmeticException") := ⟨[(0, 10, 13, 32), (0, 10, 17, 13)], [], 57, rfl, by decide, ax_cll57, by decide +kernel, List.forall_mem_cons.mpr ⟨⟨by decide, "java/lang/IndexOutOfBoundsException", ax_cll32, by decide +kernel⟩, List.forall_mem_cons.mpr ⟨⟨by decide, "java/lang/IllegalStateException", ax_cll13, by decide +kernel⟩, fun _ h => absurd h List.not_mem_nil⟩⟩⟩
theorem ax_hn15 : ax_hok (231, 0, 10, 13, "java/lang/IndexOutOfBoundsException") := ⟨[], [(0, 10, 17, 19), (0, 10, 21, 13), (0, 10, 25, 57)], 32, rfl, by decide, ax_cll32, by decide +kernel, fun _ h => absurd h List.not_mem_nil⟩
theorem ax_hn16 : ax_hok (231, 0, 10, 17, "java/lang/IllegalArgumentException") := ⟨[(0, 10, 13, 32)], [(0, 10, 21, 13), (0, 10, 25, 57)], 19, rfl, by decide, ax_cll19, by decide +kernel, List.forall_mem_cons.mpr ⟨⟨by decide, "java/lang/IndexOutOfBoundsException", ax_cll32, by decide +kernel⟩, fun _ h => absurd h List.not_mem_nil⟩⟩
theorem ax_hn17 : ax_hok (231, 0, 10, 21, "java/lang/IllegalStateException") := ⟨[(0, 10, 13, 32), (0, 10, 17, 19)], [(0, 10, 25, 57)], 13, rfl, by decide, ax_cll13, by decide +kernel, List.forall_mem_cons.mpr ⟨⟨by decide, "java/lang/IndexOutOfBoundsException", ax_cll32, by decide +kernel⟩, List.forall_mem_cons.mpr ⟨⟨by decide, "java/lang/IllegalArgumentException", ax_cll19, by decide +kernel⟩, fun _ h => absurd h List.not_mem_nil⟩⟩⟩
theorem ax_hn18 : ax_hok (231, 0, 10, 25, "java/lang/ArithmeticException") := ⟨[(0, 10, 13, 32), (0, 10, 17, 19), (0, 10, 21, 13)], [], 57, rfl, by decide, ax_cll57, by decide +kernel, List.forall_mem_cons.mpr ⟨⟨by decide, "java/lang/IndexOutOfBoundsException", ax_cll32, by decide +kernel⟩, List.forall_mem_cons.mpr ⟨⟨by decide, "java/lang/IllegalArgumentException", ax_cll19, by decide +kernel⟩, List.forall_mem_cons.mpr ⟨⟨by decide, "java/lang/IllegalStateException", ax_cll13, by decide +kernel⟩, fun _ h => absurd h List.not_mem_nil⟩⟩⟩⟩
theorem ax_hn19 : ax_hok (232, 0, 10, 13, "java/lang/IndexOutOfBoundsException") := ⟨[], [(0, 10, 17, 19), (0, 10, 21, 13)], 32, rfl, by decide, ax_cll32, by decide +kernel, fun _ h => absurd h List.not_mem_nil⟩
theorem ax_hn20 : ax_hok (232, 0, 10, 17, "java/lang/IllegalArgumentException") := ⟨[(0, 10, 13, 32)], [(0, 10, 21, 13)], 19, rfl, by decide, ax_cll19, by decide +kernel, List.forall_mem_cons.mpr ⟨⟨by decide, "java/lang/IndexOutOfBoundsException", ax_cll32, by decide +kernel⟩, fun _ h => absurd h List.not_mem_nil⟩⟩
theorem ax_hn21 : ax_hok (232, 0, 10, 21, "java/lang/IllegalStateException") := ⟨[(0, 10, 13, 32), (0, 10, 17, 19)], [], 13, rfl, by decide, ax_cll13, by decide +kernel, List.forall_mem_cons.mpr ⟨⟨by decide, "java/lang/IndexOutOfBoundsException", ax_cll32, by decide +kernel⟩, List.forall_mem_cons.mpr ⟨⟨by decide, "java/lang/IllegalArgumentException", ax_cll19, by decide +kernel⟩, fun _ h => absurd h List.not_mem_nil⟩⟩⟩
theorem ax_hn22 : ax_hok (233, 0, 9, 12, "java/lang/IndexOutOfBoundsException") := ⟨[], [(0, 9, 15, 13)], 32, rfl, by decide, ax_cll32, by decide +kernel, fun _ h => absurd h List.not_mem_nil⟩
theorem ax_hn23 : ax_hok (233, 0, 9, 15, "java/lang/IllegalStateException") := ⟨[(0, 9, 12, 32)], [], 13, rfl, by decide, ax_cll13, by decide +kernel, List.forall_mem_cons.mpr ⟨⟨by decide, "java/lang/IndexOutOfBoundsException", ax_cll32, by decide +kernel⟩, fun _ h => absurd h List.not_mem_nil⟩⟩
theorem ax_hn24 : ax_hok (234, 0, 10, 13, "java/lang/IndexOutOfBoundsException") := ⟨[], [(0, 10, 17, 19), (0, 10, 21, 13)], 32, rfl, by decide, ax_cll32, by decide +kernel, fun _ h => absurd h List.not_mem_nil⟩
theorem ax_hn25 : ax_hok (234, 0, 10, 17, "java/lang/IllegalArgumentException") := ⟨[(0, 10, 13, 32)], [(0, 10, 21, 13)], 19, rfl, by decide, ax_cll19, by decide +kernel, List.forall_mem_cons.mpr ⟨⟨by decide, "java/lang/IndexOutOfBoundsException", ax_cll32, by decide +kernel⟩, fun _ h => absurd h List.not_mem_nil⟩⟩
theorem ax_hn26 : ax_hok (234, 0, 10, 21, "java/lang/IllegalStateException") := ⟨[(0, 10, 13, 32), (0, 10, 17, 19)], [], 13, rfl, by decide, ax_cll13, by decide +kernel, List.forall_mem_cons.mpr ⟨⟨by decide, "java/lang/IndexOutOfBoundsException", ax_cll32, by decide +kernel⟩, List.forall_mem_cons.mpr ⟨⟨by decide, "java/lang/IllegalArgumentException", ax_cll19, by decide +kernel⟩, fun _ h => absurd h List.not_mem_nil⟩⟩⟩
theorem ax_hn27 : ax_hok (235, 0, 12, 15, "java/lang/IndexOutOfBoundsException") := ⟨[], [(0, 12, 19, 19), (0, 12, 23, 13), (0, 12, 27, 57)], 32, rfl, by decide, ax_cll32, by decide +kernel, fun _ h => absurd h List.not_mem_nil⟩
theorem ax_hn28 : ax_hok (235, 0, 12, 19, "java/lang/IllegalArgumentException") := ⟨[(0, 12, 15, 32)], [(0, 12, 23, 13), (0, 12, 27, 57)], 19, rfl, by decide, ax_cll19, by decide +kernel, List.forall_mem_cons.mpr ⟨⟨by decide, "java/lang/IndexOutOfBoundsException", ax_cll32, by decide +kernel⟩, fun _ h => absurd h List.not_mem_nil⟩⟩
theorem ax_hn29 : ax_hok (235, 0, 12, 23, "java/lang/IllegalStateException") := ⟨[(0, 12, 15, 32), (0, 12, 19, 19)], [(0, 12, 27, 57)], 13, rfl, by decide, ax_cll13, by decide +kernel, List.forall_mem_cons.mpr ⟨⟨by decide, "java/lang/IndexOutOfBoundsException", ax_cll32, by decide +kernel⟩, List.forall_mem_cons.mpr ⟨⟨by decide, "java/lang/IllegalArgumentException", ax_cll19, by decide +kernel⟩, fun _ h => absurd h List.not_mem_nil⟩⟩⟩
theorem ax_hn30 : ax_hok (235, 0, 12, 27, "java/lang/ArithmeticException") := ⟨[(0, 12, 15, 32), (0, 12, 19, 19), (0, 12, 23, 13)], [], 57, rfl, by decide, ax_cll57, by decide +kernel, List.forall_mem_cons.mpr ⟨⟨by decide, "java/lang/IndexOutOfBoundsException", ax_cll32, by decide +kernel⟩, List.forall_mem_cons.mpr ⟨⟨by decide, "java/lang/IllegalArgumentException", ax_cll19, by decide +kernel⟩, List.forall_mem_cons.mpr ⟨⟨by decide, "java/lang/IllegalStateException", ax_cll13, by decide +kernel⟩, fun _ h => absurd h List.not_mem_nil⟩⟩⟩⟩
theorem ax_hn31 : ax_hok (236, 0, 9, 12, "java/lang/IndexOutOfBoundsException") := ⟨[], [(0, 9, 15, 13)], 32, rfl, by decide, ax_cll32, by decide +kernel, fun _ h => absurd h List.not_mem_nil⟩
theorem ax_hn32 : ax_hok (236, 0, 9, 15, "java/lang/IllegalStateException") := ⟨[(0, 9, 12, 32)], [], 13, rfl, by decide, ax_cll13, by decide +kernel, List.forall_mem_cons.mpr ⟨⟨by decide, "java/lang/IndexOutOfBoundsException", ax_cll32, by decide +kernel⟩, fun _ h => absurd h List.not_mem_nil⟩⟩
theorem ax_hn33 : ax_hok (237, 0, 17, 20, "java/lang/IndexOutOfBoundsException") := ⟨[], [], 32, rfl, by decide, ax_cll32, by decide +kernel, fun _ h => absurd h List.not_mem_nil⟩
theorem ax_hn34 : ax_hok (238, 0, 9, 12, "java/lang/IndexOutOfBoundsException") := ⟨[], [], 32, rfl, by decide, ax_cll32, by decide +kernel, fun _ h => absurd h List.not_mem_nil⟩
theorem ax_hn35 : ax_hok (239, 0, 9, 12, "java/lang/IndexOutOfBoundsException") := ⟨[], [], 32, rfl, by decide, ax_cll32, by decide +kernel, fun _ h => absurd h List.not_mem_nil⟩
theorem ax_hn36 : ax_hok (240, 0, 8, 11, "java/util/NoSuchElementException") := ⟨[], [(0, 8, 14, 13)], 91, rfl, by decide, ax_cll91, by decide +kernel, fun _ h => absurd h List.not_mem_nil⟩
theorem ax_hn37 : ax_hok (240, 0, 8, 14, "java/lang/IllegalStateException") := ⟨[(0, 8, 11, 91)], [], 13, rfl, by decide, ax_cll13, by decide +kernel, List.forall_mem_cons.mpr ⟨⟨by decide, "java/util/NoSuchElementException", ax_cll91, by decide +kernel⟩, fun _ h => absurd h List.not_mem_nil⟩⟩
theorem ax_hn38 : ax_hok (241, 0, 9, 12, "java/lang/IndexOutOfBoundsException") := ⟨[], [(0, 9, 15, 13)], 32, rfl, by decide, ax_cll32, by decide +kernel, fun _ h => absurd h List.not_mem_nil⟩
theorem ax_hn39 : ax_hok (241, 0, 9, 15, "java/lang/IllegalStateException") := ⟨[(0, 9, 12, 32)], [], 13, rfl, by decide, ax_cll13, by decide +kernel, List.forall_mem_cons.mpr ⟨⟨by decide, "java/lang/IndexOutOfBoundsException", ax_cll32, by decide +kernel⟩, fun _ h => absurd h List.not_mem_nil⟩⟩
theorem ax_hn40 : ax_hok (242, 0, 8, 11, "java/lang/IllegalStateException") := ⟨[], [], 13, rfl, by decide, ax_cll13, by decide +kernel, fun _ h => absurd h List.not_mem_nil⟩
theorem ax_hn41 : ax_hok (243, 0, 9, 12, "java/lang/IndexOutOfBoundsException") := ⟨[], [], 32, rfl, by decide, ax_cll32, by decide +kernel, fun _ h => absurd h List.not_mem_nil⟩
theorem ax_hn42 : ax_hok (244, 0, 9, 12, "java/lang/IllegalArgumentException") := ⟨[], [], 19, rfl, by decide, ax_cll19, by decide +kernel, fun _ h => absurd h List.not_mem_nil⟩
theorem ax_hn43 : ax_hok (245, 0, 16, 19, "java/lang/IndexOutOfBoundsException") := ⟨[], [], 32, rfl, by decide, ax_cll32, by decide +kernel, fun _ h => absurd h List.not_mem_nil⟩
theorem ax_hn44 : ax_hok (246, 0, 10, 13, "java/lang/IndexOutOfBoundsException") := ⟨[], [(0, 10, 17, 19)], 32, rfl, by decide, ax_cll32, by decide +kernel, fun _ h => absurd h List.not_mem_nil⟩
theorem ax_hn45 : ax_hok (246, 0, 10, 17, "java/lang/IllegalArgumentException") := ⟨[(0, 10, 13, 32)], [], 19, rfl, by decide, ax_cll19, by decide +kernel, List.forall_mem_cons.mpr ⟨⟨by decide, "java/lang/IndexOutOfBoundsException", ax_cll32, by decide +kernel⟩, fun _ h => absurd h List.not_mem_nil⟩⟩
theorem ax_hn46 : ax_hok (247, 0, 8, 11, "java/util/NoSuchElementException") := ⟨[], [], 91, rfl, by decide, ax_cll91, by decide +kernel, fun _ h => absurd h List.not_mem_nil⟩
theorem ax_hn47 : ax_hok (248, 0, 8, 11, "java/util/NoSuchElementException") := ⟨[], [], 91, rfl, by decide, ax_cll91, by decide +kernel, fun _ h => absurd h List.not_mem_nil⟩
theorem ax_hn48 : ax_hok (249, 0, 10, 13, "java/lang/IllegalArgumentException") := ⟨[], [(0, 10, 17, 91)], 19, rfl, by decide, ax_cll19, by decide +kernel, fun _ h => absurd h List.not_mem_nil⟩
theorem ax_hn49 : ax_hok (249, 0, 10, 17, "java/util/NoSuchElementException") := ⟨[(0, 10, 13, 19)], [], 91, rfl, by decide, ax_cll91, by decide +kernel, List.forall_mem_cons.mpr ⟨⟨by decide, "java/lang/IllegalArgumentException", ax_cll19, by decide +kernel⟩, fun _ h => absurd h List.not_mem_nil⟩⟩
theorem ax_hn50 : ax_hok (250, 0, 9, 12, "java/lang/IndexOutOfBoundsException") := ⟨[], [], 32, rfl, by decide, ax_cll32, by decide +kernel, fun _ h => absurd h List.not_mem_nil⟩
theorem ax_hn51 : ax_hok (251, 0, 8, 11, "java/lang/IllegalStateException") := ⟨[], [], 13, rfl, by decide, ax_cll13, by decide +kernel, fun _ h => absurd h List.not_mem_nil⟩
theorem ax_hn52 : ax_hok (252, 0, 8, 11, "java/lang/IllegalStateException") := ⟨[], [], 13, rfl, by decide, ax_cll13, by decide +kernel, fun _ h => absurd h List.not_mem_nil⟩
theorem ax_hands_ok : ∀ q ∈ ax_hands, ax_hok q := by
  unfold ax_hands
  refine List.forall_mem_cons.mpr ⟨ax_hn0, ?_⟩
  refine List.forall_mem_cons.mpr ⟨ax_hn1, ?_⟩
  refine List.forall_mem_cons.mpr ⟨ax_hn2, ?_⟩
  refine List.forall_mem_cons.mpr ⟨ax_hn3, ?_⟩
  refine List.forall_mem_cons.mpr ⟨ax_hn4, ?_⟩
  refine List.forall_mem_cons.mpr ⟨ax_hn5, ?_⟩
  refine List.forall_mem_cons.mpr ⟨ax_hn6, ?_⟩
  refine List.forall_mem_cons.mpr ⟨ax_hn7, ?_⟩
  refine List.forall_mem_cons.mpr ⟨ax_hn8, ?_⟩
  refine List.forall_mem_cons.mpr ⟨ax_hn9, ?_⟩
  refine List.forall_mem_cons.mpr ⟨ax_hn10, ?_⟩
  refine List.forall_mem_cons.mpr ⟨ax_hn11, ?_⟩
  refine List.forall_mem_cons.mpr ⟨ax_hn12, ?_⟩
  refine List.forall_mem_cons.mpr ⟨ax_hn13, ?_⟩
  refine List.forall_mem_cons.mpr ⟨ax_hn14, ?_⟩
  refine List.forall_mem_cons.mpr ⟨ax_hn15, ?_⟩
  refine List.forall_mem_cons.mpr ⟨ax_hn16, ?_⟩
  refine List.forall_mem_cons.mpr ⟨ax_hn17, ?_⟩
  refine List.forall_mem_cons.mpr ⟨ax_hn18, ?_⟩
  refine List.forall_mem_cons.mpr ⟨ax_hn19, ?_⟩
  refine List.forall_mem_cons.mpr ⟨ax_hn20, ?_⟩
  refine List.forall_mem_cons.mpr ⟨ax_hn21, ?_⟩
  refine List.forall_mem_cons.mpr ⟨ax_hn22, ?_⟩
  refine List.forall_mem_cons.mpr ⟨ax_hn23, ?_⟩
  refine List.forall_mem_cons.mpr ⟨ax_hn24, ?_⟩
  refine List.forall_mem_cons.mpr ⟨ax_hn25, ?_⟩
  refine List.forall_mem_cons.mpr ⟨ax_hn26, ?_⟩
  refine List.forall_mem_cons.mpr ⟨ax_hn27, ?_⟩
  refine List.forall_mem_cons.mpr ⟨ax_hn28, ?_⟩
  refine List.forall_mem_cons.mpr ⟨ax_hn29, ?_⟩
  refine List.forall_mem_cons.mpr ⟨ax_hn30, ?_⟩
  refine List.forall_mem_cons.mpr ⟨ax_hn31, ?_⟩
  refine List.forall_mem_cons.mpr ⟨ax_hn32, ?_⟩
  refine List.forall_mem_cons.mpr ⟨ax_hn33, ?_⟩
  refine List.forall_mem_cons.mpr ⟨ax_hn34, ?_⟩
  refine List.forall_mem_cons.mpr ⟨ax_hn35, ?_⟩
  refine List.forall_mem_cons.mpr ⟨ax_hn36, ?_⟩
  refine List.forall_mem_cons.mpr ⟨ax_hn37, ?_⟩
  refine List.forall_mem_cons.mpr ⟨ax_hn38, ?_⟩
  refine List.forall_mem_cons.mpr ⟨ax_hn39, ?_⟩
  refine List.forall_mem_cons.mpr ⟨ax_hn40, ?_⟩
  refine List.forall_mem_cons.mpr ⟨ax_hn41, ?_⟩
  refine List.forall_mem_cons.mpr ⟨ax_hn42, ?_⟩
  refine List.forall_mem_cons.mpr ⟨ax_hn43, ?_⟩
  refine List.forall_mem_cons.mpr ⟨ax_hn44, ?_⟩
  refine List.forall_mem_cons.mpr ⟨ax_hn45, ?_⟩
  refine List.forall_mem_cons.mpr ⟨ax_hn46, ?_⟩
  refine List.forall_mem_cons.mpr ⟨ax_hn47, ?_⟩
  refine List.forall_mem_cons.mpr ⟨ax_hn48, ?_⟩
  refine List.forall_mem_cons.mpr ⟨ax_hn49, ?_⟩
  refine List.forall_mem_cons.mpr ⟨ax_hn50, ?_⟩
  refine List.forall_mem_cons.mpr ⟨ax_hn51, ?_⟩
  refine List.forall_mem_cons.mpr ⟨ax_hn52, ?_⟩
  exact fun _ h => absurd h List.not_mem_nil
abbrev ax_RR : Type := (Option Value ⊕ String) × ax_H × Nat × Nat
def ax_kind (ins : Instr) (a c : Nat) : Nat := match ins with
  | .invokestatic _ => if 700 ≤ a ∧ a < 704 then 0 else 1
  | .invokevirtual _ => 2
  | .invokespecial _ => if c = 2 then 0 else if c = 3 then 9 else 3
  | .ireturn => 4
  | .lreturn => 5
  | .areturn => 6
  | .return_ => 7
  | .new _ => if 800 ≤ a then 8 else 0
  | _ => 0
def ax_hand (i pc : Nat) (E : String) : Option (Nat × Nat × Nat × Nat × String) := ax_hands.find? (fun q => Nat.beq q.1 i && (Nat.ble q.2.1 pc && (Nat.blt pc q.2.2.1 && (q.2.2.2.2 == E))))
/-- behind a call -/
noncomputable def ax_cn (rec : Nat → List (Nat × Value) → List Value → ax_H → Nat → Nat → Option ax_RR) (i pc : Nat) (lv : List (Nat × Value)) (rest : List Value) (uc us : Nat) : Option ax_RR → Option ax_RR
  | some (.inl v, h', dc, ds) => ax_fn (uc + dc) fun uc' => ax_fn (us + ds) fun us' => ax_fn (pc + 3) fun pc' => ax_ft (v.toList ++ rest) fun st => rec pc' lv st h' uc' us'
  | some (.inr E, h', dc, ds) => match ax_hand i pc E with
    | some q => ax_fn (uc + dc) fun uc' => ax_fn (us + ds) fun us' => rec q.2.2.2.1 lv [.retAddr 0] h' uc' us'
    | none => if (ax_mm i).2.2.2.2 = [] then some (.inr E, h', uc + dc, us + ds) else none
  | none => none
noncomputable def ax_ex (r : ax_H) (call : Nat → List Value → ax_H → Option ax_RR) (i : Nat) : Nat → Nat → List (Nat × Value) → List Value → ax_H → Nat → Nat → Option ax_RR
  | 0, _, _, _, _, _, _ => none
  | n + 1, pc, lv, st, h, uc, us => match ax_look i pc with
    | none => none
    | some (ins, (a, b, c), v, _) => match ax_kind ins a c with
      | 0 => (match ax_one r (ax_mm i).2.2.1 pc ins a b c v lv st h with
        | some (pc', lv', st', h', dc, ds) => ax_fn pc' fun pc' => ax_fn (uc + dc) fun uc' => ax_fn (us + ds) fun us' => ax_ft st' fun st' => ax_ex r call i n pc' lv' st' h' uc' us'
        | none => none)
      | 1 => if ax_has a = true ∧ ax_st a = true ∧ b ≤ st.length ∧ ((st.drop b).map fun v => v.category).sum ≤ 8 then
          ax_cn (ax_ex r call i n) i pc lv (st.drop b) uc us (call a (st.take b).reverse h) else none
      | 2 => (match st.drop b with
        | .ref q :: rest => (match ax_get r h q with
          | some (t, _) => if ax_has a = true ∧ ax_st a = false ∧ (ax_mm a).2.2.2.2 = [] ∧ b ≤ st.length ∧ (rest.map fun v => v.category).sum ≤ 8 ∧ t = c then
            ax_cn (ax_ex r call i n) i pc lv rest uc us (call a (.ref q :: (st.take b).reverse) h) else none
          | none => none)
        | _ => none)
      | 3 => (match st.drop b with
        | .ref q :: rest => if ax_has a = true ∧ ax_st a = false ∧ (ax_mm a).2.2.2.2 = [] ∧ b ≤ st.length ∧ (rest.map fun v => v.category).sum ≤ 8 ∧ (ax_mm a).1.name = "<init>" ∧ (ax_mm a).2.2.2.1 = none ∧ c ≤ 1 then
            ax_cn (ax_ex r call i n) i pc lv rest uc us (call a (.ref q :: (st.take b).reverse) h) else none
        | _ => none)
      | 9 => (match st.drop b with
        | .ref q :: rest => (match ax_get r h q with
          | some (t, _) => if ax_has a = true ∧ ax_st a = false ∧ (ax_mm a).2.2.2.2 = [] ∧ b ≤ st.length ∧ (rest.map fun v => v.category).sum ≤ 8 ∧ t < 11 then
            ax_cn (ax_ex r call i n) i pc lv rest uc us (call a (.ref q :: (st.take b).reverse) h) else none
          | none => none)
        | _ => none)
      | 4 => (match st with
        | [x] => (match (ax_mm i).2.2.2.1 with
          | some ty => if ax_isI x = true ∧ (ty = .int ∨ ax_fit ty x = true) then some (.inl (some x), h, uc, us) else none
          | none => none)
        | _ => none)
      | 5 => (match st with
        | [x] => if ax_isL x = true ∧ (ax_mm i).2.2.2.1 = some .long then some (.inl (some x), h, uc, us) else none
        | _ => none)
      | 6 => (match st with
        | [x] => (match (ax_mm i).2.2.2.1 with
          | some (.object _) => if ax_isA x = true then some (.inl (some x), h, uc, us) else none
          | some (.array _) => if ax_isA x = true then some (.inl (some x), h, uc, us) else none
          | _ => none)
        | _ => none)
      | 7 => (match st with
        | [] => if (ax_mm i).2.2.2.1 = none then some (.inl none, h, uc, us) else none
        | _ => none)
      | 8 => if (i, pc, a - 800) ∈ ax_thrs ∧ (ax_mm i).2.2.2.2 = [] ∧ (st.map fun v => v.category).sum ≤ 100 then some (.inr (ax_exc.getD (a - 800) ""), h ++ [(99, [])], uc + 1, us + 6) else none
      | _ => none
noncomputable def ax_cl (r : ax_H) (f : Nat) : Nat → Nat → List Value → ax_H → Option ax_RR
  | 0, _, _, _ => none
  | d + 1, i, as, h => if ax_has i = true ∧ (lg_sl as).length ≤ (ax_mm i).2.2.1 then ax_ex r (ax_cl r f d) i f 0 (lv_args 0 as) [] h 0 0 else none
def ax_QR (res : Option Value ⊕ String) (h : ax_H) : ax_Q := fun res2 h2 => res2 = res ∧ h2 = h
section AXQ
variable {l : Launch} {r : ax_H} {P : ax_P} {X : ax_PX}
theorem AR.cast {ns : ax_NS} {k : ax_M} {d pc : Nat} {lv : List (Nat × Value)} {st : List Value} {h : ax_H} {bc bs bc' bs' : Nat} (h1 : bc' = bc) (h2 : bs' = bs) (K : AR ns l k d r P X pc lv st h bc' bs') : AR ns l k d r P X pc lv st h bc bs := by
  subst h1; subst h2; exact K
/-- behind a call: what it comes to -/
theorem ax_cn_ok {rec : Nat → List (Nat × Value) → List Value → ax_H → Nat → Nat → Option ax_RR} {d i pc : Nat} {lv : List (Nat × Value)} {rest : List Value} {uc us : Nat} {cr : Option ax_RR} {res : Option Value ⊕ String} {h' : ax_H} {uc' us' : Nat}
    (hs : ax_cn rec i pc lv rest uc us cr = some (res, h', uc', us'))
    (ih : ∀ pc lv st h uc us, rec pc lv st h uc us = some (res, h', uc', us') → uc ≤ uc' ∧ us ≤ us' ∧ AR ax_ns l (ax_mm i) d r (ax_ret ax_ns (ax_mm i) (ax_QR res h')) (fun _ _ E h2 _ _ => (ax_mm i).2.2.2.2 = [] ∧ ax_QR res h' (.inr E) h2) pc lv st h (uc' - uc) (us' - us)) :
    ∃ (res0 : Option Value ⊕ String) (h0 : ax_H) (dc ds : Nat), cr = some (res0, h0, dc, ds) ∧ uc + dc ≤ uc' ∧ us + ds ≤ us' ∧
      (∀ v h2, ax_QR res0 h0 (.inl v) h2 → AR ax_ns l (ax_mm i) d r (ax_ret ax_ns (ax_mm i) (ax_QR res h')) (fun _ _ E h2 _ _ => (ax_mm i).2.2.2.2 = [] ∧ ax_QR res h' (.inr E) h2) (pc + 3) lv (v.toList ++ rest) h2 (uc' - uc - dc) (us' - us - ds)) ∧
      (∀ E h2, ax_QR res0 h0 (.inr E) h2 → AX ax_ns l (ax_mm i) d r (ax_ret ax_ns (ax_mm i) (ax_QR res h')) (fun _ _ E h2 _ _ => (ax_mm i).2.2.2.2 = [] ∧ ax_QR res h' (.inr E) h2) pc lv E h2 (uc' - uc - dc) (us' - us - ds)) := by
  unfold ax_cn at hs
  simp only [ax_fn_eq, ax_ft_eq] at hs
  split at hs
  · rename_i v h0 dc ds
    obtain ⟨e1, e2, K⟩ := ih _ _ _ _ _ _ hs
    refine ⟨.inl v, h0, dc, ds, rfl, e1, e2, fun v2 h2 hq => ?_, fun E h2 hq => by cases hq.1⟩
    obtain ⟨q1, q2⟩ := hq
    cases q1
    cases q2
    exact AR.cast (by omega) (by omega) K
  · rename_i E h0 dc ds
    split at hs
    · rename_i q hf
      obtain ⟨e1, e2, K⟩ := ih _ _ _ _ _ _ hs
      refine ⟨.inr E, h0, dc, ds, rfl, e1, e2, fun v2 h2 hq => by cases hq.1, fun E2 h2 hq => ?_⟩
      obtain ⟨q1, q2⟩ := hq
      cases q1
      cases q2
      have h1 := List.find?_some hf
      have h2 := List.mem_of_find?_eq_some hf
      simp only [Bool.and_eq_true, beq_iff_eq] at h1
      obtain ⟨f1, f2, f3, f4⟩ := h1
      have f1 := Nat.eq_of_beq_eq_true f1
      obtain ⟨pre, suf, ct, t1, t2, t3, t4, t5⟩ := ax_hands_ok q h2
      obtain ⟨qi, qs, qe, qh, qE⟩ := q
      dsimp only at f1 f2 f3 f4 t1 t2 t3 t4 t5 K
      subst f1
      subst f4
      exact AX.caught t1 (Nat.le_of_ble_eq_true f2) (Nat.lt_of_succ_le (Nat.le_of_ble_eq_true f3)) t2 t3 t4 t5 (AR.cast (by omega) (by omega) K)
    · split at hs
      · rename_i hnil
        cases hs
        refine ⟨.inr E, h', dc, ds, rfl, Nat.le_refl _, Nat.le_refl _, fun v2 h2 hq => by cases hq.1, fun E2 h2 hq => AX.out ⟨hnil, hq⟩⟩
      · cases hs
  · cases hs
set_option maxHeartbeats 4000000 in
theorem ax_ex_ok {call : Nat → List Value → ax_H → Option ax_RR} {dy i : Nat}
    (hc : ∀ a as h res h' dc ds, call a as h = some (res, h', dc, ds) → AM ax_ns l (ax_mm a) dy r dc ds as h (ax_QR res h')) :
    ∀ (n pc : Nat) (lv : List (Nat × Value)) (st : List Value) (h : ax_H) (uc us : Nat) (res : Option Value ⊕ String) (h' : ax_H) (uc' us' : Nat), ax_ex r call i n pc lv st h uc us = some (res, h', uc', us') →
      uc ≤ uc' ∧ us ≤ us' ∧ AR ax_ns l (ax_mm i) (dy + 1) r (ax_ret ax_ns (ax_mm i) (ax_QR res h')) (fun _ _ E h2 _ _ => (ax_mm i).2.2.2.2 = [] ∧ ax_QR res h' (.inr E) h2) pc lv st h (uc' - uc) (us' - us) := by
  intro n
  induction n with
  | zero => intro pc lv st h uc us res h' uc' us' hs; cases hs
  | succ n ih =>
    intro pc lv st h uc us res h' uc' us' hs
    have ih' := fun pc lv st h uc us => ih pc lv st h uc us res h' uc' us'
    simp only [ax_ex] at hs
    split at hs
    · cases hs
    · rename_i _ ins a b c v ws hl
      obtain ⟨hd, hok⟩ := ax_look_ok hl
      dsimp only at hd hok
      split at hs
      -- a step
      · split at hs
        · rename_i pc' lv' st' h1 dc ds ho
          simp only [ax_fn_eq, ax_ft_eq] at hs
          obtain ⟨e1, e2, K⟩ := ih _ _ _ _ _ _ _ _ _ _ hs
          exact ⟨by omega, by omega, AR.cast (by omega) (by omega) (ax_one_ok hd hok ho K)⟩
        · cases hs
      -- a static call
      · rename_i hk
        split at hs
        · rename_i hg
          obtain ⟨ha, hst, hbl, hcat⟩ := hg
          have halt := ax_has_lt ha
          obtain ⟨ix, rfl⟩ : ∃ ix, ins = .invokestatic ix := by
            cases ins <;> first | exact ⟨_, rfl⟩ | (simp [ax_kind] at hk; done) | (simp only [ax_kind] at hk; split at hk <;> cases hk)
          have hx := hok (by intro e; omega)
          simp only [ax_okx] at hx
          split at hx
          · rename_i w
            split at hx
            · omega
            · omega
            · omega
            simp only [Bool.and_eq_true, ax_pl, decide_eq_true_eq] at hx
            obtain ⟨f1, f2, -, f4, f5, f6, f7⟩ := ax_mfacts ha
            have hsite : ax_site (ax_mm i) (ax_mm a) ix b := ⟨f1, f2, ax_wk_mem hx.1, ⟨f4, f5, hx.2⟩, f6⟩
            have hstk : st = (st.take b).reverse.reverse ++ st.drop b := by rw [List.reverse_reverse, List.take_append_drop]
            have hlen : (st.take b).reverse.length = b := by rw [List.length_reverse, List.length_take]; omega
            obtain ⟨res0, h0, dc, ds, hcall, e1, e2, K1, K2⟩ := ax_cn_ok hs ih'
            exact ⟨by omega, by omega, AR.invokestatic hd hsite ((ax_mst ha).1 hst) hstk hlen (hc _ _ _ _ _ _ _ hcall) (Nat.le_refl _) (by omega) (by omega) hcat K1 K2⟩
          · cases hx
        · cases hs
      -- a virtual call
      · rename_i hk
        obtain ⟨ix, rfl⟩ : ∃ ix, ins = .invokevirtual ix := by
          cases ins <;> first | exact ⟨_, rfl⟩ | (simp [ax_kind] at hk; done) | (simp only [ax_kind] at hk; split at hk <;> cases hk)
        split at hs
        · rename_i q rest hdrop
          split at hs
          · rename_i t vs hget
            split at hs
            · rename_i hg
              obtain ⟨ha, hst, hni, hbl, hcat, rfl⟩ := hg
              have halt := ax_has_lt ha
              have hx := hok (by intro e; omega)
              simp only [ax_okx] at hx
              split at hx
              · rename_i cl w1 w2 hcl
                simp only [Bool.and_eq_true, ax_pl, decide_eq_true_eq] at hx
                obtain ⟨f1, f2, -, f4, f5, f6, f7⟩ := ax_mfacts ha
                have hsite : ax_site (ax_mm i) (ax_mm a) ix b := ⟨f1, f2, ax_wk_mem hx.1.1, ⟨f4, f5, hx.1.2⟩, f6⟩
                have hstk : st = (st.take b).reverse.reverse ++ .ref q :: rest := by rw [List.reverse_reverse, ← hdrop, List.take_append_drop]
                have hlen : (st.take b).reverse.length = b := by rw [List.length_reverse, List.length_take]; omega
                obtain ⟨res0, h0, dc, ds, hcall, e1, e2, K1, K2⟩ := ax_cn_ok hs ih'
                exact ⟨by omega, by omega, AR.invokevirtual hni hd hsite ((ax_mst ha).2 hst) (ax_wk_mem hx.2) hcl hget hstk hlen (hc _ _ _ _ _ _ _ hcall) (Nat.le_refl _) (by omega) (by omega) hcat K1 K2⟩
              · cases hx
            · cases hs
          · cases hs
        · cases hs
      -- a constructor
      · rename_i hk
        obtain ⟨ix, rfl⟩ : ∃ ix, ins = .invokespecial ix := by
          cases ins <;> first | exact ⟨_, rfl⟩ | (simp [ax_kind] at hk; done) | (simp only [ax_kind] at hk; split at hk <;> cases hk)
        split at hs
        · rename_i q rest hdrop
          split at hs
          · rename_i hg
            obtain ⟨ha, hst, hni, hbl, hcat, hname, hret, hc1⟩ := hg
            have halt := ax_has_lt ha
            have hx := hok (by intro e; omega)
            obtain ⟨f1, f2, -, f4, f5, f6, f7⟩ := ax_mfacts ha
            have hstk : st = (st.take b).reverse.reverse ++ .ref q :: rest := by rw [List.reverse_reverse, ← hdrop, List.take_append_drop]
            have hlen : (st.take b).reverse.length = b := by rw [List.length_reverse, List.length_take]; omega
            obtain ⟨res0, h0, dc, ds, hcall, e1, e2, K1, K2⟩ := ax_cn_ok hs ih'
            match c, hc1, hx with
            | 0, _, hx =>
              simp only [ax_okx] at hx
              split at hx
              · rename_i h2 _; cases h2
              · rename_i h2 _; cases h2
              · rename_i w _ _
                simp only [Bool.and_eq_true, ax_pl, decide_eq_true_eq] at hx
                have hsite : ax_site (ax_mm i) (ax_mm a) ix b := ⟨f1, f2, ax_wk_mem hx.1, ⟨f4, f5, hx.2⟩, f6⟩
                exact ⟨by omega, by omega, AR.invokespecial hni hd hsite ((ax_mst ha).2 hst) hname hret hstk hlen (hc _ _ _ _ _ _ _ hcall) (Nat.le_refl _) (by omega) (by omega) hcat K1 K2⟩
              · cases hx
            | 1, _, hx =>
              simp only [ax_okx] at hx
              split at hx
              · rename_i h2 _; cases h2
              · simp only [Bool.and_eq_true, ax_pl, decide_eq_true_eq] at hx
                exact ⟨by omega, by omega, AR.invokenest hd hni f1 f2 hx.2 ⟨f4, f5, hx.1⟩ f6 ((ax_mst ha).2 hst) hname hret hstk hlen (hc _ _ _ _ _ _ _ hcall) (Nat.le_refl _) (by omega) (by omega) hcat K1 K2⟩
              · rename_i h2 _; cases h2
              · cases hx
          · cases hs
        · cases hs
      -- a method of the superclass
      · rename_i hk
        obtain ⟨ix, rfl⟩ : ∃ ix, ins = .invokespecial ix := by
          cases ins <;> first | exact ⟨_, rfl⟩ | (simp [ax_kind] at hk; done) | (simp only [ax_kind] at hk; split at hk <;> cases hk)
        obtain rfl : c = 3 := by
          simp only [ax_kind] at hk
          split at hk
          · cases hk
          · split at hk
            · assumption
            · cases hk
        split at hs
        · rename_i q rest hdrop
          split at hs
          · rename_i t vs hget
            split at hs
            · rename_i hg
              obtain ⟨ha, hst, hni, hbl, hcat, ht⟩ := hg
              have halt := ax_has_lt ha
              obtain ⟨cl, hcl⟩ : ∃ cl, ax_cls[t]? = some cl := ⟨_, List.getElem?_eq_getElem (show t < ax_cls.length from ht)⟩
              have hx := hok (by intro e; omega)
              simp only [ax_okx] at hx
              split at hx
              · rename_i h9 _; cases h9
              · rename_i h9 _; cases h9
              · rename_i h9 _; cases h9
              · rename_i w1 w2 w3 _ _
                simp only [Bool.and_eq_true, ax_pl, decide_eq_true_eq] at hx
                obtain ⟨⟨⟨⟨hx1, hx2⟩, hx3⟩, hx4⟩, hx5⟩ := hx
                obtain ⟨f1, f2, -, f4, f5, f6, f7⟩ := ax_mfacts ha
                have hsite : ax_site (ax_mm i) (ax_mm a) ix b := ⟨f1, f2, ax_wk_mem hx1, ⟨f4, f5, hx2⟩, f6⟩
                have hstk : st = (st.take b).reverse.reverse ++ .ref q :: rest := by rw [List.reverse_reverse, ← hdrop, List.take_append_drop]
                have hlen : (st.take b).reverse.length = b := by rw [List.length_reverse, List.length_take]; omega
                obtain ⟨res0, h0, dc, ds, hcall, e1, e2, K1, K2⟩ := ax_cn_ok hs ih'
                exact ⟨by omega, by omega, AR.invokeup hni hd hsite ((ax_mst ha).2 hst) (ax_wk_mem hx3) (ax_wk_mem hx4) hx5 hcl hget hstk hlen (hc _ _ _ _ _ _ _ hcall) (Nat.le_refl _) (by omega) (by omega) hcat K1 K2⟩
              · cases hx
            · cases hs
          · cases hs
        · cases hs
      -- ireturn
      · rename_i hk
        obtain rfl : ins = .ireturn := by
          cases ins <;> first | rfl | (simp [ax_kind] at hk; done) | (simp only [ax_kind] at hk; split at hk <;> cases hk)
        split at hs
        · split at hs
          · rename_i x ty hty
            split at hs
            · rename_i hg
              cases hs
              refine ⟨Nat.le_refl _, Nat.le_refl _, AR.at ?_⟩
              rcases hg with ⟨h1, rfl | h2⟩
              · exact Or.inl ⟨_, rfl, h1, hd, hty, rfl, rfl⟩
              · exact Or.inr (Or.inl ⟨_, _, rfl, h2, h1, hd, hty, rfl, rfl⟩)
            · cases hs
          · cases hs
        · cases hs
      · rename_i hk
        obtain rfl : ins = .lreturn := by
          cases ins <;> first | rfl | (simp [ax_kind] at hk; done) | (simp only [ax_kind] at hk; split at hk <;> cases hk)
        split at hs
        · split at hs
          · rename_i x hg
            cases hs
            exact ⟨Nat.le_refl _, Nat.le_refl _, AR.at (Or.inr (Or.inr (Or.inl ⟨_, rfl, hg.1, hd, hg.2, rfl, rfl⟩)))⟩
          · cases hs
        · cases hs
      · rename_i hk
        obtain rfl : ins = .areturn := by
          cases ins <;> first | rfl | (simp [ax_kind] at hk; done) | (simp only [ax_kind] at hk; split at hk <;> cases hk)
        split at hs
        · split at hs
          · rename_i x _ nm hty
            split at hs
            · rename_i hg
              cases hs
              exact ⟨Nat.le_refl _, Nat.le_refl _, AR.at (Or.inr (Or.inr (Or.inr (Or.inl ⟨_, _, rfl, hg, hd, hty, Or.inl ⟨_, rfl⟩, rfl, rfl⟩))))⟩
            · cases hs
          · rename_i x _ nm hty
            split at hs
            · rename_i hg
              cases hs
              exact ⟨Nat.le_refl _, Nat.le_refl _, AR.at (Or.inr (Or.inr (Or.inr (Or.inl ⟨_, _, rfl, hg, hd, hty, Or.inr ⟨_, rfl⟩, rfl, rfl⟩))))⟩
            · cases hs
          · cases hs
        · cases hs
      · rename_i hk
        obtain rfl : ins = .return_ := by
          cases ins <;> first | rfl | (simp [ax_kind] at hk; done) | (simp only [ax_kind] at hk; split at hk <;> cases hk)
        split at hs
        · split at hs
          · rename_i hg
            cases hs
            exact ⟨Nat.le_refl _, Nat.le_refl _, AR.at (Or.inr (Or.inr (Or.inr (Or.inr (Or.inl ⟨rfl, hd, hg, rfl, rfl⟩)))))⟩
          · cases hs
        · cases hs
      · split at hs
        · rename_i hg
          cases hs
          exact ⟨by omega, by omega, AR.at (Or.inr (Or.inr (Or.inr (Or.inr (Or.inr ⟨_, ax_thr_ok _ hg.1, hg.2.1, by omega, by omega, hg.2.2, rfl, rfl⟩)))))⟩
        · cases hs
      · cases hs
theorem ax_cl_ok (hl : l.stackTraces = false) {f : Nat} : ∀ (d i : Nat) (as : List Value) (h : ax_H) (res : Option Value ⊕ String) (h' : ax_H) (uc us : Nat), ax_cl r f d i as h = some (res, h', uc, us) → AM ax_ns l (ax_mm i) d r uc us as h (ax_QR res h') := by
  intro d
  induction d with
  | zero => intro i as h res h' uc us hs; cases hs
  | succ d ih =>
    intro i as h res h' uc us hs
    simp only [ax_cl] at hs
    split at hs
    · rename_i hg
      obtain ⟨hi, hlen⟩ := hg
      obtain ⟨-, -, K⟩ := ax_ex_ok (l := l) (fun a as h res h' dc ds => ih a as h res h' dc ds) _ _ _ _ _ _ _ _ _ _ _ hs
      exact AM.of (ax_mfacts hi).2.2.2.2.2.2 hl hlen K
    · cases hs
end AXQ
