/-! THROWS, and whole runs of the abstract machine -/
def ax_exc : List String := ["java/lang/IllegalStateException", "java/lang/IllegalArgumentException", "java/lang/IndexOutOfBoundsException", "java/lang/ArithmeticException", "java/util/NoSuchElementException"]
def ax_in (w : Cond) : Bool := decide (w ∈ ax_nw) || (lw_tbl.any (fun v => decide (v = w)) && goodWord w)
theorem ax_in_ok {w : Cond} (h : ax_in w = true) : w ∈ ax_tb ∨ w ∈ ax_nw := by
  simp only [ax_in, Bool.or_eq_true, Bool.and_eq_true, decide_eq_true_eq, List.any_eq_true] at h
  rcases h with h | ⟨⟨v, h1, h2⟩, h3⟩
  · exact Or.inr h
  · exact Or.inl (List.mem_filter.mpr ⟨by rw [← h2]; exact h1, h3⟩)
set_option maxRecDepth 100000 in
theorem ax_at0 : (vx_atS "PseudoBoolean" 112 "java/lang/IllegalStateException" ["java/lang/RuntimeException", "java/lang/Exception"]).all ax_in = true := by decide +kernel
set_option maxRecDepth 100000 in
theorem ax_at1 : (vx_atS "PseudoBoolean" 123 "java/lang/IllegalArgumentException" ["java/lang/RuntimeException", "java/lang/Exception"]).all ax_in = true := by decide +kernel
set_option maxRecDepth 100000 in
theorem ax_at2 : (vx_atS "PseudoBoolean" 174 "java/lang/IndexOutOfBoundsException" ["java/lang/RuntimeException", "java/lang/Exception"]).all ax_in = true := by decide +kernel
set_option maxRecDepth 100000 in
theorem ax_at3 : (vx_atS "PseudoBoolean" 272 "java/util/NoSuchElementException" ["java/lang/RuntimeException", "java/lang/Exception"]).all ax_in = true := by decide +kernel
set_option maxRecDepth 100000 in
theorem ax_at4 : (vx_atS "PseudoBoolean" 381 "java/lang/ArithmeticException" ["java/lang/RuntimeException", "java/lang/Exception"]).all ax_in = true := by decide +kernel
set_option maxRecDepth 100000 in
theorem ax_h0 : ax_thr ax_ns ax_q70 16 "java/lang/IllegalStateException" := ⟨108, 110, 112, "the text buffer is full", ["java/lang/RuntimeException", "java/lang/Exception"], false, by decide +kernel, by decide +kernel, by simp only [if_true, if_false, Bool.false_eq_true]; exact ⟨by decide +kernel, by decide +kernel, by decide +kernel⟩, by decide +kernel, by decide +kernel, by decide, ax_mem 431 (by decide +kernel) (by decide +kernel), ax_mem 85 (by decide +kernel) (by decide +kernel), List.mem_of_getElem? (i := 2) (by decide +kernel), fun w hw => ax_in_ok (List.all_eq_true.mp ax_at0 w hw), by decide +kernel⟩
set_option maxRecDepth 100000 in
theorem ax_h1 : ax_thr ax_ns ax_q71 15 "java/lang/IllegalArgumentException" := ⟨119, 121, 123, "the text buffer does not have so many bytes", ["java/lang/RuntimeException", "java/lang/Exception"], false, by decide +kernel, by decide +kernel, by simp only [if_true, if_false, Bool.false_eq_true]; exact ⟨by decide +kernel, by decide +kernel, by decide +kernel⟩, by decide +kernel, by decide +kernel, by decide, ax_mem 514 (by decide +kernel) (by decide +kernel), ax_mem 86 (by decide +kernel) (by decide +kernel), List.mem_of_getElem? (i := 3) (by decide +kernel), fun w hw => ax_in_ok (List.all_eq_true.mp ax_at1 w hw), by decide +kernel⟩
set_option maxRecDepth 100000 in
theorem ax_h2 : ax_thr ax_ns ax_q76 15 "java/lang/IndexOutOfBoundsException" := ⟨170, 172, 174, "no such byte of the output", ["java/lang/RuntimeException", "java/lang/Exception"], false, by decide +kernel, by decide +kernel, by simp only [if_true, if_false, Bool.false_eq_true]; exact ⟨by decide +kernel, by decide +kernel, by decide +kernel⟩, by decide +kernel, by decide +kernel, by decide, ax_mem 742 (by decide +kernel) (by decide +kernel), ax_mem 88 (by decide +kernel) (by decide +kernel), List.mem_of_getElem? (i := 4) (by decide +kernel), fun w hw => ax_in_ok (List.all_eq_true.mp ax_at2 w hw), by decide +kernel⟩
set_option maxRecDepth 100000 in
theorem ax_h3 : ax_thr ax_ns ax_q84 17 "java/lang/IllegalArgumentException" := ⟨119, 208, 123, "the factor is not 1 to 1000", ["java/lang/RuntimeException", "java/lang/Exception"], false, by decide +kernel, by decide +kernel, by simp only [if_true, if_false, Bool.false_eq_true]; exact ⟨by decide +kernel, by decide +kernel, by decide +kernel⟩, by decide +kernel, by decide +kernel, by decide, ax_mem 514 (by decide +kernel) (by decide +kernel), ax_mem 86 (by decide +kernel) (by decide +kernel), List.mem_of_getElem? (i := 5) (by decide +kernel), fun w hw => ax_in_ok (List.all_eq_true.mp ax_at1 w hw), by decide +kernel⟩
set_option maxRecDepth 100000 in
theorem ax_h4 : ax_thr ax_ns ax_q85 10 "java/lang/IllegalArgumentException" := ⟨119, 210, 123, "the divisor is less than 1", ["java/lang/RuntimeException", "java/lang/Exception"], false, by decide +kernel, by decide +kernel, by simp only [if_true, if_false, Bool.false_eq_true]; exact ⟨by decide +kernel, by decide +kernel, by decide +kernel⟩, by decide +kernel, by decide +kernel, by decide, ax_mem 514 (by decide +kernel) (by decide +kernel), ax_mem 86 (by decide +kernel) (by decide +kernel), List.mem_of_getElem? (i := 6) (by decide +kernel), fun w hw => ax_in_ok (List.all_eq_true.mp ax_at1 w hw), by decide +kernel⟩
set_option maxRecDepth 100000 in
theorem ax_h5 : ax_thr ax_ns ax_q87 22 "java/lang/IllegalArgumentException" := ⟨119, 226, 123, "the constraint has no literal of the variable", ["java/lang/RuntimeException", "java/lang/Exception"], false, by decide +kernel, by decide +kernel, by simp only [if_true, if_false, Bool.false_eq_true]; exact ⟨by decide +kernel, by decide +kernel, by decide +kernel⟩, by decide +kernel, by decide +kernel, by decide, ax_mem 514 (by decide +kernel) (by decide +kernel), ax_mem 86 (by decide +kernel) (by decide +kernel), List.mem_of_getElem? (i := 7) (by decide +kernel), fun w hw => ax_in_ok (List.all_eq_true.mp ax_at1 w hw), by decide +kernel⟩
set_option maxRecDepth 100000 in
theorem ax_h6 : ax_thr ax_ns ax_q88 48 "java/lang/IllegalArgumentException" := ⟨119, 235, 123, "there are no opposite literals of the variable", ["java/lang/RuntimeException", "java/lang/Exception"], false, by decide +kernel, by decide +kernel, by simp only [if_true, if_false, Bool.false_eq_true]; exact ⟨by decide +kernel, by decide +kernel, by decide +kernel⟩, by decide +kernel, by decide +kernel, by decide, ax_mem 514 (by decide +kernel) (by decide +kernel), ax_mem 86 (by decide +kernel) (by decide +kernel), List.mem_of_getElem? (i := 8) (by decide +kernel), fun w hw => ax_in_ok (List.all_eq_true.mp ax_at1 w hw), by decide +kernel⟩
set_option maxRecDepth 100000 in
theorem ax_h7 : ax_thr ax_ns ax_q93 10 "java/util/NoSuchElementException" := ⟨268, 270, 272, "no group is kept", ["java/lang/RuntimeException", "java/lang/Exception"], true, by decide +kernel, by decide +kernel, by simp only [if_true, if_false, Bool.false_eq_true]; exact ⟨by decide +kernel, by decide +kernel, by decide +kernel⟩, by decide +kernel, by decide +kernel, by decide, ax_mem 1282 (by decide +kernel) (by decide +kernel), ax_mem 98 (by decide +kernel) (by decide +kernel), List.mem_of_getElem? (i := 9) (by decide +kernel), fun w hw => ax_in_ok (List.all_eq_true.mp ax_at3 w hw), by decide +kernel⟩
set_option maxRecDepth 100000 in
theorem ax_h8 : ax_thr ax_ns ax_q94 27 "java/lang/IllegalStateException" := ⟨108, 280, 112, "the literal cannot be decided", ["java/lang/RuntimeException", "java/lang/Exception"], true, by decide +kernel, by decide +kernel, by simp only [if_true, if_false, Bool.false_eq_true]; exact ⟨by decide +kernel, by decide +kernel, by decide +kernel⟩, by decide +kernel, by decide +kernel, by decide, ax_mem 431 (by decide +kernel) (by decide +kernel), ax_mem 85 (by decide +kernel) (by decide +kernel), List.mem_of_getElem? (i := 10) (by decide +kernel), fun w hw => ax_in_ok (List.all_eq_true.mp ax_at0 w hw), by decide +kernel⟩
set_option maxRecDepth 100000 in
theorem ax_h9 : ax_thr ax_ns ax_q95 10 "java/lang/IllegalStateException" := ⟨108, 294, 112, "there are no decisions", ["java/lang/RuntimeException", "java/lang/Exception"], true, by decide +kernel, by decide +kernel, by simp only [if_true, if_false, Bool.false_eq_true]; exact ⟨by decide +kernel, by decide +kernel, by decide +kernel⟩, by decide +kernel, by decide +kernel, by decide, ax_mem 431 (by decide +kernel) (by decide +kernel), ax_mem 85 (by decide +kernel) (by decide +kernel), List.mem_of_getElem? (i := 11) (by decide +kernel), fun w hw => ax_in_ok (List.all_eq_true.mp ax_at0 w hw), by decide +kernel⟩
set_option maxRecDepth 100000 in
theorem ax_h10 : ax_thr ax_ns ax_q100 7 "java/lang/IllegalArgumentException" := ⟨119, 316, 123, "the mask is not 0 to 4095", ["java/lang/RuntimeException", "java/lang/Exception"], true, by decide +kernel, by decide +kernel, by simp only [if_true, if_false, Bool.false_eq_true]; exact ⟨by decide +kernel, by decide +kernel, by decide +kernel⟩, by decide +kernel, by decide +kernel, by decide, ax_mem 514 (by decide +kernel) (by decide +kernel), ax_mem 86 (by decide +kernel) (by decide +kernel), List.mem_of_getElem? (i := 12) (by decide +kernel), fun w hw => ax_in_ok (List.all_eq_true.mp ax_at1 w hw), by decide +kernel⟩
set_option maxRecDepth 100000 in
theorem ax_h11 : ax_thr ax_ns ax_q103 18 "java/lang/IllegalArgumentException" := ⟨119, 324, 123, "the cost is not -1000 to 1000", ["java/lang/RuntimeException", "java/lang/Exception"], true, by decide +kernel, by decide +kernel, by simp only [if_true, if_false, Bool.false_eq_true]; exact ⟨by decide +kernel, by decide +kernel, by decide +kernel⟩, by decide +kernel, by decide +kernel, by decide, ax_mem 514 (by decide +kernel) (by decide +kernel), ax_mem 86 (by decide +kernel) (by decide +kernel), List.mem_of_getElem? (i := 13) (by decide +kernel), fun w hw => ax_in_ok (List.all_eq_true.mp ax_at1 w hw), by decide +kernel⟩
set_option maxRecDepth 100000 in
theorem ax_h12 : ax_thr ax_ns ax_q106 20 "java/lang/IllegalArgumentException" := ⟨119, 333, 123, "these are not two masks without a common variable", ["java/lang/RuntimeException", "java/lang/Exception"], true, by decide +kernel, by decide +kernel, by simp only [if_true, if_false, Bool.false_eq_true]; exact ⟨by decide +kernel, by decide +kernel, by decide +kernel⟩, by decide +kernel, by decide +kernel, by decide, ax_mem 514 (by decide +kernel) (by decide +kernel), ax_mem 86 (by decide +kernel) (by decide +kernel), List.mem_of_getElem? (i := 14) (by decide +kernel), fun w hw => ax_in_ok (List.all_eq_true.mp ax_at1 w hw), by decide +kernel⟩
set_option maxRecDepth 100000 in
theorem ax_h13 : ax_thr ax_ns ax_q106 40 "java/util/NoSuchElementException" := ⟨268, 335, 272, "there is a model", ["java/lang/RuntimeException", "java/lang/Exception"], true, by decide +kernel, by decide +kernel, by simp only [if_true, if_false, Bool.false_eq_true]; exact ⟨by decide +kernel, by decide +kernel, by decide +kernel⟩, by decide +kernel, by decide +kernel, by decide, ax_mem 1282 (by decide +kernel) (by decide +kernel), ax_mem 98 (by decide +kernel) (by decide +kernel), List.mem_of_getElem? (i := 15) (by decide +kernel), fun w hw => ax_in_ok (List.all_eq_true.mp ax_at3 w hw), by decide +kernel⟩
set_option maxRecDepth 100000 in
theorem ax_h14 : ax_thr ax_ns ax_q108 9 "java/lang/IllegalStateException" := ⟨108, 337, 112, "there are 8 levels", ["java/lang/RuntimeException", "java/lang/Exception"], true, by decide +kernel, by decide +kernel, by simp only [if_true, if_false, Bool.false_eq_true]; exact ⟨by decide +kernel, by decide +kernel, by decide +kernel⟩, by decide +kernel, by decide +kernel, by decide, ax_mem 431 (by decide +kernel) (by decide +kernel), ax_mem 85 (by decide +kernel) (by decide +kernel), List.mem_of_getElem? (i := 16) (by decide +kernel), fun w hw => ax_in_ok (List.all_eq_true.mp ax_at0 w hw), by decide +kernel⟩
set_option maxRecDepth 100000 in
theorem ax_h15 : ax_thr ax_ns ax_q109 7 "java/lang/IllegalStateException" := ⟨108, 346, 112, "there is no level", ["java/lang/RuntimeException", "java/lang/Exception"], true, by decide +kernel, by decide +kernel, by simp only [if_true, if_false, Bool.false_eq_true]; exact ⟨by decide +kernel, by decide +kernel, by decide +kernel⟩, by decide +kernel, by decide +kernel, by decide, ax_mem 431 (by decide +kernel) (by decide +kernel), ax_mem 85 (by decide +kernel) (by decide +kernel), List.mem_of_getElem? (i := 17) (by decide +kernel), fun w hw => ax_in_ok (List.all_eq_true.mp ax_at0 w hw), by decide +kernel⟩
set_option maxRecDepth 100000 in
theorem ax_h16 : ax_thr ax_ns ax_q111 12 "java/lang/IndexOutOfBoundsException" := ⟨170, 356, 174, "no such constraint", ["java/lang/RuntimeException", "java/lang/Exception"], true, by decide +kernel, by decide +kernel, by simp only [if_true, if_false, Bool.false_eq_true]; exact ⟨by decide +kernel, by decide +kernel, by decide +kernel⟩, by decide +kernel, by decide +kernel, by decide, ax_mem 742 (by decide +kernel) (by decide +kernel), ax_mem 88 (by decide +kernel) (by decide +kernel), List.mem_of_getElem? (i := 18) (by decide +kernel), fun w hw => ax_in_ok (List.all_eq_true.mp ax_at2 w hw), by decide +kernel⟩
set_option maxRecDepth 100000 in
theorem ax_h17 : ax_thr ax_ns ax_q112 10 "java/lang/IndexOutOfBoundsException" := ⟨170, 358, 174, "no such literal", ["java/lang/RuntimeException", "java/lang/Exception"], true, by decide +kernel, by decide +kernel, by simp only [if_true, if_false, Bool.false_eq_true]; exact ⟨by decide +kernel, by decide +kernel, by decide +kernel⟩, by decide +kernel, by decide +kernel, by decide, ax_mem 742 (by decide +kernel) (by decide +kernel), ax_mem 88 (by decide +kernel) (by decide +kernel), List.mem_of_getElem? (i := 19) (by decide +kernel), fun w hw => ax_in_ok (List.all_eq_true.mp ax_at2 w hw), by decide +kernel⟩
set_option maxRecDepth 100000 in
theorem ax_h18 : ax_thr ax_ns ax_q113 10 "java/lang/IndexOutOfBoundsException" := ⟨170, 360, 174, "no such variable", ["java/lang/RuntimeException", "java/lang/Exception"], true, by decide +kernel, by decide +kernel, by simp only [if_true, if_false, Bool.false_eq_true]; exact ⟨by decide +kernel, by decide +kernel, by decide +kernel⟩, by decide +kernel, by decide +kernel, by decide, ax_mem 742 (by decide +kernel) (by decide +kernel), ax_mem 88 (by decide +kernel) (by decide +kernel), List.mem_of_getElem? (i := 20) (by decide +kernel), fun w hw => ax_in_ok (List.all_eq_true.mp ax_at2 w hw), by decide +kernel⟩
set_option maxRecDepth 100000 in
theorem ax_h19 : ax_thr ax_ns ax_q114 12 "java/lang/IndexOutOfBoundsException" := ⟨170, 362, 174, "no such index", ["java/lang/RuntimeException", "java/lang/Exception"], true, by decide +kernel, by decide +kernel, by simp only [if_true, if_false, Bool.false_eq_true]; exact ⟨by decide +kernel, by decide +kernel, by decide +kernel⟩, by decide +kernel, by decide +kernel, by decide, ax_mem 742 (by decide +kernel) (by decide +kernel), ax_mem 88 (by decide +kernel) (by decide +kernel), List.mem_of_getElem? (i := 21) (by decide +kernel), fun w hw => ax_in_ok (List.all_eq_true.mp ax_at2 w hw), by decide +kernel⟩
set_option maxRecDepth 100000 in
theorem ax_h20 : ax_thr ax_ns ax_q115 11 "java/lang/IllegalStateException" := ⟨108, 364, 112, "there would be more than 60 constraints", ["java/lang/RuntimeException", "java/lang/Exception"], true, by decide +kernel, by decide +kernel, by simp only [if_true, if_false, Bool.false_eq_true]; exact ⟨by decide +kernel, by decide +kernel, by decide +kernel⟩, by decide +kernel, by decide +kernel, by decide, ax_mem 431 (by decide +kernel) (by decide +kernel), ax_mem 85 (by decide +kernel) (by decide +kernel), List.mem_of_getElem? (i := 22) (by decide +kernel), fun w hw => ax_in_ok (List.all_eq_true.mp ax_at0 w hw), by decide +kernel⟩
set_option maxRecDepth 100000 in
theorem ax_h21 : ax_thr ax_ns ax_q117 31 "java/lang/IllegalArgumentException" := ⟨119, 369, 123, "the text is not a constraint", ["java/lang/RuntimeException", "java/lang/Exception"], true, by decide +kernel, by decide +kernel, by simp only [if_true, if_false, Bool.false_eq_true]; exact ⟨by decide +kernel, by decide +kernel, by decide +kernel⟩, by decide +kernel, by decide +kernel, by decide, ax_mem 514 (by decide +kernel) (by decide +kernel), ax_mem 86 (by decide +kernel) (by decide +kernel), List.mem_of_getElem? (i := 23) (by decide +kernel), fun w hw => ax_in_ok (List.all_eq_true.mp ax_at1 w hw), by decide +kernel⟩
set_option maxRecDepth 100000 in
theorem ax_h22 : ax_thr ax_ns ax_q118 17 "java/lang/ArithmeticException" := ⟨377, 379, 381, "a coefficient or the degree would be greater than 10^9", ["java/lang/RuntimeException", "java/lang/Exception"], true, by decide +kernel, by decide +kernel, by simp only [if_true, if_false, Bool.false_eq_true]; exact ⟨by decide +kernel, by decide +kernel, by decide +kernel⟩, by decide +kernel, by decide +kernel, by decide, ax_mem 1150 (by decide +kernel) (by decide +kernel), ax_mem 97 (by decide +kernel) (by decide +kernel), List.mem_of_getElem? (i := 24) (by decide +kernel), fun w hw => ax_in_ok (List.all_eq_true.mp ax_at4 w hw), by decide +kernel⟩
set_option maxRecDepth 100000 in
theorem ax_h23 : ax_thr ax_ns ax_q126 35 "java/util/NoSuchElementException" := ⟨268, 415, 272, "there is no model", ["java/lang/RuntimeException", "java/lang/Exception"], true, by decide +kernel, by decide +kernel, by simp only [if_true, if_false, Bool.false_eq_true]; exact ⟨by decide +kernel, by decide +kernel, by decide +kernel⟩, by decide +kernel, by decide +kernel, by decide, ax_mem 1282 (by decide +kernel) (by decide +kernel), ax_mem 98 (by decide +kernel) (by decide +kernel), List.mem_of_getElem? (i := 25) (by decide +kernel), fun w hw => ax_in_ok (List.all_eq_true.mp ax_at3 w hw), by decide +kernel⟩
def ax_thrs : List (Nat × Nat × Nat) := [(70, 16, 0), (71, 15, 1), (76, 15, 2), (84, 17, 1), (85, 10, 1), (87, 22, 1), (88, 48, 1), (93, 10, 4), (94, 27, 0), (95, 10, 0), (100, 7, 1), (103, 18, 1), (106, 20, 1), (106, 40, 4), (108, 9, 0), (109, 7, 0), (111, 12, 2), (112, 10, 2), (113, 10, 2), (114, 12, 2), (115, 11, 0), (117, 31, 1), (118, 17, 3), (126, 35, 4)]
theorem ax_thr_ok : ∀ q ∈ ax_thrs, ax_thr ax_ns (ax_mm q.1) q.2.1 (ax_exc.getD q.2.2 "") := by
  unfold ax_thrs
  refine List.forall_mem_cons.mpr ⟨ax_h0, ?_⟩
  refine List.forall_mem_cons.mpr ⟨ax_h1, ?_⟩
  refine List.forall_mem_cons.mpr ⟨ax_h2, ?_⟩
  refine List.forall_mem_cons.mpr ⟨ax_h3, ?_⟩
  refine List.forall_mem_cons.mpr ⟨ax_h4, ?_⟩
  refine List.forall_mem_cons.mpr ⟨ax_h5, ?_⟩
  refine List.forall_mem_cons.mpr ⟨ax_h6, ?_⟩
  refine List.forall_mem_cons.mpr ⟨ax_h7, ?_⟩
  refine List.forall_mem_cons.mpr ⟨ax_h8, ?_⟩
  refine List.forall_mem_cons.mpr ⟨ax_h9, ?_⟩
  refine List.forall_mem_cons.mpr ⟨ax_h10, ?_⟩
  refine List.forall_mem_cons.mpr ⟨ax_h11, ?_⟩
  refine List.forall_mem_cons.mpr ⟨ax_h12, ?_⟩
  refine List.forall_mem_cons.mpr ⟨ax_h13, ?_⟩
  refine List.forall_mem_cons.mpr ⟨ax_h14, ?_⟩
  refine List.forall_mem_cons.mpr ⟨ax_h15, ?_⟩
  refine List.forall_mem_cons.mpr ⟨ax_h16, ?_⟩
  refine List.forall_mem_cons.mpr ⟨ax_h17, ?_⟩
  refine List.forall_mem_cons.mpr ⟨ax_h18, ?_⟩
  refine List.forall_mem_cons.mpr ⟨ax_h19, ?_⟩
  refine List.forall_mem_cons.mpr ⟨ax_h20, ?_⟩
  refine List.forall_mem_cons.mpr ⟨ax_h21, ?_⟩
  refine List.forall_mem_cons.mpr ⟨ax_h22, ?_⟩
  refine List.forall_mem_cons.mpr ⟨ax_h23, ?_⟩
  exact fun _ h => absurd h List.not_mem_nil
def ax_st (i : Nat) : Bool := match ax_mw[i]? with
  | some w => w.2.2.1
  | none => false
set_option maxRecDepth 20000 in
theorem ax_mst {i : Nat} (hi : i < 261) : (ax_st i = true → Cond.static (ax_mm i).1 ∈ ax_tb) ∧ (ax_st i = false → Cond.instanceMethod (ax_mm i).1 ∈ ax_tb) := by
  have hw := List.getElem?_eq_getElem (show i < ax_mw.length from hi)
  have h1 := ax_allf i hi _ hw
  simp only [ax_st, hw]
  generalize ax_mw[i] = w at h1
  generalize ax_mm i = y at h1 ⊢
  simp only [ax_mkb, Bool.and_eq_true, decide_eq_true_eq] at h1
  obtain ⟨⟨⟨⟨⟨⟨a1, a2⟩, a3⟩, a4⟩, a5⟩, a6⟩, a7⟩ := h1
  refine ⟨fun e => ?_, fun e => ?_⟩
  · rw [if_pos e] at a3
    exact ax_wk_mem a3
  · rw [if_neg (by rw [e]; decide)] at a3
    exact ax_wk_mem a3
abbrev ax_RR : Type := (Option Value ⊕ String) × ax_H × Nat × Nat
def ax_kind (ins : Instr) (a c : Nat) : Nat := match ins with
  | .invokestatic _ => 1
  | .invokevirtual _ => 2
  | .invokespecial _ => if c = 2 then 0 else 3
  | .ireturn => 4
  | .lreturn => 5
  | .areturn => 6
  | .return_ => 7
  | .new _ => if 800 ≤ a then 8 else 0
  | _ => 0
def ax_ex (r : ax_H) (call : Nat → List Value → ax_H → Option ax_RR) (i : Nat) : Nat → Nat → List (Nat × Value) → List Value → ax_H → Nat → Nat → Option ax_RR
  | 0, _, _, _, _, _, _ => none
  | n + 1, pc, lv, st, h, uc, us => match ax_look i pc with
    | none => none
    | some (_, ins, _, (a, b, c), v, _) => match ax_kind ins a c with
      | 0 => (match ax_one r (ax_mm i).2.2.1 pc ins a b c v lv st h with
        | some (pc', lv', st', h', dc, ds) => ax_ex r call i n pc' lv' st' h' (uc + dc) (us + ds)
        | none => none)
      | 1 => if a < 261 ∧ ax_st a = true ∧ (ax_mm a).2.2.2.2 = [] ∧ b ≤ st.length ∧ ((st.drop b).map fun v => v.category).sum ≤ 8 then
          (match call a (st.take b).reverse h with
          | some (.inl v, h', dc, ds) => ax_ex r call i n (pc + 3) lv (v.toList ++ st.drop b) h' (uc + dc) (us + ds)
          | some (.inr E, h', dc, ds) => some (.inr E, h', uc + dc, us + ds)
          | none => none) else none
      | 2 => (match st.drop b with
        | .ref q :: rest => (match ax_get r h q with
          | some (t, _) => if a < 261 ∧ ax_st a = false ∧ (ax_mm a).2.2.2.2 = [] ∧ b ≤ st.length ∧ (rest.map fun v => v.category).sum ≤ 8 ∧ t = c then
            (match call a (.ref q :: (st.take b).reverse) h with
            | some (.inl v, h', dc, ds) => ax_ex r call i n (pc + 3) lv (v.toList ++ rest) h' (uc + dc) (us + ds)
            | some (.inr E, h', dc, ds) => some (.inr E, h', uc + dc, us + ds)
            | none => none) else none
          | none => none)
        | _ => none)
      | 3 => (match st.drop b with
        | .ref q :: rest => if a < 261 ∧ ax_st a = false ∧ (ax_mm a).2.2.2.2 = [] ∧ b ≤ st.length ∧ (rest.map fun v => v.category).sum ≤ 8 ∧ (ax_mm a).1.name = "<init>" ∧ (ax_mm a).2.2.2.1 = none ∧ c ≤ 1 then
            (match call a (.ref q :: (st.take b).reverse) h with
            | some (.inl v, h', dc, ds) => ax_ex r call i n (pc + 3) lv (v.toList ++ rest) h' (uc + dc) (us + ds)
            | some (.inr E, h', dc, ds) => some (.inr E, h', uc + dc, us + ds)
            | none => none) else none
        | _ => none)
      | 4 => (match st with
        | [x] => (match (ax_mm i).2.2.2.1 with
          | some ty => if ax_isI x = true ∧ (ty = .int ∨ ax_fit ty x = true) then some (.inl (some x), h, uc, us) else none
          | none => none)
        | _ => none)
      | 5 => (match st with
        | [x] => if ax_isL x = true ∧ (ax_mm i).2.2.2.1 = some .long then some (.inl (some x), h, uc, us) else none
        | _ => none)
      | 6 => (match st with
        | [x] => (match (ax_mm i).2.2.2.1 with
          | some (.object _) => if ax_isA x = true then some (.inl (some x), h, uc, us) else none
          | some (.array _) => if ax_isA x = true then some (.inl (some x), h, uc, us) else none
          | _ => none)
        | _ => none)
      | 7 => (match st with
        | [] => if (ax_mm i).2.2.2.1 = none then some (.inl none, h, uc, us) else none
        | _ => none)
      | 8 => if (i, pc, a - 800) ∈ ax_thrs ∧ (st.map fun v => v.category).sum ≤ 100 then some (.inr (ax_exc.getD (a - 800) ""), h, uc + 1, us + 6) else none
      | _ => none
def ax_cl (r : ax_H) (f : Nat) : Nat → Nat → List Value → ax_H → Option ax_RR
  | 0, _, _, _ => none
  | d + 1, i, as, h => if i < 261 ∧ (ax_mm i).2.2.2.2 = [] ∧ (lg_sl as).length ≤ (ax_mm i).2.2.1 then ax_ex r (ax_cl r f d) i f 0 (lv_args 0 as) [] h 0 0 else none
def ax_QR (res : Option Value ⊕ String) (h : ax_H) : ax_Q := fun res2 h2 => res2 = res ∧ ∃ j, h2 = h ++ List.replicate j (99, []) ∧ ∀ v, res = .inl v → j = 0
theorem ax_QR.inl {v0 v : Option Value} {h h2 : ax_H} (q : ax_QR (.inl v0) h (.inl v) h2) : v = v0 ∧ h2 = h := by
  obtain ⟨e, j, rfl, hj⟩ := q
  cases e
  rw [hj v rfl]
  exact ⟨rfl, by simp⟩
theorem ax_QR.self (v : Option Value) (h : ax_H) : ax_QR (.inl v) h (.inl v) h := ⟨rfl, 0, by simp, fun _ _ => rfl⟩
section AXQ
variable {l : Launch} {r : ax_H} {P : ax_P} {X : ax_PX}
theorem AR.cast {ns : ax_NS} {k : ax_M} {d pc : Nat} {lv : List (Nat × Value)} {st : List Value} {h : ax_H} {bc bs bc' bs' : Nat} (h1 : bc' = bc) (h2 : bs' = bs) (K : AR ns l k d r P X pc lv st h bc' bs') : AR ns l k d r P X pc lv st h bc bs := by
  subst h1; subst h2; exact K
set_option maxHeartbeats 4000000 in
theorem ax_ex_ok {call : Nat → List Value → ax_H → Option ax_RR} {dy i : Nat} (hnil : (ax_mm i).2.2.2.2 = [])
    (hc : ∀ a as h res h' dc ds, call a as h = some (res, h', dc, ds) → AM ax_ns l (ax_mm a) dy r dc ds as h (ax_QR res h')) :
    ∀ (n pc : Nat) (lv : List (Nat × Value)) (st : List Value) (h : ax_H) (uc us : Nat) (res : Option Value ⊕ String) (h' : ax_H) (uc' us' : Nat), ax_ex r call i n pc lv st h uc us = some (res, h', uc', us') →
      uc ≤ uc' ∧ us ≤ us' ∧ AR ax_ns l (ax_mm i) (dy + 1) r (ax_ret ax_ns (ax_mm i) (ax_QR res h')) (fun _ _ E h2 _ _ => ax_QR res h' (.inr E) h2) pc lv st h (uc' - uc) (us' - us) := by
  intro n
  induction n with
  | zero => intro pc lv st h uc us res h' uc' us' hs; cases hs
  | succ n ih =>
    intro pc lv st h uc us res h' uc' us' hs
    simp only [ax_ex] at hs
    split at hs
    · cases hs
    · rename_i _ _ ins len a b c v ws hl
      obtain ⟨hpc, hi, hd, hok⟩ := ax_look_ok hl
      dsimp only at hpc hd hok
      subst hpc
      split at hs
      -- a step
      · split at hs
        · rename_i pc' lv' st' h1 dc ds ho
          obtain ⟨e1, e2, K⟩ := ih _ _ _ _ _ _ _ _ _ _ hs
          exact ⟨by omega, by omega, AR.cast (by omega) (by omega) (ax_one_ok hd hok ho K)⟩
        · cases hs
      -- a static call
      · rename_i hk
        split at hs
        · rename_i hg
          obtain ⟨ha, hst, hni, hbl, hcat⟩ := hg
          obtain ⟨ix, rfl⟩ : ∃ ix, ins = .invokestatic ix := by
            cases ins <;> first | exact ⟨_, rfl⟩ | (simp [ax_kind] at hk; done) | (simp only [ax_kind] at hk; split at hk <;> cases hk)
          have hx := hok (by intro e; omega)
          simp only [ax_okx] at hx
          split at hx
          · rename_i w
            simp only [Bool.and_eq_true, ax_pl, decide_eq_true_eq] at hx
            obtain ⟨f1, f2, -, f4, f5, f6, f7⟩ := ax_mfacts ha
            have hsite : ax_site (ax_mm i) (ax_mm a) ix b := ⟨hni, f1, f2, ax_wk_mem hx.1, ⟨f4, f5, hx.2⟩, f6⟩
            have hstk : st = (st.take b).reverse.reverse ++ st.drop b := by rw [List.reverse_reverse, List.take_append_drop]
            have hlen : (st.take b).reverse.length = b := by rw [List.length_reverse, List.length_take]; omega
            split at hs
            · rename_i v0 h1 dc ds hcall
              obtain ⟨e1, e2, K⟩ := ih _ _ _ _ _ _ _ _ _ _ hs
              refine ⟨by omega, by omega, AR.invokestatic hd hsite ((ax_mst ha).1 hst) hstk hlen (hc _ _ _ _ _ _ _ hcall) (Nat.le_refl _) (by omega) (by omega) hcat (fun v2 h2 hq => ?_) (fun E h2 hq => by cases hq.1)⟩
              obtain ⟨rfl, rfl⟩ := hq.inl
              exact AR.cast (by omega) (by omega) K
            · rename_i E0 h1 dc ds hcall
              cases hs
              refine ⟨by omega, by omega, AR.invokestatic hd hsite ((ax_mst ha).1 hst) hstk hlen (hc _ _ _ _ _ _ _ hcall) (Nat.le_refl _) (by omega) (by omega) hcat (fun v2 h2 hq => by cases hq.1) (fun E h2 hq => hq)⟩
            · cases hs
          · cases hx
        · cases hs
      -- a virtual call
      · rename_i hk
        obtain ⟨ix, rfl⟩ : ∃ ix, ins = .invokevirtual ix := by
          cases ins <;> first | exact ⟨_, rfl⟩ | (simp [ax_kind] at hk; done) | (simp only [ax_kind] at hk; split at hk <;> cases hk)
        split at hs
        · rename_i q rest hdrop
          split at hs
          · rename_i t vs hget
            split at hs
            · rename_i hg
              obtain ⟨ha, hst, hni, hbl, hcat, rfl⟩ := hg
              have hx := hok (by intro e; omega)
              simp only [ax_okx] at hx
              split at hx
              · rename_i cl w1 w2 hcl
                simp only [Bool.and_eq_true, ax_pl, decide_eq_true_eq] at hx
                obtain ⟨f1, f2, -, f4, f5, f6, f7⟩ := ax_mfacts ha
                have hsite : ax_site (ax_mm i) (ax_mm a) ix b := ⟨hni, f1, f2, ax_wk_mem hx.1.1, ⟨f4, f5, hx.1.2⟩, f6⟩
                have hstk : st = (st.take b).reverse.reverse ++ .ref q :: rest := by rw [List.reverse_reverse, ← hdrop, List.take_append_drop]
                have hlen : (st.take b).reverse.length = b := by rw [List.length_reverse, List.length_take]; omega
                split at hs
                · rename_i v0 h1 dc ds hcall
                  obtain ⟨e1, e2, K⟩ := ih _ _ _ _ _ _ _ _ _ _ hs
                  refine ⟨by omega, by omega, AR.invokevirtual hd hsite ((ax_mst ha).2 hst) (ax_wk_mem hx.2) hcl hget hstk hlen (hc _ _ _ _ _ _ _ hcall) (Nat.le_refl _) (by omega) (by omega) hcat (fun v2 h2 hq => ?_) (fun E h2 hq => by cases hq.1)⟩
                  obtain ⟨rfl, rfl⟩ := hq.inl
                  exact AR.cast (by omega) (by omega) K
                · rename_i E0 h1 dc ds hcall
                  cases hs
                  refine ⟨by omega, by omega, AR.invokevirtual hd hsite ((ax_mst ha).2 hst) (ax_wk_mem hx.2) hcl hget hstk hlen (hc _ _ _ _ _ _ _ hcall) (Nat.le_refl _) (by omega) (by omega) hcat (fun v2 h2 hq => by cases hq.1) (fun E h2 hq => hq)⟩
                · cases hs
              · cases hx
            · cases hs
          · cases hs
        · cases hs
      -- a constructor
      · rename_i hk
        obtain ⟨ix, rfl⟩ : ∃ ix, ins = .invokespecial ix := by
          cases ins <;> first | exact ⟨_, rfl⟩ | (simp [ax_kind] at hk; done) | (simp only [ax_kind] at hk; split at hk <;> cases hk)
        split at hs
        · rename_i q rest hdrop
          split at hs
          · rename_i hg
            obtain ⟨ha, hst, hni, hbl, hcat, hname, hret, hc1⟩ := hg
            have hx := hok (by intro e; omega)
            obtain ⟨f1, f2, -, f4, f5, f6, f7⟩ := ax_mfacts ha
            have hstk : st = (st.take b).reverse.reverse ++ .ref q :: rest := by rw [List.reverse_reverse, ← hdrop, List.take_append_drop]
            have hlen : (st.take b).reverse.length = b := by rw [List.length_reverse, List.length_take]; omega
            have key : ∀ (mc ms : Nat) (Q : ax_Q) (bc bs : Nat), AM ax_ns l (ax_mm a) dy r mc ms (.ref q :: (st.take b).reverse) h Q → mc ≤ bc → ms ≤ bs → (∀ v h', Q (.inl v) h' → AR ax_ns l (ax_mm i) (dy + 1) r (ax_ret ax_ns (ax_mm i) (ax_QR res h')) (fun _ _ E h2 _ _ => ax_QR res h' (.inr E) h2) (pc + 3) lv (v.toList ++ rest) h' (bc - mc) (bs - ms)) → (∀ E h2, Q (.inr E) h2 → ax_QR res h' (.inr E) h2) → True := fun _ _ _ _ _ _ _ _ _ _ => trivial
            match c, hc1, hx with
            | 0, _, hx =>
              simp only [ax_okx] at hx
              split at hx
              · rename_i h2 _; cases h2
              · rename_i h2 _; cases h2
              · rename_i w _ _
                simp only [Bool.and_eq_true, ax_pl, decide_eq_true_eq] at hx
                have hsite : ax_site (ax_mm i) (ax_mm a) ix b := ⟨hni, f1, f2, ax_wk_mem hx.1, ⟨f4, f5, hx.2⟩, f6⟩
                split at hs
                · rename_i v0 h1 dc ds hcall
                  obtain ⟨e1, e2, K⟩ := ih _ _ _ _ _ _ _ _ _ _ hs
                  refine ⟨by omega, by omega, AR.invokespecial hd hsite ((ax_mst ha).2 hst) hname hret hstk hlen (hc _ _ _ _ _ _ _ hcall) (Nat.le_refl _) (by omega) (by omega) hcat (fun v2 h2 hq => ?_) (fun E h2 hq => by cases hq.1)⟩
                  obtain ⟨rfl, rfl⟩ := hq.inl
                  exact AR.cast (by omega) (by omega) K
                · rename_i E0 h1 dc ds hcall
                  cases hs
                  refine ⟨by omega, by omega, AR.invokespecial hd hsite ((ax_mst ha).2 hst) hname hret hstk hlen (hc _ _ _ _ _ _ _ hcall) (Nat.le_refl _) (by omega) (by omega) hcat (fun v2 h2 hq => by cases hq.1) (fun E h2 hq => hq)⟩
                · cases hs
              · cases hx
            | 1, _, hx =>
              simp only [ax_okx] at hx
              split at hx
              · rename_i h2 _; cases h2
              · simp only [Bool.and_eq_true, ax_pl, decide_eq_true_eq] at hx
                split at hs
                · rename_i v0 h1 dc ds hcall
                  obtain ⟨e1, e2, K⟩ := ih _ _ _ _ _ _ _ _ _ _ hs
                  refine ⟨by omega, by omega, AR.invokenest hd hni f1 f2 hx.2 ⟨f4, f5, hx.1⟩ f6 ((ax_mst ha).2 hst) hname hret hstk hlen (hc _ _ _ _ _ _ _ hcall) (Nat.le_refl _) (by omega) (by omega) hcat (fun v2 h2 hq => ?_) (fun E h2 hq => by cases hq.1)⟩
                  obtain ⟨rfl, rfl⟩ := hq.inl
                  exact AR.cast (by omega) (by omega) K
                · rename_i E0 h1 dc ds hcall
                  cases hs
                  refine ⟨by omega, by omega, AR.invokenest hd hni f1 f2 hx.2 ⟨f4, f5, hx.1⟩ f6 ((ax_mst ha).2 hst) hname hret hstk hlen (hc _ _ _ _ _ _ _ hcall) (Nat.le_refl _) (by omega) (by omega) hcat (fun v2 h2 hq => by cases hq.1) (fun E h2 hq => hq)⟩
                · cases hs
              · rename_i h2 _; cases h2
              · cases hx
          · cases hs
        · cases hs
      -- ireturn
      · rename_i hk
        obtain rfl : ins = .ireturn := by
          cases ins <;> first | rfl | (simp [ax_kind] at hk; done) | (simp only [ax_kind] at hk; split at hk <;> cases hk)
        split at hs
        · split at hs
          · rename_i x ty hty
            split at hs
            · rename_i hg
              cases hs
              refine ⟨Nat.le_refl _, Nat.le_refl _, AR.at ?_⟩
              rcases hg with ⟨h1, rfl | h2⟩
              · exact Or.inl ⟨_, rfl, h1, hd, hty, ax_QR.self _ _⟩
              · exact Or.inr (Or.inl ⟨_, _, rfl, h2, h1, hd, hty, ax_QR.self _ _⟩)
            · cases hs
          · cases hs
        · cases hs
      · rename_i hk
        obtain rfl : ins = .lreturn := by
          cases ins <;> first | rfl | (simp [ax_kind] at hk; done) | (simp only [ax_kind] at hk; split at hk <;> cases hk)
        split at hs
        · split at hs
          · rename_i x hg
            cases hs
            exact ⟨Nat.le_refl _, Nat.le_refl _, AR.at (Or.inr (Or.inr (Or.inl ⟨_, rfl, hg.1, hd, hg.2, ax_QR.self _ _⟩)))⟩
          · cases hs
        · cases hs
      · rename_i hk
        obtain rfl : ins = .areturn := by
          cases ins <;> first | rfl | (simp [ax_kind] at hk; done) | (simp only [ax_kind] at hk; split at hk <;> cases hk)
        split at hs
        · split at hs
          · rename_i x _ nm hty
            split at hs
            · rename_i hg
              cases hs
              exact ⟨Nat.le_refl _, Nat.le_refl _, AR.at (Or.inr (Or.inr (Or.inr (Or.inl ⟨_, _, rfl, hg, hd, hty, Or.inl ⟨_, rfl⟩, ax_QR.self _ _⟩))))⟩
            · cases hs
          · rename_i x _ nm hty
            split at hs
            · rename_i hg
              cases hs
              exact ⟨Nat.le_refl _, Nat.le_refl _, AR.at (Or.inr (Or.inr (Or.inr (Or.inl ⟨_, _, rfl, hg, hd, hty, Or.inr ⟨_, rfl⟩, ax_QR.self _ _⟩))))⟩
            · cases hs
          · cases hs
        · cases hs
      · rename_i hk
        obtain rfl : ins = .return_ := by
          cases ins <;> first | rfl | (simp [ax_kind] at hk; done) | (simp only [ax_kind] at hk; split at hk <;> cases hk)
        split at hs
        · split at hs
          · rename_i hg
            cases hs
            exact ⟨Nat.le_refl _, Nat.le_refl _, AR.at (Or.inr (Or.inr (Or.inr (Or.inr (Or.inl ⟨rfl, hd, hg, ax_QR.self _ _⟩)))))⟩
          · cases hs
        · cases hs
      · split at hs
        · rename_i hg
          cases hs
          refine ⟨by omega, by omega, AR.at (Or.inr (Or.inr (Or.inr (Or.inr (Or.inr ⟨_, ax_thr_ok _ hg.1, hnil, by omega, by omega, hg.2, fun j => ?_⟩)))))⟩
          exact ⟨rfl, j, rfl, fun v hv => by cases hv⟩
        · cases hs
      · cases hs
theorem ax_cl_ok (hl : l.stackTraces = false) {f : Nat} : ∀ (d i : Nat) (as : List Value) (h : ax_H) (res : Option Value ⊕ String) (h' : ax_H) (uc us : Nat), ax_cl r f d i as h = some (res, h', uc, us) → AM ax_ns l (ax_mm i) d r uc us as h (ax_QR res h') := by
  intro d
  induction d with
  | zero => intro i as h res h' uc us hs; cases hs
  | succ d ih =>
    intro i as h res h' uc us hs
    simp only [ax_cl] at hs
    split at hs
    · rename_i hg
      obtain ⟨hi, hnil, hlen⟩ := hg
      obtain ⟨-, -, K⟩ := ax_ex_ok (l := l) hnil (fun a as h res h' dc ds => ih a as h res h' dc ds) _ _ _ _ _ _ _ _ _ _ _ hs
      exact AM.of (ax_mfacts hi).2.2.2.2.2.2 hnil hl hlen K
    · cases hs
end AXQ
