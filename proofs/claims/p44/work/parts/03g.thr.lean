/-! THROWS: the places, and what they rest on -/
/-- exceptions that aren't caught as others -/
def ax_exc : List String := ["java/lang/IllegalStateException", "java/lang/IllegalArgumentException", "java/lang/IndexOutOfBoundsException", "java/lang/ArithmeticException", "java/util/NoSuchElementException"]
def ax_ncs : List (String × String) := ax_exc.flatMap (fun a => (ax_exc.filter (fun b => a != b)).map (fun b => (a, b)))
/-- the words of a chain of constructors whose first one has a link and bytes of its own -/
def ax_chX (X : String) (ix : Nat) (rx : ByteArray) : List String → List Cond
  | [] => Bundle.passSAtoms X Bundle.tN ix rx
  | Y :: r => Bundle.passSAtoms X Y ix rx ++ Bundle.chainSAtoms Y r
/-- an exception's words: its kind's, by the usual chain, or by one that begins otherwise -/
def ax_ow (own : String) (ic : Nat) (X : String) (names : List String) : Option (Nat × ByteArray) → List Cond
  | none => Bundle.ownAtoms own ic X names
  | some q => Bundle.throwableAtoms ++ (Bundle.throwableSAtoms ++ (ax_chX X q.1 q.2 names ++ [.methodLink own ic (Bundle.initS X), .instantiable X 6, .castable X X, .selects X Bundle.tFill0 Bundle.tFill0, .selects X Bundle.tFill Bundle.tFill, .isRef (.static Bundle.tN "UNASSIGNED_STACK" Bundle.steD), .isRef (.static Bundle.tN "SUPPRESSED_SENTINEL" Bundle.listD)] ++ ((["cause", "suppressedExceptions", "detailMessage", "stackTrace", "backtrace"].zip ["Ljava/lang/Throwable;", Bundle.listD, "Ljava/lang/String;", Bundle.steD, "Ljava/lang/Object;"]).map (fun z => Cond.lays X Bundle.tN z.1 z.2) ++ [.fieldLink Bundle.tN 198 Bundle.tN "backtrace" "Ljava/lang/Object;", .lays Bundle.tN Bundle.tN "backtrace" "Ljava/lang/Object;"])))
def ax_owS (own : String) (ic : Nat) (X : String) (names : List String) (q : Option (Nat × ByteArray)) : List Cond := (ax_ow own ic X names q).filter vx_no
def ax_xok : Option (Nat × ByteArray) → Prop
  | none => True
  | some q => decode q.2 0 = .ok (.aload_n 0, 1) ∧ decode q.2 1 = .ok (.aload_n 1, 1) ∧ decode q.2 2 = .ok (.invokespecial q.1, 3) ∧ decode q.2 5 = .ok (.return_, 1)
/-- this place is 'throw new E(text)' -/
def ax_thr (ns : ax_NS) (k : ax_M) (pc : Nat) (E : String) : Prop :=
  ∃ (ik is ic : Nat) (text : String) (names : List String) (wide : Bool) (q : Option (Nat × ByteArray)), decode k.2.1 pc = .ok (.new ik, 3) ∧ decode k.2.1 (pc + 3) = .ok (.dup, 1) ∧
    (if wide then decode k.2.1 (pc + 4) = .ok (.ldc_w is, 3) ∧ decode k.2.1 (pc + 7) = .ok (.invokespecial ic, 3) ∧ decode k.2.1 (pc + 10) = .ok (.athrow, 1) else q = none ∧ decode k.2.1 (pc + 4) = .ok (.ldc is, 2) ∧ decode k.2.1 (pc + 6) = .ok (.invokespecial ic, 3) ∧ decode k.2.1 (pc + 9) = .ok (.athrow, 1)) ∧
    Bundle.fit E = true ∧ (∀ n ∈ names, Bundle.fit n = true) ∧ names.length ≤ 8 ∧ Cond.classLink k.1.cls ik E ∈ ax_tb ∧ Cond.initialized E ∈ ax_tb ∧ (k.1.cls, is, text) ∈ ns.2 ∧
    (∀ w ∈ ax_owS k.1.cls ic E names q, w ∈ ax_tb ∨ w ∈ ns.1) ∧ (∀ w ∈ Cond.classLink k.1.cls ik E :: Cond.initialized E :: ax_owS k.1.cls ic E names q, vx_ot w = true) ∧ ax_xok q
def ax_in (w : Cond) : Bool := decide (w ∈ ax_nw) || (lw_tbl.any (fun v => decide (v = w)) && goodWord w)
theorem ax_in_ok {w : Cond} (h : ax_in w = true) : w ∈ ax_tb ∨ w ∈ ax_nw := by
  simp only [ax_in, Bool.or_eq_true, Bool.and_eq_true, decide_eq_true_eq, List.any_eq_true] at h
  rcases h with h | ⟨⟨v, h1, h2⟩, h3⟩
  · exact Or.inr h
  · exact Or.inl (List.mem_filter.mpr ⟨by rw [← h2]; exact h1, h3⟩)
set_option maxRecDepth 100000 in
theorem ax_at0 : (ax_owS "PseudoBoolean" 112 "java/lang/IllegalStateException" ["java/lang/RuntimeException", "java/lang/Exception"] none).all ax_in = true := by decide +kernel
set_option maxRecDepth 100000 in
theorem ax_at1 : (ax_owS "PseudoBoolean" 123 "java/lang/IllegalArgumentException" ["java/lang/RuntimeException", "java/lang/Exception"] none).all ax_in = true := by decide +kernel
set_option maxRecDepth 100000 in
theorem ax_at2 : (ax_owS "PseudoBoolean" 174 "java/lang/IndexOutOfBoundsException" ["java/lang/RuntimeException", "java/lang/Exception"] none).all ax_in = true := by decide +kernel
set_option maxRecDepth 100000 in
theorem ax_at3 : (ax_owS "PseudoBoolean" 272 "java/util/NoSuchElementException" ["java/lang/RuntimeException", "java/lang/Exception"] (some (13, prog_39_method_4_code))).all ax_in = true := by decide +kernel
set_option maxRecDepth 100000 in
theorem ax_at4 : (ax_owS "PseudoBoolean" 381 "java/lang/ArithmeticException" ["java/lang/RuntimeException", "java/lang/Exception"] none).all ax_in = true := by decide +kernel
set_option maxRecDepth 100000 in
theorem ax_h0 : ax_thr ax_ns ax_q70 16 "java/lang/IllegalStateException" := ⟨108, 110, 112, "the text buffer is full", ["java/lang/RuntimeException", "java/lang/Exception"], false, none, by decide +kernel, by decide +kernel, by simp only [if_true, if_false, Bool.false_eq_true]; exact ⟨trivial, by decide +kernel, by decide +kernel, by decide +kernel⟩, by decide +kernel, by decide +kernel, by decide, ax_mem 527 (by decide +kernel) (by decide +kernel), ax_mem 50 (by decide +kernel) (by decide +kernel), List.mem_of_getElem? (i := 2) (by decide +kernel), fun w hw => ax_in_ok (List.all_eq_true.mp ax_at0 w hw), by decide +kernel, trivial⟩
set_option maxRecDepth 100000 in
theorem ax_h1 : ax_thr ax_ns ax_q71 15 "java/lang/IllegalArgumentException" := ⟨119, 121, 123, "the text buffer does not have so many bytes", ["java/lang/RuntimeException", "java/lang/Exception"], false, none, by decide +kernel, by decide +kernel, by simp only [if_true, if_false, Bool.false_eq_true]; exact ⟨trivial, by decide +kernel, by decide +kernel, by decide +kernel⟩, by decide +kernel, by decide +kernel, by decide, ax_mem 359 (by decide +kernel) (by decide +kernel), ax_mem 51 (by decide +kernel) (by decide +kernel), List.mem_of_getElem? (i := 3) (by decide +kernel), fun w hw => ax_in_ok (List.all_eq_true.mp ax_at1 w hw), by decide +kernel, trivial⟩
set_option maxRecDepth 100000 in
theorem ax_h2 : ax_thr ax_ns ax_q76 15 "java/lang/IndexOutOfBoundsException" := ⟨170, 172, 174, "no such byte of the output", ["java/lang/RuntimeException", "java/lang/Exception"], false, none, by decide +kernel, by decide +kernel, by simp only [if_true, if_false, Bool.false_eq_true]; exact ⟨trivial, by decide +kernel, by decide +kernel, by decide +kernel⟩, by decide +kernel, by decide +kernel, by decide, ax_mem 507 (by decide +kernel) (by decide +kernel), ax_mem 52 (by decide +kernel) (by decide +kernel), List.mem_of_getElem? (i := 4) (by decide +kernel), fun w hw => ax_in_ok (List.all_eq_true.mp ax_at2 w hw), by decide +kernel, trivial⟩
set_option maxRecDepth 100000 in
theorem ax_h3 : ax_thr ax_ns ax_q84 17 "java/lang/IllegalArgumentException" := ⟨119, 208, 123, "the factor is not 1 to 1000", ["java/lang/RuntimeException", "java/lang/Exception"], false, none, by decide +kernel, by decide +kernel, by simp only [if_true, if_false, Bool.false_eq_true]; exact ⟨trivial, by decide +kernel, by decide +kernel, by decide +kernel⟩, by decide +kernel, by decide +kernel, by decide, ax_mem 359 (by decide +kernel) (by decide +kernel), ax_mem 51 (by decide +kernel) (by decide +kernel), List.mem_of_getElem? (i := 5) (by decide +kernel), fun w hw => ax_in_ok (List.all_eq_true.mp ax_at1 w hw), by decide +kernel, trivial⟩
set_option maxRecDepth 100000 in
theorem ax_h4 : ax_thr ax_ns ax_q85 10 "java/lang/IllegalArgumentException" := ⟨119, 210, 123, "the divisor is less than 1", ["java/lang/RuntimeException", "java/lang/Exception"], false, none, by decide +kernel, by decide +kernel, by simp only [if_true, if_false, Bool.false_eq_true]; exact ⟨trivial, by decide +kernel, by decide +kernel, by decide +kernel⟩, by decide +kernel, by decide +kernel, by decide, ax_mem 359 (by decide +kernel) (by decide +kernel), ax_mem 51 (by decide +kernel) (by decide +kernel), List.mem_of_getElem? (i := 6) (by decide +kernel), fun w hw => ax_in_ok (List.all_eq_true.mp ax_at1 w hw), by decide +kernel, trivial⟩
set_option maxRecDepth 100000 in
theorem ax_h5 : ax_thr ax_ns ax_q87 22 "java/lang/IllegalArgumentException" := ⟨119, 226, 123, "the constraint has no literal of the variable", ["java/lang/RuntimeException", "java/lang/Exception"], false, none, by decide +kernel, by decide +kernel, by simp only [if_true, if_false, Bool.false_eq_true]; exact ⟨trivial, by decide +kernel, by decide +kernel, by decide +kernel⟩, by decide +kernel, by decide +kernel, by decide, ax_mem 359 (by decide +kernel) (by decide +kernel), ax_mem 51 (by decide +kernel) (by decide +kernel), List.mem_of_getElem? (i := 7) (by decide +kernel), fun w hw => ax_in_ok (List.all_eq_true.mp ax_at1 w hw), by decide +kernel, trivial⟩
set_option maxRecDepth 100000 in
theorem ax_h6 : ax_thr ax_ns ax_q88 48 "java/lang/IllegalArgumentException" := ⟨119, 235, 123, "there are no opposite literals of the variable", ["java/lang/RuntimeException", "java/lang/Exception"], false, none, by decide +kernel, by decide +kernel, by simp only [if_true, if_false, Bool.false_eq_true]; exact ⟨trivial, by decide +kernel, by decide +kernel, by decide +kernel⟩, by decide +kernel, by decide +kernel, by decide, ax_mem 359 (by decide +kernel) (by decide +kernel), ax_mem 51 (by decide +kernel) (by decide +kernel), List.mem_of_getElem? (i := 8) (by decide +kernel), fun w hw => ax_in_ok (List.all_eq_true.mp ax_at1 w hw), by decide +kernel, trivial⟩
set_option maxRecDepth 100000 in
theorem ax_h7 : ax_thr ax_ns ax_q93 10 "java/util/NoSuchElementException" := ⟨268, 270, 272, "no group is kept", ["java/lang/RuntimeException", "java/lang/Exception"], true, some (13, prog_39_method_4_code), by decide +kernel, by decide +kernel, by simp only [if_true, if_false, Bool.false_eq_true]; exact ⟨by decide +kernel, by decide +kernel, by decide +kernel⟩, by decide +kernel, by decide +kernel, by decide, ax_mem 1008 (by decide +kernel) (by decide +kernel), ax_mem 55 (by decide +kernel) (by decide +kernel), List.mem_of_getElem? (i := 9) (by decide +kernel), fun w hw => ax_in_ok (List.all_eq_true.mp ax_at3 w hw), by decide +kernel, ⟨by decide +kernel, by decide +kernel, by decide +kernel, by decide +kernel⟩⟩
set_option maxRecDepth 100000 in
theorem ax_h8 : ax_thr ax_ns ax_q94 27 "java/lang/IllegalStateException" := ⟨108, 280, 112, "the literal cannot be decided", ["java/lang/RuntimeException", "java/lang/Exception"], true, none, by decide +kernel, by decide +kernel, by simp only [if_true, if_false, Bool.false_eq_true]; exact ⟨by decide +kernel, by decide +kernel, by decide +kernel⟩, by decide +kernel, by decide +kernel, by decide, ax_mem 527 (by decide +kernel) (by decide +kernel), ax_mem 50 (by decide +kernel) (by decide +kernel), List.mem_of_getElem? (i := 10) (by decide +kernel), fun w hw => ax_in_ok (List.all_eq_true.mp ax_at0 w hw), by decide +kernel, trivial⟩
set_option maxRecDepth 100000 in
theorem ax_h9 : ax_thr ax_ns ax_q95 10 "java/lang/IllegalStateException" := ⟨108, 294, 112, "there are no decisions", ["java/lang/RuntimeException", "java/lang/Exception"], true, none, by decide +kernel, by decide +kernel, by simp only [if_true, if_false, Bool.false_eq_true]; exact ⟨by decide +kernel, by decide +kernel, by decide +kernel⟩, by decide +kernel, by decide +kernel, by decide, ax_mem 527 (by decide +kernel) (by decide +kernel), ax_mem 50 (by decide +kernel) (by decide +kernel), List.mem_of_getElem? (i := 11) (by decide +kernel), fun w hw => ax_in_ok (List.all_eq_true.mp ax_at0 w hw), by decide +kernel, trivial⟩
set_option maxRecDepth 100000 in
theorem ax_h10 : ax_thr ax_ns ax_q100 7 "java/lang/IllegalArgumentException" := ⟨119, 316, 123, "the mask is not 0 to 4095", ["java/lang/RuntimeException", "java/lang/Exception"], true, none, by decide +kernel, by decide +kernel, by simp only [if_true, if_false, Bool.false_eq_true]; exact ⟨by decide +kernel, by decide +kernel, by decide +kernel⟩, by decide +kernel, by decide +kernel, by decide, ax_mem 359 (by decide +kernel) (by decide +kernel), ax_mem 51 (by decide +kernel) (by decide +kernel), List.mem_of_getElem? (i := 12) (by decide +kernel), fun w hw => ax_in_ok (List.all_eq_true.mp ax_at1 w hw), by decide +kernel, trivial⟩
set_option maxRecDepth 100000 in
theorem ax_h11 : ax_thr ax_ns ax_q103 18 "java/lang/IllegalArgumentException" := ⟨119, 324, 123, "the cost is not -1000 to 1000", ["java/lang/RuntimeException", "java/lang/Exception"], true, none, by decide +kernel, by decide +kernel, by simp only [if_true, if_false, Bool.false_eq_true]; exact ⟨by decide +kernel, by decide +kernel, by decide +kernel⟩, by decide +kernel, by decide +kernel, by decide, ax_mem 359 (by decide +kernel) (by decide +kernel), ax_mem 51 (by decide +kernel) (by decide +kernel), List.mem_of_getElem? (i := 13) (by decide +kernel), fun w hw => ax_in_ok (List.all_eq_true.mp ax_at1 w hw), by decide +kernel, trivial⟩
set_option maxRecDepth 100000 in
theorem ax_h12 : ax_thr ax_ns ax_q106 20 "java/lang/IllegalArgumentException" := ⟨119, 333, 123, "these are not two masks without a common variable", ["java/lang/RuntimeException", "java/lang/Exception"], true, none, by decide +kernel, by decide +kernel, by simp only [if_true, if_false, Bool.false_eq_true]; exact ⟨by decide +kernel, by decide +kernel, by decide +kernel⟩, by decide +kernel, by decide +kernel, by decide, ax_mem 359 (by decide +kernel) (by decide +kernel), ax_mem 51 (by decide +kernel) (by decide +kernel), List.mem_of_getElem? (i := 14) (by decide +kernel), fun w hw => ax_in_ok (List.all_eq_true.mp ax_at1 w hw), by decide +kernel, trivial⟩
set_option maxRecDepth 100000 in
theorem ax_h13 : ax_thr ax_ns ax_q106 40 "java/util/NoSuchElementException" := ⟨268, 335, 272, "there is a model", ["java/lang/RuntimeException", "java/lang/Exception"], true, some (13, prog_39_method_4_code), by decide +kernel, by decide +kernel, by simp only [if_true, if_false, Bool.false_eq_true]; exact ⟨by decide +kernel, by decide +kernel, by decide +kernel⟩, by decide +kernel, by decide +kernel, by decide, ax_mem 1008 (by decide +kernel) (by decide +kernel), ax_mem 55 (by decide +kernel) (by decide +kernel), List.mem_of_getElem? (i := 15) (by decide +kernel), fun w hw => ax_in_ok (List.all_eq_true.mp ax_at3 w hw), by decide +kernel, ⟨by decide +kernel, by decide +kernel, by decide +kernel, by decide +kernel⟩⟩
set_option maxRecDepth 100000 in
theorem ax_h14 : ax_thr ax_ns ax_q108 9 "java/lang/IllegalStateException" := ⟨108, 337, 112, "there are 8 levels", ["java/lang/RuntimeException", "java/lang/Exception"], true, none, by decide +kernel, by decide +kernel, by simp only [if_true, if_false, Bool.false_eq_true]; exact ⟨by decide +kernel, by decide +kernel, by decide +kernel⟩, by decide +kernel, by decide +kernel, by decide, ax_mem 527 (by decide +kernel) (by decide +kernel), ax_mem 50 (by decide +kernel) (by decide +kernel), List.mem_of_getElem? (i := 16) (by decide +kernel), fun w hw => ax_in_ok (List.all_eq_true.mp ax_at0 w hw), by decide +kernel, trivial⟩
set_option maxRecDepth 100000 in
theorem ax_h15 : ax_thr ax_ns ax_q109 7 "java/lang/IllegalStateException" := ⟨108, 346, 112, "there is no level", ["java/lang/RuntimeException", "java/lang/Exception"], true, none, by decide +kernel, by decide +kernel, by simp only [if_true, if_false, Bool.false_eq_true]; exact ⟨by decide +kernel, by decide +kernel, by decide +kernel⟩, by decide +kernel, by decide +kernel, by decide, ax_mem 527 (by decide +kernel) (by decide +kernel), ax_mem 50 (by decide +kernel) (by decide +kernel), List.mem_of_getElem? (i := 17) (by decide +kernel), fun w hw => ax_in_ok (List.all_eq_true.mp ax_at0 w hw), by decide +kernel, trivial⟩
set_option maxRecDepth 100000 in
theorem ax_h16 : ax_thr ax_ns ax_q111 12 "java/lang/IndexOutOfBoundsException" := ⟨170, 356, 174, "no such constraint", ["java/lang/RuntimeException", "java/lang/Exception"], true, none, by decide +kernel, by decide +kernel, by simp only [if_true, if_false, Bool.false_eq_true]; exact ⟨by decide +kernel, by decide +kernel, by decide +kernel⟩, by decide +kernel, by decide +kernel, by decide, ax_mem 507 (by decide +kernel) (by decide +kernel), ax_mem 52 (by decide +kernel) (by decide +kernel), List.mem_of_getElem? (i := 18) (by decide +kernel), fun w hw => ax_in_ok (List.all_eq_true.mp ax_at2 w hw), by decide +kernel, trivial⟩
set_option maxRecDepth 100000 in
theorem ax_h17 : ax_thr ax_ns ax_q112 10 "java/lang/IndexOutOfBoundsException" := ⟨170, 358, 174, "no such literal", ["java/lang/RuntimeException", "java/lang/Exception"], true, none, by decide +kernel, by decide +kernel, by simp only [if_true, if_false, Bool.false_eq_true]; exact ⟨by decide +kernel, by decide +kernel, by decide +kernel⟩, by decide +kernel, by decide +kernel, by decide, ax_mem 507 (by decide +kernel) (by decide +kernel), ax_mem 52 (by decide +kernel) (by decide +kernel), List.mem_of_getElem? (i := 19) (by decide +kernel), fun w hw => ax_in_ok (List.all_eq_true.mp ax_at2 w hw), by decide +kernel, trivial⟩
set_option maxRecDepth 100000 in
theorem ax_h18 : ax_thr ax_ns ax_q113 10 "java/lang/IndexOutOfBoundsException" := ⟨170, 360, 174, "no such variable", ["java/lang/RuntimeException", "java/lang/Exception"], true, none, by decide +kernel, by decide +kernel, by simp only [if_true, if_false, Bool.false_eq_true]; exact ⟨by decide +kernel, by decide +kernel, by decide +kernel⟩, by decide +kernel, by decide +kernel, by decide, ax_mem 507 (by decide +kernel) (by decide +kernel), ax_mem 52 (by decide +kernel) (by decide +kernel), List.mem_of_getElem? (i := 20) (by decide +kernel), fun w hw => ax_in_ok (List.all_eq_true.mp ax_at2 w hw), by decide +kernel, trivial⟩
set_option maxRecDepth 100000 in
theorem ax_h19 : ax_thr ax_ns ax_q114 12 "java/lang/IndexOutOfBoundsException" := ⟨170, 362, 174, "no such index", ["java/lang/RuntimeException", "java/lang/Exception"], true, none, by decide +kernel, by decide +kernel, by simp only [if_true, if_false, Bool.false_eq_true]; exact ⟨by decide +kernel, by decide +kernel, by decide +kernel⟩, by decide +kernel, by decide +kernel, by decide, ax_mem 507 (by decide +kernel) (by decide +kernel), ax_mem 52 (by decide +kernel) (by decide +kernel), List.mem_of_getElem? (i := 21) (by decide +kernel), fun w hw => ax_in_ok (List.all_eq_true.mp ax_at2 w hw), by decide +kernel, trivial⟩
set_option maxRecDepth 100000 in
theorem ax_h20 : ax_thr ax_ns ax_q115 11 "java/lang/IllegalStateException" := ⟨108, 364, 112, "there would be more than 60 constraints", ["java/lang/RuntimeException", "java/lang/Exception"], true, none, by decide +kernel, by decide +kernel, by simp only [if_true, if_false, Bool.false_eq_true]; exact ⟨by decide +kernel, by decide +kernel, by decide +kernel⟩, by decide +kernel, by decide +kernel, by decide, ax_mem 527 (by decide +kernel) (by decide +kernel), ax_mem 50 (by decide +kernel) (by decide +kernel), List.mem_of_getElem? (i := 22) (by decide +kernel), fun w hw => ax_in_ok (List.all_eq_true.mp ax_at0 w hw), by decide +kernel, trivial⟩
set_option maxRecDepth 100000 in
theorem ax_h21 : ax_thr ax_ns ax_q117 31 "java/lang/IllegalArgumentException" := ⟨119, 369, 123, "the text is not a constraint", ["java/lang/RuntimeException", "java/lang/Exception"], true, none, by decide +kernel, by decide +kernel, by simp only [if_true, if_false, Bool.false_eq_true]; exact ⟨by decide +kernel, by decide +kernel, by decide +kernel⟩, by decide +kernel, by decide +kernel, by decide, ax_mem 359 (by decide +kernel) (by decide +kernel), ax_mem 51 (by decide +kernel) (by decide +kernel), List.mem_of_getElem? (i := 23) (by decide +kernel), fun w hw => ax_in_ok (List.all_eq_true.mp ax_at1 w hw), by decide +kernel, trivial⟩
set_option maxRecDepth 100000 in
theorem ax_h22 : ax_thr ax_ns ax_q118 17 "java/lang/ArithmeticException" := ⟨377, 379, 381, "a coefficient or the degree would be greater than 10^9", ["java/lang/RuntimeException", "java/lang/Exception"], true, none, by decide +kernel, by decide +kernel, by simp only [if_true, if_false, Bool.false_eq_true]; exact ⟨by decide +kernel, by decide +kernel, by decide +kernel⟩, by decide +kernel, by decide +kernel, by decide, ax_mem 557 (by decide +kernel) (by decide +kernel), ax_mem 53 (by decide +kernel) (by decide +kernel), List.mem_of_getElem? (i := 24) (by decide +kernel), fun w hw => ax_in_ok (List.all_eq_true.mp ax_at4 w hw), by decide +kernel, trivial⟩
set_option maxRecDepth 100000 in
theorem ax_h23 : ax_thr ax_ns ax_q126 35 "java/util/NoSuchElementException" := ⟨268, 415, 272, "there is no model", ["java/lang/RuntimeException", "java/lang/Exception"], true, some (13, prog_39_method_4_code), by decide +kernel, by decide +kernel, by simp only [if_true, if_false, Bool.false_eq_true]; exact ⟨by decide +kernel, by decide +kernel, by decide +kernel⟩, by decide +kernel, by decide +kernel, by decide, ax_mem 1008 (by decide +kernel) (by decide +kernel), ax_mem 55 (by decide +kernel) (by decide +kernel), List.mem_of_getElem? (i := 25) (by decide +kernel), fun w hw => ax_in_ok (List.all_eq_true.mp ax_at3 w hw), by decide +kernel, ⟨by decide +kernel, by decide +kernel, by decide +kernel, by decide +kernel⟩⟩
def ax_thrs : List (Nat × Nat × Nat) := [(70, 16, 0), (71, 15, 1), (76, 15, 2), (84, 17, 1), (85, 10, 1), (87, 22, 1), (88, 48, 1), (93, 10, 4), (94, 27, 0), (95, 10, 0), (100, 7, 1), (103, 18, 1), (106, 20, 1), (106, 40, 4), (108, 9, 0), (109, 7, 0), (111, 12, 2), (112, 10, 2), (113, 10, 2), (114, 12, 2), (115, 11, 0), (117, 31, 1), (118, 17, 3), (126, 35, 4)]
theorem ax_thr_ok : ∀ q ∈ ax_thrs, ax_thr ax_ns (ax_mm q.1) q.2.1 (ax_exc.getD q.2.2 "") := by
  unfold ax_thrs
  refine List.forall_mem_cons.mpr ⟨ax_h0, ?_⟩
  refine List.forall_mem_cons.mpr ⟨ax_h1, ?_⟩
  refine List.forall_mem_cons.mpr ⟨ax_h2, ?_⟩
  refine List.forall_mem_cons.mpr ⟨ax_h3, ?_⟩
  refine List.forall_mem_cons.mpr ⟨ax_h4, ?_⟩
  refine List.forall_mem_cons.mpr ⟨ax_h5, ?_⟩
  refine List.forall_mem_cons.mpr ⟨ax_h6, ?_⟩
  refine List.forall_mem_cons.mpr ⟨ax_h7, ?_⟩
  refine List.forall_mem_cons.mpr ⟨ax_h8, ?_⟩
  refine List.forall_mem_cons.mpr ⟨ax_h9, ?_⟩
  refine List.forall_mem_cons.mpr ⟨ax_h10, ?_⟩
  refine List.forall_mem_cons.mpr ⟨ax_h11, ?_⟩
  refine List.forall_mem_cons.mpr ⟨ax_h12, ?_⟩
  refine List.forall_mem_cons.mpr ⟨ax_h13, ?_⟩
  refine List.forall_mem_cons.mpr ⟨ax_h14, ?_⟩
  refine List.forall_mem_cons.mpr ⟨ax_h15, ?_⟩
  refine List.forall_mem_cons.mpr ⟨ax_h16, ?_⟩
  refine List.forall_mem_cons.mpr ⟨ax_h17, ?_⟩
  refine List.forall_mem_cons.mpr ⟨ax_h18, ?_⟩
  refine List.forall_mem_cons.mpr ⟨ax_h19, ?_⟩
  refine List.forall_mem_cons.mpr ⟨ax_h20, ?_⟩
  refine List.forall_mem_cons.mpr ⟨ax_h21, ?_⟩
  refine List.forall_mem_cons.mpr ⟨ax_h22, ?_⟩
  refine List.forall_mem_cons.mpr ⟨ax_h23, ?_⟩
  exact fun _ h => absurd h List.not_mem_nil
def ax_hands : List (Nat × Nat × Nat × Nat × String) := [(219, 0, 16, 19, "java/lang/IllegalStateException"), (220, 0, 9, 12, "java/lang/IllegalArgumentException"), (221, 0, 8, 11, "java/lang/IllegalArgumentException"), (221, 0, 8, 14, "java/lang/IllegalStateException"), (222, 0, 15, 18, "java/lang/IllegalArgumentException"), (223, 0, 9, 12, "java/lang/IndexOutOfBoundsException"), (224, 0, 9, 12, "java/lang/IndexOutOfBoundsException"), (225, 0, 9, 12, "java/lang/IndexOutOfBoundsException"), (226, 0, 9, 12, "java/lang/IndexOutOfBoundsException"), (227, 0, 10, 13, "java/lang/IndexOutOfBoundsException"), (228, 0, 8, 11, "java/lang/IndexOutOfBoundsException"), (229, 0, 9, 12, "java/lang/IndexOutOfBoundsException"), (230, 0, 10, 13, "java/lang/IndexOutOfBoundsException"), (230, 0, 10, 17, "java/lang/IllegalStateException"), (230, 0, 10, 21, "java/lang/ArithmeticException"), (231, 0, 10, 13, "java/lang/IndexOutOfBoundsException"), (231, 0, 10, 17, "java/lang/IllegalArgumentException"), (231, 0, 10, 21, "java/lang/IllegalStateException"), (231, 0, 10, 25, "java/lang/ArithmeticException"), (232, 0, 10, 13, "java/lang/IndexOutOfBoundsException"), (232, 0, 10, 17, "java/lang/IllegalArgumentException"), (232, 0, 10, 21, "java/lang/IllegalStateException"), (233, 0, 9, 12, "java/lang/IndexOutOfBoundsException"), (233, 0, 9, 15, "java/lang/IllegalStateException"), (234, 0, 10, 13, "java/lang/IndexOutOfBoundsException"), (234, 0, 10, 17, "java/lang/IllegalArgumentException"), (234, 0, 10, 21, "java/lang/IllegalStateException"), (235, 0, 12, 15, "java/lang/IndexOutOfBoundsException"), (235, 0, 12, 19, "java/lang/IllegalArgumentException"), (235, 0, 12, 23, "java/lang/IllegalStateException"), (235, 0, 12, 27, "java/lang/ArithmeticException"), (236, 0, 9, 12, "java/lang/IndexOutOfBoundsException"), (236, 0, 9, 15, "java/lang/IllegalStateException"), (237, 0, 17, 20, "java/lang/IndexOutOfBoundsException"), (238, 0, 9, 12, "java/lang/IndexOutOfBoundsException"), (239, 0, 9, 12, "java/lang/IndexOutOfBoundsException"), (240, 0, 8, 11, "java/util/NoSuchElementException"), (240, 0, 8, 14, "java/lang/IllegalStateException"), (241, 0, 9, 12, "java/lang/IndexOutOfBoundsException"), (241, 0, 9, 15, "java/lang/IllegalStateException"), (242, 0, 8, 11, "java/lang/IllegalStateException"), (243, 0, 9, 12, "java/lang/IndexOutOfBoundsException"), (244, 0, 9, 12, "java/lang/IllegalArgumentException"), (245, 0, 16, 19, "java/lang/IndexOutOfBoundsException"), (246, 0, 10, 13, "java/lang/IndexOutOfBoundsException"), (246, 0, 10, 17, "java/lang/IllegalArgumentException"), (247, 0, 8, 11, "java/util/NoSuchElementException"), (248, 0, 8, 11, "java/util/NoSuchElementException"), (249, 0, 10, 13, "java/lang/IllegalArgumentException"), (249, 0, 10, 17, "java/util/NoSuchElementException"), (250, 0, 9, 12, "java/lang/IndexOutOfBoundsException"), (251, 0, 8, 11, "java/lang/IllegalStateException"), (252, 0, 8, 11, "java/lang/IllegalStateException")]
def ax_hok (q : Nat × Nat × Nat × Nat × String) : Prop := ∃ (pre suf : List (Nat × Nat × Nat × Nat)) (ct : Nat), (ax_mm q.1).2.2.2.2 = pre ++ (q.2.1, q.2.2.1, q.2.2.2.1, ct) :: suf ∧ ct ≠ 0 ∧ Cond.classLink (ax_mm q.1).1.cls ct q.2.2.2.2 ∈ ax_tb ∧ Cond.castable q.2.2.2.2 q.2.2.2.2 ∈ ax_nw ∧ ∀ z ∈ pre, z.2.2.2 ≠ 0 ∧ ∃ nm, Cond.classLink (ax_mm q.1).1.cls z.2.2.2 nm ∈ ax_tb ∧ (q.2.2.2.2, nm) ∈ ax_ncs
theorem ax_cll13 : Cond.classLink "PseudoBooleanLaw" 13 "java/lang/IllegalStateException" ∈ ax_tb := ax_wk_mem (ix := 999999) (by decide +kernel)
theorem ax_cll19 : Cond.classLink "PseudoBooleanLaw" 19 "java/lang/IllegalArgumentException" ∈ ax_tb := ax_wk_mem (ix := 999999) (by decide +kernel)
theorem ax_cll32 : Cond.classLink "PseudoBooleanLaw" 32 "java/lang/IndexOutOfBoundsException" ∈ ax_tb := ax_wk_mem (ix := 999999) (by decide +kernel)
theorem ax_cll57 : Cond.classLink "PseudoBooleanLaw" 57 "java/lang/ArithmeticException" ∈ ax_tb := ax_wk_mem (ix := 999999) (by decide +kernel)
theorem ax_cll91 : Cond.classLink "PseudoBooleanLaw" 91 "java/util/NoSuchElementException" ∈ ax_tb := ax_wk_mem (ix := 999999) (by decide +kernel)
theorem ax_hn0 : ax_hok (219, 0, 16, 19, "java/lang/IllegalStateException") := ⟨[], [], 13, rfl, by decide, ax_cll13, by decide +kernel, fun _ h => absurd h List.not_mem_nil⟩
theorem ax_hn1 : ax_hok (220, 0, 9, 12, "java/lang/IllegalArgumentException") := ⟨[], [], 19, rfl, by decide, ax_cll19, by decide +kernel, fun _ h => absurd h List.not_mem_nil⟩
theorem ax_hn2 : ax_hok (221, 0, 8, 11, "java/lang/IllegalArgumentException") := ⟨[], [(0, 8, 14, 13)], 19, rfl, by decide, ax_cll19, by decide +kernel, fun _ h => absurd h List.not_mem_nil⟩
theorem ax_hn3 : ax_hok (221, 0, 8, 14, "java/lang/IllegalStateException") := ⟨[(0, 8, 11, 19)], [], 13, rfl, by decide, ax_cll13, by decide +kernel, List.forall_mem_cons.mpr ⟨⟨by decide, "java/lang/IllegalArgumentException", ax_cll19, by decide +kernel⟩, fun _ h => absurd h List.not_mem_nil⟩⟩
theorem ax_hn4 : ax_hok (222, 0, 15, 18, "java/lang/IllegalArgumentException") := ⟨[], [], 19, rfl, by decide, ax_cll19, by decide +kernel, fun _ h => absurd h List.not_mem_nil⟩
theorem ax_hn5 : ax_hok (223, 0, 9, 12, "java/lang/IndexOutOfBoundsException") := ⟨[], [], 32, rfl, by decide, ax_cll32, by decide +kernel, fun _ h => absurd h List.not_mem_nil⟩
theorem ax_hn6 : ax_hok (224, 0, 9, 12, "java/lang/IndexOutOfBoundsException") := ⟨[], [], 32, rfl, by decide, ax_cll32, by decide +kernel, fun _ h => absurd h List.not_mem_nil⟩
theorem ax_hn7 : ax_hok (225, 0, 9, 12, "java/lang/IndexOutOfBoundsException") := ⟨[], [], 32, rfl, by decide, ax_cll32, by decide +kernel, fun _ h => absurd h List.not_mem_nil⟩
theorem ax_hn8 : ax_hok (226, 0, 9, 12, "java/lang/IndexOutOfBoundsException") := ⟨[], [], 32, rfl, by decide, ax_cll32, by decide +kernel, fun _ h => absurd h List.not_mem_nil⟩
theorem ax_hn9 : ax_hok (227, 0, 10, 13, "java/lang/IndexOutOfBoundsException") := ⟨[], [], 32, rfl, by decide, ax_cll32, by decide +kernel, fun _ h => absurd h List.not_mem_nil⟩
theorem ax_hn10 : ax_hok (228, 0, 8, 11, "java/lang/IndexOutOfBoundsException") := ⟨[], [], 32, rfl, by decide, ax_cll32, by decide +kernel, fun _ h => absurd h List.not_mem_nil⟩
theorem ax_hn11 : ax_hok (229, 0, 9, 12, "java/lang/IndexOutOfBoundsException") := ⟨[], [], 32, rfl, by decide, ax_cll32, by decide +kernel, fun _ h => absurd h List.not_mem_nil⟩
theorem ax_hn12 : ax_hok (230, 0, 10, 13, "java/lang/IndexOutOfBoundsException") := ⟨[], [(0, 10, 17, 13), (0, 10, 21, 57)], 32, rfl, by decide, ax_cll32, by decide +kernel, fun _ h => absurd h List.not_mem_nil⟩
theorem ax_hn13 : ax_hok (230, 0, 10, 17, "java/lang/IllegalStateException") := ⟨[(0, 10, 13, 32)], [(0, 10, 21, 57)], 13, rfl, by decide, ax_cll13, by decide +kernel, List.forall_mem_cons.mpr ⟨⟨by decide, "java/lang/IndexOutOfBoundsException", ax_cll32, by decide +kernel⟩, fun _ h => absurd h List.not_mem_nil⟩⟩
theorem ax_hn14 : ax_hok (230, 0, 10, 21, "java/lang/ArithmeticException") := ⟨[(0, 10, 13, 32), (0, 10, 17, 13)], [], 57, rfl, by decide, ax_cll57, by decide +kernel, List.forall_mem_cons.mpr ⟨⟨by decide, "java/lang/IndexOutOfBoundsException", ax_cll32, by decide +kernel⟩, List.forall_mem_cons.mpr ⟨⟨by decide, "java/lang/IllegalStateException", ax_cll13, by decide +kernel⟩, fun _ h => absurd h List.not_mem_nil⟩⟩⟩
theorem ax_hn15 : ax_hok (231, 0, 10, 13, "java/lang/IndexOutOfBoundsException") := ⟨[], [(0, 10, 17, 19), (0, 10, 21, 13), (0, 10, 25, 57)], 32, rfl, by decide, ax_cll32, by decide +kernel, fun _ h => absurd h List.not_mem_nil⟩
theorem ax_hn16 : ax_hok (231, 0, 10, 17, "java/lang/IllegalArgumentException") := ⟨[(0, 10, 13, 32)], [(0, 10, 21, 13), (0, 10, 25, 57)], 19, rfl, by decide, ax_cll19, by decide +kernel, List.forall_mem_cons.mpr ⟨⟨by decide, "java/lang/IndexOutOfBoundsException", ax_cll32, by decide +kernel⟩, fun _ h => absurd h List.not_mem_nil⟩⟩
theorem ax_hn17 : ax_hok (231, 0, 10, 21, "java/lang/IllegalStateException") := ⟨[(0, 10, 13, 32), (0, 10, 17, 19)], [(0, 10, 25, 57)], 13, rfl, by decide, ax_cll13, by decide +kernel, List.forall_mem_cons.mpr ⟨⟨by decide, "java/lang/IndexOutOfBoundsException", ax_cll32, by decide +kernel⟩, List.forall_mem_cons.mpr ⟨⟨by decide, "java/lang/IllegalArgumentException", ax_cll19, by decide +kernel⟩, fun _ h => absurd h List.not_mem_nil⟩⟩⟩
theorem ax_hn18 : ax_hok (231, 0, 10, 25, "java/lang/ArithmeticException") := ⟨[(0, 10, 13, 32), (0, 10, 17, 19), (0, 10, 21, 13)], [], 57, rfl, by decide, ax_cll57, by decide +kernel, List.forall_mem_cons.mpr ⟨⟨by decide, "java/lang/IndexOutOfBoundsException", ax_cll32, by decide +kernel⟩, List.forall_mem_cons.mpr ⟨⟨by decide, "java/lang/IllegalArgumentException", ax_cll19, by decide +kernel⟩, List.forall_mem_cons.mpr ⟨⟨by decide, "java/lang/IllegalStateException", ax_cll13, by decide +kernel⟩, fun _ h => absurd h List.not_mem_nil⟩⟩⟩⟩
theorem ax_hn19 : ax_hok (232, 0, 10, 13, "java/lang/IndexOutOfBoundsException") := ⟨[], [(0, 10, 17, 19), (0, 10, 21, 13)], 32, rfl, by decide, ax_cll32, by decide +kernel, fun _ h => absurd h List.not_mem_nil⟩
theorem ax_hn20 : ax_hok (232, 0, 10, 17, "java/lang/IllegalArgumentException") := ⟨[(0, 10, 13, 32)], [(0, 10, 21, 13)], 19, rfl, by decide, ax_cll19, by decide +kernel, List.forall_mem_cons.mpr ⟨⟨by decide, "java/lang/IndexOutOfBoundsException", ax_cll32, by decide +kernel⟩, fun _ h => absurd h List.not_mem_nil⟩⟩
theorem ax_hn21 : ax_hok (232, 0, 10, 21, "java/lang/IllegalStateException") := ⟨[(0, 10, 13, 32), (0, 10, 17, 19)], [], 13, rfl, by decide, ax_cll13, by decide +kernel, List.forall_mem_cons.mpr ⟨⟨by decide, "java/lang/IndexOutOfBoundsException", ax_cll32, by decide +kernel⟩, List.forall_mem_cons.mpr ⟨⟨by decide, "java/lang/IllegalArgumentException", ax_cll19, by decide +kernel⟩, fun _ h => absurd h List.not_mem_nil⟩⟩⟩
theorem ax_hn22 : ax_hok (233, 0, 9, 12, "java/lang/IndexOutOfBoundsException") := ⟨[], [(0, 9, 15, 13)], 32, rfl, by decide, ax_cll32, by decide +kernel, fun _ h => absurd h List.not_mem_nil⟩
theorem ax_hn23 : ax_hok (233, 0, 9, 15, "java/lang/IllegalStateException") := ⟨[(0, 9, 12, 32)], [], 13, rfl, by decide, ax_cll13, by decide +kernel, List.forall_mem_cons.mpr ⟨⟨by decide, "java/lang/IndexOutOfBoundsException", ax_cll32, by decide +kernel⟩, fun _ h => absurd h List.not_mem_nil⟩⟩
theorem ax_hn24 : ax_hok (234, 0, 10, 13, "java/lang/IndexOutOfBoundsException") := ⟨[], [(0, 10, 17, 19), (0, 10, 21, 13)], 32, rfl, by decide, ax_cll32, by decide +kernel, fun _ h => absurd h List.not_mem_nil⟩
theorem ax_hn25 : ax_hok (234, 0, 10, 17, "java/lang/IllegalArgumentException") := ⟨[(0, 10, 13, 32)], [(0, 10, 21, 13)], 19, rfl, by decide, ax_cll19, by decide +kernel, List.forall_mem_cons.mpr ⟨⟨by decide, "java/lang/IndexOutOfBoundsException", ax_cll32, by decide +kernel⟩, fun _ h => absurd h List.not_mem_nil⟩⟩
theorem ax_hn26 : ax_hok (234, 0, 10, 21, "java/lang/IllegalStateException") := ⟨[(0, 10, 13, 32), (0, 10, 17, 19)], [], 13, rfl, by decide, ax_cll13, by decide +kernel, List.forall_mem_cons.mpr ⟨⟨by decide, "java/lang/IndexOutOfBoundsException", ax_cll32, by decide +kernel⟩, List.forall_mem_cons.mpr ⟨⟨by decide, "java/lang/IllegalArgumentException", ax_cll19, by decide +kernel⟩, fun _ h => absurd h List.not_mem_nil⟩⟩⟩
theorem ax_hn27 : ax_hok (235, 0, 12, 15, "java/lang/IndexOutOfBoundsException") := ⟨[], [(0, 12, 19, 19), (0, 12, 23, 13), (0, 12, 27, 57)], 32, rfl, by decide, ax_cll32, by decide +kernel, fun _ h => absurd h List.not_mem_nil⟩
theorem ax_hn28 : ax_hok (235, 0, 12, 19, "java/lang/IllegalArgumentException") := ⟨[(0, 12, 15, 32)], [(0, 12, 23, 13), (0, 12, 27, 57)], 19, rfl, by decide, ax_cll19, by decide +kernel, List.forall_mem_cons.mpr ⟨⟨by decide, "java/lang/IndexOutOfBoundsException", ax_cll32, by decide +kernel⟩, fun _ h => absurd h List.not_mem_nil⟩⟩
theorem ax_hn29 : ax_hok (235, 0, 12, 23, "java/lang/IllegalStateException") := ⟨[(0, 12, 15, 32), (0, 12, 19, 19)], [(0, 12, 27, 57)], 13, rfl, by decide, ax_cll13, by decide +kernel, List.forall_mem_cons.mpr ⟨⟨by decide, "java/lang/IndexOutOfBoundsException", ax_cll32, by decide +kernel⟩, List.forall_mem_cons.mpr ⟨⟨by decide, "java/lang/IllegalArgumentException", ax_cll19, by decide +kernel⟩, fun _ h => absurd h List.not_mem_nil⟩⟩⟩
theorem ax_hn30 : ax_hok (235, 0, 12, 27, "java/lang/ArithmeticException") := ⟨[(0, 12, 15, 32), (0, 12, 19, 19), (0, 12, 23, 13)], [], 57, rfl, by decide, ax_cll57, by decide +kernel, List.forall_mem_cons.mpr ⟨⟨by decide, "java/lang/IndexOutOfBoundsException", ax_cll32, by decide +kernel⟩, List.forall_mem_cons.mpr ⟨⟨by decide, "java/lang/IllegalArgumentException", ax_cll19, by decide +kernel⟩, List.forall_mem_cons.mpr ⟨⟨by decide, "java/lang/IllegalStateException", ax_cll13, by decide +kernel⟩, fun _ h => absurd h List.not_mem_nil⟩⟩⟩⟩
theorem ax_hn31 : ax_hok (236, 0, 9, 12, "java/lang/IndexOutOfBoundsException") := ⟨[], [(0, 9, 15, 13)], 32, rfl, by decide, ax_cll32, by decide +kernel, fun _ h => absurd h List.not_mem_nil⟩
theorem ax_hn32 : ax_hok (236, 0, 9, 15, "java/lang/IllegalStateException") := ⟨[(0, 9, 12, 32)], [], 13, rfl, by decide, ax_cll13, by decide +kernel, List.forall_mem_cons.mpr ⟨⟨by decide, "java/lang/IndexOutOfBoundsException", ax_cll32, by decide +kernel⟩, fun _ h => absurd h List.not_mem_nil⟩⟩
theorem ax_hn33 : ax_hok (237, 0, 17, 20, "java/lang/IndexOutOfBoundsException") := ⟨[], [], 32, rfl, by decide, ax_cll32, by decide +kernel, fun _ h => absurd h List.not_mem_nil⟩
theorem ax_hn34 : ax_hok (238, 0, 9, 12, "java/lang/IndexOutOfBoundsException") := ⟨[], [], 32, rfl, by decide, ax_cll32, by decide +kernel, fun _ h => absurd h List.not_mem_nil⟩
theorem ax_hn35 : ax_hok (239, 0, 9, 12, "java/lang/IndexOutOfBoundsException") := ⟨[], [], 32, rfl, by decide, ax_cll32, by decide +kernel, fun _ h => absurd h List.not_mem_nil⟩
theorem ax_hn36 : ax_hok (240, 0, 8, 11, "java/util/NoSuchElementException") := ⟨[], [(0, 8, 14, 13)], 91, rfl, by decide, ax_cll91, by decide +kernel, fun _ h => absurd h List.not_mem_nil⟩
theorem ax_hn37 : ax_hok (240, 0, 8, 14, "java/lang/IllegalStateException") := ⟨[(0, 8, 11, 91)], [], 13, rfl, by decide, ax_cll13, by decide +kernel, List.forall_mem_cons.mpr ⟨⟨by decide, "java/util/NoSuchElementException", ax_cll91, by decide +kernel⟩, fun _ h => absurd h List.not_mem_nil⟩⟩
theorem ax_hn38 : ax_hok (241, 0, 9, 12, "java/lang/IndexOutOfBoundsException") := ⟨[], [(0, 9, 15, 13)], 32, rfl, by decide, ax_cll32, by decide +kernel, fun _ h => absurd h List.not_mem_nil⟩
theorem ax_hn39 : ax_hok (241, 0, 9, 15, "java/lang/IllegalStateException") := ⟨[(0, 9, 12, 32)], [], 13, rfl, by decide, ax_cll13, by decide +kernel, List.forall_mem_cons.mpr ⟨⟨by decide, "java/lang/IndexOutOfBoundsException", ax_cll32, by decide +kernel⟩, fun _ h => absurd h List.not_mem_nil⟩⟩
theorem ax_hn40 : ax_hok (242, 0, 8, 11, "java/lang/IllegalStateException") := ⟨[], [], 13, rfl, by decide, ax_cll13, by decide +kernel, fun _ h => absurd h List.not_mem_nil⟩
theorem ax_hn41 : ax_hok (243, 0, 9, 12, "java/lang/IndexOutOfBoundsException") := ⟨[], [], 32, rfl, by decide, ax_cll32, by decide +kernel, fun _ h => absurd h List.not_mem_nil⟩
theorem ax_hn42 : ax_hok (244, 0, 9, 12, "java/lang/IllegalArgumentException") := ⟨[], [], 19, rfl, by decide, ax_cll19, by decide +kernel, fun _ h => absurd h List.not_mem_nil⟩
theorem ax_hn43 : ax_hok (245, 0, 16, 19, "java/lang/IndexOutOfBoundsException") := ⟨[], [], 32, rfl, by decide, ax_cll32, by decide +kernel, fun _ h => absurd h List.not_mem_nil⟩
theorem ax_hn44 : ax_hok (246, 0, 10, 13, "java/lang/IndexOutOfBoundsException") := ⟨[], [(0, 10, 17, 19)], 32, rfl, by decide, ax_cll32, by decide +kernel, fun _ h => absurd h List.not_mem_nil⟩
theorem ax_hn45 : ax_hok (246, 0, 10, 17, "java/lang/IllegalArgumentException") := ⟨[(0, 10, 13, 32)], [], 19, rfl, by decide, ax_cll19, by decide +kernel, List.forall_mem_cons.mpr ⟨⟨by decide, "java/lang/IndexOutOfBoundsException", ax_cll32, by decide +kernel⟩, fun _ h => absurd h List.not_mem_nil⟩⟩
theorem ax_hn46 : ax_hok (247, 0, 8, 11, "java/util/NoSuchElementException") := ⟨[], [], 91, rfl, by decide, ax_cll91, by decide +kernel, fun _ h => absurd h List.not_mem_nil⟩
theorem ax_hn47 : ax_hok (248, 0, 8, 11, "java/util/NoSuchElementException") := ⟨[], [], 91, rfl, by decide, ax_cll91, by decide +kernel, fun _ h => absurd h List.not_mem_nil⟩
theorem ax_hn48 : ax_hok (249, 0, 10, 13, "java/lang/IllegalArgumentException") := ⟨[], [(0, 10, 17, 91)], 19, rfl, by decide, ax_cll19, by decide +kernel, fun _ h => absurd h List.not_mem_nil⟩
theorem ax_hn49 : ax_hok (249, 0, 10, 17, "java/util/NoSuchElementException") := ⟨[(0, 10, 13, 19)], [], 91, rfl, by decide, ax_cll91, by decide +kernel, List.forall_mem_cons.mpr ⟨⟨by decide, "java/lang/IllegalArgumentException", ax_cll19, by decide +kernel⟩, fun _ h => absurd h List.not_mem_nil⟩⟩
theorem ax_hn50 : ax_hok (250, 0, 9, 12, "java/lang/IndexOutOfBoundsException") := ⟨[], [], 32, rfl, by decide, ax_cll32, by decide +kernel, fun _ h => absurd h List.not_mem_nil⟩
theorem ax_hn51 : ax_hok (251, 0, 8, 11, "java/lang/IllegalStateException") := ⟨[], [], 13, rfl, by decide, ax_cll13, by decide +kernel, fun _ h => absurd h List.not_mem_nil⟩
theorem ax_hn52 : ax_hok (252, 0, 8, 11, "java/lang/IllegalStateException") := ⟨[], [], 13, rfl, by decide, ax_cll13, by decide +kernel, fun _ h => absurd h List.not_mem_nil⟩
theorem ax_hands_ok : ∀ q ∈ ax_hands, ax_hok q := by
  unfold ax_hands
  refine List.forall_mem_cons.mpr ⟨ax_hn0, ?_⟩
  refine List.forall_mem_cons.mpr ⟨ax_hn1, ?_⟩
  refine List.forall_mem_cons.mpr ⟨ax_hn2, ?_⟩
  refine List.forall_mem_cons.mpr ⟨ax_hn3, ?_⟩
  refine List.forall_mem_cons.mpr ⟨ax_hn4, ?_⟩
  refine List.forall_mem_cons.mpr ⟨ax_hn5, ?_⟩
  refine List.forall_mem_cons.mpr ⟨ax_hn6, ?_⟩
  refine List.forall_mem_cons.mpr ⟨ax_hn7, ?_⟩
  refine List.forall_mem_cons.mpr ⟨ax_hn8, ?_⟩
  refine List.forall_mem_cons.mpr ⟨ax_hn9, ?_⟩
  refine List.forall_mem_cons.mpr ⟨ax_hn10, ?_⟩
  refine List.forall_mem_cons.mpr ⟨ax_hn11, ?_⟩
  refine List.forall_mem_cons.mpr ⟨ax_hn12, ?_⟩
  refine List.forall_mem_cons.mpr ⟨ax_hn13, ?_⟩
  refine List.forall_mem_cons.mpr ⟨ax_hn14, ?_⟩
  refine List.forall_mem_cons.mpr ⟨ax_hn15, ?_⟩
  refine List.forall_mem_cons.mpr ⟨ax_hn16, ?_⟩
  refine List.forall_mem_cons.mpr ⟨ax_hn17, ?_⟩
  refine List.forall_mem_cons.mpr ⟨ax_hn18, ?_⟩
  refine List.forall_mem_cons.mpr ⟨ax_hn19, ?_⟩
  refine List.forall_mem_cons.mpr ⟨ax_hn20, ?_⟩
  refine List.forall_mem_cons.mpr ⟨ax_hn21, ?_⟩
  refine List.forall_mem_cons.mpr ⟨ax_hn22, ?_⟩
  refine List.forall_mem_cons.mpr ⟨ax_hn23, ?_⟩
  refine List.forall_mem_cons.mpr ⟨ax_hn24, ?_⟩
  refine List.forall_mem_cons.mpr ⟨ax_hn25, ?_⟩
  refine List.forall_mem_cons.mpr ⟨ax_hn26, ?_⟩
  refine List.forall_mem_cons.mpr ⟨ax_hn27, ?_⟩
  refine List.forall_mem_cons.mpr ⟨ax_hn28, ?_⟩
  refine List.forall_mem_cons.mpr ⟨ax_hn29, ?_⟩
  refine List.forall_mem_cons.mpr ⟨ax_hn30, ?_⟩
  refine List.forall_mem_cons.mpr ⟨ax_hn31, ?_⟩
  refine List.forall_mem_cons.mpr ⟨ax_hn32, ?_⟩
  refine List.forall_mem_cons.mpr ⟨ax_hn33, ?_⟩
  refine List.forall_mem_cons.mpr ⟨ax_hn34, ?_⟩
  refine List.forall_mem_cons.mpr ⟨ax_hn35, ?_⟩
  refine List.forall_mem_cons.mpr ⟨ax_hn36, ?_⟩
  refine List.forall_mem_cons.mpr ⟨ax_hn37, ?_⟩
  refine List.forall_mem_cons.mpr ⟨ax_hn38, ?_⟩
  refine List.forall_mem_cons.mpr ⟨ax_hn39, ?_⟩
  refine List.forall_mem_cons.mpr ⟨ax_hn40, ?_⟩
  refine List.forall_mem_cons.mpr ⟨ax_hn41, ?_⟩
  refine List.forall_mem_cons.mpr ⟨ax_hn42, ?_⟩
  refine List.forall_mem_cons.mpr ⟨ax_hn43, ?_⟩
  refine List.forall_mem_cons.mpr ⟨ax_hn44, ?_⟩
  refine List.forall_mem_cons.mpr ⟨ax_hn45, ?_⟩
  refine List.forall_mem_cons.mpr ⟨ax_hn46, ?_⟩
  refine List.forall_mem_cons.mpr ⟨ax_hn47, ?_⟩
  refine List.forall_mem_cons.mpr ⟨ax_hn48, ?_⟩
  refine List.forall_mem_cons.mpr ⟨ax_hn49, ?_⟩
  refine List.forall_mem_cons.mpr ⟨ax_hn50, ?_⟩
  refine List.forall_mem_cons.mpr ⟨ax_hn51, ?_⟩
  refine List.forall_mem_cons.mpr ⟨ax_hn52, ?_⟩
  exact fun _ h => absurd h List.not_mem_nil
