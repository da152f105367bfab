/-! THROWS: the places, and what they rest on -/
/-- exceptions that aren't caught as others -/
def ax_exc : List String := ["java/lang/IllegalStateException", "java/lang/IllegalArgumentException", "java/lang/IndexOutOfBoundsException", "java/lang/ArithmeticException", "java/util/NoSuchElementException"]
def ax_ncs : List (String × String) := []
/-- the words of a chain of constructors whose first one has a link and bytes of its own -/
def ax_chX (X : String) (ix : Nat) (rx : ByteArray) : List String → List Cond
  | [] => Bundle.passSAtoms X Bundle.tN ix rx
  | Y :: r => Bundle.passSAtoms X Y ix rx ++ Bundle.chainSAtoms Y r
/-- an exception's words: its kind's, by the usual chain, or by one that begins otherwise -/
def ax_ow (own : String) (ic : Nat) (X : String) (names : List String) : Option (Nat × ByteArray) → List Cond
  | none => Bundle.ownAtoms own ic X names
  | some q => Bundle.throwableAtoms ++ (Bundle.throwableSAtoms ++ (ax_chX X q.1 q.2 names ++ [.methodLink own ic (Bundle.initS X), .instantiable X 6, .castable X X, .selects X Bundle.tFill0 Bundle.tFill0, .selects X Bundle.tFill Bundle.tFill, .isRef (.static Bundle.tN "UNASSIGNED_STACK" Bundle.steD), .isRef (.static Bundle.tN "SUPPRESSED_SENTINEL" Bundle.listD)] ++ ((["cause", "suppressedExceptions", "detailMessage", "stackTrace", "backtrace"].zip ["Ljava/lang/Throwable;", Bundle.listD, "Ljava/lang/String;", Bundle.steD, "Ljava/lang/Object;"]).map (fun z => Cond.lays X Bundle.tN z.1 z.2) ++ [.fieldLink Bundle.tN 198 Bundle.tN "backtrace" "Ljava/lang/Object;", .lays Bundle.tN Bundle.tN "backtrace" "Ljava/lang/Object;"])))
def ax_owS (own : String) (ic : Nat) (X : String) (names : List String) (q : Option (Nat × ByteArray)) : List Cond := (ax_ow own ic X names q).filter vx_no
def ax_xok : Option (Nat × ByteArray) → Prop
  | none => True
  | some q => decode q.2 0 = .ok (.aload_n 0, 1) ∧ decode q.2 1 = .ok (.aload_n 1, 1) ∧ decode q.2 2 = .ok (.invokespecial q.1, 3) ∧ decode q.2 5 = .ok (.return_, 1)
/-- this place is 'throw new E(text)' -/
def ax_thr (ns : ax_NS) (k : ax_M) (pc : Nat) (E : String) : Prop :=
  ∃ (ik is ic : Nat) (text : String) (names : List String) (wide : Bool) (q : Option (Nat × ByteArray)), decode k.2.1 pc = .ok (.new ik, 3) ∧ decode k.2.1 (pc + 3) = .ok (.dup, 1) ∧
    (if wide then decode k.2.1 (pc + 4) = .ok (.ldc_w is, 3) ∧ decode k.2.1 (pc + 7) = .ok (.invokespecial ic, 3) ∧ decode k.2.1 (pc + 10) = .ok (.athrow, 1) else q = none ∧ decode k.2.1 (pc + 4) = .ok (.ldc is, 2) ∧ decode k.2.1 (pc + 6) = .ok (.invokespecial ic, 3) ∧ decode k.2.1 (pc + 9) = .ok (.athrow, 1)) ∧
    Bundle.fit E = true ∧ (∀ n ∈ names, Bundle.fit n = true) ∧ names.length ≤ 2 ∧ Cond.classLink k.1.cls ik E ∈ ax_tb ∧ Cond.initialized E ∈ ax_tb ∧ (k.1.cls, is, text) ∈ ns.2 ∧
    (∀ w ∈ ax_owS k.1.cls ic E names q, w ∈ ax_tb ∨ w ∈ ns.1) ∧ (∀ w ∈ Cond.classLink k.1.cls ik E :: Cond.initialized E :: ax_owS k.1.cls ic E names q, vx_ot w = true) ∧ ax_xok q
def ax_in (w : Cond) : Bool := decide (w ∈ ax_nw) || (lw_tbl.any (fun v => decide (v = w)) && goodWord w)
theorem ax_in_ok {w : Cond} (h : ax_in w = true) : w ∈ ax_tb ∨ w ∈ ax_nw := by
  simp only [ax_in, Bool.or_eq_true, Bool.and_eq_true, decide_eq_true_eq, List.any_eq_true] at h
  rcases h with h | ⟨⟨v, h1, h2⟩, h3⟩
  · exact Or.inr h
  · exact Or.inl (List.mem_filter.mpr ⟨by rw [← h2]; exact h1, h3⟩)
set_option maxRecDepth 100000 in
theorem ax_at0 : (ax_owS "PseudoBoolean" 112 "java/lang/IllegalStateException" ["java/lang/RuntimeException", "java/lang/Exception"] none).all ax_in = true := by decide +kernel
set_option maxRecDepth 100000 in
theorem ax_at1 : (ax_owS "PseudoBoolean" 123 "java/lang/IllegalArgumentException" ["java/lang/RuntimeException", "java/lang/Exception"] none).all ax_in = true := by decide +kernel
set_option maxRecDepth 100000 in
theorem ax_at2 : (ax_owS "PseudoBoolean" 174 "java/lang/IndexOutOfBoundsException" ["java/lang/RuntimeException", "java/lang/Exception"] none).all ax_in = true := by decide +kernel
set_option maxRecDepth 100000 in
theorem ax_at3 : (ax_owS "PseudoBoolean" 272 "java/util/NoSuchElementException" ["java/lang/RuntimeException", "java/lang/Exception"] (some (13, prog_37_method_4_code))).all ax_in = true := by decide +kernel
set_option maxRecDepth 100000 in
theorem ax_at4 : (ax_owS "PseudoBoolean" 381 "java/lang/ArithmeticException" ["java/lang/RuntimeException", "java/lang/Exception"] none).all ax_in = true := by decide +kernel
set_option maxRecDepth 100000 in
theorem ax_h0 : ax_thr ax_ns ax_q70 16 "java/lang/IllegalStateException" := ⟨108, 110, 112, "the text buffer is full", ["java/lang/RuntimeException", "java/lang/Exception"], false, none, by decide +kernel, by decide +kernel, by simp only [if_true, if_false, Bool.false_eq_true]; exact ⟨trivial, by decide +kernel, by decide +kernel, by decide +kernel⟩, by decide +kernel, by decide +kernel, by decide, ax_mem 527 (by decide +kernel) (by decide +kernel), ax_mem 50 (by decide +kernel) (by decide +kernel), List.mem_of_getElem? (i := 0) (by decide +kernel), fun w hw => ax_in_ok (List.all_eq_true.mp ax_at0 w hw), by decide +kernel, trivial⟩
set_option maxRecDepth 100000 in
theorem ax_h1 : ax_thr ax_ns ax_q71 15 "java/lang/IllegalArgumentException" := ⟨119, 121, 123, "the text buffer does not have so many bytes", ["java/lang/RuntimeException", "java/lang/Exception"], false, none, by decide +kernel, by decide +kernel, by simp only [if_true, if_false, Bool.false_eq_true]; exact ⟨trivial, by decide +kernel, by decide +kernel, by decide +kernel⟩, by decide +kernel, by decide +kernel, by decide, ax_mem 359 (by decide +kernel) (by decide +kernel), ax_mem 51 (by decide +kernel) (by decide +kernel), List.mem_of_getElem? (i := 1) (by decide +kernel), fun w hw => ax_in_ok (List.all_eq_true.mp ax_at1 w hw), by decide +kernel, trivial⟩
set_option maxRecDepth 100000 in
theorem ax_h4 : ax_thr ax_ns ax_q85 10 "java/lang/IllegalArgumentException" := ⟨119, 210, 123, "the divisor is less than 1", ["java/lang/RuntimeException", "java/lang/Exception"], false, none, by decide +kernel, by decide +kernel, by simp only [if_true, if_false, Bool.false_eq_true]; exact ⟨trivial, by decide +kernel, by decide +kernel, by decide +kernel⟩, by decide +kernel, by decide +kernel, by decide, ax_mem 359 (by decide +kernel) (by decide +kernel), ax_mem 51 (by decide +kernel) (by decide +kernel), List.mem_of_getElem? (i := 2) (by decide +kernel), fun w hw => ax_in_ok (List.all_eq_true.mp ax_at1 w hw), by decide +kernel, trivial⟩
set_option maxRecDepth 100000 in
theorem ax_h12 : ax_thr ax_ns ax_q106 20 "java/lang/IllegalArgumentException" := ⟨119, 333, 123, "these are not two masks without a common variable", ["java/lang/RuntimeException", "java/lang/Exception"], true, none, by decide +kernel, by decide +kernel, by simp only [if_true, if_false, Bool.false_eq_true]; exact ⟨by decide +kernel, by decide +kernel, by decide +kernel⟩, by decide +kernel, by decide +kernel, by decide, ax_mem 359 (by decide +kernel) (by decide +kernel), ax_mem 51 (by decide +kernel) (by decide +kernel), List.mem_of_getElem? (i := 3) (by decide +kernel), fun w hw => ax_in_ok (List.all_eq_true.mp ax_at1 w hw), by decide +kernel, trivial⟩
set_option maxRecDepth 100000 in
theorem ax_h13 : ax_thr ax_ns ax_q106 40 "java/util/NoSuchElementException" := ⟨268, 335, 272, "there is a model", ["java/lang/RuntimeException", "java/lang/Exception"], true, some (13, prog_37_method_4_code), by decide +kernel, by decide +kernel, by simp only [if_true, if_false, Bool.false_eq_true]; exact ⟨by decide +kernel, by decide +kernel, by decide +kernel⟩, by decide +kernel, by decide +kernel, by decide, ax_mem 1008 (by decide +kernel) (by decide +kernel), ax_mem 55 (by decide +kernel) (by decide +kernel), List.mem_of_getElem? (i := 4) (by decide +kernel), fun w hw => ax_in_ok (List.all_eq_true.mp ax_at3 w hw), by decide +kernel, ⟨by decide +kernel, by decide +kernel, by decide +kernel, by decide +kernel⟩⟩
set_option maxRecDepth 100000 in
theorem ax_h16 : ax_thr ax_ns ax_q111 12 "java/lang/IndexOutOfBoundsException" := ⟨170, 356, 174, "no such constraint", ["java/lang/RuntimeException", "java/lang/Exception"], true, none, by decide +kernel, by decide +kernel, by simp only [if_true, if_false, Bool.false_eq_true]; exact ⟨by decide +kernel, by decide +kernel, by decide +kernel⟩, by decide +kernel, by decide +kernel, by decide, ax_mem 507 (by decide +kernel) (by decide +kernel), ax_mem 52 (by decide +kernel) (by decide +kernel), List.mem_of_getElem? (i := 5) (by decide +kernel), fun w hw => ax_in_ok (List.all_eq_true.mp ax_at2 w hw), by decide +kernel, trivial⟩
set_option maxRecDepth 100000 in
theorem ax_h19 : ax_thr ax_ns ax_q114 12 "java/lang/IndexOutOfBoundsException" := ⟨170, 362, 174, "no such index", ["java/lang/RuntimeException", "java/lang/Exception"], true, none, by decide +kernel, by decide +kernel, by simp only [if_true, if_false, Bool.false_eq_true]; exact ⟨by decide +kernel, by decide +kernel, by decide +kernel⟩, by decide +kernel, by decide +kernel, by decide, ax_mem 507 (by decide +kernel) (by decide +kernel), ax_mem 52 (by decide +kernel) (by decide +kernel), List.mem_of_getElem? (i := 6) (by decide +kernel), fun w hw => ax_in_ok (List.all_eq_true.mp ax_at2 w hw), by decide +kernel, trivial⟩
set_option maxRecDepth 100000 in
theorem ax_h20 : ax_thr ax_ns ax_q115 11 "java/lang/IllegalStateException" := ⟨108, 364, 112, "there would be more than 60 constraints", ["java/lang/RuntimeException", "java/lang/Exception"], true, none, by decide +kernel, by decide +kernel, by simp only [if_true, if_false, Bool.false_eq_true]; exact ⟨by decide +kernel, by decide +kernel, by decide +kernel⟩, by decide +kernel, by decide +kernel, by decide, ax_mem 527 (by decide +kernel) (by decide +kernel), ax_mem 50 (by decide +kernel) (by decide +kernel), List.mem_of_getElem? (i := 7) (by decide +kernel), fun w hw => ax_in_ok (List.all_eq_true.mp ax_at0 w hw), by decide +kernel, trivial⟩
set_option maxRecDepth 100000 in
theorem ax_h21 : ax_thr ax_ns ax_q117 31 "java/lang/IllegalArgumentException" := ⟨119, 369, 123, "the text is not a constraint", ["java/lang/RuntimeException", "java/lang/Exception"], true, none, by decide +kernel, by decide +kernel, by simp only [if_true, if_false, Bool.false_eq_true]; exact ⟨by decide +kernel, by decide +kernel, by decide +kernel⟩, by decide +kernel, by decide +kernel, by decide, ax_mem 359 (by decide +kernel) (by decide +kernel), ax_mem 51 (by decide +kernel) (by decide +kernel), List.mem_of_getElem? (i := 8) (by decide +kernel), fun w hw => ax_in_ok (List.all_eq_true.mp ax_at1 w hw), by decide +kernel, trivial⟩
set_option maxRecDepth 100000 in
theorem ax_h22 : ax_thr ax_ns ax_q118 17 "java/lang/ArithmeticException" := ⟨377, 379, 381, "a coefficient or the degree would be greater than 10^9", ["java/lang/RuntimeException", "java/lang/Exception"], true, none, by decide +kernel, by decide +kernel, by simp only [if_true, if_false, Bool.false_eq_true]; exact ⟨by decide +kernel, by decide +kernel, by decide +kernel⟩, by decide +kernel, by decide +kernel, by decide, ax_mem 557 (by decide +kernel) (by decide +kernel), ax_mem 53 (by decide +kernel) (by decide +kernel), List.mem_of_getElem? (i := 9) (by decide +kernel), fun w hw => ax_in_ok (List.all_eq_true.mp ax_at4 w hw), by decide +kernel, trivial⟩
def ax_thrs : List (Nat × Nat × Nat) := [(70, 16, 0), (71, 15, 1), (85, 10, 1), (106, 20, 1), (106, 40, 4), (111, 12, 2), (114, 12, 2), (115, 11, 0), (117, 31, 1), (118, 17, 3)]
theorem ax_thr_ok : ∀ q ∈ ax_thrs, ax_thr ax_ns (ax_mm q.1) q.2.1 (ax_exc.getD q.2.2 "") := by
  unfold ax_thrs
  refine List.forall_mem_cons.mpr ⟨ax_h0, ?_⟩
  refine List.forall_mem_cons.mpr ⟨ax_h1, ?_⟩
  refine List.forall_mem_cons.mpr ⟨ax_h4, ?_⟩
  refine List.forall_mem_cons.mpr ⟨ax_h12, ?_⟩
  refine List.forall_mem_cons.mpr ⟨ax_h13, ?_⟩
  refine List.forall_mem_cons.mpr ⟨ax_h16, ?_⟩
  refine List.forall_mem_cons.mpr ⟨ax_h19, ?_⟩
  refine List.forall_mem_cons.mpr ⟨ax_h20, ?_⟩
  refine List.forall_mem_cons.mpr ⟨ax_h21, ?_⟩
  refine List.forall_mem_cons.mpr ⟨ax_h22, ?_⟩
  exact fun _ h => absurd h List.not_mem_nil
def ax_hands : List (Nat × Nat × Nat × Nat × String) := [(140, 0, 6, 7, "java/util/NoSuchElementException")]
def ax_hok (q : Nat × Nat × Nat × Nat × String) : Prop := ∃ (pre suf : List (Nat × Nat × Nat × Nat)) (ct : Nat), (ax_mm q.1).2.2.2.2 = pre ++ (q.2.1, q.2.2.1, q.2.2.2.1, ct) :: suf ∧ ct ≠ 0 ∧ Cond.classLink (ax_mm q.1).1.cls ct q.2.2.2.2 ∈ ax_tb ∧ Cond.castable q.2.2.2.2 q.2.2.2.2 ∈ ax_nw ∧ ∀ z ∈ pre, z.2.2.2 ≠ 0 ∧ ∃ nm, Cond.classLink (ax_mm q.1).1.cls z.2.2.2 nm ∈ ax_tb ∧ (q.2.2.2.2, nm) ∈ ax_ncs
theorem ax_cll94 : Cond.classLink "PseudoBooleanLaw" 94 "java/util/NoSuchElementException" ∈ ax_tb := ax_wk_mem (ix := 5005) (by decide +kernel)
theorem ax_hn0 : ax_hok (140, 0, 6, 7, "java/util/NoSuchElementException") := ⟨[], [], 94, rfl, by decide, ax_cll94, by decide +kernel, fun _ h => absurd h List.not_mem_nil⟩
theorem ax_hands_ok : ∀ q ∈ ax_hands, ax_hok q := by
  unfold ax_hands
  refine List.forall_mem_cons.mpr ⟨ax_hn0, ?_⟩
  exact fun _ h => absurd h List.not_mem_nil
