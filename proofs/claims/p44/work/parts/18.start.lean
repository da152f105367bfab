/-! THE LAW'S ENTRY: what the tables and the premises give -/
def ax_bits : List Value := [.long (-6148914691236517206), .long (-3689348814741910324), .long (-1085102592571150096), .long (-71777214294589696), .long (-281470681808896), .long (-4294967296)]
def ax_r (L : Nat) (xs : Nat → Int32) : ax_H := [(101, ax_bits), (100, (List.range L).map (fun j => .int (xs j)))]
theorem ax_tbl {s : State} {b : Nat} (hts : ∀ w ∈ lw_tbl, w.before #[Value.ref b] s = true) : ∀ w ∈ ax_tb, w.before #[Value.ref b] s = true := fun w hw => hts w (List.mem_filter.mp hw).1
theorem ax_kn0 {s : State} {b : Nat} (hts : ∀ w ∈ ax_tb, w.before #[Value.ref b] s = true) : ∃ (cC : ClassId) (iS : Nat → Nat), u_Kn s RX0 TX0 2 cC iS := u_known hts ax_wsX0 (hts (.instantiable RX0 2) (ax_wk_mem (ix := 1190) (by decide +kernel)))
theorem ax_kn1 {s : State} {b : Nat} (hts : ∀ w ∈ ax_tb, w.before #[Value.ref b] s = true) : ∃ (cC : ClassId) (iS : Nat → Nat), u_Kn s RX1 TX1 3 cC iS := u_known hts ax_wsX1 (hts (.instantiable RX1 3) (ax_wk_mem (ix := 1141) (by decide +kernel)))
theorem ax_kn2 {s : State} {b : Nat} (hts : ∀ w ∈ ax_tb, w.before #[Value.ref b] s = true) : ∃ (cC : ClassId) (iS : Nat → Nat), u_Kn s RX2 TX2 2 cC iS := u_known hts ax_wsX2 (hts (.instantiable RX2 2) (ax_wk_mem (ix := 1124) (by decide +kernel)))
theorem ax_kn3 {s : State} {b : Nat} (hts : ∀ w ∈ ax_tb, w.before #[Value.ref b] s = true) : ∃ (cC : ClassId) (iS : Nat → Nat), u_Kn s RX3 TX3 2 cC iS := u_known hts ax_wsX3 (hts (.instantiable RX3 2) (ax_wk_mem (ix := 1175) (by decide +kernel)))
theorem ax_kn4 {s : State} {b : Nat} (hts : ∀ w ∈ ax_tb, w.before #[Value.ref b] s = true) : ∃ (cC : ClassId) (iS : Nat → Nat), u_Kn s RX4 TX4 2 cC iS := u_known hts ax_wsX4 (hts (.instantiable RX4 2) (ax_wk_mem (ix := 1162) (by decide +kernel)))
theorem ax_kn5 {s : State} {b : Nat} (hts : ∀ w ∈ ax_tb, w.before #[Value.ref b] s = true) : ∃ (cC : ClassId) (iS : Nat → Nat), u_Kn s RX5 TX5 1 cC iS := u_known hts ax_wsX5 (hts (.instantiable RX5 1) (ax_wk_mem (ix := 1210) (by decide +kernel)))
theorem ax_kn6 {s : State} {b : Nat} (hts : ∀ w ∈ ax_tb, w.before #[Value.ref b] s = true) : ∃ (cC : ClassId) (iS : Nat → Nat), u_Kn s RX6 TX6 9 cC iS := u_known hts ax_wsX6 (hts (.instantiable RX6 9) (ax_wk_mem (ix := 1055) (by decide +kernel)))
theorem ax_kn7 {s : State} {b : Nat} (hts : ∀ w ∈ ax_tb, w.before #[Value.ref b] s = true) : ∃ (cC : ClassId) (iS : Nat → Nat), u_Kn s RX7 TX7 2 cC iS := u_known hts ax_wsX7 (hts (.instantiable RX7 2) (ax_wk_mem (ix := 1040) (by decide +kernel)))
theorem ax_kn8 {s : State} {b : Nat} (hts : ∀ w ∈ ax_tb, w.before #[Value.ref b] s = true) : ∃ (cC : ClassId) (iS : Nat → Nat), u_Kn s RX8 TX8 18 cC iS := u_known hts ax_wsX8 (hts (.instantiable RX8 18) (ax_wk_mem (ix := 1032) (by decide +kernel)))
theorem ax_kn9 {s : State} {b : Nat} (hts : ∀ w ∈ ax_tb, w.before #[Value.ref b] s = true) : ∃ (cC : ClassId) (iS : Nat → Nat), u_Kn s RX0 TX0 2 cC iS := u_known hts ax_wsX0 (hts (.instantiable RX0 2) (ax_wk_mem (ix := 1190) (by decide +kernel)))
theorem ax_kn10 {s : State} {b : Nat} (hts : ∀ w ∈ ax_tb, w.before #[Value.ref b] s = true) : ∃ (cC : ClassId) (iS : Nat → Nat), u_Kn s RJ4 TJ4 4 cC iS := u_known hts ax_wsJ4 (hts (.instantiable RJ4 4) (ax_wk_mem (ix := 1090) (by decide +kernel)))
theorem ax_kn11 {s : State} {b : Nat} (hts : ∀ w ∈ ax_tb, w.before #[Value.ref b] s = true) : ∃ (cC : ClassId) (iS : Nat → Nat), u_Kn s RJ0 TJ0 4 cC iS := u_known hts ax_wsJ0 (hts (.instantiable RJ0 4) (ax_wk_mem (ix := 4156) (by decide +kernel)))
theorem ax_ka0 {s : State} {b : Nat} (hts : ∀ w ∈ ax_tb, w.before #[Value.ref b] s = true) : ∃ cA, ArrOfT s cA .int ∧ va_RA s cA .int := by
  obtain ⟨c, k, comp, h1, h2, h3⟩ := Cond.arrayClass_spec (hts (.arrayClass .int) (ax_wk_mem (ix := 1053) (by decide +kernel)))
  exact ⟨c, fun n z => ⟨fun q e => (by cases e), k, h2, comp, h3⟩, h1⟩
theorem ax_ka1 {s : State} {b : Nat} (hts : ∀ w ∈ ax_tb, w.before #[Value.ref b] s = true) : ∃ cA, ArrOfT s cA .long ∧ va_RA s cA .long := by
  obtain ⟨c, k, comp, h1, h2, h3⟩ := Cond.arrayClass_spec (hts (.arrayClass .long) (ax_wk_mem (ix := 1140) (by decide +kernel)))
  exact ⟨c, fun n z => ⟨fun q e => (by cases e), k, h2, comp, h3⟩, h1⟩
theorem ax_ka2 {s : State} {b : Nat} (hts : ∀ w ∈ ax_tb, w.before #[Value.ref b] s = true) : ∃ cA, ArrOfT s cA .boolean ∧ va_RA s cA .boolean := by
  obtain ⟨c, k, comp, h1, h2, h3⟩ := Cond.arrayClass_spec (hts (.arrayClass .boolean) (ax_wk_mem (ix := 5047) (by decide +kernel)))
  exact ⟨c, fun n z => ⟨fun q e => (by cases e), k, h2, comp, h3⟩, h1⟩
theorem ax_ka3 {s : State} {b : Nat} (hts : ∀ w ∈ ax_tb, w.before #[Value.ref b] s = true) : ∃ cA, ArrOfT s cA .byte ∧ va_RA s cA .byte := by
  obtain ⟨c, k, comp, h1, h2, h3⟩ := Cond.arrayClass_spec (hts (.arrayClass .byte) (ax_wk_mem (ix := 1120) (by decide +kernel)))
  exact ⟨c, fun n z => ⟨fun q e => (by cases e), k, h2, comp, h3⟩, h1⟩
theorem ax_ka4 {s : State} {b : Nat} (hts : ∀ w ∈ lw_tbl, w.before #[Value.ref b] s = true) : ∃ cA, ArrOfT s cA (.object RX1) ∧ va_RA s cA (.object RX1) := by
  obtain ⟨comp, c, k, h1, h2, h3, h4, h5⟩ := Cond.arrayOver_spec (hts (.arrayOver (.object RX1)) (ax_chunk_in (c := 1) (List.mem_of_getElem? (i := 122) (by decide +kernel))))
  exact ⟨c, fun n z => ⟨fun q e => (by cases e), k, h3, comp, h4⟩, k, comp, h3, h4, h1, h5⟩
theorem ax_ka5 {s : State} {b : Nat} (hts : ∀ w ∈ lw_tbl, w.before #[Value.ref b] s = true) : ∃ cA, ArrOfT s cA (.object RX5) ∧ va_RA s cA (.object RX5) := by
  obtain ⟨comp, c, k, h1, h2, h3, h4, h5⟩ := Cond.arrayOver_spec (hts (.arrayOver (.object RX5)) (ax_chunk_in (c := 1) (List.mem_of_getElem? (i := 208) (by decide +kernel))))
  exact ⟨c, fun n z => ⟨fun q e => (by cases e), k, h3, comp, h4⟩, k, comp, h3, h4, h1, h5⟩
theorem ax_ka6 {s : State} {b : Nat} (hts : ∀ w ∈ lw_tbl, w.before #[Value.ref b] s = true) : ∃ cA, ArrOfT s cA (.object RX3) ∧ va_RA s cA (.object RX3) := by
  obtain ⟨comp, c, k, h1, h2, h3, h4, h5⟩ := Cond.arrayOver_spec (hts (.arrayOver (.object RX3)) (ax_chunk_in (c := 1) (List.mem_of_getElem? (i := 209) (by decide +kernel))))
  exact ⟨c, fun n z => ⟨fun q e => (by cases e), k, h3, comp, h4⟩, k, comp, h3, h4, h1, h5⟩
set_option maxRecDepth 20000 in
theorem ax_nws : ax_nw.all ax_nwk = true ∧ ∀ w ∈ ax_nw, w ∈ lw_tbl := by
  refine ⟨by decide +kernel, ?_⟩
  unfold ax_nw
  refine List.forall_mem_cons.mpr ⟨ax_chunk_in (c := 1) (List.mem_of_getElem? (i := 41) (by decide +kernel)), ?_⟩
  refine List.forall_mem_cons.mpr ⟨ax_chunk_in (c := 1) (List.mem_of_getElem? (i := 122) (by decide +kernel)), ?_⟩
  refine List.forall_mem_cons.mpr ⟨ax_chunk_in (c := 1) (List.mem_of_getElem? (i := 125) (by decide +kernel)), ?_⟩
  refine List.forall_mem_cons.mpr ⟨ax_chunk_in (c := 1) (List.mem_of_getElem? (i := 142) (by decide +kernel)), ?_⟩
  refine List.forall_mem_cons.mpr ⟨ax_chunk_in (c := 1) (List.mem_of_getElem? (i := 163) (by decide +kernel)), ?_⟩
  refine List.forall_mem_cons.mpr ⟨ax_chunk_in (c := 1) (List.mem_of_getElem? (i := 176) (by decide +kernel)), ?_⟩
  refine List.forall_mem_cons.mpr ⟨ax_chunk_in (c := 1) (List.mem_of_getElem? (i := 208) (by decide +kernel)), ?_⟩
  refine List.forall_mem_cons.mpr ⟨ax_chunk_in (c := 1) (List.mem_of_getElem? (i := 209) (by decide +kernel)), ?_⟩
  refine List.forall_mem_cons.mpr ⟨ax_chunk_in (c := 2) (List.mem_of_getElem? (i := 96) (by decide +kernel)), ?_⟩
  refine List.forall_mem_cons.mpr ⟨ax_chunk_in (c := 2) (List.mem_of_getElem? (i := 97) (by decide +kernel)), ?_⟩
  refine List.forall_mem_cons.mpr ⟨ax_chunk_in (c := 2) (List.mem_of_getElem? (i := 98) (by decide +kernel)), ?_⟩
  refine List.forall_mem_cons.mpr ⟨ax_chunk_in (c := 2) (List.mem_of_getElem? (i := 99) (by decide +kernel)), ?_⟩
  refine List.forall_mem_cons.mpr ⟨ax_chunk_in (c := 2) (List.mem_of_getElem? (i := 100) (by decide +kernel)), ?_⟩
  refine List.forall_mem_cons.mpr ⟨ax_chunk_in (c := 2) (List.mem_of_getElem? (i := 101) (by decide +kernel)), ?_⟩
  refine List.forall_mem_cons.mpr ⟨ax_chunk_in (c := 2) (List.mem_of_getElem? (i := 102) (by decide +kernel)), ?_⟩
  refine List.forall_mem_cons.mpr ⟨ax_chunk_in (c := 3) (List.mem_of_getElem? (i := 4) (by decide +kernel)), ?_⟩
  refine List.forall_mem_cons.mpr ⟨ax_chunk_in (c := 3) (List.mem_of_getElem? (i := 24) (by decide +kernel)), ?_⟩
  refine List.forall_mem_cons.mpr ⟨ax_chunk_in (c := 3) (List.mem_of_getElem? (i := 54) (by decide +kernel)), ?_⟩
  refine List.forall_mem_cons.mpr ⟨ax_chunk_in (c := 4) (List.mem_of_getElem? (i := 61) (by decide +kernel)), ?_⟩
  refine List.forall_mem_cons.mpr ⟨ax_chunk_in (c := 5) (List.mem_of_getElem? (i := 25) (by decide +kernel)), ?_⟩
  exact fun _ h => absurd h List.not_mem_nil
theorem ax_nwo {w : Cond} (h : ax_nwk w = true) {A : Array Value} {s : State} (hw : w.before A s = true) : va_Nw w s := by
  cases w with
  | methodLinkNest _ _ _ _ => exact va_Nw.of rfl hw
  | declares _ => exact va_Nw.of rfl hw
  | castable _ _ => exact va_Nw.of rfl hw
  | arrayOver t =>
    cases t with
    | object C => exact hw
    | _ => simp [ax_nwk] at h
  | _ => simp [ax_nwk] at h
abbrev ax_given : Cond := Jvm.Cond.and given_1 narrow_1
def ax_fl_in (c : Cond) : Bool := (flatC ax_given).any (fun v => decide (v = c))
theorem ax_prem {s : State} {b : Nat} (hg : ax_given.before #[Value.ref b] s = true) {c : Cond} (hc : ax_fl_in c = true) : c.before #[Value.ref b] s = true := by
  simp only [ax_fl_in, List.any_eq_true, decide_eq_true_eq] at hc
  obtain ⟨v, h1, rfl⟩ := hc
  exact flat_of_before _ hg v h1
set_option maxRecDepth 100000 in
theorem ax_strp : ax_strs.all (fun q => ax_fl_in (.exactly (.string q.1 q.2.1) "java/lang/String")) = true := by decide +kernel
set_option maxRecDepth 20000 in
theorem ax_strw : ∀ q ∈ ax_strs, Cond.stringRef q.1 q.2.1 q.2.2 ∈ lw_tbl := by
  unfold ax_strs
  refine List.forall_mem_cons.mpr ⟨ax_chunk_in (c := 4) (List.mem_of_getElem? (i := 4) (by decide +kernel)), ?_⟩
  refine List.forall_mem_cons.mpr ⟨ax_chunk_in (c := 4) (List.mem_of_getElem? (i := 13) (by decide +kernel)), ?_⟩
  refine List.forall_mem_cons.mpr ⟨ax_chunk_in (c := 3) (List.mem_of_getElem? (i := 110) (by decide +kernel)), ?_⟩
  refine List.forall_mem_cons.mpr ⟨ax_chunk_in (c := 5) (List.mem_of_getElem? (i := 13) (by decide +kernel)), ?_⟩
  refine List.forall_mem_cons.mpr ⟨ax_chunk_in (c := 5) (List.mem_of_getElem? (i := 32) (by decide +kernel)), ?_⟩
  refine List.forall_mem_cons.mpr ⟨ax_chunk_in (c := 3) (List.mem_of_getElem? (i := 11) (by decide +kernel)), ?_⟩
  refine List.forall_mem_cons.mpr ⟨ax_chunk_in (c := 3) (List.mem_of_getElem? (i := 175) (by decide +kernel)), ?_⟩
  refine List.forall_mem_cons.mpr ⟨ax_chunk_in (c := 3) (List.mem_of_getElem? (i := 31) (by decide +kernel)), ?_⟩
  refine List.forall_mem_cons.mpr ⟨ax_chunk_in (c := 2) (List.mem_of_getElem? (i := 137) (by decide +kernel)), ?_⟩
  refine List.forall_mem_cons.mpr ⟨ax_chunk_in (c := 3) (List.mem_of_getElem? (i := 61) (by decide +kernel)), ?_⟩
  refine List.forall_mem_cons.mpr ⟨ax_chunk_in (c := 4) (List.mem_of_getElem? (i := 17) (by decide +kernel)), ?_⟩
  refine List.forall_mem_cons.mpr ⟨ax_chunk_in (c := 4) (List.mem_of_getElem? (i := 124) (by decide +kernel)), ?_⟩
  refine List.forall_mem_cons.mpr ⟨ax_chunk_in (c := 4) (List.mem_of_getElem? (i := 125) (by decide +kernel)), ?_⟩
  refine List.forall_mem_cons.mpr ⟨ax_chunk_in (c := 4) (List.mem_of_getElem? (i := 211) (by decide +kernel)), ?_⟩
  refine List.forall_mem_cons.mpr ⟨ax_chunk_in (c := 4) (List.mem_of_getElem? (i := 225) (by decide +kernel)), ?_⟩
  refine List.forall_mem_cons.mpr ⟨ax_chunk_in (c := 4) (List.mem_of_getElem? (i := 226) (by decide +kernel)), ?_⟩
  refine List.forall_mem_cons.mpr ⟨ax_chunk_in (c := 4) (List.mem_of_getElem? (i := 227) (by decide +kernel)), ?_⟩
  exact fun _ h => absurd h List.not_mem_nil
set_option maxRecDepth 100000 in
theorem ax_ncp : ax_ncs.all (fun q => ax_fl_in (.not (.castable q.1 q.2))) = true := by decide +kernel
set_option maxRecDepth 100000 in
theorem ax_prs : ax_fl_in (.eq (.static "java/lang/String" "COMPACT_STRINGS" "Z") (.int 1)) = true ∧ ax_fl_in (.arrayOf (.static "PseudoBoolean$ModelSet" "BITS_WITH_VARIABLE" "[J") .long) = true ∧ ax_fl_in (.eq (.length (.static "PseudoBoolean$ModelSet" "BITS_WITH_VARIABLE" "[J")) (.int 6)) = true ∧ ax_fl_in (.isRef (.static Bundle.tN "UNASSIGNED_STACK" Bundle.steD)) = true ∧ ax_fl_in (.isRef (.static Bundle.tN "SUPPRESSED_SENTINEL" Bundle.listD)) = true := by decide +kernel
def ax_bitn : List Int64 := [-6148914691236517206, -3689348814741910324, -1085102592571150096, -71777214294589696, -281470681808896, -4294967296]
set_option maxRecDepth 100000 in
theorem ax_prb : ∀ j, j < 6 → ax_fl_in (.eq (.elem (.static "PseudoBoolean$ModelSet" "BITS_WITH_VARIABLE" "[J") (.int (Int32.ofNat j))) (.long (ax_bitn.getD j 0))) = true := by decide +kernel
theorem ax_lst : Cond.laysStatic "java/lang/String" "COMPACT_STRINGS" "Z" ∈ lw_tbl ∧ Cond.laysStatic "PseudoBoolean$ModelSet" "BITS_WITH_VARIABLE" "[J" ∈ lw_tbl ∧ Cond.laysStatic Bundle.tN "UNASSIGNED_STACK" Bundle.steD ∈ lw_tbl ∧ Cond.laysStatic Bundle.tN "SUPPRESSED_SENTINEL" Bundle.listD ∈ lw_tbl ∧ Cond.initialized "java/lang/String" ∈ lw_tbl ∧ Cond.initialized "PseudoBoolean$ModelSet" ∈ lw_tbl ∧ Cond.initialized Bundle.tN ∈ lw_tbl := ⟨ax_chunk_in (c := 1) (List.mem_of_getElem? (i := 99) (by decide +kernel)), ax_chunk_in (c := 3) (List.mem_of_getElem? (i := 161) (by decide +kernel)), ax_chunk_in (c := 2) (List.mem_of_getElem? (i := 121) (by decide +kernel)), ax_chunk_in (c := 2) (List.mem_of_getElem? (i := 123) (by decide +kernel)), ax_chunk_in (c := 1) (List.mem_of_getElem? (i := 6) (by decide +kernel)), ax_chunk_in (c := 1) (List.mem_of_getElem? (i := 14) (by decide +kernel)), ax_chunk_in (c := 1) (List.mem_of_getElem? (i := 22) (by decide +kernel))⟩
set_option maxRecDepth 100000 in
theorem ax_jp0 : ax_fl_in (.exactly (.string "PseudoBooleanLaw" 42) "java/lang/String") = true ∧ ax_fl_in (.eq (.field (.string "PseudoBooleanLaw" 42) "java/lang/String" "coder" "B") (.int 0)) = true ∧ ax_fl_in (.arrayOf (.field (.string "PseudoBooleanLaw" 42) "java/lang/String" "value" "[B") .byte) = true ∧ ax_fl_in (.eq (.length (.field (.string "PseudoBooleanLaw" 42) "java/lang/String" "value" "[B")) (.int 0)) = true := by decide +kernel
set_option maxRecDepth 100000 in
theorem ax_jq0 : ∀ j, j < 0 → ax_fl_in (.eq (.elem (.field (.string "PseudoBooleanLaw" 42) "java/lang/String" "value" "[B") (.int (Int32.ofNat j))) (.int (([] : List Int32).getD j 0))) = true := by decide +kernel
set_option maxRecDepth 100000 in
theorem ax_jp1 : ax_fl_in (.exactly (.string "PseudoBooleanLaw" 54) "java/lang/String") = true ∧ ax_fl_in (.eq (.field (.string "PseudoBooleanLaw" 54) "java/lang/String" "coder" "B") (.int 0)) = true ∧ ax_fl_in (.arrayOf (.field (.string "PseudoBooleanLaw" 54) "java/lang/String" "value" "[B") .byte) = true ∧ ax_fl_in (.eq (.length (.field (.string "PseudoBooleanLaw" 54) "java/lang/String" "value" "[B")) (.int 1)) = true := by decide +kernel
set_option maxRecDepth 100000 in
theorem ax_jq1 : ∀ j, j < 1 → ax_fl_in (.eq (.elem (.field (.string "PseudoBooleanLaw" 54) "java/lang/String" "value" "[B") (.int (Int32.ofNat j))) (.int (([45] : List Int32).getD j 0))) = true := by decide +kernel
set_option maxRecDepth 100000 in
theorem ax_jp2 : ax_fl_in (.exactly (.string "PseudoBooleanLaw" 56) "java/lang/String") = true ∧ ax_fl_in (.eq (.field (.string "PseudoBooleanLaw" 56) "java/lang/String" "coder" "B") (.int 0)) = true ∧ ax_fl_in (.arrayOf (.field (.string "PseudoBooleanLaw" 56) "java/lang/String" "value" "[B") .byte) = true ∧ ax_fl_in (.eq (.length (.field (.string "PseudoBooleanLaw" 56) "java/lang/String" "value" "[B")) (.int 1)) = true := by decide +kernel
set_option maxRecDepth 100000 in
theorem ax_jq2 : ∀ j, j < 1 → ax_fl_in (.eq (.elem (.field (.string "PseudoBooleanLaw" 56) "java/lang/String" "value" "[B") (.int (Int32.ofNat j))) (.int (([43] : List Int32).getD j 0))) = true := by decide +kernel
set_option maxRecDepth 100000 in
theorem ax_jp3 : ax_fl_in (.exactly (.string "PseudoBooleanLaw" 69) "java/lang/String") = true ∧ ax_fl_in (.eq (.field (.string "PseudoBooleanLaw" 69) "java/lang/String" "coder" "B") (.int 0)) = true ∧ ax_fl_in (.arrayOf (.field (.string "PseudoBooleanLaw" 69) "java/lang/String" "value" "[B") .byte) = true ∧ ax_fl_in (.eq (.length (.field (.string "PseudoBooleanLaw" 69) "java/lang/String" "value" "[B")) (.int 1)) = true := by decide +kernel
set_option maxRecDepth 100000 in
theorem ax_jq3 : ∀ j, j < 1 → ax_fl_in (.eq (.elem (.field (.string "PseudoBooleanLaw" 69) "java/lang/String" "value" "[B") (.int (Int32.ofNat j))) (.int (([126] : List Int32).getD j 0))) = true := by decide +kernel
set_option maxRecDepth 100000 in
theorem ax_jp4 : ax_fl_in (.exactly (.string "PseudoBooleanLaw" 74) "java/lang/String") = true ∧ ax_fl_in (.eq (.field (.string "PseudoBooleanLaw" 74) "java/lang/String" "coder" "B") (.int 0)) = true ∧ ax_fl_in (.arrayOf (.field (.string "PseudoBooleanLaw" 74) "java/lang/String" "value" "[B") .byte) = true ∧ ax_fl_in (.eq (.length (.field (.string "PseudoBooleanLaw" 74) "java/lang/String" "value" "[B")) (.int 4)) = true := by decide +kernel
set_option maxRecDepth 100000 in
theorem ax_jq4 : ∀ j, j < 4 → ax_fl_in (.eq (.elem (.field (.string "PseudoBooleanLaw" 74) "java/lang/String" "value" "[B") (.int (Int32.ofNat j))) (.int (([32, 62, 61, 32] : List Int32).getD j 0))) = true := by decide +kernel
set_option maxRecDepth 100000 in
theorem ax_jp5 : ax_fl_in (.exactly (.string "PseudoBooleanLaw" 76) "java/lang/String") = true ∧ ax_fl_in (.eq (.field (.string "PseudoBooleanLaw" 76) "java/lang/String" "coder" "B") (.int 0)) = true ∧ ax_fl_in (.arrayOf (.field (.string "PseudoBooleanLaw" 76) "java/lang/String" "value" "[B") .byte) = true ∧ ax_fl_in (.eq (.length (.field (.string "PseudoBooleanLaw" 76) "java/lang/String" "value" "[B")) (.int 4)) = true := by decide +kernel
set_option maxRecDepth 100000 in
theorem ax_jq5 : ∀ j, j < 4 → ax_fl_in (.eq (.elem (.field (.string "PseudoBooleanLaw" 76) "java/lang/String" "value" "[B") (.int (Int32.ofNat j))) (.int (([32, 60, 61, 32] : List Int32).getD j 0))) = true := by decide +kernel
set_option maxRecDepth 100000 in
theorem ax_jp9 : ax_fl_in (.arrayOf (.static "java/lang/Integer" "DigitOnes" "[B") .byte) = true ∧ ax_fl_in (.eq (.length (.static "java/lang/Integer" "DigitOnes" "[B")) (.int 100)) = true ∧ ax_fl_in (.isRef (.static ax_jn "SIOOBE_FORMATTER" "Ljava/util/function/BiFunction;")) = true := by decide +kernel
set_option maxRecDepth 100000 in
theorem ax_jd1 : ∀ j, j < 100 → (Cond.eq (.elem (.static "java/lang/Integer" "DigitOnes" "[B") (.int (Int32.ofNat j))) (.int (ax_dg1.getD j 0))) ∈ flatC ax_given := va_run (f := fun j => Cond.eq (.elem (.static "java/lang/Integer" "DigitOnes" "[B") (.int (Int32.ofNat j))) (.int (ax_dg1.getD j 0))) (p := 23) (by decide +kernel)
theorem ax_jl0 : Cond.laysStatic "java/lang/Integer" "DigitOnes" "[B" ∈ lw_tbl := ax_chunk_in (c := 4) (List.mem_of_getElem? (i := 140) (by decide +kernel))
theorem ax_jl1 : Cond.laysStatic ax_jn "SIOOBE_FORMATTER" "Ljava/util/function/BiFunction;" ∈ lw_tbl := ax_chunk_in (c := 3) (List.mem_of_getElem? (i := 217) (by decide +kernel))
theorem ax_jl2 : Cond.initialized "java/lang/Integer" ∈ lw_tbl := ax_chunk_in (c := 1) (List.mem_of_getElem? (i := 21) (by decide +kernel))
theorem ax_jl3 : Cond.initialized ax_jn ∈ lw_tbl := ax_chunk_in (c := 1) (List.mem_of_getElem? (i := 18) (by decide +kernel))
theorem ax_jl4 : Cond.stringRef "PseudoBooleanLaw" 42 "" ∈ lw_tbl := ax_chunk_in (c := 4) (List.mem_of_getElem? (i := 17) (by decide +kernel))
theorem ax_jl5 : Cond.stringRef "PseudoBooleanLaw" 54 "-" ∈ lw_tbl := ax_chunk_in (c := 4) (List.mem_of_getElem? (i := 124) (by decide +kernel))
theorem ax_jl6 : Cond.stringRef "PseudoBooleanLaw" 56 "+" ∈ lw_tbl := ax_chunk_in (c := 4) (List.mem_of_getElem? (i := 125) (by decide +kernel))
theorem ax_jl7 : Cond.stringRef "PseudoBooleanLaw" 69 "~" ∈ lw_tbl := ax_chunk_in (c := 4) (List.mem_of_getElem? (i := 211) (by decide +kernel))
theorem ax_jl8 : Cond.stringRef "PseudoBooleanLaw" 74 " >= " ∈ lw_tbl := ax_chunk_in (c := 4) (List.mem_of_getElem? (i := 225) (by decide +kernel))
theorem ax_jl9 : Cond.stringRef "PseudoBooleanLaw" 76 " <= " ∈ lw_tbl := ax_chunk_in (c := 4) (List.mem_of_getElem? (i := 226) (by decide +kernel))
theorem ax_jsof {args : Array Value} {s : State} {tm : Term} {n : Nat} {bs : List Int32} {A : Nat → Prop} (hn : n < 2 ^ 31) (hex : (Cond.exactly tm "java/lang/String").before args s = true) (hco : (Cond.eq (.field tm "java/lang/String" "coder" "B") (.int 0)).before args s = true) (har : (Cond.arrayOf (.field tm "java/lang/String" "value" "[B") .byte).before args s = true) (hle : (Cond.eq (.length (.field tm "java/lang/String" "value" "[B")) (.int (Int32.ofNat n))).before args s = true)
    (hel : ∀ j : Nat, j < n → (Cond.eq (.elem (.field tm "java/lang/String" "value" "[B") (.int (Int32.ofNat j))) (.int (bs.getD j 0))).before args s = true) (hA : ∀ a : Nat, a < s.heap.size → ¬ A a) : ∃ a t : Nat, tm.eval args s none [] s = some (.ref a) ∧ ax_js a t n bs A s s.heap := by
  obtain ⟨a, c, cA, kA, q1, q2, q3, q4, q5, q6, -⟩ := Cond.exactly_spec (args := args) (first := s) (o := none) (s := s) (idx := []) (t := tm) (cls := "java/lang/String") hex
  obtain ⟨t, ht, hT⟩ := va_Tof (f := fun j => .int (bs.getD j 0)) (A := A) hn har (va_eqt hle) (fun j hj => va_eqt (hel j hj)) hA
  exact ⟨a, t, q1, va_Oof hex q1 hA, vk_OFof q1 (va_eqt hco) hA, vk_OFof q1 ht hA, hT⟩
set_option maxHeartbeats 4000000 in
theorem ax_begin {s : State} {b L : Nat} {xs : Nat → Int32} (hts : ∀ w ∈ lw_tbl, w.before #[Value.ref b] s = true) (hX : va_X b L xs s s.heap) (hb : b < s.heap.size) (hg : ax_given.before #[Value.ref b] s = true) : ∃ (D : va_G) (o : Nat → Nat), ax_T ax_ns (ax_r L xs) D s.heap.size o s ∧ o 1 = b ∧ ∀ k, 15 ≤ k → o k = 0 := by
  have htb := ax_tbl hts
  obtain ⟨c0, i0, k0⟩ := ax_kn0 htb
  obtain ⟨c1, i1, k1⟩ := ax_kn1 htb
  obtain ⟨c2, i2, k2⟩ := ax_kn2 htb
  obtain ⟨c3, i3, k3⟩ := ax_kn3 htb
  obtain ⟨c4, i4, k4⟩ := ax_kn4 htb
  obtain ⟨c5, i5, k5⟩ := ax_kn5 htb
  obtain ⟨c6, i6, k6⟩ := ax_kn6 htb
  obtain ⟨c7, i7, k7⟩ := ax_kn7 htb
  obtain ⟨c8, i8, k8⟩ := ax_kn8 htb
  obtain ⟨c9, i9, k9⟩ := ax_kn9 htb
  obtain ⟨c10, i10, k10⟩ := ax_kn10 htb
  obtain ⟨c11, i11, k11⟩ := ax_kn11 htb
  obtain ⟨a0, q0⟩ := ax_ka0 htb
  obtain ⟨a1, q1⟩ := ax_ka1 htb
  obtain ⟨a2, q2⟩ := ax_ka2 htb
  obtain ⟨a3, q3⟩ := ax_ka3 htb
  obtain ⟨a4, q4⟩ := ax_ka4 hts
  obtain ⟨a5, q5⟩ := ax_ka5 hts
  obtain ⟨a6, q6⟩ := ax_ka6 hts
  have hA : ∀ a : Nat, a < s.heap.size → ¬ s.heap.size ≤ a := fun a h => Nat.not_le.mpr h
  obtain ⟨tb, htb1, htb2⟩ := va_Tof (f := fun j => .long (ax_bitn.getD j 0)) (A := fun q => s.heap.size ≤ q) (N := 6) (by decide) (ax_prem hg ax_prs.2.1) (va_eqt (ax_prem hg ax_prs.2.2.1)) (fun j hj => va_eqtl (ax_prem hg (ax_prb j hj))) hA
  obtain ⟨s0, t0, u0, v0⟩ := ax_jsof (bs := []) (n := 0) (A := fun q => s.heap.size ≤ q) (by decide) (ax_prem hg ax_jp0.1) (ax_prem hg ax_jp0.2.1) (ax_prem hg ax_jp0.2.2.1) (ax_prem hg ax_jp0.2.2.2) (fun j hj => ax_prem hg (ax_jq0 j hj)) hA
  obtain ⟨s1, t1, u1, v1⟩ := ax_jsof (bs := [45]) (n := 1) (A := fun q => s.heap.size ≤ q) (by decide) (ax_prem hg ax_jp1.1) (ax_prem hg ax_jp1.2.1) (ax_prem hg ax_jp1.2.2.1) (ax_prem hg ax_jp1.2.2.2) (fun j hj => ax_prem hg (ax_jq1 j hj)) hA
  obtain ⟨s2, t2, u2, v2⟩ := ax_jsof (bs := [43]) (n := 1) (A := fun q => s.heap.size ≤ q) (by decide) (ax_prem hg ax_jp2.1) (ax_prem hg ax_jp2.2.1) (ax_prem hg ax_jp2.2.2.1) (ax_prem hg ax_jp2.2.2.2) (fun j hj => ax_prem hg (ax_jq2 j hj)) hA
  obtain ⟨s3, t3, u3, v3⟩ := ax_jsof (bs := [126]) (n := 1) (A := fun q => s.heap.size ≤ q) (by decide) (ax_prem hg ax_jp3.1) (ax_prem hg ax_jp3.2.1) (ax_prem hg ax_jp3.2.2.1) (ax_prem hg ax_jp3.2.2.2) (fun j hj => ax_prem hg (ax_jq3 j hj)) hA
  obtain ⟨s4, t4, u4, v4⟩ := ax_jsof (bs := [32, 62, 61, 32]) (n := 4) (A := fun q => s.heap.size ≤ q) (by decide) (ax_prem hg ax_jp4.1) (ax_prem hg ax_jp4.2.1) (ax_prem hg ax_jp4.2.2.1) (ax_prem hg ax_jp4.2.2.2) (fun j hj => ax_prem hg (ax_jq4 j hj)) hA
  obtain ⟨s5, t5, u5, v5⟩ := ax_jsof (bs := [32, 60, 61, 32]) (n := 4) (A := fun q => s.heap.size ≤ q) (by decide) (ax_prem hg ax_jp5.1) (ax_prem hg ax_jp5.2.1) (ax_prem hg ax_jp5.2.2.1) (ax_prem hg ax_jp5.2.2.2) (fun j hj => ax_prem hg (ax_jq5 j hj)) hA
  obtain ⟨t9, u9, v9⟩ := va_Tof (f := fun j => .int (ax_dg1.getD j 0)) (A := fun q => s.heap.size ≤ q) (N := 100) (by decide) (ax_prem hg ax_jp9.1) (va_eqt (ax_prem hg ax_jp9.2.1)) (fun j hj => va_eqt (flat_of_before _ hg _ (ax_jd1 j hj))) hA
  refine ⟨(fun k => match k with | 0 => c0 | 1 => c1 | 2 => c2 | 3 => c3 | 4 => c4 | 5 => c5 | 6 => c6 | 7 => c7 | 8 => c8 | 9 => c9 | 10 => c10 | 11 => c11 | 100 => a0 | 101 => a1 | 102 => a2 | 103 => a3 | 104 => a4 | 105 => a5 | 106 => a6 | _ => 0, fun k => match k with | 0 => i0 | 1 => i1 | 2 => i2 | 3 => i3 | 4 => i4 | 5 => i5 | 6 => i6 | 7 => i7 | 8 => i8 | 9 => i9 | 10 => i10 | 11 => i11 | 100 => (fun j => j) | 101 => (fun j => j) | 102 => (fun j => j) | 103 => (fun j => j) | 104 => (fun j => j) | 105 => (fun j => j) | 106 => (fun j => j) | _ => (fun j => j)), fun k => match k with | 0 => tb | 1 => b | 2 => s0 | 3 => t0 | 4 => s1 | 5 => t1 | 6 => s2 | 7 => t2 | 8 => s3 | 9 => t3 | 10 => s4 | 11 => t4 | 12 => s5 | 13 => t5 | 14 => t9 | _ => 0, ⟨?_, ?_, ?_, ?_, ?_, ?_, ?_, ?_, ?_, Nat.le_refl _, ⟨List.forall_mem_cons.mpr ⟨⟨v0, vk_R.of (hts _ ax_jl4) u0⟩, List.forall_mem_cons.mpr ⟨⟨v1, vk_R.of (hts _ ax_jl5) u1⟩, List.forall_mem_cons.mpr ⟨⟨v2, vk_R.of (hts _ ax_jl6) u2⟩, List.forall_mem_cons.mpr ⟨⟨v3, vk_R.of (hts _ ax_jl7) u3⟩, List.forall_mem_cons.mpr ⟨⟨v4, vk_R.of (hts _ ax_jl8) u4⟩, List.forall_mem_cons.mpr ⟨⟨v5, vk_R.of (hts _ ax_jl9) u5⟩, fun _ h => absurd h List.not_mem_nil⟩⟩⟩⟩⟩⟩, ⟨va_Zof (hts _ ax_jl0) (hts _ ax_jl2) u9 hA, v9⟩, vx_Zqof (hts _ ax_jl1) (hts _ ax_jl3) (ax_prem hg ax_jp9.2.2) hA⟩⟩, rfl, fun k hk => (by match k, hk with | _ + 15, _ => rfl)⟩
  · intro ci q hq
    match ci, hq with
    | 0, hq => cases hq; exact k0
    | 1, hq => cases hq; exact k1
    | 2, hq => cases hq; exact k2
    | 3, hq => cases hq; exact k3
    | 4, hq => cases hq; exact k4
    | 5, hq => cases hq; exact k5
    | 6, hq => cases hq; exact k6
    | 7, hq => cases hq; exact k7
    | 8, hq => cases hq; exact k8
    | 9, hq => cases hq; exact k9
    | 10, hq => cases hq; exact k10
    | 11, hq => cases hq; exact k11
    | ci + 12, hq => simp [ax_cls] at hq
  · intro t ty ht
    match t, ht with
    | 0, ht => cases ht; exact ⟨q0.1, q0.2, fun _ => rfl⟩
    | 1, ht => cases ht; exact ⟨q1.1, q1.2, fun _ => rfl⟩
    | 2, ht => cases ht; exact ⟨q2.1, q2.2, fun _ => rfl⟩
    | 3, ht => cases ht; exact ⟨q3.1, q3.2, fun _ => rfl⟩
    | 4, ht => cases ht; exact ⟨q4.1, q4.2, fun _ => rfl⟩
    | 5, ht => cases ht; exact ⟨q5.1, q5.2, fun _ => rfl⟩
    | 6, ht => cases ht; exact ⟨q6.1, q6.2, fun _ => rfl⟩
    | t + 7, ht => simp [ax_tys] at ht
  · intro w hw
    have h1 := List.all_eq_true.mp ax_nws.1 w hw
    exact ⟨h1, ax_nwo h1 (hts w (ax_nws.2 w hw))⟩
  · intro q hq
    obtain ⟨a, -, -, -, ha, -⟩ := Cond.exactly_spec (ax_prem hg (List.all_eq_true.mp ax_strp q hq))
    exact ⟨a, vk_R.of (hts _ (ax_strw q hq)) ha⟩
  · exact vx_Zqof (hts _ ax_lst.2.2.1) (hts _ ax_lst.2.2.2.2.2.2) (ax_prem hg ax_prs.2.2.2.1) hA
  · exact vx_Zqof (hts _ ax_lst.2.2.2.1) (hts _ ax_lst.2.2.2.2.2.2) (ax_prem hg ax_prs.2.2.2.2) hA
  · intro q hq
    simp only [ax_stat, List.mem_cons, List.not_mem_nil, or_false] at hq
    rcases hq with rfl | rfl
    · exact ⟨.ref tb, by simp [ax_v, ax_ad], va_Zof (hts _ ax_lst.2.1) (hts _ ax_lst.2.2.2.2.2.1) htb1 hA⟩
    · exact ⟨.int 1, rfl, va_Zof (hts _ ax_lst.1) (hts _ ax_lst.2.2.2.2.1) (va_eqt (ax_prem hg ax_prs.1)) hA⟩
  · intro k q hq
    match k, hq with
    | 0, hq =>
      cases hq
      obtain ⟨cell, f1, f2, f3, f4, f5, f6, f7⟩ := htb2
      have f8 : tb < s.heap.size := (Array.getElem?_eq_some_iff.mp f1).1
      refine ⟨⟨f8, by decide⟩, 1, .long, cell, rfl, rfl, f1, f2, f3, f4, by rw [f5]; rfl, fun j x hj => ?_⟩
      have hj6 : j < 6 := (List.getElem?_eq_some_iff.mp hj).1
      refine ⟨_, f6 j hj6, ?_⟩
      rcases (by omega : j = 0 ∨ j = 1 ∨ j = 2 ∨ j = 3 ∨ j = 4 ∨ j = 5) with rfl | rfl | rfl | rfl | rfl | rfl <;> (cases hj; rfl)
    | 1, hq =>
      cases hq
      obtain ⟨scr, f1, f2, f3, f4, f5⟩ := hX
      refine ⟨⟨hb, by decide⟩, 0, .int, scr, rfl, rfl, f1, f2, f3, by simp [f4], by simp [f4], fun j x hj => ?_⟩
      have hj2 : ((List.range L).map (fun j => Value.int (xs j)))[j]? = some x := hj
      rw [List.getElem?_map] at hj2
      have hjL : j < L := by
        rcases Nat.lt_or_ge j L with h | h
        · exact h
        · rw [List.getElem?_eq_none (by simpa using h)] at hj2; cases hj2
      rw [List.getElem?_range hjL] at hj2
      cases hj2
      exact ⟨_, f5 j hjL, rfl⟩
    | k + 2, hq => simp [ax_r] at hq
  · intro q hq
    exact va_Nc.of (ax_prem hg (List.all_eq_true.mp ax_ncp q hq))
