/-! WHAT THE TABLES OF THE CODE ARE MADE OF -/
abbrev ax_H : Type := List (Nat × List Value)
abbrev ax_M : Type := MethodName × ByteArray × Nat × Option FieldType × List (Nat × Nat × Nat × Nat)
def ax_hd (k : ax_M) : Cond := match k.2.2.2.2 with
  | [] => .code k.1 k.2.1 k.2.2.1 k.2.2.2.1
  | hh => .codeWith k.1 k.2.1 k.2.2.1 k.2.2.2.1 hh
def ax_tb : List Cond := lw_tbl.filter goodWord
theorem ax_mem {w : Cond} (i : Nat) (h : lw_tbl[i]? = some w) (g : goodWord w = true) : w ∈ ax_tb := List.mem_filter.mpr ⟨List.mem_of_getElem? h, g⟩
theorem ax_good : GoodIn ax_tb ax_tb := fun w h => ⟨h, good_of_word (List.mem_filter.mp h).2⟩
abbrev ax_Cl : Type := String × u_T × Nat × (Nat → FieldType)
def ax_cls : List ax_Cl := [(RX0, TX0, 2, tyX0), (RX1, TX1, 3, tyX1), (RX2, TX2, 2, tyX2), (RX3, TX3, 2, tyX3), (RX4, TX4, 2, tyX4), (RX5, TX5, 1, tyX5), (RX6, TX6, 9, tyX6), (RX7, TX7, 2, tyX7), (RX8, TX8, 18, tyX8), (RX0, TX0, 2, tyX0), (RJ4, TJ4, 4, tyJ4), (RJ0, TJ0, 4, tyJ0)]
def ax_tys : List FieldType := [.int, .long, .boolean, .byte, .object RX1, .object RX5, .object RX3]
/-- static fields that nobody writes -/
def ax_stat : List (String × String × String × Value) := [("PseudoBoolean$ModelSet", "BITS_WITH_VARIABLE", "[J", .ref 1000000000), ("java/lang/String", "COMPACT_STRINGS", "Z", .int 1)]
/-- words that hold but aren't kept by themselves; the texts -/
abbrev ax_NS : Type := List Cond × List (String × Nat × String)
