/-! METHODS OF THE REFERENCE on a fresh object, for any number -/
section AXR1
variable {l : Launch} {d : Nat} {r : ax_H} {X : ax_PX} {i pc : Nat} {lv : List (Nat × Value)} {h : ax_H} {bc bs : Nat} {Q : ax_Q}
theorem ax_retI {ei : (Nat × Nat × Nat) × Value × List Nat} {ty : FieldType} {x : Value} (hl : ax_look i pc = some (.ireturn, ei)) (hty : (ax_mm i).2.2.2.1 = some ty) (hf : ty = .int ∨ ax_fit ty x = true) (hx : ax_isI x = true) (hQ : Q (.inl (some x)) h) : AR ax_ns l (ax_mm i) d r (ax_ret ax_ns (ax_mm i) Q) X pc lv [x] h bc bs := by
  have hd := (ax_look_ok hl).1
  refine AR.at ?_
  rcases hf with rfl | hf
  · exact Or.inl ⟨_, rfl, hx, hd, hty, hQ⟩
  · exact Or.inr (Or.inl ⟨_, _, rfl, hf, hx, hd, hty, hQ⟩)
theorem ax_ofAM (hl : l.stackTraces = false) (hi : ax_has i = true) {as : List Value} {nL : Nat} (hn : (ax_mm i).2.2.1 = nL) (hlen : (lg_sl as).length ≤ nL) {mc ms : Nat} (K : AR ax_ns l (ax_mm i) d r (ax_ret ax_ns (ax_mm i) Q) (fun _ _ E h _ _ => (ax_mm i).2.2.2.2 = [] ∧ Q (.inr E) h) 0 (lv_args 0 as) [] h mc ms) : AM ax_ns l (ax_mm i) d r mc ms as h Q := by
  subst hn
  exact AM.of (ax_mfacts hi).2.2.2.2.2.2 hl hlen K
/-- what isTrue answers -/
def ax_tv (m L : Int32) : Int32 := if ((m >>> ((L / Int32.ofInt 2) &&& 31)) &&& Int32.ofInt 1) = Int32.ofInt 1 - (L - L / Int32.ofInt 2 * Int32.ofInt 2) then Int32.ofInt 1 else Int32.ofInt 0
theorem ax_isTrue (hl : l.stackTraces = false) (m L : Int32) : AM ax_ns l (ax_mm 199) d r 0 0 [.int m, .int L] h (ax_QR (.inl (some (.int (ax_tv m L)))) h) := by
  have hn : (ax_mm 199).2.2.1 = 2 := by decide +kernel
  have ht : (ax_mm 199).2.2.2.1 = some .boolean := by decide +kernel
  refine ax_ofAM (as := [.int m, .int L]) hl (by decide +kernel) hn (Nat.le_refl 2) ?_
  refine AR.s (.iload_n 0, (0, 0, 0), .null, []) hn (by decide +kernel) rfl ?_
  refine AR.s (.iload_n 1, (0, 0, 0), .null, []) hn (by decide +kernel) rfl ?_
  refine AR.s (.iconst 2, (0, 0, 0), .null, []) hn (by decide +kernel) rfl ?_
  refine AR.s (.idiv, (0, 0, 0), .null, []) hn (by decide +kernel) rfl ?_
  refine AR.s (.ishr, (0, 0, 0), .null, []) hn (by decide +kernel) rfl ?_
  refine AR.s (.iconst 1, (0, 0, 0), .null, []) hn (by decide +kernel) rfl ?_
  refine AR.s (.iand, (0, 0, 0), .null, []) hn (by decide +kernel) rfl ?_
  refine AR.s (.iconst 1, (0, 0, 0), .null, []) hn (by decide +kernel) rfl ?_
  refine AR.s (.iload_n 1, (0, 0, 0), .null, []) hn (by decide +kernel) rfl ?_
  refine AR.s (.iconst 2, (0, 0, 0), .null, []) hn (by decide +kernel) rfl ?_
  refine AR.s (.irem, (0, 0, 0), .null, []) hn (by decide +kernel) rfl ?_
  refine AR.s (.isub, (0, 0, 0), .null, []) hn (by decide +kernel) rfl ?_
  refine AR.icmp_ne (off := 7) (tgt := 19) (ax_look_ok (e := (.if_icmp .ne 7, (0, 0, 0), .null, [])) (by decide +kernel)).1 (by decide) (fun hne => ?_) (fun heq => ?_)
  · refine AR.s (.iconst 0, (0, 0, 0), .null, []) hn (by decide +kernel) rfl ?_
    refine ax_retI (ei := ((0, 0, 0), .null, [])) (by decide +kernel) ht (Or.inr rfl) rfl ⟨?_, rfl⟩
    unfold ax_tv
    rw [if_neg hne]
  · refine AR.s (.iconst 1, (0, 0, 0), .null, []) hn (by decide +kernel) rfl ?_
    refine AR.s (.goto 4, (0, 0, 0), .null, []) hn (by decide +kernel) rfl ?_
    refine ax_retI (ei := ((0, 0, 0), .null, [])) (by decide +kernel) ht (Or.inr rfl) rfl ⟨?_, rfl⟩
    unfold ax_tv
    rw [if_pos heq]

end AXR1
