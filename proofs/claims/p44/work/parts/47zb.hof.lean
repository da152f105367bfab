/-! BY HAND, 4: of, terms -/
theorem hn_136 : (ax_mm 136).2.2.1 = 3 := by decide +kernel
theorem hr_136 : (ax_mm 136).2.2.2.1 = some .long := by decide +kernel
theorem hk_136_0 : ax_look 136 0 = some (.aload_n 0, (0, 0, 0), .null, []) := by decide +kernel
theorem hk_136_1 : ax_look 136 1 = some (.getfield 9, (9, 2, 0), .null, [999999]) := by decide +kernel
theorem hk_136_4 : ax_look 136 4 = some (.bipush 24, (0, 0, 0), .null, []) := by decide +kernel
theorem hk_136_6 : ax_look 136 6 = some (.iload_n 1, (0, 0, 0), .null, []) := by decide +kernel
theorem hk_136_7 : ax_look 136 7 = some (.imul, (0, 0, 0), .null, []) := by decide +kernel
theorem hk_136_8 : ax_look 136 8 = some (.iload_n 2, (0, 0, 0), .null, []) := by decide +kernel
theorem hk_136_9 : ax_look 136 9 = some (.iadd, (0, 0, 0), .null, []) := by decide +kernel
theorem hk_136_10 : ax_look 136 10 = some (.laload, (0, 0, 0), .null, []) := by decide +kernel
theorem hk_136_11 : ax_look 136 11 = some (.lreturn, (0, 0, 0), .null, []) := by decide +kernel
theorem hn_166 : (ax_mm 166).2.2.1 = 4 := by decide +kernel
theorem hr_166 : (ax_mm 166).2.2.2.1 = some .int := by decide +kernel
theorem hk_166_0 : ax_look 166 0 = some (.iconst 0, (0, 0, 0), .null, []) := by decide +kernel
theorem hk_166_1 : ax_look 166 1 = some (.istore_n 2, (0, 0, 0), .null, []) := by decide +kernel
theorem hk_166_2 : ax_look 166 2 = some (.iconst 0, (0, 0, 0), .null, []) := by decide +kernel
theorem hk_166_3 : ax_look 166 3 = some (.istore_n 3, (0, 0, 0), .null, []) := by decide +kernel
theorem hk_166_4 : ax_look 166 4 = some (.iload_n 3, (0, 0, 0), .null, []) := by decide +kernel
theorem hk_166_5 : ax_look 166 5 = some (.bipush 24, (0, 0, 0), .null, []) := by decide +kernel
theorem hk_166_7 : ax_look 166 7 = some (.if_icmp .ge 28, (0, 0, 0), .null, []) := by decide +kernel
theorem hk_166_10 : ax_look 166 10 = some (.iload_n 2, (0, 0, 0), .null, []) := by decide +kernel
theorem hk_166_11 : ax_look 166 11 = some (.aload_n 0, (0, 0, 0), .null, []) := by decide +kernel
theorem hk_166_12 : ax_look 166 12 = some (.iload_n 1, (0, 0, 0), .null, []) := by decide +kernel
theorem hk_166_13 : ax_look 166 13 = some (.iload_n 3, (0, 0, 0), .null, []) := by decide +kernel
theorem hk_166_14 : ax_look 166 14 = some (.invokevirtual 71, (136, 2, 9), .null, [999999, 999999]) := by decide +kernel
theorem hk_166_17 : ax_look 166 17 = some (.lconst 0, (0, 0, 0), .null, []) := by decide +kernel
theorem hk_166_18 : ax_look 166 18 = some (.lcmp, (0, 0, 0), .null, []) := by decide +kernel
theorem hk_166_19 : ax_look 166 19 = some (.ifCond .le 7, (0, 0, 0), .null, []) := by decide +kernel
theorem hk_166_22 : ax_look 166 22 = some (.iconst 1, (0, 0, 0), .null, []) := by decide +kernel
theorem hk_166_23 : ax_look 166 23 = some (.goto 4, (0, 0, 0), .null, []) := by decide +kernel
theorem hk_166_26 : ax_look 166 26 = some (.iconst 0, (0, 0, 0), .null, []) := by decide +kernel
theorem hk_166_27 : ax_look 166 27 = some (.iadd, (0, 0, 0), .null, []) := by decide +kernel
theorem hk_166_28 : ax_look 166 28 = some (.istore_n 2, (0, 0, 0), .null, []) := by decide +kernel
theorem hk_166_29 : ax_look 166 29 = some (.iinc 3 1, (0, 0, 0), .null, []) := by decide +kernel
theorem hk_166_32 : ax_look 166 32 = some (.goto (-28), (0, 0, 0), .null, []) := by decide +kernel
theorem hk_166_35 : ax_look 166 35 = some (.iload_n 2, (0, 0, 0), .null, []) := by decide +kernel
theorem hk_166_36 : ax_look 166 36 = some (.ireturn, (0, 0, 0), .null, []) := by decide +kernel
theorem hy_t181_2 : ty_tt 181 2 = (2, 182, 0, 0, 0) := by decide +kernel
theorem hy_t182_0 : ty_tt 182 0 = (1, 0, 0, (-9223372036854775808), 9999999999) := by decide +kernel
section HM1
variable {l : Launch} {K : Int} {h : ax_H} {c y : Int32} {cn yn : Nat}
/-- the answer of of -/
def hq_of (h : ax_H) (cn yn : Nat) : ax_Q := fun res h' => h' = h ∧ ∃ x : Int64, res = .inl (some (.long x)) ∧ hy_z h 182 (24 * cn + yn) = x.toInt
theorem hf_of (hlst : l.stackTraces = false) (hH : hy_H K h) (hc : c.toInt = (cn : Nat)) (hc1 : cn < 60) (hy : y.toInt = (yn : Nat)) (hy1 : yn < 24) : AM ax_ns l (ax_mm 136) 0 ty_R 0 0 [.ref 181, .int c, .int y] h (hq_of h cn yn) := by
  refine AM.of (ax_mfacts (by decide +kernel : ax_has 136 = true)).2.2.2.2.2.2 hlst (by rw [hn_136]; exact Nat.le_of_ble_eq_true rfl) ?_
  show AR ax_ns l (ax_mm 136) 0 ty_R _ _ 0 [(0, .ref 181), (1, .int c), (2, .int y)] [] h 0 0
  refine AR.s (pc' := 1) (lv' := [(0, .ref 181), (1, .int c), (2, .int y)]) (st' := [.ref 181]) (h' := h) _ hn_136 hk_136_0 rfl ?_
  refine AR.gR hk_136_1 (by decide) hH (q := 181) (n := 32) (by decide) (by decide +kernel) (by decide +kernel) (by decide) hy_t181_2 ?_
  show AR _ _ _ _ _ _ _ 4 [(0, .ref 181), (1, .int c), (2, .int y)] [.ref 182] h _ _
  refine AR.bipushT hk_136_4 (by decide) (fun z1 ez1 => ?_)
  show AR _ _ _ _ _ _ _ 6 [(0, .ref 181), (1, .int c), (2, .int y)] [.int z1, .ref 182] h _ _
  refine AR.s (pc' := 7) (lv' := [(0, .ref 181), (1, .int c), (2, .int y)]) (st' := [.int c, .int z1, .ref 182]) (h' := h) _ hn_136 hk_136_6 rfl ?_
  refine AR.mulcT hk_136_7 ez1 (by omega) (by omega) (fun z2 ez2 => ?_)
  show AR _ _ _ _ _ _ _ 8 [(0, .ref 181), (1, .int c), (2, .int y)] [.int z2, .ref 182] h _ _
  refine AR.s (pc' := 9) (lv' := [(0, .ref 181), (1, .int c), (2, .int y)]) (st' := [.int y, .int z2, .ref 182]) (h' := h) _ hn_136 hk_136_8 rfl ?_
  refine AR.addT hk_136_9 (by omega) (by omega) (fun z3 ez3 => ?_)
  show AR _ _ _ _ _ _ _ 10 [(0, .ref 181), (1, .int c), (2, .int y)] [.int z3, .ref 182] h _ _
  refine AR.laI hk_136_10 hH (q := 182) (n := 1440) (by decide) (by decide +kernel) (by decide +kernel) (by decide +kernel) hy_t182_0 (by omega) (by omega) (fun x4 dx4 lx4 ux4 => ?_)
  show AR _ _ _ _ _ _ _ 11 [(0, .ref 181), (1, .int c), (2, .int y)] [.long x4] h _ _
  refine AR.lret hk_136_11 hr_136 ⟨rfl, x4, rfl, ?_⟩
  have e9 : 24 * cn + yn = z3.toNatClampNeg := by
    show 24 * cn + yn = z3.toInt.toNat
    omega
  rw [e9]
  exact hy_zl dx4
def hq_tm (h : ax_H) : ax_Q := fun res h' => h' = h ∧ ∃ x : Int32, res = .inl (some (.int x)) ∧ 0 ≤ x.toInt ∧ x.toInt ≤ 23
theorem hf_tmL (hlst : l.stackTraces = false) {X : ax_PX} (hH : hy_H K h) (hI : hy_Ip h) (hc : c.toInt = (cn : Nat)) (hc1 : cn < 60) : ∀ (m t : Nat) (n y : Int32), t + m = 24 → y.toInt = (t : Nat) → (0 ≤ n.toInt ∧ n.toInt ≤ t ∧ (2 ≤ t → n.toInt + 1 ≤ t) ∧ (t = 1 → n.toInt = 0 ∨ 0 < hy_z h 182 (24 * cn + 0))) → AR ax_ns l (ax_mm 166) 2 ty_R (ax_ret ax_ns (ax_mm 166) (hq_tm h)) X 4 [(3, .int y), (2, .int n), (0, .ref 181), (1, .int c)] [] h 0 0 := by
  intro m
  induction m with
  | zero =>
    intro t n y ht hy hn
    refine AR.s (pc' := 5) (lv' := [(3, .int y), (2, .int n), (0, .ref 181), (1, .int c)]) (st' := [.int y]) (h' := h) _ hn_166 hk_166_4 rfl ?_
    refine AR.bipushT hk_166_5 (by decide) (fun z5 ez5 => ?_)
    show AR _ _ _ _ _ _ _ 7 [(3, .int y), (2, .int n), (0, .ref 181), (1, .int c)] [.int z5, .int y] h _ _
    refine AR.jge hk_166_7 (tgt := 35) (by decide) (fun j1 => ?_) (fun j2 => ?_)
    · refine AR.s (pc' := 36) (lv' := [(3, .int y), (2, .int n), (0, .ref 181), (1, .int c)]) (st' := [.int n]) (h' := h) _ hn_166 hk_166_35 rfl ?_
      exact AR.iret hk_166_36 hr_166 ⟨rfl, n, rfl, by omega, by omega⟩
    · exact absurd j2 (by omega)
  | succ m ih =>
    intro t n y ht hy hn
    refine AR.s (pc' := 5) (lv' := [(3, .int y), (2, .int n), (0, .ref 181), (1, .int c)]) (st' := [.int y]) (h' := h) _ hn_166 hk_166_4 rfl ?_
    refine AR.bipushT hk_166_5 (by decide) (fun z6 ez6 => ?_)
    show AR _ _ _ _ _ _ _ 7 [(3, .int y), (2, .int n), (0, .ref 181), (1, .int c)] [.int z6, .int y] h _ _
    refine AR.jge hk_166_7 (tgt := 35) (by decide) (fun j1 => ?_) (fun j2 => ?_)
    · exact absurd j1 (by omega)
    · refine AR.s (pc' := 11) (lv' := [(3, .int y), (2, .int n), (0, .ref 181), (1, .int c)]) (st' := [.int n]) (h' := h) _ hn_166 hk_166_10 rfl ?_
      refine AR.s (pc' := 12) (lv' := [(3, .int y), (2, .int n), (0, .ref 181), (1, .int c)]) (st' := [.ref 181, .int n]) (h' := h) _ hn_166 hk_166_11 rfl ?_
      refine AR.s (pc' := 13) (lv' := [(3, .int y), (2, .int n), (0, .ref 181), (1, .int c)]) (st' := [.int c, .ref 181, .int n]) (h' := h) _ hn_166 hk_166_12 rfl ?_
      refine AR.s (pc' := 14) (lv' := [(3, .int y), (2, .int n), (0, .ref 181), (1, .int c)]) (st' := [.int y, .int c, .ref 181, .int n]) (h' := h) _ hn_166 hk_166_13 rfl ?_
      refine AR.c9 (as := [.int c, .int y]) (rest := [.int n]) hk_166_14 hH (by decide +kernel) rfl rfl (Nat.le_of_ble_eq_true rfl) (hf_of hlst hH hc hc1 hy (yn := t) (by omega)) (by decide) (Nat.le_refl _) (Nat.le_refl _) (fun E h' q => by obtain ⟨-, x, e, -⟩ := q; cases e) ?_
      rintro w h' ⟨rfl, x, e, hx⟩
      cases e
      show AR _ _ _ _ _ _ _ 17 [(3, .int y), (2, .int n), (0, .ref 181), (1, .int c)] [.long x, .int n] h' _ _
      refine AR.lconstT hk_166_17 (fun z7 ez7 => ?_)
      show AR _ _ _ _ _ _ _ 18 [(3, .int y), (2, .int n), (0, .ref 181), (1, .int c)] [.long z7, .long x, .int n] h' _ _
      refine AR.lcmpT hk_166_18 (fun w9 c9 => ?_)
      show AR _ _ _ _ _ _ _ 19 [(3, .int y), (2, .int n), (0, .ref 181), (1, .int c)] [.int w9, .int n] h' _ _
      refine AR.zle hk_166_19 (tgt := 26) (by decide) (fun q1 => ?_) (fun q2 => ?_)
      · refine AR.iconstT hk_166_26 (by decide) (fun z8 ez8 => ?_)
        show AR _ _ _ _ _ _ _ 27 [(3, .int y), (2, .int n), (0, .ref 181), (1, .int c)] [.int z8, .int n] h' _ _
        refine AR.addT hk_166_27 (by omega) (by omega) (fun z9 ez9 => ?_)
        show AR _ _ _ _ _ _ _ 28 [(3, .int y), (2, .int n), (0, .ref 181), (1, .int c)] [.int z9] h' _ _
        refine AR.s (pc' := 29) (lv' := [(2, .int z9), (3, .int y), (0, .ref 181), (1, .int c)]) (st' := []) (h' := h') _ hn_166 hk_166_28 rfl ?_
        refine AR.iincT hk_166_29 (x := y) rfl (by rw [hn_166]; decide) (by decide) (by omega) (by omega) (fun z10 ez10 => ?_)
        show AR _ _ _ _ _ _ _ 32 [(3, .int z10), (2, .int z9), (0, .ref 181), (1, .int c)] [] h' _ _
        refine AR.gotoT hk_166_32 (tgt := 4) (by decide) ?_
        refine ih (t + 1) z9 z10 (by omega) (by omega) ⟨by omega, by omega, fun _ => ?_, fun e9 => ?_⟩
        · rcases (by omega : t = 0 ∨ t = 1 ∨ 2 ≤ t) with e | e | e
          · omega
          · omega
          · have := hn.2.2.1 e; omega
        · exact Or.inl (by omega)
      · refine AR.iconstT hk_166_22 (by decide) (fun z11 ez11 => ?_)
        show AR _ _ _ _ _ _ _ 23 [(3, .int y), (2, .int n), (0, .ref 181), (1, .int c)] [.int z11, .int n] h' _ _
        refine AR.gotoT hk_166_23 (tgt := 27) (by decide) ?_
        refine AR.addT hk_166_27 (by omega) (by omega) (fun z12 ez12 => ?_)
        show AR _ _ _ _ _ _ _ 28 [(3, .int y), (2, .int n), (0, .ref 181), (1, .int c)] [.int z12] h' _ _
        refine AR.s (pc' := 29) (lv' := [(2, .int z12), (3, .int y), (0, .ref 181), (1, .int c)]) (st' := []) (h' := h') _ hn_166 hk_166_28 rfl ?_
        refine AR.iincT hk_166_29 (x := y) rfl (by rw [hn_166]; decide) (by decide) (by omega) (by omega) (fun z13 ez13 => ?_)
        show AR _ _ _ _ _ _ _ 32 [(3, .int z13), (2, .int z12), (0, .ref 181), (1, .int c)] [] h' _ _
        refine AR.gotoT hk_166_32 (tgt := 4) (by decide) ?_
        have hp : 0 < hy_z h' 182 (24 * cn + t) := by
          rw [hx]
          rcases (by omega : x.toInt < z7.toInt ∨ x.toInt = z7.toInt ∨ z7.toInt < x.toInt) with e | e | e
          · have := c9.1 e; omega
          · have := c9.2.1 e; omega
          · have e8 : ((0 : Fin 2) : Nat) = 0 := rfl; omega
        refine ih (t + 1) z12 z13 (by omega) (by omega) ⟨by omega, by omega, fun _ => ?_, fun e9 => ?_⟩
        · rcases (by omega : t = 0 ∨ t = 1 ∨ 2 ≤ t) with e | e | e
          · omega
          · subst e
            rcases hn.2.2.2 rfl with e2 | e2
            · omega
            · rcases hI cn hc1 with e3 | e3
              · exact absurd e3 (Int.not_le.mpr e2)
              · exact absurd e3 (Int.not_le.mpr hp)
          · have := hn.2.2.1 e; omega
        · obtain rfl : t = 0 := by omega
          exact Or.inr hp
theorem hf_terms (hlst : l.stackTraces = false) (hH : hy_H K h) (hI : hy_Ip h) (hc : c.toInt = (cn : Nat)) (hc1 : cn < 60) : AM ax_ns l (ax_mm 166) 2 ty_R 0 0 [.ref 181, .int c] h (hq_tm h) := by
  refine AM.of (ax_mfacts (by decide +kernel : ax_has 166 = true)).2.2.2.2.2.2 hlst (by rw [hn_166]; exact Nat.le_of_ble_eq_true rfl) ?_
  show AR ax_ns l (ax_mm 166) 2 ty_R _ _ 0 [(0, .ref 181), (1, .int c)] [] h 0 0
  refine AR.iconstT hk_166_0 (by decide) (fun z14 ez14 => ?_)
  show AR _ _ _ _ _ _ _ 1 [(0, .ref 181), (1, .int c)] [.int z14] h _ _
  refine AR.s (pc' := 2) (lv' := [(2, .int z14), (0, .ref 181), (1, .int c)]) (st' := []) (h' := h) _ hn_166 hk_166_1 rfl ?_
  refine AR.iconstT hk_166_2 (by decide) (fun z15 ez15 => ?_)
  show AR _ _ _ _ _ _ _ 3 [(2, .int z14), (0, .ref 181), (1, .int c)] [.int z15] h _ _
  refine AR.s (pc' := 4) (lv' := [(3, .int z15), (2, .int z14), (0, .ref 181), (1, .int c)]) (st' := []) (h' := h) _ hn_166 hk_166_3 rfl ?_
  exact hf_tmL hlst hH hI hc hc1 24 0 z14 z15 rfl (by omega) ⟨by omega, by omega, fun e => absurd e (by decide), fun e => absurd e (by decide)⟩
end HM1
