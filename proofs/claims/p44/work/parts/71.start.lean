/-! THE LAW: its start -/
def ax_mid : ax_H := [(8, [.ref 1, .ref 3, .int (-1), .ref 5, .ref 7, .int 0, .ref 8, .ref 10, .ref 12, .ref 15, .ref 17, .ref 19, .ref 21, .ref 23, .ref 24, .ref 25, .ref 26, .int 0]), (7, [.ref 2, .int 0]), (100, List.replicate 200 (.int 0)), (6, [.ref 1, .int 0, .int 0, .int 0, .int 0, .int 0, .ref 4, .int 0, .int 0]), (100, List.replicate 24 (.int 0)), (10, [.ref 6, .int 0, .int 0, .int 0]), (103, List.replicate 16 (.int 0)), (104, [.ref 27, .ref 29, .ref 31, .ref 33, .ref 35, .ref 37, .ref 39, .ref 41, .ref 43, .ref 45, .ref 47, .ref 49, .ref 51, .ref 53, .ref 55, .ref 57, .ref 59, .ref 61, .ref 63, .ref 65, .ref 67, .ref 69, .ref 71, .ref 73, .ref 75, .ref 77, .ref 79, .ref 81, .ref 83, .ref 85, .ref 87, .ref 89, .ref 91, .ref 93, .ref 95, .ref 97, .ref 99, .ref 101, .ref 103, .ref 105, .ref 107, .ref 109, .ref 111, .ref 113, .ref 115, .ref 117, .ref 119, .ref 121, .ref 123, .ref 125, .ref 127, .ref 129, .ref 131, .ref 133, .ref 135, .ref 137, .ref 139, .ref 141, .ref 143, .ref 145]), (2, [.ref 9, .long 0]), (101, List.replicate 24 (.long 0)), (1, [.ref 11, .int 0, .long 0]), (100, List.replicate 24 (.int 0)), (4, [.ref 13, .ref 14]), (101, List.replicate 64 (.long 0)), (101, List.replicate 64 (.long 0)), (3, [.ref 16, .int 0]), (100, List.replicate 24 (.int 0)), (0, [.ref 18, .int 0]), (100, List.replicate 12 (.int (-1))), (3, [.ref 20, .int 0]), (100, List.replicate 24 (.int 0)), (3, [.ref 22, .int 0]), (100, List.replicate 24 (.int 0)), (100, List.replicate 12 (.int 0)), (105, [.ref 147, .ref 149, .ref 151, .ref 153, .ref 155, .ref 157, .ref 159, .ref 161, .ref 163]), (100, List.replicate 8 (.int 0)), (106, [.ref 165, .ref 167, .ref 169, .ref 171, .ref 173, .ref 175, .ref 177, .ref 179]), (1, [.ref 28, .int 0, .long 0]), (100, List.replicate 24 (.int 0)), (1, [.ref 30, .int 0, .long 0]), (100, List.replicate 24 (.int 0)), (1, [.ref 32, .int 0, .long 0]), (100, List.replicate 24 (.int 0)), (1, [.ref 34, .int 0, .long 0]), (100, List.replicate 24 (.int 0)), (1, [.ref 36, .int 0, .long 0]), (100, List.replicate 24 (.int 0)), (1, [.ref 38, .int 0, .long 0]), (100, List.replicate 24 (.int 0)), (1, [.ref 40, .int 0, .long 0]), (100, List.replicate 24 (.int 0)), (1, [.ref 42, .int 0, .long 0]), (100, List.replicate 24 (.int 0)), (1, [.ref 44, .int 0, .long 0]), (100, List.replicate 24 (.int 0)), (1, [.ref 46, .int 0, .long 0]), (100, List.replicate 24 (.int 0)), (1, [.ref 48, .int 0, .long 0]), (100, List.replicate 24 (.int 0)), (1, [.ref 50, .int 0, .long 0]), (100, List.replicate 24 (.int 0)), (1, [.ref 52, .int 0, .long 0]), (100, List.replicate 24 (.int 0)), (1, [.ref 54, .int 0, .long 0]), (100, List.replicate 24 (.int 0)), (1, [.ref 56, .int 0, .long 0]), (100, List.replicate 24 (.int 0)), (1, [.ref 58, .int 0, .long 0]), (100, List.replicate 24 (.int 0)), (1, [.ref 60, .int 0, .long 0]), (100, List.replicate 24 (.int 0)), (1, [.ref 62, .int 0, .long 0]), (100, List.replicate 24 (.int 0)), (1, [.ref 64, .int 0, .long 0]), (100, List.replicate 24 (.int 0)), (1, [.ref 66, .int 0, .long 0]), (100, List.replicate 24 (.int 0)), (1, [.ref 68, .int 0, .long 0]), (100, List.replicate 24 (.int 0)), (1, [.ref 70, .int 0, .long 0]), (100, List.replicate 24 (.int 0)), (1, [.ref 72, .int 0, .long 0]), (100, List.replicate 24 (.int 0)), (1, [.ref 74, .int 0, .long 0]), (100, List.replicate 24 (.int 0)), (1, [.ref 76, .int 0, .long 0]), (100, List.replicate 24 (.int 0)), (1, [.ref 78, .int 0, .long 0]), (100, List.replicate 24 (.int 0)), (1, [.ref 80, .int 0, .long 0]), (100, List.replicate 24 (.int 0)), (1, [.ref 82, .int 0, .long 0]), (100, List.replicate 24 (.int 0)), (1, [.ref 84, .int 0, .long 0]), (100, List.replicate 24 (.int 0)), (1, [.ref 86, .int 0, .long 0]), (100, List.replicate 24 (.int 0)), (1, [.ref 88, .int 0, .long 0]), (100, List.replicate 24 (.int 0)), (1, [.ref 90, .int 0, .long 0]), (100, List.replicate 24 (.int 0)), (1, [.ref 92, .int 0, .long 0]), (100, List.replicate 24 (.int 0)), (1, [.ref 94, .int 0, .long 0]), (100, List.replicate 24 (.int 0)), (1, [.ref 96, .int 0, .long 0]), (100, List.replicate 24 (.int 0)), (1, [.ref 98, .int 0, .long 0]), (100, List.replicate 24 (.int 0)), (1, [.ref 100, .int 0, .long 0]), (100, List.replicate 24 (.int 0)), (1, [.ref 102, .int 0, .long 0]), (100, List.replicate 24 (.int 0)), (1, [.ref 104, .int 0, .long 0]), (100, List.replicate 24 (.int 0)), (1, [.ref 106, .int 0, .long 0]), (100, List.replicate 24 (.int 0)), (1, [.ref 108, .int 0, .long 0]), (100, List.replicate 24 (.int 0)), (1, [.ref 110, .int 0, .long 0]), (100, List.replicate 24 (.int 0)), (1, [.ref 112, .int 0, .long 0]), (100, List.replicate 24 (.int 0)), (1, [.ref 114, .int 0, .long 0]), (100, List.replicate 24 (.int 0)), (1, [.ref 116, .int 0, .long 0]), (100, List.replicate 24 (.int 0)), (1, [.ref 118, .int 0, .long 0]), (100, List.replicate 24 (.int 0)), (1, [.ref 120, .int 0, .long 0]), (100, List.replicate 24 (.int 0)), (1, [.ref 122, .int 0, .long 0]), (100, List.replicate 24 (.int 0)), (1, [.ref 124, .int 0, .long 0]), (100, List.replicate 24 (.int 0)), (1, [.ref 126, .int 0, .long 0]), (100, List.replicate 24 (.int 0)), (1, [.ref 128, .int 0, .long 0]), (100, List.replicate 24 (.int 0)), (1, [.ref 130, .int 0, .long 0]), (100, List.replicate 24 (.int 0)), (1, [.ref 132, .int 0, .long 0]), (100, List.replicate 24 (.int 0)), (1, [.ref 134, .int 0, .long 0]), (100, List.replicate 24 (.int 0)), (1, [.ref 136, .int 0, .long 0]), (100, List.replicate 24 (.int 0)), (1, [.ref 138, .int 0, .long 0]), (100, List.replicate 24 (.int 0)), (1, [.ref 140, .int 0, .long 0]), (100, List.replicate 24 (.int 0)), (1, [.ref 142, .int 0, .long 0]), (100, List.replicate 24 (.int 0)), (1, [.ref 144, .int 0, .long 0]), (100, List.replicate 24 (.int 0)), (1, [.ref 146, .int 0, .long 0]), (100, List.replicate 24 (.int 0)), (5, [.ref 148]), (101, List.replicate 64 (.long (-1))), (5, [.ref 150]), (101, List.replicate 64 (.long (-1))), (5, [.ref 152]), (101, List.replicate 64 (.long (-1))), (5, [.ref 154]), (101, List.replicate 64 (.long (-1))), (5, [.ref 156]), (101, List.replicate 64 (.long (-1))), (5, [.ref 158]), (101, List.replicate 64 (.long (-1))), (5, [.ref 160]), (101, List.replicate 64 (.long (-1))), (5, [.ref 162]), (101, List.replicate 64 (.long (-1))), (5, [.ref 164]), (101, List.replicate 64 (.long (-1))), (3, [.ref 166, .int 0]), (100, List.replicate 24 (.int 0)), (3, [.ref 168, .int 0]), (100, List.replicate 24 (.int 0)), (3, [.ref 170, .int 0]), (100, List.replicate 24 (.int 0)), (3, [.ref 172, .int 0]), (100, List.replicate 24 (.int 0)), (3, [.ref 174, .int 0]), (100, List.replicate 24 (.int 0)), (3, [.ref 176, .int 0]), (100, List.replicate 24 (.int 0)), (3, [.ref 178, .int 0]), (100, List.replicate 24 (.int 0)), (3, [.ref 180, .int 0]), (100, List.replicate 24 (.int 0)), (100, List.replicate 4 (.int 0)), (100, List.replicate 4 (.int 0)), (100, List.replicate 4 (.int 0))]
def lw_XE : ax_PX := fun _ _ _ _ _ _ => False
set_option maxRecDepth 100000 in
theorem lw_pre0 : ax_reach (ax_to [(101, ax_bits)] (ax_cl [(101, ax_bits)] ax_no 20000 7) 285 24 20000 0 [(0, .ref 1000000001)] [] [] 0 0) [(5, .int 0), (4, .ref 183), (3, .ref 182), (2, .ref 181), (1, .ref 0), (0, .ref 1000000001)] [] ax_mid 184 3070 = true := by decide +kernel
section LWS
variable {l : Launch} {xs : Nat → Int32} {L : Nat} {h : ax_H} {i : Int32}
theorem lw_to24 (hl : l.stackTraces = false) (K : AR ax_ns l (ax_mm 285) 8 (ax_r L xs) lw_PE lw_XE 24 [(5, .int 0), (4, .ref 183), (3, .ref 182), (2, .ref 181), (1, .ref 0), (0, .ref 1000000001)] [] ax_mid (758147 - 184) (6827256 - 3070)) : AR ax_ns l (ax_mm 285) 8 (ax_r L xs) lw_PE lw_XE 0 [(0, .ref 1000000001)] [] [] 758147 6827256 := by
  have h1 : AR ax_ns l (ax_mm 285) 8 [(101, ax_bits)] (fun pc lv st h bc bs => pc = 24 ∧ lv = [(5, .int 0), (4, .ref 183), (3, .ref 182), (2, .ref 181), (1, .ref 0), (0, .ref 1000000001)] ∧ st = [] ∧ h = ax_mid ∧ bc = 758147 - 184 ∧ bs = 6827256 - 3070) lw_XE 0 [(0, .ref 1000000001)] [] [] 758147 6827256 :=
    AR.cast (by omega) (by omega) (ax_run_to (l := l) (dy := 7) (bc := 758147 - 184) (bs := 6827256 - 3070) (fun a as h res h' dc ds q => ax_cl_ok hl ax_no_ok 7 a as h res h' dc ds q) lw_pre0 (AR.at ⟨rfl, rfl, rfl, rfl, rfl, rfl⟩))
  refine AR.then (AR.weak (fun s b o H q k z hz => ?_) h1) (fun pc lv st h bc bs hp => ?_)
  · match k, hz with
    | 0, hz => exact q 0 z hz
    | k + 1, hz => simp at hz
  · obtain ⟨rfl, rfl, rfl, rfl, rfl, rfl⟩ := hp
    exact K
/-- a value that the table allows -/
def lw_ck (t : ty_V) (x : Value) : Bool := match t, x with
  | (0, 0, 0, a, z), .int i => decide (a ≤ i.toInt) && decide (i.toInt ≤ z)
  | (1, 0, 0, a, z), .long i => decide (a ≤ i.toInt) && decide (i.toInt ≤ z)
  | (2, q, _), .ref k => Nat.beq k q
  | (3, g, _), .ref k => ax_gm g k
  | (7, _), _ => true
  | _, _ => false
theorem lw_ck_ok {t : ty_V} {x : Value} (e : lw_ck t x = true) : ty_r ty_z 0 h t x := by
  unfold lw_ck at e
  split at e
  · simp only [Bool.and_eq_true, decide_eq_true_eq] at e
    exact ⟨_, rfl, e.1, e.2, Or.inl rfl⟩
  · simp only [Bool.and_eq_true, decide_eq_true_eq] at e
    exact ⟨_, rfl, e.1, e.2, Or.inl rfl⟩
  · have := Nat.eq_of_beq_eq_true e
    subst this
    rfl
  · exact ⟨_, rfl, e⟩
  · trivial
  · cases e
def lw_cc (h : ax_H) (q : Nat) : Bool := match h[q]? with
  | some c => Nat.beq c.1 (ty_tab q).1 && (Nat.beq c.2.length (ty_tab q).2.1 && bif ty_ar q then c.2.all (lw_ck (ty_tt q 0)) else (List.range c.2.length).all (fun j => lw_ck (ty_tt q j) (c.2.getD j .null)))
  | none => false
theorem lw_mid_0 : (List.range 7).all (fun k => lw_cc ax_mid (0 + k)) = true := by decide +kernel
theorem lw_mid_7 : (List.range 13).all (fun k => lw_cc ax_mid (7 + k)) = true := by decide +kernel
theorem lw_mid_20 : (List.range 22).all (fun k => lw_cc ax_mid (20 + k)) = true := by decide +kernel
theorem lw_mid_42 : (List.range 22).all (fun k => lw_cc ax_mid (42 + k)) = true := by decide +kernel
theorem lw_mid_64 : (List.range 22).all (fun k => lw_cc ax_mid (64 + k)) = true := by decide +kernel
theorem lw_mid_86 : (List.range 22).all (fun k => lw_cc ax_mid (86 + k)) = true := by decide +kernel
theorem lw_mid_108 : (List.range 22).all (fun k => lw_cc ax_mid (108 + k)) = true := by decide +kernel
theorem lw_mid_130 : (List.range 18).all (fun k => lw_cc ax_mid (130 + k)) = true := by decide +kernel
theorem lw_mid_148 : (List.range 8).all (fun k => lw_cc ax_mid (148 + k)) = true := by decide +kernel
theorem lw_mid_156 : (List.range 8).all (fun k => lw_cc ax_mid (156 + k)) = true := by decide +kernel
theorem lw_mid_164 : (List.range 17).all (fun k => lw_cc ax_mid (164 + k)) = true := by decide +kernel
theorem lw_mid0 : ∀ q, q < 181 → lw_cc ax_mid q = true := by
  intro q hq
  rcases Nat.lt_or_ge q 7 with h | h
  · have r := List.all_eq_true.mp lw_mid_0 (q - 0) (List.mem_range.mpr (by omega))
    rwa [show 0 + (q - 0) = q by omega] at r
  rcases Nat.lt_or_ge q 20 with h | h
  · have r := List.all_eq_true.mp lw_mid_7 (q - 7) (List.mem_range.mpr (by omega))
    rwa [show 7 + (q - 7) = q by omega] at r
  rcases Nat.lt_or_ge q 42 with h | h
  · have r := List.all_eq_true.mp lw_mid_20 (q - 20) (List.mem_range.mpr (by omega))
    rwa [show 20 + (q - 20) = q by omega] at r
  rcases Nat.lt_or_ge q 64 with h | h
  · have r := List.all_eq_true.mp lw_mid_42 (q - 42) (List.mem_range.mpr (by omega))
    rwa [show 42 + (q - 42) = q by omega] at r
  rcases Nat.lt_or_ge q 86 with h | h
  · have r := List.all_eq_true.mp lw_mid_64 (q - 64) (List.mem_range.mpr (by omega))
    rwa [show 64 + (q - 64) = q by omega] at r
  rcases Nat.lt_or_ge q 108 with h | h
  · have r := List.all_eq_true.mp lw_mid_86 (q - 86) (List.mem_range.mpr (by omega))
    rwa [show 86 + (q - 86) = q by omega] at r
  rcases Nat.lt_or_ge q 130 with h | h
  · have r := List.all_eq_true.mp lw_mid_108 (q - 108) (List.mem_range.mpr (by omega))
    rwa [show 108 + (q - 108) = q by omega] at r
  rcases Nat.lt_or_ge q 148 with h | h
  · have r := List.all_eq_true.mp lw_mid_130 (q - 130) (List.mem_range.mpr (by omega))
    rwa [show 130 + (q - 130) = q by omega] at r
  rcases Nat.lt_or_ge q 156 with h | h
  · have r := List.all_eq_true.mp lw_mid_148 (q - 148) (List.mem_range.mpr (by omega))
    rwa [show 148 + (q - 148) = q by omega] at r
  rcases Nat.lt_or_ge q 164 with h | h
  · have r := List.all_eq_true.mp lw_mid_156 (q - 156) (List.mem_range.mpr (by omega))
    rwa [show 156 + (q - 156) = q by omega] at r
  have r := List.all_eq_true.mp lw_mid_164 (q - 164) (List.mem_range.mpr (by omega))
  rwa [show 164 + (q - 164) = q by omega] at r
theorem lw_midH : hy_H 0 ax_mid := by
  refine ⟨by decide +kernel, fun q hq => ?_, fun j => hy_ps j⟩
  have e := lw_mid0 q hq
  unfold lw_cc at e
  split at e
  · rename_i c hc
    simp only [Bool.and_eq_true] at e
    obtain ⟨e1, e2, e3⟩ := e
    refine ⟨c.2, by rw [hc, ← Nat.eq_of_beq_eq_true e1], Nat.eq_of_beq_eq_true e2, fun j x hx => ?_⟩
    have hj := (List.getElem?_eq_some_iff.mp hx).1
    have e5 : ty_r ty_z 0 ax_mid (ty_tt q j) x := by
      cases ha : ty_ar q with
      | true =>
        rw [ha] at e3
        rw [ty_tt_ar ha]
        exact lw_ck_ok (List.all_eq_true.mp e3 x (List.mem_of_getElem? hx))
      | false =>
        rw [ha] at e3
        have e4 := List.all_eq_true.mp e3 j (List.mem_range.mpr hj)
        rw [List.getD_eq_getElem?_getD, hx] at e4
        exact lw_ck_ok e4
    rw [hy_lk]
    exact ⟨e5, fun _ => e5⟩
  · cases e
theorem lw_S1 : S1 L xs ax_mid 0 := by
  have fC : ∀ c, c < 60 → ty_fd ax_mid 7 c = some (.ref (27 + 2 * c)) := by decide +kernel
  have fW : ∀ w, w < 64 → hw ax_mid 148 w = -1 := by decide +kernel
  refine ⟨⟨lw_midH, ⟨by decide +kernel, by decide +kernel, by decide +kernel⟩, fC, by decide +kernel, by decide +kernel, fun w hw k hk => ?_, fun c hc => absurd hc (Nat.not_lt_zero _)⟩, fun _ => 0, fun _ => 0, fun _ => 0, ⟨?_, ?_, ?_⟩, fun j hj => absurd hj (Nat.not_lt_zero _)⟩
  · rw [fW w hw, pb_m1 k hk]
    rfl
  · rw [← ar_rep]; rfl
  · rw [← ar_rep]; rfl
  · rw [← ar_rep]; rfl
theorem lw_law (hlst : l.stackTraces = false) (hL : L ≤ 260) : AR ax_ns l (ax_mm 285) 8 (ax_r L xs) lw_PE lw_XE 0 [(0, .ref 1000000001)] [] [] 758147 6827256 :=
  lw_to24 hlst (AR.lt (by decide) (by decide) (law_24 hlst (by omega) rfl lw_S1))
end LWS
