/-! THE LAW, 5: its start and its loop -/
def ax_mid : ax_H := [(8, [.ref 1, .ref 3, .int (-1), .ref 5, .ref 7, .int 0, .ref 8, .ref 10, .ref 12, .ref 15, .ref 17, .ref 19, .ref 21, .ref 23, .ref 24, .ref 25, .ref 26, .int 0]), (7, [.ref 2, .int 0]), (100, List.replicate 200 (.int 0)), (6, [.ref 1, .int 0, .int 0, .int 0, .int 0, .int 0, .ref 4, .int 0, .int 0]), (100, List.replicate 24 (.int 0)), (10, [.ref 6, .int 0, .int 0, .int 0]), (103, List.replicate 16 (.int 0)), (104, [.ref 27, .ref 29, .ref 31, .ref 33, .ref 35, .ref 37, .ref 39, .ref 41, .ref 43, .ref 45, .ref 47, .ref 49, .ref 51, .ref 53, .ref 55, .ref 57, .ref 59, .ref 61, .ref 63, .ref 65, .ref 67, .ref 69, .ref 71, .ref 73, .ref 75, .ref 77, .ref 79, .ref 81, .ref 83, .ref 85, .ref 87, .ref 89, .ref 91, .ref 93, .ref 95, .ref 97, .ref 99, .ref 101, .ref 103, .ref 105, .ref 107, .ref 109, .ref 111, .ref 113, .ref 115, .ref 117, .ref 119, .ref 121, .ref 123, .ref 125, .ref 127, .ref 129, .ref 131, .ref 133, .ref 135, .ref 137, .ref 139, .ref 141, .ref 143, .ref 145]), (2, [.ref 9, .long 0]), (101, List.replicate 24 (.long 0)), (1, [.ref 11, .int 0, .long 0]), (100, List.replicate 24 (.int 0)), (4, [.ref 13, .ref 14]), (101, List.replicate 64 (.long 0)), (101, List.replicate 64 (.long 0)), (3, [.ref 16, .int 0]), (100, List.replicate 24 (.int 0)), (0, [.ref 18, .int 0]), (100, List.replicate 12 (.int (-1))), (3, [.ref 20, .int 0]), (100, List.replicate 24 (.int 0)), (3, [.ref 22, .int 0]), (100, List.replicate 24 (.int 0)), (100, List.replicate 12 (.int 0)), (105, [.ref 147, .ref 149, .ref 151, .ref 153, .ref 155, .ref 157, .ref 159, .ref 161, .ref 163]), (100, List.replicate 8 (.int 0)), (106, [.ref 165, .ref 167, .ref 169, .ref 171, .ref 173, .ref 175, .ref 177, .ref 179]), (1, [.ref 28, .int 0, .long 0]), (100, List.replicate 24 (.int 0)), (1, [.ref 30, .int 0, .long 0]), (100, List.replicate 24 (.int 0)), (1, [.ref 32, .int 0, .long 0]), (100, List.replicate 24 (.int 0)), (1, [.ref 34, .int 0, .long 0]), (100, List.replicate 24 (.int 0)), (1, [.ref 36, .int 0, .long 0]), (100, List.replicate 24 (.int 0)), (1, [.ref 38, .int 0, .long 0]), (100, List.replicate 24 (.int 0)), (1, [.ref 40, .int 0, .long 0]), (100, List.replicate 24 (.int 0)), (1, [.ref 42, .int 0, .long 0]), (100, List.replicate 24 (.int 0)), (1, [.ref 44, .int 0, .long 0]), (100, List.replicate 24 (.int 0)), (1, [.ref 46, .int 0, .long 0]), (100, List.replicate 24 (.int 0)), (1, [.ref 48, .int 0, .long 0]), (100, List.replicate 24 (.int 0)), (1, [.ref 50, .int 0, .long 0]), (100, List.replicate 24 (.int 0)), (1, [.ref 52, .int 0, .long 0]), (100, List.replicate 24 (.int 0)), (1, [.ref 54, .int 0, .long 0]), (100, List.replicate 24 (.int 0)), (1, [.ref 56, .int 0, .long 0]), (100, List.replicate 24 (.int 0)), (1, [.ref 58, .int 0, .long 0]), (100, List.replicate 24 (.int 0)), (1, [.ref 60, .int 0, .long 0]), (100, List.replicate 24 (.int 0)), (1, [.ref 62, .int 0, .long 0]), (100, List.replicate 24 (.int 0)), (1, [.ref 64, .int 0, .long 0]), (100, List.replicate 24 (.int 0)), (1, [.ref 66, .int 0, .long 0]), (100, List.replicate 24 (.int 0)), (1, [.ref 68, .int 0, .long 0]), (100, List.replicate 24 (.int 0)), (1, [.ref 70, .int 0, .long 0]), (100, List.replicate 24 (.int 0)), (1, [.ref 72, .int 0, .long 0]), (100, List.replicate 24 (.int 0)), (1, [.ref 74, .int 0, .long 0]), (100, List.replicate 24 (.int 0)), (1, [.ref 76, .int 0, .long 0]), (100, List.replicate 24 (.int 0)), (1, [.ref 78, .int 0, .long 0]), (100, List.replicate 24 (.int 0)), (1, [.ref 80, .int 0, .long 0]), (100, List.replicate 24 (.int 0)), (1, [.ref 82, .int 0, .long 0]), (100, List.replicate 24 (.int 0)), (1, [.ref 84, .int 0, .long 0]), (100, List.replicate 24 (.int 0)), (1, [.ref 86, .int 0, .long 0]), (100, List.replicate 24 (.int 0)), (1, [.ref 88, .int 0, .long 0]), (100, List.replicate 24 (.int 0)), (1, [.ref 90, .int 0, .long 0]), (100, List.replicate 24 (.int 0)), (1, [.ref 92, .int 0, .long 0]), (100, List.replicate 24 (.int 0)), (1, [.ref 94, .int 0, .long 0]), (100, List.replicate 24 (.int 0)), (1, [.ref 96, .int 0, .long 0]), (100, List.replicate 24 (.int 0)), (1, [.ref 98, .int 0, .long 0]), (100, List.replicate 24 (.int 0)), (1, [.ref 100, .int 0, .long 0]), (100, List.replicate 24 (.int 0)), (1, [.ref 102, .int 0, .long 0]), (100, List.replicate 24 (.int 0)), (1, [.ref 104, .int 0, .long 0]), (100, List.replicate 24 (.int 0)), (1, [.ref 106, .int 0, .long 0]), (100, List.replicate 24 (.int 0)), (1, [.ref 108, .int 0, .long 0]), (100, List.replicate 24 (.int 0)), (1, [.ref 110, .int 0, .long 0]), (100, List.replicate 24 (.int 0)), (1, [.ref 112, .int 0, .long 0]), (100, List.replicate 24 (.int 0)), (1, [.ref 114, .int 0, .long 0]), (100, List.replicate 24 (.int 0)), (1, [.ref 116, .int 0, .long 0]), (100, List.replicate 24 (.int 0)), (1, [.ref 118, .int 0, .long 0]), (100, List.replicate 24 (.int 0)), (1, [.ref 120, .int 0, .long 0]), (100, List.replicate 24 (.int 0)), (1, [.ref 122, .int 0, .long 0]), (100, List.replicate 24 (.int 0)), (1, [.ref 124, .int 0, .long 0]), (100, List.replicate 24 (.int 0)), (1, [.ref 126, .int 0, .long 0]), (100, List.replicate 24 (.int 0)), (1, [.ref 128, .int 0, .long 0]), (100, List.replicate 24 (.int 0)), (1, [.ref 130, .int 0, .long 0]), (100, List.replicate 24 (.int 0)), (1, [.ref 132, .int 0, .long 0]), (100, List.replicate 24 (.int 0)), (1, [.ref 134, .int 0, .long 0]), (100, List.replicate 24 (.int 0)), (1, [.ref 136, .int 0, .long 0]), (100, List.replicate 24 (.int 0)), (1, [.ref 138, .int 0, .long 0]), (100, List.replicate 24 (.int 0)), (1, [.ref 140, .int 0, .long 0]), (100, List.replicate 24 (.int 0)), (1, [.ref 142, .int 0, .long 0]), (100, List.replicate 24 (.int 0)), (1, [.ref 144, .int 0, .long 0]), (100, List.replicate 24 (.int 0)), (1, [.ref 146, .int 0, .long 0]), (100, List.replicate 24 (.int 0)), (5, [.ref 148]), (101, List.replicate 64 (.long (-1))), (5, [.ref 150]), (101, List.replicate 64 (.long (-1))), (5, [.ref 152]), (101, List.replicate 64 (.long (-1))), (5, [.ref 154]), (101, List.replicate 64 (.long (-1))), (5, [.ref 156]), (101, List.replicate 64 (.long (-1))), (5, [.ref 158]), (101, List.replicate 64 (.long (-1))), (5, [.ref 160]), (101, List.replicate 64 (.long (-1))), (5, [.ref 162]), (101, List.replicate 64 (.long (-1))), (5, [.ref 164]), (101, List.replicate 64 (.long (-1))), (3, [.ref 166, .int 0]), (100, List.replicate 24 (.int 0)), (3, [.ref 168, .int 0]), (100, List.replicate 24 (.int 0)), (3, [.ref 170, .int 0]), (100, List.replicate 24 (.int 0)), (3, [.ref 172, .int 0]), (100, List.replicate 24 (.int 0)), (3, [.ref 174, .int 0]), (100, List.replicate 24 (.int 0)), (3, [.ref 176, .int 0]), (100, List.replicate 24 (.int 0)), (3, [.ref 178, .int 0]), (100, List.replicate 24 (.int 0)), (3, [.ref 180, .int 0]), (100, List.replicate 24 (.int 0)), (9, [.int 0, .int 0, .ref 182, .ref 183, .ref 184, .long 0, .ref 185, .int 0, .int 0, .int 0, .int 0, .int (-1), .ref 186, .ref 187, .int 0, .int 0, .long 0, .ref 188, .int 0, .int 0, .ref 189, .int 0, .ref 190, .ref 191, .int 0, .ref 192, .int 0, .ref 193, .int 0, .ref 194, .ref 195, .ref 196]), (101, List.replicate 1440 (.long 0)), (101, List.replicate 60 (.long 0)), (101, List.replicate 24 (.long 0)), (100, List.replicate 200 (.int 0)), (101, List.replicate 200 (.long 0)), (100, List.replicate 200 (.int 0)), (100, List.replicate 400 (.int 0)), (102, List.replicate 24 (.int 0)), (100, List.replicate 12 (.int 0)), (100, List.replicate 12 (.int (-1))), (100, List.replicate 12 (.int 0)), (102, List.replicate 24 (.int 0)), (100, List.replicate 8 (.int 0)), (100, List.replicate 8 (.int 0)), (100, List.replicate 96 (.int 0)), (101, [.long 0])]
def lw_PE : ax_P := ax_ret ax_ns (ax_mm 285) (fun res _ => res = .inl (some (.int 1)))
def lw_XE : ax_PX := fun _ _ _ _ _ _ => False
set_option maxRecDepth 100000 in
theorem lw_pre0 : ax_reach (ax_to [(101, ax_bits)] (ax_cl [(101, ax_bits)] ax_no 20000 12) 285 23 20000 0 [(0, .ref 1000000001)] [] [] 0 0) [(4, .int 0), (3, .ref 197), (2, .ref 181), (1, .ref 0), (0, .ref 1000000001)] [] ax_mid 198 5811 = true := by decide +kernel
section LWS
variable {l : Launch} {xs : Nat → Int32} {L : Nat} {h : ax_H} {i : Int32}
theorem lw_to23 (hl : l.stackTraces = false) (K : AR ax_ns l (ax_mm 285) 13 (ax_r L xs) lw_PE lw_XE 23 [(4, .int 0), (3, .ref 197), (2, .ref 181), (1, .ref 0), (0, .ref 1000000001)] [] ax_mid (603072 - 198) (7186538 - 5811)) : AR ax_ns l (ax_mm 285) 13 (ax_r L xs) lw_PE lw_XE 0 [(0, .ref 1000000001)] [] [] 603072 7186538 := by
  have h1 : AR ax_ns l (ax_mm 285) 13 [(101, ax_bits)] (fun pc lv st h bc bs => pc = 23 ∧ lv = [(4, .int 0), (3, .ref 197), (2, .ref 181), (1, .ref 0), (0, .ref 1000000001)] ∧ st = [] ∧ h = ax_mid ∧ bc = 603072 - 198 ∧ bs = 7186538 - 5811) lw_XE 0 [(0, .ref 1000000001)] [] [] 603072 7186538 :=
    AR.cast (by omega) (by omega) (ax_run_to (l := l) (dy := 12) (bc := 603072 - 198) (bs := 7186538 - 5811) (fun a as h res h' dc ds q => ax_cl_ok hl ax_no_ok 12 a as h res h' dc ds q) lw_pre0 (AR.at ⟨rfl, rfl, rfl, rfl, rfl, rfl⟩))
  refine AR.then (AR.weak (fun s b o H q k z hz => ?_) h1) (fun pc lv st h bc bs hp => ?_)
  · match k, hz with
    | 0, hz => exact q 0 z hz
    | k + 1, hz => simp at hz
  · obtain ⟨rfl, rfl, rfl, rfl, rfl, rfl⟩ := hp
    exact K
/-- a value that the table allows -/
def lw_ck (t : ty_V) (x : Value) : Bool := match t, x with
  | (0, 0, 0, a, z), .int i => decide (a ≤ i.toInt) && decide (i.toInt ≤ z)
  | (1, 0, 0, a, z), .long i => decide (a ≤ i.toInt) && decide (i.toInt ≤ z)
  | (2, q, _), .ref k => Nat.beq k q
  | (3, g, _), .ref k => ax_gm g k
  | (7, _), _ => true
  | _, _ => false
theorem lw_ck_ok {t : ty_V} {x : Value} (e : lw_ck t x = true) : ty_r ty_z 0 h t x := by
  unfold lw_ck at e
  split at e
  · simp only [Bool.and_eq_true, decide_eq_true_eq] at e
    exact ⟨_, rfl, e.1, e.2, Or.inl rfl⟩
  · simp only [Bool.and_eq_true, decide_eq_true_eq] at e
    exact ⟨_, rfl, e.1, e.2, Or.inl rfl⟩
  · have := Nat.eq_of_beq_eq_true e
    subst this
    rfl
  · exact ⟨_, rfl, e⟩
  · trivial
  · cases e
def lw_cc (h : ax_H) (q : Nat) : Bool := match h[q]? with
  | some c => Nat.beq c.1 (ty_tab q).1 && (Nat.beq c.2.length (ty_tab q).2.1 && bif ty_ar q then c.2.all (lw_ck (ty_tt q 0)) else (List.range c.2.length).all (fun j => lw_ck (ty_tt q j) (c.2.getD j .null)))
  | none => false
theorem lw_mid_0 : (List.range 7).all (fun k => lw_cc ax_mid (0 + k)) = true := by decide +kernel
theorem lw_mid_7 : (List.range 13).all (fun k => lw_cc ax_mid (7 + k)) = true := by decide +kernel
theorem lw_mid_20 : (List.range 22).all (fun k => lw_cc ax_mid (20 + k)) = true := by decide +kernel
theorem lw_mid_42 : (List.range 22).all (fun k => lw_cc ax_mid (42 + k)) = true := by decide +kernel
theorem lw_mid_64 : (List.range 22).all (fun k => lw_cc ax_mid (64 + k)) = true := by decide +kernel
theorem lw_mid_86 : (List.range 22).all (fun k => lw_cc ax_mid (86 + k)) = true := by decide +kernel
theorem lw_mid_108 : (List.range 22).all (fun k => lw_cc ax_mid (108 + k)) = true := by decide +kernel
theorem lw_mid_130 : (List.range 18).all (fun k => lw_cc ax_mid (130 + k)) = true := by decide +kernel
theorem lw_mid_148 : (List.range 8).all (fun k => lw_cc ax_mid (148 + k)) = true := by decide +kernel
theorem lw_mid_156 : (List.range 8).all (fun k => lw_cc ax_mid (156 + k)) = true := by decide +kernel
theorem lw_mid_164 : (List.range 17).all (fun k => lw_cc ax_mid (164 + k)) = true := by decide +kernel
theorem lw_mid_181 : (List.range 1).all (fun k => lw_cc ax_mid (181 + k)) = true := by decide +kernel
theorem lw_mid_182 : (List.range 1).all (fun k => lw_cc ax_mid (182 + k)) = true := by decide +kernel
theorem lw_mid_183 : (List.range 3).all (fun k => lw_cc ax_mid (183 + k)) = true := by decide +kernel
theorem lw_mid_186 : (List.range 1).all (fun k => lw_cc ax_mid (186 + k)) = true := by decide +kernel
theorem lw_mid_187 : (List.range 1).all (fun k => lw_cc ax_mid (187 + k)) = true := by decide +kernel
theorem lw_mid_188 : (List.range 1).all (fun k => lw_cc ax_mid (188 + k)) = true := by decide +kernel
theorem lw_mid_189 : (List.range 9).all (fun k => lw_cc ax_mid (189 + k)) = true := by decide +kernel
theorem lw_mid0 : ∀ q, q < 198 → lw_cc ax_mid q = true := by
  intro q hq
  rcases Nat.lt_or_ge q 7 with h | h
  · have r := List.all_eq_true.mp lw_mid_0 (q - 0) (List.mem_range.mpr (by omega))
    rwa [show 0 + (q - 0) = q by omega] at r
  rcases Nat.lt_or_ge q 20 with h | h
  · have r := List.all_eq_true.mp lw_mid_7 (q - 7) (List.mem_range.mpr (by omega))
    rwa [show 7 + (q - 7) = q by omega] at r
  rcases Nat.lt_or_ge q 42 with h | h
  · have r := List.all_eq_true.mp lw_mid_20 (q - 20) (List.mem_range.mpr (by omega))
    rwa [show 20 + (q - 20) = q by omega] at r
  rcases Nat.lt_or_ge q 64 with h | h
  · have r := List.all_eq_true.mp lw_mid_42 (q - 42) (List.mem_range.mpr (by omega))
    rwa [show 42 + (q - 42) = q by omega] at r
  rcases Nat.lt_or_ge q 86 with h | h
  · have r := List.all_eq_true.mp lw_mid_64 (q - 64) (List.mem_range.mpr (by omega))
    rwa [show 64 + (q - 64) = q by omega] at r
  rcases Nat.lt_or_ge q 108 with h | h
  · have r := List.all_eq_true.mp lw_mid_86 (q - 86) (List.mem_range.mpr (by omega))
    rwa [show 86 + (q - 86) = q by omega] at r
  rcases Nat.lt_or_ge q 130 with h | h
  · have r := List.all_eq_true.mp lw_mid_108 (q - 108) (List.mem_range.mpr (by omega))
    rwa [show 108 + (q - 108) = q by omega] at r
  rcases Nat.lt_or_ge q 148 with h | h
  · have r := List.all_eq_true.mp lw_mid_130 (q - 130) (List.mem_range.mpr (by omega))
    rwa [show 130 + (q - 130) = q by omega] at r
  rcases Nat.lt_or_ge q 156 with h | h
  · have r := List.all_eq_true.mp lw_mid_148 (q - 148) (List.mem_range.mpr (by omega))
    rwa [show 148 + (q - 148) = q by omega] at r
  rcases Nat.lt_or_ge q 164 with h | h
  · have r := List.all_eq_true.mp lw_mid_156 (q - 156) (List.mem_range.mpr (by omega))
    rwa [show 156 + (q - 156) = q by omega] at r
  rcases Nat.lt_or_ge q 181 with h | h
  · have r := List.all_eq_true.mp lw_mid_164 (q - 164) (List.mem_range.mpr (by omega))
    rwa [show 164 + (q - 164) = q by omega] at r
  rcases Nat.lt_or_ge q 182 with h | h
  · have r := List.all_eq_true.mp lw_mid_181 (q - 181) (List.mem_range.mpr (by omega))
    rwa [show 181 + (q - 181) = q by omega] at r
  rcases Nat.lt_or_ge q 183 with h | h
  · have r := List.all_eq_true.mp lw_mid_182 (q - 182) (List.mem_range.mpr (by omega))
    rwa [show 182 + (q - 182) = q by omega] at r
  rcases Nat.lt_or_ge q 186 with h | h
  · have r := List.all_eq_true.mp lw_mid_183 (q - 183) (List.mem_range.mpr (by omega))
    rwa [show 183 + (q - 183) = q by omega] at r
  rcases Nat.lt_or_ge q 187 with h | h
  · have r := List.all_eq_true.mp lw_mid_186 (q - 186) (List.mem_range.mpr (by omega))
    rwa [show 186 + (q - 186) = q by omega] at r
  rcases Nat.lt_or_ge q 188 with h | h
  · have r := List.all_eq_true.mp lw_mid_187 (q - 187) (List.mem_range.mpr (by omega))
    rwa [show 187 + (q - 187) = q by omega] at r
  rcases Nat.lt_or_ge q 189 with h | h
  · have r := List.all_eq_true.mp lw_mid_188 (q - 188) (List.mem_range.mpr (by omega))
    rwa [show 188 + (q - 188) = q by omega] at r
  rcases Nat.lt_or_ge q 198 with h | h
  · have r := List.all_eq_true.mp lw_mid_189 (q - 189) (List.mem_range.mpr (by omega))
    rwa [show 189 + (q - 189) = q by omega] at r
  exact absurd h (by omega)
theorem lw_midH : hy_H 0 ax_mid := by
  refine ⟨by decide +kernel, fun q hq => ?_, fun j => hy_ps j⟩
  have e := lw_mid0 q hq
  unfold lw_cc at e
  split at e
  · rename_i c hc
    simp only [Bool.and_eq_true] at e
    obtain ⟨e1, e2, e3⟩ := e
    refine ⟨c.2, by rw [hc, ← Nat.eq_of_beq_eq_true e1], Nat.eq_of_beq_eq_true e2, fun j x hx => ?_⟩
    have hj := (List.getElem?_eq_some_iff.mp hx).1
    have e5 : ty_r ty_z 0 ax_mid (ty_tt q j) x := by
      cases ha : ty_ar q with
      | true =>
        rw [ha] at e3
        rw [ty_tt_ar ha]
        exact lw_ck_ok (List.all_eq_true.mp e3 x (List.mem_of_getElem? hx))
      | false =>
        rw [ha] at e3
        have e4 := List.all_eq_true.mp e3 j (List.mem_range.mpr hj)
        rw [List.getD_eq_getElem?_getD, hx] at e4
        exact lw_ck_ok e4
    rw [hy_lk]
    exact ⟨e5, fun _ => e5⟩
  · cases e
theorem lw_midI : lw_I ax_mid := by
  have z21 : hy_z ax_mid 181 21 = 0 := by decide +kernel
  refine ⟨lw_midH, ⟨fun j k _ hk => by omega, fun _ j hj => by omega, ?_, ?_, ?_⟩, (show hy_z ax_mid 1 1 = hy_z ax_mid 181 7 from by decide +kernel)⟩
  · have z : ∀ L, L < 8 → hy_z ax_mid 195 L = 0 := by decide +kernel
    intro L hL j k _ hk
    have := z L hL
    omega
  · have z : ∀ c, c < 60 → hy_z ax_mid 182 (24 * c) ≤ 0 := by decide +kernel
    exact fun c hc => Or.inl (z c hc)
  · refine ⟨6, List.replicate 16 (.int 0), 0, rfl, rfl, rfl, rfl, Or.inl rfl, by decide, by decide, by decide, ⟨0, by decide, rfl⟩, fun x hx => ?_⟩
    exact ⟨0, (List.mem_replicate.mp hx).2, by decide, by decide⟩
theorem lw_and63 (i : Int32) : ∃ k, k < 64 ∧ i &&& 63 = Int32.ofNat k := by
  refine ⟨(i &&& 63).toBitVec.toNat, ?_, ?_⟩
  · rw [Int32.toBitVec_and, BitVec.toNat_and]
    exact Nat.lt_of_le_of_lt Nat.and_le_right (by decide)
  · apply Int32.toBitVec.inj
    simp
theorem lw_sw (hlst : l.stackTraces = false) (G : ty_G hy_I l) {bc bs : Nat} (i0 : 0 ≤ i.toInt) (i1 : i.toInt + 6 ≤ L) (hL : L ≤ 3072) (I : lw_I h) (k : ∀ h', lw_I h' → AR ax_ns l (ax_mm 285) 13 (ax_r L xs) lw_PE lw_XE 1363 [(4, .int i), (3, .ref 197), (2, .ref 181), (1, .ref 0), (0, .ref 1000000001)] [] h' bc bs) (n : Nat) (hn : n < 64) : AR ax_ns l (ax_mm 285) 13 (ax_r L xs) lw_PE lw_XE 40 [(4, .int i), (3, .ref 197), (2, .ref 181), (1, .ref 0), (0, .ref 1000000001)] [.int (Int32.ofNat n)] h (bc + 1177) (bs + 14024) := by
  rcases Nat.lt_or_ge n 41 with h41 | h41
  · match n, h41 with
    | 0, _ => exact AR.tableIn (off := 180) (tgt := 220) (ax_look_ok hk_285_40).1 (by decide) (by decide) rfl (by decide) (lw_op0 hlst G i0 i1 hL I k)
    | 1, _ => exact AR.tableIn (off := 256) (tgt := 296) (ax_look_ok hk_285_40).1 (by decide) (by decide) rfl (by decide) (lw_op1 hlst G i0 i1 hL I k)
    | 2, _ => exact AR.tableIn (off := 312) (tgt := 352) (ax_look_ok hk_285_40).1 (by decide) (by decide) rfl (by decide) (lw_op2 hlst G i0 i1 hL I k)
    | 3, _ => exact AR.tableIn (off := 328) (tgt := 368) (ax_look_ok hk_285_40).1 (by decide) (by decide) rfl (by decide) (lw_op3 hlst G i0 i1 hL I k)
    | 4, _ => exact AR.tableIn (off := 344) (tgt := 384) (ax_look_ok hk_285_40).1 (by decide) (by decide) rfl (by decide) (lw_op4 G i0 i1 hL I k)
    | 5, _ => exact AR.tableIn (off := 357) (tgt := 397) (ax_look_ok hk_285_40).1 (by decide) (by decide) rfl (by decide) (lw_op5 G i0 i1 hL I k)
    | 6, _ => exact AR.tableIn (off := 385) (tgt := 425) (ax_look_ok hk_285_40).1 (by decide) (by decide) rfl (by decide) (lw_op6 G i0 i1 hL I k)
    | 7, _ => exact AR.tableIn (off := 413) (tgt := 453) (ax_look_ok hk_285_40).1 (by decide) (by decide) rfl (by decide) (lw_op7 G i0 i1 hL I k)
    | 8, _ => exact AR.tableIn (off := 426) (tgt := 466) (ax_look_ok hk_285_40).1 (by decide) (by decide) rfl (by decide) (lw_op8 G i0 i1 hL I k)
    | 9, _ => exact AR.tableIn (off := 454) (tgt := 494) (ax_look_ok hk_285_40).1 (by decide) (by decide) rfl (by decide) (lw_op9 G i0 i1 hL I k)
    | 10, _ => exact AR.tableIn (off := 482) (tgt := 522) (ax_look_ok hk_285_40).1 (by decide) (by decide) rfl (by decide) (lw_op10 G i0 i1 hL I k)
    | 11, _ => exact AR.tableIn (off := 522) (tgt := 562) (ax_look_ok hk_285_40).1 (by decide) (by decide) rfl (by decide) (lw_op11 G i0 i1 hL I k)
    | 12, _ => exact AR.tableIn (off := 550) (tgt := 590) (ax_look_ok hk_285_40).1 (by decide) (by decide) rfl (by decide) (lw_op12 G i0 i1 hL I k)
    | 13, _ => exact AR.tableIn (off := 578) (tgt := 618) (ax_look_ok hk_285_40).1 (by decide) (by decide) rfl (by decide) (lw_op13 G i0 i1 hL I k)
    | 14, _ => exact AR.tableIn (off := 618) (tgt := 658) (ax_look_ok hk_285_40).1 (by decide) (by decide) rfl (by decide) (lw_op14 G i0 i1 hL I k)
    | 15, _ => exact AR.tableIn (off := 658) (tgt := 698) (ax_look_ok hk_285_40).1 (by decide) (by decide) rfl (by decide) (lw_op15 G i0 i1 hL I k)
    | 16, _ => exact AR.tableIn (off := 698) (tgt := 738) (ax_look_ok hk_285_40).1 (by decide) (by decide) rfl (by decide) (lw_op16 G i0 i1 hL I k)
    | 17, _ => exact AR.tableIn (off := 726) (tgt := 766) (ax_look_ok hk_285_40).1 (by decide) (by decide) rfl (by decide) (lw_op17 G i0 i1 hL I k)
    | 18, _ => exact AR.tableIn (off := 766) (tgt := 806) (ax_look_ok hk_285_40).1 (by decide) (by decide) rfl (by decide) (lw_op18 G i0 i1 hL I k)
    | 19, _ => exact AR.tableIn (off := 818) (tgt := 858) (ax_look_ok hk_285_40).1 (by decide) (by decide) rfl (by decide) (lw_op19 G i0 i1 hL I k)
    | 20, _ => exact AR.tableIn (off := 846) (tgt := 886) (ax_look_ok hk_285_40).1 (by decide) (by decide) rfl (by decide) (lw_op20 G i0 i1 hL I k)
    | 21, _ => exact AR.tableIn (off := 886) (tgt := 926) (ax_look_ok hk_285_40).1 (by decide) (by decide) rfl (by decide) (lw_op21 G i0 i1 hL I k)
    | 22, _ => exact AR.tableIn (off := 914) (tgt := 954) (ax_look_ok hk_285_40).1 (by decide) (by decide) rfl (by decide) (lw_op22 G i0 i1 hL I k)
    | 23, _ => exact AR.tableIn (off := 942) (tgt := 982) (ax_look_ok hk_285_40).1 (by decide) (by decide) rfl (by decide) (lw_op23 G i0 i1 hL I k)
    | 24, _ => exact AR.tableIn (off := 958) (tgt := 998) (ax_look_ok hk_285_40).1 (by decide) (by decide) rfl (by decide) (lw_op24 G i0 i1 hL I k)
    | 25, _ => exact AR.tableIn (off := 986) (tgt := 1026) (ax_look_ok hk_285_40).1 (by decide) (by decide) rfl (by decide) (lw_op25 G i0 i1 hL I k)
    | 26, _ => exact AR.tableIn (off := 1002) (tgt := 1042) (ax_look_ok hk_285_40).1 (by decide) (by decide) rfl (by decide) (lw_op26 G i0 i1 hL I k)
    | 27, _ => exact AR.tableIn (off := 1015) (tgt := 1055) (ax_look_ok hk_285_40).1 (by decide) (by decide) rfl (by decide) (lw_op27 G i0 i1 hL I k)
    | 28, _ => exact AR.tableIn (off := 1028) (tgt := 1068) (ax_look_ok hk_285_40).1 (by decide) (by decide) rfl (by decide) (lw_op28 G i0 i1 hL I k)
    | 29, _ => exact AR.tableIn (off := 1056) (tgt := 1096) (ax_look_ok hk_285_40).1 (by decide) (by decide) rfl (by decide) (lw_op29 G i0 i1 hL I k)
    | 30, _ => exact AR.tableIn (off := 1069) (tgt := 1109) (ax_look_ok hk_285_40).1 (by decide) (by decide) rfl (by decide) (lw_op30 G i0 i1 hL I k)
    | 31, _ => exact AR.tableIn (off := 1097) (tgt := 1137) (ax_look_ok hk_285_40).1 (by decide) (by decide) rfl (by decide) (lw_op31 G i0 i1 hL I k)
    | 32, _ => exact AR.tableIn (off := 1110) (tgt := 1150) (ax_look_ok hk_285_40).1 (by decide) (by decide) rfl (by decide) (lw_op32 G i0 i1 hL I k)
    | 33, _ => exact AR.tableIn (off := 1138) (tgt := 1178) (ax_look_ok hk_285_40).1 (by decide) (by decide) rfl (by decide) (lw_op33 G i0 i1 hL I k)
    | 34, _ => exact AR.tableIn (off := 1178) (tgt := 1218) (ax_look_ok hk_285_40).1 (by decide) (by decide) rfl (by decide) (lw_op34 G i0 i1 hL I k)
    | 35, _ => exact AR.tableIn (off := 1194) (tgt := 1234) (ax_look_ok hk_285_40).1 (by decide) (by decide) rfl (by decide) (lw_op35 G i0 i1 hL I k)
    | 36, _ => exact AR.tableIn (off := 1210) (tgt := 1250) (ax_look_ok hk_285_40).1 (by decide) (by decide) rfl (by decide) (lw_op36 G i0 i1 hL I k)
    | 37, _ => exact AR.tableIn (off := 1250) (tgt := 1290) (ax_look_ok hk_285_40).1 (by decide) (by decide) rfl (by decide) (lw_op37 G i0 i1 hL I k)
    | 38, _ => exact AR.tableIn (off := 1278) (tgt := 1318) (ax_look_ok hk_285_40).1 (by decide) (by decide) rfl (by decide) (lw_op38 G i0 i1 hL I k)
    | 39, _ => exact AR.tableIn (off := 1294) (tgt := 1334) (ax_look_ok hk_285_40).1 (by decide) (by decide) rfl (by decide) (lw_op39 G i0 i1 hL I k)
    | 40, _ => exact AR.tableIn (off := 1310) (tgt := 1350) (ax_look_ok hk_285_40).1 (by decide) (by decide) rfl (by decide) (lw_op40 G i0 i1 hL I k)
    | k + 41, hk => exact absurd hk (by omega)
  · have e : (Int32.ofNat n).toInt = n := Int32.toInt_ofNat_of_lt (by omega)
    exact AR.tableOut (tgt := 1363) (ax_look_ok hk_285_40).1 (Or.inr (by rw [e]; omega)) (by decide) (AR.lt (by omega) (by omega) (k h I))
theorem lw_loop (hlst : l.stackTraces = false) (G : ty_G hy_I l) (hL : L ≤ 3072) : ∀ (m : Nat) (i : Int32) (h : ax_H), i.toInt + 6 * m = 3072 → 0 ≤ i.toInt → lw_I h → AR ax_ns l (ax_mm 285) 13 (ax_r L xs) lw_PE lw_XE 23 [(4, .int i), (3, .ref 197), (2, .ref 181), (1, .ref 0), (0, .ref 1000000001)] [] h (1177 * m) (14024 * m) := by
  intro m
  induction m with
  | zero =>
    intro i h hm i0 I
    refine AR.iload (ax_look_ok hk_285_23).1 (x := .int i) rfl rfl ?_
    refine AR.aload_n (ax_look_ok hk_285_25).1 (x := .ref 1000000001) rfl rfl ?_
    refine AR.arraylength (t := 0) (ax_look_ok hk_285_26).1 (show ax_tys[0]? = some .int from rfl) (show ax_get (ax_r L xs) h 1000000001 = some (100 + 0, (List.range L).map (fun j => .int (xs j))) from rfl) ?_
    refine AR.bipush (ax_look_ok hk_285_27).1 ?_
    rw [List.length_map, List.length_range]
    have eL : (L.toInt32).toInt = L := Int32.toInt_ofNat_of_lt (by omega)
    have e6 : ((Int8.ofInt 6).toInt32).toInt = 6 := by decide
    refine AR.isub (z := .int (L.toInt32 - (Int8.ofInt 6).toInt32)) (ax_look_ok hk_285_29).1 rfl ?_
    have eq : (L.toInt32 - (Int8.ofInt 6).toInt32).toInt = (L : Int) - 6 := by rw [Int32.toInt_sub, eL, e6]; exact hy_bm (by omega) (by omega)
    refine AR.icmp_gt (ax_look_ok hk_285_30).1 (tgt := 1369) (by decide) (fun _ => ?_) (fun ng => ?_)
    · refine AR.iconst (ax_look_ok hk_285_1369).1 ?_
      exact AR.at (Or.inr (Or.inl ⟨_, .boolean, rfl, by decide, rfl, (ax_look_ok hk_285_1370).1, hr_285, rfl⟩))
    · exact absurd (Int32.lt_iff_toInt_lt.mpr (by omega)) ng
  | succ m ih =>
    intro i h hm i0 I
    refine AR.iload (ax_look_ok hk_285_23).1 (x := .int i) rfl rfl ?_
    refine AR.aload_n (ax_look_ok hk_285_25).1 (x := .ref 1000000001) rfl rfl ?_
    refine AR.arraylength (t := 0) (ax_look_ok hk_285_26).1 (show ax_tys[0]? = some .int from rfl) (show ax_get (ax_r L xs) h 1000000001 = some (100 + 0, (List.range L).map (fun j => .int (xs j))) from rfl) ?_
    refine AR.bipush (ax_look_ok hk_285_27).1 ?_
    rw [List.length_map, List.length_range]
    have eL : (L.toInt32).toInt = L := Int32.toInt_ofNat_of_lt (by omega)
    have e6 : ((Int8.ofInt 6).toInt32).toInt = 6 := by decide
    refine AR.isub (z := .int (L.toInt32 - (Int8.ofInt 6).toInt32)) (ax_look_ok hk_285_29).1 rfl ?_
    have eq : (L.toInt32 - (Int8.ofInt 6).toInt32).toInt = (L : Int) - 6 := by rw [Int32.toInt_sub, eL, e6]; exact hy_bm (by omega) (by omega)
    refine AR.icmp_gt (ax_look_ok hk_285_30).1 (tgt := 1369) (by decide) (fun _ => ?_) (fun ng => ?_)
    · refine AR.iconst (ax_look_ok hk_285_1369).1 ?_
      exact AR.at (Or.inr (Or.inl ⟨_, .boolean, rfl, by decide, rfl, (ax_look_ok hk_285_1370).1, hr_285, rfl⟩))
    · have i1 : i.toInt + 6 ≤ L := by
        have := mt Int32.lt_iff_toInt_lt.mpr ng
        omega
      refine AR.aload_n (ax_look_ok hk_285_33).1 (x := .ref 1000000001) rfl rfl ?_
      refine AR.iload (ax_look_ok hk_285_34).1 (x := .int i) rfl rfl ?_
      have hq := hj_nn i0
      have hlt : i.toNatClampNeg < L := by omega
      refine AR.iaload (vs := (List.range L).map (fun j => .int (xs j))) (x := .int (xs i.toNatClampNeg)) (ax_look_ok hk_285_36).1 rfl hq.1 (by rw [List.getElem?_map, List.getElem?_range hlt]; rfl) ?_
      refine AR.bipush (ax_look_ok hk_285_37).1 ?_
      refine AR.iand (ax_look_ok hk_285_39).1 rfl ?_
      have e63 : (Int8.ofInt 63).toInt32 = 63 := by decide
      rw [e63]
      obtain ⟨k, hk, e⟩ := lw_and63 (xs i.toNatClampNeg)
      show AR ax_ns l (ax_mm 285) 13 (ax_r L xs) lw_PE lw_XE 40 [(4, .int i), (3, .ref 197), (2, .ref 181), (1, .ref 0), (0, .ref 1000000001)] [.int (xs i.toNatClampNeg &&& 63)] h (1177 * (m + 1)) (14024 * (m + 1))
      rw [e, Nat.mul_succ, Nat.mul_succ]
      refine lw_sw hlst G i0 i1 hL I (fun h' I' => ?_) k hk
      refine AR.iinc (x := .int i) (z := .int (i + Int32.ofInt 6)) (ax_look_ok hk_285_1363).1 (by decide +kernel) rfl rfl ?_
      refine AR.goto (ax_look_ok hk_285_1366).1 (tgt := 23) (by decide) ?_
      have e9 : (i + Int32.ofInt 6).toInt = i.toInt + 6 := by rw [Int32.toInt_add, show (Int32.ofInt 6).toInt = 6 from by decide]; exact hy_bm (by omega) (by omega)
      exact ih (i + Int32.ofInt 6) h' (by omega) (by omega) I'
theorem lw_law (hlst : l.stackTraces = false) (hL : L ≤ 3072) : AR ax_ns l (ax_mm 285) 13 (ax_r L xs) lw_PE lw_XE 0 [(0, .ref 1000000001)] [] [] 603072 7186538 :=
  lw_to23 hlst (AR.lt (by omega) (by omega) (lw_loop hlst (hg_G hlst) hL 512 0 ax_mid rfl (by decide) lw_midI))
end LWS
