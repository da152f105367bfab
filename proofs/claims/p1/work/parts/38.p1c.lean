/-! p1: THE LAW from its entry -/
section AXP
variable {l : Launch} {xs : Nat → Int32}
set_option maxRecDepth 100000 in
theorem ax_opd (hl : l.stackTraces = false) (k : Nat) (hk : k < 23) : ax_go40 l xs (k + 41) :=
  ax_fin hl (as := [.float 0, .float 0, .float 0, .float 0, .float 0, .float 0]) (ax_rng (p := fun k => ax_runs ax_no (k + 41) [.float 0, .float 0, .float 0, .float 0, .float 0, .float 0]) (by decide +kernel) k hk) rfl (ax_hv6 (ax_any _) (ax_any _) (ax_any _) (ax_any _) (ax_any _) (ax_any _))
theorem ax_ops (hl : l.stackTraces = false) (k : Nat) (hk : k < 64) : ax_go40 l xs k := by
  match k, hk with
  | 0, _ => exact ax_op0 hl
  | 1, _ => exact ax_op1 hl
  | 2, _ => exact ax_op2 hl
  | 3, _ => exact ax_op3 hl
  | 4, _ => exact ax_op4 hl
  | 5, _ => exact ax_op5 hl
  | 6, _ => exact ax_op6 hl
  | 7, _ => exact ax_op7 hl
  | 8, _ => exact ax_op8 hl
  | 9, _ => exact ax_op9 hl
  | 10, _ => exact ax_op10 hl
  | 11, _ => exact ax_op11 hl
  | 12, _ => exact ax_op12 hl
  | 13, _ => exact ax_op13 hl
  | 14, _ => exact ax_op14 hl
  | 15, _ => exact ax_op15 hl
  | 16, _ => exact ax_op16 hl
  | 17, _ => exact ax_op17 hl
  | 18, _ => exact ax_op18 hl
  | 19, _ => exact ax_op19 hl
  | 20, _ => exact ax_op20 hl
  | 21, _ => exact ax_op21 hl
  | 22, _ => exact ax_op22 hl
  | 23, _ => exact ax_op23 hl
  | 24, _ => exact ax_op24 hl
  | 25, _ => exact ax_op25 hl
  | 26, _ => exact ax_op26 hl
  | 27, _ => exact ax_op27 hl
  | 28, _ => exact ax_op28 hl
  | 29, _ => exact ax_op29 hl
  | 30, _ => exact ax_op30 hl
  | 31, _ => exact ax_op31 hl
  | 32, _ => exact ax_op32 hl
  | 33, _ => exact ax_op33 hl
  | 34, _ => exact ax_op34 hl
  | 35, _ => exact ax_op35 hl
  | 36, _ => exact ax_op36 hl
  | 37, _ => exact ax_op37 hl
  | 38, _ => exact ax_op38 hl
  | 39, _ => exact ax_op39 hl
  | 40, _ => exact ax_op40 hl
  | k + 41, hk => exact ax_opd hl k (by omega)
theorem ax_and63 (i : Int32) : ∃ k, k < 64 ∧ i &&& 63 = Int32.ofNat k := by
  refine ⟨(i &&& 63).toBitVec.toNat, ?_, ?_⟩
  · rw [Int32.toBitVec_and, BitVec.toNat_and]
    exact Nat.lt_of_le_of_lt Nat.and_le_right (by decide)
  · apply Int32.toBitVec.inj
    simp
theorem ax_d33 : decode (ax_mm 260).2.1 33 = .ok (.aload_n 0, 1) := (ax_look_ok (e := (.aload_n 0, (0, 0, 0), .null, [])) (by decide +kernel)).1
theorem ax_d34 : decode (ax_mm 260).2.1 34 = .ok (.iload 4, 2) := (ax_look_ok (e := (.iload 4, (0, 0, 0), .null, [])) (by decide +kernel)).1
theorem ax_d36 : decode (ax_mm 260).2.1 36 = .ok (.iaload, 1) := (ax_look_ok (e := (.iaload, (0, 0, 0), .null, [])) (by decide +kernel)).1
theorem ax_d37 : decode (ax_mm 260).2.1 37 = .ok (.bipush 63, 2) := (ax_look_ok (e := (.bipush 63, (0, 0, 0), .null, [])) (by decide +kernel)).1
theorem ax_d39 : decode (ax_mm 260).2.1 39 = .ok (.iand, 1) := (ax_look_ok (e := (.iand, (0, 0, 0), .null, [])) (by decide +kernel)).1
theorem ax_at33 (hl : l.stackTraces = false) : AR ax_ns l (ax_mm 260) 9 (ax_r 6 xs) ax_PE ax_XE 33 ax_lvm [] ax_mid (600006 - 198) (7302024 - 5811) := by
  refine AR.aload_n ax_d33 (x := .ref 1000000001) rfl rfl ?_
  refine AR.iload ax_d34 (x := .int 0) rfl rfl ?_
  refine AR.iaload ax_d36 (vs := (List.range 6).map (fun j => .int (xs j))) (x := .int (xs 0)) rfl (by decide) rfl ?_
  refine AR.bipush ax_d37 ?_
  refine AR.iand ax_d39 rfl ?_
  have e63 : (Int8.ofInt 63).toInt32 = 63 := by decide
  rw [e63]
  obtain ⟨k, hk, e⟩ := ax_and63 (xs 0)
  show AR ax_ns l (ax_mm 260) 9 (ax_r 6 xs) ax_PE ax_XE 40 ax_lvm [.int (xs 0 &&& 63)] ax_mid (600006 - 198) (7302024 - 5811)
  rw [e]
  exact ax_ops hl k hk
set_option maxRecDepth 100000 in
theorem ax_pre0 : ax_reach (ax_to [(101, ax_bits)] (ax_cl [(101, ax_bits)] ax_no 20000 8) 260 23 20000 0 [(0, .ref 1000000001)] [] [] 0 0) ax_lvm [] ax_mid 198 5811 = true := by decide +kernel
theorem ax_to23 (hl : l.stackTraces = false) {L : Nat} (K : AR ax_ns l (ax_mm 260) 9 (ax_r L xs) ax_PE ax_XE 23 ax_lvm [] ax_mid (600006 - 198) (7302024 - 5811)) : AR ax_ns l (ax_mm 260) 9 (ax_r L xs) ax_PE ax_XE 0 [(0, .ref 1000000001)] [] [] 600006 7302024 := by
  have h1 : AR ax_ns l (ax_mm 260) 9 [(101, ax_bits)] (fun pc lv st h bc bs => pc = 23 ∧ lv = ax_lvm ∧ st = [] ∧ h = ax_mid ∧ bc = 600006 - 198 ∧ bs = 7302024 - 5811) ax_XE 0 [(0, .ref 1000000001)] [] [] 600006 7302024 :=
    AR.cast (by omega) (by omega) (ax_run_to (l := l) (dy := 8) (bc := 600006 - 198) (bs := 7302024 - 5811) (fun a as h res h' dc ds q => ax_cl_ok hl ax_no_ok 8 a as h res h' dc ds q) ax_pre0 (AR.at ⟨rfl, rfl, rfl, rfl, rfl, rfl⟩))
  refine AR.then (AR.weak (fun s b o H q k z hz => ?_) h1) (fun pc lv st h bc bs hp => ?_)
  · match k, hz with
    | 0, hz => exact q 0 z hz
    | k + 1, hz => simp at hz
  · obtain ⟨rfl, rfl, rfl, rfl, rfl, rfl⟩ := hp
    exact K
set_option maxRecDepth 100000 in
theorem ax_six0 : ax_reach (ax_to (ax_rU [.float 0, .float 0, .float 0, .float 0, .float 0, .float 0]) (ax_cl (ax_rU [.float 0, .float 0, .float 0, .float 0, .float 0, .float 0]) ax_no 100 8) 260 33 100 23 ax_lvm [] ax_mid 0 0) ax_lvm [] ax_mid 0 0 = true := by decide +kernel
theorem ax_six (hl : l.stackTraces = false) : AR ax_ns l (ax_mm 260) 9 (ax_r 6 xs) ax_PE ax_XE 0 [(0, .ref 1000000001)] [] [] 600006 7302024 := by
  refine ax_to23 hl ?_
  have h1 : AR ax_ns l (ax_mm 260) 9 (ax_rU [.float 0, .float 0, .float 0, .float 0, .float 0, .float 0]) (fun pc lv st h bc bs => pc = 33 ∧ lv = ax_lvm ∧ st = [] ∧ h = ax_mid ∧ bc = 600006 - 198 ∧ bs = 7302024 - 5811) ax_XE 23 ax_lvm [] ax_mid (600006 - 198) (7302024 - 5811) :=
    AR.cast (by omega) (by omega) (ax_run_to (l := l) (dy := 8) (bc := 600006 - 198) (bs := 7302024 - 5811) (fun a as h res h' dc ds q => ax_cl_ok hl ax_no_ok 8 a as h res h' dc ds q) ax_six0 (AR.at ⟨rfl, rfl, rfl, rfl, rfl, rfl⟩))
  refine AR.then (AR.weak (fun s b o H q => ax_O_script rfl (ax_hv6 (ax_any _) (ax_any _) (ax_any _) (ax_any _) (ax_any _) (ax_any _)) q) h1) (fun pc lv st h bc bs hp => ?_)
  obtain ⟨rfl, rfl, rfl, rfl, rfl, rfl⟩ := hp
  exact ax_at33 hl
noncomputable def ax_run0 (as : List Value) : Bool := match ax_ex (ax_rU as) (ax_cl (ax_rU as) ax_no 200 8) 260 200 23 ax_lvm [] ax_mid 198 5811 with
  | some (.inl (some (.int 1)), _, uc, us) => Nat.ble uc 600006 && Nat.ble us 7302024
  | _ => false
theorem ax_run0_ok (hl : l.stackTraces = false) {as : List Value} (h : ax_run0 as = true) : AR ax_ns l (ax_mm 260) 9 (ax_rU as) ax_PE ax_XE 23 ax_lvm [] ax_mid (600006 - 198) (7302024 - 5811) := by
  unfold ax_run0 at h
  split at h
  · rename_i h1 uc us he
    simp only [Bool.and_eq_true] at h
    have g1 := Nat.le_of_ble_eq_true h.1
    have g2 := Nat.le_of_ble_eq_true h.2
    obtain ⟨e1, e2, K⟩ := ax_ex_ok (l := l) (dy := 8) (fun a as h res h' dc ds q => ax_cl_ok hl ax_no_ok 8 a as h res h' dc ds q) _ _ _ _ _ _ _ _ _ _ _ he
    refine AR.lt (by omega) (by omega) (AR.post K (fun pc lv st h bc bs q => ax_ret_mono (fun res h q => q.1) q) (fun pc lv E h bc bs q => ?_))
    exact absurd q.2.1 (by intro e; cases e)
  · cases h
set_option maxRecDepth 100000 in
theorem ax_short : (List.range 6).all (fun L => ax_run0 (List.replicate L (.float 0))) = true := by decide +kernel
theorem ax_law (hl : l.stackTraces = false) {L : Nat} (hL : L ≤ 6) : AR ax_ns l (ax_mm 260) 9 (ax_r L xs) ax_PE ax_XE 0 [(0, .ref 1000000001)] [] [] 600006 7302024 := by
  rcases Nat.lt_or_ge L 6 with h | h
  · refine ax_to23 hl (AR.weak (fun s b o H q => ax_O_script (as := List.replicate L (.float 0)) (by simp) (fun j x hj => ?_) q) (ax_run0_ok hl (ax_rng (p := fun L => ax_run0 (List.replicate L (.float 0))) ax_short L h)))
    rw [List.getElem?_replicate] at hj
    split at hj
    · cases hj; exact ax_any _
    · cases hj
  · obtain rfl : L = 6 := by omega
    exact ax_six hl
end AXP
