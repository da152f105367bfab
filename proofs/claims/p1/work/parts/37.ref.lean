/-! THE REFERENCE'S explain ON A FRESH OBJECT, for all masks -/
def ax_m1 : ax_H := ax_mid ++ [(99, [])]
def ax_n0 (x : Int32) : ax_H := ax_mid.set 181 (9, [.int x, .int 0, .ref 182, .ref 183, .ref 184, .long 0, .ref 185, .int 0, .int 0, .int 0, .int 0, .int (-1), .ref 186, .ref 187, .int 0, .int 0, .long 0, .ref 188, .int 0, .int 0, .ref 189, .int 0, .ref 190, .ref 191, .int 0, .ref 192, .int 0, .ref 193, .int 0, .ref 194, .ref 195, .ref 196]) ++ [(99, [])]
def ax_n1 : ax_H := ax_n0 1
def ax_n2 : ax_H := ax_n0 2 ++ [(99, [])]
theorem ax_m1len : ax_m1.length = 199 := by decide +kernel
theorem ax_m1g {p : Nat × List Value} : (ax_m1 ++ [p])[199]? = some p := by
  rw [List.getElem?_append_right (by rw [ax_m1len]; decide), ax_m1len]
  rfl
theorem ax_m1s {p q : Nat × List Value} : (ax_m1 ++ [p]).set 199 q = ax_m1 ++ [q] := by
  rw [List.set_append_right _ _ (by rw [ax_m1len]; decide), ax_m1len]
  rfl
theorem ax_leh_self : ∀ (h : ax_H), ax_leh h h = true
  | [] => rfl
  | q :: t => by
    show (ax_lec q q && ax_leh t t) = true
    rw [ax_leh_self t, Bool.and_true]
    show (Nat.beq q.1 99 || (Nat.beq q.1 q.1 && ax_les q.2 q.2)) = true
    rw [ax_les_self, Nat.beq_refl]
    simp
theorem ax_leh_app {p q : Nat × List Value} (hpq : ax_lec p q = true) : ∀ (h : ax_H), ax_leh (h ++ [p]) (h ++ [q]) = true
  | [] => by
    show (ax_lec p q && true) = true
    rw [hpq]; rfl
  | z :: t => by
    show (ax_lec z z && ax_leh (t ++ [p]) (t ++ [q])) = true
    rw [ax_leh_app hpq t, Bool.and_true]
    show (Nat.beq z.1 99 || (Nat.beq z.1 z.1 && ax_les z.2 z.2)) = true
    rw [ax_les_self, Nat.beq_refl]
    simp
/-- is this literal asked for? -/
def ax_wv (Y N l : Nat) : Int32 := if (if l % 2 = 0 then Y else N).testBit (l / 2) = true then Int32.ofInt 1 else Int32.ofInt 0
theorem ax_wv01 (Y N l : Nat) : ax_wv Y N l = Int32.ofInt 0 ∨ ax_wv Y N l = Int32.ofInt 1 := by
  unfold ax_wv
  by_cases hb : (if l % 2 = 0 then Y else N).testBit (l / 2) = true
  · rw [if_pos hb]; exact Or.inr rfl
  · rw [if_neg hb]; exact Or.inl rfl
def ax_wz (Y N v : Nat) : List Value := (List.range 24).map (fun l => if l < 2 * v then .int (ax_wv Y N l) else .int 0)
theorem ax_wz_len {Y N v : Nat} : (ax_wz Y N v).length = 24 := by simp [ax_wz]
theorem ax_wz_at {Y N v l : Nat} (h : l < 24) : (ax_wz Y N v)[l]? = some (if l < 2 * v then .int (ax_wv Y N l) else .int 0) := by
  simp [ax_wz, h]
theorem ax_wz_0 {Y N : Nat} : ax_wz Y N 0 = List.replicate 24 (.int 0) := by
  simp [ax_wz]
  rfl
theorem ax_wz_s {Y N v : Nat} (h : v < 12) : ((ax_wz Y N v).set (2 * v) (.int (ax_wv Y N (2 * v)))).set (2 * v + 1) (.int (ax_wv Y N (2 * v + 1))) = ax_wz Y N (v + 1) := by
  apply List.ext_getElem?
  intro i
  rcases Nat.lt_or_ge i 24 with hi | hi
  · rw [ax_wz_at hi, List.getElem?_set]
    by_cases h1 : 2 * v + 1 = i
    · rw [if_pos h1, if_pos (by rw [List.length_set, ax_wz_len]; omega), if_pos (by omega), h1]
    · rw [if_neg h1, List.getElem?_set]
      by_cases h2 : 2 * v = i
      · rw [if_pos h2, if_pos (by rw [ax_wz_len]; omega), if_pos (by omega), h2]
      · rw [if_neg h2, ax_wz_at hi]
        by_cases h3 : i < 2 * v
        · rw [if_pos h3, if_pos (by omega)]
        · rw [if_neg h3, if_neg (by omega)]
  · rw [List.getElem?_eq_none (by rw [List.length_set, List.length_set, ax_wz_len]; omega), List.getElem?_eq_none (by rw [ax_wz_len]; omega)]
theorem ax_tv_1 {Y N l : Nat} (hY : Y < 4096) (hl : l < 24) (hYN : Y &&& N = 0) (hw : ¬ ax_wv Y N l = 0) : ax_tv (nI Y) (nI l) = Int32.ofInt 1 := by
  have hw2 : (if l % 2 = 0 then Y else N).testBit (l / 2) = true := by
    by_cases hb : (if l % 2 = 0 then Y else N).testBit (l / 2) = true
    · exact hb
    · exact (hw (by unfold ax_wv; rw [if_neg hb]; decide)).elim
  have e2 : Int32.ofInt 2 = nI 2 := by decide
  have e1 : Int32.ofInt 1 = nI 1 := by decide
  have hd : nI l / Int32.ofInt 2 = nI (l / 2) := by rw [e2]; exact pk_div (by omega) (by decide) (by decide)
  have hm : nI l - nI (l / 2) * Int32.ofInt 2 = nI (l % 2) := by rw [e2, ← pk_div (by omega) (by decide) (by decide)]; exact pk_rem (by omega) (by decide) (by decide)
  unfold ax_tv
  rw [hd, hm]
  rw [if_pos]
  rw [ax_bitv hY (by omega), e1]
  rcases (by omega : l % 2 = 0 ∨ l % 2 = 1) with h0 | h0
  · rw [if_pos h0, Nat.testBit_eq_decide_div_mod_eq, decide_eq_true_eq] at hw2
    rw [h0, hw2]
    decide
  · rw [if_neg (by omega)] at hw2
    have h3 : Y.testBit (l / 2) = false := by
      cases h5 : Y.testBit (l / 2) with
      | false => rfl
      | true => rw [ax_dj hYN h5] at hw2; cases hw2
    rw [Nat.testBit_eq_decide_div_mod_eq, decide_eq_false_iff_not] at h3
    have h4 : Y / 2 ^ (l / 2) % 2 = 0 := by
      have := Nat.mod_lt (Y / 2 ^ (l / 2)) (show 2 > 0 by decide)
      omega
    rw [h0, h4]
    decide
section AXB
variable {l : Launch} {d : Nat} {r : ax_H} {P : ax_P} {X : ax_PX} {i pc : Nat} {lv : List (Nat × Value)} {st : List Value} {h : ax_H} {bc bs : Nat} {Q : ax_Q}
theorem AR.lessH {h' : ax_H} (hh : ax_leh h' h = true) (K : AR ax_ns l (ax_mm i) d r P X pc lv st h' bc bs) : AR ax_ns l (ax_mm i) d r P X pc lv st h bc bs :=
  AR.less (fun q hq => ⟨q.2, hq, ax_le_self q.2⟩) (ax_les_self st) hh K
/-- a step that makes things -/
theorem AR.sn (e : ax_E2) {pc' nL dc ds : Nat} {lv' : List (Nat × Value)} {st' : List Value} {h' : ax_H} (hn : (ax_mm i).2.2.1 = nL) (hl : ax_look i pc = some e) (hs : ax_one r nL pc e.1 e.2.1.1 e.2.1.2.1 e.2.1.2.2 e.2.2.1 lv st h = some (pc', lv', st', h', dc, ds)) (h1 : dc ≤ bc) (h2 : ds ≤ bs) (K : AR ax_ns l (ax_mm i) d r P X pc' lv' st' h' (bc - dc) (bs - ds)) : AR ax_ns l (ax_mm i) d r P X pc lv st h bc bs := by
  subst hn
  obtain ⟨hd, hok⟩ := ax_look_ok hl
  exact AR.cast (by omega) (by omega) (ax_one_ok hd hok hs K)
set_option maxRecDepth 100000 in
theorem ax_k204 : ax_rets (ax_cl [] ax_no 2000 2 204 [.float 9] ax_m1) (.int 1) ax_m1 0 0 = true := by decide +kernel
set_option maxRecDepth 100000 in
theorem ax_k132a : ax_rets (ax_cl [] ax_no 2000 2 132 [.ref 181, .int 1] ax_m1) (.int 0) ax_n1 0 0 = true := by decide +kernel
set_option maxRecDepth 100000 in
theorem ax_k132b : ax_rets (ax_cl [] ax_no 2000 2 132 [.ref 181, .int 2] (ax_m1 ++ [(99, [])])) (.int 0) ax_n2 0 0 = true := by decide +kernel
theorem ax_isModel (hl : l.stackTraces = false) (m : Int32) (ws : List Value) : AM ax_ns l (ax_mm 200) d r 0 0 [.ref 181, .int m] (ax_m1 ++ [(102, ws)]) (ax_QR (.inl (some (.int (Int32.ofInt 1)))) (ax_m1 ++ [(102, ws)])) := by
  have hn : (ax_mm 200).2.2.1 = 6 := by decide +kernel
  have ht : (ax_mm 200).2.2.2.1 = some .boolean := by decide +kernel
  refine ax_of (as := [.ref 181, .int m]) (lv0 := [(0, .ref 181), (1, .int m)]) rfl hl (by decide +kernel) hn (by show 2 ≤ 6; decide) ?_
  refine AR.s (.iconst 0, (0, 0, 0), .null, []) hn (by decide +kernel) rfl ?_
  refine AR.s (.istore_n 2, (0, 0, 0), .null, []) hn (by decide +kernel) rfl ?_
  refine AR.s (.iload_n 2, (0, 0, 0), .null, []) hn (by decide +kernel) rfl ?_
  refine AR.s (.aload_n 0, (0, 0, 0), .null, []) hn (by decide +kernel) rfl ?_
  refine AR.s (.getfield 64, (9, 1, 0), .null, [6177]) hn (by decide +kernel) rfl ?_
  refine AR.icmp_ge (off := 63) (tgt := 70) (ax_look_ok (i := 200) (pc := 7) (e := (.if_icmp .ge 63, (0, 0, 0), .null, [])) (by decide +kernel)).1 (by decide) (fun _ => ?_) (fun hn => absurd (by decide) hn)
  refine AR.s (.iconst 1, (0, 0, 0), .null, []) hn (by decide +kernel) rfl ?_
  exact ax_retI (ei := ((0, 0, 0), .null, [])) (by decide +kernel) ht (Or.inr rfl) rfl ⟨rfl, rfl⟩
theorem ax_isOurs (hl : l.stackTraces = false) (m : Int32) (ws : List Value) : AM ax_ns l (ax_mm 201) (d + 1) r 0 0 [.ref 181, .int m] (ax_m1 ++ [(102, ws)]) (ax_QR (.inl (some (.int (Int32.ofInt 1)))) (ax_m1 ++ [(102, ws)])) := by
  have hn : (ax_mm 201).2.2.1 = 4 := by decide +kernel
  have ht : (ax_mm 201).2.2.2.1 = some .boolean := by decide +kernel
  refine ax_of (as := [.ref 181, .int m]) (lv0 := [(0, .ref 181), (1, .int m)]) rfl hl (by decide +kernel) hn (by show 2 ≤ 4; decide) ?_
  refine AR.s (.iconst 1, (0, 0, 0), .null, []) hn (by decide +kernel) rfl ?_
  refine AR.s (.istore_n 2, (0, 0, 0), .null, []) hn (by decide +kernel) rfl ?_
  refine AR.s (.iconst 0, (0, 0, 0), .null, []) hn (by decide +kernel) rfl ?_
  refine AR.s (.istore_n 3, (0, 0, 0), .null, []) hn (by decide +kernel) rfl ?_
  refine AR.s (.iload_n 3, (0, 0, 0), .null, []) hn (by decide +kernel) rfl ?_
  refine AR.s (.aload_n 0, (0, 0, 0), .null, []) hn (by decide +kernel) rfl ?_
  refine AR.s (.getfield 244, (9, 21, 0), .null, [6197]) hn (by decide +kernel) rfl ?_
  refine AR.icmp_ge (off := 22) (tgt := 31) (ax_look_ok (i := 201) (pc := 9) (e := (.if_icmp .ge 22, (0, 0, 0), .null, [])) (by decide +kernel)).1 (by decide) (fun _ => ?_) (fun hn => absurd (by decide) hn)
  refine AR.s (.iload_n 2, (0, 0, 0), .null, []) hn (by decide +kernel) rfl ?_
  refine AR.s (.ifCond .eq 15, (0, 0, 0), .null, []) hn (by decide +kernel) rfl ?_
  refine AR.s (.aload_n 0, (0, 0, 0), .null, []) hn (by decide +kernel) rfl ?_
  refine AR.s (.iload_n 1, (0, 0, 0), .null, []) hn (by decide +kernel) rfl ?_
  refine AR.call (ins := .invokevirtual 173) (a := 200) (b := 1) (c := 9) (v := .null) (ws := [7141, 49]) (by decide +kernel) (ax_argV (q := 181) (rest := []) rfl rfl (by decide +kernel) (by decide +kernel) (by decide +kernel) (by show 1 ≤ 2; decide) (Nat.le_of_ble_eq_true rfl)) (ax_isModel (d := d) hl m ws) (Nat.le_refl _) (Nat.zero_le _) (Nat.zero_le _) (fun v h' hq => ?_) (fun E h' hq => ?_)
  rotate_left
  · obtain ⟨q1, -⟩ := hq
    cases q1
  obtain ⟨q1, q2⟩ := hq
  cases q1
  subst q2
  refine AR.s (.ifCond .eq 7, (0, 0, 0), .null, []) hn (by decide +kernel) rfl ?_
  refine AR.s (.iconst 1, (0, 0, 0), .null, []) hn (by decide +kernel) rfl ?_
  refine AR.s (.goto 4, (0, 0, 0), .null, []) hn (by decide +kernel) rfl ?_
  exact ax_retI (ei := ((0, 0, 0), .null, [])) (by decide +kernel) ht (Or.inr rfl) rfl ⟨rfl, rfl⟩
theorem ax_hm53 (hl : l.stackTraces = false) {Y N m j : Nat} : AR ax_ns l (ax_mm 213) 7 r (ax_ret ax_ns (ax_mm 213) (ax_QR (.inl (some (.int (Int32.ofInt 1)))) (ax_m1 ++ [(102, ax_wz Y N 12)]))) X 53 [(4, .int (nI j)), (3, .int (Int32.ofInt 1)), (2, .int (nI m)), (0, .ref 181), (1, .ref 199)] [] (ax_m1 ++ [(102, ax_wz Y N 12)]) 0 0 := by
  have hn : (ax_mm 213).2.2.1 = 5 := by decide +kernel
  have ht : (ax_mm 213).2.2.2.1 = some .boolean := by decide +kernel
  refine AR.s (.iload_n 3, (0, 0, 0), .null, []) hn (by decide +kernel) rfl ?_
  refine AR.s (.ifCond .eq 13, (0, 0, 0), .null, []) hn (by decide +kernel) rfl ?_
  refine AR.s (.aload_n 0, (0, 0, 0), .null, []) hn (by decide +kernel) rfl ?_
  refine AR.s (.iload_n 2, (0, 0, 0), .null, []) hn (by decide +kernel) rfl ?_
  refine AR.call (ins := .invokevirtual 256) (a := 201) (b := 1) (c := 9) (v := .null) (ws := [8080, 62]) (by decide +kernel) (ax_argV (q := 181) (rest := []) rfl rfl (by decide +kernel) (by decide +kernel) (by decide +kernel) (by show 1 ≤ 2; decide) (Nat.le_of_ble_eq_true rfl)) (ax_isOurs (d := 5) hl (nI m) (ax_wz Y N 12)) (Nat.le_refl _) (Nat.zero_le _) (Nat.zero_le _) (fun v h' hq => ?_) (fun E h' hq => ?_)
  rotate_left
  · obtain ⟨q1, -⟩ := hq
    cases q1
  obtain ⟨q1, q2⟩ := hq
  cases q1
  subst q2
  refine AR.s (.ifCond .eq 5, (0, 0, 0), .null, []) hn (by decide +kernel) rfl ?_
  refine AR.s (.iconst 1, (0, 0, 0), .null, []) hn (by decide +kernel) rfl ?_
  exact ax_retI (ei := ((0, 0, 0), .null, [])) (by decide +kernel) ht (Or.inr rfl) rfl ⟨rfl, rfl⟩
theorem ax_hm0 {Y N m j : Nat} (hj : j ≤ 24) (ih : AR ax_ns l (ax_mm 213) 7 r (ax_ret ax_ns (ax_mm 213) (ax_QR (.inl (some (.int (Int32.ofInt 1)))) (ax_m1 ++ [(102, ax_wz Y N 12)]))) X 2 [(2, .int (nI (m + 1))), (0, .ref 181), (1, .ref 199)] [] (ax_m1 ++ [(102, ax_wz Y N 12)]) 0 0) : AR ax_ns l (ax_mm 213) 7 r (ax_ret ax_ns (ax_mm 213) (ax_QR (.inl (some (.int (Int32.ofInt 1)))) (ax_m1 ++ [(102, ax_wz Y N 12)]))) X 14 [(4, .int (nI j)), (3, .int (Int32.ofInt 0)), (2, .int (nI m)), (0, .ref 181), (1, .ref 199)] [] (ax_m1 ++ [(102, ax_wz Y N 12)]) 0 0 := by
  have hn : (ax_mm 213).2.2.1 = 5 := by decide +kernel
  have k53 : AR ax_ns l (ax_mm 213) 7 r (ax_ret ax_ns (ax_mm 213) (ax_QR (.inl (some (.int (Int32.ofInt 1)))) (ax_m1 ++ [(102, ax_wz Y N 12)]))) X 53 [(4, .int (nI j)), (3, .int (Int32.ofInt 0)), (2, .int (nI m)), (0, .ref 181), (1, .ref 199)] [] (ax_m1 ++ [(102, ax_wz Y N 12)]) 0 0 := by
    refine AR.s (.iload_n 3, (0, 0, 0), .null, []) hn (by decide +kernel) rfl ?_
    refine AR.s (.ifCond .eq 13, (0, 0, 0), .null, []) hn (by decide +kernel) rfl ?_
    refine AR.iinc (x := .int (nI m)) (ax_look_ok (i := 213) (pc := 67) (e := (.iinc 2 1, (0, 0, 0), .null, [])) (by decide +kernel)).1 (by rw [hn]; decide) rfl rfl ?_
    refine AR.goto (tgt := 2) (ax_look_ok (i := 213) (pc := 70) (e := (.goto (-68), (0, 0, 0), .null, [])) (by decide +kernel)).1 (by decide) ?_
    have e9 : nI m + Int32.ofInt 1 = nI (m + 1) := by rw [show Int32.ofInt 1 = 1 from by decide, ← nI_succ]
    refine AR.sub (lv' := [(2, .int (nI (m + 1))), (0, .ref 181), (1, .ref 199)]) ?_ ih
    intro q hq
    simp only [List.mem_cons, List.not_mem_nil, or_false] at hq
    rcases hq with h | h | h <;> subst h <;> (first | (simp [ax_s1, ax_k1, nI_succ, Value.category]; done) | (simp [ax_s1, ax_k1, nI_succ, Value.category]; rfl))
  refine AR.s (.iload 4, (0, 0, 0), .null, []) hn (by decide +kernel) rfl ?_
  refine AR.s (.bipush 24, (0, 0, 0), .null, []) hn (by decide +kernel) rfl ?_
  refine AR.icmp_ge (off := 35) (tgt := 53) (ax_look_ok (i := 213) (pc := 18) (e := (.if_icmp .ge 35, (0, 0, 0), .null, [])) (by decide +kernel)).1 (by decide) (fun _ => k53) (fun _ => ?_)
  refine AR.s (.iload_n 3, (0, 0, 0), .null, []) hn (by decide +kernel) rfl ?_
  refine AR.s (.ifCond .eq 31, (0, 0, 0), .null, []) hn (by decide +kernel) rfl ?_
  exact k53
theorem ax_hm1 (hl : l.stackTraces = false) {Y N m : Nat} (hY : Y < 4096) (hm : m ≤ Y) (hYN : Y &&& N = 0) (ih : m < Y → AR ax_ns l (ax_mm 213) 7 r (ax_ret ax_ns (ax_mm 213) (ax_QR (.inl (some (.int (Int32.ofInt 1)))) (ax_m1 ++ [(102, ax_wz Y N 12)]))) X 2 [(2, .int (nI (m + 1))), (0, .ref 181), (1, .ref 199)] [] (ax_m1 ++ [(102, ax_wz Y N 12)]) 0 0) : ∀ (t j : Nat), j + t = 24 → AR ax_ns l (ax_mm 213) 7 r (ax_ret ax_ns (ax_mm 213) (ax_QR (.inl (some (.int (Int32.ofInt 1)))) (ax_m1 ++ [(102, ax_wz Y N 12)]))) X 14 [(4, .int (nI j)), (3, .int (Int32.ofInt 1)), (2, .int (nI m)), (0, .ref 181), (1, .ref 199)] [] (ax_m1 ++ [(102, ax_wz Y N 12)]) 0 0 := by
  have hn : (ax_mm 213).2.2.1 = 5 := by decide +kernel
  intro t
  induction t with
  | zero =>
    intro j hj
    obtain rfl : j = 24 := by omega
    refine AR.s (.iload 4, (0, 0, 0), .null, []) hn (by decide +kernel) rfl ?_
    refine AR.s (.bipush 24, (0, 0, 0), .null, []) hn (by decide +kernel) rfl ?_
    exact AR.icmp_ge (off := 35) (tgt := 53) (ax_look_ok (i := 213) (pc := 18) (e := (.if_icmp .ge 35, (0, 0, 0), .null, [])) (by decide +kernel)).1 (by decide) (fun _ => ax_hm53 hl) (fun hn => absurd (by decide) hn)
  | succ t iht =>
    intro j hj
    have e9 : nI j + Int32.ofInt 1 = nI (j + 1) := by rw [show Int32.ofInt 1 = 1 from by decide, ← nI_succ]
    have k46 : AR ax_ns l (ax_mm 213) 7 r (ax_ret ax_ns (ax_mm 213) (ax_QR (.inl (some (.int (Int32.ofInt 1)))) (ax_m1 ++ [(102, ax_wz Y N 12)]))) X 46 [(4, .int (nI j)), (3, .int (Int32.ofInt 1)), (2, .int (nI m)), (0, .ref 181), (1, .ref 199)] [.int (Int32.ofInt 1)] (ax_m1 ++ [(102, ax_wz Y N 12)]) 0 0 := by
      refine AR.s (.istore_n 3, (0, 0, 0), .null, []) hn (by decide +kernel) rfl ?_
      refine AR.iinc (x := .int (nI j)) (ax_look_ok (i := 213) (pc := 47) (e := (.iinc 4 1, (0, 0, 0), .null, [])) (by decide +kernel)).1 (by rw [hn]; decide) rfl rfl ?_
      refine AR.goto (tgt := 14) (ax_look_ok (i := 213) (pc := 50) (e := (.goto (-36), (0, 0, 0), .null, [])) (by decide +kernel)).1 (by decide) ?_
      refine AR.sub (lv' := [(4, .int (nI (j + 1))), (3, .int (Int32.ofInt 1)), (2, .int (nI m)), (0, .ref 181), (1, .ref 199)]) ?_ (iht (j + 1) (by omega))
      intro q hq
      simp only [List.mem_cons, List.not_mem_nil, or_false] at hq
      rcases hq with h | h | h | h | h <;> subst h <;> (first | (simp [ax_s1, ax_k1, nI_succ, Value.category]; done) | (simp [ax_s1, ax_k1, nI_succ, Value.category]; rfl))
    have k41 : AR ax_ns l (ax_mm 213) 7 r (ax_ret ax_ns (ax_mm 213) (ax_QR (.inl (some (.int (Int32.ofInt 1)))) (ax_m1 ++ [(102, ax_wz Y N 12)]))) X 41 [(4, .int (nI j)), (3, .int (Int32.ofInt 1)), (2, .int (nI m)), (0, .ref 181), (1, .ref 199)] [] (ax_m1 ++ [(102, ax_wz Y N 12)]) 0 0 := by
      refine AR.s (.iconst 1, (0, 0, 0), .null, []) hn (by decide +kernel) rfl ?_
      refine AR.s (.goto 4, (0, 0, 0), .null, []) hn (by decide +kernel) rfl ?_
      exact k46
    refine AR.s (.iload 4, (0, 0, 0), .null, []) hn (by decide +kernel) rfl ?_
    refine AR.s (.bipush 24, (0, 0, 0), .null, []) hn (by decide +kernel) rfl ?_
    refine AR.icmp_ge (off := 35) (tgt := 53) (ax_look_ok (i := 213) (pc := 18) (e := (.if_icmp .ge 35, (0, 0, 0), .null, [])) (by decide +kernel)).1 (by decide) (fun hge => ?_) (fun _ => ?_)
    · exfalso
      have : (Int8.ofInt 24).toInt32 = nI 24 := by decide
      rw [this, nI_leI (by omega) (by omega)] at hge
      omega
    refine AR.s (.iload_n 3, (0, 0, 0), .null, []) hn (by decide +kernel) rfl ?_
    refine AR.s (.ifCond .eq 31, (0, 0, 0), .null, []) hn (by decide +kernel) rfl ?_
    refine AR.s (.aload_n 1, (0, 0, 0), .null, []) hn (by decide +kernel) rfl ?_
    refine AR.s (.iload 4, (0, 0, 0), .null, []) hn (by decide +kernel) rfl ?_
    refine AR.zaload (vs := ax_wz Y N 12) (x := .int (ax_wv Y N j)) (ax_look_ok (i := 213) (pc := 28) (e := (.baload, (0, 0, 0), .null, [])) (by decide +kernel)).1 ax_m1g (nI_pos (by omega)) (by rw [nI_clamp (by omega), ax_wz_at (by omega), if_pos (by omega)]) ?_
    refine AR.if_eq (off := 12) (tgt := 41) (ax_look_ok (i := 213) (pc := 29) (e := (.ifCond .eq 12, (0, 0, 0), .null, [])) (by decide +kernel)).1 (by decide) (fun _ => k41) (fun hw => ?_)
    refine AR.s (.iload_n 2, (0, 0, 0), .null, []) hn (by decide +kernel) rfl ?_
    refine AR.s (.iload 4, (0, 0, 0), .null, []) hn (by decide +kernel) rfl ?_
    refine AR.call (ins := .invokestatic 169) (a := 199) (b := 2) (c := 0) (v := .null) (ws := [7145]) (by decide +kernel) (ax_argS (by decide +kernel) (by decide +kernel) (by show 2 ≤ 2; decide) (Nat.le_of_ble_eq_true rfl)) (ax_isTrue (d := 6) hl (nI m) (nI j)) (Nat.le_refl _) (Nat.zero_le _) (Nat.zero_le _) (fun v h' hq => ?_) (fun E h' hq => ?_)
    rotate_left
    · obtain ⟨q1, -⟩ := hq
      cases q1
    obtain ⟨q1, q2⟩ := hq
    cases q1
    subst q2
    refine AR.if_eq (off := 7) (tgt := 45) (ax_look_ok (i := 213) (pc := 38) (e := (.ifCond .eq 7, (0, 0, 0), .null, [])) (by decide +kernel)).1 (by decide) (fun h0 => ?_) (fun _ => k41)
    have hmY : m < Y := by
      rcases Nat.lt_or_ge m Y with h | h
      · exact h
      · exfalso
        obtain rfl : m = Y := by omega
        rw [ax_tv_1 hY (by omega) hYN hw] at h0
        exact absurd h0 (by decide)
    refine AR.s (.iconst 0, (0, 0, 0), .null, []) hn (by decide +kernel) rfl ?_
    refine AR.s (.istore_n 3, (0, 0, 0), .null, []) hn (by decide +kernel) rfl ?_
    refine AR.iinc (x := .int (nI j)) (ax_look_ok (i := 213) (pc := 47) (e := (.iinc 4 1, (0, 0, 0), .null, [])) (by decide +kernel)).1 (by rw [hn]; decide) rfl rfl ?_
    refine AR.goto (tgt := 14) (ax_look_ok (i := 213) (pc := 50) (e := (.goto (-36), (0, 0, 0), .null, [])) (by decide +kernel)).1 (by decide) ?_
    refine AR.sub (lv' := [(4, .int (nI (j + 1))), (3, .int (Int32.ofInt 0)), (2, .int (nI m)), (0, .ref 181), (1, .ref 199)]) ?_ (ax_hm0 (by omega) (ih hmY))
    intro q hq
    simp only [List.mem_cons, List.not_mem_nil, or_false] at hq
    rcases hq with h | h | h | h | h <;> subst h <;> (first | (simp [ax_s1, ax_k1, nI_succ, Value.category]; done) | (simp [ax_s1, ax_k1, nI_succ, Value.category]; rfl))
theorem ax_hm2 (hl : l.stackTraces = false) {Y N : Nat} (hY : Y < 4096) (hYN : Y &&& N = 0) : ∀ (t m : Nat), m + t = Y → AR ax_ns l (ax_mm 213) 7 r (ax_ret ax_ns (ax_mm 213) (ax_QR (.inl (some (.int (Int32.ofInt 1)))) (ax_m1 ++ [(102, ax_wz Y N 12)]))) X 2 [(2, .int (nI m)), (0, .ref 181), (1, .ref 199)] [] (ax_m1 ++ [(102, ax_wz Y N 12)]) 0 0 := by
  have hn : (ax_mm 213).2.2.1 = 5 := by decide +kernel
  have step : ∀ m, m ≤ Y → (m < Y → AR ax_ns l (ax_mm 213) 7 r (ax_ret ax_ns (ax_mm 213) (ax_QR (.inl (some (.int (Int32.ofInt 1)))) (ax_m1 ++ [(102, ax_wz Y N 12)]))) X 2 [(2, .int (nI (m + 1))), (0, .ref 181), (1, .ref 199)] [] (ax_m1 ++ [(102, ax_wz Y N 12)]) 0 0) → AR ax_ns l (ax_mm 213) 7 r (ax_ret ax_ns (ax_mm 213) (ax_QR (.inl (some (.int (Int32.ofInt 1)))) (ax_m1 ++ [(102, ax_wz Y N 12)]))) X 2 [(2, .int (nI m)), (0, .ref 181), (1, .ref 199)] [] (ax_m1 ++ [(102, ax_wz Y N 12)]) 0 0 := by
    intro m hm ih
    refine AR.s (.iload_n 2, (0, 0, 0), .null, []) hn (by decide +kernel) rfl ?_
    refine AR.s (.sipush 4096, (0, 0, 0), .null, []) hn (by decide +kernel) rfl ?_
    refine AR.icmp_ge (off := 67) (tgt := 73) (ax_look_ok (i := 213) (pc := 6) (e := (.if_icmp .ge 67, (0, 0, 0), .null, [])) (by decide +kernel)).1 (by decide) (fun hge => ?_) (fun _ => ?_)
    · exfalso
      have : (Int16.ofInt 4096).toInt32 = nI 4096 := by decide
      rw [this, nI_leI (by omega) (by omega)] at hge
      omega
    refine AR.s (.iconst 1, (0, 0, 0), .null, []) hn (by decide +kernel) rfl ?_
    refine AR.s (.istore_n 3, (0, 0, 0), .null, []) hn (by decide +kernel) rfl ?_
    refine AR.s (.iconst 0, (0, 0, 0), .null, []) hn (by decide +kernel) rfl ?_
    refine AR.s (.istore 4, (0, 0, 0), .null, []) hn (by decide +kernel) rfl ?_
    exact AR.sub (lv' := [(4, .int (nI 0)), (3, .int (Int32.ofInt 1)), (2, .int (nI m)), (0, .ref 181), (1, .ref 199)]) (by intro q hq; simp only [List.mem_cons, List.not_mem_nil, or_false] at hq ⊢; rcases hq with h | h | h | h | h <;> (first | (simp [h, nI_0]; done) | (simp [h, nI_0]; rfl))) (ax_hm1 hl hY hm hYN ih 24 0 rfl)
  intro t
  induction t with
  | zero => intro m hm; exact step m (by omega) (fun h => absurd h (by omega))
  | succ t iht => intro m hm; exact step m (by omega) (fun _ => iht (m + 1) (by omega))
theorem ax_hasModel (hl : l.stackTraces = false) {Y N : Nat} (hY : Y < 4096) (hYN : Y &&& N = 0) : AM ax_ns l (ax_mm 213) 7 r 0 0 [.ref 181, .ref 199] (ax_m1 ++ [(102, ax_wz Y N 12)]) (ax_QR (.inl (some (.int (Int32.ofInt 1)))) (ax_m1 ++ [(102, ax_wz Y N 12)])) := by
  have hn : (ax_mm 213).2.2.1 = 5 := by decide +kernel
  refine ax_of (as := [.ref 181, .ref 199]) (lv0 := [(0, .ref 181), (1, .ref 199)]) rfl hl (by decide +kernel) hn (by show 2 ≤ 5; decide) ?_
  refine AR.s (.iconst 0, (0, 0, 0), .null, []) hn (by decide +kernel) rfl ?_
  refine AR.s (.istore_n 2, (0, 0, 0), .null, []) hn (by decide +kernel) rfl ?_
  exact AR.sub (lv' := [(2, .int (nI 0)), (0, .ref 181), (1, .ref 199)]) (by intro q hq; simp only [List.mem_cons, List.not_mem_nil, or_false] at hq ⊢; rcases hq with h | h | h <;> (first | (simp [h, nI_0]; done) | (simp [h, nI_0]; rfl))) (ax_hm2 hl hY hYN Y 0 (by omega))
theorem ax_fill (hl : l.stackTraces = false) {Y N : Nat} (hY : Y < 4096) (hN : N < 4096) (hYN : Y &&& N = 0) : ∀ (t v : Nat), v + t = 12 → AR ax_ns l (ax_mm 214) 8 r (ax_ret ax_ns (ax_mm 214) (ax_QR (.inl (some (.int 0))) ax_n2)) X 39 [(4, .int (nI v)), (3, .ref 199), (0, .ref 181), (1, .int (nI Y)), (2, .int (nI N))] [] (ax_m1 ++ [(102, ax_wz Y N v)]) 0 0 := by
  have hn : (ax_mm 214).2.2.1 = 5 := by decide +kernel
  have ht : (ax_mm 214).2.2.2.1 = some .int := by decide +kernel
  have e2 : Int32.ofInt 2 = nI 2 := by decide
  have e1 : Int32.ofInt 1 = nI 1 := by decide
  intro t
  induction t with
  | zero =>
    intro v hv
    obtain rfl : v = 12 := by omega
    refine AR.s (.iload 4, (0, 0, 0), .null, []) hn (by decide +kernel) rfl ?_
    refine AR.s (.bipush 12, (0, 0, 0), .null, []) hn (by decide +kernel) rfl ?_
    refine AR.icmp_ge (off := 53) (tgt := 96) (ax_look_ok (i := 214) (pc := 43) (e := (.if_icmp .ge 53, (0, 0, 0), .null, [])) (by decide +kernel)).1 (by decide) (fun _ => ?_) (fun hn => absurd (by decide) hn)
    refine AR.s (.aload_n 0, (0, 0, 0), .null, []) hn (by decide +kernel) rfl ?_
    refine AR.s (.aload_n 3, (0, 0, 0), .null, []) hn (by decide +kernel) rfl ?_
    refine AR.call (ins := .invokevirtual 271) (a := 213) (b := 1) (c := 9) (v := .null) (ws := [8123, 65]) (by decide +kernel) (ax_argV (q := 181) (rest := []) rfl rfl (by decide +kernel) (by decide +kernel) (by decide +kernel) (by show 1 ≤ 2; decide) (Nat.le_of_ble_eq_true rfl)) (ax_hasModel hl hY hYN) (by decide) (Nat.zero_le _) (Nat.zero_le _) (fun v h' hq => ?_) (fun E h' hq => ?_)
    rotate_left
    · obtain ⟨q1, -⟩ := hq
      cases q1
    obtain ⟨q1, q2⟩ := hq
    cases q1
    subst q2
    refine AR.s (.ifCond .eq 9, (0, 0, 0), .null, []) hn (by decide +kernel) rfl ?_
    refine AR.s (.aload_n 0, (0, 0, 0), .null, []) hn (by decide +kernel) rfl ?_
    refine AR.s (.iconst 2, (0, 0, 0), .null, []) hn (by decide +kernel) rfl ?_
    refine AR.lessH (h' := ax_m1 ++ [(99, [])]) (ax_leh_app rfl ax_m1) ?_
    refine AR.callC hl (ins := .invokevirtual 96) (a := 132) (b := 1) (c := 9) (v := .null) (ws := [7042, 29]) (by decide +kernel) (ax_argV (q := 181) (rest := []) rfl rfl (by decide +kernel) (by decide +kernel) (by decide +kernel) (by show 1 ≤ 2; decide) (Nat.le_of_ble_eq_true rfl)) ax_k132b rfl (by decide) (Nat.zero_le _) (Nat.zero_le _) ?_
    exact ax_retI (ei := ((0, 0, 0), .null, [])) (by decide +kernel) ht (Or.inl rfl) rfl ⟨rfl, rfl⟩
  | succ t ih =>
    intro v hv
    have hv12 : v < 12 := by omega
    have k89 : AR ax_ns l (ax_mm 214) 8 r (ax_ret ax_ns (ax_mm 214) (ax_QR (.inl (some (.int 0))) ax_n2)) X 89 [(4, .int (nI v)), (3, .ref 199), (0, .ref 181), (1, .int (nI Y)), (2, .int (nI N))] [.int (ax_wv Y N (2 * v + 1)), .int (nI (2 * v + 1)), .ref 199] (ax_m1 ++ [(102, (ax_wz Y N v).set (2 * v) (.int (ax_wv Y N (2 * v))))]) 0 0 := by
      refine AR.zastore (ax_look_ok (i := 214) (pc := 89) (e := (.bastore, (0, 0, 0), .null, [])) (by decide +kernel)).1 (by decide) ax_m1g (nI_pos (by omega)) (by rw [nI_clamp (by omega), List.length_set, ax_wz_len]; omega) ?_ ?_
      · rcases ax_wv01 Y N (2 * v + 1) with h | h <;> rw [h] <;> rfl
      rw [ax_m1s, nI_clamp (by omega), ax_wz_s hv12]
      refine AR.iinc (x := .int (nI v)) (ax_look_ok (i := 214) (pc := 90) (e := (.iinc 4 1, (0, 0, 0), .null, [])) (by decide +kernel)).1 (by rw [hn]; decide) rfl rfl ?_
      refine AR.goto (tgt := 39) (ax_look_ok (i := 214) (pc := 93) (e := (.goto (-54), (0, 0, 0), .null, [])) (by decide +kernel)).1 (by decide) ?_
      have e9 : nI v + Int32.ofInt 1 = nI (v + 1) := by rw [show Int32.ofInt 1 = 1 from by decide, ← nI_succ]
      refine AR.sub (lv' := [(4, .int (nI (v + 1))), (3, .ref 199), (0, .ref 181), (1, .int (nI Y)), (2, .int (nI N))]) ?_ (ih (v + 1) (by omega))
      intro q hq
      simp only [List.mem_cons, List.not_mem_nil, or_false] at hq
      rcases hq with h | h | h | h | h <;> subst h <;> (first | (simp [ax_s1, ax_k1, nI_succ, Value.category]; done) | (simp [ax_s1, ax_k1, nI_succ, Value.category]; rfl))
    have k66 : AR ax_ns l (ax_mm 214) 8 r (ax_ret ax_ns (ax_mm 214) (ax_QR (.inl (some (.int 0))) ax_n2)) X 66 [(4, .int (nI v)), (3, .ref 199), (0, .ref 181), (1, .int (nI Y)), (2, .int (nI N))] [.int (ax_wv Y N (2 * v)), .int (nI (2 * v)), .ref 199] (ax_m1 ++ [(102, ax_wz Y N v)]) 0 0 := by
      refine AR.zastore (ax_look_ok (i := 214) (pc := 66) (e := (.bastore, (0, 0, 0), .null, [])) (by decide +kernel)).1 (by decide) ax_m1g (nI_pos (by omega)) (by rw [nI_clamp (by omega), ax_wz_len]; omega) ?_ ?_
      · rcases ax_wv01 Y N (2 * v) with h | h <;> rw [h] <;> rfl
      rw [ax_m1s, nI_clamp (by omega)]
      refine AR.s (.aload_n 3, (0, 0, 0), .null, []) hn (by decide +kernel) rfl ?_
      refine AR.s (.iconst 2, (0, 0, 0), .null, []) hn (by decide +kernel) rfl ?_
      refine AR.s (.iload 4, (0, 0, 0), .null, []) hn (by decide +kernel) rfl ?_
      refine AR.s (.imul, (0, 0, 0), .null, []) hn (by decide +kernel) rfl ?_
      refine AR.s (.iconst 1, (0, 0, 0), .null, []) hn (by decide +kernel) rfl ?_
      refine AR.s (.iadd, (0, 0, 0), .null, []) hn (by decide +kernel) rfl ?_
      refine AR.s (.iload_n 2, (0, 0, 0), .null, []) hn (by decide +kernel) rfl ?_
      refine AR.s (.iload 4, (0, 0, 0), .null, []) hn (by decide +kernel) rfl ?_
      refine AR.s (.ishr, (0, 0, 0), .null, []) hn (by decide +kernel) rfl ?_
      refine AR.s (.iconst 1, (0, 0, 0), .null, []) hn (by decide +kernel) rfl ?_
      refine AR.s (.iand, (0, 0, 0), .null, []) hn (by decide +kernel) rfl ?_
      refine AR.s (.iconst 1, (0, 0, 0), .null, []) hn (by decide +kernel) rfl ?_
      have ei : Int32.ofInt 2 * nI v + Int32.ofInt 1 = nI (2 * v + 1) := by rw [e2, e1, pk_mul, nI_add]
      try dsimp only
      rw [ei]
      refine AR.icmp_ne (off := 7) (tgt := 88) (ax_look_ok (i := 214) (pc := 81) (e := (.if_icmp .ne 7, (0, 0, 0), .null, [])) (by decide +kernel)).1 (by decide) (fun hne => ?_) (fun heq => ?_)
      · refine AR.s (.iconst 0, (0, 0, 0), .null, []) hn (by decide +kernel) rfl ?_
        have hw : ax_wv Y N (2 * v + 1) = Int32.ofInt 0 := by
          unfold ax_wv
          rw [if_neg (by omega : ¬ (2 * v + 1) % 2 = 0), show (2 * v + 1) / 2 = v from by omega, if_neg (fun h => hne ((ax_bit hN hv12).mpr h))]
        rw [hw] at k89
        exact k89
      · refine AR.s (.iconst 1, (0, 0, 0), .null, []) hn (by decide +kernel) rfl ?_
        refine AR.s (.goto 4, (0, 0, 0), .null, []) hn (by decide +kernel) rfl ?_
        have hw : ax_wv Y N (2 * v + 1) = Int32.ofInt 1 := by
          unfold ax_wv
          rw [if_neg (by omega : ¬ (2 * v + 1) % 2 = 0), show (2 * v + 1) / 2 = v from by omega, if_pos ((ax_bit hN hv12).mp heq)]
        rw [hw] at k89
        exact k89
    refine AR.s (.iload 4, (0, 0, 0), .null, []) hn (by decide +kernel) rfl ?_
    refine AR.s (.bipush 12, (0, 0, 0), .null, []) hn (by decide +kernel) rfl ?_
    refine AR.icmp_ge (off := 53) (tgt := 96) (ax_look_ok (i := 214) (pc := 43) (e := (.if_icmp .ge 53, (0, 0, 0), .null, [])) (by decide +kernel)).1 (by decide) (fun hge => ?_) (fun _ => ?_)
    · exfalso
      have : (Int8.ofInt 12).toInt32 = nI 12 := by decide
      rw [this, nI_leI (by omega) (by omega)] at hge
      omega
    refine AR.s (.aload_n 3, (0, 0, 0), .null, []) hn (by decide +kernel) rfl ?_
    refine AR.s (.iconst 2, (0, 0, 0), .null, []) hn (by decide +kernel) rfl ?_
    refine AR.s (.iload 4, (0, 0, 0), .null, []) hn (by decide +kernel) rfl ?_
    refine AR.s (.imul, (0, 0, 0), .null, []) hn (by decide +kernel) rfl ?_
    refine AR.s (.iload_n 1, (0, 0, 0), .null, []) hn (by decide +kernel) rfl ?_
    refine AR.s (.iload 4, (0, 0, 0), .null, []) hn (by decide +kernel) rfl ?_
    refine AR.s (.ishr, (0, 0, 0), .null, []) hn (by decide +kernel) rfl ?_
    refine AR.s (.iconst 1, (0, 0, 0), .null, []) hn (by decide +kernel) rfl ?_
    refine AR.s (.iand, (0, 0, 0), .null, []) hn (by decide +kernel) rfl ?_
    refine AR.s (.iconst 1, (0, 0, 0), .null, []) hn (by decide +kernel) rfl ?_
    have ei : Int32.ofInt 2 * nI v = nI (2 * v) := by rw [e2, pk_mul]
    try dsimp only
    rw [ei]
    refine AR.icmp_ne (off := 7) (tgt := 65) (ax_look_ok (i := 214) (pc := 58) (e := (.if_icmp .ne 7, (0, 0, 0), .null, [])) (by decide +kernel)).1 (by decide) (fun hne => ?_) (fun heq => ?_)
    · refine AR.s (.iconst 0, (0, 0, 0), .null, []) hn (by decide +kernel) rfl ?_
      have hw : ax_wv Y N (2 * v) = Int32.ofInt 0 := by
        unfold ax_wv
        rw [if_pos (by omega : (2 * v) % 2 = 0), show 2 * v / 2 = v from by omega, if_neg (fun h => hne ((ax_bit hY hv12).mpr h))]
      rw [hw] at k66
      exact k66
    · refine AR.s (.iconst 1, (0, 0, 0), .null, []) hn (by decide +kernel) rfl ?_
      refine AR.s (.goto 4, (0, 0, 0), .null, []) hn (by decide +kernel) rfl ?_
      have hw : ax_wv Y N (2 * v) = Int32.ofInt 1 := by
        unfold ax_wv
        rw [if_pos (by omega : (2 * v) % 2 = 0), show 2 * v / 2 = v from by omega, if_pos ((ax_bit hY hv12).mp heq)]
      rw [hw] at k66
      exact k66

theorem ax_explainR1 (hl : l.stackTraces = false) {Y N : Nat} (hY : Y < 4096) (hN : N < 4096) (hYN : ¬ Y &&& N = 0) : AM ax_ns l (ax_mm 214) 8 r 0 0 [.ref 181, .int (nI Y), .int (nI N)] ax_m1 (ax_QR (.inl (some (.int 0))) ax_n1) := by
  have hn : (ax_mm 214).2.2.1 = 5 := by decide +kernel
  have ht : (ax_mm 214).2.2.2.1 = some .int := by decide +kernel
  refine ax_of (as := [.ref 181, .int (nI Y), .int (nI N)]) (lv0 := [(0, .ref 181), (1, .int (nI Y)), (2, .int (nI N))]) rfl hl (by decide +kernel) hn (by show 3 ≤ 5; decide) ?_
  refine AR.s (.aload_n 0, (0, 0, 0), .null, []) hn (by decide +kernel) rfl ?_
  refine AR.s (.iconst 0, (0, 0, 0), .null, []) hn (by decide +kernel) rfl ?_
  refine AR.s (.putfield 61, (9, 0, 0), .null, [6176]) hn (by decide +kernel) rfl ?_
  refine AR.lessH (h' := ax_m1) (by decide +kernel) ?_
  refine AR.s (.iload_n 1, (0, 0, 0), .null, []) hn (by decide +kernel) rfl ?_
  refine AR.callC hl (ins := .invokestatic 262) (a := 204) (b := 1) (c := 0) (v := .null) (ws := [8088]) (by decide +kernel) (ax_argS (by decide +kernel) (by decide +kernel) (by show 1 ≤ 1; decide) (Nat.le_of_ble_eq_true rfl)) ax_k204 (ax_le9 hY) (by decide) (Nat.zero_le _) (Nat.zero_le _) ?_
  refine AR.s (.ifCond .eq 16, (0, 0, 0), .null, []) hn (by decide +kernel) rfl ?_
  refine AR.s (.iload_n 2, (0, 0, 0), .null, []) hn (by decide +kernel) rfl ?_
  refine AR.callC hl (ins := .invokestatic 262) (a := 204) (b := 1) (c := 0) (v := .null) (ws := [8088]) (by decide +kernel) (ax_argS (by decide +kernel) (by decide +kernel) (by show 1 ≤ 1; decide) (Nat.le_of_ble_eq_true rfl)) ax_k204 (ax_le9 hN) (by decide) (Nat.zero_le _) (Nat.zero_le _) ?_
  refine AR.s (.ifCond .eq 9, (0, 0, 0), .null, []) hn (by decide +kernel) rfl ?_
  refine AR.s (.iload_n 1, (0, 0, 0), .null, []) hn (by decide +kernel) rfl ?_
  refine AR.s (.iload_n 2, (0, 0, 0), .null, []) hn (by decide +kernel) rfl ?_
  refine AR.s (.iand, (0, 0, 0), .null, []) hn (by decide +kernel) rfl ?_
  try dsimp only
  rw [ax_nIand hY hN]
  have hb : Y &&& N < 4096 := Nat.lt_of_le_of_lt Nat.and_le_left hY
  refine AR.if_eq (off := 9) (tgt := 31) (ax_look_ok (i := 214) (pc := 22) (e := (.ifCond .eq 9, (0, 0, 0), .null, [])) (by decide +kernel)).1 (by decide) (fun h0 => absurd ((nI_eq (b := 0) (by omega) (by omega)).mp h0) hYN) (fun _ => ?_)
  refine AR.s (.aload_n 0, (0, 0, 0), .null, []) hn (by decide +kernel) rfl ?_
  refine AR.s (.iconst 1, (0, 0, 0), .null, []) hn (by decide +kernel) rfl ?_
  refine AR.callC hl (ins := .invokevirtual 96) (a := 132) (b := 1) (c := 9) (v := .null) (ws := [7042, 29]) (by decide +kernel) (ax_argV (q := 181) (rest := []) rfl rfl (by decide +kernel) (by decide +kernel) (by decide +kernel) (by show 1 ≤ 2; decide) (Nat.le_of_ble_eq_true rfl)) ax_k132a rfl (by decide) (Nat.zero_le _) (Nat.zero_le _) ?_
  exact ax_retI (ei := ((0, 0, 0), .null, [])) (by decide +kernel) ht (Or.inl rfl) rfl ⟨rfl, rfl⟩
theorem ax_explainR2 (hl : l.stackTraces = false) {Y N : Nat} (hY : Y < 4096) (hN : N < 4096) (hYN : Y &&& N = 0) : AM ax_ns l (ax_mm 214) 8 r 1 24 [.ref 181, .int (nI Y), .int (nI N)] ax_m1 (ax_QR (.inl (some (.int 0))) ax_n2) := by
  have hn : (ax_mm 214).2.2.1 = 5 := by decide +kernel
  refine ax_of (as := [.ref 181, .int (nI Y), .int (nI N)]) (lv0 := [(0, .ref 181), (1, .int (nI Y)), (2, .int (nI N))]) rfl hl (by decide +kernel) hn (by show 3 ≤ 5; decide) ?_
  refine AR.s (.aload_n 0, (0, 0, 0), .null, []) hn (by decide +kernel) rfl ?_
  refine AR.s (.iconst 0, (0, 0, 0), .null, []) hn (by decide +kernel) rfl ?_
  refine AR.s (.putfield 61, (9, 0, 0), .null, [6176]) hn (by decide +kernel) rfl ?_
  refine AR.lessH (h' := ax_m1) (by decide +kernel) ?_
  refine AR.s (.iload_n 1, (0, 0, 0), .null, []) hn (by decide +kernel) rfl ?_
  refine AR.callC hl (ins := .invokestatic 262) (a := 204) (b := 1) (c := 0) (v := .null) (ws := [8088]) (by decide +kernel) (ax_argS (by decide +kernel) (by decide +kernel) (by show 1 ≤ 1; decide) (Nat.le_of_ble_eq_true rfl)) ax_k204 (ax_le9 hY) (by decide) (Nat.zero_le _) (Nat.zero_le _) ?_
  refine AR.s (.ifCond .eq 16, (0, 0, 0), .null, []) hn (by decide +kernel) rfl ?_
  refine AR.s (.iload_n 2, (0, 0, 0), .null, []) hn (by decide +kernel) rfl ?_
  refine AR.callC hl (ins := .invokestatic 262) (a := 204) (b := 1) (c := 0) (v := .null) (ws := [8088]) (by decide +kernel) (ax_argS (by decide +kernel) (by decide +kernel) (by show 1 ≤ 1; decide) (Nat.le_of_ble_eq_true rfl)) ax_k204 (ax_le9 hN) (by decide) (Nat.zero_le _) (Nat.zero_le _) ?_
  refine AR.s (.ifCond .eq 9, (0, 0, 0), .null, []) hn (by decide +kernel) rfl ?_
  refine AR.s (.iload_n 1, (0, 0, 0), .null, []) hn (by decide +kernel) rfl ?_
  refine AR.s (.iload_n 2, (0, 0, 0), .null, []) hn (by decide +kernel) rfl ?_
  refine AR.s (.iand, (0, 0, 0), .null, []) hn (by decide +kernel) rfl ?_
  try dsimp only
  rw [ax_nIand hY hN]
  have hb : Y &&& N < 4096 := Nat.lt_of_le_of_lt Nat.and_le_left hY
  refine AR.if_eq (off := 9) (tgt := 31) (ax_look_ok (i := 214) (pc := 22) (e := (.ifCond .eq 9, (0, 0, 0), .null, [])) (by decide +kernel)).1 (by decide) (fun _ => ?_) (fun h0 => absurd (by rw [hYN]; rfl) h0)
  refine AR.s (.bipush 24, (0, 0, 0), .null, []) hn (by decide +kernel) rfl ?_
  refine AR.sn (.newarray .boolean, (2, 0, 0), .null, [7033]) hn (by decide +kernel) rfl (by decide) (by decide) ?_
  refine AR.lessH (h' := ax_m1 ++ [(102, ax_wz Y N 0)]) (by rw [ax_wz_0]; decide +kernel) ?_
  refine AR.s (.astore_n 3, (0, 0, 0), .null, []) hn (by decide +kernel) rfl ?_
  refine AR.s (.iconst 0, (0, 0, 0), .null, []) hn (by decide +kernel) rfl ?_
  refine AR.s (.istore 4, (0, 0, 0), .null, []) hn (by decide +kernel) rfl ?_
  exact AR.sub (lv' := [(4, .int (nI 0)), (3, .ref 199), (0, .ref 181), (1, .int (nI Y)), (2, .int (nI N))]) (by intro q hq; simp only [List.mem_cons, List.not_mem_nil, or_false] at hq ⊢; rcases hq with h | h | h | h | h <;> (first | (simp [h, nI_0]; done) | (simp [h, nI_0, ax_m1len]; rfl))) (ax_fill hl hY hN hYN 12 0 rfl)
end AXB
