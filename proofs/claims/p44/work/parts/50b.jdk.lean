/-! p44, 4: the methods of builders and Strings -/
theorem hs_268_24 : ax_site (ax_mm 268) (ax_mm 269) 104 1 := by
  have m := ax_mfacts (by decide +kernel : ax_has 269 = true)
  exact ⟨m.1, m.2.1, ax_wk_mem (ix := 4038) (by decide +kernel), ⟨m.2.2.2.1, m.2.2.2.2.1, by decide +kernel⟩, m.2.2.2.2.2.1⟩
theorem hs_265_7 : ax_site (ax_mm 265) (ax_mm 268) 100 1 := by
  have m := ax_mfacts (by decide +kernel : ax_has 268 = true)
  exact ⟨m.1, m.2.1, ax_wk_mem (ix := 4034) (by decide +kernel), ⟨m.2.2.2.1, m.2.2.2.2.1, by decide +kernel⟩, m.2.2.2.2.2.1⟩
theorem hs_265_11 : ax_site (ax_mm 265) (ax_mm 272) 83 0 := by
  have m := ax_mfacts (by decide +kernel : ax_has 272 = true)
  exact ⟨m.1, m.2.1, ax_wk_mem (ix := 4069) (by decide +kernel), ⟨m.2.2.2.1, m.2.2.2.2.1, by decide +kernel⟩, m.2.2.2.2.2.1⟩
theorem hs_266_14 : ax_site (ax_mm 266) (ax_mm 268) 100 1 := by
  have m := ax_mfacts (by decide +kernel : ax_has 268 = true)
  exact ⟨m.1, m.2.1, ax_wk_mem (ix := 4034) (by decide +kernel), ⟨m.2.2.2.1, m.2.2.2.2.1, by decide +kernel⟩, m.2.2.2.2.2.1⟩
theorem hs_266_18 : ax_site (ax_mm 266) (ax_mm 272) 83 0 := by
  have m := ax_mfacts (by decide +kernel : ax_has 272 = true)
  exact ⟨m.1, m.2.1, ax_wk_mem (ix := 4069) (by decide +kernel), ⟨m.2.2.2.1, m.2.2.2.2.1, by decide +kernel⟩, m.2.2.2.2.2.1⟩
theorem hs_275_6 : ax_site (ax_mm 275) (ax_mm 276) 335 0 := by
  have m := ax_mfacts (by decide +kernel : ax_has 276 = true)
  exact ⟨m.1, m.2.1, ax_wk_mem (ix := 3191) (by decide +kernel), ⟨m.2.2.2.1, m.2.2.2.2.1, by decide +kernel⟩, m.2.2.2.2.2.1⟩
theorem hs_271_11 : ax_site (ax_mm 271) (ax_mm 276) 40 0 := by
  have m := ax_mfacts (by decide +kernel : ax_has 276 = true)
  exact ⟨m.1, m.2.1, ax_wk_mem (ix := 4098) (by decide +kernel), ⟨m.2.2.2.1, m.2.2.2.2.1, by decide +kernel⟩, m.2.2.2.2.2.1⟩
theorem hs_277_1 : ax_site (ax_mm 277) (ax_mm 276) 335 0 := by
  have m := ax_mfacts (by decide +kernel : ax_has 276 = true)
  exact ⟨m.1, m.2.1, ax_wk_mem (ix := 3191) (by decide +kernel), ⟨m.2.2.2.1, m.2.2.2.2.1, by decide +kernel⟩, m.2.2.2.2.2.1⟩
theorem hs_270_2 : ax_site (ax_mm 270) (ax_mm 271) 397 1 := by
  have m := ax_mfacts (by decide +kernel : ax_has 271 = true)
  exact ⟨m.1, m.2.1, ax_wk_mem (ix := 4094) (by decide +kernel), ⟨m.2.2.2.1, m.2.2.2.2.1, by decide +kernel⟩, m.2.2.2.2.2.1⟩
theorem hs_270_15 : ax_site (ax_mm 270) (ax_mm 277) 399 3 := by
  have m := ax_mfacts (by decide +kernel : ax_has 277 = true)
  exact ⟨m.1, m.2.1, ax_wk_mem (ix := 4118) (by decide +kernel), ⟨m.2.2.2.1, m.2.2.2.2.1, by decide +kernel⟩, m.2.2.2.2.2.1⟩
theorem hs_267_10 : ax_site (ax_mm 267) (ax_mm 275) 32 0 := by
  have m := ax_mfacts (by decide +kernel : ax_has 275 = true)
  exact ⟨m.1, m.2.1, ax_wk_mem (ix := 4089) (by decide +kernel), ⟨m.2.2.2.1, m.2.2.2.2.1, by decide +kernel⟩, m.2.2.2.2.2.1⟩
theorem hs_267_21 : ax_site (ax_mm 267) (ax_mm 268) 100 1 := by
  have m := ax_mfacts (by decide +kernel : ax_has 268 = true)
  exact ⟨m.1, m.2.1, ax_wk_mem (ix := 4034) (by decide +kernel), ⟨m.2.2.2.1, m.2.2.2.2.1, by decide +kernel⟩, m.2.2.2.2.2.1⟩
theorem hs_267_30 : ax_site (ax_mm 267) (ax_mm 270) 208 2 := by
  have m := ax_mfacts (by decide +kernel : ax_has 270 = true)
  exact ⟨m.1, m.2.1, ax_wk_mem (ix := 4090) (by decide +kernel), ⟨m.2.2.2.1, m.2.2.2.2.1, by decide +kernel⟩, m.2.2.2.2.2.1⟩
theorem hs_150_5 : ax_site (ax_mm 150) (ax_mm 143) 552 0 := by
  have m := ax_mfacts (by decide +kernel : ax_has 143 = true)
  exact ⟨m.1, m.2.1, ax_wk_mem (ix := 4164) (by decide +kernel), ⟨m.2.2.2.1, m.2.2.2.2.1, by decide +kernel⟩, m.2.2.2.2.2.1⟩
theorem hs_150_16 : ax_site (ax_mm 150) (ax_mm 272) 1047 0 := by
  have m := ax_mfacts (by decide +kernel : ax_has 272 = true)
  exact ⟨m.1, m.2.1, ax_wk_mem (ix := 4177) (by decide +kernel), ⟨m.2.2.2.1, m.2.2.2.2.1, by decide +kernel⟩, m.2.2.2.2.2.1⟩
theorem hs_149_1 : ax_site (ax_mm 149) (ax_mm 151) 492 0 := by
  have m := ax_mfacts (by decide +kernel : ax_has 151 = true)
  exact ⟨m.1, m.2.1, ax_wk_mem (ix := 3206) (by decide +kernel), ⟨m.2.2.2.1, m.2.2.2.2.1, by decide +kernel⟩, m.2.2.2.2.2.1⟩
section HSC
variable {l : Launch} {h : ax_H} {n0 B k a : Nat} {n q x : Int32} {ts us : List Int32} {r m9 : List Value}
theorem sk_set {p z : List Value} {w x : Value} {j : Nat} (hj : j = p.length) : (p ++ w :: z).set j x = p ++ x :: z := by
  subst hj
  rw [List.set_append_right _ _ (Nat.le_refl _), Nat.sub_self]
  rfl
theorem sB_lt (S : sB h n0 B k n ts r) : B < h.length ∧ k < h.length ∧ n0 ≤ h.length := by
  have h1 := (List.getElem?_eq_some_iff.mp S.1).1
  have h2 := (List.getElem?_eq_some_iff.mp S.2.1).1
  have h3 := S.2.2.2.2.2.2.1
  exact ⟨h1, h2, by omega⟩
theorem sB_by (S : sB h n0 B k n ts r) : ∀ x ∈ sI ts ++ r, hj_by x := fun x hx => by
  rcases List.mem_append.mp hx with e | e
  · exact sk_by S.2.2.2.2.2.2.2.2.2.1 x e
  · exact S.2.2.2.2.2.2.2.2.1 x e
theorem s_284 (hlst : l.stackTraces = false) (h1 : 0 ≤ n.toInt ∧ n.toInt ≤ 1000) (h2 : -1000 ≤ q.toInt ∧ q.toInt ≤ 1000) (h3 : 0 ≤ x.toInt ∧ x.toInt ≤ 1000) (h4 : 0 < n.toInt + max q.toInt x.toInt) : AM ax_ns l (ax_mm 284) 0 ty_R (0) (0) [.int n, .int q, .int x] h (hq_int h (n.toInt + max q.toInt x.toInt)) := by
  refine AM.of (ax_mfacts (by decide +kernel : ax_has 284 = true)).2.2.2.2.2.2 hlst (by rw [hn_284]; exact Nat.le_of_ble_eq_true rfl) ?_
  show AR ax_ns l (ax_mm 284) 0 ty_R _ _ 0 [(0, .int n), (1, .int q), (2, .int x)] [] h (0) (0)
  refine AR.s (pc' := 1) (lv' := [(0, .int n), (1, .int q), (2, .int x)]) (st' := [.int n]) (h' := h) _ hn_284 hk_284_0 rfl ?_
  refine AR.s (pc' := 2) (lv' := [(0, .int n), (1, .int q), (2, .int x)]) (st' := [.int q, .int n]) (h' := h) _ hn_284 hk_284_1 rfl ?_
  refine AR.s (pc' := 3) (lv' := [(0, .int n), (1, .int q), (2, .int x)]) (st' := [.int x, .int q, .int n]) (h' := h) _ hn_284 hk_284_2 rfl ?_
  refine AR.mmaxI (ax_look_ok hk_284_3).1 (ax_wk_mem (ix := 4045) (by decide +kernel)) rfl (Nat.le_of_ble_eq_true rfl) ?_
  show AR _ _ _ _ _ _ _ 6 [(0, .int n), (1, .int q), (2, .int x)] [.int (if q < x then x else q), .int n] h _ _
  have e7 : (if q < x then x else q).toInt = max q.toInt x.toInt := by
    split
    · rename_i e; rw [Int32.lt_iff_toInt_lt] at e; omega
    · rename_i e; rw [Int32.lt_iff_toInt_lt] at e; omega
  generalize (if q < x then x else q) = m7 at e7
  show AR _ _ _ _ _ _ _ 6 [(0, .int n), (1, .int q), (2, .int x)] [.int m7, .int n] h _ _
  refine AR.addT hk_284_6 (by omega) (by omega) (fun z1 ez1 => ?_)
  show AR _ _ _ _ _ _ _ 7 [(0, .int n), (1, .int q), (2, .int x)] [.int z1] h _ _
  refine AR.s (pc' := 8) (lv' := [(3, .int z1), (0, .int n), (1, .int q), (2, .int x)]) (st' := []) (h' := h) _ hn_284 hk_284_7 rfl ?_
  refine AR.iconstT hk_284_8 (by decide) (fun z2 ez2 => ?_)
  show AR _ _ _ _ _ _ _ 9 [(3, .int z1), (0, .int n), (1, .int q), (2, .int x)] [.int z2] h _ _
  refine AR.s (pc' := 10) (lv' := [(3, .int z1), (0, .int n), (1, .int q), (2, .int x)]) (st' := [.int z1, .int z2]) (h' := h) _ hn_284 hk_284_9 rfl ?_
  refine AR.jge hk_284_10 (tgt := 21) (by decide) (fun p1 => ?_) (fun p2 => ?_)
  · exact absurd p1 (by omega)
  · refine AR.s (pc' := 14) (lv' := [(3, .int z1), (0, .int n), (1, .int q), (2, .int x)]) (st' := [.int z1]) (h' := h) _ hn_284 hk_284_13 rfl ?_
    refine AR.ldcI hk_284_14 (fun z3 ez3 => ?_)
    show AR _ _ _ _ _ _ _ 16 [(3, .int z1), (0, .int n), (1, .int q), (2, .int x)] [.int z3, .int z1] h _ _
    have e8 : (2147483639 : Int32).toInt = 2147483639 := rfl
    refine AR.jgt hk_284_16 (tgt := 21) (by decide) (fun p3 => ?_) (fun p4 => ?_)
    · exact absurd p3 (by omega)
    · refine AR.s (pc' := 20) (lv' := [(3, .int z1), (0, .int n), (1, .int q), (2, .int x)]) (st' := [.int z1]) (h' := h) _ hn_284 hk_284_19 rfl ?_
      exact AR.iret hk_284_20 hr_284 ⟨rfl, _, rfl, by omega⟩
def sq_cp (h : ax_H) (m9 : List Value) (N : Nat) : ax_Q := fun res g => res = .inl (some (.ref h.length)) ∧ g = h ++ [(103, m9 ++ List.replicate (N - m9.length) (.int 0))]
theorem s_283 (hlst : l.stackTraces = false) {N : Nat} (hk : k < 1000000000) (hg : h[k]? = some (103, m9)) (hb : ∀ x ∈ m9, hj_by x) (hx : x.toInt = N) (h1 : m9.length < N) (h2 : N ≤ 1000) : AM ax_ns l (ax_mm 283) 0 ty_R (0 + 1) (0 + N) [.ref k, .int x] h (sq_cp h m9 N) := by
  refine AM.of (ax_mfacts (by decide +kernel : ax_has 283 = true)).2.2.2.2.2.2 hlst (by rw [hn_283]; exact Nat.le_of_ble_eq_true rfl) ?_
  show AR ax_ns l (ax_mm 283) 0 ty_R _ _ 0 [(0, .ref k), (1, .int x)] [] h (0 + 1) (0 + N)
  refine AR.s (pc' := 1) (lv' := [(0, .ref k), (1, .int x)]) (st' := [.int x]) (h' := h) _ hn_283 hk_283_0 rfl ?_
  refine AR.s (pc' := 2) (lv' := [(0, .ref k), (1, .int x)]) (st' := [.ref k, .int x]) (h' := h) _ hn_283 hk_283_1 rfl ?_
  refine AR.alx (t := 0) hk_283_2 hk hg (by omega) (fun z1 ez1 => ?_)
  show AR _ _ _ _ _ _ _ 3 [(0, .ref k), (1, .int x)] [.int z1, .int x] h _ _
  refine AR.jne hk_283_3 (tgt := 14) (by decide) (fun p1 => ?_) (fun p2 => ?_)
  · refine AR.s (pc' := 15) (lv' := [(0, .ref k), (1, .int x)]) (st' := [.int x]) (h' := h) _ hn_283 hk_283_14 rfl ?_
    refine AR.nb hk_283_15 hx (by omega) ?_
    show AR _ _ _ _ _ _ _ 17 [(0, .ref k), (1, .int x)] [.ref h.length] (h ++ [(103, List.replicate N (.int 0))]) _ _
    refine AR.s (pc' := 18) (lv' := [(2, .ref h.length), (0, .ref k), (1, .int x)]) (st' := []) (h' := (h ++ [(103, List.replicate N (.int 0))])) _ hn_283 hk_283_17 rfl ?_
    refine AR.s (pc' := 19) (lv' := [(2, .ref h.length), (0, .ref k), (1, .int x)]) (st' := [.ref k]) (h' := (h ++ [(103, List.replicate N (.int 0))])) _ hn_283 hk_283_18 rfl ?_
    refine AR.s (pc' := 20) (lv' := [(2, .ref h.length), (0, .ref k), (1, .int x)]) (st' := [.int 0, .ref k]) (h' := (h ++ [(103, List.replicate N (.int 0))])) _ hn_283 hk_283_19 rfl ?_
    refine AR.s (pc' := 21) (lv' := [(2, .ref h.length), (0, .ref k), (1, .int x)]) (st' := [.ref h.length, .int 0, .ref k]) (h' := (h ++ [(103, List.replicate N (.int 0))])) _ hn_283 hk_283_20 rfl ?_
    refine AR.s (pc' := 22) (lv' := [(2, .ref h.length), (0, .ref k), (1, .int x)]) (st' := [.int 0, .ref h.length, .int 0, .ref k]) (h' := (h ++ [(103, List.replicate N (.int 0))])) _ hn_283 hk_283_21 rfl ?_
    refine AR.s (pc' := 23) (lv' := [(2, .ref h.length), (0, .ref k), (1, .int x)]) (st' := [.ref k, .int 0, .ref h.length, .int 0, .ref k]) (h' := (h ++ [(103, List.replicate N (.int 0))])) _ hn_283 hk_283_22 rfl ?_
    have hg2 : (h ++ [(103, List.replicate N (.int 0))])[k]? = some (103, m9) := by rw [List.getElem?_append_left (List.getElem?_eq_some_iff.mp hg).1]; exact hg
    refine AR.alx (t := 0) hk_283_23 hk hg2 (by omega) (fun z2 ez2 => ?_)
    show AR _ _ _ _ _ _ _ 24 [(2, .ref h.length), (0, .ref k), (1, .int x)] [.int z2, .int 0, .ref h.length, .int 0, .ref k] (h ++ [(103, List.replicate N (.int 0))]) _ _
    refine AR.s (pc' := 25) (lv' := [(2, .ref h.length), (0, .ref k), (1, .int x)]) (st' := [.int x, .int z2, .int 0, .ref h.length, .int 0, .ref k]) (h' := (h ++ [(103, List.replicate N (.int 0))])) _ hn_283 hk_283_24 rfl ?_
    refine AR.mminI (ax_look_ok hk_283_25).1 (ax_wk_mem (ix := 4063) (by decide +kernel)) (ax_wk_mem (ix := 4064) (by decide +kernel)) (ax_wk_mem (ix := 4065) (by decide +kernel)) (Nat.le_of_ble_eq_true rfl) ?_
    show AR _ _ _ _ _ _ _ 28 [(2, .ref h.length), (0, .ref k), (1, .int x)] [.int (if x < z2 then x else z2), .int 0, .ref h.length, .int 0, .ref k] (h ++ [(103, List.replicate N (.int 0))]) _ _
    have e7 : (if x < z2 then x else z2).toInt = m9.length := by
      split
      · rename_i e; rw [Int32.lt_iff_toInt_lt] at e; omega
      · rename_i e; rw [Int32.lt_iff_toInt_lt] at e; omega
    generalize (if x < z2 then x else z2) = m7 at e7
    show AR _ _ _ _ _ _ _ 28 [(2, .ref h.length), (0, .ref k), (1, .int x)] [.int m7, .int 0, .ref h.length, .int 0, .ref k] (h ++ [(103, List.replicate N (.int 0))]) _ _
    refine AR.small (fun hsz => ?_)
    rw [List.length_append] at hsz
    have hsz2 : h.length < 1000000000 := by omega
    have c0 : (0 : Int32).toInt = 0 := rfl
    have er : List.replicate N (Value.int 0) = [] ++ List.replicate m9.length (Value.int 0) ++ List.replicate (N - m9.length) (Value.int 0) := by rw [List.nil_append, List.replicate_append_replicate, Nat.add_sub_cancel' (by omega)]
    refine AR.bcx (p9 := []) (m9 := m9) (y9 := List.replicate m9.length (.int 0)) (z9 := List.replicate (N - m9.length) (.int 0)) (ax_look_ok hk_283_28).1 (ax_wk_mem (ix := 4066) (by decide +kernel)) (Or.inl ⟨[], hk, by rw [List.append_nil]; exact hg2⟩) hb hsz2 (by rw [← er]; exact hy_getl h _) (fun x hx => ?_) c0 c0 e7 (List.length_replicate ..) (Nat.le_of_ble_eq_true rfl) ?_
    · rw [← er] at hx
      obtain rfl := (List.mem_replicate.mp hx).2
      exact ⟨0, rfl, by decide, by decide⟩
    rw [hy_setl, List.nil_append]
    show AR _ _ _ _ _ _ _ 31 [(2, .ref h.length), (0, .ref k), (1, .int x)] [] (h ++ [(103, m9 ++ List.replicate (N - m9.length) (.int 0))]) _ _
    refine AR.s (pc' := 32) (lv' := [(2, .ref h.length), (0, .ref k), (1, .int x)]) (st' := [.ref h.length]) (h' := (h ++ [(103, m9 ++ List.replicate (N - m9.length) (.int 0))])) _ hn_283 hk_283_31 rfl ?_
    exact AR.aret hk_283_32 hr_283 (Or.inr ⟨_, rfl⟩) ⟨rfl, rfl⟩
  · exact absurd p2 (by omega)
theorem s_269 (hlst : l.stackTraces = false) (S : sB h n0 B k n ts r) (h1 : (ts.length : Int) + r.length < q.toInt) (h2 : q.toInt ≤ 100) : AM ax_ns l (ax_mm 269) 1 ty_R (0) (0) [.ref B, .int q] h (hq_int h ((ts.length : Int) + r.length + max (q.toInt - (ts.length + r.length)) ((ts.length : Int) + r.length + 2))) := by
  refine AM.of (ax_mfacts (by decide +kernel : ax_has 269 = true)).2.2.2.2.2.2 hlst (by rw [hn_269]; exact Nat.le_of_ble_eq_true rfl) ?_
  show AR ax_ns l (ax_mm 269) 1 ty_R _ _ 0 [(0, .ref B), (1, .int q)] [] h (0) (0)
  have bS := S
  obtain ⟨b1, b2, b3, b4, b5, b6, b7, b8, b9, b10, b11⟩ := id bS
  refine AR.s (pc' := 1) (lv' := [(0, .ref B), (1, .int q)]) (st' := [.ref B]) (h' := h) _ hn_269 hk_269_0 rfl ?_
  refine AR.gx hk_269_1 (by decide) b6 b1 (x := .ref k) rfl ?_
  show AR _ _ _ _ _ _ _ 4 [(0, .ref B), (1, .int q)] [.ref k] h _ _
  refine AR.alx (t := 0) hk_269_4 b5 b2 (by rw [List.length_append, sI_len]; omega) (fun z4 ez4 => ?_)
  rw [List.length_append, sI_len] at ez4
  show AR _ _ _ _ _ _ _ 5 [(0, .ref B), (1, .int q)] [.int z4] h _ _
  refine AR.s (pc' := 6) (lv' := [(2, .int z4), (0, .ref B), (1, .int q)]) (st' := []) (h' := h) _ hn_269 hk_269_5 rfl ?_
  refine AR.s (pc' := 7) (lv' := [(2, .int z4), (0, .ref B), (1, .int q)]) (st' := [.int q]) (h' := h) _ hn_269 hk_269_6 rfl ?_
  refine AR.s (pc' := 8) (lv' := [(2, .int z4), (0, .ref B), (1, .int q)]) (st' := [.ref B, .int q]) (h' := h) _ hn_269 hk_269_7 rfl ?_
  refine AR.gx hk_269_8 (by decide) b6 b1 (x := .int 0) rfl ?_
  show AR _ _ _ _ _ _ _ 11 [(2, .int z4), (0, .ref B), (1, .int q)] [.int 0, .int q] h _ _
  refine AR.shlT hk_269_11 ?_
  show AR _ _ _ _ _ _ _ 12 [(2, .int z4), (0, .ref B), (1, .int q)] [.int q] h _ _
  refine AR.s (pc' := 13) (lv' := [(3, .int q), (2, .int z4), (0, .ref B), (1, .int q)]) (st' := []) (h' := h) _ hn_269 hk_269_12 rfl ?_
  refine AR.s (pc' := 14) (lv' := [(3, .int q), (2, .int z4), (0, .ref B), (1, .int q)]) (st' := [.int q]) (h' := h) _ hn_269 hk_269_13 rfl ?_
  refine AR.s (pc' := 15) (lv' := [(3, .int q), (2, .int z4), (0, .ref B), (1, .int q)]) (st' := [.int z4, .int q]) (h' := h) _ hn_269 hk_269_14 rfl ?_
  refine AR.subT hk_269_15 (by omega) (by omega) (fun z5 ez5 => ?_)
  show AR _ _ _ _ _ _ _ 16 [(3, .int q), (2, .int z4), (0, .ref B), (1, .int q)] [.int z5] h _ _
  refine AR.s (pc' := 18) (lv' := [(4, .int z5), (3, .int q), (2, .int z4), (0, .ref B), (1, .int q)]) (st' := []) (h' := h) _ hn_269 hk_269_16 rfl ?_
  refine AR.s (pc' := 19) (lv' := [(4, .int z5), (3, .int q), (2, .int z4), (0, .ref B), (1, .int q)]) (st' := [.int z4]) (h' := h) _ hn_269 hk_269_18 rfl ?_
  refine AR.s (pc' := 21) (lv' := [(4, .int z5), (3, .int q), (2, .int z4), (0, .ref B), (1, .int q)]) (st' := [.int z5, .int z4]) (h' := h) _ hn_269 hk_269_19 rfl ?_
  refine AR.s (pc' := 22) (lv' := [(4, .int z5), (3, .int q), (2, .int z4), (0, .ref B), (1, .int q)]) (st' := [.int z4, .int z5, .int z4]) (h' := h) _ hn_269 hk_269_21 rfl ?_
  refine AR.iconstT hk_269_22 (by decide) (fun z6 ez6 => ?_)
  show AR _ _ _ _ _ _ _ 23 [(4, .int z5), (3, .int q), (2, .int z4), (0, .ref B), (1, .int q)] [.int z6, .int z4, .int z5, .int z4] h _ _
  refine AR.s (pc' := 24) (lv' := [(4, .int z5), (3, .int q), (2, .int z4), (0, .ref B), (1, .int q)]) (st' := [.ref B, .int z6, .int z4, .int z5, .int z4]) (h' := h) _ hn_269 hk_269_23 rfl ?_
  refine AR.gx hk_269_24 (by decide) b6 b1 (x := .int 0) rfl ?_
  show AR _ _ _ _ _ _ _ 27 [(4, .int z5), (3, .int q), (2, .int z4), (0, .ref B), (1, .int q)] [.int 0, .int z6, .int z4, .int z5, .int z4] h _ _
  refine AR.shlT hk_269_27 ?_
  show AR _ _ _ _ _ _ _ 28 [(4, .int z5), (3, .int q), (2, .int z4), (0, .ref B), (1, .int q)] [.int z6, .int z4, .int z5, .int z4] h _ _
  refine AR.addT hk_269_28 (by omega) (by omega) (fun z7 ez7 => ?_)
  show AR _ _ _ _ _ _ _ 29 [(4, .int z5), (3, .int q), (2, .int z4), (0, .ref B), (1, .int q)] [.int z7, .int z5, .int z4] h _ _
  refine AR.cs (as := [.int z4, .int z5, .int z7]) (rest := []) hk_269_29 (by decide +kernel) rfl rfl (Nat.le_of_ble_eq_true rfl) (s_284 hlst (by omega) (by omega) (by omega) (by omega)) (by decide) (Nat.zero_le _) (Nat.zero_le _) (fun E h' q => by obtain ⟨-, x, e, -⟩ := q; cases e) ?_
  rintro w8 g9 ⟨eg9, z10, e, ez10⟩
  cases e
  obtain rfl := eg9.symm
  show AR _ _ _ _ _ _ _ 32 [(4, .int z5), (3, .int q), (2, .int z4), (0, .ref B), (1, .int q)] [.int z10] h _ _
  refine AR.s (pc' := 34) (lv' := [(5, .int z10), (4, .int z5), (3, .int q), (2, .int z4), (0, .ref B), (1, .int q)]) (st' := []) (h' := h) _ hn_269 hk_269_32 rfl ?_
  refine AR.s (pc' := 36) (lv' := [(5, .int z10), (4, .int z5), (3, .int q), (2, .int z4), (0, .ref B), (1, .int q)]) (st' := [.int z10]) (h' := h) _ hn_269 hk_269_34 rfl ?_
  refine AR.ldcI hk_269_36 (fun z11 ez11 => ?_)
  show AR _ _ _ _ _ _ _ 38 [(5, .int z10), (4, .int z5), (3, .int q), (2, .int z4), (0, .ref B), (1, .int q)] [.int z11, .int z10] h _ _
  have e8 : (2147483647 : Int32).toInt = 2147483647 := rfl
  refine AR.jne hk_269_38 (tgt := 51) (by decide) (fun p1 => ?_) (fun p2 => ?_)
  · refine AR.s (pc' := 53) (lv' := [(5, .int z10), (4, .int z5), (3, .int q), (2, .int z4), (0, .ref B), (1, .int q)]) (st' := [.int z10]) (h' := h) _ hn_269 hk_269_51 rfl ?_
    refine AR.s (pc' := 54) (lv' := [(5, .int z10), (4, .int z5), (3, .int q), (2, .int z4), (0, .ref B), (1, .int q)]) (st' := [.ref B, .int z10]) (h' := h) _ hn_269 hk_269_53 rfl ?_
    refine AR.gx hk_269_54 (by decide) b6 b1 (x := .int 0) rfl ?_
    show AR _ _ _ _ _ _ _ 57 [(5, .int z10), (4, .int z5), (3, .int q), (2, .int z4), (0, .ref B), (1, .int q)] [.int 0, .int z10] h _ _
    refine AR.shrT hk_269_57 ?_
    show AR _ _ _ _ _ _ _ 58 [(5, .int z10), (4, .int z5), (3, .int q), (2, .int z4), (0, .ref B), (1, .int q)] [.int z10] h _ _
    exact AR.iret hk_269_58 hr_269 ⟨rfl, _, rfl, by omega⟩
  · exact absurd p2 (by omega)
def sq_en (h : ax_H) (n0 B : Nat) (n : Int32) (ts : List Int32) (q : Int) : ax_Q := fun res g => res = .inl none ∧ fX B h g ∧ ∃ k r, sB g n0 B k n ts r ∧ q ≤ (ts.length : Int) + r.length
theorem s_268 (hlst : l.stackTraces = false) (S : sB h n0 B k n ts r) (h2 : q.toInt ≤ 46) (h3 : 0 ≤ q.toInt) : AM ax_ns l (ax_mm 268) 2 ty_R (1) (100) [.ref B, .int q] h (sq_en h n0 B n ts q.toInt) := by
  refine AM.of (ax_mfacts (by decide +kernel : ax_has 268 = true)).2.2.2.2.2.2 hlst (by rw [hn_268]; exact Nat.le_of_ble_eq_true rfl) ?_
  show AR ax_ns l (ax_mm 268) 2 ty_R _ _ 0 [(0, .ref B), (1, .int q)] [] h (1) (100)
  have bS := S
  obtain ⟨b1, b2, b3, b4, b5, b6, b7, b8, b9, b10, b11⟩ := id bS
  refine AR.s (pc' := 1) (lv' := [(0, .ref B), (1, .int q)]) (st' := [.ref B]) (h' := h) _ hn_268 hk_268_0 rfl ?_
  refine AR.gx hk_268_1 (by decide) b6 b1 (x := .ref k) rfl ?_
  show AR _ _ _ _ _ _ _ 4 [(0, .ref B), (1, .int q)] [.ref k] h _ _
  refine AR.alx (t := 0) hk_268_4 b5 b2 (by rw [List.length_append, sI_len]; omega) (fun z12 ez12 => ?_)
  rw [List.length_append, sI_len] at ez12
  show AR _ _ _ _ _ _ _ 5 [(0, .ref B), (1, .int q)] [.int z12] h _ _
  refine AR.s (pc' := 6) (lv' := [(0, .ref B), (1, .int q)]) (st' := [.ref B, .int z12]) (h' := h) _ hn_268 hk_268_5 rfl ?_
  refine AR.gx hk_268_6 (by decide) b6 b1 (x := .int 0) rfl ?_
  show AR _ _ _ _ _ _ _ 9 [(0, .ref B), (1, .int q)] [.int 0, .int z12] h _ _
  refine AR.shrT hk_268_9 ?_
  show AR _ _ _ _ _ _ _ 10 [(0, .ref B), (1, .int q)] [.int z12] h _ _
  refine AR.s (pc' := 11) (lv' := [(2, .int z12), (0, .ref B), (1, .int q)]) (st' := []) (h' := h) _ hn_268 hk_268_10 rfl ?_
  refine AR.s (pc' := 12) (lv' := [(2, .int z12), (0, .ref B), (1, .int q)]) (st' := [.int q]) (h' := h) _ hn_268 hk_268_11 rfl ?_
  refine AR.s (pc' := 13) (lv' := [(2, .int z12), (0, .ref B), (1, .int q)]) (st' := [.int z12, .int q]) (h' := h) _ hn_268 hk_268_12 rfl ?_
  refine AR.subT hk_268_13 (by omega) (by omega) (fun z13 ez13 => ?_)
  show AR _ _ _ _ _ _ _ 14 [(2, .int z12), (0, .ref B), (1, .int q)] [.int z13] h _ _
  refine AR.zle hk_268_14 (tgt := 38) (by decide) (fun p1 => ?_) (fun p2 => ?_)
  · exact AR.vret hk_268_38 hr_268 ⟨rfl, ⟨Nat.le_refl _, fun _ _ _ => rfl⟩, k, r, S, by omega⟩
  · refine AR.s (pc' := 18) (lv' := [(2, .int z12), (0, .ref B), (1, .int q)]) (st' := [.ref B]) (h' := h) _ hn_268 hk_268_17 rfl ?_
    refine AR.s (pc' := 19) (lv' := [(2, .int z12), (0, .ref B), (1, .int q)]) (st' := [.ref B, .ref B]) (h' := h) _ hn_268 hk_268_18 rfl ?_
    refine AR.gx hk_268_19 (by decide) b6 b1 (x := .ref k) rfl ?_
    show AR _ _ _ _ _ _ _ 22 [(2, .int z12), (0, .ref B), (1, .int q)] [.ref k, .ref B] h _ _
    refine AR.s (pc' := 23) (lv' := [(2, .int z12), (0, .ref B), (1, .int q)]) (st' := [.ref B, .ref k, .ref B]) (h' := h) _ hn_268 hk_268_22 rfl ?_
    refine AR.s (pc' := 24) (lv' := [(2, .int z12), (0, .ref B), (1, .int q)]) (st' := [.int q, .ref B, .ref k, .ref B]) (h' := h) _ hn_268 hk_268_23 rfl ?_
    refine AR.jV (as := [.int q]) (rest := [.ref k, .ref B]) hk_268_24 hs_268_24 (by decide +kernel) (by decide +kernel) (by decide +kernel) (ax_wk_mem (ix := 9001) (by decide +kernel)) b6 b1 rfl rfl (Nat.le_of_ble_eq_true rfl) (s_269 hlst S (by omega) (by omega)) (by decide) (Nat.zero_le _) (Nat.zero_le _) (fun E h' q => by obtain ⟨-, x, e, -⟩ := q; cases e) ?_
    rintro w14 g15 ⟨eg15, z16, e, ez16⟩
    cases e
    obtain rfl := eg15.symm
    show AR _ _ _ _ _ _ _ 27 [(2, .int z12), (0, .ref B), (1, .int q)] [.int z16, .ref k, .ref B] h _ _
    refine AR.s (pc' := 28) (lv' := [(2, .int z12), (0, .ref B), (1, .int q)]) (st' := [.ref B, .int z16, .ref k, .ref B]) (h' := h) _ hn_268 hk_268_27 rfl ?_
    refine AR.gx hk_268_28 (by decide) b6 b1 (x := .int 0) rfl ?_
    show AR _ _ _ _ _ _ _ 31 [(2, .int z12), (0, .ref B), (1, .int q)] [.int 0, .int z16, .ref k, .ref B] h _ _
    refine AR.shlT hk_268_31 ?_
    show AR _ _ _ _ _ _ _ 32 [(2, .int z12), (0, .ref B), (1, .int q)] [.int z16, .ref k, .ref B] h _ _
    have hN : z16.toInt = (z16.toInt.toNat : Int) := by omega
    have hL : (sI ts ++ r).length = ts.length + r.length := by rw [List.length_append, sI_len]
    refine AR.cs (as := [.ref k, .int z16]) (rest := [.ref B]) hk_268_32 (by decide +kernel) rfl rfl (Nat.le_of_ble_eq_true rfl) (s_283 hlst (N := z16.toInt.toNat) b5 b2 (sB_by S) hN (by omega) (by omega)) (by decide) (by omega) (by omega) (fun E h' q => by cases q.1) ?_
    rintro w8 h8 ⟨e, e8⟩
    cases e
    subst e8
    obtain ⟨l1, l2, l3⟩ := sB_lt S
    refine AR.px hk_268_35 (by decide) b6 (vs := [.ref k, .int 0, .int 0, .int n]) (by rw [List.getElem?_append_left l1]; exact b1) (show ax_cls[10]? = some hs_c10 from rfl) rfl rfl ?_
    show AR _ _ _ _ _ _ _ 38 [(2, .int z12), (0, .ref B), (1, .int q)] [] _ _ _
    refine AR.small (fun hsz2 => ?_)
    rw [List.length_set, List.length_append] at hsz2
    refine AR.vret hk_268_38 hr_268 ⟨rfl, ⟨by rw [List.length_set, List.length_append]; omega, fun p hp hne => by rw [List.getElem?_set_ne (Ne.symm hne), List.getElem?_append_left hp]⟩, h.length, r ++ List.replicate (z16.toInt.toNat - (sI ts ++ r).length) (.int 0), ⟨?_, ?_, b3, by omega, by omega, b6, b7, l3, fun x hx => ?_, b10, ?_⟩, ?_⟩
    · exact List.getElem?_set_self (by rw [List.length_append]; omega)
    · rw [List.getElem?_set_ne (by omega), hy_getl, List.append_assoc]
    · rcases List.mem_append.mp hx with e | e
      · exact b9 x e
      · obtain rfl := (List.mem_replicate.mp e).2; exact ⟨0, rfl, by decide, by decide⟩
    · rw [List.length_append, List.length_replicate]; omega
    · rw [List.length_append, List.length_replicate]; omega
theorem s_272 (hlst : l.stackTraces = false) (hB : B < 1000000000) (h1 : h[B]? = some (10, [.ref k, .int 0, .int 0, .int n])) : AM ax_ns l (ax_mm 272) 0 ty_R (0) (0) [.ref B] h (hq_int h 1) := by
  refine AM.of (ax_mfacts (by decide +kernel : ax_has 272 = true)).2.2.2.2.2.2 hlst (by rw [hn_272]; exact Nat.le_of_ble_eq_true rfl) ?_
  show AR ax_ns l (ax_mm 272) 0 ty_R _ _ 0 [(0, .ref B)] [] h (0) (0)
  have c1 : (1 : Int32).toInt = 1 := rfl
  have c0 : (0 : Int32).toInt = 0 := rfl
  refine AR.s (pc' := 3) (lv' := [(0, .ref B)]) (st' := [.int 1]) (h' := h) _ hn_272 hk_272_0 rfl ?_
  show AR _ _ _ _ _ _ _ 3 [(0, .ref B)] [.int 1] h _ _
  refine AR.zeq hk_272_3 (tgt := 17) (by decide) (fun p1 => ?_) (fun p2 => ?_)
  · exact absurd p1 (by omega)
  · refine AR.s (pc' := 7) (lv' := [(0, .ref B)]) (st' := [.ref B]) (h' := h) _ hn_272 hk_272_6 rfl ?_
    refine AR.gx hk_272_7 (by decide) hB h1 (x := .int 0) rfl ?_
    show AR _ _ _ _ _ _ _ 10 [(0, .ref B)] [.int 0] h _ _
    refine AR.zne hk_272_10 (tgt := 17) (by decide) (fun p3 => ?_) (fun p4 => ?_)
    · exact absurd p3 (by omega)
    · refine AR.iconstT hk_272_13 (by decide) (fun z17 ez17 => ?_)
      show AR _ _ _ _ _ _ _ 14 [(0, .ref B)] [.int z17] h _ _
      refine AR.gotoT hk_272_14 (tgt := 18) (by decide) ?_
      exact AR.zret hk_272_18 hr_272 (Or.inr (by omega)) ⟨rfl, _, rfl, by omega⟩
theorem s_280 (hlst : l.stackTraces = false) (hx : x.toInt ≤ 255) : AM ax_ns l (ax_mm 280) 0 ty_R (0) (0) [.int x] h (hq_int h 1) := by
  refine AM.of (ax_mfacts (by decide +kernel : ax_has 280 = true)).2.2.2.2.2.2 hlst (by rw [hn_280]; exact Nat.le_of_ble_eq_true rfl) ?_
  show AR ax_ns l (ax_mm 280) 0 ty_R _ _ 0 [(0, .int x)] [] h (0) (0)
  refine AR.s (pc' := 1) (lv' := [(0, .int x)]) (st' := [.int x]) (h' := h) _ hn_280 hk_280_0 rfl ?_
  refine AR.sipushT hk_280_1 (by decide) (fun z18 ez18 => ?_)
  show AR _ _ _ _ _ _ _ 4 [(0, .int x)] [.int z18, .int x] h _ _
  refine AR.jgt hk_280_4 (tgt := 11) (by decide) (fun p1 => ?_) (fun p2 => ?_)
  · exact absurd p1 (by omega)
  · refine AR.iconstT hk_280_7 (by decide) (fun z19 ez19 => ?_)
    show AR _ _ _ _ _ _ _ 8 [(0, .int x)] [.int z19] h _ _
    refine AR.gotoT hk_280_8 (tgt := 12) (by decide) ?_
    exact AR.zret hk_280_12 hr_280 (Or.inr (by omega)) ⟨rfl, _, rfl, by omega⟩
def sq_ap (h : ax_H) (n0 B : Nat) (ts : List Int32) : ax_Q := fun res g => res = .inl (some (.ref B)) ∧ fB n0 h g ∧ sBx g n0 B ts
theorem s_265 (hlst : l.stackTraces = false) (S : sB h n0 B k n ts r) (h1 : ts.length ≤ 45) (hx : sk x) : AM ax_ns l (ax_mm 265) 3 ty_R (1) (100) [.ref B, .int x] h (sq_ap h n0 B (ts ++ [x])) := by
  refine AM.of (ax_mfacts (by decide +kernel : ax_has 265 = true)).2.2.2.2.2.2 hlst (by rw [hn_265]; exact Nat.le_of_ble_eq_true rfl) ?_
  show AR ax_ns l (ax_mm 265) 3 ty_R _ _ 0 [(0, .ref B), (1, .int x)] [] h (1) (100)
  have bS := S
  obtain ⟨b1, b2, b3, b4, b5, b6, b7, b8, b9, b10, b11⟩ := id bS
  obtain ⟨x0, x1⟩ := id hx
  refine AR.s (pc' := 1) (lv' := [(0, .ref B), (1, .int x)]) (st' := [.ref B]) (h' := h) _ hn_265 hk_265_0 rfl ?_
  refine AR.s (pc' := 2) (lv' := [(0, .ref B), (1, .int x)]) (st' := [.ref B, .ref B]) (h' := h) _ hn_265 hk_265_1 rfl ?_
  refine AR.gx hk_265_2 (by decide) b6 b1 (x := .int n) rfl ?_
  show AR _ _ _ _ _ _ _ 5 [(0, .ref B), (1, .int x)] [.int n, .ref B] h _ _
  refine AR.iconstT hk_265_5 (by decide) (fun z20 ez20 => ?_)
  show AR _ _ _ _ _ _ _ 6 [(0, .ref B), (1, .int x)] [.int z20, .int n, .ref B] h _ _
  refine AR.addT hk_265_6 (by omega) (by omega) (fun z21 ez21 => ?_)
  show AR _ _ _ _ _ _ _ 7 [(0, .ref B), (1, .int x)] [.int z21, .ref B] h _ _
  refine AR.jV (as := [.int z21]) (rest := []) hk_265_7 hs_265_7 (by decide +kernel) (by decide +kernel) (by decide +kernel) (ax_wk_mem (ix := 9000) (by decide +kernel)) b6 b1 rfl rfl (Nat.le_of_ble_eq_true rfl) (s_268 hlst S (by omega) (by omega)) (by decide) (Nat.le_refl _) (Nat.le_refl _) (fun E h' q => by cases q.1) ?_
  obtain ⟨l1, l2, l3⟩ := sB_lt S
  rintro w7 h7 ⟨e, F7, k7, r7, dS, l7⟩
  cases e
  obtain ⟨d1, d2, d3, d4, d5, d6, d7, d8, d9, d10, d11⟩ := id dS
  have F8 : fB n0 h h7 := F7.fB b7 l3
  show AR _ _ _ _ _ _ _ 10 [(0, .ref B), (1, .int x)] [] h7 _ _
  have c1 : (1 : Int32).toInt = 1 := rfl
  have c0 : (0 : Int32).toInt = 0 := rfl
  refine AR.s (pc' := 11) (lv' := [(0, .ref B), (1, .int x)]) (st' := [.ref B]) (h' := h7) _ hn_265 hk_265_10 rfl ?_
  refine AR.jV (as := []) (rest := []) hk_265_11 hs_265_11 (by decide +kernel) (by decide +kernel) (by decide +kernel) (ax_wk_mem (ix := 4072) (by decide +kernel)) d6 d1 rfl rfl (Nat.le_of_ble_eq_true rfl) (s_272 hlst d6 d1) (by decide) (Nat.zero_le _) (Nat.zero_le _) (fun E h' q => by obtain ⟨-, x, e, -⟩ := q; cases e) ?_
  rintro w22 g23 ⟨eg23, z24, e, ez24⟩
  cases e
  obtain rfl := eg23.symm
  show AR _ _ _ _ _ _ _ 14 [(0, .ref B), (1, .int x)] [.int z24] h7 _ _
  refine AR.zeq hk_265_14 (tgt := 45) (by decide) (fun p1 => ?_) (fun p2 => ?_)
  · exact absurd p1 (by omega)
  · refine AR.s (pc' := 18) (lv' := [(0, .ref B), (1, .int x)]) (st' := [.int x]) (h' := h7) _ hn_265 hk_265_17 rfl ?_
    refine AR.cs (as := [.int x]) (rest := []) hk_265_18 (by decide +kernel) rfl rfl (Nat.le_of_ble_eq_true rfl) (s_280 hlst (by omega)) (by decide) (Nat.zero_le _) (Nat.zero_le _) (fun E h' q => by obtain ⟨-, x, e, -⟩ := q; cases e) ?_
    rintro w25 g26 ⟨eg26, z27, e, ez27⟩
    cases e
    obtain rfl := eg26.symm
    show AR _ _ _ _ _ _ _ 21 [(0, .ref B), (1, .int x)] [.int z27] h7 _ _
    refine AR.zeq hk_265_21 (tgt := 45) (by decide) (fun p3 => ?_) (fun p4 => ?_)
    · exact absurd p3 (by omega)
    · obtain ⟨y8, r8, rfl⟩ : ∃ y8 r8, r7 = y8 :: r8 := by
        cases r7 with
        | nil => simp only [List.length_nil] at l7; omega
        | cons y z => exact ⟨y, z, rfl⟩
      refine AR.s (pc' := 25) (lv' := [(0, .ref B), (1, .int x)]) (st' := [.ref B]) (h' := h7) _ hn_265 hk_265_24 rfl ?_
      refine AR.gx hk_265_25 (by decide) d6 d1 (x := .ref k7) rfl ?_
      show AR _ _ _ _ _ _ _ 28 [(0, .ref B), (1, .int x)] [.ref k7] h7 _ _
      refine AR.s (pc' := 29) (lv' := [(0, .ref B), (1, .int x)]) (st' := [.ref B, .ref k7]) (h' := h7) _ hn_265 hk_265_28 rfl ?_
      refine AR.s (pc' := 30) (lv' := [(0, .ref B), (1, .int x)]) (st' := [.ref B, .ref B, .ref k7]) (h' := h7) _ hn_265 hk_265_29 rfl ?_
      refine AR.gx hk_265_30 (by decide) d6 d1 (x := .int n) rfl ?_
      show AR _ _ _ _ _ _ _ 33 [(0, .ref B), (1, .int x)] [.int n, .ref B, .ref k7] h7 _ _
      refine AR.dup_x1 (ax_look_ok hk_265_33).1 rfl rfl ?_
      show AR _ _ _ _ _ _ _ 34 [(0, .ref B), (1, .int x)] [.int n, .ref B, .int n, .ref k7] h7 _ _
      refine AR.iconstT hk_265_34 (by decide) (fun z28 ez28 => ?_)
      show AR _ _ _ _ _ _ _ 35 [(0, .ref B), (1, .int x)] [.int z28, .int n, .ref B, .int n, .ref k7] h7 _ _
      refine AR.addT hk_265_35 (by omega) (by omega) (fun z29 ez29 => ?_)
      show AR _ _ _ _ _ _ _ 36 [(0, .ref B), (1, .int x)] [.int z29, .ref B, .int n, .ref k7] h7 _ _
      refine AR.px hk_265_36 (by decide) d6 (vs := [.ref k7, .int 0, .int 0, .int n]) d1 (show ax_cls[10]? = some hs_c10 from rfl) rfl rfl ?_
      show AR _ _ _ _ _ _ _ 39 [(0, .ref B), (1, .int x)] [.int n, .ref k7] _ _ _
      rw [show [Value.ref k7, .int 0, .int 0, .int n].set 3 (.int z29) = [.ref k7, .int 0, .int 0, .int z29] from rfl]
      show AR _ _ _ _ _ _ _ 39 [(0, .ref B), (1, .int x)] [.int n, .ref k7] (h7.set B (10, [.ref k7, .int 0, .int 0, .int z29])) _ _
      refine AR.s (pc' := 40) (lv' := [(0, .ref B), (1, .int x)]) (st' := [.int x, .int n, .ref k7]) (h' := (h7.set B (10, [.ref k7, .int 0, .int 0, .int z29]))) _ hn_265 hk_265_39 rfl ?_
      refine AR.i2bX hk_265_40 (by omega) (by omega) ?_
      show AR _ _ _ _ _ _ _ 41 [(0, .ref B), (1, .int x)] [.int x, .int n, .ref k7] (h7.set B (10, [.ref k7, .int 0, .int 0, .int z29])) _ _
      have g2 : (h7.set B (10, [.ref k7, .int 0, .int 0, .int z29]))[k7]? = some (103, sI ts ++ y8 :: r8) := by rw [List.getElem?_set_ne d4]; exact d2
      refine AR.bsT hk_265_41 d5 g2 (by omega) (by rw [List.length_append, sI_len, List.length_cons]; omega) ⟨x, rfl, by omega, by omega⟩ ?_
      rw [sk_set (show n.toInt.toNat = (sI ts).length by rw [sI_len]; omega)]
      show AR _ _ _ _ _ _ _ 42 [(0, .ref B), (1, .int x)] [] ((h7.set B (10, [.ref k7, .int 0, .int 0, .int z29])).set k7 (103, sI ts ++ .int x :: r8)) _ _
      refine AR.gotoT hk_265_42 (tgt := 75) (by decide) ?_
      refine AR.s (pc' := 76) (lv' := [(0, .ref B), (1, .int x)]) (st' := [.ref B]) (h' := ((h7.set B (10, [.ref k7, .int 0, .int 0, .int z29])).set k7 (103, sI ts ++ .int x :: r8))) _ hn_265 hk_265_75 rfl ?_
      have lB : B < h7.length := (sB_lt dS).1
      have lk : k7 < h7.length := (sB_lt dS).2.1
      refine AR.aret hk_265_76 hr_265 (Or.inl ⟨_, rfl⟩) ⟨rfl, F8.tr ((fB_set d7).tr (fB_set d8)), k7, z29, r8, ?_, ?_, ?_, d4, d5, d6, d7, d8, fun x hx => d9 x (List.mem_cons_of_mem _ hx), fun c hc => ?_, ?_⟩
      · rw [List.getElem?_set_ne (Ne.symm d4)]; exact List.getElem?_set_self lB
      · rw [List.getElem?_set_self (by rw [List.length_set]; exact lk), sI_app, List.append_assoc]; rfl
      · rw [List.length_append, List.length_singleton]; omega
      · rcases List.mem_append.mp hc with e | e
        · exact d10 c e
        · rw [List.mem_singleton.mp e]; exact hx
      · rw [List.length_append, List.length_singleton]; rw [List.length_cons] at d11; omega
theorem s_281 (hlst : l.stackTraces = false) (h1 : -9 ≤ x.toInt) (h2 : x.toInt ≤ 9) : AM ax_ns l (ax_mm 281) 0 ty_R (0) (0) [.int x] h (hq_int h (if x.toInt < 0 then 2 else 1)) := by
  refine AM.of (ax_mfacts (by decide +kernel : ax_has 281 = true)).2.2.2.2.2.2 hlst (by rw [hn_281]; exact Nat.le_of_ble_eq_true rfl) ?_
  show AR ax_ns l (ax_mm 281) 0 ty_R _ _ 0 [(0, .int x)] [] h (0) (0)
  refine AR.iconstT hk_281_0 (by decide) (fun z30 ez30 => ?_)
  show AR _ _ _ _ _ _ _ 1 [(0, .int x)] [.int z30] h _ _
  refine AR.s (pc' := 2) (lv' := [(1, .int z30), (0, .int x)]) (st' := []) (h' := h) _ hn_281 hk_281_1 rfl ?_
  refine AR.s (pc' := 3) (lv' := [(1, .int z30), (0, .int x)]) (st' := [.int x]) (h' := h) _ hn_281 hk_281_2 rfl ?_
  refine AR.zlt hk_281_3 (tgt := 11) (by decide) (fun p1 => ?_) (fun p2 => ?_)
  · refine AR.bipushT hk_281_11 (by decide) (fun z31 ez31 => ?_)
    show AR _ _ _ _ _ _ _ 13 [(1, .int z30), (0, .int x)] [.int z31] h _ _
    refine AR.s (pc' := 14) (lv' := [(2, .int z31), (1, .int z30), (0, .int x)]) (st' := []) (h' := h) _ hn_281 hk_281_13 rfl ?_
    refine AR.iconstT hk_281_14 (by decide) (fun z32 ez32 => ?_)
    show AR _ _ _ _ _ _ _ 15 [(2, .int z31), (1, .int z30), (0, .int x)] [.int z32] h _ _
    refine AR.s (pc' := 16) (lv' := [(3, .int z32), (2, .int z31), (1, .int z30), (0, .int x)]) (st' := []) (h' := h) _ hn_281 hk_281_15 rfl ?_
    refine AR.s (pc' := 17) (lv' := [(3, .int z32), (2, .int z31), (1, .int z30), (0, .int x)]) (st' := [.int z32]) (h' := h) _ hn_281 hk_281_16 rfl ?_
    refine AR.bipushT hk_281_17 (by decide) (fun z33 ez33 => ?_)
    show AR _ _ _ _ _ _ _ 19 [(3, .int z32), (2, .int z31), (1, .int z30), (0, .int x)] [.int z33, .int z32] h _ _
    refine AR.jge hk_281_19 (tgt := 42) (by decide) (fun p3 => ?_) (fun p4 => ?_)
    · exact absurd p3 (by omega)
    · refine AR.s (pc' := 23) (lv' := [(3, .int z32), (2, .int z31), (1, .int z30), (0, .int x)]) (st' := [.int x]) (h' := h) _ hn_281 hk_281_22 rfl ?_
      refine AR.s (pc' := 24) (lv' := [(3, .int z32), (2, .int z31), (1, .int z30), (0, .int x)]) (st' := [.int z31, .int x]) (h' := h) _ hn_281 hk_281_23 rfl ?_
      refine AR.jle hk_281_24 (tgt := 31) (by decide) (fun p5 => ?_) (fun p6 => ?_)
      · exact absurd p5 (by omega)
      · refine AR.s (pc' := 28) (lv' := [(3, .int z32), (2, .int z31), (1, .int z30), (0, .int x)]) (st' := [.int z32]) (h' := h) _ hn_281 hk_281_27 rfl ?_
        refine AR.s (pc' := 29) (lv' := [(3, .int z32), (2, .int z31), (1, .int z30), (0, .int x)]) (st' := [.int z30, .int z32]) (h' := h) _ hn_281 hk_281_28 rfl ?_
        refine AR.addT hk_281_29 (by omega) (by omega) (fun z34 ez34 => ?_)
        show AR _ _ _ _ _ _ _ 30 [(3, .int z32), (2, .int z31), (1, .int z30), (0, .int x)] [.int z34] h _ _
        exact AR.iret hk_281_30 hr_281 ⟨rfl, _, rfl, by rw [if_pos p1]; omega⟩
  · refine AR.iconstT hk_281_6 (by decide) (fun z35 ez35 => ?_)
    show AR _ _ _ _ _ _ _ 7 [(1, .int z30), (0, .int x)] [.int z35] h _ _
    refine AR.s (pc' := 8) (lv' := [(1, .int z35), (0, .int x)]) (st' := []) (h' := h) _ hn_281 hk_281_7 rfl ?_
    refine AR.s (pc' := 9) (lv' := [(1, .int z35), (0, .int x)]) (st' := [.int x]) (h' := h) _ hn_281 hk_281_8 rfl ?_
    refine AR.negT hk_281_9 (by omega) (fun z36 ez36 => ?_)
    show AR _ _ _ _ _ _ _ 10 [(1, .int z35), (0, .int x)] [.int z36] h _ _
    refine AR.s (pc' := 11) (lv' := [(0, .int z36), (1, .int z35)]) (st' := []) (h' := h) _ hn_281 hk_281_10 rfl ?_
    refine AR.bipushT hk_281_11 (by decide) (fun z37 ez37 => ?_)
    show AR _ _ _ _ _ _ _ 13 [(0, .int z36), (1, .int z35)] [.int z37] h _ _
    refine AR.s (pc' := 14) (lv' := [(2, .int z37), (0, .int z36), (1, .int z35)]) (st' := []) (h' := h) _ hn_281 hk_281_13 rfl ?_
    refine AR.iconstT hk_281_14 (by decide) (fun z38 ez38 => ?_)
    show AR _ _ _ _ _ _ _ 15 [(2, .int z37), (0, .int z36), (1, .int z35)] [.int z38] h _ _
    refine AR.s (pc' := 16) (lv' := [(3, .int z38), (2, .int z37), (0, .int z36), (1, .int z35)]) (st' := []) (h' := h) _ hn_281 hk_281_15 rfl ?_
    refine AR.s (pc' := 17) (lv' := [(3, .int z38), (2, .int z37), (0, .int z36), (1, .int z35)]) (st' := [.int z38]) (h' := h) _ hn_281 hk_281_16 rfl ?_
    refine AR.bipushT hk_281_17 (by decide) (fun z39 ez39 => ?_)
    show AR _ _ _ _ _ _ _ 19 [(3, .int z38), (2, .int z37), (0, .int z36), (1, .int z35)] [.int z39, .int z38] h _ _
    refine AR.jge hk_281_19 (tgt := 42) (by decide) (fun p3 => ?_) (fun p4 => ?_)
    · exact absurd p3 (by omega)
    · refine AR.s (pc' := 23) (lv' := [(3, .int z38), (2, .int z37), (0, .int z36), (1, .int z35)]) (st' := [.int z36]) (h' := h) _ hn_281 hk_281_22 rfl ?_
      refine AR.s (pc' := 24) (lv' := [(3, .int z38), (2, .int z37), (0, .int z36), (1, .int z35)]) (st' := [.int z37, .int z36]) (h' := h) _ hn_281 hk_281_23 rfl ?_
      refine AR.jle hk_281_24 (tgt := 31) (by decide) (fun p5 => ?_) (fun p6 => ?_)
      · exact absurd p5 (by omega)
      · refine AR.s (pc' := 28) (lv' := [(3, .int z38), (2, .int z37), (0, .int z36), (1, .int z35)]) (st' := [.int z38]) (h' := h) _ hn_281 hk_281_27 rfl ?_
        refine AR.s (pc' := 29) (lv' := [(3, .int z38), (2, .int z37), (0, .int z36), (1, .int z35)]) (st' := [.int z35, .int z38]) (h' := h) _ hn_281 hk_281_28 rfl ?_
        refine AR.addT hk_281_29 (by omega) (by omega) (fun z40 ez40 => ?_)
        show AR _ _ _ _ _ _ _ 30 [(3, .int z38), (2, .int z37), (0, .int z36), (1, .int z35)] [.int z40] h _ _
        exact AR.iret hk_281_30 hr_281 ⟨rfl, _, rfl, by rw [if_neg (by omega)]; omega⟩
def dgt (x : Int) : List Int32 := if x < 0 then [45, Int32.ofInt (48 - x)] else [Int32.ofInt (48 + x)]
theorem dgt_d : ∀ n : Nat, n < 10 → ax_dg1.getD n 0 = Int32.ofInt (48 + (n : Int)) := by decide +kernel
theorem dgt_b : ∀ n : Nat, n < 10 → -128 ≤ (Int32.ofInt (48 + (n : Int))).toInt ∧ (Int32.ofInt (48 + (n : Int))).toInt ≤ 127 := by decide +kernel
def sq_gc (h : ax_H) (k : Nat) (p : List Value) (x : Int) (z : List Value) : ax_Q := fun res g => g = h.set k (103, p ++ sI (dgt x) ++ z) ∧ ∃ y : Int32, res = .inl (some (.int y))
theorem AR.dig1 {d i pc ix : Nat} {P : ax_P} {X : ax_PX} {lv : List (Nat × Value)} {st : List Value} {bc bs' : Nat} {v : Value} {ws : List Nat} {w : Nat × Nat × Nat} (hl : ax_look i pc = some (.getstatic ix, w, v, ws)) (hw : Cond.fieldLink (ax_mm i).1.cls ix "java/lang/Integer" "DigitOnes" "[B" ∈ ax_tb) (K : AR ax_ns l (ax_mm i) d ty_R P X (pc + 3) lv (.ref (1000000000 + 14) :: st) h bc bs') : AR ax_ns l (ax_mm i) d ty_R P X pc lv st h bc bs' :=
  AR.gets (x := .ref (1000000000 + 14)) (ax_look_ok hl).1 hw (fun b o U hJ => ⟨.ref (o 14), by rw [ax_v, ax_ad_j (by decide)], hJ.2.1.1⟩) K
theorem AR.dig2 {d i pc : Nat} {P : ax_P} {X : ax_PX} {lv : List (Nat × Value)} {st : List Value} {bc bs' : Nat} {v : Value} {ws : List Nat} {w : Nat × Nat × Nat} {y : Int32} {n : Nat} (hl : ax_look i pc = some (.baload, w, v, ws)) (hy : y.toInt = n) (hn : n < 10) (K : AR ax_ns l (ax_mm i) d ty_R P X (pc + 1) lv (.int (Int32.ofInt (48 + (n : Int))) :: st) h bc bs') : AR ax_ns l (ax_mm i) d ty_R P X pc lv (.int y :: .ref (1000000000 + 14) :: st) h bc bs' := by
  have e : y.toNatClampNeg = n := by show y.toInt.toNat = n; omega
  refine AR.jald (j := 14) (n := 100) (f := fun q => ax_dg1.getD q 0) (ax_look_ok hl).1 (by decide) (fun b o U hJ => hJ.2.1.2) (hj_nn (by omega)).1 (by omega) ?_
  rw [e, dgt_d n hn]
  exact K
theorem s_282n (hlst : l.stackTraces = false) {p9 z9 : List Value} {w0 w1 : Value} (hk : k < 1000000000) (hg : h[k]? = some (103, p9 ++ w0 :: w1 :: z9)) (hq : q.toInt = p9.length + 2) (hs : p9.length ≤ 1000) (h1 : -9 ≤ x.toInt) (h2 : x.toInt ≤ 9) (h3 : x.toInt < 0) : AM ax_ns l (ax_mm 282) 0 ty_R (0) (0) [.int x, .int q, .ref k] h (sq_gc h k p9 x.toInt z9) := by
  refine AM.of (ax_mfacts (by decide +kernel : ax_has 282 = true)).2.2.2.2.2.2 hlst (by rw [hn_282]; exact Nat.le_of_ble_eq_true rfl) ?_
  show AR ax_ns l (ax_mm 282) 0 ty_R _ _ 0 [(0, .int x), (1, .int q), (2, .ref k)] [] h (0) (0)
  refine AR.s (pc' := 1) (lv' := [(0, .int x), (1, .int q), (2, .ref k)]) (st' := [.int q]) (h' := h) _ hn_282 hk_282_0 rfl ?_
  refine AR.s (pc' := 3) (lv' := [(5, .int q), (0, .int x), (1, .int q), (2, .ref k)]) (st' := []) (h' := h) _ hn_282 hk_282_1 rfl ?_
  refine AR.s (pc' := 4) (lv' := [(5, .int q), (0, .int x), (1, .int q), (2, .ref k)]) (st' := [.int x]) (h' := h) _ hn_282 hk_282_3 rfl ?_
  refine AR.zge hk_282_4 (tgt := 11) (by decide) (fun p1 => ?_) (fun p2 => ?_)
  · exact absurd p1 (by omega)
  · refine AR.iconstT hk_282_7 (by decide) (fun z41 ez41 => ?_)
    show AR _ _ _ _ _ _ _ 8 [(5, .int q), (0, .int x), (1, .int q), (2, .ref k)] [.int z41] h _ _
    refine AR.gotoT hk_282_8 (tgt := 12) (by decide) ?_
    refine AR.s (pc' := 14) (lv' := [(6, .int z41), (5, .int q), (0, .int x), (1, .int q), (2, .ref k)]) (st' := []) (h' := h) _ hn_282 hk_282_12 rfl ?_
    refine AR.s (pc' := 16) (lv' := [(6, .int z41), (5, .int q), (0, .int x), (1, .int q), (2, .ref k)]) (st' := [.int z41]) (h' := h) _ hn_282 hk_282_14 rfl ?_
    refine AR.zne hk_282_16 (tgt := 22) (by decide) (fun p3 => ?_) (fun p4 => ?_)
    · refine AR.s (pc' := 23) (lv' := [(6, .int z41), (5, .int q), (0, .int x), (1, .int q), (2, .ref k)]) (st' := [.int x]) (h' := h) _ hn_282 hk_282_22 rfl ?_
      refine AR.bipushT hk_282_23 (by decide) (fun z42 ez42 => ?_)
      show AR _ _ _ _ _ _ _ 25 [(6, .int z41), (5, .int q), (0, .int x), (1, .int q), (2, .ref k)] [.int z42, .int x] h _ _
      refine AR.jgt hk_282_25 (tgt := 72) (by decide) (fun p5 => ?_) (fun p6 => ?_)
      · refine AR.s (pc' := 73) (lv' := [(6, .int z41), (5, .int q), (0, .int x), (1, .int q), (2, .ref k)]) (st' := [.ref k]) (h' := h) _ hn_282 hk_282_72 rfl ?_
        refine AR.iincT hk_282_73 (x := q) rfl (by rw [hn_282]; decide) (by decide) (by omega) (by omega) (fun z43 ez43 => ?_)
        show AR _ _ _ _ _ _ _ 76 [(5, .int z43), (6, .int z41), (0, .int x), (1, .int q), (2, .ref k)] [.ref k] h _ _
        refine AR.s (pc' := 78) (lv' := [(5, .int z43), (6, .int z41), (0, .int x), (1, .int q), (2, .ref k)]) (st' := [.int z43, .ref k]) (h' := h) _ hn_282 hk_282_76 rfl ?_
        refine AR.dig1 hk_282_78 (ax_wk_mem (ix := 4139) (by decide +kernel)) ?_
        show AR _ _ _ _ _ _ _ 81 [(5, .int z43), (6, .int z41), (0, .int x), (1, .int q), (2, .ref k)] [.ref (1000000000 + 14), .int z43, .ref k] h _ _
        refine AR.s (pc' := 82) (lv' := [(5, .int z43), (6, .int z41), (0, .int x), (1, .int q), (2, .ref k)]) (st' := [.int x, .ref (1000000000 + 14), .int z43, .ref k]) (h' := h) _ hn_282 hk_282_81 rfl ?_
        refine AR.negT hk_282_82 (by omega) (fun z44 ez44 => ?_)
        show AR _ _ _ _ _ _ _ 83 [(5, .int z43), (6, .int z41), (0, .int x), (1, .int q), (2, .ref k)] [.int z44, .ref (1000000000 + 14), .int z43, .ref k] h _ _
        have ny : z44.toInt = (z44.toInt.toNat : Int) := by omega
        refine AR.dig2 (n := z44.toInt.toNat) hk_282_83 ny (by omega) ?_
        show AR _ _ _ _ _ _ _ 84 [(5, .int z43), (6, .int z41), (0, .int x), (1, .int q), (2, .ref k)] [.int (Int32.ofInt (48 + (z44.toInt.toNat : Int))), .int z43, .ref k] h _ _
        obtain ⟨d1, d2⟩ := dgt_b z44.toInt.toNat (by omega)
        refine AR.bsT hk_282_84 hk hg (by omega) (by rw [List.length_append, List.length_cons, List.length_cons]; omega) ⟨_, rfl, d1, d2⟩ ?_
        rw [show p9 ++ w0 :: w1 :: z9 = (p9 ++ [w0]) ++ w1 :: z9 by rw [List.append_assoc]; rfl, sk_set (p := p9 ++ [w0]) (show z43.toInt.toNat = (p9 ++ [w0]).length by rw [List.length_append, List.length_singleton]; omega)]
        show AR _ _ _ _ _ _ _ 85 [(5, .int z43), (6, .int z41), (0, .int x), (1, .int q), (2, .ref k)] [] (h.set k (103, p9 ++ [w0] ++ .int (Int32.ofInt (48 + (z44.toInt.toNat : Int))) :: z9)) _ _
        refine AR.s (pc' := 86) (lv' := [(5, .int z43), (6, .int z41), (0, .int x), (1, .int q), (2, .ref k)]) (st' := [.int x]) (h' := (h.set k (103, p9 ++ [w0] ++ .int (Int32.ofInt (48 + (z44.toInt.toNat : Int))) :: z9))) _ hn_282 hk_282_85 rfl ?_
        refine AR.bipushT hk_282_86 (by decide) (fun z45 ez45 => ?_)
        show AR _ _ _ _ _ _ _ 88 [(5, .int z43), (6, .int z41), (0, .int x), (1, .int q), (2, .ref k)] [.int z45, .int x] (h.set k (103, p9 ++ [w0] ++ .int (Int32.ofInt (48 + (z44.toInt.toNat : Int))) :: z9)) _ _
        refine AR.jge hk_282_88 (tgt := 104) (by decide) (fun p7 => ?_) (fun p8 => ?_)
        · refine AR.s (pc' := 106) (lv' := [(5, .int z43), (6, .int z41), (0, .int x), (1, .int q), (2, .ref k)]) (st' := [.int z41]) (h' := (h.set k (103, p9 ++ [w0] ++ .int (Int32.ofInt (48 + (z44.toInt.toNat : Int))) :: z9))) _ hn_282 hk_282_104 rfl ?_
          refine AR.zeq hk_282_106 (tgt := 118) (by decide) (fun v9 => ?_) (fun v10 => ?_)
          · exact absurd v9 (by omega)
          · refine AR.s (pc' := 110) (lv' := [(5, .int z43), (6, .int z41), (0, .int x), (1, .int q), (2, .ref k)]) (st' := [.ref k]) (h' := (h.set k (103, p9 ++ [w0] ++ .int (Int32.ofInt (48 + (z44.toInt.toNat : Int))) :: z9))) _ hn_282 hk_282_109 rfl ?_
            refine AR.iincT hk_282_110 (x := z43) rfl (by rw [hn_282]; decide) (by decide) (by omega) (by omega) (fun z46 ez46 => ?_)
            show AR _ _ _ _ _ _ _ 113 [(5, .int z46), (6, .int z41), (0, .int x), (1, .int q), (2, .ref k)] [.ref k] (h.set k (103, p9 ++ [w0] ++ .int (Int32.ofInt (48 + (z44.toInt.toNat : Int))) :: z9)) _ _
            refine AR.s (pc' := 115) (lv' := [(5, .int z46), (6, .int z41), (0, .int x), (1, .int q), (2, .ref k)]) (st' := [.int z46, .ref k]) (h' := (h.set k (103, p9 ++ [w0] ++ .int (Int32.ofInt (48 + (z44.toInt.toNat : Int))) :: z9))) _ hn_282 hk_282_113 rfl ?_
            refine AR.bipushT hk_282_115 (by decide) (fun z47 ez47 => ?_)
            show AR _ _ _ _ _ _ _ 117 [(5, .int z46), (6, .int z41), (0, .int x), (1, .int q), (2, .ref k)] [.int z47, .int z46, .ref k] (h.set k (103, p9 ++ [w0] ++ .int (Int32.ofInt (48 + (z44.toInt.toNat : Int))) :: z9)) _ _
            refine AR.bsT hk_282_117 hk (List.getElem?_set_self (List.getElem?_eq_some_iff.mp hg).1) (by omega) (by rw [List.length_append, List.length_append, List.length_singleton, List.length_cons]; omega) ⟨_, rfl, by omega, by omega⟩ ?_
            rw [show p9 ++ [w0] ++ Value.int (Int32.ofInt (48 + (z44.toInt.toNat : Int))) :: z9 = p9 ++ w0 :: Value.int (Int32.ofInt (48 + (z44.toInt.toNat : Int))) :: z9 by rw [List.append_assoc]; rfl, sk_set (show z46.toInt.toNat = p9.length by omega), List.set_set]
            rw [show p9 ++ Value.int z47 :: Value.int (Int32.ofInt (48 + (z44.toInt.toNat : Int))) :: z9 = p9 ++ sI (dgt x.toInt) ++ z9 by
              unfold dgt; rw [if_pos h3, List.append_assoc, show z47 = 45 from Int32.toInt_inj.mp (by rw [ez47]; rfl), show (z44.toInt.toNat : Int) = -x.toInt by omega]; rfl]
            show AR _ _ _ _ _ _ _ 118 [(5, .int z46), (6, .int z41), (0, .int x), (1, .int q), (2, .ref k)] [] (h.set k (103, p9 ++ sI (dgt x.toInt) ++ z9)) _ _
            refine AR.s (pc' := 120) (lv' := [(5, .int z46), (6, .int z41), (0, .int x), (1, .int q), (2, .ref k)]) (st' := [.int z46]) (h' := (h.set k (103, p9 ++ sI (dgt x.toInt) ++ z9))) _ hn_282 hk_282_118 rfl ?_
            exact AR.iret hk_282_120 hr_282 ⟨rfl, _, rfl⟩
        · exact absurd p8 (by omega)
      · exact absurd p6 (by omega)
    · exact absurd p4 (by omega)
theorem s_282p (hlst : l.stackTraces = false) {p9 z9 : List Value} {w0 : Value} (hk : k < 1000000000) (hg : h[k]? = some (103, p9 ++ w0 :: z9)) (hq : q.toInt = p9.length + 1) (hs : p9.length ≤ 1000) (h1 : -9 ≤ x.toInt) (h2 : x.toInt ≤ 9) (h3 : 0 ≤ x.toInt) : AM ax_ns l (ax_mm 282) 0 ty_R (0) (0) [.int x, .int q, .ref k] h (sq_gc h k p9 x.toInt z9) := by
  refine AM.of (ax_mfacts (by decide +kernel : ax_has 282 = true)).2.2.2.2.2.2 hlst (by rw [hn_282]; exact Nat.le_of_ble_eq_true rfl) ?_
  show AR ax_ns l (ax_mm 282) 0 ty_R _ _ 0 [(0, .int x), (1, .int q), (2, .ref k)] [] h (0) (0)
  refine AR.s (pc' := 1) (lv' := [(0, .int x), (1, .int q), (2, .ref k)]) (st' := [.int q]) (h' := h) _ hn_282 hk_282_0 rfl ?_
  refine AR.s (pc' := 3) (lv' := [(5, .int q), (0, .int x), (1, .int q), (2, .ref k)]) (st' := []) (h' := h) _ hn_282 hk_282_1 rfl ?_
  refine AR.s (pc' := 4) (lv' := [(5, .int q), (0, .int x), (1, .int q), (2, .ref k)]) (st' := [.int x]) (h' := h) _ hn_282 hk_282_3 rfl ?_
  refine AR.zge hk_282_4 (tgt := 11) (by decide) (fun p1 => ?_) (fun p2 => ?_)
  · refine AR.iconstT hk_282_11 (by decide) (fun z48 ez48 => ?_)
    show AR _ _ _ _ _ _ _ 12 [(5, .int q), (0, .int x), (1, .int q), (2, .ref k)] [.int z48] h _ _
    refine AR.s (pc' := 14) (lv' := [(6, .int z48), (5, .int q), (0, .int x), (1, .int q), (2, .ref k)]) (st' := []) (h' := h) _ hn_282 hk_282_12 rfl ?_
    refine AR.s (pc' := 16) (lv' := [(6, .int z48), (5, .int q), (0, .int x), (1, .int q), (2, .ref k)]) (st' := [.int z48]) (h' := h) _ hn_282 hk_282_14 rfl ?_
    refine AR.zne hk_282_16 (tgt := 22) (by decide) (fun p3 => ?_) (fun p4 => ?_)
    · exact absurd p3 (by omega)
    · refine AR.s (pc' := 20) (lv' := [(6, .int z48), (5, .int q), (0, .int x), (1, .int q), (2, .ref k)]) (st' := [.int x]) (h' := h) _ hn_282 hk_282_19 rfl ?_
      refine AR.negT hk_282_20 (by omega) (fun z49 ez49 => ?_)
      show AR _ _ _ _ _ _ _ 21 [(6, .int z48), (5, .int q), (0, .int x), (1, .int q), (2, .ref k)] [.int z49] h _ _
      refine AR.s (pc' := 22) (lv' := [(0, .int z49), (6, .int z48), (5, .int q), (1, .int q), (2, .ref k)]) (st' := []) (h' := h) _ hn_282 hk_282_21 rfl ?_
      refine AR.s (pc' := 23) (lv' := [(0, .int z49), (6, .int z48), (5, .int q), (1, .int q), (2, .ref k)]) (st' := [.int z49]) (h' := h) _ hn_282 hk_282_22 rfl ?_
      refine AR.bipushT hk_282_23 (by decide) (fun z50 ez50 => ?_)
      show AR _ _ _ _ _ _ _ 25 [(0, .int z49), (6, .int z48), (5, .int q), (1, .int q), (2, .ref k)] [.int z50, .int z49] h _ _
      refine AR.jgt hk_282_25 (tgt := 72) (by decide) (fun p5 => ?_) (fun p6 => ?_)
      · refine AR.s (pc' := 73) (lv' := [(0, .int z49), (6, .int z48), (5, .int q), (1, .int q), (2, .ref k)]) (st' := [.ref k]) (h' := h) _ hn_282 hk_282_72 rfl ?_
        refine AR.iincT hk_282_73 (x := q) rfl (by rw [hn_282]; decide) (by decide) (by omega) (by omega) (fun z51 ez51 => ?_)
        show AR _ _ _ _ _ _ _ 76 [(5, .int z51), (0, .int z49), (6, .int z48), (1, .int q), (2, .ref k)] [.ref k] h _ _
        refine AR.s (pc' := 78) (lv' := [(5, .int z51), (0, .int z49), (6, .int z48), (1, .int q), (2, .ref k)]) (st' := [.int z51, .ref k]) (h' := h) _ hn_282 hk_282_76 rfl ?_
        refine AR.dig1 hk_282_78 (ax_wk_mem (ix := 4139) (by decide +kernel)) ?_
        show AR _ _ _ _ _ _ _ 81 [(5, .int z51), (0, .int z49), (6, .int z48), (1, .int q), (2, .ref k)] [.ref (1000000000 + 14), .int z51, .ref k] h _ _
        refine AR.s (pc' := 82) (lv' := [(5, .int z51), (0, .int z49), (6, .int z48), (1, .int q), (2, .ref k)]) (st' := [.int z49, .ref (1000000000 + 14), .int z51, .ref k]) (h' := h) _ hn_282 hk_282_81 rfl ?_
        refine AR.negT hk_282_82 (by omega) (fun z52 ez52 => ?_)
        show AR _ _ _ _ _ _ _ 83 [(5, .int z51), (0, .int z49), (6, .int z48), (1, .int q), (2, .ref k)] [.int z52, .ref (1000000000 + 14), .int z51, .ref k] h _ _
        have ny : z52.toInt = (z52.toInt.toNat : Int) := by omega
        refine AR.dig2 (n := z52.toInt.toNat) hk_282_83 ny (by omega) ?_
        show AR _ _ _ _ _ _ _ 84 [(5, .int z51), (0, .int z49), (6, .int z48), (1, .int q), (2, .ref k)] [.int (Int32.ofInt (48 + (z52.toInt.toNat : Int))), .int z51, .ref k] h _ _
        obtain ⟨d1, d2⟩ := dgt_b z52.toInt.toNat (by omega)
        refine AR.bsT hk_282_84 hk hg (by omega) (by rw [List.length_append, List.length_cons]; omega) ⟨_, rfl, d1, d2⟩ ?_
        rw [sk_set (show z51.toInt.toNat = p9.length by omega)]
        show AR _ _ _ _ _ _ _ 85 [(5, .int z51), (0, .int z49), (6, .int z48), (1, .int q), (2, .ref k)] [] (h.set k (103, p9 ++ .int (Int32.ofInt (48 + (z52.toInt.toNat : Int))) :: z9)) _ _
        refine AR.s (pc' := 86) (lv' := [(5, .int z51), (0, .int z49), (6, .int z48), (1, .int q), (2, .ref k)]) (st' := [.int z49]) (h' := (h.set k (103, p9 ++ .int (Int32.ofInt (48 + (z52.toInt.toNat : Int))) :: z9))) _ hn_282 hk_282_85 rfl ?_
        refine AR.bipushT hk_282_86 (by decide) (fun z53 ez53 => ?_)
        show AR _ _ _ _ _ _ _ 88 [(5, .int z51), (0, .int z49), (6, .int z48), (1, .int q), (2, .ref k)] [.int z53, .int z49] (h.set k (103, p9 ++ .int (Int32.ofInt (48 + (z52.toInt.toNat : Int))) :: z9)) _ _
        refine AR.jge hk_282_88 (tgt := 104) (by decide) (fun p7 => ?_) (fun p8 => ?_)
        · refine AR.s (pc' := 106) (lv' := [(5, .int z51), (0, .int z49), (6, .int z48), (1, .int q), (2, .ref k)]) (st' := [.int z48]) (h' := (h.set k (103, p9 ++ .int (Int32.ofInt (48 + (z52.toInt.toNat : Int))) :: z9))) _ hn_282 hk_282_104 rfl ?_
          refine AR.zeq hk_282_106 (tgt := 118) (by decide) (fun v9 => ?_) (fun v10 => ?_)
          · rw [show p9 ++ Value.int (Int32.ofInt (48 + (z52.toInt.toNat : Int))) :: z9 = p9 ++ sI (dgt x.toInt) ++ z9 by
              unfold dgt; rw [if_neg (show ¬ x.toInt < 0 by omega), List.append_assoc, show (z52.toInt.toNat : Int) = x.toInt by omega]; rfl]
            show AR _ _ _ _ _ _ _ 118 [(5, .int z51), (0, .int z49), (6, .int z48), (1, .int q), (2, .ref k)] [] (h.set k (103, p9 ++ sI (dgt x.toInt) ++ z9)) _ _
            refine AR.s (pc' := 120) (lv' := [(5, .int z51), (0, .int z49), (6, .int z48), (1, .int q), (2, .ref k)]) (st' := [.int z51]) (h' := (h.set k (103, p9 ++ sI (dgt x.toInt) ++ z9))) _ hn_282 hk_282_118 rfl ?_
            exact AR.iret hk_282_120 hr_282 ⟨rfl, _, rfl⟩
          · exact absurd v10 (by omega)
        · exact absurd p8 (by omega)
      · exact absurd p6 (by omega)
  · exact absurd p2 (by omega)
theorem dgt_len (x : Int) : ((dgt x).length : Int) = if x < 0 then 2 else 1 := by unfold dgt; split <;> rfl
theorem dgt_sk {x : Int} (h1 : -9 ≤ x) (h2 : x ≤ 9) : ∀ c ∈ dgt x, sk c := by
  have e : ∀ n : Nat, n < 10 → 0 ≤ (Int32.ofInt (48 + (n : Int))).toInt ∧ (Int32.ofInt (48 + (n : Int))).toInt ≤ 127 := by decide +kernel
  unfold dgt
  split
  · intro c hc
    rcases List.mem_cons.mp hc with rfl | hc
    · exact ⟨by decide, by decide⟩
    · rw [List.mem_singleton.mp hc]
      have := e (-x).toNat (by omega)
      rwa [show (48 : Int) + ((-x).toNat : Int) = 48 - x by omega] at this
  · intro c hc
    rw [List.mem_singleton.mp hc]
    have := e x.toNat (by omega)
    rwa [show (48 : Int) + (x.toNat : Int) = 48 + x by omega] at this
theorem sB_nil (S : sB h n0 B k n ts r) : True := trivial
theorem s_266 (hlst : l.stackTraces = false) (S : sB h n0 B k n ts r) (h1 : ts.length ≤ 43) (x1 : -9 ≤ x.toInt) (x2 : x.toInt ≤ 9) : AM ax_ns l (ax_mm 266) 3 ty_R (1) (100) [.ref B, .int x] h (sq_ap h n0 B (ts ++ dgt x.toInt)) := by
  refine AM.of (ax_mfacts (by decide +kernel : ax_has 266 = true)).2.2.2.2.2.2 hlst (by rw [hn_266]; exact Nat.le_of_ble_eq_true rfl) ?_
  show AR ax_ns l (ax_mm 266) 3 ty_R _ _ 0 [(0, .ref B), (1, .int x)] [] h (1) (100)
  have bS := S
  obtain ⟨b1, b2, b3, b4, b5, b6, b7, b8, b9, b10, b11⟩ := id bS
  refine AR.s (pc' := 1) (lv' := [(0, .ref B), (1, .int x)]) (st' := [.ref B]) (h' := h) _ hn_266 hk_266_0 rfl ?_
  refine AR.gx hk_266_1 (by decide) b6 b1 (x := .int n) rfl ?_
  show AR _ _ _ _ _ _ _ 4 [(0, .ref B), (1, .int x)] [.int n] h _ _
  refine AR.s (pc' := 5) (lv' := [(2, .int n), (0, .ref B), (1, .int x)]) (st' := []) (h' := h) _ hn_266 hk_266_4 rfl ?_
  refine AR.s (pc' := 6) (lv' := [(2, .int n), (0, .ref B), (1, .int x)]) (st' := [.int n]) (h' := h) _ hn_266 hk_266_5 rfl ?_
  refine AR.s (pc' := 7) (lv' := [(2, .int n), (0, .ref B), (1, .int x)]) (st' := [.int x, .int n]) (h' := h) _ hn_266 hk_266_6 rfl ?_
  refine AR.cs (as := [.int x]) (rest := [.int n]) hk_266_7 (by decide +kernel) rfl rfl (Nat.le_of_ble_eq_true rfl) (s_281 hlst x1 x2) (by decide) (Nat.zero_le _) (Nat.zero_le _) (fun E h' q => by obtain ⟨-, x, e, -⟩ := q; cases e) ?_
  rintro w54 g55 ⟨eg55, z56, e, ez56⟩
  cases e
  obtain rfl := eg55.symm
  show AR _ _ _ _ _ _ _ 10 [(2, .int n), (0, .ref B), (1, .int x)] [.int z56, .int n] h _ _
  have zb : z56.toInt = 1 ∨ z56.toInt = 2 := by rw [ez56]; split <;> omega
  refine AR.addT hk_266_10 (by omega) (by omega) (fun z57 ez57 => ?_)
  show AR _ _ _ _ _ _ _ 11 [(2, .int n), (0, .ref B), (1, .int x)] [.int z57] h _ _
  refine AR.s (pc' := 12) (lv' := [(3, .int z57), (2, .int n), (0, .ref B), (1, .int x)]) (st' := []) (h' := h) _ hn_266 hk_266_11 rfl ?_
  refine AR.s (pc' := 13) (lv' := [(3, .int z57), (2, .int n), (0, .ref B), (1, .int x)]) (st' := [.ref B]) (h' := h) _ hn_266 hk_266_12 rfl ?_
  refine AR.s (pc' := 14) (lv' := [(3, .int z57), (2, .int n), (0, .ref B), (1, .int x)]) (st' := [.int z57, .ref B]) (h' := h) _ hn_266 hk_266_13 rfl ?_
  refine AR.jV (as := [.int z57]) (rest := []) hk_266_14 hs_266_14 (by decide +kernel) (by decide +kernel) (by decide +kernel) (ax_wk_mem (ix := 9000) (by decide +kernel)) b6 b1 rfl rfl (Nat.le_of_ble_eq_true rfl) (s_268 hlst S (by omega) (by omega)) (by decide) (Nat.le_refl _) (Nat.le_refl _) (fun E h' q => by cases q.1) ?_
  obtain ⟨l1, l2, l3⟩ := sB_lt S
  rintro w7 h7 ⟨e, F7, k7, r7, dS, l7⟩
  cases e
  obtain ⟨d1, d2, d3, d4, d5, d6, d7, d8, d9, d10, d11⟩ := id dS
  have F8 : fB n0 h h7 := F7.fB b7 l3
  show AR _ _ _ _ _ _ _ 17 [(3, .int z57), (2, .int n), (0, .ref B), (1, .int x)] [] h7 _ _
  have c1 : (1 : Int32).toInt = 1 := rfl
  have c0 : (0 : Int32).toInt = 0 := rfl
  refine AR.s (pc' := 18) (lv' := [(3, .int z57), (2, .int n), (0, .ref B), (1, .int x)]) (st' := [.ref B]) (h' := h7) _ hn_266 hk_266_17 rfl ?_
  refine AR.jV (as := []) (rest := []) hk_266_18 hs_266_18 (by decide +kernel) (by decide +kernel) (by decide +kernel) (ax_wk_mem (ix := 4072) (by decide +kernel)) d6 d1 rfl rfl (Nat.le_of_ble_eq_true rfl) (s_272 hlst d6 d1) (by decide) (Nat.zero_le _) (Nat.zero_le _) (fun E h' q => by obtain ⟨-, x, e, -⟩ := q; cases e) ?_
  rintro w58 g59 ⟨eg59, z60, e, ez60⟩
  cases e
  obtain rfl := eg59.symm
  show AR _ _ _ _ _ _ _ 21 [(3, .int z57), (2, .int n), (0, .ref B), (1, .int x)] [.int z60] h7 _ _
  refine AR.zeq hk_266_21 (tgt := 37) (by decide) (fun p1 => ?_) (fun p2 => ?_)
  · exact absurd p1 (by omega)
  · refine AR.s (pc' := 25) (lv' := [(3, .int z57), (2, .int n), (0, .ref B), (1, .int x)]) (st' := [.int x]) (h' := h7) _ hn_266 hk_266_24 rfl ?_
    refine AR.s (pc' := 26) (lv' := [(3, .int z57), (2, .int n), (0, .ref B), (1, .int x)]) (st' := [.int z57, .int x]) (h' := h7) _ hn_266 hk_266_25 rfl ?_
    refine AR.s (pc' := 27) (lv' := [(3, .int z57), (2, .int n), (0, .ref B), (1, .int x)]) (st' := [.ref B, .int z57, .int x]) (h' := h7) _ hn_266 hk_266_26 rfl ?_
    refine AR.gx hk_266_27 (by decide) d6 d1 (x := .ref k7) rfl ?_
    show AR _ _ _ _ _ _ _ 30 [(3, .int z57), (2, .int n), (0, .ref B), (1, .int x)] [.ref k7, .int z57, .int x] h7 _ _
    have dl := dgt_len x.toInt
    by_cases hx : x.toInt < 0
    · rw [if_pos hx] at ez56 dl
      obtain ⟨y8, y9, r8, rfl⟩ : ∃ y8 y9 r8, r7 = y8 :: y9 :: r8 := by
        rcases r7 with _ | ⟨y, _ | ⟨z, t⟩⟩
        · simp only [List.length_nil] at l7; omega
        · simp only [List.length_cons, List.length_nil] at l7; omega
        · exact ⟨y, z, t, rfl⟩
      refine AR.cs (as := [.int x, .int z57, .ref k7]) (rest := []) hk_266_30 (by decide +kernel) rfl rfl (Nat.le_of_ble_eq_true rfl) (s_282n hlst (p9 := sI ts) (z9 := r8) d5 d2 (by rw [sI_len]; omega) (by rw [sI_len]; omega) x1 x2 hx) (by decide) (Nat.zero_le _) (Nat.zero_le _) (fun E h' q => by obtain ⟨-, y, e⟩ := q; cases e) ?_
      rintro w9 g9 ⟨e9, y7, e⟩
      cases e
      subst e9
      show AR _ _ _ _ _ _ _ 33 [(3, .int z57), (2, .int n), (0, .ref B), (1, .int x)] [.int y7] (h7.set k7 (103, sI ts ++ sI (dgt x.toInt) ++ r8)) _ _
      refine AR.s (pc' := 34) (lv' := [(3, .int z57), (2, .int n), (0, .ref B), (1, .int x)]) (st' := []) (h' := (h7.set k7 (103, sI ts ++ sI (dgt x.toInt) ++ r8))) _ hn_266 hk_266_33 rfl ?_
      refine AR.gotoT hk_266_34 (tgt := 48) (by decide) ?_
      refine AR.s (pc' := 49) (lv' := [(3, .int z57), (2, .int n), (0, .ref B), (1, .int x)]) (st' := [.ref B]) (h' := (h7.set k7 (103, sI ts ++ sI (dgt x.toInt) ++ r8))) _ hn_266 hk_266_48 rfl ?_
      refine AR.s (pc' := 50) (lv' := [(3, .int z57), (2, .int n), (0, .ref B), (1, .int x)]) (st' := [.int z57, .ref B]) (h' := (h7.set k7 (103, sI ts ++ sI (dgt x.toInt) ++ r8))) _ hn_266 hk_266_49 rfl ?_
      refine AR.px hk_266_50 (by decide) d6 (vs := [.ref k7, .int 0, .int 0, .int n]) (by rw [List.getElem?_set_ne (Ne.symm d4)]; exact d1) (show ax_cls[10]? = some hs_c10 from rfl) rfl rfl ?_
      show AR _ _ _ _ _ _ _ 53 [(3, .int z57), (2, .int n), (0, .ref B), (1, .int x)] [] _ _ _
      refine AR.s (pc' := 54) (lv' := [(3, .int z57), (2, .int n), (0, .ref B), (1, .int x)]) (st' := [.ref B]) (h' := _) _ hn_266 hk_266_53 rfl ?_
      have lB : B < h7.length := (sB_lt dS).1
      have lk : k7 < h7.length := (sB_lt dS).2.1
      refine AR.aret hk_266_54 hr_266 (Or.inl ⟨_, rfl⟩) ⟨rfl, F8.tr ((fB_set d8).tr (fB_set d7)), k7, z57, r8, ?_, ?_, ?_, d4, d5, d6, d7, d8, fun x hx => d9 x (List.mem_cons_of_mem _ (List.mem_cons_of_mem _ hx)), fun c hc => ?_, ?_⟩
      · exact List.getElem?_set_self (by rw [List.length_set]; exact lB)
      · rw [List.getElem?_set_ne d4, List.getElem?_set_self lk, sI_app]
      · rw [List.length_append]; omega
      · rcases List.mem_append.mp hc with e | e
        · exact d10 c e
        · exact dgt_sk x1 x2 c e
      · rw [List.length_append]; simp only [List.length_cons] at d11; omega
    · rw [if_neg hx] at ez56 dl
      obtain ⟨y8, r8, rfl⟩ : ∃ y8 r8, r7 = y8 :: r8 := by
        rcases r7 with _ | ⟨y, t⟩
        · simp only [List.length_nil] at l7; omega
        · exact ⟨y, t, rfl⟩
      refine AR.cs (as := [.int x, .int z57, .ref k7]) (rest := []) hk_266_30 (by decide +kernel) rfl rfl (Nat.le_of_ble_eq_true rfl) (s_282p hlst (p9 := sI ts) (z9 := r8) d5 d2 (by rw [sI_len]; omega) (by rw [sI_len]; omega) x1 x2 (by omega)) (by decide) (Nat.zero_le _) (Nat.zero_le _) (fun E h' q => by obtain ⟨-, y, e⟩ := q; cases e) ?_
      rintro w9 g9 ⟨e9, y7, e⟩
      cases e
      subst e9
      show AR _ _ _ _ _ _ _ 33 [(3, .int z57), (2, .int n), (0, .ref B), (1, .int x)] [.int y7] (h7.set k7 (103, sI ts ++ sI (dgt x.toInt) ++ r8)) _ _
      refine AR.s (pc' := 34) (lv' := [(3, .int z57), (2, .int n), (0, .ref B), (1, .int x)]) (st' := []) (h' := (h7.set k7 (103, sI ts ++ sI (dgt x.toInt) ++ r8))) _ hn_266 hk_266_33 rfl ?_
      refine AR.gotoT hk_266_34 (tgt := 48) (by decide) ?_
      refine AR.s (pc' := 49) (lv' := [(3, .int z57), (2, .int n), (0, .ref B), (1, .int x)]) (st' := [.ref B]) (h' := (h7.set k7 (103, sI ts ++ sI (dgt x.toInt) ++ r8))) _ hn_266 hk_266_48 rfl ?_
      refine AR.s (pc' := 50) (lv' := [(3, .int z57), (2, .int n), (0, .ref B), (1, .int x)]) (st' := [.int z57, .ref B]) (h' := (h7.set k7 (103, sI ts ++ sI (dgt x.toInt) ++ r8))) _ hn_266 hk_266_49 rfl ?_
      refine AR.px hk_266_50 (by decide) d6 (vs := [.ref k7, .int 0, .int 0, .int n]) (by rw [List.getElem?_set_ne (Ne.symm d4)]; exact d1) (show ax_cls[10]? = some hs_c10 from rfl) rfl rfl ?_
      show AR _ _ _ _ _ _ _ 53 [(3, .int z57), (2, .int n), (0, .ref B), (1, .int x)] [] _ _ _
      refine AR.s (pc' := 54) (lv' := [(3, .int z57), (2, .int n), (0, .ref B), (1, .int x)]) (st' := [.ref B]) (h' := _) _ hn_266 hk_266_53 rfl ?_
      have lB : B < h7.length := (sB_lt dS).1
      have lk : k7 < h7.length := (sB_lt dS).2.1
      refine AR.aret hk_266_54 hr_266 (Or.inl ⟨_, rfl⟩) ⟨rfl, F8.tr ((fB_set d8).tr (fB_set d7)), k7, z57, r8, ?_, ?_, ?_, d4, d5, d6, d7, d8, fun x hx => d9 x (List.mem_cons_of_mem _ hx), fun c hc => ?_, ?_⟩
      · exact List.getElem?_set_self (by rw [List.length_set]; exact lB)
      · rw [List.getElem?_set_ne d4, List.getElem?_set_self lk, sI_app]
      · rw [List.length_append]; omega
      · rcases List.mem_append.mp hc with e | e
        · exact d10 c e
        · exact dgt_sk x1 x2 c e
      · rw [List.length_append]; simp only [List.length_cons] at d11; omega
theorem s_276 (hlst : l.stackTraces = false) (S : sT h a ts) : AM ax_ns l (ax_mm 276) 0 ty_R (0) (0) [.ref a] h (hq_int h 0) := by
  refine AM.of (ax_mfacts (by decide +kernel : ax_has 276 = true)).2.2.2.2.2.2 hlst (by rw [hn_276]; exact Nat.le_of_ble_eq_true rfl) ?_
  show AR ax_ns l (ax_mm 276) 0 ty_R _ _ 0 [(0, .ref a)] [] h (0) (0)
  have c1 : (1 : Int32).toInt = 1 := rfl
  have c0 : (0 : Int32).toInt = 0 := rfl
  refine AR.s (pc' := 3) (lv' := [(0, .ref a)]) (st' := [.int 1]) (h' := h) _ hn_276 hk_276_0 rfl ?_
  show AR _ _ _ _ _ _ _ 3 [(0, .ref a)] [.int 1] h _ _
  refine AR.zeq hk_276_3 (tgt := 13) (by decide) (fun p1 => ?_) (fun p2 => ?_)
  · exact absurd p1 (by omega)
  · refine AR.s (pc' := 7) (lv' := [(0, .ref a)]) (st' := [.ref a]) (h' := h) _ hn_276 hk_276_6 rfl ?_
    refine AR.sC hk_276_7 (ax_wk_mem (ix := 4198) (by decide +kernel)) S ?_
    show AR _ _ _ _ _ _ _ 10 [(0, .ref a)] [.int 0] h _ _
    refine AR.gotoT hk_276_10 (tgt := 14) (by decide) ?_
    exact AR.bret hk_276_14 hr_276 ⟨0, rfl, by decide, by decide⟩ ⟨rfl, _, rfl, rfl⟩
theorem s_275 (hlst : l.stackTraces = false) (S : sT h a ts) : AM ax_ns l (ax_mm 275) 1 ty_R (0) (0) [.ref a] h (hq_int h ts.length) := by
  refine AM.of (ax_mfacts (by decide +kernel : ax_has 275 = true)).2.2.2.2.2.2 hlst (by rw [hn_275]; exact Nat.le_of_ble_eq_true rfl) ?_
  show AR ax_ns l (ax_mm 275) 1 ty_R _ _ 0 [(0, .ref a)] [] h (0) (0)
  refine AR.s (pc' := 1) (lv' := [(0, .ref a)]) (st' := [.ref a]) (h' := h) _ hn_275 hk_275_0 rfl ?_
  refine AR.sV hk_275_1 (ax_wk_mem (ix := 4197) (by decide +kernel)) S (fun t A => ?_)
  show AR _ _ _ _ _ _ _ 4 [(0, .ref a)] [.ref t] h _ _
  refine AR.sL hk_275_4 A (fun z ez => ?_)
  show AR _ _ _ _ _ _ _ 5 [(0, .ref a)] [.int z] h _ _
  refine AR.s (pc' := 6) (lv' := [(0, .ref a)]) (st' := [.ref a, .int z]) (h' := h) _ hn_275 hk_275_5 rfl ?_
  refine AR.jS (as := []) (rest := [.int z]) hk_275_6 hs_275_6 (by decide +kernel) (by decide +kernel) (by decide +kernel) (ax_wk_mem (ix := 3193) (by decide +kernel)) S rfl rfl (Nat.le_of_ble_eq_true rfl) (s_276 hlst S) (by decide) (Nat.zero_le _) (Nat.zero_le _) (fun E h' q => by obtain ⟨-, x, e, -⟩ := q; cases e) ?_
  rintro w61 g62 ⟨eg62, z63, e, ez63⟩
  cases e
  obtain rfl := eg62.symm
  show AR _ _ _ _ _ _ _ 9 [(0, .ref a)] [.int z63, .int z] h _ _
  obtain rfl : z63 = 0 := Int32.toInt_inj.mp ez63
  show AR _ _ _ _ _ _ _ 9 [(0, .ref a)] [.int 0, .int z] h _ _
  refine AR.shrT hk_275_9 ?_
  show AR _ _ _ _ _ _ _ 10 [(0, .ref a)] [.int z] h _ _
  exact AR.iret hk_275_10 hr_275 ⟨rfl, _, rfl, ez⟩
def sq_nc (h : ax_H) : ax_Q := fun res g => res = .inl none ∧ g = h
theorem s_271 (hlst : l.stackTraces = false) (hB : B < 1000000000) (h1 : h[B]? = some (10, [.ref k, .int 0, .int 0, .int n])) (S : sT h a ts) : AM ax_ns l (ax_mm 271) 1 ty_R (0) (0) [.ref B, .ref a] h (sq_nc h) := by
  refine AM.of (ax_mfacts (by decide +kernel : ax_has 271 = true)).2.2.2.2.2.2 hlst (by rw [hn_271]; exact Nat.le_of_ble_eq_true rfl) ?_
  show AR ax_ns l (ax_mm 271) 1 ty_R _ _ 0 [(0, .ref B), (1, .ref a)] [] h (0) (0)
  have c1 : (1 : Int32).toInt = 1 := rfl
  refine AR.s (pc' := 3) (lv' := [(0, .ref B), (1, .ref a)]) (st' := [.int 1]) (h' := h) _ hn_271 hk_271_0 rfl ?_
  show AR _ _ _ _ _ _ _ 3 [(0, .ref B), (1, .ref a)] [.int 1] h _ _
  refine AR.zeq hk_271_3 (tgt := 21) (by decide) (fun p1 => ?_) (fun p2 => ?_)
  · exact absurd p1 (by omega)
  · refine AR.s (pc' := 7) (lv' := [(0, .ref B), (1, .ref a)]) (st' := [.ref B]) (h' := h) _ hn_271 hk_271_6 rfl ?_
    refine AR.gx hk_271_7 (by decide) hB h1 (x := .int 0) rfl ?_
    show AR _ _ _ _ _ _ _ 10 [(0, .ref B), (1, .ref a)] [.int 0] h _ _
    refine AR.s (pc' := 11) (lv' := [(0, .ref B), (1, .ref a)]) (st' := [.ref a, .int 0]) (h' := h) _ hn_271 hk_271_10 rfl ?_
    refine AR.jS (as := []) (rest := [.int 0]) hk_271_11 hs_271_11 (by decide +kernel) (by decide +kernel) (by decide +kernel) (ax_wk_mem (ix := 3193) (by decide +kernel)) S rfl rfl (Nat.le_of_ble_eq_true rfl) (s_276 hlst S) (by decide) (Nat.zero_le _) (Nat.zero_le _) (fun E h' q => by obtain ⟨-, x, e, -⟩ := q; cases e) ?_
    rintro w64 g65 ⟨eg65, z66, e, ez66⟩
    cases e
    obtain rfl := eg65.symm
    show AR _ _ _ _ _ _ _ 14 [(0, .ref B), (1, .ref a)] [.int z66, .int 0] h _ _
    have c0 : (0 : Int32).toInt = 0 := rfl
    refine AR.jeq hk_271_14 (tgt := 21) (by decide) (fun p3 => ?_) (fun p4 => ?_)
    · exact AR.vret hk_271_21 hr_271 ⟨rfl, rfl⟩
    · exact absurd (ez66.symm) p4
def sq_gb (h : ax_H) (k : Nat) (p us z : List Value) : ax_Q := fun res g => res = .inl none ∧ g = h.set k (103, p ++ us ++ z)
theorem s_277 (hlst : l.stackTraces = false) {p9 y9 z9 : List Value} (S : sT h a us) (hk : k < 1000000000) (hg : h[k]? = some (103, p9 ++ y9 ++ z9)) (hb : ∀ x ∈ p9 ++ y9 ++ z9, hj_by x) (hn : n.toInt = p9.length) (hy : y9.length = us.length) : AM ax_ns l (ax_mm 277) 1 ty_R (0) (0) [.ref a, .ref k, .int n, .int 0] h (sq_gb h k p9 (sI us) z9) := by
  refine AM.of (ax_mfacts (by decide +kernel : ax_has 277 = true)).2.2.2.2.2.2 hlst (by rw [hn_277]; exact Nat.le_of_ble_eq_true rfl) ?_
  show AR ax_ns l (ax_mm 277) 1 ty_R _ _ 0 [(0, .ref a), (1, .ref k), (2, .int n), (3, .int 0)] [] h (0) (0)
  refine AR.s (pc' := 1) (lv' := [(0, .ref a), (1, .ref k), (2, .int n), (3, .int 0)]) (st' := [.ref a]) (h' := h) _ hn_277 hk_277_0 rfl ?_
  refine AR.jS (as := []) (rest := []) hk_277_1 hs_277_1 (by decide +kernel) (by decide +kernel) (by decide +kernel) (ax_wk_mem (ix := 3193) (by decide +kernel)) S rfl rfl (Nat.le_of_ble_eq_true rfl) (s_276 hlst S) (by decide) (Nat.zero_le _) (Nat.zero_le _) (fun E h' q => by obtain ⟨-, x, e, -⟩ := q; cases e) ?_
  rintro w67 g68 ⟨eg68, z69, e, ez69⟩
  cases e
  obtain rfl := eg68.symm
  show AR _ _ _ _ _ _ _ 4 [(0, .ref a), (1, .ref k), (2, .int n), (3, .int 0)] [.int z69] h _ _
  refine AR.s (pc' := 5) (lv' := [(0, .ref a), (1, .ref k), (2, .int n), (3, .int 0)]) (st' := [.int 0, .int z69]) (h' := h) _ hn_277 hk_277_4 rfl ?_
  have c0 : (0 : Int32).toInt = 0 := rfl
  refine AR.jne hk_277_5 (tgt := 28) (by decide) (fun p1 => ?_) (fun p2 => ?_)
  · exact absurd p1 (by omega)
  · refine AR.s (pc' := 9) (lv' := [(0, .ref a), (1, .ref k), (2, .int n), (3, .int 0)]) (st' := [.ref a]) (h' := h) _ hn_277 hk_277_8 rfl ?_
    refine AR.sV hk_277_9 (ax_wk_mem (ix := 4197) (by decide +kernel)) S (fun t A => ?_)
    show AR _ _ _ _ _ _ _ 12 [(0, .ref a), (1, .ref k), (2, .int n), (3, .int 0)] [.ref t] h _ _
    refine AR.s (pc' := 13) (lv' := [(0, .ref a), (1, .ref k), (2, .int n), (3, .int 0)]) (st' := [.int 0, .ref t]) (h' := h) _ hn_277 hk_277_12 rfl ?_
    refine AR.s (pc' := 14) (lv' := [(0, .ref a), (1, .ref k), (2, .int n), (3, .int 0)]) (st' := [.ref k, .int 0, .ref t]) (h' := h) _ hn_277 hk_277_13 rfl ?_
    refine AR.s (pc' := 15) (lv' := [(0, .ref a), (1, .ref k), (2, .int n), (3, .int 0)]) (st' := [.int n, .ref k, .int 0, .ref t]) (h' := h) _ hn_277 hk_277_14 rfl ?_
    refine AR.s (pc' := 16) (lv' := [(0, .ref a), (1, .ref k), (2, .int n), (3, .int 0)]) (st' := [.int 0, .int n, .ref k, .int 0, .ref t]) (h' := h) _ hn_277 hk_277_15 rfl ?_
    refine AR.shlT hk_277_16 ?_
    show AR _ _ _ _ _ _ _ 17 [(0, .ref a), (1, .ref k), (2, .int n), (3, .int 0)] [.int n, .ref k, .int 0, .ref t] h _ _
    refine AR.s (pc' := 18) (lv' := [(0, .ref a), (1, .ref k), (2, .int n), (3, .int 0)]) (st' := [.ref a, .int n, .ref k, .int 0, .ref t]) (h' := h) _ hn_277 hk_277_17 rfl ?_
    refine AR.sV hk_277_18 (ax_wk_mem (ix := 4197) (by decide +kernel)) S (fun t2 A2 => ?_)
    show AR _ _ _ _ _ _ _ 21 [(0, .ref a), (1, .ref k), (2, .int n), (3, .int 0)] [.ref t2, .int n, .ref k, .int 0, .ref t] h _ _
    refine AR.sL hk_277_21 A2 (fun z ez => ?_)
    show AR _ _ _ _ _ _ _ 22 [(0, .ref a), (1, .ref k), (2, .int n), (3, .int 0)] [.int z, .int n, .ref k, .int 0, .ref t] h _ _
    refine AR.bcx (p9 := p9) (m9 := sI us) (y9 := y9) (z9 := z9) (ax_look_ok hk_277_22).1 (ax_wk_mem (ix := 4122) (by decide +kernel)) A.S (sk_by A.1) hk hg hb c0 hn (by rw [sI_len]; exact ez) (by rw [sI_len]; exact hy) (Nat.le_of_ble_eq_true rfl) ?_
    show AR _ _ _ _ _ _ _ 25 [(0, .ref a), (1, .ref k), (2, .int n), (3, .int 0)] [] (h.set k (103, p9 ++ sI us ++ z9)) _ _
    refine AR.gotoT hk_277_25 (tgt := 43) (by decide) ?_
    exact AR.vret hk_277_43 hr_277 ⟨rfl, rfl⟩
theorem s_270 (hlst : l.stackTraces = false) (S : sB h n0 B k n ts r) (T : sT h a us) (h1 : us.length ≤ r.length) : AM ax_ns l (ax_mm 270) 2 ty_R (0) (0) [.ref B, .int n, .ref a] h (sq_gb h k (sI ts) (sI us) (r.drop us.length)) := by
  refine AM.of (ax_mfacts (by decide +kernel : ax_has 270 = true)).2.2.2.2.2.2 hlst (by rw [hn_270]; exact Nat.le_of_ble_eq_true rfl) ?_
  show AR ax_ns l (ax_mm 270) 2 ty_R _ _ 0 [(0, .ref B), (1, .int n), (2, .ref a)] [] h (0) (0)
  have bS := S
  obtain ⟨b1, b2, b3, b4, b5, b6, b7, b8, b9, b10, b11⟩ := id bS
  refine AR.s (pc' := 1) (lv' := [(0, .ref B), (1, .int n), (2, .ref a)]) (st' := [.ref B]) (h' := h) _ hn_270 hk_270_0 rfl ?_
  refine AR.s (pc' := 2) (lv' := [(0, .ref B), (1, .int n), (2, .ref a)]) (st' := [.ref a, .ref B]) (h' := h) _ hn_270 hk_270_1 rfl ?_
  refine AR.jV (as := [.ref a]) (rest := []) hk_270_2 hs_270_2 (by decide +kernel) (by decide +kernel) (by decide +kernel) (ax_wk_mem (ix := 9003) (by decide +kernel)) b6 b1 rfl rfl (Nat.le_of_ble_eq_true rfl) (s_271 hlst b6 b1 T) (by decide) (Nat.zero_le _) (Nat.zero_le _) (fun E h' q => by cases q.1) ?_
  rintro w70 g71 ⟨e, eg71⟩
  cases e
  obtain rfl := eg71.symm
  show AR _ _ _ _ _ _ _ 5 [(0, .ref B), (1, .int n), (2, .ref a)] [] h _ _
  refine AR.s (pc' := 6) (lv' := [(0, .ref B), (1, .int n), (2, .ref a)]) (st' := [.ref a]) (h' := h) _ hn_270 hk_270_5 rfl ?_
  refine AR.s (pc' := 7) (lv' := [(0, .ref B), (1, .int n), (2, .ref a)]) (st' := [.ref B, .ref a]) (h' := h) _ hn_270 hk_270_6 rfl ?_
  refine AR.gx hk_270_7 (by decide) b6 b1 (x := .ref k) rfl ?_
  show AR _ _ _ _ _ _ _ 10 [(0, .ref B), (1, .int n), (2, .ref a)] [.ref k, .ref a] h _ _
  refine AR.s (pc' := 11) (lv' := [(0, .ref B), (1, .int n), (2, .ref a)]) (st' := [.int n, .ref k, .ref a]) (h' := h) _ hn_270 hk_270_10 rfl ?_
  refine AR.s (pc' := 12) (lv' := [(0, .ref B), (1, .int n), (2, .ref a)]) (st' := [.ref B, .int n, .ref k, .ref a]) (h' := h) _ hn_270 hk_270_11 rfl ?_
  refine AR.gx hk_270_12 (by decide) b6 b1 (x := .int 0) rfl ?_
  show AR _ _ _ _ _ _ _ 15 [(0, .ref B), (1, .int n), (2, .ref a)] [.int 0, .int n, .ref k, .ref a] h _ _
  have er : sI ts ++ r = sI ts ++ r.take us.length ++ r.drop us.length := by rw [List.append_assoc, List.take_append_drop]
  refine AR.jS (as := [.ref k, .int n, .int 0]) (rest := []) hk_270_15 hs_270_15 (by decide +kernel) (by decide +kernel) (by decide +kernel) (ax_wk_mem (ix := 4120) (by decide +kernel)) T rfl rfl (Nat.le_of_ble_eq_true rfl) (s_277 hlst (p9 := sI ts) (y9 := r.take us.length) (z9 := r.drop us.length) T b5 (by rw [← er]; exact b2) (by rw [← er]; exact sB_by S) (by rw [sI_len]; exact b3) (by rw [List.length_take]; omega)) (by decide) (Nat.zero_le _) (Nat.zero_le _) (fun E h' q => by cases q.1) ?_
  rintro w9 g9 ⟨e, e9⟩
  cases e
  subst e9
  show AR _ _ _ _ _ _ _ 18 [(0, .ref B), (1, .int n), (2, .ref a)] [] (h.set k (103, sI ts ++ sI us ++ r.drop us.length)) _ _
  exact AR.vret hk_270_18 hr_270 ⟨rfl, rfl⟩
theorem s_267 (hlst : l.stackTraces = false) (S : sB h n0 B k n ts r) (T : sT h a us) (h1 : ts.length + us.length ≤ 46) : AM ax_ns l (ax_mm 267) 3 ty_R (1) (100) [.ref B, .ref a] h (sq_ap h n0 B (ts ++ us)) := by
  refine AM.of (ax_mfacts (by decide +kernel : ax_has 267 = true)).2.2.2.2.2.2 hlst (by rw [hn_267]; exact Nat.le_of_ble_eq_true rfl) ?_
  show AR ax_ns l (ax_mm 267) 3 ty_R _ _ 0 [(0, .ref B), (1, .ref a)] [] h (1) (100)
  have bS := S
  obtain ⟨b1, b2, b3, b4, b5, b6, b7, b8, b9, b10, b11⟩ := id bS
  refine AR.s (pc' := 1) (lv' := [(0, .ref B), (1, .ref a)]) (st' := [.ref a]) (h' := h) _ hn_267 hk_267_0 rfl ?_
  refine AR.ifnonnull (tgt := 9) (ax_look_ok hk_267_1).1 (by decide) ?_
  show AR _ _ _ _ _ _ _ 9 [(0, .ref B), (1, .ref a)] [] h _ _
  refine AR.s (pc' := 10) (lv' := [(0, .ref B), (1, .ref a)]) (st' := [.ref a]) (h' := h) _ hn_267 hk_267_9 rfl ?_
  refine AR.jS (as := []) (rest := []) hk_267_10 hs_267_10 (by decide +kernel) (by decide +kernel) (by decide +kernel) (ax_wk_mem (ix := 3189) (by decide +kernel)) T rfl rfl (Nat.le_of_ble_eq_true rfl) (s_275 hlst T) (by decide) (Nat.zero_le _) (Nat.zero_le _) (fun E h' q => by obtain ⟨-, x, e, -⟩ := q; cases e) ?_
  rintro w72 g73 ⟨eg73, z74, e, ez74⟩
  cases e
  obtain rfl := eg73.symm
  show AR _ _ _ _ _ _ _ 13 [(0, .ref B), (1, .ref a)] [.int z74] h _ _
  refine AR.s (pc' := 14) (lv' := [(2, .int z74), (0, .ref B), (1, .ref a)]) (st' := []) (h' := h) _ hn_267 hk_267_13 rfl ?_
  refine AR.s (pc' := 15) (lv' := [(2, .int z74), (0, .ref B), (1, .ref a)]) (st' := [.ref B]) (h' := h) _ hn_267 hk_267_14 rfl ?_
  refine AR.s (pc' := 16) (lv' := [(2, .int z74), (0, .ref B), (1, .ref a)]) (st' := [.ref B, .ref B]) (h' := h) _ hn_267 hk_267_15 rfl ?_
  refine AR.gx hk_267_16 (by decide) b6 b1 (x := .int n) rfl ?_
  show AR _ _ _ _ _ _ _ 19 [(2, .int z74), (0, .ref B), (1, .ref a)] [.int n, .ref B] h _ _
  refine AR.s (pc' := 20) (lv' := [(2, .int z74), (0, .ref B), (1, .ref a)]) (st' := [.int z74, .int n, .ref B]) (h' := h) _ hn_267 hk_267_19 rfl ?_
  refine AR.addT hk_267_20 (by omega) (by omega) (fun z75 ez75 => ?_)
  show AR _ _ _ _ _ _ _ 21 [(2, .int z74), (0, .ref B), (1, .ref a)] [.int z75, .ref B] h _ _
  refine AR.jV (as := [.int z75]) (rest := []) hk_267_21 hs_267_21 (by decide +kernel) (by decide +kernel) (by decide +kernel) (ax_wk_mem (ix := 9000) (by decide +kernel)) b6 b1 rfl rfl (Nat.le_of_ble_eq_true rfl) (s_268 hlst S (by omega) (by omega)) (by decide) (Nat.le_refl _) (Nat.le_refl _) (fun E h' q => by cases q.1) ?_
  obtain ⟨l1, l2, l3⟩ := sB_lt S
  rintro w7 h7 ⟨e, F7, k7, r7, dS, l7⟩
  cases e
  obtain ⟨d1, d2, d3, d4, d5, d6, d7, d8, d9, d10, d11⟩ := id dS
  have F8 : fB n0 h h7 := F7.fB b7 l3
  have T7 := T.fX F7 b1
  show AR _ _ _ _ _ _ _ 24 [(2, .int z74), (0, .ref B), (1, .ref a)] [] h7 _ _
  refine AR.s (pc' := 25) (lv' := [(2, .int z74), (0, .ref B), (1, .ref a)]) (st' := [.ref B]) (h' := h7) _ hn_267 hk_267_24 rfl ?_
  refine AR.s (pc' := 26) (lv' := [(2, .int z74), (0, .ref B), (1, .ref a)]) (st' := [.ref B, .ref B]) (h' := h7) _ hn_267 hk_267_25 rfl ?_
  refine AR.gx hk_267_26 (by decide) d6 d1 (x := .int n) rfl ?_
  show AR _ _ _ _ _ _ _ 29 [(2, .int z74), (0, .ref B), (1, .ref a)] [.int n, .ref B] h7 _ _
  refine AR.s (pc' := 30) (lv' := [(2, .int z74), (0, .ref B), (1, .ref a)]) (st' := [.ref a, .int n, .ref B]) (h' := h7) _ hn_267 hk_267_29 rfl ?_
  refine AR.jV (as := [.int n, .ref a]) (rest := []) hk_267_30 hs_267_30 (by decide +kernel) (by decide +kernel) (by decide +kernel) (ax_wk_mem (ix := 9002) (by decide +kernel)) d6 d1 rfl rfl (Nat.le_of_ble_eq_true rfl) (s_270 hlst dS T7 (by omega)) (by decide) (Nat.zero_le _) (Nat.zero_le _) (fun E h' q => by cases q.1) ?_
  rintro w9 g9 ⟨e, e9⟩
  cases e
  subst e9
  show AR _ _ _ _ _ _ _ 33 [(2, .int z74), (0, .ref B), (1, .ref a)] [] (h7.set k7 (103, sI ts ++ sI us ++ r7.drop us.length)) _ _
  refine AR.s (pc' := 34) (lv' := [(2, .int z74), (0, .ref B), (1, .ref a)]) (st' := [.ref B]) (h' := (h7.set k7 (103, sI ts ++ sI us ++ r7.drop us.length))) _ hn_267 hk_267_33 rfl ?_
  refine AR.s (pc' := 35) (lv' := [(2, .int z74), (0, .ref B), (1, .ref a)]) (st' := [.ref B, .ref B]) (h' := (h7.set k7 (103, sI ts ++ sI us ++ r7.drop us.length))) _ hn_267 hk_267_34 rfl ?_
  refine AR.gx hk_267_35 (by decide) d6 (by rw [List.getElem?_set_ne (Ne.symm d4)]; exact d1) (x := .int n) rfl ?_
  show AR _ _ _ _ _ _ _ 38 [(2, .int z74), (0, .ref B), (1, .ref a)] [.int n, .ref B] (h7.set k7 (103, sI ts ++ sI us ++ r7.drop us.length)) _ _
  refine AR.s (pc' := 39) (lv' := [(2, .int z74), (0, .ref B), (1, .ref a)]) (st' := [.int z74, .int n, .ref B]) (h' := (h7.set k7 (103, sI ts ++ sI us ++ r7.drop us.length))) _ hn_267 hk_267_38 rfl ?_
  refine AR.addT hk_267_39 (by omega) (by omega) (fun z76 ez76 => ?_)
  show AR _ _ _ _ _ _ _ 40 [(2, .int z74), (0, .ref B), (1, .ref a)] [.int z76, .ref B] (h7.set k7 (103, sI ts ++ sI us ++ r7.drop us.length)) _ _
  refine AR.px hk_267_40 (by decide) d6 (vs := [.ref k7, .int 0, .int 0, .int n]) (by rw [List.getElem?_set_ne (Ne.symm d4)]; exact d1) (show ax_cls[10]? = some hs_c10 from rfl) rfl rfl ?_
  show AR _ _ _ _ _ _ _ 43 [(2, .int z74), (0, .ref B), (1, .ref a)] [] _ _ _
  refine AR.s (pc' := 44) (lv' := [(2, .int z74), (0, .ref B), (1, .ref a)]) (st' := [.ref B]) (h' := _) _ hn_267 hk_267_43 rfl ?_
  have lB : B < h7.length := (sB_lt dS).1
  have lk : k7 < h7.length := (sB_lt dS).2.1
  refine AR.aret hk_267_44 hr_267 (Or.inl ⟨_, rfl⟩) ⟨rfl, F8.tr ((fB_set d8).tr (fB_set d7)), k7, z76, r7.drop us.length, ?_, ?_, ?_, d4, d5, d6, d7, d8, fun x hx => d9 x (List.mem_of_mem_drop hx), fun c hc => ?_, ?_⟩
  · exact List.getElem?_set_self (by rw [List.length_set]; exact lB)
  · rw [List.getElem?_set_ne d4, List.getElem?_set_self lk, sI_app]
  · rw [List.length_append]; omega
  · rcases List.mem_append.mp hc with e | e
    · exact d10 c e
    · exact T.1 c e
  · rw [List.length_append, List.length_drop]; omega
theorem s_260 (hlst : l.stackTraces = false) (S : sBx h n0 B ts) (h1 : ts.length ≤ 45) (hx : sk x) : AM ax_ns l (ax_mm 260) 4 ty_R (1) (100) [.ref B, .int x] h (sq_ap h n0 B (ts ++ [x])) := by
  refine AM.of (ax_mfacts (by decide +kernel : ax_has 260 = true)).2.2.2.2.2.2 hlst (by rw [hn_260]; exact Nat.le_of_ble_eq_true rfl) ?_
  show AR ax_ns l (ax_mm 260) 4 ty_R _ _ 0 [(0, .ref B), (1, .int x)] [] h (1) (100)
  obtain ⟨k, n, r, S⟩ := S
  refine AR.s (pc' := 1) (lv' := [(0, .ref B), (1, .int x)]) (st' := [.ref B]) (h' := h) _ hn_260 hk_260_0 rfl ?_
  refine AR.s (pc' := 2) (lv' := [(0, .ref B), (1, .int x)]) (st' := [.int x, .ref B]) (h' := h) _ hn_260 hk_260_1 rfl ?_
  refine AR.jU (as := [.int x]) (rest := []) hk_260_2 (by decide +kernel) (by decide +kernel) (by decide +kernel) S.2.2.2.2.2.1 S.1 rfl rfl (Nat.le_of_ble_eq_true rfl) (s_265 hlst S h1 hx) (by decide) (Nat.le_refl _) (Nat.le_refl _) (fun E h' q => by cases q.1) ?_
  rintro w9 g9 ⟨e, F9, S9⟩
  cases e
  show AR _ _ _ _ _ _ _ 5 [(0, .ref B), (1, .int x)] [.ref B] g9 _ _
  refine AR.s (pc' := 6) (lv' := [(0, .ref B), (1, .int x)]) (st' := []) (h' := g9) _ hn_260 hk_260_5 rfl ?_
  refine AR.s (pc' := 7) (lv' := [(0, .ref B), (1, .int x)]) (st' := [.ref B]) (h' := g9) _ hn_260 hk_260_6 rfl ?_
  exact AR.aret hk_260_7 hr_260 (Or.inl ⟨_, rfl⟩) ⟨rfl, F9, S9⟩
theorem s_261 (hlst : l.stackTraces = false) (S : sBx h n0 B ts) (h1 : ts.length ≤ 43) (x1 : -9 ≤ x.toInt) (x2 : x.toInt ≤ 9) : AM ax_ns l (ax_mm 261) 4 ty_R (1) (100) [.ref B, .int x] h (sq_ap h n0 B (ts ++ dgt x.toInt)) := by
  refine AM.of (ax_mfacts (by decide +kernel : ax_has 261 = true)).2.2.2.2.2.2 hlst (by rw [hn_261]; exact Nat.le_of_ble_eq_true rfl) ?_
  show AR ax_ns l (ax_mm 261) 4 ty_R _ _ 0 [(0, .ref B), (1, .int x)] [] h (1) (100)
  obtain ⟨k, n, r, S⟩ := S
  refine AR.s (pc' := 1) (lv' := [(0, .ref B), (1, .int x)]) (st' := [.ref B]) (h' := h) _ hn_261 hk_261_0 rfl ?_
  refine AR.s (pc' := 2) (lv' := [(0, .ref B), (1, .int x)]) (st' := [.int x, .ref B]) (h' := h) _ hn_261 hk_261_1 rfl ?_
  refine AR.jU (as := [.int x]) (rest := []) hk_261_2 (by decide +kernel) (by decide +kernel) (by decide +kernel) S.2.2.2.2.2.1 S.1 rfl rfl (Nat.le_of_ble_eq_true rfl) (s_266 hlst S h1 x1 x2) (by decide) (Nat.le_refl _) (Nat.le_refl _) (fun E h' q => by cases q.1) ?_
  rintro w9 g9 ⟨e, F9, S9⟩
  cases e
  show AR _ _ _ _ _ _ _ 5 [(0, .ref B), (1, .int x)] [.ref B] g9 _ _
  refine AR.s (pc' := 6) (lv' := [(0, .ref B), (1, .int x)]) (st' := []) (h' := g9) _ hn_261 hk_261_5 rfl ?_
  refine AR.s (pc' := 7) (lv' := [(0, .ref B), (1, .int x)]) (st' := [.ref B]) (h' := g9) _ hn_261 hk_261_6 rfl ?_
  exact AR.aret hk_261_7 hr_261 (Or.inl ⟨_, rfl⟩) ⟨rfl, F9, S9⟩
theorem s_262 (hlst : l.stackTraces = false) (S : sBx h n0 B ts) (T : sT h a us) (h1 : ts.length + us.length ≤ 46) : AM ax_ns l (ax_mm 262) 4 ty_R (1) (100) [.ref B, .ref a] h (sq_ap h n0 B (ts ++ us)) := by
  refine AM.of (ax_mfacts (by decide +kernel : ax_has 262 = true)).2.2.2.2.2.2 hlst (by rw [hn_262]; exact Nat.le_of_ble_eq_true rfl) ?_
  show AR ax_ns l (ax_mm 262) 4 ty_R _ _ 0 [(0, .ref B), (1, .ref a)] [] h (1) (100)
  obtain ⟨k, n, r, S⟩ := S
  refine AR.s (pc' := 1) (lv' := [(0, .ref B), (1, .ref a)]) (st' := [.ref B]) (h' := h) _ hn_262 hk_262_0 rfl ?_
  refine AR.s (pc' := 2) (lv' := [(0, .ref B), (1, .ref a)]) (st' := [.ref a, .ref B]) (h' := h) _ hn_262 hk_262_1 rfl ?_
  refine AR.jU (as := [.ref a]) (rest := []) hk_262_2 (by decide +kernel) (by decide +kernel) (by decide +kernel) S.2.2.2.2.2.1 S.1 rfl rfl (Nat.le_of_ble_eq_true rfl) (s_267 hlst S T h1) (by decide) (Nat.le_refl _) (Nat.le_refl _) (fun E h' q => by cases q.1) ?_
  rintro w9 g9 ⟨e, F9, S9⟩
  cases e
  show AR _ _ _ _ _ _ _ 5 [(0, .ref B), (1, .ref a)] [.ref B] g9 _ _
  refine AR.s (pc' := 6) (lv' := [(0, .ref B), (1, .ref a)]) (st' := []) (h' := g9) _ hn_262 hk_262_5 rfl ?_
  refine AR.s (pc' := 7) (lv' := [(0, .ref B), (1, .ref a)]) (st' := [.ref B]) (h' := g9) _ hn_262 hk_262_6 rfl ?_
  exact AR.aret hk_262_7 hr_262 (Or.inl ⟨_, rfl⟩) ⟨rfl, F9, S9⟩
def sq_in (h : ax_H) (n0 B : Nat) : ax_Q := fun res g => res = .inl none ∧ fB n0 h g ∧ sBx g n0 B []
theorem s_257 (hlst : l.stackTraces = false) (hB : B < 1000000000) (h1 : h[B]? = some (10, [Value.null, Value.int 0, Value.int 0, Value.int 0])) (hn : n0 ≤ B) (hx : x.toInt = 16) : AM ax_ns l (ax_mm 257) 0 ty_R (0 + 1) (0 + 16) [.ref B, .int x] h (sq_in h n0 B) := by
  refine AM.of (ax_mfacts (by decide +kernel : ax_has 257 = true)).2.2.2.2.2.2 hlst (by rw [hn_257]; exact Nat.le_of_ble_eq_true rfl) ?_
  show AR ax_ns l (ax_mm 257) 0 ty_R _ _ 0 [(0, .ref B), (1, .int x)] [] h (0 + 1) (0 + 16)
  have c1 : (1 : Int32).toInt = 1 := rfl
  refine AR.s (pc' := 1) (lv' := [(0, .ref B), (1, .int x)]) (st' := [.ref B]) (h' := h) _ hn_257 hk_257_0 rfl ?_
  refine AR.s (pc' := 4) (lv' := [(0, .ref B), (1, .int x)]) (st' := []) (h' := h) _ hn_257 hk_257_1 rfl ?_
  refine AR.s (pc' := 7) (lv' := [(0, .ref B), (1, .int x)]) (st' := [.int 1]) (h' := h) _ hn_257 hk_257_4 rfl ?_
  show AR _ _ _ _ _ _ _ 7 [(0, .ref B), (1, .int x)] [.int 1] h _ _
  refine AR.zeq hk_257_7 (tgt := 25) (by decide) (fun p1 => ?_) (fun p2 => ?_)
  · exact absurd p1 (by omega)
  · refine AR.s (pc' := 11) (lv' := [(0, .ref B), (1, .int x)]) (st' := [.ref B]) (h' := h) _ hn_257 hk_257_10 rfl ?_
    refine AR.s (pc' := 12) (lv' := [(0, .ref B), (1, .int x)]) (st' := [.int x, .ref B]) (h' := h) _ hn_257 hk_257_11 rfl ?_
    refine AR.nb hk_257_12 (N := 16) hx (by decide) ?_
    show AR _ _ _ _ _ _ _ 14 [(0, .ref B), (1, .int x)] [.ref h.length, .ref B] (h ++ [(103, List.replicate 16 (Value.int 0))]) _ _
    have lB : B < h.length := (List.getElem?_eq_some_iff.mp h1).1
    refine AR.small (fun hsz => ?_)
    rw [List.length_append] at hsz
    refine AR.px hk_257_14 (by decide) hB (vs := [Value.null, Value.int 0, Value.int 0, Value.int 0]) (by rw [List.getElem?_append_left lB]; exact h1) (show ax_cls[10]? = some hs_c10 from rfl) rfl rfl ?_
    show AR _ _ _ _ _ _ _ 17 [(0, .ref B), (1, .int x)] [] ((h ++ [(103, List.replicate 16 (Value.int 0))]).set B (10, [Value.ref h.length, Value.int 0, Value.int 0, Value.int 0])) _ _
    refine AR.s (pc' := 18) (lv' := [(0, .ref B), (1, .int x)]) (st' := [.ref B]) (h' := ((h ++ [(103, List.replicate 16 (Value.int 0))]).set B (10, [Value.ref h.length, Value.int 0, Value.int 0, Value.int 0]))) _ hn_257 hk_257_17 rfl ?_
    refine AR.s (pc' := 19) (lv' := [(0, .ref B), (1, .int x)]) (st' := [.int 0, .ref B]) (h' := ((h ++ [(103, List.replicate 16 (Value.int 0))]).set B (10, [Value.ref h.length, Value.int 0, Value.int 0, Value.int 0]))) _ hn_257 hk_257_18 rfl ?_
    refine AR.px hk_257_19 (by decide) hB (vs := [.ref h.length, .int 0, .int 0, .int 0]) (List.getElem?_set_self (by rw [List.length_append]; omega)) (show ax_cls[10]? = some hs_c10 from rfl) rfl rfl ?_
    show AR _ _ _ _ _ _ _ 22 [(0, .ref B), (1, .int x)] [] (((h ++ [(103, List.replicate 16 (Value.int 0))]).set B (10, [Value.ref h.length, Value.int 0, Value.int 0, Value.int 0])).set B (10, [Value.ref h.length, Value.int 0, Value.int 0, Value.int 0])) _ _
    refine AR.gotoT hk_257_22 (tgt := 38) (by decide) ?_
    rw [List.set_set]
    refine AR.vret hk_257_38 hr_257 ⟨rfl, (fB_push (by omega)).tr (fB_set hn), h.length, 0, List.replicate 16 (.int 0), ?_, ?_, rfl, by omega, by omega, hB, hn, by omega, fun x hx => ?_, fun _ h => absurd h List.not_mem_nil, by decide⟩
    · exact List.getElem?_set_self (by rw [List.length_append]; omega)
    · rw [List.getElem?_set_ne (by omega)]; exact hy_getl h _
    · obtain rfl := (List.mem_replicate.mp hx).2; exact ⟨0, rfl, by decide, by decide⟩
theorem s_256 (hlst : l.stackTraces = false) (hB : B < 1000000000) (h1 : h[B]? = some (10, [Value.null, Value.int 0, Value.int 0, Value.int 0])) (hn : n0 ≤ B) : AM ax_ns l (ax_mm 256) 1 ty_R (0 + 1) (0 + 16) [.ref B] h (sq_in h n0 B) := by
  refine AM.of (ax_mfacts (by decide +kernel : ax_has 256 = true)).2.2.2.2.2.2 hlst (by rw [hn_256]; exact Nat.le_of_ble_eq_true rfl) ?_
  show AR ax_ns l (ax_mm 256) 1 ty_R _ _ 0 [(0, .ref B)] [] h (0 + 1) (0 + 16)
  refine AR.s (pc' := 1) (lv' := [(0, .ref B)]) (st' := [.ref B]) (h' := h) _ hn_256 hk_256_0 rfl ?_
  refine AR.bipushT hk_256_1 (by decide) (fun z77 ez77 => ?_)
  show AR _ _ _ _ _ _ _ 3 [(0, .ref B)] [.int z77, .ref B] h _ _
  refine AR.jI (as := [.int z77]) (rest := []) (t := 0) (cB := []) hk_256_3 (by decide) (by decide +kernel) (by decide +kernel) (by decide +kernel) (by decide +kernel) rfl rfl (Nat.le_of_ble_eq_true rfl) (s_257 hlst hB h1 hn (by omega)) (by decide) (Nat.le_refl _) (Nat.le_refl _) (fun E h' q => by cases q.1) ?_
  rintro w9 g9 ⟨e, F9, S9⟩
  cases e
  show AR _ _ _ _ _ _ _ 6 [(0, .ref B)] [] g9 _ _
  exact AR.vret hk_256_6 hr_256 ⟨rfl, F9, S9⟩
theorem s_143 (hlst : l.stackTraces = false) (hB : B < 1000000000) (h1 : h[B]? = some (10, [.ref k, .int 0, .int 0, .int n])) : AM ax_ns l (ax_mm 143) 0 ty_R (0) (0) [.ref B] h (fun res g => res = .inl (some (.ref k)) ∧ g = h) := by
  refine AM.of (ax_mfacts (by decide +kernel : ax_has 143 = true)).2.2.2.2.2.2 hlst (by rw [hn_143]; exact Nat.le_of_ble_eq_true rfl) ?_
  show AR ax_ns l (ax_mm 143) 0 ty_R _ _ 0 [(0, .ref B)] [] h (0) (0)
  refine AR.s (pc' := 1) (lv' := [(0, .ref B)]) (st' := [.ref B]) (h' := h) _ hn_143 hk_143_0 rfl ?_
  refine AR.gx hk_143_1 (by decide) hB h1 (x := .ref k) rfl ?_
  show AR _ _ _ _ _ _ _ 4 [(0, .ref B)] [.ref k] h _ _
  exact AR.aret hk_143_4 hr_143 (Or.inr ⟨_, rfl⟩) ⟨rfl, rfl⟩
theorem s_259 (hlst : l.stackTraces = false) (hB : B < 1000000000) (h1 : h[B]? = some (10, [.ref k, .int 0, .int 0, .int n])) : AM ax_ns l (ax_mm 259) 0 ty_R (0) (0) [.ref B] h (hq_int h n.toInt) := by
  refine AM.of (ax_mfacts (by decide +kernel : ax_has 259 = true)).2.2.2.2.2.2 hlst (by rw [hn_259]; exact Nat.le_of_ble_eq_true rfl) ?_
  show AR ax_ns l (ax_mm 259) 0 ty_R _ _ 0 [(0, .ref B)] [] h (0) (0)
  refine AR.s (pc' := 1) (lv' := [(0, .ref B)]) (st' := [.ref B]) (h' := h) _ hn_259 hk_259_0 rfl ?_
  refine AR.gx hk_259_1 (by decide) hB h1 (x := .int n) rfl ?_
  show AR _ _ _ _ _ _ _ 4 [(0, .ref B)] [.int n] h _ _
  exact AR.iret hk_259_4 hr_259 ⟨rfl, _, rfl, rfl⟩
theorem s_258 (hlst : l.stackTraces = false) (hB : B < 1000000000) (h1 : h[B]? = some (10, [.ref k, .int 0, .int 0, .int n])) : AM ax_ns l (ax_mm 258) 1 ty_R (0) (0) [.ref B] h (hq_int h n.toInt) := by
  refine AM.of (ax_mfacts (by decide +kernel : ax_has 258 = true)).2.2.2.2.2.2 hlst (by rw [hn_258]; exact Nat.le_of_ble_eq_true rfl) ?_
  show AR ax_ns l (ax_mm 258) 1 ty_R _ _ 0 [(0, .ref B)] [] h (0) (0)
  refine AR.s (pc' := 1) (lv' := [(0, .ref B)]) (st' := [.ref B]) (h' := h) _ hn_258 hk_258_0 rfl ?_
  refine AR.jU (as := []) (rest := []) hk_258_1 (by decide +kernel) (by decide +kernel) (by decide +kernel) hB h1 rfl rfl (Nat.le_of_ble_eq_true rfl) (s_259 hlst hB h1) (by decide) (Nat.zero_le _) (Nat.zero_le _) (fun E h' q => by obtain ⟨-, x, e, -⟩ := q; cases e) ?_
  rintro w78 g79 ⟨eg79, z80, e, ez80⟩
  cases e
  obtain rfl := eg79.symm
  show AR _ _ _ _ _ _ _ 4 [(0, .ref B)] [.int z80] h _ _
  exact AR.iret hk_258_4 hr_258 ⟨rfl, _, rfl, ez80⟩
theorem s_174 (hlst : l.stackTraces = false) (hx : x.toInt ≤ q.toInt) : AM ax_ns l (ax_mm 174) 0 ty_R (0) (0) [.int x, .int q] h (sq_nc h) := by
  refine AM.of (ax_mfacts (by decide +kernel : ax_has 174 = true)).2.2.2.2.2.2 hlst (by rw [hn_174]; exact Nat.le_of_ble_eq_true rfl) ?_
  show AR ax_ns l (ax_mm 174) 0 ty_R _ _ 0 [(0, .int x), (1, .int q)] [] h (0) (0)
  refine AR.s (pc' := 1) (lv' := [(0, .int x), (1, .int q)]) (st' := [.int q]) (h' := h) _ hn_174 hk_174_0 rfl ?_
  refine AR.s (pc' := 2) (lv' := [(0, .int x), (1, .int q)]) (st' := [.int x, .int q]) (h' := h) _ hn_174 hk_174_1 rfl ?_
  refine AR.jge hk_174_2 (tgt := 37) (by decide) (fun p1 => ?_) (fun p2 => ?_)
  · exact AR.vret hk_174_37 hr_174 ⟨rfl, rfl⟩
  · exact absurd p2 (by omega)
def sq_cr (h : ax_H) (m9 : List Value) : ax_Q := fun res g => res = .inl (some (.ref h.length)) ∧ g = h ++ [(103, m9)]
theorem s_176 (hlst : l.stackTraces = false) {t9 : List Value} (hk : k < 1000000000) (hg : h[k]? = some (103, m9 ++ t9)) (hb : ∀ x ∈ m9, hj_by x) (hx : x.toInt = 0) (hq : q.toInt = m9.length) (hl : (m9 ++ t9).length ≤ 1000) : AM ax_ns l (ax_mm 176) 1 ty_R (0 + 1) (0 + m9.length) [.ref k, .int x, .int q] h (sq_cr h m9) := by
  refine AM.of (ax_mfacts (by decide +kernel : ax_has 176 = true)).2.2.2.2.2.2 hlst (by rw [hn_176]; exact Nat.le_of_ble_eq_true rfl) ?_
  show AR ax_ns l (ax_mm 176) 1 ty_R _ _ 0 [(0, .ref k), (1, .int x), (2, .int q)] [] h (0 + 1) (0 + m9.length)
  rw [List.length_append] at hl
  refine AR.s (pc' := 1) (lv' := [(0, .ref k), (1, .int x), (2, .int q)]) (st' := [.int x]) (h' := h) _ hn_176 hk_176_0 rfl ?_
  refine AR.s (pc' := 2) (lv' := [(0, .ref k), (1, .int x), (2, .int q)]) (st' := [.int q, .int x]) (h' := h) _ hn_176 hk_176_1 rfl ?_
  refine AR.cs (as := [.int x, .int q]) (rest := []) hk_176_2 (by decide +kernel) rfl rfl (Nat.le_of_ble_eq_true rfl) (s_174 hlst (by omega)) (by decide) (Nat.zero_le _) (Nat.zero_le _) (fun E h' q => by cases q.1) ?_
  rintro w81 g82 ⟨e, eg82⟩
  cases e
  obtain rfl := eg82.symm
  show AR _ _ _ _ _ _ _ 5 [(0, .ref k), (1, .int x), (2, .int q)] [] h _ _
  refine AR.s (pc' := 6) (lv' := [(0, .ref k), (1, .int x), (2, .int q)]) (st' := [.int q]) (h' := h) _ hn_176 hk_176_5 rfl ?_
  refine AR.s (pc' := 7) (lv' := [(0, .ref k), (1, .int x), (2, .int q)]) (st' := [.int x, .int q]) (h' := h) _ hn_176 hk_176_6 rfl ?_
  refine AR.subT hk_176_7 (by omega) (by omega) (fun z83 ez83 => ?_)
  show AR _ _ _ _ _ _ _ 8 [(0, .ref k), (1, .int x), (2, .int q)] [.int z83] h _ _
  refine AR.s (pc' := 9) (lv' := [(3, .int z83), (0, .ref k), (1, .int x), (2, .int q)]) (st' := []) (h' := h) _ hn_176 hk_176_8 rfl ?_
  refine AR.s (pc' := 10) (lv' := [(3, .int z83), (0, .ref k), (1, .int x), (2, .int q)]) (st' := [.int z83]) (h' := h) _ hn_176 hk_176_9 rfl ?_
  refine AR.nb hk_176_10 (N := m9.length) (by omega) (by omega) ?_
  show AR _ _ _ _ _ _ _ 12 [(3, .int z83), (0, .ref k), (1, .int x), (2, .int q)] [.ref h.length] (h ++ [(103, List.replicate m9.length (.int 0))]) _ _
  refine AR.s (pc' := 14) (lv' := [(4, .ref h.length), (3, .int z83), (0, .ref k), (1, .int x), (2, .int q)]) (st' := []) (h' := (h ++ [(103, List.replicate m9.length (.int 0))])) _ hn_176 hk_176_12 rfl ?_
  refine AR.s (pc' := 15) (lv' := [(4, .ref h.length), (3, .int z83), (0, .ref k), (1, .int x), (2, .int q)]) (st' := [.ref k]) (h' := (h ++ [(103, List.replicate m9.length (.int 0))])) _ hn_176 hk_176_14 rfl ?_
  refine AR.s (pc' := 16) (lv' := [(4, .ref h.length), (3, .int z83), (0, .ref k), (1, .int x), (2, .int q)]) (st' := [.int x, .ref k]) (h' := (h ++ [(103, List.replicate m9.length (.int 0))])) _ hn_176 hk_176_15 rfl ?_
  refine AR.s (pc' := 18) (lv' := [(4, .ref h.length), (3, .int z83), (0, .ref k), (1, .int x), (2, .int q)]) (st' := [.ref h.length, .int x, .ref k]) (h' := (h ++ [(103, List.replicate m9.length (.int 0))])) _ hn_176 hk_176_16 rfl ?_
  refine AR.s (pc' := 19) (lv' := [(4, .ref h.length), (3, .int z83), (0, .ref k), (1, .int x), (2, .int q)]) (st' := [.int 0, .ref h.length, .int x, .ref k]) (h' := (h ++ [(103, List.replicate m9.length (.int 0))])) _ hn_176 hk_176_18 rfl ?_
  refine AR.s (pc' := 20) (lv' := [(4, .ref h.length), (3, .int z83), (0, .ref k), (1, .int x), (2, .int q)]) (st' := [.ref k, .int 0, .ref h.length, .int x, .ref k]) (h' := (h ++ [(103, List.replicate m9.length (.int 0))])) _ hn_176 hk_176_19 rfl ?_
  have hg2 : (h ++ [(103, List.replicate m9.length (.int 0))])[k]? = some (103, m9 ++ t9) := by rw [List.getElem?_append_left (List.getElem?_eq_some_iff.mp hg).1]; exact hg
  refine AR.alx (t := 0) hk_176_20 hk hg2 (by rw [List.length_append]; omega) (fun z2 ez2 => ?_)
  rw [List.length_append] at ez2
  show AR _ _ _ _ _ _ _ 21 [(4, .ref h.length), (3, .int z83), (0, .ref k), (1, .int x), (2, .int q)] [.int z2, .int 0, .ref h.length, .int x, .ref k] (h ++ [(103, List.replicate m9.length (.int 0))]) _ _
  refine AR.s (pc' := 22) (lv' := [(4, .ref h.length), (3, .int z83), (0, .ref k), (1, .int x), (2, .int q)]) (st' := [.int x, .int z2, .int 0, .ref h.length, .int x, .ref k]) (h' := (h ++ [(103, List.replicate m9.length (.int 0))])) _ hn_176 hk_176_21 rfl ?_
  refine AR.subT hk_176_22 (by omega) (by omega) (fun z84 ez84 => ?_)
  show AR _ _ _ _ _ _ _ 23 [(4, .ref h.length), (3, .int z83), (0, .ref k), (1, .int x), (2, .int q)] [.int z84, .int 0, .ref h.length, .int x, .ref k] (h ++ [(103, List.replicate m9.length (.int 0))]) _ _
  refine AR.s (pc' := 24) (lv' := [(4, .ref h.length), (3, .int z83), (0, .ref k), (1, .int x), (2, .int q)]) (st' := [.int z83, .int z84, .int 0, .ref h.length, .int x, .ref k]) (h' := (h ++ [(103, List.replicate m9.length (.int 0))])) _ hn_176 hk_176_23 rfl ?_
  refine AR.mminI (ax_look_ok hk_176_24).1 (ax_wk_mem (ix := 4063) (by decide +kernel)) (ax_wk_mem (ix := 4064) (by decide +kernel)) (ax_wk_mem (ix := 4065) (by decide +kernel)) (Nat.le_of_ble_eq_true rfl) ?_
  show AR _ _ _ _ _ _ _ 27 [(4, .ref h.length), (3, .int z83), (0, .ref k), (1, .int x), (2, .int q)] [.int (if z83 < z84 then z83 else z84), .int 0, .ref h.length, .int x, .ref k] (h ++ [(103, List.replicate m9.length (.int 0))]) _ _
  have e7 : (if z83 < z84 then z83 else z84).toInt = m9.length := by
    split
    · rename_i e; rw [Int32.lt_iff_toInt_lt] at e; omega
    · rename_i e; rw [Int32.lt_iff_toInt_lt] at e; omega
  generalize (if z83 < z84 then z83 else z84) = m7 at e7
  show AR _ _ _ _ _ _ _ 27 [(4, .ref h.length), (3, .int z83), (0, .ref k), (1, .int x), (2, .int q)] [.int m7, .int 0, .ref h.length, .int x, .ref k] (h ++ [(103, List.replicate m9.length (.int 0))]) _ _
  refine AR.small (fun hsz => ?_)
  rw [List.length_append] at hsz
  have hsz2 : h.length < 1000000000 := by omega
  have c0 : (0 : Int32).toInt = 0 := rfl
  refine AR.bcx (p9 := []) (m9 := m9) (y9 := List.replicate m9.length (.int 0)) (z9 := []) (ax_look_ok hk_176_27).1 (ax_wk_mem (ix := 4066) (by decide +kernel)) (Or.inl ⟨t9, hk, hg2⟩) hb hsz2 (by rw [List.nil_append, List.append_nil]; exact hy_getl h _) (fun x hx => ?_) hx c0 e7 (List.length_replicate ..) (Nat.le_of_ble_eq_true rfl) ?_
  · rw [List.nil_append, List.append_nil] at hx
    obtain rfl := (List.mem_replicate.mp hx).2
    exact ⟨0, rfl, by decide, by decide⟩
  rw [hy_setl, List.nil_append, List.append_nil]
  show AR _ _ _ _ _ _ _ 30 [(4, .ref h.length), (3, .int z83), (0, .ref k), (1, .int x), (2, .int q)] [] (h ++ [(103, m9)]) _ _
  refine AR.s (pc' := 32) (lv' := [(4, .ref h.length), (3, .int z83), (0, .ref k), (1, .int x), (2, .int q)]) (st' := [.ref h.length]) (h' := (h ++ [(103, m9)])) _ hn_176 hk_176_30 rfl ?_
  exact AR.aret hk_176_32 hr_176 (Or.inr ⟨_, rfl⟩) ⟨rfl, rfl⟩
theorem s_175 (hlst : l.stackTraces = false) {t9 : List Value} (hk : k < 1000000000) (hg : h[k]? = some (103, m9 ++ t9)) (hb : ∀ x ∈ m9, hj_by x) (hx : x.toInt = 0) (hq : q.toInt = m9.length) (hl : (m9 ++ t9).length ≤ 1000) : AM ax_ns l (ax_mm 175) 2 ty_R (0 + 1) (0 + m9.length) [.ref k, .int x, .int q] h (sq_cr h m9) := by
  refine AM.of (ax_mfacts (by decide +kernel : ax_has 175 = true)).2.2.2.2.2.2 hlst (by rw [hn_175]; exact Nat.le_of_ble_eq_true rfl) ?_
  show AR ax_ns l (ax_mm 175) 2 ty_R _ _ 0 [(0, .ref k), (1, .int x), (2, .int q)] [] h (0 + 1) (0 + m9.length)
  refine AR.s (pc' := 1) (lv' := [(0, .ref k), (1, .int x), (2, .int q)]) (st' := [.int x]) (h' := h) _ hn_175 hk_175_0 rfl ?_
  refine AR.zne hk_175_1 (tgt := 10) (by decide) (fun p1 => ?_) (fun p2 => ?_)
  · exact absurd hx p1
  · refine AR.s (pc' := 5) (lv' := [(0, .ref k), (1, .int x), (2, .int q)]) (st' := [.int q]) (h' := h) _ hn_175 hk_175_4 rfl ?_
    refine AR.s (pc' := 6) (lv' := [(0, .ref k), (1, .int x), (2, .int q)]) (st' := [.ref k, .int q]) (h' := h) _ hn_175 hk_175_5 rfl ?_
    refine AR.alx (t := 0) hk_175_6 hk hg (by omega) (fun z2 ez2 => ?_)
    rw [List.length_append] at ez2
    show AR _ _ _ _ _ _ _ 7 [(0, .ref k), (1, .int x), (2, .int q)] [.int z2, .int q] h _ _
    refine AR.jeq hk_175_7 (tgt := 17) (by decide) (fun p3 => ?_) (fun p4 => ?_)
    · refine AR.s (pc' := 18) (lv' := [(0, .ref k), (1, .int x), (2, .int q)]) (st' := [.ref k]) (h' := h) _ hn_175 hk_175_17 rfl ?_
      obtain rfl : t9 = [] := List.eq_nil_of_length_eq_zero (by omega)
      rw [List.append_nil] at hg
      refine AR.cloneB (ax_look_ok hk_175_18).1 (ax_wk_mem (ix := 4056) (by decide +kernel)) (ax_wk_mem (ix := 4057) (by decide +kernel)) (ax_wk_mem (ix := 4058) (by decide +kernel)) (ax_wk_mem (ix := 4059) (by decide +kernel)) (ax_wk_mem (ix := 4060) (by decide +kernel)) (by decide +kernel) hk hg hb (Nat.le_of_ble_eq_true rfl) (by omega) (by omega) ?_
      show AR _ _ _ _ _ _ _ 21 [(0, .ref k), (1, .int x), (2, .int q)] [.ref h.length] (h ++ [(103, m9)]) _ _
      refine AR.small (fun hsz => ?_)
      rw [List.length_append] at hsz
      refine AR.castB (ax_look_ok hk_175_21).1 (ax_wk_mem (ix := 4062) (by decide +kernel)) (by omega) (hy_getl h _) ?_
      show AR _ _ _ _ _ _ _ 24 [(0, .ref k), (1, .int x), (2, .int q)] [.ref h.length] (h ++ [(103, m9)]) _ _
      exact AR.aret hk_175_24 hr_175 (Or.inr ⟨_, rfl⟩) ⟨rfl, rfl⟩
    · refine AR.s (pc' := 11) (lv' := [(0, .ref k), (1, .int x), (2, .int q)]) (st' := [.ref k]) (h' := h) _ hn_175 hk_175_10 rfl ?_
      refine AR.s (pc' := 12) (lv' := [(0, .ref k), (1, .int x), (2, .int q)]) (st' := [.int x, .ref k]) (h' := h) _ hn_175 hk_175_11 rfl ?_
      refine AR.s (pc' := 13) (lv' := [(0, .ref k), (1, .int x), (2, .int q)]) (st' := [.int q, .int x, .ref k]) (h' := h) _ hn_175 hk_175_12 rfl ?_
      refine AR.cs (as := [.ref k, .int x, .int q]) (rest := []) hk_175_13 (by decide +kernel) rfl rfl (Nat.le_of_ble_eq_true rfl) (s_176 hlst hk hg hb hx hq hl) (by decide) (by omega) (by omega) (fun E h' q => by cases q.1) ?_
      rintro w9 g9 ⟨e, e9⟩
      cases e
      subst e9
      show AR _ _ _ _ _ _ _ 16 [(0, .ref k), (1, .int x), (2, .int q)] [.ref h.length] (h ++ [(103, m9)]) _ _
      exact AR.aret hk_175_16 hr_175 (Or.inr ⟨_, rfl⟩) ⟨rfl, rfl⟩
def sq_si (h : ax_H) (a : Nat) (ts : List Int32) : ax_Q := fun res g => res = .inl none ∧ g = (h ++ [(103, sI ts)]).set a (11, [.ref h.length, .int 0, .int 0, .int 0])
theorem s_150 (hlst : l.stackTraces = false) (S : sB h n0 B k n ts r) (ha : a < 1000000000) (h1 : h[a]? = some (11, [Value.null, Value.int 0, Value.int 0, Value.int 0])) : AM ax_ns l (ax_mm 150) 3 ty_R (0 + 1) (0 + 100) [.ref a, .ref B, .null] h (sq_si h a ts) := by
  refine AM.of (ax_mfacts (by decide +kernel : ax_has 150 = true)).2.2.2.2.2.2 hlst (by rw [hn_150]; exact Nat.le_of_ble_eq_true rfl) ?_
  show AR ax_ns l (ax_mm 150) 3 ty_R _ _ 0 [(0, .ref a), (1, .ref B), (2, .null)] [] h (0 + 1) (0 + 100)
  have bS := S
  obtain ⟨b1, b2, b3, b4, b5, b6, b7, b8, b9, b10, b11⟩ := id bS
  have c1 : (1 : Int32).toInt = 1 := rfl
  have c0 : (0 : Int32).toInt = 0 := rfl
  refine AR.s (pc' := 1) (lv' := [(0, .ref a), (1, .ref B), (2, .null)]) (st' := [.ref a]) (h' := h) _ hn_150 hk_150_0 rfl ?_
  refine AR.s (pc' := 4) (lv' := [(0, .ref a), (1, .ref B), (2, .null)]) (st' := []) (h' := h) _ hn_150 hk_150_1 rfl ?_
  refine AR.s (pc' := 5) (lv' := [(0, .ref a), (1, .ref B), (2, .null)]) (st' := [.ref B]) (h' := h) _ hn_150 hk_150_4 rfl ?_
  refine AR.jV (as := []) (rest := []) hk_150_5 hs_150_5 (by decide +kernel) (by decide +kernel) (by decide +kernel) (ax_wk_mem (ix := 4167) (by decide +kernel)) b6 b1 rfl rfl (Nat.le_of_ble_eq_true rfl) (s_143 hlst b6 b1) (by decide) (Nat.zero_le _) (Nat.zero_le _) (fun E h' q => by cases q.1) ?_
  rintro w9 g9 ⟨e, e9⟩
  cases e
  obtain rfl := e9.symm
  show AR _ _ _ _ _ _ _ 8 [(0, .ref a), (1, .ref B), (2, .null)] [.ref k] h _ _
  refine AR.s (pc' := 9) (lv' := [(3, .ref k), (0, .ref a), (1, .ref B), (2, .null)]) (st' := []) (h' := h) _ hn_150 hk_150_8 rfl ?_
  refine AR.s (pc' := 10) (lv' := [(3, .ref k), (0, .ref a), (1, .ref B), (2, .null)]) (st' := [.ref B]) (h' := h) _ hn_150 hk_150_9 rfl ?_
  refine AR.jO (as := []) (rest := []) (a := 258) (x9 := ⟨"java/lang/AbstractStringBuilder", "length", "()I"⟩) hk_150_10 (ax_wk_mem (ix := 4169) (by decide +kernel)) (ax_wk_mem (ix := 4171) (by decide +kernel)) (ax_wk_mem (ix := 4170) (by decide +kernel)) (show Cond.code _ _ _ _ ∈ ax_tb from ax_wk_mem (w := Cond.code ⟨"java/lang/AbstractStringBuilder", "length", "()I"⟩ prog_13_method_6_code 1 (some .int)) (ix := 4176) (by decide +kernel)) (ax_wk_mem (ix := 4172) (by decide +kernel)) (by decide +kernel) (by decide +kernel) (by decide +kernel) ⟨by decide, by decide, by decide +kernel⟩ b6 b1 rfl rfl (Nat.le_of_ble_eq_true rfl) (s_258 hlst b6 b1) (by decide) (Nat.zero_le _) (Nat.zero_le _) (fun E h' q => by obtain ⟨-, x, e, -⟩ := q; cases e) ?_
  rintro w85 g86 ⟨eg86, z87, e, ez87⟩
  cases e
  obtain rfl := eg86.symm
  show AR _ _ _ _ _ _ _ 13 [(3, .ref k), (0, .ref a), (1, .ref B), (2, .null)] [.int z87] h _ _
  refine AR.s (pc' := 15) (lv' := [(4, .int z87), (3, .ref k), (0, .ref a), (1, .ref B), (2, .null)]) (st' := []) (h' := h) _ hn_150 hk_150_13 rfl ?_
  refine AR.s (pc' := 16) (lv' := [(4, .int z87), (3, .ref k), (0, .ref a), (1, .ref B), (2, .null)]) (st' := [.ref B]) (h' := h) _ hn_150 hk_150_15 rfl ?_
  refine AR.jV (as := []) (rest := []) hk_150_16 hs_150_16 (by decide +kernel) (by decide +kernel) (by decide +kernel) (ax_wk_mem (ix := 4072) (by decide +kernel)) b6 b1 rfl rfl (Nat.le_of_ble_eq_true rfl) (s_272 hlst b6 b1) (by decide) (Nat.zero_le _) (Nat.zero_le _) (fun E h' q => by obtain ⟨-, x, e, -⟩ := q; cases e) ?_
  rintro w88 g89 ⟨eg89, z90, e, ez90⟩
  cases e
  obtain rfl := eg89.symm
  show AR _ _ _ _ _ _ _ 19 [(4, .int z87), (3, .ref k), (0, .ref a), (1, .ref B), (2, .null)] [.int z90] h _ _
  refine AR.zeq hk_150_19 (tgt := 41) (by decide) (fun p1 => ?_) (fun p2 => ?_)
  · exact absurd p1 (by omega)
  · refine AR.s (pc' := 23) (lv' := [(4, .int z87), (3, .ref k), (0, .ref a), (1, .ref B), (2, .null)]) (st' := [.ref a]) (h' := h) _ hn_150 hk_150_22 rfl ?_
    refine AR.s (pc' := 24) (lv' := [(4, .int z87), (3, .ref k), (0, .ref a), (1, .ref B), (2, .null)]) (st' := [.int 0, .ref a]) (h' := h) _ hn_150 hk_150_23 rfl ?_
    refine AR.px hk_150_24 (by decide) ha (vs := [Value.null, Value.int 0, Value.int 0, Value.int 0]) h1 (show ax_cls[11]? = some hs_c11 from rfl) rfl rfl ?_
    show AR _ _ _ _ _ _ _ 27 [(4, .int z87), (3, .ref k), (0, .ref a), (1, .ref B), (2, .null)] [] (h.set a (11, [Value.null, Value.int 0, Value.int 0, Value.int 0])) _ _
    have eh : h.set a (11, [Value.null, Value.int 0, Value.int 0, Value.int 0]) = h := by
      have la := (List.getElem?_eq_some_iff.mp h1)
      obtain ⟨la, e⟩ := la
      rw [← e]; exact List.set_getElem_self la
    rw [eh]
    show AR _ _ _ _ _ _ _ 27 [(4, .int z87), (3, .ref k), (0, .ref a), (1, .ref B), (2, .null)] [] h _ _
    refine AR.s (pc' := 28) (lv' := [(4, .int z87), (3, .ref k), (0, .ref a), (1, .ref B), (2, .null)]) (st' := [.ref a]) (h' := h) _ hn_150 hk_150_27 rfl ?_
    refine AR.s (pc' := 29) (lv' := [(4, .int z87), (3, .ref k), (0, .ref a), (1, .ref B), (2, .null)]) (st' := [.ref k, .ref a]) (h' := h) _ hn_150 hk_150_28 rfl ?_
    refine AR.s (pc' := 30) (lv' := [(4, .int z87), (3, .ref k), (0, .ref a), (1, .ref B), (2, .null)]) (st' := [.int 0, .ref k, .ref a]) (h' := h) _ hn_150 hk_150_29 rfl ?_
    refine AR.s (pc' := 32) (lv' := [(4, .int z87), (3, .ref k), (0, .ref a), (1, .ref B), (2, .null)]) (st' := [.int z87, .int 0, .ref k, .ref a]) (h' := h) _ hn_150 hk_150_30 rfl ?_
    have c0 : (0 : Int32).toInt = 0 := rfl
    refine AR.cs (as := [.ref k, .int 0, .int z87]) (rest := [.ref a]) hk_150_32 (by decide +kernel) rfl rfl (Nat.le_of_ble_eq_true rfl) (s_175 hlst b5 b2 (sk_by b10) c0 (by rw [sI_len]; omega) (by rw [List.length_append, sI_len]; omega)) (by decide) (by omega) (by rw [sI_len]; omega) (fun E h' q => by cases q.1) ?_
    rintro w9 g9 ⟨e, e9⟩
    cases e
    subst e9
    show AR _ _ _ _ _ _ _ 35 [(4, .int z87), (3, .ref k), (0, .ref a), (1, .ref B), (2, .null)] [.ref h.length, .ref a] (h ++ [(103, sI ts)]) _ _
    refine AR.px hk_150_35 (by decide) ha (vs := [Value.null, Value.int 0, Value.int 0, Value.int 0]) (by rw [List.getElem?_append_left (List.getElem?_eq_some_iff.mp h1).1]; exact h1) (show ax_cls[11]? = some hs_c11 from rfl) rfl rfl ?_
    show AR _ _ _ _ _ _ _ 38 [(4, .int z87), (3, .ref k), (0, .ref a), (1, .ref B), (2, .null)] [] _ _ _
    refine AR.gotoT hk_150_38 (tgt := 97) (by decide) ?_
    exact AR.vret hk_150_97 hr_150 ⟨rfl, rfl⟩
theorem s_148 (hlst : l.stackTraces = false) (S : sB h n0 B k n ts r) (ha : a < 1000000000) (h1 : h[a]? = some (11, [Value.null, Value.int 0, Value.int 0, Value.int 0])) : AM ax_ns l (ax_mm 148) 4 ty_R (0 + 1) (0 + 100) [.ref a, .ref B] h (sq_si h a ts) := by
  refine AM.of (ax_mfacts (by decide +kernel : ax_has 148 = true)).2.2.2.2.2.2 hlst (by rw [hn_148]; exact Nat.le_of_ble_eq_true rfl) ?_
  show AR ax_ns l (ax_mm 148) 4 ty_R _ _ 0 [(0, .ref a), (1, .ref B)] [] h (0 + 1) (0 + 100)
  refine AR.s (pc' := 1) (lv' := [(0, .ref a), (1, .ref B)]) (st' := [.ref a]) (h' := h) _ hn_148 hk_148_0 rfl ?_
  refine AR.s (pc' := 2) (lv' := [(0, .ref a), (1, .ref B)]) (st' := [.ref B, .ref a]) (h' := h) _ hn_148 hk_148_1 rfl ?_
  refine AR.anull (ax_look_ok hk_148_2).1 ?_
  show AR _ _ _ _ _ _ _ 3 [(0, .ref a), (1, .ref B)] [.null, .ref B, .ref a] h _ _
  refine AR.jI (as := [.ref B, .null]) (rest := []) (t := 0) (cB := []) hk_148_3 (by decide) (by decide +kernel) (by decide +kernel) (by decide +kernel) (by decide +kernel) rfl rfl (Nat.le_of_ble_eq_true rfl) (s_150 hlst S ha h1) (by decide) (Nat.le_refl _) (Nat.le_refl _) (fun E h' q => by cases q.1) ?_
  rintro w9 g9 ⟨e, e9⟩
  cases e
  subst e9
  show AR _ _ _ _ _ _ _ 6 [(0, .ref a), (1, .ref B)] [] _ _ _
  exact AR.vret hk_148_6 hr_148 ⟨rfl, rfl⟩
def sq_ts (h : ax_H) (ts : List Int32) : ax_Q := fun res g => ∃ a gs, res = .inl (some (.ref a)) ∧ g = h ++ gs ∧ sT g a ts
theorem s_154 (hlst : l.stackTraces = false) (S : sBx h n0 B ts) : AM ax_ns l (ax_mm 154) 5 ty_R (2) (104) [.ref B] h (sq_ts h ts) := by
  refine AM.of (ax_mfacts (by decide +kernel : ax_has 154 = true)).2.2.2.2.2.2 hlst (by rw [hn_154]; exact Nat.le_of_ble_eq_true rfl) ?_
  show AR ax_ns l (ax_mm 154) 5 ty_R _ _ 0 [(0, .ref B)] [] h (2) (104)
  obtain ⟨k, n, r, S⟩ := S
  refine AR.nwS hk_154_0 (ax_wk_mem (ix := 4155) (by decide +kernel)) (ax_wk_mem (ix := 4156) (by decide +kernel)) (ax_wk_mem (ix := 1006) (by decide +kernel)) (by decide) (by decide) ?_
  show AR _ _ _ _ _ _ _ 3 [(0, .ref B)] [.ref h.length] (h ++ [(11, [Value.null, Value.int 0, Value.int 0, Value.int 0])]) _ _
  refine AR.small (fun hsz => ?_)
  rw [List.length_append] at hsz
  refine AR.s (pc' := 4) (lv' := [(0, .ref B)]) (st' := [.ref h.length, .ref h.length]) (h' := (h ++ [(11, [Value.null, Value.int 0, Value.int 0, Value.int 0])])) _ hn_154 hk_154_3 rfl ?_
  refine AR.s (pc' := 5) (lv' := [(0, .ref B)]) (st' := [.ref B, .ref h.length, .ref h.length]) (h' := (h ++ [(11, [Value.null, Value.int 0, Value.int 0, Value.int 0])])) _ hn_154 hk_154_4 rfl ?_
  obtain ⟨l1, l2, l3⟩ := sB_lt S
  have S1 : sB (h ++ [(11, [Value.null, Value.int 0, Value.int 0, Value.int 0])]) n0 B k n ts r := ⟨by rw [List.getElem?_append_left l1]; exact S.1, by rw [List.getElem?_append_left l2]; exact S.2.1, S.2.2⟩
  have lz : ((h ++ [(11, [Value.null, Value.int 0, Value.int 0, Value.int 0])])).length = h.length + 1 := by rw [List.length_append]; rfl
  refine AR.jI (as := [.ref B]) (rest := [.ref h.length]) (t := 0) (cB := []) hk_154_5 (by decide) (by decide +kernel) (by decide +kernel) (by decide +kernel) (by decide +kernel) rfl rfl (Nat.le_of_ble_eq_true rfl) (s_148 hlst S1 (by omega) (hy_getl h _)) (by decide) (by decide) (by decide) (fun E h' q => by cases q.1) ?_
  rintro w9 g9 ⟨e, e9⟩
  cases e
  subst e9
  show AR _ _ _ _ _ _ _ 8 [(0, .ref B)] [.ref h.length] _ _ _
  have e3 : ((h ++ [(11, [Value.null, Value.int 0, Value.int 0, Value.int 0])]) ++ [(103, sI ts)]).set h.length (11, [Value.ref ((h ++ [(11, [Value.null, Value.int 0, Value.int 0, Value.int 0])])).length, Value.int 0, Value.int 0, Value.int 0]) = h ++ [(11, [Value.ref (h.length + 1), Value.int 0, Value.int 0, Value.int 0]), (103, sI ts)] := by
    rw [lz, List.append_assoc, List.set_append_right _ _ (Nat.le_refl _), Nat.sub_self]
    rfl
  rw [e3]
  refine AR.aret hk_154_8 hr_154 (Or.inl ⟨_, rfl⟩) ⟨h.length, _, rfl, rfl, S.2.2.2.2.2.2.2.2.2.1, by have := S.2.2.2.2.2.2.2.2.2.2; omega, Or.inl ⟨h.length + 1, .int 0, .int 0, by omega, ?_, by omega, ?_⟩⟩
  · rw [List.getElem?_append_right (Nat.le_refl _), Nat.sub_self]; rfl
  · rw [List.getElem?_append_right (Nat.le_succ _), show h.length + 1 - h.length = 1 by omega]; rfl
theorem s_151 (hlst : l.stackTraces = false) (S : sT h a ts) : AM ax_ns l (ax_mm 151) 0 ty_R (0) (0) [.ref a] h (hq_int h 1) := by
  refine AM.of (ax_mfacts (by decide +kernel : ax_has 151 = true)).2.2.2.2.2.2 hlst (by rw [hn_151]; exact Nat.le_of_ble_eq_true rfl) ?_
  show AR ax_ns l (ax_mm 151) 0 ty_R _ _ 0 [(0, .ref a)] [] h (0) (0)
  have c1 : (1 : Int32).toInt = 1 := rfl
  have c0 : (0 : Int32).toInt = 0 := rfl
  refine AR.s (pc' := 3) (lv' := [(0, .ref a)]) (st' := [.int 1]) (h' := h) _ hn_151 hk_151_0 rfl ?_
  show AR _ _ _ _ _ _ _ 3 [(0, .ref a)] [.int 1] h _ _
  refine AR.zeq hk_151_3 (tgt := 17) (by decide) (fun p1 => ?_) (fun p2 => ?_)
  · exact absurd p1 (by omega)
  · refine AR.s (pc' := 7) (lv' := [(0, .ref a)]) (st' := [.ref a]) (h' := h) _ hn_151 hk_151_6 rfl ?_
    refine AR.sC hk_151_7 (ax_wk_mem (ix := 4198) (by decide +kernel)) S ?_
    show AR _ _ _ _ _ _ _ 10 [(0, .ref a)] [.int 0] h _ _
    refine AR.zne hk_151_10 (tgt := 17) (by decide) (fun p3 => ?_) (fun p4 => ?_)
    · exact absurd p3 (by omega)
    · refine AR.iconstT hk_151_13 (by decide) (fun z91 ez91 => ?_)
      show AR _ _ _ _ _ _ _ 14 [(0, .ref a)] [.int z91] h _ _
      refine AR.gotoT hk_151_14 (tgt := 18) (by decide) ?_
      exact AR.zret hk_151_18 hr_151 (Or.inr (by omega)) ⟨rfl, _, rfl, by omega⟩
theorem sk_cc {c : Int32} (h : sk c) : hj_cc c := by
  obtain ⟨h1, h2⟩ := h
  obtain ⟨n, hn, rfl⟩ : ∃ n : Nat, n < 128 ∧ c = Int32.ofNat n := ⟨c.toInt.toNat, by omega, Int32.toInt_inj.mp (by rw [Int32.toInt_ofNat_of_lt (by omega)]; omega)⟩
  have e : ∀ n, n < 128 → narrow .char (.int (Int32.ofNat n)) = .int (Int32.ofNat n) := by decide +kernel
  exact ⟨e n hn, by omega, by omega⟩
theorem sk_255 {c x : Int32} (h : sk c) (hx : x.toInt = 255) : c &&& x = c := by
  obtain ⟨h1, h2⟩ := h
  obtain ⟨n, hn, rfl⟩ : ∃ n : Nat, n < 128 ∧ c = Int32.ofNat n := ⟨c.toInt.toNat, by omega, Int32.toInt_inj.mp (by rw [Int32.toInt_ofNat_of_lt (by omega)]; omega)⟩
  have e : ∀ n, n < 128 → (Int32.ofNat n) &&& 255 = Int32.ofNat n := by decide +kernel
  rw [show x = 255 from Int32.toInt_inj.mp (by rw [hx]; rfl)]
  exact e n hn
theorem sk_get {j : Nat} (h : ∀ c ∈ ts, sk c) (hj : j < ts.length) : sk (ts.getD j 0) := by
  rw [List.getD_eq_getElem?_getD, List.getElem?_eq_getElem hj]
  exact h _ (List.getElem_mem hj)
def sq_ca (h : ax_H) (c : Int32) : ax_Q := fun res g => g = h ∧ res = .inl (some (.int c))
theorem s_155 (hlst : l.stackTraces = false) (A : sA h a ts) (x0 : 0 ≤ x.toInt) (x1 : x.toInt < ts.length) : AM ax_ns l (ax_mm 155) 2 ty_R (0) (0) [.ref a, .int x] h (sq_ca h (ts.getD x.toInt.toNat 0)) := by
  refine AM.ofc (ax_mfacts (by decide +kernel : ax_has 155 = true)).2.2.2.2.2.2 hlst (by rw [hn_155]; exact Nat.le_of_ble_eq_true rfl) (by decide +kernel) ?_
  show AR ax_ns l (ax_mm 155) 2 ty_R _ _ 0 [(0, .ref a), (1, .int x)] [] h (0) (0)
  refine AR.s (pc' := 1) (lv' := [(0, .ref a), (1, .int x)]) (st' := [.int x]) (h' := h) _ hn_155 hk_155_0 rfl ?_
  refine AR.s (pc' := 2) (lv' := [(0, .ref a), (1, .int x)]) (st' := [.ref a, .int x]) (h' := h) _ hn_155 hk_155_1 rfl ?_
  refine AR.sL hk_155_2 A (fun z ez => ?_)
  show AR _ _ _ _ _ _ _ 3 [(0, .ref a), (1, .int x)] [.int z, .int x] h _ _
  refine AR.cs (as := [.int x, .int z]) (rest := []) hk_155_3 (by decide +kernel) rfl rfl (Nat.le_of_ble_eq_true rfl) (hj_si hlst x0 (by omega)) (by decide) (Nat.zero_le _) (Nat.zero_le _) (fun E h' q => by cases q.1) ?_
  rintro w92 g93 ⟨e, eg93⟩
  cases e
  obtain rfl := eg93.symm
  show AR _ _ _ _ _ _ _ 6 [(0, .ref a), (1, .int x)] [] h _ _
  refine AR.s (pc' := 7) (lv' := [(0, .ref a), (1, .int x)]) (st' := [.ref a]) (h' := h) _ hn_155 hk_155_6 rfl ?_
  refine AR.s (pc' := 8) (lv' := [(0, .ref a), (1, .int x)]) (st' := [.int x, .ref a]) (h' := h) _ hn_155 hk_155_7 rfl ?_
  refine AR.sG hk_155_8 A x0 x1 ?_
  show AR _ _ _ _ _ _ _ 9 [(0, .ref a), (1, .int x)] [.int (ts.getD x.toInt.toNat 0)] h _ _
  refine AR.sipushT hk_155_9 (by decide) (fun z94 ez94 => ?_)
  show AR _ _ _ _ _ _ _ 12 [(0, .ref a), (1, .int x)] [.int z94, .int (ts.getD x.toInt.toNat 0)] h _ _
  have hc := sk_get A.1 (j := x.toInt.toNat) (by omega)
  refine AR.iand (z := .int ((ts.getD x.toInt.toNat 0) &&& z94)) (ax_look_ok hk_155_12).1 rfl ?_
  rw [sk_255 hc ez94]
  show AR _ _ _ _ _ _ _ 13 [(0, .ref a), (1, .int x)] [.int (ts.getD x.toInt.toNat 0)] h _ _
  refine AR.i2cX hk_155_13 hc.1 hc.2 ?_
  show AR _ _ _ _ _ _ _ 14 [(0, .ref a), (1, .int x)] [.int (ts.getD x.toInt.toNat 0)] h _ _
  exact AR.cret hk_155_14 hr_155 (sk_cc hc) ⟨rfl, rfl⟩
theorem s_149 (hlst : l.stackTraces = false) (S : sT h a ts) (x0 : 0 ≤ x.toInt) (x1 : x.toInt < ts.length) : AM ax_ns l (ax_mm 149) 3 ty_R (0) (0) [.ref a, .int x] h (sq_ca h (ts.getD x.toInt.toNat 0)) := by
  refine AM.ofc (ax_mfacts (by decide +kernel : ax_has 149 = true)).2.2.2.2.2.2 hlst (by rw [hn_149]; exact Nat.le_of_ble_eq_true rfl) (by decide +kernel) ?_
  show AR ax_ns l (ax_mm 149) 3 ty_R _ _ 0 [(0, .ref a), (1, .int x)] [] h (0) (0)
  refine AR.s (pc' := 1) (lv' := [(0, .ref a), (1, .int x)]) (st' := [.ref a]) (h' := h) _ hn_149 hk_149_0 rfl ?_
  refine AR.jS (as := []) (rest := []) hk_149_1 hs_149_1 (by decide +kernel) (by decide +kernel) (by decide +kernel) (ax_wk_mem (ix := 3208) (by decide +kernel)) S rfl rfl (Nat.le_of_ble_eq_true rfl) (s_151 hlst S) (by decide) (Nat.zero_le _) (Nat.zero_le _) (fun E h' q => by obtain ⟨-, x, e, -⟩ := q; cases e) ?_
  rintro w95 g96 ⟨eg96, z97, e, ez97⟩
  cases e
  obtain rfl := eg96.symm
  show AR _ _ _ _ _ _ _ 4 [(0, .ref a), (1, .int x)] [.int z97] h _ _
  refine AR.zeq hk_149_4 (tgt := 16) (by decide) (fun p1 => ?_) (fun p2 => ?_)
  · exact absurd p1 (by omega)
  · refine AR.s (pc' := 8) (lv' := [(0, .ref a), (1, .int x)]) (st' := [.ref a]) (h' := h) _ hn_149 hk_149_7 rfl ?_
    refine AR.sV hk_149_8 (ax_wk_mem (ix := 4197) (by decide +kernel)) S (fun t A => ?_)
    show AR _ _ _ _ _ _ _ 11 [(0, .ref a), (1, .int x)] [.ref t] h _ _
    refine AR.s (pc' := 12) (lv' := [(0, .ref a), (1, .int x)]) (st' := [.int x, .ref t]) (h' := h) _ hn_149 hk_149_11 rfl ?_
    refine AR.cs (as := [.ref t, .int x]) (rest := []) hk_149_12 (by decide +kernel) rfl rfl (Nat.le_of_ble_eq_true rfl) (s_155 hlst A x0 x1) (by decide) (Nat.zero_le _) (Nat.zero_le _) (fun E h' q => by cases q.2) ?_
    rintro w9 g9 ⟨e9, e⟩
    cases e
    obtain rfl := e9.symm
    show AR _ _ _ _ _ _ _ 15 [(0, .ref a), (1, .int x)] [.int (ts.getD x.toInt.toNat 0)] h _ _
    exact AR.cret hk_149_15 hr_149 (sk_cc (sk_get S.1 (by omega))) ⟨rfl, rfl⟩
end HSC
