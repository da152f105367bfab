/-! BY HAND, 2: peek -/
section HPEEK
variable {l : Launch}
theorem hp_n : (ax_mm 145).2.2.1 = 2 := by decide +kernel
theorem hp_look : ax_look 145 18 = some (.ireturn, (0, 0, 0), .null, []) := by decide +kernel
theorem hp_ty : (ax_mm 145).2.2.2.1 = some .int := by decide +kernel
theorem hp_ok (hlst : l.stackTraces = false) : ty_pkM l := by
  intro h k sz tx ms hlen m1 m6 m7 x1 low
  have g1 : ax_get ty_R h 181 = some (9, ms) := by rw [ax_get_lt (by decide)]; exact m1
  have g5 : ax_get ty_R h 185 = some (100, tx) := by rw [ax_get_lt (by decide)]; exact x1
  refine AM.of (ax_mfacts (by decide +kernel : ax_has 145 = true)).2.2.2.2.2.2 hlst (by rw [hp_n]; exact Nat.le_of_ble_eq_true rfl) ?_
  show AR ax_ns l (ax_mm 145) 1 ty_R _ _ 0 [(0, .ref 181), (1, .int k)] [] h 0 0
  refine AR.s (.iload_n 1, (0, 0, 0), .null, []) hp_n (by decide +kernel) rfl ?_
  refine AR.s (.aload_n 0, (0, 0, 0), .null, []) hp_n (by decide +kernel) rfl ?_
  refine AR.s (pc' := 5) (lv' := [(0, .ref 181), (1, .int k)]) (st' := [.int sz, .int k]) (h' := h) (.getfield 93, (9, 7, 0), .null, [6183]) hp_n (by decide +kernel) (by simp only [ax_one, g1, m7]; rfl) ?_
  by_cases hk : k < sz
  · have ht : ax_ltu (.int k) (.int sz) = some true := by rw [ty_ltu, decide_eq_true (Int32.lt_iff_toInt_lt.mp hk)]
    obtain ⟨l0, ci, l1⟩ := low hk
    refine AR.s (pc' := 8) (lv' := [(0, .ref 181), (1, .int k)]) (st' := []) (h' := h) (.if_icmp .ge 12, (0, 0, 0), .null, []) hp_n (by decide +kernel) (by simp only [ax_one, ht]; rfl) ?_
    refine AR.s (.aload_n 0, (0, 0, 0), .null, []) hp_n (by decide +kernel) rfl ?_
    refine AR.s (pc' := 12) (lv' := [(0, .ref 181), (1, .int k)]) (st' := [.ref 185]) (h' := h) (.getfield 19, (9, 6, 0), .null, [6182]) hp_n (by decide +kernel) (by simp only [ax_one, g1, m6]; rfl) ?_
    refine AR.s (.iload_n 1, (0, 0, 0), .null, []) hp_n (by decide +kernel) rfl ?_
    refine AR.s (pc' := 14) (lv' := [(0, .ref 181), (1, .int k)]) (st' := [.int ci]) (h' := h) (.iaload, (0, 0, 0), .null, []) hp_n (by decide +kernel) (by simp only [ax_one, g5, if_neg l0, l1]; rfl) ?_
    refine AR.s (.goto 4, (0, 0, 0), .null, []) hp_n (by decide +kernel) rfl ?_
    exact AR.at (Or.inl ⟨_, rfl, rfl, (ax_look_ok hp_look).1, hp_ty, rfl, Or.inr ⟨hk, _, l1, rfl⟩⟩)
  · have ht : ax_ltu (.int k) (.int sz) = some false := by rw [ty_ltu, decide_eq_false (fun q => hk (Int32.lt_iff_toInt_lt.mpr q))]
    refine AR.s (pc' := 17) (lv' := [(0, .ref 181), (1, .int k)]) (st' := []) (h' := h) (.if_icmp .ge 12, (0, 0, 0), .null, []) hp_n (by decide +kernel) (by simp only [ax_one, ht]; rfl) ?_
    refine AR.s (.iconst (-1), (0, 0, 0), .null, []) hp_n (by decide +kernel) rfl ?_
    refine AR.at (Or.inl ⟨_, rfl, rfl, (ax_look_ok hp_look).1, hp_ty, rfl, Or.inl ⟨?_, rfl⟩⟩)
    exact Int32.le_iff_toInt_le.mpr (Int.not_lt.mp (fun q => hk (Int32.lt_iff_toInt_lt.mpr q)))
end HPEEK
