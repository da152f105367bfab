/-! BY HAND, 13: all that was assumed -/
section HG
variable {l : Launch} {K : Int} {h : ax_H} {q j n : Nat}
theorem hg_row {ov : ty_O} {k : Nat} {t : ty_V} (hH : ty_H K ty_z 0 ov h) (hq : q < 198) (hn : (ty_tab q).2.1 = n) (hj : j < n) (ht : ty_lk ov q j = t) (h1 : t.1 = k) (hk : k = 0 ∨ k = 1) : t.2.2.2.1 ≤ hy_z h q j ∧ hy_z h q j ≤ t.2.2.2.2 := by
  obtain ⟨vs, e1, e2, e3⟩ := hH.2.1 q hq
  have hl : j < vs.length := by omega
  have hx := List.getElem?_eq_getElem hl
  have e4 := (e3 j _ hx).1
  rw [ht] at e4
  obtain ⟨k', n', f, a, z⟩ := t
  have h1' : k' = k := h1
  subst h1'
  rcases hk with rfl | rfl
  · obtain ⟨i, hi, a1, a2, -⟩ := e4
    rw [hy_zi (ty_fd_of e1 (by rw [hx, hi]))]
    exact ⟨a1, a2⟩
  · obtain ⟨i, hi, a1, a2, -⟩ := e4
    rw [hy_zl (ty_fd_of e1 (by rw [hx, hi]))]
    exact ⟨a1, a2⟩
theorem hg_142 {ov : ty_O} {U : Int} (hp : ty_pkM l) (hlst : l.stackTraces = false) (o0 : ty_ole [] ov = true) (o1 : ty_lk ov 181 1 = (0, 0, 0, 0, U)) (hU : U ≤ 59) (o2 : ty_lk ov 181 5 = (1, 0, 0, 0, 9999999999)) (o3 : ∀ j < 24, (ty_lk ov 184 j).1 = 1 ∧ (ty_lk ov 184 j).2.2.2.2 ≤ 9999999999) (o4 : (ty_lk ov 184 0).2.2.2.2 ≤ 0 ∨ (ty_lk ov 184 1).2.2.2.2 ≤ 0) : ty_M hy_I l (142, 4, 20401406589946424346945639153664, 0, 0, [(2, 181, 0, 0, 0)], ov, [(.inl (some (0, 0, 0, 0, U)), [(181, 2, (0, 0, 0, 1, U + 1))])]) := by
  intro K h asx hr hH hi
  obtain ⟨_, _, rfl, rfl, rfl⟩ := hr
  have hH0 : hy_H K h := hH.weak o0
  have r1 := hg_row hH (q := 181) (j := 1) (by decide) rfl (by decide +kernel) o1 rfl (Or.inl rfl)
  have r2 := hg_row hH (q := 181) (j := 5) (by decide) rfl (by decide +kernel) o2 rfl (Or.inr rfl)
  have r3 : ∀ j, j < 24 → hy_z h 184 j ≤ (ty_lk ov 184 j).2.2.2.2 := fun j hj => (hg_row hH (q := 184) (n := 24) (by decide) (by decide +kernel) hj rfl (o3 j hj).1 (Or.inr rfl)).2
  have r4 : hy_z h 184 0 ≤ 0 ∨ hy_z h 184 1 ≤ 0 := o4.imp (fun e => Int.le_trans (r3 0 (by decide)) e) (fun e => Int.le_trans (r3 1 (by decide)) e)
  have r1a : 0 ≤ hy_z h 181 1 := r1.1
  have r1b : hy_z h 181 1 ≤ U := r1.2
  refine AM.mono ?_ (hf_add hp hlst hH0 (C := (hy_z h 181 1).toNat) (by omega) (by omega) (fun j hj => Int.le_trans (r3 j hj) (o3 j hj).2) r2 r4 hi)
  rintro res g ⟨g1, g2, g3, g4, z, rfl, g5⟩
  refine ⟨g2, g3, _, List.mem_singleton.mpr rfl, ⟨z, rfl, by omega, by omega, Or.inl rfl⟩, ?_⟩
  obtain ⟨i, e1, e2, e3⟩ := hy_int g1 (q := 181) (j := 1) (a := 0) (z := 60) (by decide) rfl (by decide +kernel) (by decide +kernel)
  have e4 := hy_zi e1
  exact ty_H.put (t := (0, 0, 0, 1, U + 1)) g1 (by decide) e1 ⟨i, rfl, by omega, by omega, Or.inl rfl⟩
theorem hg_7 {K : Int} {W W' : Nat} {ov : ty_O} (e : W = W') {res : Option Value ⊕ String} {g : ax_H} (q : hq_7 K W h res g) : ty_Q hy_I K W' [(.inl (some (0, 0, 0, (-2147483648), 2147483647)), [])] h res g := by
  subst e
  obtain ⟨g1, g2, g3, z, rfl⟩ := q
  have z1 := Int32.toInt_lt z
  exact ⟨g2, g3, _, List.mem_singleton.mpr rfl, ⟨z, rfl, Int32.le_toInt z, by omega, Or.inl rfl⟩, g1⟩
theorem hg_lv {K : Int} {W W' : Nat} {p : Bool} (e : W = W') {res : Option Value ⊕ String} {g : ax_H} (q : hq_lv K W h p res g) : ty_Q hy_I K W' [(.inl (some (0, 0, 0, (-2147483648), 2147483647)), [])] h res g := by
  obtain ⟨g1, g2, g3, z, e2, -⟩ := q
  exact hg_7 (ov := []) e ⟨g1, g2, g3, z, e2⟩
theorem hg_172 (hlst : l.stackTraces = false) : ty_M hy_I l tk_1110 := by
  intro K h asx hr hH hi
  obtain ⟨_, _, rfl, rfl, _, _, rfl, ⟨c, rfl, c0, c1, -⟩, rfl⟩ := hr
  refine AM.mono ?_ (hf_least hlst hH hi.2.2.2.1 (cn := c.toInt.toNat) (by omega) (by omega))
  rintro res g ⟨⟨f, rfl⟩, z, rfl, z0, z1⟩
  obtain ⟨e, q, S⟩ := hb_S.of hH hi.2.2.2.2
  obtain ⟨he, q0, q1, k, bs, ml, n, B, hL, hn⟩ := S
  have g9 : ∀ (p : Nat) c, h[p]? = some c → (h ++ [(102, hy_bl f)])[p]? = some c := fun p c ec => by rw [List.getElem?_append_left (List.getElem?_eq_some_iff.mp ec).1]; exact ec
  exact ⟨ty_F.push hH.1, (hb_fr.pu h [(102, hy_bl f)]).fI hH (e := e) (q := q) ⟨he, q0, q1, k, bs, ml, n, ⟨g9 _ _ B.1, g9 _ _ B.2.1, B.2.2⟩, hL, hn⟩ hi, _, List.mem_singleton.mpr rfl, ⟨z, rfl, z0, z1, Or.inl rfl⟩, hy_app hH _⟩
theorem hg_G (hlst : l.stackTraces = false) : ty_G hy_I l := by
  have hp := hp_ok hlst
  refine ⟨hy_Ik, hp, hlst, ?_, ?_, ?_, ?_, ?_, ?_, hg_172 hlst, hd_ok hlst (Or.inr (by decide)), hd_ok hlst (Or.inr (by decide)), hd_ok hlst (Or.inl (by decide)), hd_ok hlst (Or.inl (by decide)), ?_, ?_, ?_, ?_⟩
  · intro K h asx hr hH hi
    obtain ⟨_, _, rfl, rfl, _, _, rfl, ⟨x, rfl, -⟩, rfl⟩ := hr
    exact ha_75 hlst hH hi
  · intro K h asx hr hH hi
    obtain ⟨_, _, rfl, rfl, _, _, rfl, ⟨x, rfl, -⟩, rfl⟩ := hr
    exact ha_76 hlst hH hi
  · exact hg_142 (U := 58) hp hlst (by decide +kernel) (by decide +kernel) (by decide) (by decide +kernel) (by decide +kernel) (by decide +kernel)
  · exact hg_142 (U := 59) hp hlst (by decide +kernel) (by decide +kernel) (by decide) (by decide +kernel) (by decide +kernel) (by decide +kernel)
  · exact hg_142 (U := 59) hp hlst (by decide +kernel) (by decide +kernel) (by decide) (by decide +kernel) (by decide +kernel) (by decide +kernel)
  · exact hg_142 (U := 58) hp hlst (by decide +kernel) (by decide +kernel) (by decide) (by decide +kernel) (by decide +kernel) (by decide +kernel)
  · intro K h asx hr hH hi
    obtain ⟨_, _, rfl, rfl, _, _, rfl, ⟨x, rfl, -⟩, rfl⟩ := hr
    exact AM.mono (fun res g q => hg_7 (ov := []) (by decide) q) (hf_dec hp hlst hH hi)
  · intro K h asx hr hH hi
    obtain ⟨_, _, rfl, rfl, rfl⟩ := hr
    exact AM.mono (fun res g q => hg_7 (ov := []) (by decide) q) (hf_undo hp hlst hH hi)
  · intro K h asx hr hH hi
    obtain ⟨_, _, rfl, rfl, rfl⟩ := hr
    exact AM.mono (fun res g q => hg_lv (by decide) q) (hf_push hlst hH hi)
  · intro K h asx hr hH hi
    obtain ⟨_, _, rfl, rfl, rfl⟩ := hr
    exact AM.mono (fun res g q => hg_lv (by decide) q) (hf_pop hp hlst hH hi)
end HG
