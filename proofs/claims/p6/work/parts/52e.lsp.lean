/-! THE LAW, 5: the operations with an eye on what is compared -/

section LWQ
variable {l : Launch} {xs : Nat → Int32} {L : Nat} {P : ax_P} {X : ax_PX} {h : ax_H} {bc bs : Nat} {i : Int32}
def lw_er (q j : Nat) (e : ty_E) : Bool := lw_ek 0 e && (Nat.beq (ty_lk e.2 q j).1 0 && (decide (0 ≤ (ty_lk e.2 q j).2.2.2.1) && decide ((ty_lk e.2 q j).2.2.2.2 ≤ 0)))
theorem lw_zx {ct : ty_Ct} {q j W : Nat} {h' : ax_H} {E : String} (he : ct.2.2.2.2.2.2.2.all (lw_er q j) = true) (Q : ty_Q hy_I 0 W ct.2.2.2.2.2.2.2 h (.inr E) h') : False := by
  obtain ⟨-, -, e, hm, rr, -⟩ := Q
  have h1 := (Bool.and_eq_true_iff.mp (List.all_eq_true.mp he e hm)).1
  obtain ⟨e1, e2⟩ := e
  match e1, h1, rr with
  | .inl (some t), _, rr => exact rr.elim
theorem lw_zero {ct : ty_Ct} {q j n W : Nat} {h' : ax_H} {x : Option Value} (he : ct.2.2.2.2.2.2.2.all (lw_er q j) = true) (hq : q < 198) (hn : (ty_tab q).2.1 = n) (hj : j < n) (Q : ty_Q hy_I 0 W ct.2.2.2.2.2.2.2 h (.inl x) h') : hy_H 0 h' ∧ hy_z h' q j = 0 ∧ ∃ z : Int32, x = some (.int z) := by
  obtain ⟨-, -, e, hm, rr, He⟩ := Q
  obtain ⟨h1, h2⟩ := Bool.and_eq_true_iff.mp (List.all_eq_true.mp he e hm)
  obtain ⟨h3, h4⟩ := Bool.and_eq_true_iff.mp h2
  obtain ⟨h5, h6⟩ := Bool.and_eq_true_iff.mp h4
  have r := hg_row He hq hn hj rfl (Nat.eq_of_beq_eq_true h3) (Or.inl rfl)
  have h5 := of_decide_eq_true h5
  have h6 := of_decide_eq_true h6
  obtain ⟨e1, e2⟩ := e
  match e1, x, h1, rr with
  | .inl (some t), some y, h1, rr =>
    obtain ⟨kk, n', f, a, z⟩ := t
    obtain ⟨h7, h8⟩ := Bool.and_eq_true_iff.mp h1
    have h9 : kk = 0 := Nat.eq_of_beq_eq_true h7
    subst h9
    obtain ⟨z, rfl, -⟩ := rr
    exact ⟨He.weak h8, Int.le_antisymm (Int.le_trans r.2 h6) (Int.le_trans h5 r.1), z, rfl⟩
  | .inl (some t), none, _, rr => exact rr.elim
theorem lw_B (I : lw_J h) : r_B h = t_B h := by
  obtain ⟨i1, i2, -⟩ := I
  funext p
  unfold r_B t_B
  rw [← i1]
  split
  · rename_i e
    exact (i2 p.toNat (by omega)).symm
  · rfl
theorem lw_tag (hH : hy_H 0 h) : ∃ vs, h[181]? = some (9, vs) := by
  obtain ⟨vs, e1, -⟩ := hy_cell hH (q := 181) (by decide)
  rw [show (ty_tab 181).1 = 9 from by decide +kernel] at e1
  exact ⟨vs, e1⟩
theorem lw_op0 (hlst : l.stackTraces = false) (G : ty_G hy_I l) (i0 : 0 ≤ i.toInt) (i1 : i.toInt + 6 ≤ L) (hL : L ≤ 3072) (I : lw_I h) (k : ∀ h', lw_I h' → AR ax_ns l (ax_mm 285) 13 (ax_r L xs) P X 1335 [(4, .int i), (3, .ref 197), (2, .ref 181), (1, .ref 0), (0, .ref 1000000001)] [] h' bc bs) : AR ax_ns l (ax_mm 285) 13 (ax_r L xs) P X 220 [(4, .int i), (3, .ref 197), (2, .ref 181), (1, .ref 0), (0, .ref 1000000001)] [] h (bc + 1177) (bs + 14024) := by
  obtain ⟨y1, hy1⟩ : ∃ y : Int32, y = xs (i + Int32.ofInt 1).toNatClampNeg := ⟨_, rfl⟩
  obtain ⟨y2, hy2⟩ : ∃ y : Int32, y = xs (i + Int32.ofInt 2).toNatClampNeg := ⟨_, rfl⟩
  obtain ⟨y3, hy3⟩ : ∃ y : Int32, y = xs (i + Int32.ofInt 3).toNatClampNeg := ⟨_, rfl⟩
  obtain ⟨y4, hy4⟩ : ∃ y : Int32, y = xs (i + Int32.ofInt 4).toNatClampNeg := ⟨_, rfl⟩
  obtain ⟨y5, hy5⟩ : ∃ y : Int32, y = xs (i + Int32.ofInt 5).toNatClampNeg := ⟨_, rfl⟩
  refine AR.aload_n (ax_look_ok hk_285_220).1 (x := .ref 0) rfl rfl ?_
  refine lw_scx hk_285_221 hk_285_222 hk_285_224 hk_285_225 hk_285_226 rfl rfl (by decide) (by decide) (by decide) i0 i1 hL hy1 ?_
  show AR _ _ _ _ _ _ _ 227 [(4, .int i), (3, .ref 197), (2, .ref 181), (1, .ref 0), (0, .ref 1000000001)] [.int y1, .ref 0] h _ _
  refine lw_scx hk_285_227 hk_285_228 hk_285_230 hk_285_231 hk_285_232 rfl rfl (by decide) (by decide) (by decide) i0 i1 hL hy2 ?_
  show AR _ _ _ _ _ _ _ 233 [(4, .int i), (3, .ref 197), (2, .ref 181), (1, .ref 0), (0, .ref 1000000001)] [.int y2, .int y1, .ref 0] h _ _
  refine lw_scx hk_285_233 hk_285_234 hk_285_236 hk_285_237 hk_285_238 rfl rfl (by decide) (by decide) (by decide) i0 i1 hL hy3 ?_
  show AR _ _ _ _ _ _ _ 239 [(4, .int i), (3, .ref 197), (2, .ref 181), (1, .ref 0), (0, .ref 1000000001)] [.int y3, .int y2, .int y1, .ref 0] h _ _
  refine lw_scx hk_285_239 hk_285_240 hk_285_242 hk_285_243 hk_285_244 rfl rfl (by decide) (by decide) (by decide) i0 i1 hL hy4 ?_
  show AR _ _ _ _ _ _ _ 245 [(4, .int i), (3, .ref 197), (2, .ref 181), (1, .ref 0), (0, .ref 1000000001)] [.int y4, .int y3, .int y2, .int y1, .ref 0] h _ _
  refine lw_scx hk_285_245 hk_285_246 hk_285_248 hk_285_249 hk_285_250 rfl rfl (by decide) (by decide) (by decide) i0 i1 hL hy5 ?_
  show AR _ _ _ _ _ _ _ 251 [(4, .int i), (3, .ref 197), (2, .ref 181), (1, .ref 0), (0, .ref 1000000001)] [.int y5, .int y4, .int y3, .int y2, .int y1, .ref 0] h _ _
  refine AR.aload_n (ax_look_ok hk_285_251).1 (x := .ref 197) rfl rfl ?_
  refine lw_callA (bc' := bc + 1000) (bs' := bs + 14000) (as := [.ref 0, .int y1, .int y2, .int y3, .int y4, .int y5, .ref 197]) (rest := []) hk_285_252 (lw_hs (by decide +kernel) rfl rfl (by decide)) (lp_219 hlst I.1 I.2.1) (by decide) (by omega) (by omega) (fun E h' q => by obtain ⟨-, -, -, z, e, -⟩ := q; cases e) ?_
  rintro x1 h1 ⟨H1, F1, j1, z1, ex, A1⟩
  cases ex
  show AR _ _ _ _ _ _ _ 255 [(4, .int i), (3, .ref 197), (2, .ref 181), (1, .ref 0), (0, .ref 1000000001)] [.int z1] h1 _ _
  refine AR.istore (ax_look_ok hk_285_255).1 (by decide +kernel) rfl ?_
  show AR _ _ _ _ _ _ _ 257 [(5, .int z1), (4, .int i), (3, .ref 197), (2, .ref 181), (1, .ref 0), (0, .ref 1000000001)] [] h1 _ _
  refine AR.aload_n (ax_look_ok hk_285_257).1 (x := .ref 181) rfl rfl ?_
  refine lw_scx hk_285_258 hk_285_259 hk_285_261 hk_285_262 hk_285_263 rfl rfl (by decide) (by decide) (by decide) i0 i1 hL hy1 ?_
  show AR _ _ _ _ _ _ _ 264 [(5, .int z1), (4, .int i), (3, .ref 197), (2, .ref 181), (1, .ref 0), (0, .ref 1000000001)] [.int y1, .ref 181] h1 _ _
  refine lw_scx hk_285_264 hk_285_265 hk_285_267 hk_285_268 hk_285_269 rfl rfl (by decide) (by decide) (by decide) i0 i1 hL hy2 ?_
  show AR _ _ _ _ _ _ _ 270 [(5, .int z1), (4, .int i), (3, .ref 197), (2, .ref 181), (1, .ref 0), (0, .ref 1000000001)] [.int y2, .int y1, .ref 181] h1 _ _
  refine lw_scx hk_285_270 hk_285_271 hk_285_273 hk_285_274 hk_285_275 rfl rfl (by decide) (by decide) (by decide) i0 i1 hL hy3 ?_
  show AR _ _ _ _ _ _ _ 276 [(5, .int z1), (4, .int i), (3, .ref 197), (2, .ref 181), (1, .ref 0), (0, .ref 1000000001)] [.int y3, .int y2, .int y1, .ref 181] h1 _ _
  refine lw_scx hk_285_276 hk_285_277 hk_285_279 hk_285_280 hk_285_281 rfl rfl (by decide) (by decide) (by decide) i0 i1 hL hy4 ?_
  show AR _ _ _ _ _ _ _ 282 [(5, .int z1), (4, .int i), (3, .ref 197), (2, .ref 181), (1, .ref 0), (0, .ref 1000000001)] [.int y4, .int y3, .int y2, .int y1, .ref 181] h1 _ _
  refine lw_scx hk_285_282 hk_285_283 hk_285_285 hk_285_286 hk_285_287 rfl rfl (by decide) (by decide) (by decide) i0 i1 hL hy5 ?_
  show AR _ _ _ _ _ _ _ 288 [(5, .int z1), (4, .int i), (3, .ref 197), (2, .ref 181), (1, .ref 0), (0, .ref 1000000001)] [.int y5, .int y4, .int y3, .int y2, .int y1, .ref 181] h1 _ _
  obtain ⟨v1, e1⟩ := lw_tag H1
  refine lw_callA (bc' := bc + 900) (bs' := bs + 13000) (as := [.ref 181, .int y1, .int y2, .int y3, .int y4, .int y5]) (rest := []) hk_285_288 (lw_hv (as := [.int y1, .int y2, .int y3, .int y4, .int y5]) (by decide) (by decide +kernel) (by decide) e1 rfl rfl (by decide)) (lp_143 hlst H1 j1) (by decide) (by omega) (by omega) (fun E h' q => by obtain ⟨-, -, -, z, e, -⟩ := q; cases e) ?_
  rintro x2 h2 ⟨H2, F2, j2, z2, ex, A2⟩
  cases ex
  have r0 : hy_z h1 181 7 = hy_z h 181 7 := hy_zF F1 7 (q := 181) (by decide) (by decide +kernel) (by decide +kernel)
  have r1 : hy_z h2 1 1 = hy_z h1 1 1 := hy_zF F2 1 (q := 1) (by decide) (by decide +kernel) (by decide +kernel)
  have q0 : ∀ j, hy_z h1 185 j = hy_z h 185 j := hy_zA F1 (q := 185) (by decide +kernel) (by decide) (by decide +kernel) (by decide +kernel)
  have q1 : ∀ j, hy_z h2 2 j = hy_z h1 2 j := hy_zA F2 (q := 2) (by decide +kernel) (by decide) (by decide +kernel) (by decide +kernel)
  have e0 : hy_z h1 0 2 = hy_z h 0 2 := hy_zF F1 2 (q := 0) (by decide) (by decide +kernel) (by decide +kernel)
  have e1 : hy_z h2 0 2 = hy_z h1 0 2 := hy_zF F2 2 (q := 0) (by decide) (by decide +kernel) (by decide +kernel)
  have e2 : hy_z h1 181 11 = hy_z h 181 11 := hy_zF F1 11 (q := 181) (by decide) (by decide +kernel) (by decide +kernel)
  have e3 : hy_z h2 181 11 = hy_z h1 181 11 := hy_zF F2 11 (q := 181) (by decide) (by decide +kernel) (by decide +kernel)
  obtain ⟨K0, K1, K2⟩ := I.2.2
  have J2 : lw_J h2 := by
    rcases A1 with ⟨a1, a2, a3, a4⟩ | ⟨a1, a2, a3, a5, a4⟩
    · rcases A2 with ⟨b1, b2, b3, b4⟩ | ⟨b1, b2, b3, b5, b4⟩
      · refine ⟨by omega, fun j hj => ?_, by omega⟩
        rw [q1, congrFun a4 j, congrFun b4 j, q0]
        exact K1 j (by omega)
      · exact absurd a1 (by omega)
    · rcases A2 with ⟨b1, b2, b3, b4⟩ | ⟨b1, b2, b3, b5, b4⟩
      · exact absurd a1 (by omega)
      · refine ⟨by omega, fun j hj => ?_, by omega⟩
        rw [q1, congrFun a4 j, congrFun b4 j, show hy_z h1 185 = hy_z h 185 from funext q0, r0, ← K0]
        exact t_up5_eq K1 y1 y2 y3 y4 y5 j (by omega)
  have I2 : lw_I h2 := ⟨H2, j2, J2⟩
  show AR _ _ _ _ _ _ _ 291 [(5, .int z1), (4, .int i), (3, .ref 197), (2, .ref 181), (1, .ref 0), (0, .ref 1000000001)] [.int z2] h2 _ _
  refine AR.istore (ax_look_ok hk_285_291).1 (by decide +kernel) rfl ?_
  show AR _ _ _ _ _ _ _ 293 [(6, .int z2), (5, .int z1), (4, .int i), (3, .ref 197), (2, .ref 181), (1, .ref 0), (0, .ref 1000000001)] [] h2 _ _
  refine AR.goto (ax_look_ok hk_285_293).1 (tgt := 1335) (by decide) ?_
  show AR _ _ _ _ _ _ _ 1335 [(6, .int z2), (5, .int z1), (4, .int i), (3, .ref 197), (2, .ref 181), (1, .ref 0), (0, .ref 1000000001)] [] h2 _ _
  refine AR.lessL (lv' := [(4, .int i), (3, .ref 197), (2, .ref 181), (1, .ref 0), (0, .ref 1000000001)]) (List.forall_mem_cons.mpr ⟨⟨_, by simp, ax_le_rfl rfl⟩, (List.forall_mem_cons.mpr ⟨⟨_, by simp, ax_le_rfl rfl⟩, (List.forall_mem_cons.mpr ⟨⟨_, by simp, ax_le_rfl rfl⟩, (List.forall_mem_cons.mpr ⟨⟨_, by simp, ax_le_rfl rfl⟩, (List.forall_mem_cons.mpr ⟨⟨_, by simp, ax_le_rfl rfl⟩, (fun _ h => absurd h List.not_mem_nil)⟩)⟩)⟩)⟩)⟩) ?_
  exact AR.lt (by omega) (by omega) (k _ I2)
theorem lw_op1 (hlst : l.stackTraces = false) (G : ty_G hy_I l) (i0 : 0 ≤ i.toInt) (i1 : i.toInt + 6 ≤ L) (hL : L ≤ 3072) (I : lw_I h) (k : ∀ h', lw_I h' → AR ax_ns l (ax_mm 285) 13 (ax_r L xs) P X 1335 [(4, .int i), (3, .ref 197), (2, .ref 181), (1, .ref 0), (0, .ref 1000000001)] [] h' bc bs) : AR ax_ns l (ax_mm 285) 13 (ax_r L xs) P X 296 [(4, .int i), (3, .ref 197), (2, .ref 181), (1, .ref 0), (0, .ref 1000000001)] [] h (bc + 1177) (bs + 14024) := by
  obtain ⟨y1, hy1⟩ : ∃ y : Int32, y = xs (i + Int32.ofInt 1).toNatClampNeg := ⟨_, rfl⟩
  refine AR.aload_n (ax_look_ok hk_285_296).1 (x := .ref 0) rfl rfl ?_
  refine lw_scx hk_285_297 hk_285_298 hk_285_300 hk_285_301 hk_285_302 rfl rfl (by decide) (by decide) (by decide) i0 i1 hL hy1 ?_
  show AR _ _ _ _ _ _ _ 303 [(4, .int i), (3, .ref 197), (2, .ref 181), (1, .ref 0), (0, .ref 1000000001)] [.int y1, .ref 0] h _ _
  refine AR.aload_n (ax_look_ok hk_285_303).1 (x := .ref 197) rfl rfl ?_
  refine lw_callA (bc' := bc + 1000) (bs' := bs + 14000) (as := [.ref 0, .int y1, .ref 197]) (rest := []) hk_285_304 (lw_hs (by decide +kernel) rfl rfl (by decide)) (lp_220 hlst I.1 I.2.1) (by decide) (by omega) (by omega) (fun E h' q => by obtain ⟨-, -, -, z, e, -⟩ := q; cases e) ?_
  rintro x1 h1 ⟨H1, F1, j1, z1, ex, A1⟩
  cases ex
  show AR _ _ _ _ _ _ _ 307 [(4, .int i), (3, .ref 197), (2, .ref 181), (1, .ref 0), (0, .ref 1000000001)] [.int z1] h1 _ _
  refine AR.istore (ax_look_ok hk_285_307).1 (by decide +kernel) rfl ?_
  show AR _ _ _ _ _ _ _ 309 [(5, .int z1), (4, .int i), (3, .ref 197), (2, .ref 181), (1, .ref 0), (0, .ref 1000000001)] [] h1 _ _
  refine AR.aload_n (ax_look_ok hk_285_309).1 (x := .ref 181) rfl rfl ?_
  refine lw_scx hk_285_310 hk_285_311 hk_285_313 hk_285_314 hk_285_315 rfl rfl (by decide) (by decide) (by decide) i0 i1 hL hy1 ?_
  show AR _ _ _ _ _ _ _ 316 [(5, .int z1), (4, .int i), (3, .ref 197), (2, .ref 181), (1, .ref 0), (0, .ref 1000000001)] [.int y1, .ref 181] h1 _ _
  obtain ⟨v1, e1⟩ := lw_tag H1
  refine lw_callA (bc' := bc + 900) (bs' := bs + 13000) (as := [.ref 181, .int y1]) (rest := []) hk_285_316 (lw_hv (as := [.int y1]) (by decide) (by decide +kernel) (by decide) e1 rfl rfl (by decide)) (lp_144 hlst H1 j1) (by decide) (by omega) (by omega) (fun E h' q => by obtain ⟨-, -, -, z, e, -⟩ := q; cases e) ?_
  rintro x2 h2 ⟨H2, F2, j2, z2, ex, A2⟩
  cases ex
  have r0 : hy_z h1 181 7 = hy_z h 181 7 := hy_zF F1 7 (q := 181) (by decide) (by decide +kernel) (by decide +kernel)
  have r1 : hy_z h2 1 1 = hy_z h1 1 1 := hy_zF F2 1 (q := 1) (by decide) (by decide +kernel) (by decide +kernel)
  have q0 : ∀ j, hy_z h1 185 j = hy_z h 185 j := hy_zA F1 (q := 185) (by decide +kernel) (by decide) (by decide +kernel) (by decide +kernel)
  have q1 : ∀ j, hy_z h2 2 j = hy_z h1 2 j := hy_zA F2 (q := 2) (by decide +kernel) (by decide) (by decide +kernel) (by decide +kernel)
  have e0 : hy_z h1 0 2 = hy_z h 0 2 := hy_zF F1 2 (q := 0) (by decide) (by decide +kernel) (by decide +kernel)
  have e1 : hy_z h2 0 2 = hy_z h1 0 2 := hy_zF F2 2 (q := 0) (by decide) (by decide +kernel) (by decide +kernel)
  have e2 : hy_z h1 181 11 = hy_z h 181 11 := hy_zF F1 11 (q := 181) (by decide) (by decide +kernel) (by decide +kernel)
  have e3 : hy_z h2 181 11 = hy_z h1 181 11 := hy_zF F2 11 (q := 181) (by decide) (by decide +kernel) (by decide +kernel)
  obtain ⟨K0, K1, K2⟩ := I.2.2
  have q2 : ∀ j, hy_z h1 2 j = hy_z h 2 j := hy_zA F1 (q := 2) (by decide +kernel) (by decide) (by decide +kernel) (by decide +kernel)
  have q3 : ∀ j, hy_z h2 185 j = hy_z h1 185 j := hy_zA F2 (q := 185) (by decide +kernel) (by decide) (by decide +kernel) (by decide +kernel)
  have sz : hy_z h2 1 1 = hy_z h2 181 7 ∧ hy_z h2 1 1 ≤ hy_z h 1 1 := by
    rcases A1 with ⟨a1, a2, a3⟩ | ⟨a1, a2, a3, a5⟩ <;> rcases A2 with ⟨b1, b2, b3⟩ | ⟨b1, b2, b3, b5⟩ <;> omega
  have J2 : lw_J h2 := ⟨sz.1, fun j hj => by rw [q1, q2, q3, q0]; exact K1 j (by omega), by omega⟩
  have I2 : lw_I h2 := ⟨H2, j2, J2⟩
  show AR _ _ _ _ _ _ _ 319 [(5, .int z1), (4, .int i), (3, .ref 197), (2, .ref 181), (1, .ref 0), (0, .ref 1000000001)] [.int z2] h2 _ _
  refine AR.istore (ax_look_ok hk_285_319).1 (by decide +kernel) rfl ?_
  show AR _ _ _ _ _ _ _ 321 [(6, .int z2), (5, .int z1), (4, .int i), (3, .ref 197), (2, .ref 181), (1, .ref 0), (0, .ref 1000000001)] [] h2 _ _
  refine AR.goto (ax_look_ok hk_285_321).1 (tgt := 1335) (by decide) ?_
  show AR _ _ _ _ _ _ _ 1335 [(6, .int z2), (5, .int z1), (4, .int i), (3, .ref 197), (2, .ref 181), (1, .ref 0), (0, .ref 1000000001)] [] h2 _ _
  refine AR.lessL (lv' := [(4, .int i), (3, .ref 197), (2, .ref 181), (1, .ref 0), (0, .ref 1000000001)]) (List.forall_mem_cons.mpr ⟨⟨_, by simp, ax_le_rfl rfl⟩, (List.forall_mem_cons.mpr ⟨⟨_, by simp, ax_le_rfl rfl⟩, (List.forall_mem_cons.mpr ⟨⟨_, by simp, ax_le_rfl rfl⟩, (List.forall_mem_cons.mpr ⟨⟨_, by simp, ax_le_rfl rfl⟩, (List.forall_mem_cons.mpr ⟨⟨_, by simp, ax_le_rfl rfl⟩, (fun _ h => absurd h List.not_mem_nil)⟩)⟩)⟩)⟩)⟩) ?_
  exact AR.lt (by omega) (by omega) (k _ I2)
theorem lw_op2 (hlst : l.stackTraces = false) (G : ty_G hy_I l) (i0 : 0 ≤ i.toInt) (i1 : i.toInt + 6 ≤ L) (hL : L ≤ 3072) (I : lw_I h) (k : ∀ h', lw_I h' → AR ax_ns l (ax_mm 285) 13 (ax_r L xs) P X 1335 [(4, .int i), (3, .ref 197), (2, .ref 181), (1, .ref 0), (0, .ref 1000000001)] [] h' bc bs) : AR ax_ns l (ax_mm 285) 13 (ax_r L xs) P X 324 [(4, .int i), (3, .ref 197), (2, .ref 181), (1, .ref 0), (0, .ref 1000000001)] [] h (bc + 1177) (bs + 14024) := by
  refine AR.aload_n (ax_look_ok hk_285_324).1 (x := .ref 0) rfl rfl ?_
  refine AR.aload_n (ax_look_ok hk_285_325).1 (x := .ref 197) rfl rfl ?_
  refine lw_callA (bc' := bc + 1000) (bs' := bs + 14000) (as := [.ref 0, .ref 197]) (rest := []) hk_285_326 (lw_hs (by decide +kernel) rfl rfl (by decide)) (lt_221 hlst I.1 I.2.1) (by decide) (by omega) (by omega) (fun E h' q => by obtain ⟨-, -, -, ⟨_, e⟩, -⟩ := q; cases e) ?_
  rintro x1 h1 ⟨H1, F1, j1, ⟨z1, ex⟩, a1, a2⟩
  cases ex
  show AR _ _ _ _ _ _ _ 329 [(4, .int i), (3, .ref 197), (2, .ref 181), (1, .ref 0), (0, .ref 1000000001)] [.int z1] h1 _ _
  refine AR.istore (ax_look_ok hk_285_329).1 (by decide +kernel) rfl ?_
  show AR _ _ _ _ _ _ _ 331 [(5, .int z1), (4, .int i), (3, .ref 197), (2, .ref 181), (1, .ref 0), (0, .ref 1000000001)] [] h1 _ _
  refine AR.aload_n (ax_look_ok hk_285_331).1 (x := .ref 181) rfl rfl ?_
  obtain ⟨v1, e1⟩ := lw_tag H1
  refine lw_callA (bc' := bc + 900) (bs' := bs + 13000) (as := [.ref 181]) (rest := []) hk_285_332 (lw_hv (as := []) (by decide) (by decide +kernel) (by decide) e1 rfl rfl (by decide)) (lr_156 hlst H1 j1) (by decide) (by omega) (by omega) (fun E h' q => by obtain ⟨-, -, -, -, -, _, e⟩ := q; cases e) ?_
  rintro x2 h2 ⟨F2, H2, j2, b1, b2, z2, ex⟩
  cases ex
  have w0 : r_B h1 = r_B h := r_B_F F1 (by decide +kernel)
  have w1 : r_B h = t_B h := lw_B I.2.2
  have r1 : hy_z h2 1 1 = hy_z h1 1 1 := hy_zF F2 1 (q := 1) (by decide) (by decide +kernel) (by decide +kernel)
  have e1 : hy_z h2 0 2 = hy_z h1 0 2 := hy_zF F2 2 (q := 0) (by decide) (by decide +kernel) (by decide +kernel)
  have J2 : lw_J h2 := ⟨by omega, fun j hj => absurd hj (by omega), by rw [e1, a1, b2, w0, w1]⟩
  have I2 : lw_I h2 := ⟨H2, j2, J2⟩
  show AR _ _ _ _ _ _ _ 335 [(5, .int z1), (4, .int i), (3, .ref 197), (2, .ref 181), (1, .ref 0), (0, .ref 1000000001)] [.int z2] h2 _ _
  refine AR.istore (ax_look_ok hk_285_335).1 (by decide +kernel) rfl ?_
  show AR _ _ _ _ _ _ _ 337 [(6, .int z2), (5, .int z1), (4, .int i), (3, .ref 197), (2, .ref 181), (1, .ref 0), (0, .ref 1000000001)] [] h2 _ _
  refine AR.goto (ax_look_ok hk_285_337).1 (tgt := 1335) (by decide) ?_
  show AR _ _ _ _ _ _ _ 1335 [(6, .int z2), (5, .int z1), (4, .int i), (3, .ref 197), (2, .ref 181), (1, .ref 0), (0, .ref 1000000001)] [] h2 _ _
  refine AR.lessL (lv' := [(4, .int i), (3, .ref 197), (2, .ref 181), (1, .ref 0), (0, .ref 1000000001)]) (List.forall_mem_cons.mpr ⟨⟨_, by simp, ax_le_rfl rfl⟩, (List.forall_mem_cons.mpr ⟨⟨_, by simp, ax_le_rfl rfl⟩, (List.forall_mem_cons.mpr ⟨⟨_, by simp, ax_le_rfl rfl⟩, (List.forall_mem_cons.mpr ⟨⟨_, by simp, ax_le_rfl rfl⟩, (List.forall_mem_cons.mpr ⟨⟨_, by simp, ax_le_rfl rfl⟩, (fun _ h => absurd h List.not_mem_nil)⟩)⟩)⟩)⟩)⟩) ?_
  exact AR.lt (by omega) (by omega) (k _ I2)
theorem lw_op3 (hlst : l.stackTraces = false) (G : ty_G hy_I l) (i0 : 0 ≤ i.toInt) (i1 : i.toInt + 6 ≤ L) (hL : L ≤ 3072) (I : lw_I h) (k : ∀ h', lw_I h' → AR ax_ns l (ax_mm 285) 13 (ax_r L xs) P X 1335 [(4, .int i), (3, .ref 197), (2, .ref 181), (1, .ref 0), (0, .ref 1000000001)] [] h' bc bs) : AR ax_ns l (ax_mm 285) 13 (ax_r L xs) P X 340 [(4, .int i), (3, .ref 197), (2, .ref 181), (1, .ref 0), (0, .ref 1000000001)] [] h (bc + 1177) (bs + 14024) := by
  refine AR.aload_n (ax_look_ok hk_285_340).1 (x := .ref 0) rfl rfl ?_
  refine AR.aload_n (ax_look_ok hk_285_341).1 (x := .ref 197) rfl rfl ?_
  refine lw_callA (bc' := bc + 1000) (bs' := bs + 14000) (as := [.ref 0, .ref 197]) (rest := []) hk_285_342 (lw_hs (by decide +kernel) rfl rfl (by decide)) (lt_222 hlst I.1 I.2.1) (by decide) (by omega) (by omega) (fun E h' q => by obtain ⟨-, -, -, ⟨_, e⟩, -⟩ := q; cases e) ?_
  rintro x1 h1 ⟨H1, F1, j1, ⟨z1, ex⟩, a1, a2⟩
  cases ex
  show AR _ _ _ _ _ _ _ 345 [(4, .int i), (3, .ref 197), (2, .ref 181), (1, .ref 0), (0, .ref 1000000001)] [.int z1] h1 _ _
  refine AR.istore (ax_look_ok hk_285_345).1 (by decide +kernel) rfl ?_
  show AR _ _ _ _ _ _ _ 347 [(5, .int z1), (4, .int i), (3, .ref 197), (2, .ref 181), (1, .ref 0), (0, .ref 1000000001)] [] h1 _ _
  refine AR.aload_n (ax_look_ok hk_285_347).1 (x := .ref 181) rfl rfl ?_
  obtain ⟨v1, e1⟩ := lw_tag H1
  refine lw_callA (bc' := bc + 900) (bs' := bs + 13000) (as := [.ref 181]) (rest := []) hk_285_348 (lw_hv (as := []) (by decide) (by decide +kernel) (by decide) e1 rfl rfl (by decide)) (lr_159 hlst H1 j1) (by decide) (by omega) (by omega) (fun E h' q => by obtain ⟨-, -, -, -, -, _, e⟩ := q; cases e) ?_
  rintro x2 h2 ⟨F2, H2, j2, b1, b2, z2, ex⟩
  cases ex
  have w0 : r_B h1 = r_B h := r_B_F F1 (by decide +kernel)
  have w1 : r_B h = t_B h := lw_B I.2.2
  have r1 : hy_z h2 1 1 = hy_z h1 1 1 := hy_zF F2 1 (q := 1) (by decide) (by decide +kernel) (by decide +kernel)
  have e1 : hy_z h2 0 2 = hy_z h1 0 2 := hy_zF F2 2 (q := 0) (by decide) (by decide +kernel) (by decide +kernel)
  have J2 : lw_J h2 := ⟨by omega, fun j hj => absurd hj (by omega), by rw [e1, a1, b2, w0, w1]⟩
  have I2 : lw_I h2 := ⟨H2, j2, J2⟩
  show AR _ _ _ _ _ _ _ 351 [(5, .int z1), (4, .int i), (3, .ref 197), (2, .ref 181), (1, .ref 0), (0, .ref 1000000001)] [.int z2] h2 _ _
  refine AR.istore (ax_look_ok hk_285_351).1 (by decide +kernel) rfl ?_
  show AR _ _ _ _ _ _ _ 353 [(6, .int z2), (5, .int z1), (4, .int i), (3, .ref 197), (2, .ref 181), (1, .ref 0), (0, .ref 1000000001)] [] h2 _ _
  refine AR.goto (ax_look_ok hk_285_353).1 (tgt := 1335) (by decide) ?_
  show AR _ _ _ _ _ _ _ 1335 [(6, .int z2), (5, .int z1), (4, .int i), (3, .ref 197), (2, .ref 181), (1, .ref 0), (0, .ref 1000000001)] [] h2 _ _
  refine AR.lessL (lv' := [(4, .int i), (3, .ref 197), (2, .ref 181), (1, .ref 0), (0, .ref 1000000001)]) (List.forall_mem_cons.mpr ⟨⟨_, by simp, ax_le_rfl rfl⟩, (List.forall_mem_cons.mpr ⟨⟨_, by simp, ax_le_rfl rfl⟩, (List.forall_mem_cons.mpr ⟨⟨_, by simp, ax_le_rfl rfl⟩, (List.forall_mem_cons.mpr ⟨⟨_, by simp, ax_le_rfl rfl⟩, (List.forall_mem_cons.mpr ⟨⟨_, by simp, ax_le_rfl rfl⟩, (fun _ h => absurd h List.not_mem_nil)⟩)⟩)⟩)⟩)⟩) ?_
  exact AR.lt (by omega) (by omega) (k _ I2)
theorem lw_op4 (hlst : l.stackTraces = false) (G : ty_G hy_I l) (i0 : 0 ≤ i.toInt) (i1 : i.toInt + 6 ≤ L) (hL : L ≤ 3072) (I : lw_I h) (k : ∀ h', lw_I h' → AR ax_ns l (ax_mm 285) 13 (ax_r L xs) P X 1335 [(4, .int i), (3, .ref 197), (2, .ref 181), (1, .ref 0), (0, .ref 1000000001)] [] h' bc bs) : AR ax_ns l (ax_mm 285) 13 (ax_r L xs) P X 356 [(4, .int i), (3, .ref 197), (2, .ref 181), (1, .ref 0), (0, .ref 1000000001)] [] h (bc + 1177) (bs + 14024) := by
  obtain ⟨v0, c0⟩ := lt_c0 I.1
  obtain ⟨v1, e1⟩ := lw_tag I.1
  refine AR.aload_n (ax_look_ok hk_285_356).1 (x := .ref 0) rfl rfl ?_
  refine lw_callA (bc' := bc + 1000) (bs' := bs + 14000) (as := [.ref 0]) (rest := []) hk_285_357 (lw_hv (as := []) (by decide) (by decide +kernel) (by decide) c0 rfl rfl (by decide)) (lt_74 hlst I.1) (by decide) (by omega) (by omega) (fun E h' q => by obtain ⟨-, z, e, -⟩ := q; cases e) ?_
  rintro x1 h1 ⟨eh, z1, ex, A1⟩
  cases ex
  obtain rfl := eh.symm
  show AR _ _ _ _ _ _ _ 360 [(4, .int i), (3, .ref 197), (2, .ref 181), (1, .ref 0), (0, .ref 1000000001)] [.int z1] h _ _
  refine AR.aload_n (ax_look_ok hk_285_360).1 (x := .ref 181) rfl rfl ?_
  refine lw_callA (bc' := bc + 900) (bs' := bs + 13000) (as := [.ref 181]) (rest := [.int z1]) hk_285_361 (lw_hv (as := []) (by decide) (by decide +kernel) (by decide) e1 rfl rfl (Nat.le_of_ble_eq_true rfl)) (lr_160 hlst I.1 I.2.1) (by decide) (by omega) (by omega) (fun E h' q => by obtain ⟨-, -, -, -, z, e, -⟩ := q; cases e) ?_
  rintro x2 h2 ⟨F2, H2, j2, -, z2, ex, A2⟩
  cases ex
  have I2 : lw_I h2 := ⟨H2, j2, lw_keep F2 (by decide +kernel) I.2.2⟩
  obtain ⟨-, -, K2⟩ := I.2.2
  show AR _ _ _ _ _ _ _ 364 [(4, .int i), (3, .ref 197), (2, .ref 181), (1, .ref 0), (0, .ref 1000000001)] [.int z2, .int z1] h2 _ _
  refine AR.icmp_eq (ax_look_ok hk_285_364).1 (tgt := 1335) (by decide) (fun _ => ?_) (fun ne => absurd (Int32.toInt_inj.mp (by omega)) ne)
  show AR _ _ _ _ _ _ _ 1335 [(4, .int i), (3, .ref 197), (2, .ref 181), (1, .ref 0), (0, .ref 1000000001)] [] h2 _ _
  refine AR.lessL (lv' := [(4, .int i), (3, .ref 197), (2, .ref 181), (1, .ref 0), (0, .ref 1000000001)]) (List.forall_mem_cons.mpr ⟨⟨_, by simp, ax_le_rfl rfl⟩, (List.forall_mem_cons.mpr ⟨⟨_, by simp, ax_le_rfl rfl⟩, (List.forall_mem_cons.mpr ⟨⟨_, by simp, ax_le_rfl rfl⟩, (List.forall_mem_cons.mpr ⟨⟨_, by simp, ax_le_rfl rfl⟩, (List.forall_mem_cons.mpr ⟨⟨_, by simp, ax_le_rfl rfl⟩, (fun _ h => absurd h List.not_mem_nil)⟩)⟩)⟩)⟩)⟩) ?_
  exact AR.lt (by omega) (by omega) (k _ I2)
end LWQ
