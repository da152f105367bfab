/-! THE LAW, 5: the operations with an eye on what is compared -/

section LWQ
variable {l : Launch} {xs : Nat → Int32} {L : Nat} {P : ax_P} {X : ax_PX} {h : ax_H} {bc bs : Nat} {i : Int32}
/-- the error of the reference -/
theorem lw_131 (hlst : l.stackTraces = false) (hH : hy_H 0 h) : AM ax_ns l (ax_mm 131) 0 ty_R 0 0 [.ref 181] h (hq_int h (hy_z h 181 0)) := by
  refine AM.of (ax_mfacts (by decide +kernel : ax_has 131 = true)).2.2.2.2.2.2 hlst (by rw [hn_131]; exact Nat.le_of_ble_eq_true rfl) ?_
  show AR ax_ns l (ax_mm 131) 0 ty_R _ _ 0 [(0, .ref 181)] [] h 0 0
  refine AR.s (pc' := 1) (lv' := [(0, .ref 181)]) (st' := [.ref 181]) (h' := h) _ hn_131 hk_131_0 rfl ?_
  refine AR.gI hk_131_1 (by decide) hH (q := 181) (n := 32) (by decide) (by decide +kernel) (by decide +kernel) (by decide) hy_t181_0 (fun x1 dx1 lx1 ux1 => ?_)
  show AR _ _ _ _ _ _ _ 4 [(0, .ref 181)] [.int x1] h _ _
  exact AR.iret hk_131_4 hr_131 ⟨rfl, _, rfl, (hy_zi dx1).symm⟩
def lw_er (q j : Nat) (e : ty_E) : Bool := lw_ek 0 e && (Nat.beq (ty_lk e.2 q j).1 0 && (decide (0 ≤ (ty_lk e.2 q j).2.2.2.1) && decide ((ty_lk e.2 q j).2.2.2.2 ≤ 0)))
theorem lw_zx {ct : ty_Ct} {q j W : Nat} {h' : ax_H} {E : String} (he : ct.2.2.2.2.2.2.2.all (lw_er q j) = true) (Q : ty_Q hy_I 0 W ct.2.2.2.2.2.2.2 h (.inr E) h') : False := by
  obtain ⟨-, -, e, hm, rr, -⟩ := Q
  have h1 := (Bool.and_eq_true_iff.mp (List.all_eq_true.mp he e hm)).1
  obtain ⟨e1, e2⟩ := e
  match e1, h1, rr with
  | .inl (some t), _, rr => exact rr.elim
theorem lw_zero {ct : ty_Ct} {q j n W : Nat} {h' : ax_H} {x : Option Value} (he : ct.2.2.2.2.2.2.2.all (lw_er q j) = true) (hq : q < 198) (hn : (ty_tab q).2.1 = n) (hj : j < n) (Q : ty_Q hy_I 0 W ct.2.2.2.2.2.2.2 h (.inl x) h') : hy_H 0 h' ∧ hy_z h' q j = 0 ∧ ∃ z : Int32, x = some (.int z) := by
  obtain ⟨-, -, e, hm, rr, He⟩ := Q
  obtain ⟨h1, h2⟩ := Bool.and_eq_true_iff.mp (List.all_eq_true.mp he e hm)
  obtain ⟨h3, h4⟩ := Bool.and_eq_true_iff.mp h2
  obtain ⟨h5, h6⟩ := Bool.and_eq_true_iff.mp h4
  have r := hg_row He hq hn hj rfl (Nat.eq_of_beq_eq_true h3) (Or.inl rfl)
  have h5 := of_decide_eq_true h5
  have h6 := of_decide_eq_true h6
  obtain ⟨e1, e2⟩ := e
  match e1, x, h1, rr with
  | .inl (some t), some y, h1, rr =>
    obtain ⟨kk, n', f, a, z⟩ := t
    obtain ⟨h7, h8⟩ := Bool.and_eq_true_iff.mp h1
    have h9 : kk = 0 := Nat.eq_of_beq_eq_true h7
    subst h9
    obtain ⟨z, rfl, -⟩ := rr
    exact ⟨He.weak h8, Int.le_antisymm (Int.le_trans r.2 h6) (Int.le_trans h5 r.1), z, rfl⟩
  | .inl (some t), none, _, rr => exact rr.elim
theorem lw_tag (hH : hy_H 0 h) : ∃ vs, h[181]? = some (9, vs) := by
  obtain ⟨vs, e1, -⟩ := hy_cell hH (q := 181) (by decide)
  rw [show (ty_tab 181).1 = 9 from by decide +kernel] at e1
  exact ⟨vs, e1⟩
theorem lw_op0 (hlst : l.stackTraces = false) (G : ty_G hy_I l) (i0 : 0 ≤ i.toInt) (i1 : i.toInt + 6 ≤ L) (hL : L ≤ 3072) (I : lw_I h) (k : ∀ h', lw_I h' → AR ax_ns l (ax_mm 285) 13 (ax_r L xs) P X 1363 [(4, .int i), (3, .ref 197), (2, .ref 181), (1, .ref 0), (0, .ref 1000000001)] [] h' bc bs) : AR ax_ns l (ax_mm 285) 13 (ax_r L xs) P X 220 [(4, .int i), (3, .ref 197), (2, .ref 181), (1, .ref 0), (0, .ref 1000000001)] [] h (bc + 1177) (bs + 14024) := by
  obtain ⟨y1, hy1⟩ : ∃ y : Int32, y = xs (i + Int32.ofInt 1).toNatClampNeg := ⟨_, rfl⟩
  obtain ⟨y2, hy2⟩ : ∃ y : Int32, y = xs (i + Int32.ofInt 2).toNatClampNeg := ⟨_, rfl⟩
  obtain ⟨y3, hy3⟩ : ∃ y : Int32, y = xs (i + Int32.ofInt 3).toNatClampNeg := ⟨_, rfl⟩
  obtain ⟨y4, hy4⟩ : ∃ y : Int32, y = xs (i + Int32.ofInt 4).toNatClampNeg := ⟨_, rfl⟩
  obtain ⟨y5, hy5⟩ : ∃ y : Int32, y = xs (i + Int32.ofInt 5).toNatClampNeg := ⟨_, rfl⟩
  refine AR.aload_n (ax_look_ok hk_285_220).1 (x := .ref 0) rfl rfl ?_
  refine lw_scx hk_285_221 hk_285_222 hk_285_224 hk_285_225 hk_285_226 rfl rfl (by decide) (by decide) (by decide) i0 i1 hL hy1 ?_
  show AR _ _ _ _ _ _ _ 227 [(4, .int i), (3, .ref 197), (2, .ref 181), (1, .ref 0), (0, .ref 1000000001)] [.int y1, .ref 0] h _ _
  refine lw_scx hk_285_227 hk_285_228 hk_285_230 hk_285_231 hk_285_232 rfl rfl (by decide) (by decide) (by decide) i0 i1 hL hy2 ?_
  show AR _ _ _ _ _ _ _ 233 [(4, .int i), (3, .ref 197), (2, .ref 181), (1, .ref 0), (0, .ref 1000000001)] [.int y2, .int y1, .ref 0] h _ _
  refine lw_scx hk_285_233 hk_285_234 hk_285_236 hk_285_237 hk_285_238 rfl rfl (by decide) (by decide) (by decide) i0 i1 hL hy3 ?_
  show AR _ _ _ _ _ _ _ 239 [(4, .int i), (3, .ref 197), (2, .ref 181), (1, .ref 0), (0, .ref 1000000001)] [.int y3, .int y2, .int y1, .ref 0] h _ _
  refine lw_scx hk_285_239 hk_285_240 hk_285_242 hk_285_243 hk_285_244 rfl rfl (by decide) (by decide) (by decide) i0 i1 hL hy4 ?_
  show AR _ _ _ _ _ _ _ 245 [(4, .int i), (3, .ref 197), (2, .ref 181), (1, .ref 0), (0, .ref 1000000001)] [.int y4, .int y3, .int y2, .int y1, .ref 0] h _ _
  refine lw_scx hk_285_245 hk_285_246 hk_285_248 hk_285_249 hk_285_250 rfl rfl (by decide) (by decide) (by decide) i0 i1 hL hy5 ?_
  show AR _ _ _ _ _ _ _ 251 [(4, .int i), (3, .ref 197), (2, .ref 181), (1, .ref 0), (0, .ref 1000000001)] [.int y5, .int y4, .int y3, .int y2, .int y1, .ref 0] h _ _
  refine AR.aload_n (ax_look_ok hk_285_251).1 (x := .ref 197) rfl rfl ?_
  refine lw_callA (bc' := bc + 1000) (bs' := bs + 14000) (as := [.ref 0, .int y1, .int y2, .int y3, .int y4, .int y5, .ref 197]) (rest := []) hk_285_252 (lw_hs (by decide +kernel) rfl rfl (by decide)) (lp_219 hlst I.1 I.2.1) (by decide) (by omega) (by omega) (fun E h' q => by obtain ⟨-, -, -, z, e, -⟩ := q; cases e) ?_
  rintro x1 h1 ⟨H1, F1, j1, z1, ex, A1⟩
  cases ex
  show AR _ _ _ _ _ _ _ 255 [(4, .int i), (3, .ref 197), (2, .ref 181), (1, .ref 0), (0, .ref 1000000001)] [.int z1] h1 _ _
  refine AR.istore (ax_look_ok hk_285_255).1 (by decide +kernel) rfl ?_
  show AR _ _ _ _ _ _ _ 257 [(5, .int z1), (4, .int i), (3, .ref 197), (2, .ref 181), (1, .ref 0), (0, .ref 1000000001)] [] h1 _ _
  refine AR.aload_n (ax_look_ok hk_285_257).1 (x := .ref 181) rfl rfl ?_
  refine lw_scx hk_285_258 hk_285_259 hk_285_261 hk_285_262 hk_285_263 rfl rfl (by decide) (by decide) (by decide) i0 i1 hL hy1 ?_
  show AR _ _ _ _ _ _ _ 264 [(5, .int z1), (4, .int i), (3, .ref 197), (2, .ref 181), (1, .ref 0), (0, .ref 1000000001)] [.int y1, .ref 181] h1 _ _
  refine lw_scx hk_285_264 hk_285_265 hk_285_267 hk_285_268 hk_285_269 rfl rfl (by decide) (by decide) (by decide) i0 i1 hL hy2 ?_
  show AR _ _ _ _ _ _ _ 270 [(5, .int z1), (4, .int i), (3, .ref 197), (2, .ref 181), (1, .ref 0), (0, .ref 1000000001)] [.int y2, .int y1, .ref 181] h1 _ _
  refine lw_scx hk_285_270 hk_285_271 hk_285_273 hk_285_274 hk_285_275 rfl rfl (by decide) (by decide) (by decide) i0 i1 hL hy3 ?_
  show AR _ _ _ _ _ _ _ 276 [(5, .int z1), (4, .int i), (3, .ref 197), (2, .ref 181), (1, .ref 0), (0, .ref 1000000001)] [.int y3, .int y2, .int y1, .ref 181] h1 _ _
  refine lw_scx hk_285_276 hk_285_277 hk_285_279 hk_285_280 hk_285_281 rfl rfl (by decide) (by decide) (by decide) i0 i1 hL hy4 ?_
  show AR _ _ _ _ _ _ _ 282 [(5, .int z1), (4, .int i), (3, .ref 197), (2, .ref 181), (1, .ref 0), (0, .ref 1000000001)] [.int y4, .int y3, .int y2, .int y1, .ref 181] h1 _ _
  refine lw_scx hk_285_282 hk_285_283 hk_285_285 hk_285_286 hk_285_287 rfl rfl (by decide) (by decide) (by decide) i0 i1 hL hy5 ?_
  show AR _ _ _ _ _ _ _ 288 [(5, .int z1), (4, .int i), (3, .ref 197), (2, .ref 181), (1, .ref 0), (0, .ref 1000000001)] [.int y5, .int y4, .int y3, .int y2, .int y1, .ref 181] h1 _ _
  obtain ⟨v1, e1⟩ := lw_tag H1
  refine lw_callA (bc' := bc + 900) (bs' := bs + 13000) (as := [.ref 181, .int y1, .int y2, .int y3, .int y4, .int y5]) (rest := []) hk_285_288 (lw_hv (as := [.int y1, .int y2, .int y3, .int y4, .int y5]) (by decide) (by decide +kernel) (by decide) e1 rfl rfl (by decide)) (lp_143 hlst H1 j1) (by decide) (by omega) (by omega) (fun E h' q => by obtain ⟨-, -, -, z, e, -⟩ := q; cases e) ?_
  rintro x2 h2 ⟨H2, F2, j2, z2, ex, A2⟩
  cases ex
  have r0 : hy_z h1 181 7 = hy_z h 181 7 := hy_zF F1 7 (by decide) (by decide +kernel) (by decide +kernel)
  have r1 : hy_z h2 1 1 = hy_z h1 1 1 := hy_zF F2 1 (by decide) (by decide +kernel) (by decide +kernel)
  have r2 : hy_z h2 197 0 = hy_z h1 197 0 := hy_zF F2 0 (by decide) (by decide +kernel) (by decide +kernel)
  have I0 : hy_z h 1 1 = hy_z h 181 7 := I.2.2
  have J2 : lw_J h2 := by show hy_z h2 1 1 = hy_z h2 181 7; omega
  have E1 : z1.toInt = hy_z h2 181 0 := by omega
  have E2 : z1.toInt = 0 → hy_z h2 197 0 = z2.toInt := by intro e; omega
  have I2 : lw_I h2 := ⟨H2, j2, J2⟩
  show AR _ _ _ _ _ _ _ 291 [(5, .int z1), (4, .int i), (3, .ref 197), (2, .ref 181), (1, .ref 0), (0, .ref 1000000001)] [.int z2] h2 _ _
  refine AR.istore (ax_look_ok hk_285_291).1 (by decide +kernel) rfl ?_
  show AR _ _ _ _ _ _ _ 293 [(6, .int z2), (5, .int z1), (4, .int i), (3, .ref 197), (2, .ref 181), (1, .ref 0), (0, .ref 1000000001)] [] h2 _ _
  refine AR.goto (ax_look_ok hk_285_293).1 (tgt := 1363) (by decide) ?_
  show AR _ _ _ _ _ _ _ 1363 [(6, .int z2), (5, .int z1), (4, .int i), (3, .ref 197), (2, .ref 181), (1, .ref 0), (0, .ref 1000000001)] [] h2 _ _
  refine AR.lessL (lv' := [(4, .int i), (3, .ref 197), (2, .ref 181), (1, .ref 0), (0, .ref 1000000001)]) (List.forall_mem_cons.mpr ⟨⟨_, by simp, ax_le_rfl rfl⟩, (List.forall_mem_cons.mpr ⟨⟨_, by simp, ax_le_rfl rfl⟩, (List.forall_mem_cons.mpr ⟨⟨_, by simp, ax_le_rfl rfl⟩, (List.forall_mem_cons.mpr ⟨⟨_, by simp, ax_le_rfl rfl⟩, (List.forall_mem_cons.mpr ⟨⟨_, by simp, ax_le_rfl rfl⟩, (fun _ h => absurd h List.not_mem_nil)⟩)⟩)⟩)⟩)⟩) ?_
  exact AR.lt (by omega) (by omega) (k _ I2)
theorem lw_op1 (hlst : l.stackTraces = false) (G : ty_G hy_I l) (i0 : 0 ≤ i.toInt) (i1 : i.toInt + 6 ≤ L) (hL : L ≤ 3072) (I : lw_I h) (k : ∀ h', lw_I h' → AR ax_ns l (ax_mm 285) 13 (ax_r L xs) P X 1363 [(4, .int i), (3, .ref 197), (2, .ref 181), (1, .ref 0), (0, .ref 1000000001)] [] h' bc bs) : AR ax_ns l (ax_mm 285) 13 (ax_r L xs) P X 296 [(4, .int i), (3, .ref 197), (2, .ref 181), (1, .ref 0), (0, .ref 1000000001)] [] h (bc + 1177) (bs + 14024) := by
  obtain ⟨y1, hy1⟩ : ∃ y : Int32, y = xs (i + Int32.ofInt 1).toNatClampNeg := ⟨_, rfl⟩
  refine AR.aload_n (ax_look_ok hk_285_296).1 (x := .ref 0) rfl rfl ?_
  refine lw_scx hk_285_297 hk_285_298 hk_285_300 hk_285_301 hk_285_302 rfl rfl (by decide) (by decide) (by decide) i0 i1 hL hy1 ?_
  show AR _ _ _ _ _ _ _ 303 [(4, .int i), (3, .ref 197), (2, .ref 181), (1, .ref 0), (0, .ref 1000000001)] [.int y1, .ref 0] h _ _
  refine AR.aload_n (ax_look_ok hk_285_303).1 (x := .ref 197) rfl rfl ?_
  refine lw_callA (bc' := bc + 1000) (bs' := bs + 14000) (as := [.ref 0, .int y1, .ref 197]) (rest := []) hk_285_304 (lw_hs (by decide +kernel) rfl rfl (by decide)) (lp_220 hlst I.1 I.2.1) (by decide) (by omega) (by omega) (fun E h' q => by obtain ⟨-, -, -, z, e, -⟩ := q; cases e) ?_
  rintro x1 h1 ⟨H1, F1, j1, z1, ex, A1⟩
  cases ex
  show AR _ _ _ _ _ _ _ 307 [(4, .int i), (3, .ref 197), (2, .ref 181), (1, .ref 0), (0, .ref 1000000001)] [.int z1] h1 _ _
  refine AR.istore (ax_look_ok hk_285_307).1 (by decide +kernel) rfl ?_
  show AR _ _ _ _ _ _ _ 309 [(5, .int z1), (4, .int i), (3, .ref 197), (2, .ref 181), (1, .ref 0), (0, .ref 1000000001)] [] h1 _ _
  refine AR.aload_n (ax_look_ok hk_285_309).1 (x := .ref 181) rfl rfl ?_
  refine lw_scx hk_285_310 hk_285_311 hk_285_313 hk_285_314 hk_285_315 rfl rfl (by decide) (by decide) (by decide) i0 i1 hL hy1 ?_
  show AR _ _ _ _ _ _ _ 316 [(5, .int z1), (4, .int i), (3, .ref 197), (2, .ref 181), (1, .ref 0), (0, .ref 1000000001)] [.int y1, .ref 181] h1 _ _
  obtain ⟨v1, e1⟩ := lw_tag H1
  refine lw_callA (bc' := bc + 900) (bs' := bs + 13000) (as := [.ref 181, .int y1]) (rest := []) hk_285_316 (lw_hv (as := [.int y1]) (by decide) (by decide +kernel) (by decide) e1 rfl rfl (by decide)) (lp_144 hlst H1 j1) (by decide) (by omega) (by omega) (fun E h' q => by obtain ⟨-, -, -, z, e, -⟩ := q; cases e) ?_
  rintro x2 h2 ⟨H2, F2, j2, z2, ex, A2⟩
  cases ex
  have r0 : hy_z h1 181 7 = hy_z h 181 7 := hy_zF F1 7 (by decide) (by decide +kernel) (by decide +kernel)
  have r1 : hy_z h2 1 1 = hy_z h1 1 1 := hy_zF F2 1 (by decide) (by decide +kernel) (by decide +kernel)
  have r2 : hy_z h2 197 0 = hy_z h1 197 0 := hy_zF F2 0 (by decide) (by decide +kernel) (by decide +kernel)
  have I0 : hy_z h 1 1 = hy_z h 181 7 := I.2.2
  have J2 : lw_J h2 := by show hy_z h2 1 1 = hy_z h2 181 7; omega
  have E1 : z1.toInt = hy_z h2 181 0 := by omega
  have E2 : z1.toInt = 0 → hy_z h2 197 0 = z2.toInt := by intro e; omega
  have I2 : lw_I h2 := ⟨H2, j2, J2⟩
  show AR _ _ _ _ _ _ _ 319 [(5, .int z1), (4, .int i), (3, .ref 197), (2, .ref 181), (1, .ref 0), (0, .ref 1000000001)] [.int z2] h2 _ _
  refine AR.istore (ax_look_ok hk_285_319).1 (by decide +kernel) rfl ?_
  show AR _ _ _ _ _ _ _ 321 [(6, .int z2), (5, .int z1), (4, .int i), (3, .ref 197), (2, .ref 181), (1, .ref 0), (0, .ref 1000000001)] [] h2 _ _
  refine AR.aload_n (ax_look_ok hk_285_321).1 (x := .ref 181) rfl rfl ?_
  obtain ⟨v2, e2⟩ := lw_tag H2
  refine lw_callA (bc' := bc + 900) (bs' := bs + 13000) (as := [.ref 181]) (rest := []) hk_285_322 (lw_hv (as := []) (by decide) (by decide +kernel) (by decide) e2 rfl rfl (by decide)) (lw_131 hlst H2) (by omega) (by omega) (by omega) (fun E h' q => by obtain ⟨-, z, e, -⟩ := q; cases e) ?_
  rintro x3 h3 ⟨eh, z3, ex, A4⟩
  cases ex
  obtain rfl := eh.symm
  show AR _ _ _ _ _ _ _ 325 [(6, .int z2), (5, .int z1), (4, .int i), (3, .ref 197), (2, .ref 181), (1, .ref 0), (0, .ref 1000000001)] [.int z3] h2 _ _
  refine AR.iload (ax_look_ok hk_285_325).1 (x := .int z1) rfl rfl ?_
  refine AR.icmp_eq (ax_look_ok hk_285_327).1 (tgt := 332) (by decide) (fun _ => ?_) (fun ne => absurd (Int32.toInt_inj.mp (by omega)) ne)
  refine AR.iload (ax_look_ok hk_285_332).1 (x := .int z1) rfl rfl ?_
  have K : AR ax_ns l (ax_mm 285) 13 (ax_r L xs) P X 349 [(6, .int z2), (5, .int z1), (4, .int i), (3, .ref 197), (2, .ref 181), (1, .ref 0), (0, .ref 1000000001)] [] h2 (bc + 900) (bs + 13000) := by
    refine AR.goto (ax_look_ok hk_285_349).1 (tgt := 1363) (by decide) ?_
    show AR _ _ _ _ _ _ _ 1363 [(6, .int z2), (5, .int z1), (4, .int i), (3, .ref 197), (2, .ref 181), (1, .ref 0), (0, .ref 1000000001)] [] h2 _ _
    refine AR.lessL (lv' := [(4, .int i), (3, .ref 197), (2, .ref 181), (1, .ref 0), (0, .ref 1000000001)]) (List.forall_mem_cons.mpr ⟨⟨_, by simp, ax_le_rfl rfl⟩, (List.forall_mem_cons.mpr ⟨⟨_, by simp, ax_le_rfl rfl⟩, (List.forall_mem_cons.mpr ⟨⟨_, by simp, ax_le_rfl rfl⟩, (List.forall_mem_cons.mpr ⟨⟨_, by simp, ax_le_rfl rfl⟩, (List.forall_mem_cons.mpr ⟨⟨_, by simp, ax_le_rfl rfl⟩, (fun _ h => absurd h List.not_mem_nil)⟩)⟩)⟩)⟩)⟩) ?_
    exact AR.lt (by omega) (by omega) (k _ I2)
  refine AR.if_ne (ax_look_ok hk_285_334).1 (tgt := 349) (by decide) (fun _ => K) (fun z0 => ?_)
  have z00 : z1.toInt = 0 := by rw [z0]; rfl
  have E3 := E2 z00
  refine AR.aload_n (ax_look_ok hk_285_337).1 (x := .ref 197) rfl rfl ?_
  refine AR.iconst (ax_look_ok hk_285_338).1 ?_
  obtain ⟨x9, vs9, f1, f2, f3, f4, f5⟩ := hy_at H2 (q := 197) (n := 1) (j := 0) (by decide) (by decide +kernel) (by decide)
  rw [hy_t197_0] at f5
  obtain ⟨o9, rfl, -⟩ := f5
  rw [show (ty_tab 197).1 = 101 from by decide +kernel] at f1
  have o10 := hy_zl f4
  refine AR.laload (ax_look_ok hk_285_339).1 (vs := vs9) (x := .long o9) (by rw [ax_get_lt (by decide)]; exact f1) (by decide) f3 ?_
  refine AR.iload (ax_look_ok hk_285_340).1 (x := .int z2) rfl rfl ?_
  refine AR.i2l (z := .long z2.toInt64) (ax_look_ok hk_285_342).1 rfl ?_
  have oe : o9 = z2.toInt64 := Int64.toInt_inj.mp (by rw [Int32.toInt_toInt64]; omega)
  subst oe
  obtain ⟨-, c2, -⟩ := @ty_cmp z2.toInt64 z2.toInt64
  refine AR.lcmp (ax_look_ok hk_285_343).1 rfl ?_
  rw [c2 rfl]
  exact AR.if_eq (ax_look_ok hk_285_344).1 (tgt := 349) (by decide) (fun _ => K) (fun ne => absurd rfl ne)
theorem lw_op2 (hlst : l.stackTraces = false) (G : ty_G hy_I l) (i0 : 0 ≤ i.toInt) (i1 : i.toInt + 6 ≤ L) (hL : L ≤ 3072) (I : lw_I h) (k : ∀ h', lw_I h' → AR ax_ns l (ax_mm 285) 13 (ax_r L xs) P X 1363 [(4, .int i), (3, .ref 197), (2, .ref 181), (1, .ref 0), (0, .ref 1000000001)] [] h' bc bs) : AR ax_ns l (ax_mm 285) 13 (ax_r L xs) P X 352 [(4, .int i), (3, .ref 197), (2, .ref 181), (1, .ref 0), (0, .ref 1000000001)] [] h (bc + 1177) (bs + 14024) := by
  refine AR.aload_n (ax_look_ok hk_285_352).1 (x := .ref 0) rfl rfl ?_
  refine AR.aload_n (ax_look_ok hk_285_353).1 (x := .ref 197) rfl rfl ?_
  refine lw_callA (bc' := bc + 1000) (bs' := bs + 13000) (as := [.ref 0, .ref 197]) (rest := []) hk_285_354 (lw_hs (by decide +kernel) rfl rfl (by decide)) (tk_66_ok G 0 _ _ ⟨_, _, rfl, rfl, _, _, rfl, rfl, rfl⟩ I.1 I.2.1) (by decide) (by show _ + 1 ≤ _; omega) (by show _ + 6 ≤ _; omega) (fun E h' q => ?_) ?_
  · exact lw_zx (q := 1) (j := 1) (ct := tk_66) (by decide +kernel) q
  rintro x1 h1 Q1
  obtain ⟨H1, R1, z1, rfl⟩ := lw_zero (q := 1) (j := 1) (ct := tk_66) (by decide +kernel) (by decide) rfl (by decide +kernel) Q1
  obtain ⟨F1, i1, -⟩ := Q1
  show AR _ _ _ _ _ _ _ 357 [(4, .int i), (3, .ref 197), (2, .ref 181), (1, .ref 0), (0, .ref 1000000001)] [.int z1] h1 _ _
  refine AR.istore (ax_look_ok hk_285_357).1 (by decide +kernel) rfl ?_
  show AR _ _ _ _ _ _ _ 359 [(5, .int z1), (4, .int i), (3, .ref 197), (2, .ref 181), (1, .ref 0), (0, .ref 1000000001)] [] h1 _ _
  refine AR.aload_n (ax_look_ok hk_285_359).1 (x := .ref 181) rfl rfl ?_
  obtain ⟨v1, e1⟩ := lw_tag H1
  refine lw_callA (bc' := bc + 1000) (bs' := bs + 13000) (as := [.ref 181]) (rest := []) hk_285_360 (lw_hv (as := []) (by decide) (by decide +kernel) (by decide) e1 rfl rfl (by decide)) (tk_441_ok G 0 _ _ ⟨_, _, rfl, rfl, rfl⟩ H1 i1) (by decide) (by show _ + 0 ≤ _; omega) (by show _ + 0 ≤ _; omega) (fun E h' q => ?_) ?_
  · exact lw_zx (q := 181) (j := 7) (ct := tk_441) (by decide +kernel) q
  rintro x2 h2 Q2
  obtain ⟨H2, R2, z2, rfl⟩ := lw_zero (q := 181) (j := 7) (ct := tk_441) (by decide +kernel) (by decide) rfl (by decide +kernel) Q2
  obtain ⟨F2, i2, -⟩ := Q2
  show AR _ _ _ _ _ _ _ 363 [(5, .int z1), (4, .int i), (3, .ref 197), (2, .ref 181), (1, .ref 0), (0, .ref 1000000001)] [.int z2] h2 _ _
  have r1 : hy_z h2 1 1 = hy_z h1 1 1 := hy_zF F2 1 (by decide) (by decide +kernel) (by decide +kernel)
  have J2 : lw_J h2 := by show hy_z h2 1 1 = hy_z h2 181 7; omega
  have I2 : lw_I h2 := ⟨H2, i2, J2⟩
  refine AR.istore (ax_look_ok hk_285_363).1 (by decide +kernel) rfl ?_
  show AR _ _ _ _ _ _ _ 365 [(6, .int z2), (5, .int z1), (4, .int i), (3, .ref 197), (2, .ref 181), (1, .ref 0), (0, .ref 1000000001)] [] h2 _ _
  refine AR.goto (ax_look_ok hk_285_365).1 (tgt := 1363) (by decide) ?_
  show AR _ _ _ _ _ _ _ 1363 [(6, .int z2), (5, .int z1), (4, .int i), (3, .ref 197), (2, .ref 181), (1, .ref 0), (0, .ref 1000000001)] [] h2 _ _
  refine AR.lessL (lv' := [(4, .int i), (3, .ref 197), (2, .ref 181), (1, .ref 0), (0, .ref 1000000001)]) (List.forall_mem_cons.mpr ⟨⟨_, by simp, ax_le_rfl rfl⟩, (List.forall_mem_cons.mpr ⟨⟨_, by simp, ax_le_rfl rfl⟩, (List.forall_mem_cons.mpr ⟨⟨_, by simp, ax_le_rfl rfl⟩, (List.forall_mem_cons.mpr ⟨⟨_, by simp, ax_le_rfl rfl⟩, (List.forall_mem_cons.mpr ⟨⟨_, by simp, ax_le_rfl rfl⟩, (fun _ h => absurd h List.not_mem_nil)⟩)⟩)⟩)⟩)⟩) ?_
  exact AR.lt (by omega) (by omega) (k _ I2)
theorem lw_op3 (hlst : l.stackTraces = false) (G : ty_G hy_I l) (i0 : 0 ≤ i.toInt) (i1 : i.toInt + 6 ≤ L) (hL : L ≤ 3072) (I : lw_I h) (k : ∀ h', lw_I h' → AR ax_ns l (ax_mm 285) 13 (ax_r L xs) P X 1363 [(4, .int i), (3, .ref 197), (2, .ref 181), (1, .ref 0), (0, .ref 1000000001)] [] h' bc bs) : AR ax_ns l (ax_mm 285) 13 (ax_r L xs) P X 368 [(4, .int i), (3, .ref 197), (2, .ref 181), (1, .ref 0), (0, .ref 1000000001)] [] h (bc + 1177) (bs + 14024) := by
  refine AR.aload_n (ax_look_ok hk_285_368).1 (x := .ref 0) rfl rfl ?_
  refine AR.aload_n (ax_look_ok hk_285_369).1 (x := .ref 197) rfl rfl ?_
  refine lw_callA (bc' := bc + 1000) (bs' := bs + 13000) (as := [.ref 0, .ref 197]) (rest := []) hk_285_370 (lw_hs (by decide +kernel) rfl rfl (by decide)) (tk_74_ok G 0 _ _ ⟨_, _, rfl, rfl, _, _, rfl, rfl, rfl⟩ I.1 I.2.1) (by decide) (by show _ + 1 ≤ _; omega) (by show _ + 6 ≤ _; omega) (fun E h' q => ?_) ?_
  · exact lw_zx (q := 1) (j := 1) (ct := tk_74) (by decide +kernel) q
  rintro x1 h1 Q1
  obtain ⟨H1, R1, z1, rfl⟩ := lw_zero (q := 1) (j := 1) (ct := tk_74) (by decide +kernel) (by decide) rfl (by decide +kernel) Q1
  obtain ⟨F1, i1, -⟩ := Q1
  show AR _ _ _ _ _ _ _ 373 [(4, .int i), (3, .ref 197), (2, .ref 181), (1, .ref 0), (0, .ref 1000000001)] [.int z1] h1 _ _
  refine AR.istore (ax_look_ok hk_285_373).1 (by decide +kernel) rfl ?_
  show AR _ _ _ _ _ _ _ 375 [(5, .int z1), (4, .int i), (3, .ref 197), (2, .ref 181), (1, .ref 0), (0, .ref 1000000001)] [] h1 _ _
  refine AR.aload_n (ax_look_ok hk_285_375).1 (x := .ref 181) rfl rfl ?_
  obtain ⟨v1, e1⟩ := lw_tag H1
  refine lw_callA (bc' := bc + 1000) (bs' := bs + 13000) (as := [.ref 181]) (rest := []) hk_285_376 (lw_hv (as := []) (by decide) (by decide +kernel) (by decide) e1 rfl rfl (by decide)) (tk_449_ok G 0 _ _ ⟨_, _, rfl, rfl, rfl⟩ H1 i1) (by decide) (by show _ + 0 ≤ _; omega) (by show _ + 0 ≤ _; omega) (fun E h' q => ?_) ?_
  · exact lw_zx (q := 181) (j := 7) (ct := tk_449) (by decide +kernel) q
  rintro x2 h2 Q2
  obtain ⟨H2, R2, z2, rfl⟩ := lw_zero (q := 181) (j := 7) (ct := tk_449) (by decide +kernel) (by decide) rfl (by decide +kernel) Q2
  obtain ⟨F2, i2, -⟩ := Q2
  show AR _ _ _ _ _ _ _ 379 [(5, .int z1), (4, .int i), (3, .ref 197), (2, .ref 181), (1, .ref 0), (0, .ref 1000000001)] [.int z2] h2 _ _
  have r1 : hy_z h2 1 1 = hy_z h1 1 1 := hy_zF F2 1 (by decide) (by decide +kernel) (by decide +kernel)
  have J2 : lw_J h2 := by show hy_z h2 1 1 = hy_z h2 181 7; omega
  have I2 : lw_I h2 := ⟨H2, i2, J2⟩
  refine AR.istore (ax_look_ok hk_285_379).1 (by decide +kernel) rfl ?_
  show AR _ _ _ _ _ _ _ 381 [(6, .int z2), (5, .int z1), (4, .int i), (3, .ref 197), (2, .ref 181), (1, .ref 0), (0, .ref 1000000001)] [] h2 _ _
  refine AR.goto (ax_look_ok hk_285_381).1 (tgt := 1363) (by decide) ?_
  show AR _ _ _ _ _ _ _ 1363 [(6, .int z2), (5, .int z1), (4, .int i), (3, .ref 197), (2, .ref 181), (1, .ref 0), (0, .ref 1000000001)] [] h2 _ _
  refine AR.lessL (lv' := [(4, .int i), (3, .ref 197), (2, .ref 181), (1, .ref 0), (0, .ref 1000000001)]) (List.forall_mem_cons.mpr ⟨⟨_, by simp, ax_le_rfl rfl⟩, (List.forall_mem_cons.mpr ⟨⟨_, by simp, ax_le_rfl rfl⟩, (List.forall_mem_cons.mpr ⟨⟨_, by simp, ax_le_rfl rfl⟩, (List.forall_mem_cons.mpr ⟨⟨_, by simp, ax_le_rfl rfl⟩, (List.forall_mem_cons.mpr ⟨⟨_, by simp, ax_le_rfl rfl⟩, (fun _ h => absurd h List.not_mem_nil)⟩)⟩)⟩)⟩)⟩) ?_
  exact AR.lt (by omega) (by omega) (k _ I2)
end LWQ
