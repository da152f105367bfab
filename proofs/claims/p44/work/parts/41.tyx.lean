/-! THE TYPED MACHINE, 10: Math, comparisons, and one step of any kind -/
section TYM
variable {I : ax_H → Prop} {W : Nat} {K : Int} {ρ : Nat → Int} {N : Nat} {ov : ty_O} {h : ax_H} {lv : List (Nat × ty_V)} {lvx : List (Nat × Value)} {st : List ty_V} {stx : List Value} {nL pc a b c : Nat} {v : Value} {k : ty_C}
/-- a whole array of a group, written anew with things of the same kind -/
theorem ty_H.setG {g q tag : Nat} {vs us : List Value} (hH : ty_H K ρ N ov h) (hm : ax_gm g q = true) (hg : g < 6) (ha : ty_ar q = true) (hq : h[q]? = some (tag, us)) (hl : vs.length = us.length) (hv : ∀ x ∈ vs, ty_r ρ N h (ty_tt q 0) x) : ty_H K ρ N (ov.filter (fun e => !(ax_gm g e.1))) (h.set q (tag, vs)) := by
  obtain ⟨h1, h2, h3⟩ := hH
  have hq198 := ty_gm_lt hm
  have hL := ty_Lo_set (h := h) (c := (tag, vs)) hq198
  have gno : ∀ z, z = 181 ∨ z = 185 → z ≠ q := by
    intro z hz e
    subst e
    have : ax_gm g 181 = false ∧ ax_gm g 185 = false := by
      rcases (by omega : g = 0 ∨ g = 1 ∨ g = 2 ∨ g = 3 ∨ g = 4 ∨ g = 5) with rfl | rfl | rfl | rfl | rfl | rfl <;> decide +kernel
    rcases hz with rfl | rfl
    · rw [this.1] at hm; cases hm
    · rw [this.2] at hm; cases hm
  have hf : ∀ q' j', q' ≠ q → ty_fd (h.set q (tag, vs)) q' j' = ty_fd h q' j' := fun q' j' hne => by rw [ty_fd_set (by omega), if_neg hne]
  refine ⟨by rw [List.length_set]; exact h1, fun q' hq' => ?_, fun j => ?_⟩
  · obtain ⟨ws, e1, e2, e3⟩ := h2 q' hq'
    by_cases e : q' = q
    · subst e
      rw [hq] at e1
      cases e1
      refine ⟨vs, List.getElem?_set_self (by omega), by rw [hl]; exact e2, fun j x hx => ?_⟩
      have := hv x (List.mem_of_getElem? hx)
      refine ⟨?_, fun _ => ?_⟩
      · rw [ty_lk_fl, if_pos hm, ha]
        exact this.mv hL
      · rw [ty_tt_ar ha]
        exact this.mv hL
    · refine ⟨ws, by rw [List.getElem?_set_ne (Ne.symm e)]; exact e1, e2, fun j x hx => ?_⟩
      obtain ⟨r1, r2⟩ := e3 j x hx
      refine ⟨?_, fun hmb => (r2 hmb).mv hL⟩
      rw [ty_lk_fl]
      by_cases eg : ax_gm g q' = true
      · rw [if_pos eg]
        have hmb := (ty_g_ok hg eg).2.2.1
        have r3 := (r2 hmb).mv hL
        cases har : ty_ar q' with
        | true => rw [ty_tt_ar har] at r3; exact r3
        | false => exact r3
      · rw [if_neg eg]
        exact r1.mv hL
  · rw [ty_lk_fl, if_neg (by rw [ty_g300]; decide)]
    exact ty_ps_eq (ty_pv_eq (hf _ _ (gno 181 (Or.inl rfl))) (hf _ _ (gno 181 (Or.inl rfl))) (hf _ _ (gno 181 (Or.inl rfl))) (fun f => hf _ _ (gno 185 (Or.inr rfl)))) (h3 j)
theorem ty_ag_ok {x : ty_V} {y : Value} {g : Nat} (hx : ty_r ρ N h x y) (hs : ty_ag x = some g) : ∃ q : Nat, y = .ref q ∧ ax_gm g q = true ∧ ∀ W, ty_aw W x = true → 100 ≤ (ty_gl g).1 → ty_wr W q 0 = true := by
  unfold ty_ag at hs
  split at hs
  · rename_i g' r
    cases hs
    obtain ⟨q, rfl, hm⟩ := hx
    refine ⟨q, rfl, hm, fun W hw h100 => ty_wr_sub hw (ty_gk_ok (j := 0) hm (by decide) ?_).2⟩
    have := ty_gm6 hm
    rcases (by omega : g = 0 ∨ g = 1 ∨ g = 2 ∨ g = 3 ∨ g = 4 ∨ g = 5) with rfl | rfl | rfl | rfl | rfl | rfl <;> decide
  · rename_i q r
    refine ⟨q, hx, ?_, fun W hw _ => hw⟩
    cases c5 : ax_gm 5 q with
    | true => rw [c5] at hs; cases hs; exact c5
    | false =>
      rw [c5] at hs
      cases c3 : ax_gm 3 q with
      | true => rw [c3] at hs; cases hs; exact c3
      | false => rw [c3] at hs; cases hs
  · cases hs
theorem ty_mth_ok {ix : Nat} (hI : ty_Ik I) (hW : Nat.beq (W &&& ty_IK) 0 = true) (hg : ty_g K ρ N lv st ov lvx stx h) (hi : I h) (hs : ty_mth a W pc lv st ov N k = true) : ty_ok I W K ρ N k h (ax_one ty_R nL pc (.invokestatic ix) a b c v lvx stx h) := by
  obtain ⟨g1, g2, g3⟩ := hg
  have gt_of : ∀ {i j : Int64}, j < i → ty_fc 4 i.toInt j.toInt := fun hh => Int64.lt_iff_toInt_lt.mp hh
  have le_of : ∀ {i j : Int64}, ¬ j < i → ty_fc 5 i.toInt j.toInt := fun {i j} hh => by
    have : ¬ (j.toInt < i.toInt) := fun q => hh (Int64.lt_iff_toInt_lt.mpr q)
    show i.toInt ≤ j.toInt
    omega
  unfold ty_mth at hs
  split at hs
  · rename_i y x s
    obtain ⟨yx, _, rfl, hy, xx, rx, rfl, hx, h2⟩ := g2
    simp only [Bool.and_eq_true] at hs
    obtain ⟨s1, s2, s3, s4, s5, s6⟩ := hs
    obtain ⟨j, rfl, hj⟩ := ty_r1 s1 hy
    obtain ⟨i, rfl, hii⟩ := ty_r1 s2 hx
    have hsum : (rx.map fun v => v.category).sum ≤ 100 := by rw [ty_cs_ok s3 h2]; exact Nat.le_of_ble_eq_true s4
    by_cases hc : j < i
    · obtain ⟨lv', st', ov', x', y', q1, ⟨q2, q3, q4⟩, q5, q6, q7, q8⟩ := ty_brC_ok (lvx := lvx) (stx := rx) ⟨g1, h2, g3⟩ hii hj (gt_of hc) s5
      simp only [ax_fn_eq] at q1
      refine ⟨pc + 3, lv', _, ov', N, 0, 0, ρ, lvx, .long j :: rx, h, q1, ?_, ⟨q2, ⟨_, rx, rfl, ?_, q3⟩, q4⟩, ty_F_refl W h, hi, ty_ex_refl ρ N⟩
      · simp only [ax_one, ax_l2, if_pos hc, if_pos hsum, ax_go]
      · obtain ⟨k0, k1⟩ := y'
        dsimp only at q6
        rw [Nat.eq_of_beq_eq_true s1] at q6
        subst q6
        exact ⟨j, rfl, q8⟩
    · obtain ⟨lv', st', ov', x', y', q1, ⟨q2, q3, q4⟩, q5, q6, q7, q8⟩ := ty_brC_ok (lvx := lvx) (stx := rx) ⟨g1, h2, g3⟩ hii hj (le_of hc) s6
      simp only [ax_fn_eq] at q1
      refine ⟨pc + 3, lv', _, ov', N, 0, 0, ρ, lvx, .long i :: rx, h, q1, ?_, ⟨q2, ⟨_, rx, rfl, ?_, q3⟩, q4⟩, ty_F_refl W h, hi, ty_ex_refl ρ N⟩
      · simp only [ax_one, ax_l2, if_neg hc, if_pos hsum, ax_go]
      · obtain ⟨k0, k1⟩ := x'
        dsimp only at q5
        rw [Nat.eq_of_beq_eq_true s2] at q5
        subst q5
        exact ⟨i, rfl, q7⟩
  · rename_i y x s
    obtain ⟨yx, _, rfl, hy, xx, rx, rfl, hx, h2⟩ := g2
    simp only [Bool.and_eq_true] at hs
    obtain ⟨s1, s2, s3, s4, s5, s6⟩ := hs
    obtain ⟨j, rfl, hj⟩ := ty_r1 s1 hy
    obtain ⟨i, rfl, hii⟩ := ty_r1 s2 hx
    have hsum : (rx.map fun v => v.category).sum ≤ 100 := by rw [ty_cs_ok s3 h2]; exact Nat.le_of_ble_eq_true s4
    by_cases hc : j < i
    · obtain ⟨lv', st', ov', x', y', q1, ⟨q2, q3, q4⟩, q5, q6, q7, q8⟩ := ty_brC_ok (lvx := lvx) (stx := rx) ⟨g1, h2, g3⟩ hii hj (gt_of hc) s5
      simp only [ax_fn_eq] at q1
      refine ⟨pc + 3, lv', _, ov', N, 0, 0, ρ, lvx, .long i :: rx, h, q1, ?_, ⟨q2, ⟨_, rx, rfl, ?_, q3⟩, q4⟩, ty_F_refl W h, hi, ty_ex_refl ρ N⟩
      · simp only [ax_one, ax_l2, if_pos hc, if_pos hsum, ax_go]
      · obtain ⟨k0, k1⟩ := x'
        dsimp only at q5
        rw [Nat.eq_of_beq_eq_true s2] at q5
        subst q5
        exact ⟨i, rfl, q7⟩
    · obtain ⟨lv', st', ov', x', y', q1, ⟨q2, q3, q4⟩, q5, q6, q7, q8⟩ := ty_brC_ok (lvx := lvx) (stx := rx) ⟨g1, h2, g3⟩ hii hj (le_of hc) s6
      simp only [ax_fn_eq] at q1
      refine ⟨pc + 3, lv', _, ov', N, 0, 0, ρ, lvx, .long j :: rx, h, q1, ?_, ⟨q2, ⟨_, rx, rfl, ?_, q3⟩, q4⟩, ty_F_refl W h, hi, ty_ex_refl ρ N⟩
      · simp only [ax_one, ax_l2, if_neg hc, if_pos hsum, ax_go]
      · obtain ⟨k0, k1⟩ := y'
        dsimp only at q6
        rw [Nat.eq_of_beq_eq_true s1] at q6
        subst q6
        exact ⟨j, rfl, q8⟩
  · rename_i y x s
    obtain ⟨yx, _, rfl, hy, xx, rx, rfl, hx, h2⟩ := g2
    simp only [Bool.and_eq_true] at hs
    obtain ⟨s1, s2, s3, s4, s5, s6⟩ := hs
    obtain ⟨j, rfl, hj⟩ := ty_r0 s1 hy
    obtain ⟨i, rfl, hii⟩ := ty_r0 s2 hx
    have hsum : (rx.map fun v => v.category).sum ≤ 100 := by rw [ty_cs_ok s3 h2]; exact Nat.le_of_ble_eq_true s4
    by_cases hc : i < j
    · obtain ⟨lv', st', ov', x', y', q1, ⟨q2, q3, q4⟩, q5, q6, q7, q8⟩ := ty_brC_ok (lvx := lvx) (stx := rx) ⟨g1, h2, g3⟩ hii hj (c := 2) (Int32.lt_iff_toInt_lt.mp hc) s5
      simp only [ax_fn_eq] at q1
      refine ⟨pc + 3, lv', _, ov', N, 0, 0, ρ, lvx, .int j :: rx, h, q1, ?_, ⟨q2, ⟨_, rx, rfl, ?_, q3⟩, q4⟩, ty_F_refl W h, hi, ty_ex_refl ρ N⟩
      · simp only [ax_one, ax_b2, if_pos hc, if_pos hsum, ax_go]
      · obtain ⟨k0, k1⟩ := y'
        dsimp only at q6
        rw [Nat.eq_of_beq_eq_true s1] at q6
        subst q6
        exact ⟨j, rfl, q8⟩
    · have hc3 : ty_fc 3 i.toInt j.toInt := by
        have : ¬ (i.toInt < j.toInt) := fun q => hc (Int32.lt_iff_toInt_lt.mpr q)
        show j.toInt ≤ i.toInt
        omega
      obtain ⟨lv', st', ov', x', y', q1, ⟨q2, q3, q4⟩, q5, q6, q7, q8⟩ := ty_brC_ok (lvx := lvx) (stx := rx) ⟨g1, h2, g3⟩ hii hj hc3 s6
      simp only [ax_fn_eq] at q1
      refine ⟨pc + 3, lv', _, ov', N, 0, 0, ρ, lvx, .int i :: rx, h, q1, ?_, ⟨q2, ⟨_, rx, rfl, ?_, q3⟩, q4⟩, ty_F_refl W h, hi, ty_ex_refl ρ N⟩
      · simp only [ax_one, ax_b2, if_neg hc, if_pos hsum, ax_go]
      · obtain ⟨k0, k1⟩ := x'
        dsimp only at q5
        rw [Nat.eq_of_beq_eq_true s2] at q5
        subst q5
        exact ⟨i, rfl, q7⟩
  · rename_i m1 f1 n1 n2 m2 f2 z1 z2 dst m3 f3 z3 z4 src s
    obtain ⟨nx, _, rfl, ⟨n, rfl, na, nb, -⟩, d0x, _, rfl, ⟨d0, rfl, da, db, -⟩, dx, _, rfl, hd, s0x, _, rfl, ⟨s0, rfl, sa, sb, -⟩, sx, rx, rfl, hsr, h2⟩ := g2
    simp only [Bool.and_eq_true] at hs
    obtain ⟨s3, s4, t1, t2, t3, t4, t5, t6⟩ := hs
    have t1 := ty_eq_iff.mp t1
    have t2 := ty_eq_iff.mp t2
    have t3 := ty_eq_iff.mp t3
    have t4 := ty_eq_iff.mp t4
    have t5 := ty_eq_iff.mp t5
    have e0 : (0 : Int32).toInt = 0 := by decide
    obtain rfl : d0 = 0 := Int32.toInt_inj.mp (by omega)
    obtain rfl : s0 = 0 := Int32.toInt_inj.mp (by omega)
    have hsum : (rx.map fun v => v.category).sum ≤ 100 := by rw [ty_cs_ok s3 h2]; exact Nat.le_of_ble_eq_true s4
    split at t6
    · rename_i g g' e1 e2
      simp only [Bool.and_eq_true, Bool.or_eq_true, ax_flt_eq, ax_fn_eq] at t6
      obtain ⟨u1, u2, u3, u4, u5, u6, u7, u8⟩ := t6
      have u1 := Nat.eq_of_beq_eq_true u1
      subst u1
      have u2 : g < 6 := Nat.le_of_ble_eq_true u2
      have u4 : (ty_gt g 0).1 < 2 := Nat.le_of_ble_eq_true u4
      have u5 := Nat.eq_of_beq_eq_true u5
      have u6 := ty_eq_iff.mp u6
      have h100 : 100 ≤ (ty_gl g).1 ∧ (ty_gl g).1 ≤ 101 := by
        rcases u3 with q | q
        · have := Nat.eq_of_beq_eq_true q; omega
        · have := Nat.eq_of_beq_eq_true q; omega
      obtain ⟨q, rfl, hmq, hwq⟩ := ty_ag_ok hd e1
      obtain ⟨p, rfl, hmp, -⟩ := ty_ag_ok hsr e2
      have hq := ty_gm_lt hmq
      have hp := ty_gm_lt hmp
      obtain ⟨a1, a2, a3, a4⟩ := ty_g_ok u2 hmq
      obtain ⟨b1, b2, b3, b4⟩ := ty_g_ok u2 hmp
      obtain ⟨us, c1, c2, c3⟩ := g3.2.1 q hq
      obtain ⟨vs, v1, v2, v3⟩ := g3.2.1 p hp
      rw [a1] at c1
      rw [b1] at v1
      have harq : ty_ar q = true := ty_ar_yes (by omega)
      have harp : ty_ar p = true := ty_ar_yes (by omega)
      have hlen2 : 0 < (ty_gl g).2 := by
        rcases (by omega : g = 0 ∨ g = 1 ∨ g = 2 ∨ g = 3 ∨ g = 4 ∨ g = 5) with rfl | rfl | rfl | rfl | rfl | rfl <;> decide
      have ttq := (ty_gk_ok (j := 0) hmq (by decide) hlen2).1 u4
      have ttp := (ty_gk_ok (j := 0) hmp (by decide) hlen2).1 u4
      have hvs : ∀ x ∈ vs, ty_r ρ N h (ty_gt g 0) x := fun x hx => by
        obtain ⟨j, hj⟩ := List.getElem?_of_mem hx
        have := (v3 j x hj).2 b3
        rw [ty_tt_ar harp, ttp] at this
        exact this
      have hF : ty_F W h (h.set q ((ty_gl g).1, vs)) := by
        refine ⟨by rw [List.length_set]; exact Nat.le_refl _, fun q' j' h1 h2 h3 => ?_, ty_Lo_set hq, fun hw kk bs hk => ?_⟩
        · rw [ty_fd_set (by have := g3.1; omega)]
          by_cases e : q' = q
          · subst e
            have hw := hwq W u7 h100.1
            unfold ty_wr ty_ky at hw
            unfold ty_ky at h3
            rw [harq] at hw h3
            simp only [Bool.or_eq_true] at hw
            rcases hw with q1 | q1
            · exact absurd (Nat.eq_of_beq_eq_true q1) h2
            · have h3' : W.testBit ((ty_tab q').2.2.1 - 1 + (bif true then 0 else j')) = false := h3
              have q1' : W.testBit ((ty_tab q').2.2.1 - 1 + (bif true then 0 else 0)) = true := q1
              have : W.testBit ((ty_tab q').2.2.1 - 1 + (bif true then 0 else j')) = true := q1'
              rw [this] at h3'
              cases h3'
          · rw [if_neg e]
        · by_cases e : kk = q
          · subst e
            rw [c1] at hk
            have e9 : (ty_gl g).1 = 103 := congrArg Prod.fst (Option.some.inj hk)
            omega
          · rw [List.getElem?_set_ne (Ne.symm e)]
            exact hk
      have hL := hF.Lo
      have hnl : vs.length = (ty_gl g).2 := by rw [v2, b2]
      have hul : us.length = (ty_gl g).2 := by rw [c2, a2]
      obtain ⟨x1, x2, x3⟩ := ty_idx (n := (ty_gl g).2 + 1) (i := n) (by omega) (by omega)
      refine ⟨pc + 3, lv, s, _, N, 0, 0, ρ, lvx, rx, _, u8, ?_, ⟨g1.mv hL, h2.mv hL, ty_H.setG g3 hmq u2 harq c1 (by omega) (fun x hx => by rw [ttq]; exact hvs x hx)⟩, hF, hI.go hW hF hi, ty_ex_refl ρ N⟩
      have hty : ∃ ty, ax_tys[(ty_gl g).1 - 100]? = some ty ∧ refKind ty = false ∧ vs.all (fun x => ax_fit ty x) = true := by
        rcases u3 with q1 | q1
        · have q1 := Nat.eq_of_beq_eq_true q1
          rw [q1] at u5 ⊢
          refine ⟨.int, rfl, rfl, List.all_eq_true.mpr (fun x hx => ?_)⟩
          obtain ⟨z, rfl, -⟩ := ty_r0 (by rw [u5]; rfl) (hvs x hx)
          rfl
        · have q1 := Nat.eq_of_beq_eq_true q1
          rw [q1] at u5 ⊢
          refine ⟨.long, rfl, rfl, List.all_eq_true.mpr (fun x hx => ?_)⟩
          obtain ⟨z, rfl, -⟩ := ty_r1 (by rw [u5]; rfl) (hvs x hx)
          rfl
      obtain ⟨ty, y1, y2, y3⟩ := hty
      have e9 : ax_one ty_R nL pc (.invokestatic ix) 703 b c v lvx (.int n :: .int 0 :: .ref q :: .int 0 :: .ref p :: rx) h = (match ax_get ty_R h p, h[q]? with | some (t, vs), some (t1, us) => (match ax_tys[t - 100]? with | some ty => if 100 ≤ t ∧ t1 = t ∧ refKind ty = false ∧ q < 1000000000 ∧ ¬ n < 0 ∧ n.toNatClampNeg = vs.length ∧ us.length = vs.length ∧ vs.all (fun x => ax_fit ty x) = true ∧ (rx.map fun v => v.category).sum ≤ 100 then ax_hs h q (t, vs) fun h => ax_go (pc + 3) lvx rx h else none | none => none) | _, _ => none) := rfl
      rw [e9, ax_get_lt (ty_q9 hp), v1, c1]
      dsimp only
      rw [y1]
      dsimp only
      rw [if_pos ⟨h100.1, rfl, y2, ty_q9 hq, x1, by omega, by omega, y3, hsum⟩]
      simp only [ax_hs_eq, ax_go]
    · cases t6
  · cases hs
end TYM
/-! comparisons -/
theorem ty_equ (i j : Int32) : ax_equ (.int i) (.int j) = some (decide (i.toInt = j.toInt)) := by
  unfold ax_equ
  simp only [ax_rn]
  by_cases h : i.toInt = j.toInt
  · rw [if_neg (by omega), if_pos ⟨trivial, trivial, h⟩, decide_eq_true h]
  · rw [if_pos (by omega), decide_eq_false h]
theorem ty_ltu (i j : Int32) : ax_ltu (.int i) (.int j) = some (decide (i.toInt < j.toInt)) := by
  unfold ax_ltu
  simp only [ax_rn]
  by_cases h : i.toInt < j.toInt
  · rw [if_pos h, decide_eq_true h]
  · rw [if_neg h, if_pos (by omega), decide_eq_false h]
def ty_fk (ins : Instr) (st : List ty_V) : Option (Nat × Int × ty_V × ty_V × List ty_V) := match ins with
  | .if_icmp .eq off => match st with | y :: x :: st => some (0, off, x, y, st) | _ => none
  | .if_icmp .ne off => match st with | y :: x :: st => some (1, off, x, y, st) | _ => none
  | .if_icmp .lt off => match st with | y :: x :: st => some (2, off, x, y, st) | _ => none
  | .if_icmp .ge off => match st with | y :: x :: st => some (3, off, x, y, st) | _ => none
  | .if_icmp .gt off => match st with | y :: x :: st => some (4, off, x, y, st) | _ => none
  | .if_icmp .le off => match st with | y :: x :: st => some (5, off, x, y, st) | _ => none
  | .ifCond .eq off => match st with | x :: st => some (0, off, x, (0, 0, 0, 0, 0), st) | _ => none
  | .ifCond .ne off => match st with | x :: st => some (1, off, x, (0, 0, 0, 0, 0), st) | _ => none
  | .ifCond .lt off => match st with | x :: st => some (2, off, x, (0, 0, 0, 0, 0), st) | _ => none
  | .ifCond .ge off => match st with | x :: st => some (3, off, x, (0, 0, 0, 0, 0), st) | _ => none
  | .ifCond .gt off => match st with | x :: st => some (4, off, x, (0, 0, 0, 0, 0), st) | _ => none
  | .ifCond .le off => match st with | x :: st => some (5, off, x, (0, 0, 0, 0, 0), st) | _ => none
  | _ => none
def ty_ng (c : Nat) : Nat := match c with
  | 0 => 1
  | 1 => 0
  | 2 => 3
  | 3 => 2
  | 4 => 5
  | _ => 4
theorem ty_fc_em (c : Nat) (i j : Int) : ty_fc c i j ∨ ty_fc (ty_ng c) i j := by
  unfold ty_ng
  split <;> simp only [ty_fc] <;> omega
noncomputable def ty_bx (c pc : Nat) (off : Int) (x y : ty_V) (lv : List (Nat × ty_V)) (st : List ty_V) (ov : ty_O) (N : Nat) (k : ty_C) : Bool := Nat.beq x.1 0 && (Nat.beq y.1 0 && (ty_le 0 ((pc : Int) + off) && (ty_brC c x y lv st ov (fun lv st ov _ _ => ax_fn ((pc : Int) + off).toNat fun p => k p lv st ov N 0 0) && ty_brC (ty_ng c) x y lv st ov (fun lv st ov _ _ => ax_fn (pc + 3) fun p => k p lv st ov N 0 0))))
section TYC
variable {I : ax_H → Prop} {W : Nat} {K : Int} {ρ : Nat → Int} {N : Nat} {ov : ty_O} {h : ax_H} {lv : List (Nat × ty_V)} {lvx : List (Nat × Value)} {st : List ty_V} {stx : List Value} {nL pc a b c : Nat} {v : Value} {k : ty_C}
theorem ty_bx_ok {cc : Nat} {off : Int} {x y : ty_V} {i j : Int32} {o : Option ax_S} (hg : ty_g K ρ N lv st ov lvx stx h) (hi : I h) (hx : ty_r ρ N h x (.int i)) (hy : ty_r ρ N h y (.int j)) (hs : ty_bx cc pc off x y lv st ov N k = true)
    (ho : 0 ≤ (pc : Int) + off → ∃ t : Bool, o = some (ax_br pc off t, lvx, stx, h, 0, 0) ∧ (t = true → ty_fc cc i.toInt j.toInt) ∧ (t = false → ty_fc (ty_ng cc) i.toInt j.toInt)) : ty_ok I W K ρ N k h o := by
  unfold ty_bx at hs
  simp only [Bool.and_eq_true] at hs
  obtain ⟨s1, s2, s3, s4, s5⟩ := hs
  have s3 := ty_le_iff.mp s3
  obtain ⟨i', e1, hii⟩ := ty_r0 s1 hx
  obtain ⟨j', e2, hjj⟩ := ty_r0 s2 hy
  cases e1
  cases e2
  obtain ⟨t, o1, o2, o3⟩ := ho s3
  cases t with
  | true =>
    obtain ⟨lv', st', ov', x', y', q1, q2, -⟩ := ty_brC_ok hg hii hjj (o2 rfl) s4
    simp only [ax_fn_eq] at q1
    exact ⟨_, lv', st', ov', N, 0, 0, ρ, lvx, stx, h, q1, o1, q2, ty_F_refl W h, hi, ty_ex_refl ρ N⟩
  | false =>
    obtain ⟨lv', st', ov', x', y', q1, q2, -⟩ := ty_brC_ok hg hii hjj (o3 rfl) s5
    simp only [ax_fn_eq] at q1
    exact ⟨_, lv', st', ov', N, 0, 0, ρ, lvx, stx, h, q1, o1, q2, ty_F_refl W h, hi, ty_ex_refl ρ N⟩
theorem ty_fk_ok {ins : Instr} {cc : Nat} {off : Int} {x y : ty_V} {s : List ty_V} (hg : ty_g K ρ N lv st ov lvx stx h) (hi : I h) (hf : ty_fk ins st = some (cc, off, x, y, s)) (hs : ty_bx cc pc off x y lv s ov N k = true) : ty_ok I W K ρ N k h (ax_one ty_R nL pc ins a b c v lvx stx h) := by
  obtain ⟨g1, g2, g3⟩ := hg
  have hb := hs
  unfold ty_bx at hb
  simp only [Bool.and_eq_true] at hb
  obtain ⟨b1, b2, -⟩ := hb
  have e0 : (0 : Int32).toInt = 0 := by decide
  have z0 : ty_r ρ N h (0, 0, 0, 0, 0) (.int 0) := ⟨0, rfl, by decide, by decide, Or.inl rfl⟩
  have two : ∀ {y x : ty_V} {s : List ty_V}, st = y :: x :: s → Nat.beq x.1 0 = true → Nat.beq y.1 0 = true → ∃ i j rx, stx = .int j :: .int i :: rx ∧ ty_r ρ N h x (.int i) ∧ ty_r ρ N h y (.int j) ∧ ty_g K ρ N lv s ov lvx rx h := by
    intro y x s e hx hy
    subst e
    obtain ⟨yx, _, rfl, hy2, xx, rx, rfl, hx2, h2⟩ := g2
    obtain ⟨j, rfl, -⟩ := ty_r0 hy hy2
    obtain ⟨i, rfl, -⟩ := ty_r0 hx hx2
    exact ⟨i, j, rx, rfl, hx2, hy2, g1, h2, g3⟩
  have one : ∀ {x : ty_V} {s : List ty_V}, st = x :: s → Nat.beq x.1 0 = true → ∃ i rx, stx = .int i :: rx ∧ ty_r ρ N h x (.int i) ∧ ty_g K ρ N lv s ov lvx rx h := by
    intro x s e hx
    subst e
    obtain ⟨xx, rx, rfl, hx2, h2⟩ := g2
    obtain ⟨i, rfl, -⟩ := ty_r0 hx hx2
    exact ⟨i, rx, rfl, hx2, g1, h2, g3⟩
  unfold ty_fk at hf
  split at hf
  · split at hf <;> cases hf
    obtain ⟨i, j, rx, rfl, q1, q2, q3⟩ := two rfl b1 b2
    exact ty_bx_ok q3 hi q1 q2 hs (fun h0 => ⟨decide (i.toInt = j.toInt), by simp only [ax_one, ty_equ, ax_isI, h0, and_self, if_true, ax_go], fun e => by simpa [ty_fc] using e, fun e => by simpa [ty_fc, ty_ng] using e⟩)
  · split at hf <;> cases hf
    obtain ⟨i, j, rx, rfl, q1, q2, q3⟩ := two rfl b1 b2
    exact ty_bx_ok q3 hi q1 q2 hs (fun h0 => ⟨!decide (i.toInt = j.toInt), by simp only [ax_one, ty_equ, ax_isI, h0, and_self, if_true, ax_go], fun e => by simpa [ty_fc] using e, fun e => by simpa [ty_fc, ty_ng] using e⟩)
  · split at hf <;> cases hf
    obtain ⟨i, j, rx, rfl, q1, q2, q3⟩ := two rfl b1 b2
    exact ty_bx_ok q3 hi q1 q2 hs (fun h0 => ⟨decide (i.toInt < j.toInt), by simp only [ax_one, ty_ltu, ax_isI, h0, and_self, if_true, ax_go], fun e => by simpa [ty_fc] using e, fun e => by simpa [ty_fc, ty_ng] using e⟩)
  · split at hf <;> cases hf
    obtain ⟨i, j, rx, rfl, q1, q2, q3⟩ := two rfl b1 b2
    exact ty_bx_ok q3 hi q1 q2 hs (fun h0 => ⟨!decide (i.toInt < j.toInt), by simp only [ax_one, ty_ltu, ax_isI, h0, and_self, if_true, ax_go], fun e => by simpa [ty_fc] using e, fun e => by simpa [ty_fc, ty_ng] using e⟩)
  · split at hf <;> cases hf
    obtain ⟨i, j, rx, rfl, q1, q2, q3⟩ := two rfl b1 b2
    exact ty_bx_ok q3 hi q1 q2 hs (fun h0 => ⟨decide (j.toInt < i.toInt), by simp only [ax_one, ty_ltu, ax_isI, h0, and_self, if_true, ax_go], fun e => by simpa [ty_fc] using e, fun e => by simpa [ty_fc, ty_ng] using e⟩)
  · split at hf <;> cases hf
    obtain ⟨i, j, rx, rfl, q1, q2, q3⟩ := two rfl b1 b2
    exact ty_bx_ok q3 hi q1 q2 hs (fun h0 => ⟨!decide (j.toInt < i.toInt), by simp only [ax_one, ty_ltu, ax_isI, h0, and_self, if_true, ax_go], fun e => by simpa [ty_fc] using e, fun e => by simpa [ty_fc, ty_ng] using e⟩)
  · split at hf <;> cases hf
    obtain ⟨i, rx, rfl, q1, q3⟩ := one rfl b1
    exact ty_bx_ok q3 hi q1 z0 hs (fun h0 => ⟨decide (i.toInt = (0 : Int32).toInt), by simp only [ax_one, ty_equ, ax_isI, h0, and_self, if_true, ax_go], fun e => by simpa [ty_fc] using e, fun e => by simpa [ty_fc, ty_ng] using e⟩)
  · split at hf <;> cases hf
    obtain ⟨i, rx, rfl, q1, q3⟩ := one rfl b1
    exact ty_bx_ok q3 hi q1 z0 hs (fun h0 => ⟨!decide (i.toInt = (0 : Int32).toInt), by simp only [ax_one, ty_equ, ax_isI, h0, and_self, if_true, ax_go], fun e => by simpa [ty_fc] using e, fun e => by simpa [ty_fc, ty_ng] using e⟩)
  · split at hf <;> cases hf
    obtain ⟨i, rx, rfl, q1, q3⟩ := one rfl b1
    exact ty_bx_ok q3 hi q1 z0 hs (fun h0 => ⟨decide (i.toInt < (0 : Int32).toInt), by simp only [ax_one, ty_ltu, ax_isI, h0, and_self, if_true, ax_go], fun e => by simpa [ty_fc] using e, fun e => by simpa [ty_fc, ty_ng] using e⟩)
  · split at hf <;> cases hf
    obtain ⟨i, rx, rfl, q1, q3⟩ := one rfl b1
    exact ty_bx_ok q3 hi q1 z0 hs (fun h0 => ⟨!decide (i.toInt < (0 : Int32).toInt), by simp only [ax_one, ty_ltu, ax_isI, h0, and_self, if_true, ax_go], fun e => by simpa [ty_fc] using e, fun e => by simpa [ty_fc, ty_ng] using e⟩)
  · split at hf <;> cases hf
    obtain ⟨i, rx, rfl, q1, q3⟩ := one rfl b1
    exact ty_bx_ok q3 hi q1 z0 hs (fun h0 => ⟨decide ((0 : Int32).toInt < i.toInt), by simp only [ax_one, ty_ltu, ax_isI, h0, and_self, if_true, ax_go], fun e => by simpa [ty_fc] using e, fun e => by simpa [ty_fc, ty_ng] using e⟩)
  · split at hf <;> cases hf
    obtain ⟨i, rx, rfl, q1, q3⟩ := one rfl b1
    exact ty_bx_ok q3 hi q1 z0 hs (fun h0 => ⟨!decide ((0 : Int32).toInt < i.toInt), by simp only [ax_one, ty_ltu, ax_isI, h0, and_self, if_true, ax_go], fun e => by simpa [ty_fc] using e, fun e => by simpa [ty_fc, ty_ng] using e⟩)
  · cases hf
/-- two longs compared -/
theorem ty_cmp {i j : Int64} : (i.toInt < j.toInt → lg_cmp i j = -1) ∧ (i.toInt = j.toInt → lg_cmp i j = 0) ∧ (j.toInt < i.toInt → lg_cmp i j = 1) := by
  unfold lg_cmp
  refine ⟨fun h => ?_, fun h => ?_, fun h => ?_⟩
  · rw [if_neg (fun q => by have := Int64.lt_iff_toInt_lt.mp q; omega), if_neg (fun q => by rw [q] at h; omega)]
  · rw [if_neg (fun q => by have := Int64.lt_iff_toInt_lt.mp q; omega), if_pos (Int64.toInt_inj.mp h)]
  · rw [if_pos (Int64.lt_iff_toInt_lt.mpr h)]
end TYC
noncomputable def ty_lcC (pc : Nat) (x y : ty_V) (lv : List (Nat × ty_V)) (st : List ty_V) (ov : ty_O) (N : Nat) (k : ty_C) : Bool := Nat.beq x.1 1 && (Nat.beq y.1 1 && (ty_brC 2 x y lv st ov (fun lv st ov _ _ => ax_fn (pc + 1) fun p => k p lv ((0, 0, 0, -1, -1) :: st) ov N 0 0) && (ty_brC 0 x y lv st ov (fun lv st ov _ _ => ax_fn (pc + 1) fun p => k p lv ((0, 0, 0, 0, 0) :: st) ov N 0 0) && ty_brC 4 x y lv st ov (fun lv st ov _ _ => ax_fn (pc + 1) fun p => k p lv ((0, 0, 0, 1, 1) :: st) ov N 0 0))))
noncomputable def ty_df (W pc : Nat) (ins : Instr) (a : Nat) (v : Value) (lv : List (Nat × ty_V)) (st : List ty_V) (ov : ty_O) (N : Nat) (k : ty_C) : Bool := match ty_fk ins st with
  | some (c, off, x, y, st) => ty_bx c pc off x y lv st ov N k
  | none => (match ty_sm ins a v pc lv st with
    | some (pc', t, rest) => ty_fo t fun t => ax_fn pc' fun pc' => k pc' lv (t :: rest) ov N 0 0
    | none => false)
/-- one step; W: what may be written here -/
noncomputable def ty_nx (W nL pc : Nat) (ins : Instr) (a b : Nat) (v : Value) (lv : List (Nat × ty_V)) (st : List ty_V) (ov : ty_O) (N : Nat) (k : ty_C) : Bool := match ins with
  | .istore_n j => ty_sto 0 nL (j : Nat) (pc + 1) lv st ov N k
  | .istore j => ty_sto 0 nL j (pc + 2) lv st ov N k
  | .lstore_n j => ty_sto 1 nL (j : Nat) (pc + 1) lv st ov N k
  | .lstore j => ty_sto 1 nL j (pc + 2) lv st ov N k
  | .astore_n j => ty_sto 2 nL (j : Nat) (pc + 1) lv st ov N k
  | .astore j => ty_sto 2 nL j (pc + 2) lv st ov N k
  | .iinc j n => ty_inc nL j (pc + 3) n lv st ov N k
  | .pop => match st with
    | x :: st => ty_c1 x && ax_fn (pc + 1) fun pc' => k pc' lv st ov N 0 0
    | _ => false
  | .dup2 => match st with
    | y :: x :: st => ty_c1 y && (ty_c1 x && ax_fn (pc + 1) fun pc' => k pc' lv (y :: x :: y :: x :: st) ov N 0 0)
    | _ => false
  | .goto off => ty_le 0 ((pc : Int) + off) && ax_fn ((pc : Int) + off).toNat fun pc' => k pc' lv st ov N 0 0
  | .lcmp => match st with
    | y :: x :: st => ty_lcC pc x y lv st ov N k
    | _ => false
  | .getfield _ => ty_gf a b pc lv st ov N k
  | .putfield _ => ty_pf W a b pc lv st ov N k
  | .iaload => ty_al .iaload pc lv st ov N k
  | .laload => ty_al .laload pc lv st ov N k
  | .baload => ty_al .baload pc lv st ov N k
  | .aaload => ty_al .aaload pc lv st ov N k
  | .iastore => ty_as .iastore 100 W pc lv st ov N k
  | .lastore => ty_as .lastore 101 W pc lv st ov N k
  | .bastore => ty_as .bastore 102 W pc lv st ov N k
  | .newarray _ => ty_na a pc lv st ov N k
  | .invokestatic _ => ty_mth a W pc lv st ov N k
  | ins => ty_df W pc ins a v lv st ov N k
section TYX
variable {I : ax_H → Prop} {W : Nat} {K : Int} {ρ : Nat → Int} {N : Nat} {ov : ty_O} {h : ax_H} {lv : List (Nat × ty_V)} {lvx : List (Nat × Value)} {st : List ty_V} {stx : List Value} {nL pc a b c : Nat} {v : Value} {k : ty_C}
theorem ty_lc_ok {x y : ty_V} {s : List ty_V} {ins : Instr} (hins : ins = .lcmp) (hg : ty_g K ρ N lv (y :: x :: s) ov lvx stx h) (hi : I h) (hs : ty_lcC pc x y lv s ov N k = true) : ty_ok I W K ρ N k h (ax_one ty_R nL pc ins a b c v lvx stx h) := by
  subst hins
  obtain ⟨g1, ⟨yx, _, rfl, hy, xx, rx, rfl, hx, h2⟩, g3⟩ := hg
  unfold ty_lcC at hs
  simp only [Bool.and_eq_true] at hs
  obtain ⟨s1, s2, s3, s4, s5⟩ := hs
  obtain ⟨i, rfl, hii⟩ := ty_r1 s1 hx
  obtain ⟨j, rfl, hjj⟩ := ty_r1 s2 hy
  obtain ⟨c1, c2, c3⟩ := @ty_cmp i j
  have fin : ∀ (n : Int32) (m : Int) lv' st' ov', lg_cmp i j = n → n.toInt = m → k (pc + 1) lv' ((0, 0, 0, m, m) :: st') ov' N 0 0 = true → ty_g K ρ N lv' st' ov' lvx rx h → ty_ok I W K ρ N k h (ax_one ty_R nL pc .lcmp a b c v lvx (.long j :: .long i :: rx) h) := by
    intro n m lv' st' ov' e1 e2 hk ⟨q1, q2, q3⟩
    refine ⟨pc + 1, lv', _, ov', N, 0, 0, ρ, lvx, .int n :: rx, h, hk, ?_, ⟨q1, ⟨_, rx, rfl, ⟨n, rfl, ?_, ?_, Or.inl rfl⟩, q2⟩, q3⟩, ty_F_refl W h, hi, ty_ex_refl ρ N⟩
    · simp only [ax_one, ax_lc, e1, ax_go]
    · omega
    · omega
  rcases (by omega : i.toInt < j.toInt ∨ i.toInt = j.toInt ∨ j.toInt < i.toInt) with q | q | q
  · obtain ⟨lv', st', ov', x', y', q1, q2, -⟩ := ty_brC_ok (c := 2) ⟨g1, h2, g3⟩ hii hjj q s3
    simp only [ax_fn_eq] at q1
    exact fin (-1) (-1) lv' st' ov' (c1 q) (by decide) q1 q2
  · obtain ⟨lv', st', ov', x', y', q1, q2, -⟩ := ty_brC_ok (c := 0) ⟨g1, h2, g3⟩ hii hjj q s4
    simp only [ax_fn_eq] at q1
    exact fin 0 0 lv' st' ov' (c2 q) (by decide) q1 q2
  · obtain ⟨lv', st', ov', x', y', q1, q2, -⟩ := ty_brC_ok (c := 4) ⟨g1, h2, g3⟩ hii hjj q s5
    simp only [ax_fn_eq] at q1
    exact fin 1 1 lv' st' ov' (c3 q) (by decide) q1 q2
theorem ty_df_ok {ins : Instr} (hg : ty_g K ρ N lv st ov lvx stx h) (hi : I h) (hs : ty_df W pc ins a v lv st ov N k = true) : ty_ok I W K ρ N k h (ax_one ty_R nL pc ins a b c v lvx stx h) := by
  unfold ty_df at hs
  split at hs
  · rename_i cc off x y s e
    exact ty_fk_ok hg hi e hs
  · split at hs
    · rename_i pc' t rest e
      simp only [ty_fo_eq, ax_fn_eq] at hs
      obtain ⟨x, rx, o1, o2, o3⟩ := ty_sm_ok (nL := nL) (b := b) (c := c) e hg.1 hg.2.1 hg.2.2
      exact ⟨pc', lv, _, ov, N, 0, 0, ρ, lvx, _, h, hs, o1, ⟨hg.1, ⟨x, rx, rfl, o2, o3⟩, hg.2.2⟩, ty_F_refl W h, hi, ty_ex_refl ρ N⟩
    · cases hs
theorem ty_nx_ok {ins : Instr} (hI : ty_Ik I) (hW : Nat.beq (W &&& ty_IK) 0 = true) (hlen : h.length < 1000000000) (hg : ty_g K ρ N lv st ov lvx stx h) (hi : I h) (hs : ty_nx W nL pc ins a b v lv st ov N k = true) : ty_ok I W K ρ N k h (ax_one ty_R nL pc ins a b c v lvx stx h) := by
  unfold ty_nx at hs
  split at hs
  · exact ty_sto_ok hg hi hs (by decide) (fun x r e h0 h1 h2 => by
      obtain ⟨q1, q2⟩ := h0 rfl
      subst e
      simp only [ax_one, if_pos (And.intro q1 q2), ax_fl1_eq, ax_go]; rfl)
  · exact ty_sto_ok hg hi hs (by decide) (fun x r e h0 h1 h2 => by
      obtain ⟨q1, q2⟩ := h0 rfl
      subst e
      simp only [ax_one, if_pos (And.intro q1 q2), ax_fl1_eq, ax_go]; rfl)
  · exact ty_sto_ok hg hi hs (by decide) (fun x r e h0 h1 h2 => by
      obtain ⟨q1, q2⟩ := h1 rfl
      subst e
      simp only [ax_one, if_pos (And.intro q1 q2), ax_fl2_eq, ax_go]; rfl)
  · exact ty_sto_ok hg hi hs (by decide) (fun x r e h0 h1 h2 => by
      obtain ⟨q1, q2⟩ := h1 rfl
      subst e
      simp only [ax_one, if_pos (And.intro q1 q2), ax_fl2_eq, ax_go]; rfl)
  · exact ty_sto_ok hg hi hs (by decide) (fun x r e h0 h1 h2 => by
      obtain ⟨q1, q2⟩ := h2 rfl
      subst e
      simp only [ax_one, if_pos (And.intro q1 q2), ax_fl1_eq, ax_go]; rfl)
  · exact ty_sto_ok hg hi hs (by decide) (fun x r e h0 h1 h2 => by
      obtain ⟨q1, q2⟩ := h2 rfl
      subst e
      simp only [ax_one, if_pos (And.intro q1 q2), ax_fl1_eq, ax_go]; rfl)
  · exact ty_inc_ok hg hi hs
  · split at hs
    · rename_i x s
      obtain ⟨g1, ⟨xx, rx, rfl, hx, h2⟩, g3⟩ := hg
      simp only [Bool.and_eq_true, ax_fn_eq] at hs
      exact ⟨pc + 1, lv, s, ov, N, 0, 0, ρ, lvx, rx, h, hs.2, by simp only [ax_one, if_pos (ty_c1_ok hs.1 hx), ax_go], ⟨g1, h2, g3⟩, ty_F_refl W h, hi, ty_ex_refl ρ N⟩
    · cases hs
  · split at hs
    · rename_i y x s
      obtain ⟨g1, ⟨yy, _, rfl, hy, xx, rx, rfl, hx, h2⟩, g3⟩ := hg
      simp only [Bool.and_eq_true, ax_fn_eq] at hs
      exact ⟨pc + 1, lv, _, ov, N, 0, 0, ρ, lvx, yy :: xx :: yy :: xx :: rx, h, hs.2.2, by simp only [ax_one, if_pos (And.intro (ty_c1_ok hs.1 hy) (ty_c1_ok hs.2.1 hx)), ax_go], ⟨g1, ⟨_, _, rfl, hy, _, _, rfl, hx, _, _, rfl, hy, _, _, rfl, hx, h2⟩, g3⟩, ty_F_refl W h, hi, ty_ex_refl ρ N⟩
    · cases hs
  · rename_i off
    simp only [Bool.and_eq_true, ax_fn_eq, ty_le_iff] at hs
    exact ⟨_, lv, st, ov, N, 0, 0, ρ, lvx, stx, h, hs.2, by simp only [ax_one, if_pos hs.1, ax_go], hg, ty_F_refl W h, hi, ty_ex_refl ρ N⟩
  · split at hs
    · exact ty_lc_ok rfl hg hi hs
    · cases hs
  · exact ty_gf_ok hg hi hs
  · exact ty_pf_ok hI hW hg hi hs
  · exact ty_al_ok hg hi hs
  · exact ty_al_ok hg hi hs
  · exact ty_al_ok hg hi hs
  · exact ty_al_ok hg hi hs
  · exact ty_as_ok hI hW hg hi hs
  · exact ty_as_ok hI hW hg hi hs
  · exact ty_as_ok hI hW hg hi hs
  · exact ty_na_ok hI hlen hg hi hs
  · exact ty_mth_ok hI hW hg hi hs
  · exact ty_df_ok hg hi hs
end TYX
