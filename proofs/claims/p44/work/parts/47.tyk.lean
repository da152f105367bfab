/-! THE TYPED MACHINE, 16: a contract holds -/
section TYC
variable {I : ax_H → Prop} {l : Launch} {i d W W0 : Nat} {L : List ty_E} {Kc K : Int} {h0 : ax_H} {base : List (ty_Lc × ty_V)} {v0 : ty_Lc → Int} {cs : List ty_Ct} {pcs : List Nat} {cuts : List ty_Cu} {s0 s1 : Nat}
variable {ρ : Nat → Int} {N pc : Nat} {lv : List (Nat × ty_V)} {st : List ty_V} {ov : ty_O} {lvx : List (Nat × Value)} {stx : List Value} {h : ax_H} {bc bs : Nat}
noncomputable def ty_nml (lv : List (Nat × ty_V)) : Nat → (List (Nat × ty_V) → Nat → Bool) → Bool := @List.rec (Nat × ty_V) (fun _ => Nat → (List (Nat × ty_V) → Nat → Bool) → Bool) (fun N g => g [] N) (fun x _ ih N g => ty_nm N x.2 fun t M => ih M fun r M2 => g ((x.1, t) :: r) M2) lv
theorem ty_nml_ok : ∀ {lv : List (Nat × ty_V)} {ρ : Nat → Int} {N : Nat} {g : List (Nat × ty_V) → Nat → Bool}, ty_lr ρ N h lv lvx → ∃ (ρ' : Nat → Int) (N' : Nat) (lv' : List (Nat × ty_V)), ty_nml lv N g = g lv' N' ∧ ty_lr ρ' N' h lv' lvx ∧ (∀ K ov, ty_H K ρ N ov h → ty_H K ρ' N' ov h) ∧ (∀ s y, ty_r ρ N h s y → ty_r ρ' N' h s y) ∧ ty_ex ρ N ρ' N'
  | [], ρ, N, g, _ => ⟨ρ, N, [], rfl, (fun _ _ hm => by cases hm), (fun _ _ q => q), (fun _ _ q => q), ty_ex_refl ρ N⟩
  | x :: r, ρ, N, g, hl => by
    obtain ⟨y, y1, y2⟩ := hl x.1 x.2 List.mem_cons_self
    obtain ⟨ρ1, N1, t1, n1, n2, n3, n4, n5⟩ := ty_nm_ok (f := fun t M => ty_nml r M fun r M2 => g ((x.1, t) :: r) M2) y2
    have hl1 : ty_lr ρ1 N1 h r lvx := fun j t hm => by
      obtain ⟨z, z1, z2⟩ := hl j t (List.mem_cons_of_mem _ hm)
      exact ⟨z, z1, n4 _ _ z2⟩
    obtain ⟨ρ2, N2, r2, m1, m2, m3, m4, m5⟩ := ty_nml_ok (g := fun r M2 => g ((x.1, t1) :: r) M2) hl1
    refine ⟨ρ2, N2, (x.1, t1) :: r2, n1.trans m1, fun j t hm => ?_, fun K ov q => m3 _ _ ?_, fun s z q => m4 _ _ (n4 _ _ q), n5.trans m5⟩
    · rcases List.mem_cons.mp hm with e | e
      · cases e
        exact ⟨y, y1, m4 _ _ n2⟩
      · exact m2 j t e
    · exact (n3 K [] [] ov lvx [] ⟨(fun _ _ hm => by cases hm), rfl, q⟩).2.2
noncomputable def ty_nmc (ls : List ty_Lc) : Nat → ty_O → (ty_O → Nat → Bool) → Bool := @List.rec ty_Lc (fun _ => Nat → ty_O → (ty_O → Nat → Bool) → Bool) (fun N ov g => g ov N) (fun x _ ih N ov g => match x.1 with
  | 1 => Nat.blt x.2.1 198 && (Nat.blt x.2.2.1 (ty_tab x.2.1).2.1 && ty_nm N (ty_lk ov x.2.1 x.2.2.1) fun t M => ty_os ov x.2.1 (x.2.2.1 + 1) t fun ov => ih M ov g)
  | 2 => ty_os ov 300 3 (0, 0, 0, 0, 0) fun ov => ih N ov g
  | _ => ih N ov g) ls
theorem ty_nmc_ok {g : ty_O → Nat → Bool} : ∀ {ls : List ty_Lc} {ρ : Nat → Int} {N : Nat} {ov : ty_O}, ty_H K ρ N ov h → (∀ x ∈ ls, x.1 = 2 → ty_kc K = (ty_iv (ty_fd h 181 8)).getD 0) → ty_nmc ls N ov g = true → ∃ (ρ' : Nat → Int) (N' : Nat) (ov' : ty_O), g ov' N' = true ∧ ty_H K ρ' N' ov' h ∧ (∀ s y, ty_r ρ N h s y → ty_r ρ' N' h s y) ∧ ty_ex ρ N ρ' N'
  | [], ρ, N, ov, hH, _, hs => ⟨ρ, N, ov, hs, hH, (fun _ _ q => q), ty_ex_refl ρ N⟩
  | x :: r, ρ, N, ov, hH, hk, hs => by
    have h0 : ty_nmc (x :: r) N ov g = (match x.1 with
      | 1 => Nat.blt x.2.1 198 && (Nat.blt x.2.2.1 (ty_tab x.2.1).2.1 && ty_nm N (ty_lk ov x.2.1 x.2.2.1) fun t M => ty_os ov x.2.1 (x.2.2.1 + 1) t fun ov => ty_nmc r M ov g)
      | 2 => ty_os ov 300 3 (0, 0, 0, 0, 0) fun ov => ty_nmc r N ov g
      | _ => ty_nmc r N ov g) := rfl
    rw [h0] at hs
    have hk' : ∀ x ∈ r, x.1 = 2 → ty_kc K = (ty_iv (ty_fd h 181 8)).getD 0 := fun y hy => hk y (List.mem_cons_of_mem _ hy)
    split at hs
    · simp only [Bool.and_eq_true] at hs
      obtain ⟨q1, q2, hs⟩ := hs
      have q1 : x.2.1 < 198 := Nat.le_of_ble_eq_true q1
      have q2 : x.2.2.1 < (ty_tab x.2.1).2.1 := Nat.le_of_ble_eq_true q2
      obtain ⟨vs, e1, e2, e3⟩ := hH.2.1 _ q1
      have hvb : vs[x.2.2.1]? = some (vs[x.2.2.1]'(by omega)) := List.getElem?_eq_getElem (by omega)
      obtain ⟨ρ1, N1, t1, n1, n2, n3, n4, n5⟩ := ty_nm_ok (f := fun t M => ty_os ov x.2.1 (x.2.2.1 + 1) t fun ov => ty_nmc r M ov g) (e3 _ _ hvb).1
      rw [n1] at hs
      simp only [ty_os_eq] at hs
      have hH1 : ty_H K ρ1 N1 ov h := (n3 K [] [] ov [] [] ⟨(fun _ _ hm => by cases hm), rfl, hH⟩).2.2
      obtain ⟨ρ2, N2, ov2, m1, m2, m3, m4⟩ := ty_nmc_ok (hH1.put q1 (ty_fd_of e1 hvb) n2) hk' hs
      exact ⟨ρ2, N2, ov2, m1, m2, (fun s y q => m3 _ _ (n4 _ _ q)), n5.trans m4⟩
    · rename_i hx
      simp only [ty_os_eq] at hs
      refine ty_nmc_ok (hH.putp (j := 2) ?_) hk' hs
      intro v hv
      have e := hk x List.mem_cons_self hx
      simp only [ty_pv] at hv
      cases hf : ty_iv (ty_fd h 181 8) with
      | none => rw [hf] at hv; cases hv
      | some a =>
        rw [hf] at hv e
        simp only [Option.map_some, Option.some.injEq] at hv
        simp only [Option.getD_some] at e
        exact ⟨by omega, by omega, Or.inl rfl⟩
    · exact ty_nmc_ok hH hk' hs
noncomputable def ty_bs (lv : List (Nat × ty_V)) (ov : ty_O) (ls : List ty_Lc) : (List (ty_Lc × ty_V) → Bool) → Bool := @List.rec ty_Lc (fun _ => (List (ty_Lc × ty_V) → Bool) → Bool) (fun g => g []) (fun x _ ih g => match x.1 with
  | 0 => (match ty_at lv x.2.1 with
    | some t => Nat.beq t.1 0 && ty_fo t fun t => ih fun r => g ((x, t) :: r)
    | none => false)
  | 1 => Nat.blt x.2.1 198 && (Nat.blt x.2.2.1 (ty_tab x.2.1).2.1 && (Nat.beq (ty_lk ov x.2.1 x.2.2.1).1 0 && ty_fo (ty_lk ov x.2.1 x.2.2.1) fun t => ih fun r => g ((x, t) :: r)))
  | 2 => ih fun r => g ((x, (0, 0, 0, 0, 0)) :: r)
  | _ => false) ls
theorem ty_bs_ok : ∀ {ls : List ty_Lc} {g : List (ty_Lc × ty_V) → Bool}, ty_g K ρ N lv st ov lvx stx h → (∀ x ∈ ls, x.1 = 2 → ty_kc K = (ty_iv (ty_fd h 181 8)).getD 0) → ty_bs lv ov ls g = true → ∃ base : List (ty_Lc × ty_V), g base = true ∧ base.map (fun b => b.1) = ls ∧ ty_B K ρ N base (fun x => ty_lvl x lvx h)
  | [], g, _, _, hs => ⟨[], hs, rfl, fun _ hm => by cases hm⟩
  | x :: r, g, hg, hk, hs => by
    have h0 : ty_bs lv ov (x :: r) g = (match x.1 with
      | 0 => (match ty_at lv x.2.1 with
        | some t => Nat.beq t.1 0 && ty_fo t fun t => ty_bs lv ov r fun r => g ((x, t) :: r)
        | none => false)
      | 1 => Nat.blt x.2.1 198 && (Nat.blt x.2.2.1 (ty_tab x.2.1).2.1 && (Nat.beq (ty_lk ov x.2.1 x.2.2.1).1 0 && ty_fo (ty_lk ov x.2.1 x.2.2.1) fun t => ty_bs lv ov r fun r => g ((x, t) :: r)))
      | 2 => ty_bs lv ov r fun r => g ((x, (0, 0, 0, 0, 0)) :: r)
      | _ => false) := rfl
    rw [h0] at hs
    have hk' : ∀ x ∈ r, x.1 = 2 → ty_kc K = (ty_iv (ty_fd h 181 8)).getD 0 := fun y hy => hk y (List.mem_cons_of_mem _ hy)
    have fin : ∀ t : ty_V, (x.1 = 2 → ty_kc K = ty_lvl x lvx h) → (x.1 ≠ 2 → ty_in ρ N t.2.1 t.2.2.1 t.2.2.2.1 t.2.2.2.2 (ty_lvl x lvx h)) → ty_bs lv ov r (fun r => g ((x, t) :: r)) = true → ∃ base : List (ty_Lc × ty_V), g base = true ∧ base.map (fun b => b.1) = x :: r ∧ ty_B K ρ N base (fun x => ty_lvl x lvx h) := by
      intro t p1 p2 hs
      obtain ⟨b, b1, b2, b3⟩ := ty_bs_ok hg hk' hs
      refine ⟨(x, t) :: b, b1, by rw [List.map_cons, b2], fun q hq => ?_⟩
      rcases List.mem_cons.mp hq with e | e
      · subst e
        exact ⟨p1, p2⟩
      · exact b3 q e
    split at hs
    · rename_i hx
      split at hs
      · rename_i t ht
        simp only [Bool.and_eq_true, ty_fo_eq] at hs
        refine fin t (fun e => by omega) (fun _ => ?_) hs.2
        obtain ⟨y, y1, y2⟩ := hg.1 _ _ (ty_at_mem ht)
        obtain ⟨z, rfl, hz⟩ := ty_r0 hs.1 y2
        unfold ty_lvl
        rw [hx]
        show ty_in _ _ _ _ _ _ ((ty_iv (ax_at lvx x.2.1)).getD 0)
        rw [y1]
        exact hz
      · cases hs
    · rename_i hx
      simp only [Bool.and_eq_true, ty_fo_eq] at hs
      obtain ⟨q1, q2, q3, hs⟩ := hs
      have q1 : x.2.1 < 198 := Nat.le_of_ble_eq_true q1
      have q2 : x.2.2.1 < (ty_tab x.2.1).2.1 := Nat.le_of_ble_eq_true q2
      obtain ⟨vs, e1, e2, e3⟩ := hg.2.2.2.1 _ q1
      have hvb : vs[x.2.2.1]? = some (vs[x.2.2.1]'(by omega)) := List.getElem?_eq_getElem (by omega)
      obtain ⟨z, hz1, hz⟩ := ty_r0 q3 (e3 _ _ hvb).1
      have hfd := ty_fd_of e1 hvb
      rw [hz1] at hfd
      refine fin _ (fun e => by omega) (fun _ => ?_) hs
      unfold ty_lvl
      rw [hx]
      show ty_in _ _ _ _ _ _ ((ty_iv (ty_fd h x.2.1 x.2.2.1)).getD 0)
      rw [hfd]
      exact hz
    · rename_i hx
      refine fin _ (fun _ => ?_) (fun e => absurd hx e) hs
      rw [hk x List.mem_cons_self hx]
      unfold ty_lvl
      rw [hx]
      rfl
    · cases hs
def ty_h2 (ls : List ty_Lc) : Bool := ls.any (fun x => Nat.beq x.1 2)
noncomputable def ty_ctk (n i d W W0 : Nat) (cs : List ty_Ct) (pcs : List Nat) (cuts : List ty_Cu) (L : List ty_E) (c : ty_Cu) : Bool := Nat.blt c.2.2.2.2.2.2.1 2 && ((!(ty_h2 c.2.2.2.2.2.2.2) || (ty_nK L && (c.2.2.1.all (fun x => !(Nat.beq x.1 300 && Nat.beq x.2.1 3)) && ty_tl (0, 0, 0, 0, 200) (ty_lk c.2.2.1 181 8)))) && ty_nml c.2.1 1 fun lv N => ty_nmc c.2.2.2.2.2.2.2 N c.2.2.1 fun ov N => ty_bs lv ov c.2.2.2.2.2.2.2 fun base => ty_xp i d W W0 cs pcs cuts L c.2.2.2.2.2.1 c.2.2.2.2.2.2.1 base n true c.1 lv [] ov N c.2.2.2.1 c.2.2.2.2.1)
theorem ty_ctk_ok {n : Nat} {c : ty_Cu} (hI : ty_Ik I) (hW0 : Nat.beq (W0 &&& ty_IK) 0 = true) (hW : ty_sub W0 W = true) (hp : ty_pkM l) (hcs : ∀ x ∈ cs, ty_M I l x) (hchk : ty_ctk n i d W W0 cs pcs cuts L c = true) (hK : K = Kc ∨ ty_nK L = true) (hc : ty_Hc I l i d W L Kc h0 cuts (ty_ms c lvx h)) (hg : ty_g K ty_z 1 c.2.1 [] c.2.2.1 lvx [] h) (hF : ty_F W h0 h) (hi : I h) : AR ax_ns l (ax_mm i) d ty_R (ty_P I i W L Kc h0) (ty_X I i W L Kc h0) c.1 lvx [] h c.2.2.2.1 c.2.2.2.2.1 := by
  unfold ty_ctk at hchk
  simp only [Bool.and_eq_true, Bool.or_eq_true, Bool.not_eq_true'] at hchk
  obtain ⟨k1, k2, k3⟩ := hchk
  have hs1 : c.2.2.2.2.2.2.1 < 2 := Nat.le_of_ble_eq_true k1
  obtain ⟨K', hK', hH', hls⟩ : ∃ K' : Int, (K' = Kc ∨ ty_nK L = true) ∧ ty_H K' ty_z 1 c.2.2.1 h ∧ ∀ x ∈ c.2.2.2.2.2.2.2, x.1 = 2 → ty_kc K' = (ty_iv (ty_fd h 181 8)).getD 0 := by
    rcases k2 with q | ⟨q1, q2, q3⟩
    · refine ⟨K, hK, hg.2.2, fun x hx e => ?_⟩
      have : ty_h2 c.2.2.2.2.2.2.2 = true := List.any_eq_true.mpr ⟨x, hx, by rw [e]; rfl⟩
      rw [q] at this
      cases this
    · refine ⟨(ty_iv (ty_fd h 181 8)).getD 0, Or.inr q1, ty_nK_ok q2 hg.2.2, fun _ _ _ => ?_⟩
      obtain ⟨vs, e1, e2, e3⟩ := hg.2.2.2.1 181 (by decide)
      have hl : vs.length = 32 := by rw [e2]; decide +kernel
      have h8 : vs[8]? = some (vs[8]'(by omega)) := List.getElem?_eq_getElem (by omega)
      obtain ⟨z, hz1, hz2, hz3, -⟩ := ty_tl_ok (ρ' := ty_z) (N' := 1) q3 (e3 8 _ h8).1
      have hfd := ty_fd_of e1 h8
      rw [hz1] at hfd
      rw [hfd]
      exact ty_kc_id hz2 hz3
  obtain ⟨ρ1, N1, lv1, a1, a2, a3, a4, a5⟩ := ty_nml_ok (g := fun lv N => ty_nmc c.2.2.2.2.2.2.2 N c.2.2.1 fun ov N => ty_bs lv ov c.2.2.2.2.2.2.2 fun base => ty_xp i d W W0 cs pcs cuts L c.2.2.2.2.2.1 c.2.2.2.2.2.2.1 base n true c.1 lv [] ov N c.2.2.2.1 c.2.2.2.2.1) hg.1
  rw [a1] at k3
  obtain ⟨ρ2, N2, ov2, b1, b2, b3, b4⟩ := ty_nmc_ok (a3 _ _ hH') hls k3
  have hg2 : ty_g K' ρ2 N2 lv1 [] ov2 lvx [] h := ⟨fun j t hm => by
    obtain ⟨x, x1, x2⟩ := a2 j t hm
    exact ⟨x, x1, b3 _ _ x2⟩, rfl, b2⟩
  obtain ⟨base, c1, c2, c3⟩ := ty_bs_ok hg2 hls b1
  have hm : ty_m2 c.2.2.2.2.2.1 c.2.2.2.2.2.2.1 (base.map (fun b => b.1)) (fun x => ty_lvl x lvx h) = ty_ms c lvx h := by rw [c2]; rfl
  exact ty_xp_ok hI hW0 hW hp hcs hK' (by rw [hm]; exact hc) (fun x => ty_lvl_bd x lvx h) hs1 n _ _ _ _ _ _ _ _ _ _ _ _ c1 hg2 c3 hF hi
theorem ty_Hc_all {n : Nat} (hI : ty_Ik I) (hW0 : Nat.beq (W0 &&& ty_IK) 0 = true) (hW : ty_sub W0 W = true) (hp : ty_pkM l) (hcs : ∀ x ∈ cs, ty_M I l x) (hall : ∀ c ∈ cuts, ty_ctk n i d W W0 cs pcs cuts L c = true) : ∀ m, ty_Hc I l i d W L Kc h0 cuts m
  | 0 => fun _ _ _ _ _ _ _ _ _ hlt => absurd hlt (Nat.not_lt_zero _)
  | m + 1 => fun c hc K lvx h hg hK hF hi hlt => ty_ctk_ok hI hW0 hW hp hcs (hall c hc) hK (fun c' hc' K' lvx' h' hg' hK' hF' hi' hlt' => ty_Hc_all hI hW0 hW hp hcs hall m c' hc' K' lvx' h' hg' hK' hF' hi' (by omega)) hg hF hi
def ty_la : Nat → List ty_V → List (Nat × ty_V)
  | _, [] => []
  | i, t :: r => (i, t) :: ty_la (i + ty_ct t) r
theorem ty_la_ok : ∀ {args : List ty_V} {asx : List Value} {i : Nat}, ty_c6 args = true → ty_rs ρ N h args asx → ∀ j t, (j, t) ∈ ty_la i args → i ≤ j ∧ ∃ x, ax_at (lv_args i asx) j = some x ∧ ty_r ρ N h t x
  | [], _, _, _, _ => fun _ _ hm => by cases hm
  | t :: r, _, i, hc, ⟨x, rx, e, h1, h2⟩ => by
    subst e
    simp only [ty_c6, List.all_cons, Bool.and_eq_true] at hc
    have hcat := ty_ct_ok hc.1 h1
    have hstep : (if x.category = 2 then i + 2 else i + 1) = i + ty_ct t := by
      rw [hcat]
      unfold ty_ct
      cases Nat.beq t.1 1 <;> rfl
    have h1t : 1 ≤ ty_ct t := by unfold ty_ct; cases Nat.beq t.1 1 <;> decide
    intro j s hm
    simp only [lv_args, hstep, ax_at]
    rcases List.mem_cons.mp hm with e | e
    · cases e
      exact ⟨Nat.le_refl _, x, by rw [Nat.beq_refl]; rfl, h1⟩
    · obtain ⟨q1, y, q2, q3⟩ := ty_la_ok (i := i + ty_ct t) hc.2 h2 j s e
      exact ⟨by omega, y, by rw [ty_beq_no (show i ≠ j by omega)]; exact q2, q3⟩
theorem ty_sl_len : ∀ {args : List ty_V} {asx : List Value}, ty_c6 args = true → ty_rs ρ N h args asx → (lg_sl asx).length = ty_cs args
  | [], _, _, hr => by cases hr; rfl
  | t :: r, _, hc, ⟨x, rx, e, h1, h2⟩ => by
    subst e
    simp only [ty_c6, List.all_cons, Bool.and_eq_true] at hc
    have ih := ty_sl_len hc.2 h2
    have hcat := ty_ct_ok hc.1 h1
    have e2 : (lg_sl (x :: rx)).length = ty_ct t + (lg_sl rx).length := by
      show ((if x.category = 2 then [Slot.val x, .second] else [.val x]) ++ lg_sl rx).length = _
      rw [List.length_append, hcat]
      unfold ty_ct
      cases Nat.beq t.1 1 <;> rfl
    rw [e2, ih]
    rfl
noncomputable def ty_stk (n i d W W0 : Nat) (cs : List ty_Ct) (pcs : List Nat) (cuts : List ty_Cu) (L : List ty_E) (args : List ty_V) (pre : ty_O) (s0 mc ms : Nat) : Bool := ax_has i && (ty_c6 args && (Nat.ble (ty_cs args) (ax_mm i).2.2.1 && ty_nml (ty_la 0 args) 1 fun lv N => ty_xp i d W W0 cs pcs cuts L s0 0 [] n false 0 lv [] pre N mc ms))
/-- a contract holds -/
theorem ty_con {n m : Nat} {i d W mc ms : Nat} {args : List ty_V} {pre : ty_O} {L : List ty_E} (hI : ty_Ik I) (hp : ty_pkM l) (hlst : l.stackTraces = false) (W0 : Nat) (cs : List ty_Ct) (pcs : List Nat) (cuts : List ty_Cu) (s0 : Nat) (hcs : ∀ x ∈ cs, ty_M I l x) (hW0 : Nat.beq (W0 &&& ty_IK) 0 = true) (hW : ty_sub W0 W = true) (hst : ty_stk n i d W W0 cs pcs cuts L args pre s0 mc ms = true) (hall : ∀ c ∈ cuts, ty_ctk m i d W W0 cs pcs cuts L c = true) : ty_M I l (i, d, W, mc, ms, args, pre, L) := by
  intro K h asx hr hH hi
  unfold ty_stk at hst
  simp only [Bool.and_eq_true] at hst
  obtain ⟨k1, k2, k3, k4⟩ := hst
  have k3 := Nat.le_of_ble_eq_true k3
  refine AM.of (ax_mfacts k1).2.2.2.2.2.2 hlst (by rw [ty_sl_len k2 hr]; exact k3) ?_
  have hlr : ty_lr ty_z 1 h (ty_la 0 args) (lv_args 0 asx) := fun j t hm => by
    obtain ⟨-, x, x1, x2⟩ := ty_la_ok k2 hr j t hm
    exact ⟨x, x1, x2.mono (Nat.zero_le 1)⟩
  obtain ⟨ρ1, N1, lv1, a1, a2, a3, a4, a5⟩ := ty_nml_ok (g := fun lv N => ty_xp i d W W0 cs pcs cuts L s0 0 [] n false 0 lv [] pre N mc ms) hlr
  rw [a1] at k4
  have hH1 : ty_H K ty_z 1 pre h := ⟨hH.1, fun q hq => by
    obtain ⟨vs, e1, e2, e3⟩ := hH.2.1 q hq
    exact ⟨vs, e1, e2, fun j x hx => ⟨(e3 j x hx).1.mono (Nat.zero_le 1), fun hm => ((e3 j x hx).2 hm).mono (Nat.zero_le 1)⟩⟩, fun j => ty_ps_z (hH.2.2 j)⟩
  exact ty_xp_ok (K := K) (Kc := K) (h0 := h) (v0 := fun _ => 0) hI hW0 hW hp hcs (Or.inl rfl) (ty_Hc_all hI hW0 hW hp hcs hall _) (fun _ => ⟨by decide, by decide⟩) (by decide) n _ _ _ _ _ _ _ _ _ _ _ _ k4 ⟨a2, rfl, a3 _ _ hH1⟩ (fun _ hm => by cases hm) (ty_F_refl W h) hi
end TYC
/-- all of a contract's checks -/
noncomputable def ty_ckC (c : ty_Ct) (W0 : Nat) (cs : List ty_Ct) (pcs : List Nat) (cuts : List ty_Cu) (s0 : Nat) : Bool := Nat.beq (W0 &&& ty_IK) 0 && (ty_sub W0 c.2.2.1 && (ty_stk 1000000 c.1 c.2.1 c.2.2.1 W0 cs pcs cuts c.2.2.2.2.2.2.2 c.2.2.2.2.2.1 c.2.2.2.2.2.2.1 s0 c.2.2.2.1 c.2.2.2.2.1 && cuts.all fun u => ty_ctk 1000000 c.1 c.2.1 c.2.2.1 W0 cs pcs cuts c.2.2.2.2.2.2.2 u))
theorem ty_ckC_ok {I : ax_H → Prop} {l : Launch} {c : ty_Ct} (hI : ty_Ik I) (hp : ty_pkM l) (hlst : l.stackTraces = false) (W0 : Nat) (cs : List ty_Ct) (pcs : List Nat) (cuts : List ty_Cu) (s0 : Nat) (hs : ty_ckC c W0 cs pcs cuts s0 = true) (hcs : ∀ x ∈ cs, ty_M I l x) : ty_M I l c := by
  unfold ty_ckC at hs
  simp only [Bool.and_eq_true] at hs
  obtain ⟨h1, h2, h3, h4⟩ := hs
  exact ty_con hI hp hlst W0 cs pcs cuts s0 hcs h1 h2 h3 (List.all_eq_true.mp h4)
theorem ty_c0 {P : ty_Ct → Prop} : ∀ x ∈ ([] : List ty_Ct), P x := fun _ hm => by cases hm
theorem ty_cc {P : ty_Ct → Prop} {c : ty_Ct} {r : List ty_Ct} (h1 : P c) (h2 : ∀ x ∈ r, P x) : ∀ x ∈ c :: r, P x := fun x hm => by
  rcases List.mem_cons.mp hm with e | e
  · rw [e]; exact h1
  · exact h2 x e
/-- the reference's numberRead, for each place where its token may begin -/
def ty_ctf (c : ty_Ct) (f : Nat) : ty_Ct := (c.1, c.2.1, c.2.2.1, c.2.2.2.1, c.2.2.2.2.1, c.2.2.2.2.2.1, ty_ot c.2.2.2.2.2.2.1 181 10 (0, 0, 0, (f : Int), (f : Int)), c.2.2.2.2.2.2.2)
theorem ty_ctf_ok {I : ax_H → Prop} {l : Launch} {c : ty_Ct} (hb : ty_tl (0, 0, 0, 0, 200) (ty_lk c.2.2.2.2.2.2.1 181 9) = true) (hall : ∀ f, f < 201 → ty_M I l (ty_ctf c f)) : ty_M I l c := by
  intro K h asx hr hH hi
  obtain ⟨vs, e1, e2, e3⟩ := hH.2.1 181 (by decide)
  have hl : vs.length = 32 := by rw [e2]; decide +kernel
  have h9 : vs[9]? = some (vs[9]'(by omega)) := List.getElem?_eq_getElem (by omega)
  obtain ⟨z, hz1, hz2, hz3, -⟩ := ty_tl_ok (ρ' := ty_z) (N' := 0) hb (e3 9 _ h9).1
  have hfd := ty_fd_of e1 h9
  rw [hz1] at hfd
  exact hall z.toInt.toNat (by omega) K h asx hr (hH.put (by decide) hfd ⟨z, rfl, by omega, by omega, Or.inl rfl⟩) hi
theorem ty_rng {P : Nat → Prop} {p : Nat → Bool} {a n : Nat} (h : ((List.range' a n).all p) = true) (hp : ∀ f, p f = true → P f) : ∀ f, a ≤ f → f < a + n → P f := fun f h1 h2 => hp f (List.all_eq_true.mp h f (List.mem_range'_1.mpr ⟨h1, h2⟩))
theorem ty_aa {P : ty_Cu → Prop} {a b : List ty_Cu} (h1 : ∀ c ∈ a, P c) (h2 : ∀ c ∈ b, P c) : ∀ c ∈ a ++ b, P c := fun c hc => by
  rcases List.mem_append.mp hc with e | e
  · exact h1 c e
  · exact h2 c e
theorem ty_ab {P : ty_Ct → Prop} {a b : List ty_Ct} (h1 : ∀ c ∈ a, P c) (h2 : ∀ c ∈ b, P c) : ∀ c ∈ a ++ b, P c := fun c hc => by
  rcases List.mem_append.mp hc with e | e
  · exact h1 c e
  · exact h2 c e
