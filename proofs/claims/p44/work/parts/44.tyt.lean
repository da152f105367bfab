/-! THE TYPED MACHINE, 13: the explorer -/
theorem ty_rs_len {ρ : Nat → Int} {N : Nat} {h : ax_H} : ∀ {st : List ty_V} {stx : List Value}, ty_rs ρ N h st stx → stx.length = st.length
  | [], _, hr => by cases hr; rfl
  | _ :: _, _, ⟨x, r, e, _, h2⟩ => by subst e; simp [ty_rs_len h2]
theorem ty_rs_take {ρ : Nat → Int} {N : Nat} {h : ax_H} : ∀ (n : Nat) {st : List ty_V} {stx : List Value}, ty_rs ρ N h st stx → ty_rs ρ N h (st.take n) (stx.take n)
  | 0, _, _, _ => by simp only [List.take_zero]; rfl
  | _ + 1, [], _, hr => by cases hr; rfl
  | n + 1, _ :: _, _, ⟨x, r, e, h1, h2⟩ => by subst e; exact ⟨x, r.take n, rfl, h1, ty_rs_take n h2⟩
theorem ty_rs_drop {ρ : Nat → Int} {N : Nat} {h : ax_H} : ∀ (n : Nat) {st : List ty_V} {stx : List Value}, ty_rs ρ N h st stx → ty_rs ρ N h (st.drop n) (stx.drop n)
  | 0, _, _, hr => hr
  | _ + 1, [], _, hr => by cases hr; rfl
  | n + 1, _ :: _, _, ⟨x, r, e, _, h2⟩ => by subst e; exact ty_rs_drop n h2
theorem ty_rs_app {ρ : Nat → Int} {N : Nat} {h : ax_H} : ∀ {a b : List ty_V} {x y : List Value}, ty_rs ρ N h a x → ty_rs ρ N h b y → ty_rs ρ N h (a ++ b) (x ++ y)
  | [], _, _, _, h1, h2 => by cases h1; exact h2
  | _ :: _, _, _, y, ⟨x, r, e, h1, h3⟩, h2 => by subst e; exact ⟨x, r ++ y, rfl, h1, ty_rs_app h3 h2⟩
theorem ty_rs_rev {ρ : Nat → Int} {N : Nat} {h : ax_H} : ∀ {st : List ty_V} {stx : List Value}, ty_rs ρ N h st stx → ty_rs ρ N h st.reverse stx.reverse
  | [], _, hr => by cases hr; rfl
  | _ :: _, _, ⟨x, r, e, h1, h2⟩ => by
    subst e
    rw [List.reverse_cons, List.reverse_cons]
    exact ty_rs_app (ty_rs_rev h2) ⟨x, [], rfl, h1, rfl⟩
theorem ty_rs_get {ρ : Nat → Int} {N : Nat} {h : ax_H} : ∀ {st : List ty_V} {stx : List Value} {p : Nat} {t : ty_V}, ty_rs ρ N h st stx → st[p]? = some t → ∃ x, stx[p]? = some x ∧ ty_r ρ N h t x
  | [], _, _, _, _, e => by simp at e
  | _ :: _, _, 0, _, ⟨x, r, e, h1, _⟩, e2 => by
    subst e
    simp only [List.getElem?_cons_zero, Option.some.injEq] at e2
    subst e2
    exact ⟨x, rfl, h1⟩
  | _ :: _, _, p + 1, _, ⟨x, r, e, _, h2⟩, e2 => by
    subst e
    simp only [List.getElem?_cons_succ] at e2
    exact ty_rs_get (p := p) h2 e2
theorem ty_rs_set {ρ : Nat → Int} {N : Nat} {h : ax_H} : ∀ {st : List ty_V} {stx : List Value} {p : Nat} {t : ty_V} {x : Value}, ty_rs ρ N h st stx → stx[p]? = some x → ty_r ρ N h t x → ty_rs ρ N h (st.set p t) stx
  | [], _, _, _, _, hr, e, _ => by cases hr; simp at e
  | _ :: _, _, 0, _, _, ⟨x, r, e, _, h2⟩, e2, ht => by
    subst e
    simp only [List.getElem?_cons_zero, Option.some.injEq] at e2
    subst e2
    exact ⟨x, r, rfl, ht, h2⟩
  | _ :: _, _, p + 1, _, _, ⟨x, r, e, h1, h2⟩, e2, ht => by
    subst e
    simp only [List.getElem?_cons_succ] at e2
    exact ⟨x, r, rfl, h1, ty_rs_set h2 e2 ht⟩
/-! arguments -/
def ty_cls (r : ty_V) : Option Nat := match r with
  | (2, q, _) => bif Nat.blt q 198 then some (ty_tab q).1 else none
  | (3, g, _) => some (ty_gl g).1
  | _ => none
theorem ty_cls_ok {K : Int} {ρ : Nat → Int} {N t : Nat} {ov : ty_O} {h : ax_H} {r : ty_V} {x : Value} (hH : ty_H K ρ N ov h) (hr : ty_r ρ N h r x) (hc : ty_cls r = some t) : ∃ (q : Nat) (vs : List Value), x = .ref q ∧ ax_get ty_R h q = some (t, vs) := by
  unfold ty_cls at hc
  split at hc
  · rename_i q s
    cases hq : Nat.blt q 198 with
    | false => rw [hq] at hc; cases hc
    | true =>
      rw [hq] at hc
      cases hc
      have hq : q < 198 := Nat.le_of_ble_eq_true hq
      obtain ⟨vs, e1, -⟩ := hH.2.1 q hq
      exact ⟨q, vs, hr, by rw [ax_get_lt (ty_q9 hq)]; exact e1⟩
  · rename_i g s
    obtain ⟨q, rfl, hm⟩ := hr
    have hq := ty_gm_lt hm
    obtain ⟨vs, e1, -⟩ := hH.2.1 q hq
    have := (ty_g_ok (ty_gm6 hm) hm).1
    cases hc
    exact ⟨q, vs, rfl, by rw [ax_get_lt (ty_q9 hq), e1, this]⟩
  · cases hc
noncomputable def ty_arg (ins : Instr) (a b c : Nat) (st : List ty_V) : Option (List ty_V × List ty_V) := match ins with
  | .invokestatic _ => bif ax_has a && (ax_st a && (Nat.ble b st.length && (ty_c6 (st.drop b) && Nat.ble (ty_cs (st.drop b)) 8))) then some ((st.take b).reverse, st.drop b) else none
  | .invokevirtual _ => (match st.drop b with
    | r :: rest => bif ax_has a && (!(ax_st a) && ((ax_mm a).2.2.2.2.isEmpty && (Nat.ble b st.length && (ty_c6 rest && (Nat.ble (ty_cs rest) 8 && (match ty_cls r with | some t => Nat.beq t c | none => false)))))) then some (r :: (st.take b).reverse, rest) else none
    | _ => none)
  | _ => none
theorem ty_arg_ok {K : Int} {ρ : Nat → Int} {N : Nat} {ov : ty_O} {h : ax_H} {ins : Instr} {a b c : Nat} {st as rest : List ty_V} {stx : List Value} (hH : ty_H K ρ N ov h) (hst : ty_rs ρ N h st stx) (hs : ty_arg ins a b c st = some (as, rest)) : ∃ asx rx, ax_arg ty_R ins a b c stx h = some (asx, rx) ∧ ty_rs ρ N h as asx ∧ ty_rs ρ N h rest rx := by
  unfold ty_arg at hs
  split at hs
  · cases hc : ax_has a && (ax_st a && (Nat.ble b st.length && (ty_c6 (st.drop b) && Nat.ble (ty_cs (st.drop b)) 8))) with
    | false => rw [hc] at hs; cases hs
    | true =>
      rw [hc] at hs
      cases hs
      simp only [Bool.and_eq_true] at hc
      obtain ⟨c1, c2, c3, c4, c5⟩ := hc
      have hd := ty_rs_drop b hst
      have h5 : ((stx.drop b).map fun v => v.category).sum ≤ 8 := by rw [ty_cs_ok c4 hd]; exact Nat.le_of_ble_eq_true c5
      have h3 : b ≤ stx.length := by rw [ty_rs_len hst]; exact Nat.le_of_ble_eq_true c3
      exact ⟨_, _, by simp only [ax_arg]; rw [if_pos ⟨c1, c2, h3, h5⟩], ty_rs_rev (ty_rs_take b hst), hd⟩
  · split at hs
    · rename_i r rs e
      cases hc : ax_has a && (!(ax_st a) && ((ax_mm a).2.2.2.2.isEmpty && (Nat.ble b st.length && (ty_c6 rs && (Nat.ble (ty_cs rs) 8 && (match ty_cls r with | some t => Nat.beq t c | none => false)))))) with
      | false => rw [hc] at hs; cases hs
      | true =>
        rw [hc] at hs
        cases hs
        simp only [Bool.and_eq_true, Bool.not_eq_true'] at hc
        obtain ⟨c1, c2, c3, c4, c5, c6, c7⟩ := hc
        have hd := ty_rs_drop b hst
        rw [e] at hd
        obtain ⟨x, rx, e2, h1, h2⟩ := hd
        split at c7
        · rename_i t ht
          have c7 := Nat.eq_of_beq_eq_true c7
          obtain ⟨q, vs, rfl, hg⟩ := ty_cls_ok hH h1 ht
          have h5 : (rx.map fun v => v.category).sum ≤ 8 := by rw [ty_cs_ok c5 h2]; exact Nat.le_of_ble_eq_true c6
          have h3 : b ≤ stx.length := by rw [ty_rs_len hst]; exact Nat.le_of_ble_eq_true c4
          refine ⟨.ref q :: (stx.take b).reverse, rx, ?_, ⟨_, _, rfl, h1, ty_rs_rev (ty_rs_take b hst)⟩, h2⟩
          simp only [ax_arg, e2, hg]
          rw [if_pos ⟨c1, c2, List.isEmpty_iff.mp c3, h3, h5, c7⟩]
        · cases c7
    · cases hs
  · cases hs
/-! where a number is looked at in parts -/
def ty_th (lo hi : Int) : List Int → Option Int
  | [] => none
  | t :: r => bif !(ty_le t lo) && ty_le t hi then some t else ty_th lo hi r
def ty_spl : List (Nat × List (Nat × List Int)) := [(39, [(1, [6])]), (65, [(0, [48, 58])]), (68, [(1, [200])]), (111, [(1, [0, 60])]), (112, [(0, [0, 24])]), (113, [(0, [0, 12])]), (114, [(0, [0, 24])]), (116, [(0, [0, 4096])]), (133, [(1, [0, 60])]), (134, [(0, [0, 12])]), (135, [(0, [0, 24])]), (145, [(1, [200])]), (146, [(0, [48, 58])]), (204, [(0, [0, 4096])])]
def ty_spf (a : Nat) : List (Nat × List (Nat × List Int)) → List (Nat × List Int)
  | [] => []
  | x :: r => bif Nat.beq x.1 a then x.2 else ty_spf a r
def ty_spq (as : List ty_V) : List (Nat × List Int) → Option (Nat × Int)
  | [] => none
  | x :: r => match as[x.1]? with
    | some (0, _, _, lo, hi) => (match ty_th lo hi x.2 with
      | some t => some (as.length - 1 - x.1, t)
      | none => ty_spq as r)
    | _ => ty_spq as r
noncomputable def ty_sps (p : Nat) (t : Int) (lv : List (Nat × ty_V)) (st : List ty_V) (ov : ty_O) (g : List (Nat × ty_V) → List ty_V → ty_O → Bool) : Bool := match st[p]? with
  | some (0, n, f, a, z) => ax_if (Nat.beq n 0) (ty_fz (t - 1) fun t1 => ax_hs st p (0, 0, 0, a, t1) (fun st => g lv st ov) && ax_hs st p (0, 0, 0, t, z) (fun st => g lv st ov)) (ty_fz (t - 1) fun t1 => ty_nwx n f a t1 lv st ov g && ty_nwx n f t z lv st ov g)
  | _ => false
theorem ty_sps_ok {K : Int} {ρ : Nat → Int} {N p : Nat} {t : Int} {lv : List (Nat × ty_V)} {st : List ty_V} {ov : ty_O} {lvx : List (Nat × Value)} {stx : List Value} {h : ax_H} {g : List (Nat × ty_V) → List ty_V → ty_O → Bool} (hg : ty_g K ρ N lv st ov lvx stx h) (hs : ty_sps p t lv st ov g = true) : ∃ lv' st' ov', g lv' st' ov' = true ∧ ty_g K ρ N lv' st' ov' lvx stx h := by
  unfold ty_sps at hs
  split at hs
  · rename_i n f a z e
    obtain ⟨x, hx, i, rfl, i1, i2, i3⟩ := ty_rs_get hg.2.1 e
    cases hn : Nat.beq n 0 with
    | true =>
      simp only [ax_if, hn, ty_fz_eq, ax_hs_eq, Bool.and_eq_true] at hs
      rcases (by omega : i.toInt ≤ t - 1 ∨ t ≤ i.toInt) with q | q
      · exact ⟨lv, _, ov, hs.1, hg.1, ty_rs_set hg.2.1 hx ⟨i, rfl, i1, q, Or.inl rfl⟩, hg.2.2⟩
      · exact ⟨lv, _, ov, hs.2, hg.1, ty_rs_set hg.2.1 hx ⟨i, rfl, q, i2, Or.inl rfl⟩, hg.2.2⟩
    | false =>
      simp only [ax_if, hn, ty_fz_eq, Bool.and_eq_true] at hs
      rcases (by omega : i.toInt ≤ t - 1 ∨ t ≤ i.toInt) with q | q
      · obtain ⟨lv', st', ov', e1, e2⟩ := ty_nwx_ok (g := g) hg i3 i1 q
        rw [e1] at hs
        exact ⟨lv', st', ov', hs.1, e2⟩
      · obtain ⟨lv', st', ov', e1, e2⟩ := ty_nwx_ok (g := g) hg i3 q i2
        rw [e1] at hs
        exact ⟨lv', st', ov', hs.2, e2⟩
  · cases hs
/-- the reference's numberRead begins with each place in turn -/
def ty_fsq (i pc : Nat) (ov : ty_O) : Option (Int × Int) := bif Nat.beq i 150 && Nat.beq pc 0 then (match ty_lk ov 181 9 with
  | (0, 0, _, lo, hi) => bif ty_le hi lo then none else some (lo, hi)
  | _ => none) else none
abbrev ty_Rc : Type := Bool → Nat → List (Nat × ty_V) → List ty_V → ty_O → Nat → Nat → Nat → Bool
/-- the reference's peek, as a step -/
noncomputable def ty_pk (d pc : Nat) (k : ty_V) (lv : List (Nat × ty_V)) (st : List ty_V) (ov : ty_O) (N : Nat) (bc bs : Nat) (rec : ty_Rc) : Bool := Nat.ble 2 d && (Nat.beq k.1 0 && (ty_tl (2, 185, 0, 0, 0) (ty_lk ov 181 6) && (Nat.beq (ty_lk ov 181 7).1 0 && (Nat.ble 1 N && ty_nm N (ty_lk ov 181 7) fun z M => Nat.beq z.1 0 && ty_os ov 181 8 z fun ov =>
  ty_brC 3 k z lv st ov (fun lv st ov _ _ => ax_fn (pc + 3) fun p => rec false p lv ((0, 0, 0, -1, -1) :: st) ov M bc bs) &&
  ty_brC 2 k z lv st ov (fun lv st ov x _ => ty_le 0 x.2.2.2.1 && (ty_le x.2.2.2.2 199 && (ty_no ov 185 && (ty_tl (0, 0, 0, 0, 255) (ty_un ov 185) && (ax_if (ty_sa x (ty_lk ov 181 9))
    (ty_os ov 300 1 (0, M, 0, 0, 255) fun ov => ax_fn (pc + 3) fun p => ax_fn (M + 1) fun M1 => rec false p lv ((0, M, 0, 0, 255) :: st) ov M1 bc bs)
    (ax_fn (pc + 3) fun p => ax_fn (M + 1) fun M1 => rec false p lv ((0, M, 0, 0, 255) :: st) ov M1 bc bs))))))))))
def ty_pkM (l : Launch) : Prop := ∀ (h : ax_H) (k sz : Int32) (tx ms : List Value), h.length < 1000000000 → h[181]? = some (9, ms) → ms[6]? = some (.ref 185) → ms[7]? = some (.int sz) → h[185]? = some (100, tx) → (k < sz → ¬ k < 0 ∧ ∃ i : Int32, tx[k.toNatClampNeg]? = some (.int i)) →
  AM ax_ns l (ax_mm 145) 1 ty_R 0 0 [.ref 181, .int k] h (fun res h' => h' = h ∧ ((sz ≤ k ∧ res = .inl (some (.int (-1)))) ∨ (k < sz ∧ ∃ c, tx[k.toNatClampNeg]? = some c ∧ res = .inl (some c))))
/-- at a call -/
noncomputable def ty_cll (i d W pc : Nat) (ins : Instr) (a b c : Nat) (cs : List ty_Ct) (L : List ty_E) (lv : List (Nat × ty_V)) (st : List ty_V) (ov : ty_O) (N bc bs : Nat) (rec : ty_Rc) : Bool := match ty_arg ins a b c st with
  | none => false
  | some (as, rest) => match ty_spq as (ty_spf a ty_spl) with
    | some (p, t) => ty_sps p t lv st ov fun lv st ov => rec true pc lv st ov N bc bs
    | none => ax_if (Nat.beq a 145) (match as with
      | [(2, 181, _), k] => ty_pk d pc k lv rest ov N bc bs rec
      | _ => false) (match cs.find? (fun x => Nat.beq x.1 a && (ty_asl x.2.2.2.2.2.1 as && ty_ole x.2.2.2.2.2.2.1 ov)) with
      | none => false
      | some x => Nat.ble (x.2.1 + 1) d && (ty_sub x.2.2.1 W && (ty_wk x.2.2.1 && (Nat.ble x.2.2.2.1 bc && (Nat.ble x.2.2.2.2.1 bs && ax_fn (bc - x.2.2.2.1) fun bc => ax_fn (bs - x.2.2.2.2.1) fun bs => x.2.2.2.2.2.2.2.all fun e => ty_mgC x.2.2.1 e.2 ov fun ov => ty_em ov || (match e.1 with
        | .inl none => ax_fn (pc + 3) fun p => rec false p lv rest ov N bc bs
        | .inl (some t) => ax_fn (pc + 3) fun p => rec false p lv (t :: rest) ov N bc bs
        | .inr E => (match ax_hand i pc E with
          | some q => rec false q.2.2.2.1 lv [(5, 0, 0, 0, 0)] ov N bc bs
          | none => (ax_mm i).2.2.2.2.isEmpty && ty_inL L (.inr E) ov)))))))
def ty_lsub : List (Nat × ty_V) → List (Nat × ty_V) → Bool
  | [], _ => true
  | q :: r, lv => (match ty_at lv q.1 with
    | some s => ty_tl q.2 s
    | none => false) && ty_lsub r lv
/-- at a place where ways meet -/
def ty_cq (cuts : List ty_Cu) (s0 s1 : Nat) (base : List (ty_Lc × ty_V)) (pc : Nat) (lv : List (Nat × ty_V)) (ov : ty_O) (bc bs : Nat) : Bool := cuts.any fun c => Nat.beq c.1 pc && (Nat.ble c.2.2.2.1 bc && (Nat.ble c.2.2.2.2.1 bs && (ty_lsub c.2.1 lv && (ty_ole c.2.2.1 ov && (Nat.blt c.2.2.2.2.2.2.1 2 && ty_rk s0 s1 base c lv ov)))))
noncomputable def ty_bd (i d W W0 : Nat) (cs : List ty_Ct) (pcs : List Nat) (cuts : List ty_Cu) (L : List ty_E) (s0 s1 : Nat) (base : List (ty_Lc × ty_V)) (rec : ty_Rc) (f : Bool) (pc : Nat) (lv : List (Nat × ty_V)) (st : List ty_V) (ov : ty_O) (N bc bs : Nat) : Bool := ax_if (!f && pcs.any (Nat.beq pc)) (st.isEmpty && ty_cq cuts s0 s1 base pc lv ov bc bs) (match ty_fsq i pc ov with
  | some (lo, hi) => ty_fz lo fun lo => ty_fz hi fun hi => ty_fz (lo + 1) fun lo1 => ty_os ov 181 10 (0, 0, 0, lo, lo) (fun ov => rec true pc lv st ov N bc bs) && ty_os ov 181 10 (0, 0, 0, lo1, hi) (fun ov => rec true pc lv st ov N bc bs)
  | none => match ax_look i pc with
    | none => false
    | some (ins, (a, b, c), v, _) => match ax_kind ins a c with
      | 0 => ty_nx W0 (ax_mm i).2.2.1 pc ins a b v lv st ov N (fun pc lv st ov N dc ds => Nat.ble dc bc && (Nat.ble ds bs && ax_fn (bc - dc) fun bc => ax_fn (bs - ds) fun bs => rec false pc lv st ov N bc bs))
      | 1 => ty_cll i d W pc ins a b c cs L lv st ov N bc bs rec
      | _ => (match ty_fin i pc ins a st bc bs with
        | some r => ty_inL L r ov
        | none => false))
noncomputable def ty_xp (i d W W0 : Nat) (cs : List ty_Ct) (pcs : List Nat) (cuts : List ty_Cu) (L : List ty_E) (s0 s1 : Nat) (base : List (ty_Lc × ty_V)) (n : Nat) : ty_Rc := @Nat.rec (fun _ => ty_Rc) (fun _ _ _ _ _ _ _ _ => false) (fun _ rec => ty_bd i d W W0 cs pcs cuts L s0 s1 base rec) n
/-- no row of the ends speaks of K -/
def ty_nK (L : List ty_E) : Bool := L.all fun e => e.2.all fun x => !(Nat.beq x.1 300 && Nat.beq x.2.1 3)
theorem ty_nK_ok {K K' : Int} {ρ : Nat → Int} {N : Nat} {e : ty_O} {h : ax_H} (hn : (e.all fun x => !(Nat.beq x.1 300 && Nat.beq x.2.1 3)) = true) (hH : ty_H K' ρ N e h) : ty_H K ρ N e h := by
  obtain ⟨h1, h2, h3⟩ := hH
  refine ⟨h1, h2, fun j => ?_⟩
  by_cases ej : j = 2
  · subst ej
    have : ty_fi e 300 3 = none := by
      cases hx : ty_fi e 300 3 with
      | none => rfl
      | some t =>
        have := List.all_eq_true.mp hn _ (ty_fi_mem hx)
        simp at this
    have e2 : ty_lk e 300 2 = (7, 0, 0, 0, 0) := by
      unfold ty_lk
      rw [this]
      show (bif ty_ar 300 then ty_un e 300 else ty_tt 300 2) = _
      rw [show ty_ar 300 = false by decide +kernel]
      exact (by decide +kernel : ty_tt 300 2 = (7, 0, 0, 0, 0))
    rw [e2]
    exact ty_ps7
  · have : ty_pv K h j = ty_pv K' h j := by
      rcases j with _ | _ | _ | j
      · rfl
      · rfl
      · exact absurd rfl ej
      · rfl
    have hj := h3 j
    unfold ty_ps at hj ⊢
    rw [this]
    exact hj
