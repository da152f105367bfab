/-! THE TYPED MACHINE, 14: what the explorer takes goes well -/
section TYS
variable {I : ax_H → Prop} {l : Launch} {i d W W0 : Nat} {L : List ty_E} {Kc K : Int} {h0 : ax_H} {base : List (ty_Lc × ty_V)} {v0 : ty_Lc → Int} {cs : List ty_Ct} {pcs : List Nat} {cuts : List ty_Cu} {s0 s1 : Nat}
variable {ρ : Nat → Int} {N pc : Nat} {lv : List (Nat × ty_V)} {st : List ty_V} {ov : ty_O} {lvx : List (Nat × Value)} {stx : List Value} {h : ax_H} {bc bs : Nat}
theorem AR.le {ns : ax_NS} {k : ax_M} {r : ax_H} {P : ax_P} {X : ax_PX} {bc' bs' : Nat} (h1 : bc' ≤ bc) (h2 : bs' ≤ bs) (K : AR ns l k d r P X pc lvx stx h bc' bs') : AR ns l k d r P X pc lvx stx h bc bs := by
  intro D b o TC TS p e R s m args below meth c Z hX hP hXX lvc ls stc H locs cells slots hG
  obtain ⟨g1, g2, g3, g4, g5, g6, g7⟩ := hG
  exact K D b o TC TS p e R s m args below meth c Z hX hP hXX lvc ls stc H locs cells slots ⟨g1, g2, g3, g4, g5, by omega, by omega⟩
def ty_rq (ρ : Nat → Int) (N : Nat) (h : ax_H) (e : Option ty_V ⊕ String) (res : Option Value ⊕ String) : Prop := match e, res with
  | .inl none, .inl none => True
  | .inl (some t), .inl (some x) => ty_r ρ N h t x
  | .inr E, .inr E' => E' = E
  | _, _ => False
theorem ty_rl2_ok {e r : Option ty_V ⊕ String} {res : Option Value ⊕ String} (hs : ty_rl2 e r = true) (hr : ty_rq ρ N h r res) : ty_rr h e res := by
  unfold ty_rl2 at hs
  split at hs
  · rcases res with (_ | x) | E
    · trivial
    · exact absurd hr id
    · exact absurd hr id
  · rcases res with (_ | x) | E
    · exact absurd hr id
    · exact ty_tl_ok hs hr
    · exact absurd hr id
  · rcases res with (_ | x) | E
    · exact absurd hr id
    · exact absurd hr id
    · have e1 : _ = _ := hr
      have e2 := eq_of_beq hs
      exact e1.trans e2
  · cases hs
theorem ty_inL_ok {r : Option ty_V ⊕ String} {res : Option Value ⊕ String} (hs : ty_inL L r ov = true) (hF : ty_F W h0 h) (hi : I h) (hr : ty_rq ρ N h r res) (hH : ty_H K ρ N ov h) (hK : K = Kc ∨ ty_nK L = true) : ty_Q I Kc W L h0 res h := by
  unfold ty_inL at hs
  obtain ⟨e, he, h1⟩ := List.any_eq_true.mp hs
  simp only [Bool.and_eq_true] at h1
  refine ⟨hF, hi, e, he, ty_rl2_ok h1.1 hr, ?_⟩
  have h2 : ty_H K ty_z 0 e.2 h := hH.weak h1.2
  rcases hK with rfl | hn
  · exact h2
  · exact ty_nK_ok (List.all_eq_true.mp hn e he) h2
abbrev ty_P (I : ax_H → Prop) (i W : Nat) (L : List ty_E) (Kc : Int) (h0 : ax_H) : ax_P := ax_ret ax_ns (ax_mm i) (ty_Q I Kc W L h0)
abbrev ty_X (I : ax_H → Prop) (i W : Nat) (L : List ty_E) (Kc : Int) (h0 : ax_H) : ax_PX := fun _ _ E h _ _ => (ax_mm i).2.2.2.2 = [] ∧ ty_Q I Kc W L h0 (.inr E) h
/-- an end -/
theorem ty_fin_ok {ins : Instr} {a b c : Nat} {v : Value} {ws : List Nat} {r : Option ty_V ⊕ String} (hl : ax_look i pc = some (ins, (a, b, c), v, ws)) (hI : ty_Ik I) (hg : ty_g K ρ N lv st ov lvx stx h) (hF : ty_F W h0 h) (hi : I h) (hK : K = Kc ∨ ty_nK L = true) (hs : ty_fin i pc ins a st bc bs = some r) (hL : ty_inL L r ov = true) : ty_P I i W L Kc h0 pc lvx stx h bc bs := by
  obtain ⟨hd, -⟩ := ax_look_ok hl
  dsimp only at hd
  obtain ⟨-, hst, hH⟩ := hg
  have one : ∀ {t : ty_V}, ty_rs ρ N h [t] stx → ∃ x, stx = [x] ∧ ty_r ρ N h t x := by
    intro t ⟨x, r, e, h1, h2⟩
    cases h2
    exact ⟨x, e, h1⟩
  unfold ty_fin at hs
  split at hs
  · split at hs
    · rename_i t
      obtain ⟨x, rfl, hx⟩ := one hst
      cases hc : Nat.beq t.1 0 with
      | false => rw [hc] at hs; cases hs
      | true =>
        obtain ⟨z, rfl, hz⟩ := ty_r0 hc hx
        rw [hc] at hs
        simp only [Bool.true_and] at hs
        split at hs
        · rename_i hty
          cases hs
          exact Or.inl ⟨_, rfl, rfl, hd, hty, ty_inL_ok hL hF hi hx hH hK⟩
        · rename_i hty
          cases hb : ty_le 0 t.2.2.2.1 && ty_le t.2.2.2.2 1 with
          | false => rw [hb] at hs; cases hs
          | true =>
            rw [hb] at hs
            cases hs
            simp only [Bool.and_eq_true, ty_le_iff] at hb
            refine Or.inr (Or.inl ⟨_, _, rfl, ?_, rfl, hd, hty, ty_inL_ok hL hF hi hx hH hK⟩)
            show (z == 0 || z == 1) = true
            have h1 := hz.1
            have h2 := hz.2.1
            rcases (by omega : z.toInt = 0 ∨ z.toInt = 1) with q | q
            · rw [show z = 0 from Int32.toInt_inj.mp q]; rfl
            · rw [show z = 1 from Int32.toInt_inj.mp q]; rfl
        · cases hs
    · cases hs
  · split at hs
    · rename_i t
      obtain ⟨x, rfl, hx⟩ := one hst
      cases hc : Nat.beq t.1 1 with
      | false => rw [hc] at hs; cases hs
      | true =>
        obtain ⟨z, rfl, hz⟩ := ty_r1 hc hx
        rw [hc] at hs
        simp only [Bool.true_and] at hs
        split at hs
        · rename_i hty
          cases hs
          exact Or.inr (Or.inr (Or.inl ⟨_, rfl, rfl, hd, hty, ty_inL_ok hL hF hi hx hH hK⟩))
        · cases hs
    · cases hs
  · split at hs
    · rename_i t
      obtain ⟨x, rfl, hx⟩ := one hst
      cases hc : ty_isA t with
      | false => rw [hc] at hs; cases hs
      | true =>
        rw [hc] at hs
        simp only [Bool.true_and] at hs
        split at hs
        · rename_i nm hty
          cases hs
          exact Or.inr (Or.inr (Or.inr (Or.inl ⟨_, _, rfl, ty_isA_ok hc hx, hd, hty, Or.inl ⟨_, rfl⟩, ty_inL_ok hL hF hi hx hH hK⟩)))
        · cases hs
    · cases hs
  · split at hs
    · split at hs
      · rename_i hty
        cases hs
        cases hst
        exact Or.inr (Or.inr (Or.inr (Or.inr (Or.inl ⟨rfl, hd, hty, ty_inL_ok hL hF hi trivial hH hK⟩))))
      · cases hs
    · cases hs
  · rename_i cc
    cases hc : ax_thrs.any (fun q => Nat.beq q.1 i && (Nat.beq q.2.1 pc && Nat.beq q.2.2 (a - 800))) && (Nat.ble 800 a && ((ax_mm i).2.2.2.2.isEmpty && (ty_c6 st && (Nat.ble (ty_cs st) 100 && (Nat.ble 1 bc && Nat.ble 6 bs))))) with
    | false => rw [hc] at hs; cases hs
    | true =>
      rw [hc] at hs
      cases hs
      simp only [Bool.and_eq_true] at hc
      obtain ⟨c1, c2, c3, c4, c5, c6, c7⟩ := hc
      obtain ⟨⟨q1, q2, q3⟩, hq, c1⟩ := List.any_eq_true.mp c1
      simp only [Bool.and_eq_true] at c1
      have e1 : q1 = i := Nat.eq_of_beq_eq_true c1.1
      have e2 : q2 = pc := Nat.eq_of_beq_eq_true c1.2.1
      have e3 : q3 = a - 800 := Nat.eq_of_beq_eq_true c1.2.2
      have hq' : (i, pc, a - 800) ∈ ax_thrs := by rw [← e1, ← e2, ← e3]; exact hq
      have h9 : ax_thr ax_ns (ax_mm i) pc (ax_exc.getD (a - 800) "") := ax_thr_ok (i, pc, a - 800) hq'
      have hP : ty_F W h (h ++ [(99, [])]) := ty_F.push hH.1
      have hl9 : 198 ≤ (h ++ [(99, ([] : List Value))]).length := by rw [List.length_append]; have := hH.1; omega
      have hH' : ty_H K ρ N ov (h ++ [(99, [])]) := hH.far ty_Lo_push hl9 (fun q hq => List.getElem?_append_left (Nat.lt_of_lt_of_le hq hH.1))
      have hi' : I (h ++ [(99, [])]) := hI.go (W := 0) (by decide) (ty_F.push hH.1) hi
      exact Or.inr (Or.inr (Or.inr (Or.inr (Or.inr ⟨ax_exc.getD (a - 800) "", h9, List.isEmpty_iff.mp c3, Nat.le_of_ble_eq_true c6, Nat.le_of_ble_eq_true c7, by rw [ty_cs_ok c4 hst]; exact Nat.le_of_ble_eq_true c5, ty_inL_ok hL (hF.trans hP) hi' rfl hH' hK⟩))))
  · cases hs
/-- from wherever the explorer goes on, all goes well -/
def ty_So (I : ax_H → Prop) (l : Launch) (i d W : Nat) (L : List ty_E) (Kc K : Int) (h0 : ax_H) (base : List (ty_Lc × ty_V)) (v0 : ty_Lc → Int) (rec : ty_Rc) : Prop := ∀ (f : Bool) (pc : Nat) (lv : List (Nat × ty_V)) (st : List ty_V) (ov : ty_O) (N bc bs : Nat) (ρ : Nat → Int) (lvx : List (Nat × Value)) (stx : List Value) (h : ax_H), rec f pc lv st ov N bc bs = true → ty_g K ρ N lv st ov lvx stx h → ty_B K ρ N base v0 → ty_F W h0 h → I h → AR ax_ns l (ax_mm i) d ty_R (ty_P I i W L Kc h0) (ty_X I i W L Kc h0) pc lvx stx h bc bs
theorem ty_H.putp {j : Nat} {t : ty_V} (hH : ty_H K ρ N ov h) (ht : ty_ps K ρ N h j t) : ty_H K ρ N (ty_ot ov 300 (j + 1) t) h := by
  obtain ⟨h1, h2, h3⟩ := hH
  refine ⟨h1, fun q hq => ?_, fun j' => ?_⟩
  · obtain ⟨vs, e1, e2, e3⟩ := h2 q hq
    refine ⟨vs, e1, e2, fun j' x hx => ?_⟩
    rw [ty_lk_ot, if_neg (fun c => by have := c.1; omega)]
    exact e3 j' x hx
  · rw [ty_lk_ot]
    split
    · rename_i c
      rw [c.2]
      exact ht
    · exact h3 j'
/-- the reference's peek -/
theorem ty_pk_ok {rec : ty_Rc} {ins : Instr} {b c : Nat} {v : Value} {ws : List Nat} {k : ty_V} {kx : Value} {rx : List Value} (hl : ax_look i pc = some (ins, (145, b, c), v, ws)) (hp : ty_pkM l) (hrec : ty_So I l i d W L Kc K h0 base v0 rec) (ha : ax_arg ty_R ins 145 b c stx h = some ([.ref 181, kx], rx)) (hg : ty_g K ρ N lv st ov lvx rx h) (hkx : ty_r ρ N h k kx) (hB : ty_B K ρ N base v0) (hF : ty_F W h0 h) (hi : I h) (hs : ty_pk d pc k lv st ov N bc bs rec = true) : AR ax_ns l (ax_mm i) d ty_R (ty_P I i W L Kc h0) (ty_X I i W L Kc h0) pc lvx stx h bc bs := by
  refine AR.small fun hlen => ?_
  unfold ty_pk at hs
  simp only [Bool.and_eq_true] at hs
  obtain ⟨hd, hk0, h6, h7, hN, hs⟩ := hs
  obtain ⟨kk, rfl, hk⟩ := ty_r0 hk0 hkx
  have hH := hg.2.2
  obtain ⟨ms, m1, m2, m3⟩ := hH.2.1 181 (by decide)
  have t1 : (ty_tab 181).1 = 9 := by decide +kernel
  have t2 : (ty_tab 181).2.1 = 32 := by decide +kernel
  rw [t1] at m1
  rw [t2] at m2
  obtain ⟨tx, x1, x2, x3⟩ := hH.2.1 185 (by decide)
  have u1 : (ty_tab 185).1 = 100 := by decide +kernel
  have u2 : (ty_tab 185).2.1 = 200 := by decide +kernel
  have u3 : ty_ar 185 = true := by decide +kernel
  rw [u1] at x1
  rw [u2] at x2
  have e6 : ms[6]? = some (ms[6]'(by omega)) := List.getElem?_eq_getElem (by omega)
  have e7 : ms[7]? = some (ms[7]'(by omega)) := List.getElem?_eq_getElem (by omega)
  have r6 : ms[6]'(by omega) = .ref 185 := ty_tl_ok (ρ' := ρ) (N' := N) h6 (m3 6 _ e6).1
  obtain ⟨sz, r7, hz⟩ := ty_r0 h7 (m3 7 _ e7).1
  rw [r6] at e6
  rw [r7] at e7
  obtain ⟨ρ', M, z, n1, n2, n3, n4, n5⟩ := ty_nm_ok (f := fun z M => Nat.beq z.1 0 && ty_os ov 181 8 z fun ov =>
    ty_brC 3 k z lv st ov (fun lv st ov _ _ => ax_fn (pc + 3) fun p => rec false p lv ((0, 0, 0, -1, -1) :: st) ov M bc bs) &&
    ty_brC 2 k z lv st ov (fun lv st ov x _ => ty_le 0 x.2.2.2.1 && (ty_le x.2.2.2.2 199 && (ty_no ov 185 && (ty_tl (0, 0, 0, 0, 255) (ty_un ov 185) && (ax_if (ty_sa x (ty_lk ov 181 9))
      (ty_os ov 300 1 (0, M, 0, 0, 255) fun ov => ax_fn (pc + 3) fun p => ax_fn (M + 1) fun M1 => rec false p lv ((0, M, 0, 0, 255) :: st) ov M1 bc bs)
      (ax_fn (pc + 3) fun p => ax_fn (M + 1) fun M1 => rec false p lv ((0, M, 0, 0, 255) :: st) ov M1 bc bs))))))) (m3 7 _ e7).1
  rw [n1] at hs
  simp only [ty_os_eq, Bool.and_eq_true] at hs
  obtain ⟨hz0, hs3, hs2⟩ := hs
  have f7 : ty_fd h 181 7 = some (.int sz) := ty_fd_of m1 e7
  have hg' : ty_g K ρ' M lv st (ty_ot ov 181 8 z) lvx rx h := by
    obtain ⟨g1, g2, g3⟩ := n3 K lv st ov lvx rx hg
    exact ⟨g1, g2, g3.put (by decide) f7 n2⟩
  have hk' : ty_in ρ' M k.2.1 k.2.2.1 k.2.2.2.1 k.2.2.2.2 kk.toInt := hk.ex n5
  have hz' : ty_in ρ' M z.2.1 z.2.2.1 z.2.2.2.1 z.2.2.2.2 sz.toInt := by
    obtain ⟨i2, e2, hi2⟩ := ty_r0 hz0 n2
    cases e2
    exact hi2
  have low : kk < sz → (¬ kk < 0 ∧ ∃ i : Int32, tx[kk.toNatClampNeg]? = some (.int i)) := by
    intro hlt
    have hlt : kk.toInt < sz.toInt := Int32.lt_iff_toInt_lt.mp hlt
    obtain ⟨lv', st', ov', x', y', b1, b2, b3, b4, b5, b6⟩ := ty_brC_ok hg' hk' hz' (c := 2) hlt hs2
    simp only [Bool.and_eq_true, ty_le_iff] at b1
    obtain ⟨q1, q2, q7, q8, -⟩ := b1
    obtain ⟨p1, p2, -⟩ := b5
    have hx := ty_idx (n := 200) (i := kk) (by omega) (by omega)
    have hx2 := hx.2.1
    obtain ⟨tx', w1, w2, w3⟩ := b2.2.2.2.1 185 (by decide)
    rw [x1] at w1
    cases w1
    have hg9 : tx[kk.toNatClampNeg]? = some (tx[kk.toNatClampNeg]'(by omega)) := List.getElem?_eq_getElem (by omega)
    have hc9 := (w3 _ _ hg9).1
    rw [ty_no_ok q7 u3] at hc9
    obtain ⟨ci, e, -⟩ := ty_tl_ok (ρ' := ρ') (N' := M) q8 hc9
    exact ⟨hx.1, ci, by rw [hg9, e]⟩
  have hM := hp h kk sz tx ms hlen m1 e6 e7 x1 low
  refine AR.call hl ha hM (Nat.le_of_ble_eq_true hd) (Nat.zero_le _) (Nat.zero_le _) ?_ ?_
  · rintro v h' ⟨e, q⟩
    have e := e.symm
    subst e
    rcases q with ⟨q1, q2⟩ | ⟨q1, cc, q2, q3⟩
    · cases q2
      have hle : sz.toInt ≤ kk.toInt := Int32.le_iff_toInt_le.mp q1
      obtain ⟨lv', st', ov', x', y', b1, b2, -⟩ := ty_brC_ok hg' hk' hz' (c := 3) hle hs3
      simp only [ax_fn_eq] at b1
      exact hrec _ _ _ _ _ _ _ _ _ _ _ _ b1 ⟨b2.1, ⟨_, _, rfl, ⟨-1, rfl, by decide, by decide, Or.inl rfl⟩, b2.2.1⟩, b2.2.2⟩ (hB.ex n5) hF hi
    · cases q3
      have hlt : kk.toInt < sz.toInt := Int32.lt_iff_toInt_lt.mp q1
      obtain ⟨lv', st', ov', x', y', b1, b2, b3, b4, b5, b6⟩ := ty_brC_ok hg' hk' hz' (c := 2) hlt hs2
      simp only [Bool.and_eq_true, ty_le_iff] at b1
      obtain ⟨q5, q6, q7, q8, b1⟩ := b1
      obtain ⟨tx', w1, w2, w3⟩ := b2.2.2.2.1 185 (by decide)
      rw [x1] at w1
      cases w1
      have hc9 := (w3 _ _ q2).1
      rw [ty_no_ok q7 u3] at hc9
      obtain ⟨ci, rfl, hci⟩ := ty_tl_ok (ρ' := ρ') (N' := M) q8 hc9
      have hM1 : M ≠ 0 := Nat.ne_of_gt (Nat.lt_of_lt_of_le (Nat.le_of_ble_eq_true hN) n5.1)
      have b3' : ty_g K (ty_up ρ' M ci.toInt) (M + 1) lv' st' ov' lvx rx h := b2.up
      have hnew : ty_in (ty_up ρ' M ci.toInt) (M + 1) M 0 0 255 ci.toInt := hci.new hM1
      have hB' : ty_B K (ty_up ρ' M ci.toInt) (M + 1) base v0 := (hB.ex n5).ex (ty_ex_up ρ' M ci.toInt)
      cases hsa : ty_sa x' (ty_lk ov' 181 9) with
      | false =>
        simp only [ax_if, hsa, ax_fn_eq] at b1
        exact hrec _ _ _ _ _ _ _ _ _ _ _ _ b1 ⟨b3'.1, ⟨_, _, rfl, ⟨ci, rfl, hnew⟩, b3'.2.1⟩, b3'.2.2⟩ hB' hF hi
      | true =>
        simp only [ax_if, hsa, ax_fn_eq, ty_os_eq] at b1
        refine hrec _ _ _ _ _ _ _ _ _ _ _ _ b1 ⟨b3'.1, ⟨_, _, rfl, ⟨ci, rfl, hnew⟩, b3'.2.1⟩, b3'.2.2.putp (j := 0) ?_⟩ hB' hF hi
        intro w hw
        obtain ⟨ms', y1, y2, y3⟩ := b2.2.2.2.1 181 (by decide)
        rw [t1, m1] at y1
        cases y1
        have e9 : ms[9]? = some (ms[9]'(by omega)) := List.getElem?_eq_getElem (by omega)
        have r9 := (y3 9 _ e9).1
        have f9 := ty_fd_of m1 e9
        -- the field's value
        have hy0 : Nat.beq (ty_lk ov' 181 9).1 0 = true := by
          revert hsa
          obtain ⟨yk, y2⟩ := ty_lk ov' 181 9
          intro hsa
          simp only [ty_sa, Bool.and_eq_true] at hsa
          exact hsa.1
        obtain ⟨fi, rr9, hfi⟩ := ty_r0 hy0 r9
        rw [rr9] at f9
        have heq := (ty_sa_ok hsa b5 hfi).1
        have hfk : fi = kk := Int32.toInt_inj.mp heq.symm
        have hn := (ty_idx (n := 200) (i := kk) (by have := b5.1; omega) (by have := b5.2.1; omega)).2.2
        have htn : kk.toInt.toNat = kk.toNatClampNeg := by omega
        have f5 : ty_fd h 185 kk.toNatClampNeg = some (.int ci) := ty_fd_of x1 q2
        simp only [ty_pv, f9, hfk, ty_iv, Option.bind_some, htn, f5] at hw
        cases hw
        exact hnew
  · rintro E h' ⟨-, q⟩
    rcases q with ⟨-, q⟩ | ⟨-, cc, -, q⟩ <;> cases q
end TYS
