/-! THE TYPED MACHINE, 15: calls, the whole explorer -/
section TYS2
variable {I : ax_H → Prop} {l : Launch} {i d W W0 : Nat} {L : List ty_E} {Kc K : Int} {h0 : ax_H} {base : List (ty_Lc × ty_V)} {v0 : ty_Lc → Int} {cs : List ty_Ct} {pcs : List Nat} {cuts : List ty_Cu} {s0 s1 : Nat}
variable {ρ : Nat → Int} {N pc : Nat} {lv : List (Nat × ty_V)} {st : List ty_V} {ov : ty_O} {lvx : List (Nat × Value)} {stx : List Value} {h : ax_H} {bc bs : Nat}
theorem ty_cll_ok {rec : ty_Rc} {ins : Instr} {a b c : Nat} {v : Value} {ws : List Nat} (hl : ax_look i pc = some (ins, (a, b, c), v, ws)) (hp : ty_pkM l) (hcs : ∀ x ∈ cs, ty_M I l x) (hK : K = Kc ∨ ty_nK L = true) (hrec : ty_So I l i d W L Kc K h0 base v0 rec) (hg : ty_g K ρ N lv st ov lvx stx h) (hB : ty_B K ρ N base v0) (hF : ty_F W h0 h) (hi : I h) (hs : ty_cll i d W pc ins a b c cs L lv st ov N bc bs rec = true) : AR ax_ns l (ax_mm i) d ty_R (ty_P I i W L Kc h0) (ty_X I i W L Kc h0) pc lvx stx h bc bs := by
  unfold ty_cll at hs
  split at hs
  · cases hs
  · rename_i as rest hsa
    obtain ⟨asx, rx, ha, h1, h2⟩ := ty_arg_ok (c := c) hg.2.2 hg.2.1 hsa
    split at hs
    · rename_i p t hq
      obtain ⟨lv', st', ov', b1, b2⟩ := ty_sps_ok hg hs
      exact hrec _ _ _ _ _ _ _ _ _ _ _ _ b1 b2 hB hF hi
    · cases h145 : Nat.beq a 145 with
      | true =>
        simp only [ax_if, h145] at hs
        have e1 : a = 145 := Nat.eq_of_beq_eq_true h145
        split at hs
        · rename_i s k
          subst e1
          obtain ⟨x, r, rfl, c1, y, r2, rfl, c2, c3⟩ := h1
          cases c3
          have c1 : x = .ref 181 := c1
          subst c1
          exact ty_pk_ok hl hp hrec ha ⟨hg.1, h2, hg.2.2⟩ c2 hB hF hi hs
        · cases hs
      | false =>
        simp only [ax_if, h145] at hs
        split at hs
        · cases hs
        · rename_i x hx
          have hxm := List.mem_of_find?_eq_some hx
          have hxp := List.find?_some hx
          simp only [Bool.and_eq_true] at hxp
          obtain ⟨x1, x2, x3⟩ := hxp
          have x1 : x.1 = a := Nat.eq_of_beq_eq_true x1
          simp only [Bool.and_eq_true, ax_fn_eq] at hs
          obtain ⟨y1, y2, y3, y4, y5, hall⟩ := hs
          have hM := hcs x hxm K h asx (ty_asl_ok x2 h1) (hg.2.2.weak x3) hi
          rw [x1] at hM
          have y1 := Nat.le_of_ble_eq_true y1
          have y4 := Nat.le_of_ble_eq_true y4
          have y5 := Nat.le_of_ble_eq_true y5
          have body : ∀ res h', ty_Q I K x.2.2.1 x.2.2.2.2.2.2.2 h res h' → ∃ e, ty_rr h' e res ∧ ty_F W h0 h' ∧ I h' ∧ ∃ ov', ty_g K ρ N lv rest ov' lvx rx h' ∧ (match e with
            | .inl none => rec false (pc + 3) lv rest ov' N (bc - x.2.2.2.1) (bs - x.2.2.2.2.1)
            | .inl (some t) => rec false (pc + 3) lv (t :: rest) ov' N (bc - x.2.2.2.1) (bs - x.2.2.2.2.1)
            | .inr E => (match ax_hand i pc E with
              | some q => rec false q.2.2.2.1 lv [(5, 0, 0, 0, 0)] ov' N (bc - x.2.2.2.1) (bs - x.2.2.2.2.1)
              | none => (ax_mm i).2.2.2.2.isEmpty && ty_inL L (.inr E) ov')) = true := by
            rintro res h' ⟨q1, q2, e, he, q3, q4⟩
            have hb := List.all_eq_true.mp hall e he
            rw [ty_mgC_eq] at hb
            have hm := ty_mg_ok y3 q1 hg.2.2 q4
            simp only [Bool.or_eq_true] at hb
            rcases hb with hb | hb
            · exact (ty_em_ok hm hb).elim
            · exact ⟨e.1, q3, hF.trans (q1.sub y2), q2, _, ⟨hg.1.mv q1.Lo, h2.mv q1.Lo, hm⟩, hb⟩
          refine AR.call hl ha hM y1 y4 y5 ?_ ?_
          · intro vv h' hQ
            obtain ⟨e, r1, r2, r3, ov', r4, r5⟩ := body _ _ hQ
            rcases e with (_ | t) | E
            · rcases vv with _ | z
              · exact hrec _ _ _ _ _ _ _ _ _ _ _ _ r5 r4 hB r2 r3
              · exact r1.elim
            · rcases vv with _ | z
              · exact r1.elim
              · exact hrec _ _ _ _ _ _ _ _ _ _ _ _ r5 ⟨r4.1, ⟨_, _, rfl, ty_r_z r1, r4.2.1⟩, r4.2.2⟩ hB r2 r3
            · rcases vv with _ | z
              · exact r1.elim
              · exact r1.elim
          · intro E h' hQ
            obtain ⟨e, r1, r2, r3, ov', r4, r5⟩ := body _ _ hQ
            rcases e with (_ | t) | E'
            · exact r1.elim
            · exact r1.elim
            · have r1 : E = E' := r1
              subst r1
              dsimp only at r5
              split at r5
              · rename_i q hq
                exact ax_hand_ok hq (hrec _ _ _ _ _ _ _ _ _ _ _ _ r5 ⟨r4.1, ⟨_, _, rfl, rfl, rfl⟩, r4.2.2⟩ hB r2 r3)
              · simp only [Bool.and_eq_true] at r5
                exact AX.out ⟨List.isEmpty_iff.mp r5.1, ty_inL_ok r5.2 r2 r3 rfl r4.2.2 hK⟩
/-- at a place where ways meet -/
def ty_Hc (I : ax_H → Prop) (l : Launch) (i d W : Nat) (L : List ty_E) (Kc : Int) (h0 : ax_H) (cuts : List ty_Cu) (m : Nat) : Prop := ∀ c ∈ cuts, ∀ (K : Int) (lvx : List (Nat × Value)) (h : ax_H), ty_g K ty_z 1 c.2.1 [] c.2.2.1 lvx [] h → (K = Kc ∨ ty_nK L = true) → ty_F W h0 h → I h → ty_ms c lvx h < m → AR ax_ns l (ax_mm i) d ty_R (ty_P I i W L Kc h0) (ty_X I i W L Kc h0) c.1 lvx [] h c.2.2.2.1 c.2.2.2.2.1
theorem ty_lsub_ok {ρ' : Nat → Int} {N' : Nat} (hl : ty_lr ρ N h lv lvx) : ∀ {cl : List (Nat × ty_V)}, ty_lsub cl lv = true → ty_lr ρ' N' h cl lvx
  | [], _ => fun _ _ hm => by cases hm
  | q :: r, hs => by
    simp only [ty_lsub, Bool.and_eq_true] at hs
    obtain ⟨s1, s2⟩ := hs
    intro j t hm
    rcases List.mem_cons.mp hm with e | e
    · subst e
      dsimp only at s1
      split at s1
      · rename_i s hs
        obtain ⟨x, x1, x2⟩ := hl _ _ (ty_at_mem hs)
        exact ⟨x, x1, ty_tl_ok s1 x2⟩
      · cases s1
    · exact ty_lsub_ok hl s2 j t e
theorem ty_cq_ok (hc : ty_Hc I l i d W L Kc h0 cuts (ty_m2 s0 s1 (base.map (fun b => b.1)) v0)) (hK : K = Kc ∨ ty_nK L = true) (hv0 : ∀ l, -2147483648 ≤ v0 l ∧ v0 l ≤ 2147483647) (hs1 : s1 < 2) (hg : ty_g K ρ N lv [] ov lvx [] h) (hB : ty_B K ρ N base v0) (hF : ty_F W h0 h) (hi : I h) (hs : ty_cq cuts s0 s1 base pc lv ov bc bs = true) : AR ax_ns l (ax_mm i) d ty_R (ty_P I i W L Kc h0) (ty_X I i W L Kc h0) pc lvx [] h bc bs := by
  unfold ty_cq at hs
  obtain ⟨c, hcm, hs⟩ := List.any_eq_true.mp hs
  simp only [Bool.and_eq_true] at hs
  obtain ⟨e1, e2, e3, e4, e5, e6, e7⟩ := hs
  have e1 : c.1 = pc := Nat.eq_of_beq_eq_true e1
  subst e1
  exact AR.le (Nat.le_of_ble_eq_true e2) (Nat.le_of_ble_eq_true e3) (hc c hcm K lvx h ⟨ty_lsub_ok hg.1 e4, rfl, hg.2.2.weak e5⟩ hK hF hi (ty_rk_ok hg hB hv0 hs1 (Nat.le_of_ble_eq_true e6) e7))
theorem ty_bd_ok {rec : ty_Rc} (hI : ty_Ik I) (hW0 : Nat.beq (W0 &&& ty_IK) 0 = true) (hW : ty_sub W0 W = true) (hp : ty_pkM l) (hcs : ∀ x ∈ cs, ty_M I l x) (hK : K = Kc ∨ ty_nK L = true) (hc : ty_Hc I l i d W L Kc h0 cuts (ty_m2 s0 s1 (base.map (fun b => b.1)) v0)) (hv0 : ∀ l, -2147483648 ≤ v0 l ∧ v0 l ≤ 2147483647) (hs1 : s1 < 2) (hrec : ty_So I l i d W L Kc K h0 base v0 rec) : ty_So I l i d W L Kc K h0 base v0 (ty_bd i d W W0 cs pcs cuts L s0 s1 base rec) := by
  intro f pc lv st ov N bc bs ρ lvx stx h hs hg hB hF hi
  refine AR.small fun hlen => ?_
  unfold ty_bd at hs
  cases hf : !f && pcs.any (Nat.beq pc) with
  | true =>
    simp only [ax_if, hf, Bool.and_eq_true] at hs
    obtain ⟨q1, q2⟩ := hs
    have e := List.isEmpty_iff.mp q1
    subst e
    have e2 : stx = [] := hg.2.1
    subst e2
    exact ty_cq_ok hc hK hv0 hs1 hg hB hF hi q2
  | false =>
    simp only [ax_if, hf] at hs
    split at hs
    · rename_i lo hi' hq
      simp only [ty_fz_eq, ty_os_eq, Bool.and_eq_true] at hs
      obtain ⟨hs1', hs2'⟩ := hs
      unfold ty_fsq at hq
      cases h150 : Nat.beq i 150 && Nat.beq pc 0 with
      | false => rw [h150] at hq; cases hq
      | true =>
        rw [h150] at hq
        simp only [cond_true] at hq
        split at hq
        · rename_i n9 f9 lo' hi9 e9
          cases hle : ty_le hi9 lo' with
          | true => rw [hle] at hq; cases hq
          | false =>
            rw [hle] at hq
            cases hq
            obtain ⟨ms, m1, m2, m3⟩ := hg.2.2.2.1 181 (by decide)
            have t2 : (ty_tab 181).2.1 = 32 := by decide +kernel
            have g9 : ms[9]? = some (ms[9]'(by omega)) := List.getElem?_eq_getElem (by omega)
            have r9 := (m3 9 _ g9).1
            have fd9 := ty_fd_of m1 g9
            rw [e9] at r9
            obtain ⟨z, rz, z1, z2, -⟩ := r9
            rw [rz] at fd9
            rcases (by omega : z.toInt ≤ lo ∨ lo + 1 ≤ z.toInt) with q | q
            · exact hrec _ _ _ _ _ _ _ _ _ _ _ _ hs1' ⟨hg.1, hg.2.1, hg.2.2.put (by decide) fd9 ⟨z, rfl, z1, q, Or.inl rfl⟩⟩ hB hF hi
            · exact hrec _ _ _ _ _ _ _ _ _ _ _ _ hs2' ⟨hg.1, hg.2.1, hg.2.2.put (by decide) fd9 ⟨z, rfl, q, z2, Or.inl rfl⟩⟩ hB hF hi
        · cases hq
    · split at hs
      · cases hs
      · rename_i ins a b c v ws hl
        split at hs
        · obtain ⟨hd, hok⟩ := ax_look_ok hl
          obtain ⟨pc', lv', st', ov', N', dc, ds, ρ', lvx', stx', h', k1, k2, k3, k4, k5, k6⟩ := ty_nx_ok (c := c) hI hW0 hlen hg hi hs
          simp only [Bool.and_eq_true, ax_fn_eq] at k1
          obtain ⟨k7, k8, k9⟩ := k1
          have k7 := Nat.le_of_ble_eq_true k7
          have k8 := Nat.le_of_ble_eq_true k8
          exact AR.cast (by omega) (by omega) (ax_one_ok hd hok k2 (hrec _ _ _ _ _ _ _ _ _ _ _ _ k9 k3 (hB.ex k6) (hF.trans (k4.sub hW)) k5))
        · exact ty_cll_ok hl hp hcs hK hrec hg hB hF hi hs
        · split at hs
          · rename_i r hr
            exact AR.at (ty_fin_ok hl hI hg hF hi hK hr hs)
          · cases hs
theorem ty_xp_ok (hI : ty_Ik I) (hW0 : Nat.beq (W0 &&& ty_IK) 0 = true) (hW : ty_sub W0 W = true) (hp : ty_pkM l) (hcs : ∀ x ∈ cs, ty_M I l x) (hK : K = Kc ∨ ty_nK L = true) (hc : ty_Hc I l i d W L Kc h0 cuts (ty_m2 s0 s1 (base.map (fun b => b.1)) v0)) (hv0 : ∀ l, -2147483648 ≤ v0 l ∧ v0 l ≤ 2147483647) (hs1 : s1 < 2) : ∀ n, ty_So I l i d W L Kc K h0 base v0 (ty_xp i d W W0 cs pcs cuts L s0 s1 base n)
  | 0 => by intro f pc lv st ov N bc bs ρ lvx stx h hs; cases hs
  | n + 1 => ty_bd_ok hI hW0 hW hp hcs hK hc hv0 hs1 (ty_xp_ok hI hW0 hW hp hcs hK hc hv0 hs1 n)
end TYS2
