/-! THE TYPED MACHINE, 12: all ways through a method, as a function -/
/-- a number that a loop counts: 0 a local, 1 a field, 2 the reference's place; up or down -/
abbrev ty_Lc : Type := Nat × Nat × Nat × Bool
/-- a place where ways meet: what is known there, what is still to be paid, its rank, the numbers that its loops count -/
abbrev ty_Cu : Type := Nat × List (Nat × ty_V) × ty_O × Nat × Nat × Nat × Nat × List ty_Lc
def ty_lq (a b : ty_Lc) : Bool := Nat.beq a.1 b.1 && (Nat.beq a.2.1 b.2.1 && (Nat.beq a.2.2.1 b.2.2.1 && (a.2.2.2 == b.2.2.2)))
theorem ty_lq_ok {a b : ty_Lc} (h : ty_lq a b = true) : a = b := by
  obtain ⟨a1, a2, a3, a4⟩ := a
  obtain ⟨b1, b2, b3, b4⟩ := b
  simp only [ty_lq, Bool.and_eq_true] at h
  obtain ⟨h1, h2, h3, h4⟩ := h
  have e1 : a1 = b1 := Nat.eq_of_beq_eq_true h1
  have e2 : a2 = b2 := Nat.eq_of_beq_eq_true h2
  have e3 : a3 = b3 := Nat.eq_of_beq_eq_true h3
  have e4 : a4 = b4 := eq_of_beq h4
  rw [e1, e2, e3, e4]
/-- how far it has come since t0: some true: farther, some false: it is the same -/
def ty_pd (u : Bool) (t0 t : ty_V) : Option Bool := bif Nat.beq t.1 0 && Nat.beq t0.1 0 then (match ty_dl t0 t with
  | some e => bif ty_eq e 0 then some false else bif (bif u then ty_le 1 e else ty_le e (-1)) then some true else none
  | none => none) else none
def ty_pg (l : ty_Lc) (t0 : ty_V) (lv : List (Nat × ty_V)) (ov : ty_O) : Option Bool := match l.1 with
  | 0 => (match ty_at lv l.2.1 with
    | some t => ty_pd l.2.2.2 t0 t
    | none => none)
  | 1 => bif Nat.blt l.2.1 198 && Nat.blt l.2.2.1 (ty_tab l.2.1).2.1 then ty_pd l.2.2.2 t0 (ty_lk ov l.2.1 l.2.2.1) else none
  | 2 => (match ty_lk ov 300 2 with
    | (0, _, _, a, _) => bif ty_le 1 a && (l.2.2.2 && Nat.beq (ty_lk ov 181 8).1 0) then some true else none
    | _ => none)
  | _ => none
def ty_rk (s0 s1 : Nat) (base : List (ty_Lc × ty_V)) (c : ty_Cu) (lv : List (Nat × ty_V)) (ov : ty_O) : Bool := Nat.blt c.2.2.2.2.2.1 s0 || (Nat.beq c.2.2.2.2.2.1 s0 && (match base, c.2.2.2.2.2.2.2 with
  | b1 :: r1, l1 :: r2 => ty_lq b1.1 l1 && (match ty_pg b1.1 b1.2 lv ov with
    | some true => true
    | some false => Nat.blt c.2.2.2.2.2.2.1 s1 || (Nat.beq c.2.2.2.2.2.2.1 s1 && (match r1, r2 with
      | b2 :: _, l2 :: _ => ty_lq b2.1 l2 && (match ty_pg b2.1 b2.2 lv ov with
        | some true => true
        | _ => false)
      | _, _ => false))
    | none => false)
  | _, _ => false))
/-- the number itself -/
def ty_lvl (l : ty_Lc) (lvx : List (Nat × Value)) (h : ax_H) : Int := match l.1 with
  | 0 => (ty_iv (ax_at lvx l.2.1)).getD 0
  | 1 => (ty_iv (ty_fd h l.2.1 l.2.2.1)).getD 0
  | _ => (ty_iv (ty_fd h 181 8)).getD 0
def ty_me (l : ty_Lc) (v : Int) : Nat := bif l.2.2.2 then (2147483648 - v).toNat else (v + 2147483648).toNat
def ty_m2 (s0 s1 : Nat) (ls : List ty_Lc) (v : ty_Lc → Int) : Nat := s0 * 2 ^ 70 + (match ls with
  | [] => 0
  | l1 :: r => ty_me l1 (v l1) * 2 ^ 36 + (match r with
    | [] => s1 * 2 ^ 35
    | l2 :: _ => s1 * 2 ^ 35 + ty_me l2 (v l2)))
def ty_ms (c : ty_Cu) (lvx : List (Nat × Value)) (h : ax_H) : Nat := ty_m2 c.2.2.2.2.2.1 c.2.2.2.2.2.2.1 c.2.2.2.2.2.2.2 (fun l => ty_lvl l lvx h)
theorem ty_iv_bd (x : Option Value) : -2147483648 ≤ (ty_iv x).getD 0 ∧ (ty_iv x).getD 0 ≤ 2147483647 := by
  unfold ty_iv
  split
  · rename_i i
    have h1 := Int32.le_toInt i
    have h2 := Int32.toInt_lt i
    constructor
    · show -2147483648 ≤ i.toInt
      omega
    · show i.toInt ≤ 2147483647
      omega
  · decide
theorem ty_lvl_bd (l : ty_Lc) (lvx : List (Nat × Value)) (h : ax_H) : -2147483648 ≤ ty_lvl l lvx h ∧ ty_lvl l lvx h ≤ 2147483647 := by
  unfold ty_lvl
  split
  · exact ty_iv_bd _
  · exact ty_iv_bd _
  · exact ty_iv_bd _
theorem ty_me_bd {l : ty_Lc} {v : Int} (h1 : -2147483648 ≤ v) (h2 : v ≤ 2147483647) : ty_me l v < 2 ^ 34 := by
  unfold ty_me
  cases l.2.2.2 with
  | true => show (2147483648 - v).toNat < _; omega
  | false => show (v + 2147483648).toNat < _; omega
/-- what a way through the method started with -/
def ty_B (K : Int) (ρ : Nat → Int) (N : Nat) (base : List (ty_Lc × ty_V)) (v0 : ty_Lc → Int) : Prop := ∀ b ∈ base, (b.1.1 = 2 → ty_kc K = v0 b.1) ∧ (b.1.1 ≠ 2 → ty_in ρ N b.2.2.1 b.2.2.2.1 b.2.2.2.2.1 b.2.2.2.2.2 (v0 b.1))
theorem ty_B.ex {K : Int} {ρ ρ' : Nat → Int} {N N' : Nat} {base : List (ty_Lc × ty_V)} {v0 : ty_Lc → Int} (e : ty_ex ρ N ρ' N') (hB : ty_B K ρ N base v0) : ty_B K ρ' N' base v0 := fun b hb => ⟨(hB b hb).1, fun q => ((hB b hb).2 q).ex e⟩
section TYR
variable {K : Int} {ρ : Nat → Int} {N : Nat} {lv : List (Nat × ty_V)} {st : List ty_V} {ov : ty_O} {lvx : List (Nat × Value)} {stx : List Value} {h : ax_H} {base : List (ty_Lc × ty_V)} {v0 : ty_Lc → Int}
theorem ty_pd_ok {u t : Bool} {t0 t1 : ty_V} {i j : Int} (h0 : ty_in ρ N t0.2.1 t0.2.2.1 t0.2.2.2.1 t0.2.2.2.2 i) (h1 : Nat.beq t1.1 0 = true → ty_in ρ N t1.2.1 t1.2.2.1 t1.2.2.2.1 t1.2.2.2.2 j) (hp : ty_pd u t0 t1 = some t) : (t = true → (u = true → i < j) ∧ (u = false → j < i)) ∧ (t = false → j = i) := by
  unfold ty_pd at hp
  cases hc : Nat.beq t1.1 0 && Nat.beq t0.1 0 with
  | false => rw [hc] at hp; cases hp
  | true =>
    rw [hc] at hp
    simp only [cond_true] at hp
    simp only [Bool.and_eq_true] at hc
    split at hp
    · rename_i ee hd
      have heq := ty_dl_ok hd h0 (h1 hc.1)
      cases h0 : ty_eq ee 0 with
      | true =>
        rw [h0] at hp
        cases hp
        have := ty_eq_iff.mp h0
        exact ⟨(fun h9 => by cases h9), (fun _ => by omega)⟩
      | false =>
        rw [h0] at hp
        simp only [cond_false] at hp
        cases u with
        | true =>
          simp only [cond_true] at hp
          cases h1 : ty_le 1 ee with
          | false => rw [h1] at hp; cases hp
          | true =>
            rw [h1] at hp
            cases hp
            have := ty_le_iff.mp h1
            exact ⟨(fun _ => ⟨(fun _ => by omega), (fun h9 => by cases h9)⟩), (fun h9 => by cases h9)⟩
        | false =>
          simp only [cond_false] at hp
          cases h1 : ty_le ee (-1) with
          | false => rw [h1] at hp; cases hp
          | true =>
            rw [h1] at hp
            cases hp
            have := ty_le_iff.mp h1
            exact ⟨(fun _ => ⟨(fun h9 => by cases h9), (fun _ => by omega)⟩), (fun h9 => by cases h9)⟩
    · cases hp
theorem ty_pg_ok {b : ty_Lc × ty_V} {t : Bool} (hg : ty_g K ρ N lv st ov lvx stx h) (hB : ty_B K ρ N base v0) (hb : b ∈ base) (hp : ty_pg b.1 b.2 lv ov = some t) : (t = true → (b.1.2.2.2 = true → v0 b.1 < ty_lvl b.1 lvx h) ∧ (b.1.2.2.2 = false → ty_lvl b.1 lvx h < v0 b.1)) ∧ (t = false → ty_lvl b.1 lvx h = v0 b.1) := by
  obtain ⟨b1, b2⟩ := hB b hb
  unfold ty_pg at hp
  split at hp
  · rename_i hk
    split at hp
    · rename_i t1 e
      refine ty_pd_ok (b2 (by omega)) (fun h0 => ?_) hp
      obtain ⟨x, x1, x2⟩ := hg.1 _ _ (ty_at_mem e)
      obtain ⟨i, rfl, hi⟩ := ty_r0 h0 x2
      unfold ty_lvl
      rw [hk]
      show ty_in _ _ _ _ _ _ ((ty_iv (ax_at lvx b.1.2.1)).getD 0)
      rw [x1]
      exact hi
    · cases hp
  · rename_i hk
    cases hq : Nat.blt b.1.2.1 198 && Nat.blt b.1.2.2.1 (ty_tab b.1.2.1).2.1 with
    | false => rw [hq] at hp; cases hp
    | true =>
      rw [hq] at hp
      refine ty_pd_ok (b2 (by omega)) (fun h0 => ?_) hp
      simp only [Bool.and_eq_true] at hq
      have q1 : b.1.2.1 < 198 := Nat.le_of_ble_eq_true hq.1
      have q2 : b.1.2.2.1 < (ty_tab b.1.2.1).2.1 := Nat.le_of_ble_eq_true hq.2
      obtain ⟨vs, e1, e2, e3⟩ := hg.2.2.2.1 _ q1
      have hvb : vs[b.1.2.2.1]? = some (vs[b.1.2.2.1]'(by omega)) := List.getElem?_eq_getElem (by omega)
      obtain ⟨i, hi1, hi⟩ := ty_r0 h0 (e3 _ _ hvb).1
      have hfd := ty_fd_of e1 hvb
      rw [hi1] at hfd
      unfold ty_lvl
      rw [hk]
      show ty_in _ _ _ _ _ _ ((ty_iv (ty_fd h b.1.2.1 b.1.2.2.1)).getD 0)
      rw [hfd]
      exact hi
  · rename_i hk
    split at hp
    · rename_i n f a z e
      cases hc : ty_le 1 a && (b.1.2.2.2 && Nat.beq (ty_lk ov 181 8).1 0) with
      | false => rw [hc] at hp; cases hp
      | true =>
        rw [hc] at hp
        cases hp
        simp only [Bool.and_eq_true, ty_le_iff] at hc
        refine ⟨(fun _ => ⟨(fun _ => ?_), (fun h9 => by rw [hc.2.1] at h9; cases h9)⟩), (fun h9 => by cases h9)⟩
        have hps := hg.2.2.2.2 2
        rw [e] at hps
        obtain ⟨vs, e1, e2, e3⟩ := hg.2.2.2.1 181 (by decide)
        have hl : vs.length = 32 := by rw [e2]; decide +kernel
        have h8 : vs[8]? = some (vs[8]'(by omega)) := List.getElem?_eq_getElem (by omega)
        obtain ⟨i, hi1, hi⟩ := ty_r0 hc.2.2 (e3 8 _ h8).1
        have hfd : ty_fd h 181 8 = some (vs[8]'(by omega)) := ty_fd_of e1 h8
        rw [hi1] at hfd
        rw [← b1 hk]
        unfold ty_lvl
        rw [hk]
        show ty_kc K < (ty_iv (ty_fd h 181 8)).getD 0
        rw [hfd]
        have := (hps (i.toInt - ty_kc K) (by simp only [ty_pv, hfd, ty_iv, Option.map_some])).1
        show ty_kc K < i.toInt
        omega
    · cases hp
  · cases hp
/-- who goes on from here comes nearer to the end -/
theorem ty_rk_ok {s0 s1 : Nat} {c : ty_Cu} (hg : ty_g K ρ N lv st ov lvx stx h) (hB : ty_B K ρ N base v0) (hv0 : ∀ l, -2147483648 ≤ v0 l ∧ v0 l ≤ 2147483647) (hs1 : s1 < 2) (hc1 : c.2.2.2.2.2.2.1 < 2) (hr : ty_rk s0 s1 base c lv ov = true) : ty_ms c lvx h < ty_m2 s0 s1 (base.map (fun b => b.1)) v0 := by
  have bd : ∀ l, ty_me l (ty_lvl l lvx h) < 2 ^ 34 := fun l => ty_me_bd (ty_lvl_bd l lvx h).1 (ty_lvl_bd l lvx h).2
  have bd0 : ∀ l, ty_me l (v0 l) < 2 ^ 34 := fun l => ty_me_bd (hv0 l).1 (hv0 l).2
  have up : ∀ b ∈ base, ty_pg b.1 b.2 lv ov = some true → ty_me b.1 (ty_lvl b.1 lvx h) < ty_me b.1 (v0 b.1) := by
    intro b hb hp
    obtain ⟨q1, q2⟩ := (ty_pg_ok hg hB hb hp).1 rfl
    have l1 := ty_lvl_bd b.1 lvx h
    have l2 := hv0 b.1
    unfold ty_me
    cases hd : b.1.2.2.2 with
    | true => have := q1 hd; show (2147483648 - ty_lvl b.1 lvx h).toNat < (2147483648 - v0 b.1).toNat; omega
    | false => have := q2 hd; show (ty_lvl b.1 lvx h + 2147483648).toNat < (v0 b.1 + 2147483648).toNat; omega
  have eqm : ∀ b ∈ base, ty_pg b.1 b.2 lv ov = some false → ty_me b.1 (ty_lvl b.1 lvx h) = ty_me b.1 (v0 b.1) := by
    intro b hb hp
    rw [(ty_pg_ok hg hB hb hp).2 rfl]
  -- what lies below the first rank
  have low : ∀ (s1 : Nat) (ls : List ty_Lc) (v : ty_Lc → Int), s1 < 2 → (∀ l, ty_me l (v l) < 2 ^ 34) → ty_m2 0 s1 ls v < 2 ^ 70 := by
    intro s1 ls v h1 hb
    unfold ty_m2
    rcases ls with _ | ⟨l1, _ | ⟨l2, r⟩⟩
    · show 0 * 2 ^ 70 + 0 < 2 ^ 70
      decide
    · have := hb l1
      dsimp only
      omega
    · have := hb l1
      have := hb l2
      dsimp only
      omega
  have cut : ∀ (s0 s1 : Nat) (ls : List ty_Lc) (v : ty_Lc → Int), ty_m2 s0 s1 ls v = s0 * 2 ^ 70 + ty_m2 0 s1 ls v := by
    intro s0 s1 ls v
    unfold ty_m2
    omega
  unfold ty_ms
  simp only [ty_rk, Bool.or_eq_true, Bool.and_eq_true] at hr
  rcases hr with q | ⟨q, hr⟩
  · have q : c.2.2.2.2.2.1 < s0 := Nat.le_of_ble_eq_true q
    rw [cut, cut s0]
    have := low c.2.2.2.2.2.2.1 c.2.2.2.2.2.2.2 (fun l => ty_lvl l lvx h) hc1 bd
    have h9 : (c.2.2.2.2.2.1 + 1) * 2 ^ 70 ≤ s0 * 2 ^ 70 := Nat.mul_le_mul_right _ q
    omega
  · have q := Nat.eq_of_beq_eq_true q
    rw [q, cut, cut s0]
    refine Nat.add_lt_add_left ?_ _
    split at hr
    · rename_i b1 r1 l1 r2 hls
      simp only [Bool.and_eq_true] at hr
      obtain ⟨hr1, hr⟩ := hr
      have e1 := ty_lq_ok hr1
      clear hr1
      rw [hls]
      subst e1
      have hb1 : b1 ∈ b1 :: r1 := List.mem_cons_self
      split at hr
      · rename_i hp
        have h1 := up b1 hb1 hp
        have x1 := bd b1.1
        have x2 := bd0 b1.1
        unfold ty_m2
        simp only [List.map_cons]
        rcases r2 with _ | ⟨l2, r2⟩ <;> rcases r1 with _ | ⟨b2, r1⟩ <;> simp only [List.map_nil, List.map_cons] <;> first | omega | (have := bd l2; omega) | (have := bd l2; have := bd0 b2.1; omega)
      · rename_i hp
        have h1 := eqm b1 hb1 hp
        simp only [Bool.or_eq_true, Bool.and_eq_true] at hr
        have x1 := bd b1.1
        have x2 := bd0 b1.1
        rcases hr with p | ⟨p, hr⟩
        · have p : c.2.2.2.2.2.2.1 < s1 := Nat.le_of_ble_eq_true p
          unfold ty_m2
          simp only [List.map_cons]
          rcases r2 with _ | ⟨l2, r2⟩ <;> rcases r1 with _ | ⟨b2, r1⟩ <;> simp only [List.map_nil, List.map_cons] <;> first | omega | (have := bd l2; omega) | (have := bd l2; have := bd0 b2.1; omega)
        · have p := Nat.eq_of_beq_eq_true p
          split at hr
          · rename_i b2 r1 l2 r2
            simp only [Bool.and_eq_true] at hr
            obtain ⟨hr1, hr⟩ := hr
            have e2 := ty_lq_ok hr1
            clear hr1
            subst e2
            split at hr
            · rename_i hp2
              have h2 := up b2 (List.mem_cons_of_mem _ List.mem_cons_self) hp2
              unfold ty_m2
              simp only [List.map_cons]
              rw [p]
              omega
            · cases hr
          · cases hr
      · cases hr
    · cases hr
end TYR
