/-! THE ABSTRACT MACHINE AS A FUNCTION: for what a program can count out -/
abbrev ax_S : Type := Nat × List (Nat × Value) × List Value × ax_H × Nat × Nat
def ax_go (pc : Nat) (lv : List (Nat × Value)) (st : List Value) (h : ax_H) : Option ax_S := some (pc, lv, st, h, 0, 0)
/-- lists, written anew in full (for the kernel) -/
noncomputable def ax_hs {α β : Type} (l : List α) (i : Nat) (v : α) (f : List α → β) : β := @List.rec α (fun _ => Nat → (List α → β) → β) (fun _ f => f []) (fun q t ih i f => @Nat.rec (fun _ => β) (f (v :: t)) (fun k _ => ih k (fun t' => f (q :: t'))) i) l i f
theorem ax_hs_eq {α β : Type} : ∀ (l : List α) (i : Nat) (v : α) (f : List α → β), ax_hs l i v f = f (l.set i v)
  | [], _, _, _ => rfl
  | q :: t, 0, v, f => rfl
  | q :: t, k + 1, v, f => ax_hs_eq t k v (fun t' => f (q :: t'))
noncomputable def ax_ha {α β : Type} (l : List α) (v : α) (f : List α → β) : β := @List.rec α (fun _ => (List α → β) → β) (fun f => f [v]) (fun q _ ih f => ih (fun t' => f (q :: t'))) l f
theorem ax_ha_eq {α β : Type} : ∀ (l : List α) (v : α) (f : List α → β), ax_ha l v f = f (l ++ [v])
  | [], _, _ => rfl
  | q :: t, v, f => ax_ha_eq t v (fun t' => f (q :: t'))
noncomputable def ax_flt {α β : Type} (p : α → Bool) (l : List α) (f : List α → β) : β := @List.rec α (fun _ => (List α → β) → β) (fun f => f []) (fun q _ ih f => ax_if (p q) (ih (fun t' => f (q :: t'))) (ih f)) l f
theorem ax_flt_eq {α β : Type} (p : α → Bool) : ∀ (l : List α) (f : List α → β), ax_flt p l f = f (l.filter p)
  | [], _ => rfl
  | q :: t, f => by
    have e : ax_flt p (q :: t) f = ax_if (p q) (ax_flt p t (fun t' => f (q :: t'))) (ax_flt p t f) := rfl
    rw [e]
    cases h : p q with
    | true => rw [List.filter_cons_of_pos h]; exact ax_flt_eq p t (fun t' => f (q :: t'))
    | false => rw [List.filter_cons_of_neg (by simp [h])]; exact ax_flt_eq p t f
noncomputable def ax_fl1 {β : Type} (i : Nat) (x : Value) (lv : List (Nat × Value)) (f : List (Nat × Value) → β) : β := ax_flt (ax_k1 i) lv fun t => f ((i, x) :: t)
noncomputable def ax_fl2 {β : Type} (i : Nat) (x : Value) (lv : List (Nat × Value)) (f : List (Nat × Value) → β) : β := ax_flt (ax_k2 i) lv fun t => f ((i, x) :: t)
theorem ax_fl1_eq {β : Type} (i : Nat) (x : Value) (lv : List (Nat × Value)) (f : List (Nat × Value) → β) : ax_fl1 i x lv f = f (ax_s1 i x lv) := ax_flt_eq _ _ _
theorem ax_fl2_eq {β : Type} (i : Nat) (x : Value) (lv : List (Nat × Value)) (f : List (Nat × Value) → β) : ax_fl2 i x lv f = f (ax_s2 i x lv) := ax_flt_eq _ _ _
/-- a number, counted out before it is used -/
noncomputable def ax_fn {α : Type} (n : Nat) (f : Nat → α) : α := @Nat.rec (fun _ => α) (f 0) (fun k _ => f (Nat.succ k)) n
theorem ax_fn_eq {α : Type} (n : Nat) (f : Nat → α) : ax_fn n f = f n := by cases n <;> rfl
noncomputable def ax_fv {α : Type} (x : Value) (f : Value → α) : α := match x with
  | .int i => ax_fn i.toBitVec.toNat (fun n => f (.int (Int32.ofBitVec (BitVec.ofNat 32 n))))
  | .long i => ax_fn i.toBitVec.toNat (fun n => f (.long (Int64.ofBitVec (BitVec.ofNat 64 n))))
  | .ref a => ax_fn a (fun n => f (.ref n))
  | x => f x
theorem ax_fv_eq {α : Type} (x : Value) (f : Value → α) : ax_fv x f = f x := by
  cases x <;> simp [ax_fv, ax_fn_eq]
noncomputable def ax_ft {α : Type} (st : List Value) (f : List Value → α) : α := match st with
  | x :: t => ax_fv x (fun x => f (x :: t))
  | [] => f []
theorem ax_ft_eq {α : Type} (st : List Value) (f : List Value → α) : ax_ft st f = f st := by
  cases st <;> simp [ax_ft, ax_fv_eq]
/-- where a branch goes -/
def ax_br (pc : Nat) (off : Int) (t : Bool) : Nat := match t with
  | true => ((pc : Int) + off).toNat
  | false => pc + 3
section AXU
variable {ns : ax_NS} {l : Launch} {k : ax_M} {d : Nat} {r : ax_H} {P : ax_P} {X : ax_PX} {pc : Nat} {lv : List (Nat × Value)} {st : List Value} {h : ax_H} {bc bs : Nat}
theorem ax_tf {t : Bool} (h : ¬ t = true) : t = false := by
  cases t
  · rfl
  · exact absurd rfl h
theorem AR.u_eq {x y : Value} {off : Int} {t : Bool} (hd : decode k.2.1 pc = .ok (.if_icmp .eq off, 3)) (h0 : 0 ≤ (pc : Int) + off) (hx : ax_isI x = true) (hy : ax_isI y = true) (hu : ax_equ x y = some t) (K : AR ns l k d r P X (ax_br pc off (t)) lv st h bc bs) : AR ns l k d r P X pc lv (y :: x :: st) h bc bs := by
  refine AR.split2 hx hy (fun i j hi hj => AR.icmp_eq hd (Int.toNat_of_nonneg h0).symm (fun hp => ?_) (fun hn => ?_))
  · have e := (ax_equ_ok hu hi hj).mp hp; subst e; exact K
  · have e := ax_tf (fun e => hn ((ax_equ_ok hu hi hj).mpr e)); subst e; exact K
theorem AR.v_eq {x : Value} {off : Int} {t : Bool} (hd : decode k.2.1 pc = .ok (.ifCond .eq off, 3)) (h0 : 0 ≤ (pc : Int) + off) (hx : ax_isI x = true) (hu : ax_equ x (.int 0) = some t) (K : AR ns l k d r P X (ax_br pc off (t)) lv st h bc bs) : AR ns l k d r P X pc lv (x :: st) h bc bs := by
  refine AR.split hx (fun i hi => ?_)
  have hj : ax_vi (.int 0) 0 := rfl
  refine AR.if_eq hd (Int.toNat_of_nonneg h0).symm (fun hp => ?_) (fun hn => ?_)
  · have e := (ax_equ_ok hu hi hj).mp hp; subst e; exact K
  · have e := ax_tf (fun e => hn ((ax_equ_ok hu hi hj).mpr e)); subst e; exact K
theorem AR.u_ne {x y : Value} {off : Int} {t : Bool} (hd : decode k.2.1 pc = .ok (.if_icmp .ne off, 3)) (h0 : 0 ≤ (pc : Int) + off) (hx : ax_isI x = true) (hy : ax_isI y = true) (hu : ax_equ x y = some t) (K : AR ns l k d r P X (ax_br pc off (!t)) lv st h bc bs) : AR ns l k d r P X pc lv (y :: x :: st) h bc bs := by
  refine AR.split2 hx hy (fun i j hi hj => AR.icmp_ne hd (Int.toNat_of_nonneg h0).symm (fun hp => ?_) (fun hn => ?_))
  · have e := ax_tf (fun e => hp ((ax_equ_ok hu hi hj).mpr e)); subst e; exact K
  · have e := (ax_equ_ok hu hi hj).mp hn; subst e; exact K
theorem AR.v_ne {x : Value} {off : Int} {t : Bool} (hd : decode k.2.1 pc = .ok (.ifCond .ne off, 3)) (h0 : 0 ≤ (pc : Int) + off) (hx : ax_isI x = true) (hu : ax_equ x (.int 0) = some t) (K : AR ns l k d r P X (ax_br pc off (!t)) lv st h bc bs) : AR ns l k d r P X pc lv (x :: st) h bc bs := by
  refine AR.split hx (fun i hi => ?_)
  have hj : ax_vi (.int 0) 0 := rfl
  refine AR.if_ne hd (Int.toNat_of_nonneg h0).symm (fun hp => ?_) (fun hn => ?_)
  · have e := ax_tf (fun e => hp ((ax_equ_ok hu hi hj).mpr e)); subst e; exact K
  · have e := (ax_equ_ok hu hi hj).mp hn; subst e; exact K
theorem AR.u_lt {x y : Value} {off : Int} {t : Bool} (hd : decode k.2.1 pc = .ok (.if_icmp .lt off, 3)) (h0 : 0 ≤ (pc : Int) + off) (hx : ax_isI x = true) (hy : ax_isI y = true) (hu : ax_ltu x y = some t) (K : AR ns l k d r P X (ax_br pc off (t)) lv st h bc bs) : AR ns l k d r P X pc lv (y :: x :: st) h bc bs := by
  refine AR.split2 hx hy (fun i j hi hj => AR.icmp_lt hd (Int.toNat_of_nonneg h0).symm (fun hp => ?_) (fun hn => ?_))
  · have e := (ax_ltu_ok hu hi hj).mp hp; subst e; exact K
  · have e := ax_tf (fun e => hn ((ax_ltu_ok hu hi hj).mpr e)); subst e; exact K
theorem AR.v_lt {x : Value} {off : Int} {t : Bool} (hd : decode k.2.1 pc = .ok (.ifCond .lt off, 3)) (h0 : 0 ≤ (pc : Int) + off) (hx : ax_isI x = true) (hu : ax_ltu x (.int 0) = some t) (K : AR ns l k d r P X (ax_br pc off (t)) lv st h bc bs) : AR ns l k d r P X pc lv (x :: st) h bc bs := by
  refine AR.split hx (fun i hi => ?_)
  have hj : ax_vi (.int 0) 0 := rfl
  refine AR.if_lt hd (Int.toNat_of_nonneg h0).symm (fun hp => ?_) (fun hn => ?_)
  · have e := (ax_ltu_ok hu hi hj).mp hp; subst e; exact K
  · have e := ax_tf (fun e => hn ((ax_ltu_ok hu hi hj).mpr e)); subst e; exact K
theorem AR.u_ge {x y : Value} {off : Int} {t : Bool} (hd : decode k.2.1 pc = .ok (.if_icmp .ge off, 3)) (h0 : 0 ≤ (pc : Int) + off) (hx : ax_isI x = true) (hy : ax_isI y = true) (hu : ax_ltu x y = some t) (K : AR ns l k d r P X (ax_br pc off (!t)) lv st h bc bs) : AR ns l k d r P X pc lv (y :: x :: st) h bc bs := by
  refine AR.split2 hx hy (fun i j hi hj => AR.icmp_ge hd (Int.toNat_of_nonneg h0).symm (fun hp => ?_) (fun hn => ?_))
  · have e := (ax_leu_ok hu hj hi).mp hp; subst e; exact K
  · have e : t = true := by cases t; exact absurd ((ax_leu_ok hu hj hi).mpr rfl) hn; rfl
    subst e; exact K
theorem AR.v_ge {x : Value} {off : Int} {t : Bool} (hd : decode k.2.1 pc = .ok (.ifCond .ge off, 3)) (h0 : 0 ≤ (pc : Int) + off) (hx : ax_isI x = true) (hu : ax_ltu x (.int 0) = some t) (K : AR ns l k d r P X (ax_br pc off (!t)) lv st h bc bs) : AR ns l k d r P X pc lv (x :: st) h bc bs := by
  refine AR.split hx (fun i hi => ?_)
  have hj : ax_vi (.int 0) 0 := rfl
  refine AR.if_ge hd (Int.toNat_of_nonneg h0).symm (fun hp => ?_) (fun hn => ?_)
  · have e := (ax_leu_ok hu hj hi).mp hp; subst e; exact K
  · have e : t = true := by cases t; exact absurd ((ax_leu_ok hu hj hi).mpr rfl) hn; rfl
    subst e; exact K
theorem AR.u_gt {x y : Value} {off : Int} {t : Bool} (hd : decode k.2.1 pc = .ok (.if_icmp .gt off, 3)) (h0 : 0 ≤ (pc : Int) + off) (hx : ax_isI x = true) (hy : ax_isI y = true) (hu : ax_ltu y x = some t) (K : AR ns l k d r P X (ax_br pc off (t)) lv st h bc bs) : AR ns l k d r P X pc lv (y :: x :: st) h bc bs := by
  refine AR.split2 hx hy (fun i j hi hj => AR.icmp_gt hd (Int.toNat_of_nonneg h0).symm (fun hp => ?_) (fun hn => ?_))
  · have e := (ax_ltu_ok hu hj hi).mp hp; subst e; exact K
  · have e := ax_tf (fun e => hn ((ax_ltu_ok hu hj hi).mpr e)); subst e; exact K
theorem AR.v_gt {x : Value} {off : Int} {t : Bool} (hd : decode k.2.1 pc = .ok (.ifCond .gt off, 3)) (h0 : 0 ≤ (pc : Int) + off) (hx : ax_isI x = true) (hu : ax_ltu (.int 0) x = some t) (K : AR ns l k d r P X (ax_br pc off (t)) lv st h bc bs) : AR ns l k d r P X pc lv (x :: st) h bc bs := by
  refine AR.split hx (fun i hi => ?_)
  have hj : ax_vi (.int 0) 0 := rfl
  refine AR.if_gt hd (Int.toNat_of_nonneg h0).symm (fun hp => ?_) (fun hn => ?_)
  · have e := (ax_ltu_ok hu hj hi).mp hp; subst e; exact K
  · have e := ax_tf (fun e => hn ((ax_ltu_ok hu hj hi).mpr e)); subst e; exact K
theorem AR.u_le {x y : Value} {off : Int} {t : Bool} (hd : decode k.2.1 pc = .ok (.if_icmp .le off, 3)) (h0 : 0 ≤ (pc : Int) + off) (hx : ax_isI x = true) (hy : ax_isI y = true) (hu : ax_ltu y x = some t) (K : AR ns l k d r P X (ax_br pc off (!t)) lv st h bc bs) : AR ns l k d r P X pc lv (y :: x :: st) h bc bs := by
  refine AR.split2 hx hy (fun i j hi hj => AR.icmp_le hd (Int.toNat_of_nonneg h0).symm (fun hp => ?_) (fun hn => ?_))
  · have e := (ax_leu_ok hu hi hj).mp hp; subst e; exact K
  · have e : t = true := by cases t; exact absurd ((ax_leu_ok hu hi hj).mpr rfl) hn; rfl
    subst e; exact K
theorem AR.v_le {x : Value} {off : Int} {t : Bool} (hd : decode k.2.1 pc = .ok (.ifCond .le off, 3)) (h0 : 0 ≤ (pc : Int) + off) (hx : ax_isI x = true) (hu : ax_ltu (.int 0) x = some t) (K : AR ns l k d r P X (ax_br pc off (!t)) lv st h bc bs) : AR ns l k d r P X pc lv (x :: st) h bc bs := by
  refine AR.split hx (fun i hi => ?_)
  have hj : ax_vi (.int 0) 0 := rfl
  refine AR.if_le hd (Int.toNat_of_nonneg h0).symm (fun hp => ?_) (fun hn => ?_)
  · have e := (ax_leu_ok hu hi hj).mp hp; subst e; exact K
  · have e : t = true := by cases t; exact absurd ((ax_leu_ok hu hi hj).mpr rfl) hn; rfl
    subst e; exact K
end AXU
noncomputable def ax_one (r : ax_H) (nL : Nat) (pc : Nat) (ins : Instr) (a b c : Nat) (v : Value) (lv : List (Nat × Value)) (st : List Value) (h : ax_H) : Option ax_S := match ins with
  | .iconst n => ax_go (pc + 1) lv (.int (Int32.ofInt n) :: st) h
  | .bipush n => ax_go (pc + 2) lv (.int (Int8.ofInt n).toInt32 :: st) h
  | .sipush n => ax_go (pc + 3) lv (.int (Int16.ofInt n).toInt32 :: st) h
  | .lconst n => ax_go (pc + 1) lv (.long (Int64.ofNat (n : Nat)) :: st) h
  | .iload_n j => match ax_at lv (j : Nat) with | some x => if ax_isI x then ax_go (pc + 1) lv (x :: st) h else none | none => none
  | .iload j => match ax_at lv j with | some x => if ax_isI x then ax_go (pc + 2) lv (x :: st) h else none | none => none
  | .istore_n j => match st with | x :: st => if (j : Nat) < nL ∧ ax_isI x = true then ax_fl1 (j : Nat) x lv fun lv => ax_go (pc + 1) lv st h else none | _ => none
  | .istore j => match st with | x :: st => if j < nL ∧ ax_isI x = true then ax_fl1 j x lv fun lv => ax_go (pc + 2) lv st h else none | _ => none
  | .lload_n j => match ax_at lv (j : Nat) with | some x => if ax_isL x then ax_go (pc + 1) lv (x :: st) h else none | none => none
  | .lload j => match ax_at lv j with | some x => if ax_isL x then ax_go (pc + 2) lv (x :: st) h else none | none => none
  | .lstore_n j => match st with | x :: st => if (j : Nat) + 1 < nL ∧ ax_isL x = true then ax_fl2 (j : Nat) x lv fun lv => ax_go (pc + 1) lv st h else none | _ => none
  | .lstore j => match st with | x :: st => if j + 1 < nL ∧ ax_isL x = true then ax_fl2 j x lv fun lv => ax_go (pc + 2) lv st h else none | _ => none
  | .aload_n j => match ax_at lv (j : Nat) with | some x => if ax_isA x then ax_go (pc + 1) lv (x :: st) h else none | none => none
  | .aload j => match ax_at lv j with | some x => if ax_isA x then ax_go (pc + 2) lv (x :: st) h else none | none => none
  | .astore_n j => match st with | x :: st => if (j : Nat) < nL ∧ ax_isA x = true then ax_fl1 (j : Nat) x lv fun lv => ax_go (pc + 1) lv st h else none | _ => none
  | .astore j => match st with | x :: st => if j < nL ∧ ax_isA x = true then ax_fl1 j x lv fun lv => ax_go (pc + 2) lv st h else none | _ => none
  | .iinc j n => match ax_at lv j with | some x => (match ax_b2 (fun i j => i + j) x (.int (Int32.ofInt n)) with | some z => if j < nL then ax_fv z fun z => ax_fl1 j z lv fun lv => ax_go (pc + 3) lv st h else none | none => none) | none => none
  | .iadd => match st with | y :: x :: st => (match ax_add x y with | some z => ax_go (pc + 1) lv (z :: st) h | none => none) | _ => none
  | .isub => match st with | y :: x :: st => (match ax_b2 (fun i j => i - j) x y with | some z => ax_go (pc + 1) lv (z :: st) h | none => none) | _ => none
  | .imul => match st with | y :: x :: st => (match ax_mul x y with | some z => ax_go (pc + 1) lv (z :: st) h | none => none) | _ => none
  | .iand => match st with | y :: x :: st => (match ax_and x y with | some z => ax_go (pc + 1) lv (z :: st) h | none => none) | _ => none
  | .ior => match st with | y :: x :: st => (match ax_b2 (fun i j => i ||| j) x y with | some z => ax_go (pc + 1) lv (z :: st) h | none => none) | _ => none
  | .ixor => match st with | y :: x :: st => (match ax_b2 (fun i j => i ^^^ j) x y with | some z => ax_go (pc + 1) lv (z :: st) h | none => none) | _ => none
  | .ishl => match st with | y :: x :: st => (match ax_b2 (fun i j => i <<< (j &&& 31)) x y with | some z => ax_go (pc + 1) lv (z :: st) h | none => none) | _ => none
  | .ishr => match st with | y :: x :: st => (match ax_b2 (fun i j => i >>> (j &&& 31)) x y with | some z => ax_go (pc + 1) lv (z :: st) h | none => none) | _ => none
  | .iushr => match st with | y :: x :: st => (match ax_b2 (fun i j => (i.toUInt32 >>> (j.toUInt32 &&& Int32.toUInt32 31)).toInt32) x y with | some z => ax_go (pc + 1) lv (z :: st) h | none => none) | _ => none
  | .ladd => match st with | y :: x :: st => (match ax_l2 (fun i j => i + j) x y with | some z => ax_go (pc + 1) lv (z :: st) h | none => none) | _ => none
  | .lsub => match st with | y :: x :: st => (match ax_l2 (fun i j => i - j) x y with | some z => ax_go (pc + 1) lv (z :: st) h | none => none) | _ => none
  | .lmul => match st with | y :: x :: st => (match ax_l2 (fun i j => i * j) x y with | some z => ax_go (pc + 1) lv (z :: st) h | none => none) | _ => none
  | .land => match st with | y :: x :: st => (match ax_l2 (fun i j => i &&& j) x y with | some z => ax_go (pc + 1) lv (z :: st) h | none => none) | _ => none
  | .lor => match st with | y :: x :: st => (match ax_l2 (fun i j => i ||| j) x y with | some z => ax_go (pc + 1) lv (z :: st) h | none => none) | _ => none
  | .lxor => match st with | y :: x :: st => (match ax_l2 (fun i j => i ^^^ j) x y with | some z => ax_go (pc + 1) lv (z :: st) h | none => none) | _ => none
  | .lshl => match st with | y :: x :: st => (match ax_li (fun i j => i <<< (j.toInt64 &&& 63)) x y with | some z => ax_go (pc + 1) lv (z :: st) h | none => none) | _ => none
  | .lshr => match st with | y :: x :: st => (match ax_li (fun i j => i >>> (j.toInt64 &&& 63)) x y with | some z => ax_go (pc + 1) lv (z :: st) h | none => none) | _ => none
  | .lushr => match st with | y :: x :: st => (match ax_li (fun i j => (i.toUInt64 >>> (j.toInt64.toUInt64 &&& Int64.toUInt64 63)).toInt64) x y with | some z => ax_go (pc + 1) lv (z :: st) h | none => none) | _ => none
  | .idiv => match st with | y :: x :: st => (match ax_d2 (fun i j => i / j) x y with | some z => ax_go (pc + 1) lv (z :: st) h | none => none) | _ => none
  | .irem => match st with | y :: x :: st => (match ax_d2 (fun i j => i - i / j * j) x y with | some z => ax_go (pc + 1) lv (z :: st) h | none => none) | _ => none
  | .ldiv => match st with | y :: x :: st => (match ax_m2 (fun i j => i / j) x y with | some z => ax_go (pc + 1) lv (z :: st) h | none => none) | _ => none
  | .lrem => match st with | y :: x :: st => (match ax_m2 (fun i j => i - i / j * j) x y with | some z => ax_go (pc + 1) lv (z :: st) h | none => none) | _ => none
  | .lcmp => match st with | y :: x :: st => (match ax_lc  x y with | some z => ax_go (pc + 1) lv (z :: st) h | none => none) | _ => none
  | .ineg => match st with | x :: st => (match ax_u1 (fun i => -i) x with | some z => ax_go (pc + 1) lv (z :: st) h | none => none) | _ => none
  | .lneg => match st with | x :: st => (match ax_ul (fun i => -i) x with | some z => ax_go (pc + 1) lv (z :: st) h | none => none) | _ => none
  | .i2l => match st with | x :: st => (match ax_i2l x with | some z => ax_go (pc + 1) lv (z :: st) h | none => none) | _ => none
  | .l2i => match st with | x :: st => (match ax_l2i x with | some z => ax_go (pc + 1) lv (z :: st) h | none => none) | _ => none
  | .i2c => match st with | x :: st => (match ax_u1 (fun i => (i.toUInt32 % 65536).toInt32) x with | some z => ax_go (pc + 1) lv (z :: st) h | none => none) | _ => none
  | .i2b => match st with | x :: st => (match ax_u1 (fun i => i.toInt8.toInt32) x with | some z => ax_go (pc + 1) lv (z :: st) h | none => none) | _ => none
  | .dup => match st with | x :: st => if x.category = 1 then ax_go (pc + 1) lv (x :: x :: st) h else none | _ => none
  | .pop => match st with | x :: st => if x.category = 1 then ax_go (pc + 1) lv st h else none | _ => none
  | .dup2 => match st with | x :: y :: st => if x.category = 1 ∧ y.category = 1 then ax_go (pc + 1) lv (x :: y :: x :: y :: st) h else none | _ => none
  | .ifCond .eq off => match st with | x :: st => if 0 ≤ (pc : Int) + off ∧ ax_isI x = true then (match ax_equ x (.int 0) with | some t => ax_go (ax_br pc off (t)) lv st h | none => none) else none | _ => none
  | .ifCond .ne off => match st with | x :: st => if 0 ≤ (pc : Int) + off ∧ ax_isI x = true then (match ax_equ x (.int 0) with | some t => ax_go (ax_br pc off (!t)) lv st h | none => none) else none | _ => none
  | .ifCond .lt off => match st with | x :: st => if 0 ≤ (pc : Int) + off ∧ ax_isI x = true then (match ax_ltu x (.int 0) with | some t => ax_go (ax_br pc off (t)) lv st h | none => none) else none | _ => none
  | .ifCond .ge off => match st with | x :: st => if 0 ≤ (pc : Int) + off ∧ ax_isI x = true then (match ax_ltu x (.int 0) with | some t => ax_go (ax_br pc off (!t)) lv st h | none => none) else none | _ => none
  | .ifCond .gt off => match st with | x :: st => if 0 ≤ (pc : Int) + off ∧ ax_isI x = true then (match ax_ltu (.int 0) x with | some t => ax_go (ax_br pc off (t)) lv st h | none => none) else none | _ => none
  | .ifCond .le off => match st with | x :: st => if 0 ≤ (pc : Int) + off ∧ ax_isI x = true then (match ax_ltu (.int 0) x with | some t => ax_go (ax_br pc off (!t)) lv st h | none => none) else none | _ => none
  | .if_icmp .eq off => match st with | y :: x :: st => if 0 ≤ (pc : Int) + off ∧ ax_isI x = true ∧ ax_isI y = true then (match ax_equ x y with | some t => ax_go (ax_br pc off (t)) lv st h | none => none) else none | _ => none
  | .if_icmp .ne off => match st with | y :: x :: st => if 0 ≤ (pc : Int) + off ∧ ax_isI x = true ∧ ax_isI y = true then (match ax_equ x y with | some t => ax_go (ax_br pc off (!t)) lv st h | none => none) else none | _ => none
  | .if_icmp .lt off => match st with | y :: x :: st => if 0 ≤ (pc : Int) + off ∧ ax_isI x = true ∧ ax_isI y = true then (match ax_ltu x y with | some t => ax_go (ax_br pc off (t)) lv st h | none => none) else none | _ => none
  | .if_icmp .ge off => match st with | y :: x :: st => if 0 ≤ (pc : Int) + off ∧ ax_isI x = true ∧ ax_isI y = true then (match ax_ltu x y with | some t => ax_go (ax_br pc off (!t)) lv st h | none => none) else none | _ => none
  | .if_icmp .gt off => match st with | y :: x :: st => if 0 ≤ (pc : Int) + off ∧ ax_isI x = true ∧ ax_isI y = true then (match ax_ltu y x with | some t => ax_go (ax_br pc off (t)) lv st h | none => none) else none | _ => none
  | .if_icmp .le off => match st with | y :: x :: st => if 0 ≤ (pc : Int) + off ∧ ax_isI x = true ∧ ax_isI y = true then (match ax_ltu y x with | some t => ax_go (ax_br pc off (!t)) lv st h | none => none) else none | _ => none
  | .tableswitch dflt lo hi offs => match st with | .int x :: st => if x.toInt < lo ∨ hi < x.toInt then (if 0 ≤ (pc : Int) + dflt then ax_go ((pc : Int) + dflt).toNat lv st h else none) else (match offs[(x.toInt - lo).toNat]? with | some off => if 0 ≤ (pc : Int) + off then ax_go ((pc : Int) + off).toNat lv st h else none | none => none) | .float x :: st => if ((ax_rg x).2 < lo ∨ hi < (ax_rg x).1) ∧ 0 ≤ (pc : Int) + dflt then ax_go ((pc : Int) + dflt).toNat lv st h else none | _ => none
  | .goto off => if 0 ≤ (pc : Int) + off then ax_go ((pc : Int) + off).toNat lv st h else none
  | .ldc2_w _ => if a = 900 then none else ax_go (pc + 3) lv (v :: st) h
  | .ldc _ => if a = 900 then none else ax_go (pc + 2) lv (v :: st) h
  | .getfield _ => match st with | .ref q :: st => (match ax_get r h q with | some (t, vs) => if a = 900 ∨ ¬ t = a then none else (match vs[b]? with | some x => ax_go (pc + 3) lv (x :: st) h | none => none) | none => none) | _ => none
  | .putfield _ => match st with | x :: .ref q :: st => (match h[q]?, ax_cls[a]? with | some (t, vs), some cl => if a = 900 ∨ ¬ t = a ∨ ¬ q < 1000000000 ∨ ¬ vs.length = cl.2.2.1 ∨ ax_fit (cl.2.2.2 b) x = false then none else ax_hs vs b x fun vs => ax_hs h q (t, vs) fun h => ax_go (pc + 3) lv st h | _, _ => none) | _ => none
  | .getstatic _ => match ax_stat[a]? with | some q => ax_go (pc + 3) lv (q.2.2.2 :: st) h | none => none
  | .iaload => match st with | .int i :: .ref q :: st => (match ax_get r h q with | some (100, vs) => if i < 0 then none else (match vs[i.toNatClampNeg]? with | some x => ax_go (pc + 1) lv (x :: st) h | none => none) | _ => none) | _ => none
  | .laload => match st with | .int i :: .ref q :: st => (match ax_get r h q with | some (101, vs) => if i < 0 then none else (match vs[i.toNatClampNeg]? with | some x => ax_go (pc + 1) lv (x :: st) h | none => none) | _ => none) | _ => none
  | .baload => match st with | .int i :: .ref q :: st => (match ax_get r h q with | some (102, vs) => if i < 0 then none else (match vs[i.toNatClampNeg]? with | some x => ax_go (pc + 1) lv (x :: st) h | none => none) | _ => none) | _ => none
  | .aaload => match st with | .int i :: .ref q :: st => (match ax_get r h q with | some (t, vs) => if i < 0 ∨ t < 104 ∨ 107 ≤ t then none else (match vs[i.toNatClampNeg]? with | some x => ax_go (pc + 1) lv (x :: st) h | none => none) | _ => none) | _ => none
  | .arraylength => match st with | .ref q :: st => (match ax_get r h q with | some (t, vs) => if t < 100 ∨ 107 ≤ t then none else ax_go (pc + 1) lv (.int vs.length.toInt32 :: st) h | _ => none) | _ => none
  | .iastore => match st with | x :: .int i :: .ref q :: st => (match h[q]? with | some (100, vs) => if ¬ i < 0 ∧ i.toNatClampNeg < vs.length ∧ q < 1000000000 ∧ ax_isI x = true then ax_hs vs i.toNatClampNeg x fun vs => ax_hs h q (100, vs) fun h => ax_go (pc + 1) lv st h else none | _ => none) | _ => none
  | .lastore => match st with | x :: .int i :: .ref q :: st => (match h[q]? with | some (101, vs) => if ¬ i < 0 ∧ i.toNatClampNeg < vs.length ∧ q < 1000000000 ∧ ax_isL x = true then ax_hs vs i.toNatClampNeg x fun vs => ax_hs h q (101, vs) fun h => ax_go (pc + 1) lv st h else none | _ => none) | _ => none
  | .bastore => match st with | x :: .int i :: .ref q :: st => (match h[q]? with | some (102, vs) => if ¬ i < 0 ∧ i.toNatClampNeg < vs.length ∧ q < 1000000000 ∧ ax_fit .boolean x = true then ax_hs vs i.toNatClampNeg x fun vs => ax_hs h q (102, vs) fun h => ax_go (pc + 1) lv st h else none | _ => none) | _ => none
  | .aastore => match st with | .ref v2 :: .int i :: .ref q :: st => (match h[q]?, h[v2]? with | some (t, vs), some (ci, ws) => (match ax_cls[ci]?, ax_tys[t - 100]? with | some cl, some ty => if ¬ i < 0 ∧ i.toNatClampNeg < vs.length ∧ q < 1000000000 ∧ v2 < 1000000000 ∧ 100 ≤ t ∧ ty = .object cl.1 then ax_hs vs i.toNatClampNeg (.ref v2) fun vs => ax_hs h q (t, vs) fun h => ax_go (pc + 1) lv st h else none | _, _ => none) | _, _ => none) | _ => none
  | .new _ => match ax_cls[a]? with | some q => if 800 ≤ a then none else ax_ha h (a, (List.range q.2.2.1).map (fun j => defaultValue (q.2.2.2 j))) fun h1 => some (pc + 3, lv, .ref h.length :: st, h1, 1, q.2.2.1) | none => none
  | .newarray _ => match st with | .int n :: st => (match ax_tys[a]? with | some ty => if n < 0 ∨ 60000000 < n.toNatClampNeg ∨ a = 900 then none else ax_ha h (100 + a, List.replicate n.toNatClampNeg (defaultValue ty)) fun h1 => some (pc + 2, lv, .ref h.length :: st, h1, 1, n.toNatClampNeg) | none => none) | _ => none
  | .anewarray _ => match st with | .int n :: st => if n < 0 ∨ 60000000 < n.toNatClampNeg ∨ a = 900 then none else ax_ha h (100 + a, List.replicate n.toNatClampNeg .null) fun h1 => some (pc + 3, lv, .ref h.length :: st, h1, 1, n.toNatClampNeg) | _ => none
  | .invokespecial _ => if c = 2 ∧ ¬ a = 900 then (match st with | .ref _ :: st => if (st.map fun v => v.category).sum ≤ 8 then ax_go (pc + 3) lv st h else none | _ => none) else none
  | .invokestatic _ => match a, st with /- min(J, max(J, max(I -/ | 700, y :: x :: st => (match ax_l2 (fun i j => if j < i then j else i) x y with | some z => if (st.map fun v => v.category).sum ≤ 100 then ax_go (pc + 3) lv (z :: st) h else none | none => none) | 701, y :: x :: st => (match ax_l2 (fun i j => if j < i then i else j) x y with | some z => if (st.map fun v => v.category).sum ≤ 100 then ax_go (pc + 3) lv (z :: st) h else none | none => none) | 702, y :: x :: st => (match ax_b2 (fun i j => if i < j then j else i) x y with | some z => if (st.map fun v => v.category).sum ≤ 100 then ax_go (pc + 3) lv (z :: st) h else none | none => none) | 703, .int n :: .int 0 :: .ref q :: .int 0 :: .ref q0 :: st => (match ax_get r h q0, h[q]? with | some (t, vs), some (t1, us) => (match ax_tys[t - 100]? with | some ty => if 100 ≤ t ∧ t1 = t ∧ refKind ty = false ∧ q < 1000000000 ∧ ¬ n < 0 ∧ n.toNatClampNeg = vs.length ∧ us.length = vs.length ∧ vs.all (fun x => ax_fit ty x) = true ∧ (st.map fun v => v.category).sum ≤ 100 then ax_hs h q (t, vs) fun h => ax_go (pc + 3) lv st h else none | none => none) | _, _ => none) | _, _ => none
  | _ => none
section AXO
variable {l : Launch} {k : ax_M} {d : Nat} {r : ax_H} {P : ax_P} {X : ax_PX} {pc pc' : Nat} {lv lv' : List (Nat × Value)} {st st' : List Value} {h h' : ax_H} {bc bs dc ds : Nat} {a b c : Nat} {v : Value} {ws : List Nat}
set_option maxHeartbeats 4000000 in
theorem ax_one_ok {ins : Instr} (hd : decode k.2.1 pc = .ok (ins, ax_len ins)) (hok : ¬ a = 900 → ax_okx k ins a b c v ws = true) (hs : ax_one r k.2.2.1 pc ins a b c v lv st h = some (pc', lv', st', h', dc, ds)) (K : AR ax_ns l k d r P X pc' lv' st' h' bc bs) : AR ax_ns l k d r P X pc lv st h (bc + dc) (bs + ds) := by
  cases ins

  case iconst n =>
    simp only [ax_one, ax_go, ax_hs_eq, ax_ha_eq, ax_fl1_eq, ax_fl2_eq, ax_fv_eq] at hs
    repeat' (split at hs)
    all_goals first | (cases hs; done) | (cases hs; exact AR.iconst hd K)
  case bipush n =>
    simp only [ax_one, ax_go, ax_hs_eq, ax_ha_eq, ax_fl1_eq, ax_fl2_eq, ax_fv_eq] at hs
    repeat' (split at hs)
    all_goals first | (cases hs; done) | (cases hs; exact AR.bipush hd K)
  case sipush n =>
    simp only [ax_one, ax_go, ax_hs_eq, ax_ha_eq, ax_fl1_eq, ax_fl2_eq, ax_fv_eq] at hs
    repeat' (split at hs)
    all_goals first | (cases hs; done) | (cases hs; exact AR.sipush hd K)
  case lconst n =>
    simp only [ax_one, ax_go, ax_hs_eq, ax_ha_eq, ax_fl1_eq, ax_fl2_eq, ax_fv_eq] at hs
    repeat' (split at hs)
    all_goals first | (cases hs; done) | (cases hs; exact AR.lconst hd K)
  case iload_n j =>
    simp only [ax_one, ax_go, ax_hs_eq, ax_ha_eq, ax_fl1_eq, ax_fl2_eq, ax_fv_eq] at hs
    repeat' (split at hs)
    all_goals first | (cases hs; done) | (cases hs; exact AR.iload_n hd (by assumption) (by assumption) K)
  case iload j =>
    simp only [ax_one, ax_go, ax_hs_eq, ax_ha_eq, ax_fl1_eq, ax_fl2_eq, ax_fv_eq] at hs
    repeat' (split at hs)
    all_goals first | (cases hs; done) | (cases hs; exact AR.iload hd (by assumption) (by assumption) K)
  case istore_n j =>
    simp only [ax_one, ax_go, ax_hs_eq, ax_ha_eq, ax_fl1_eq, ax_fl2_eq, ax_fv_eq] at hs
    repeat' (split at hs)
    all_goals first | (cases hs; done) | (cases hs; rename_i hc; exact AR.istore_n hd hc.1 hc.2 K)
  case istore j =>
    simp only [ax_one, ax_go, ax_hs_eq, ax_ha_eq, ax_fl1_eq, ax_fl2_eq, ax_fv_eq] at hs
    repeat' (split at hs)
    all_goals first | (cases hs; done) | (cases hs; rename_i hc; exact AR.istore hd hc.1 hc.2 K)
  case lload_n j =>
    simp only [ax_one, ax_go, ax_hs_eq, ax_ha_eq, ax_fl1_eq, ax_fl2_eq, ax_fv_eq] at hs
    repeat' (split at hs)
    all_goals first | (cases hs; done) | (cases hs; exact AR.lload_n hd (by assumption) (by assumption) K)
  case lload j =>
    simp only [ax_one, ax_go, ax_hs_eq, ax_ha_eq, ax_fl1_eq, ax_fl2_eq, ax_fv_eq] at hs
    repeat' (split at hs)
    all_goals first | (cases hs; done) | (cases hs; exact AR.lload hd (by assumption) (by assumption) K)
  case lstore_n j =>
    simp only [ax_one, ax_go, ax_hs_eq, ax_ha_eq, ax_fl1_eq, ax_fl2_eq, ax_fv_eq] at hs
    repeat' (split at hs)
    all_goals first | (cases hs; done) | (cases hs; rename_i hc; exact AR.lstore_n hd hc.1 hc.2 K)
  case lstore j =>
    simp only [ax_one, ax_go, ax_hs_eq, ax_ha_eq, ax_fl1_eq, ax_fl2_eq, ax_fv_eq] at hs
    repeat' (split at hs)
    all_goals first | (cases hs; done) | (cases hs; rename_i hc; exact AR.lstore hd hc.1 hc.2 K)
  case aload_n j =>
    simp only [ax_one, ax_go, ax_hs_eq, ax_ha_eq, ax_fl1_eq, ax_fl2_eq, ax_fv_eq] at hs
    repeat' (split at hs)
    all_goals first | (cases hs; done) | (cases hs; exact AR.aload_n hd (by assumption) (by assumption) K)
  case aload j =>
    simp only [ax_one, ax_go, ax_hs_eq, ax_ha_eq, ax_fl1_eq, ax_fl2_eq, ax_fv_eq] at hs
    repeat' (split at hs)
    all_goals first | (cases hs; done) | (cases hs; exact AR.aload hd (by assumption) (by assumption) K)
  case astore_n j =>
    simp only [ax_one, ax_go, ax_hs_eq, ax_ha_eq, ax_fl1_eq, ax_fl2_eq, ax_fv_eq] at hs
    repeat' (split at hs)
    all_goals first | (cases hs; done) | (cases hs; rename_i hc; exact AR.astore_n hd hc.1 hc.2 K)
  case astore j =>
    simp only [ax_one, ax_go, ax_hs_eq, ax_ha_eq, ax_fl1_eq, ax_fl2_eq, ax_fv_eq] at hs
    repeat' (split at hs)
    all_goals first | (cases hs; done) | (cases hs; rename_i hc; exact AR.astore hd hc.1 hc.2 K)
  case iinc j n =>
    simp only [ax_one, ax_go, ax_hs_eq, ax_ha_eq, ax_fl1_eq, ax_fl2_eq, ax_fv_eq] at hs
    repeat' (split at hs)
    all_goals first | (cases hs; done) | (cases hs; exact AR.iinc hd (by assumption) (by assumption) (by assumption) K)
  case iadd =>
    simp only [ax_one, ax_go, ax_hs_eq, ax_ha_eq, ax_fl1_eq, ax_fl2_eq, ax_fv_eq] at hs
    repeat' (split at hs)
    all_goals first | (cases hs; done) | (cases hs; exact AR.iaddA hd (by assumption) K)
  case isub =>
    simp only [ax_one, ax_go, ax_hs_eq, ax_ha_eq, ax_fl1_eq, ax_fl2_eq, ax_fv_eq] at hs
    repeat' (split at hs)
    all_goals first | (cases hs; done) | (cases hs; exact AR.isub hd (by assumption) K)
  case imul =>
    simp only [ax_one, ax_go, ax_hs_eq, ax_ha_eq, ax_fl1_eq, ax_fl2_eq, ax_fv_eq] at hs
    repeat' (split at hs)
    all_goals first | (cases hs; done) | (cases hs; exact AR.imulA hd (by assumption) K)
  case iand =>
    simp only [ax_one, ax_go, ax_hs_eq, ax_ha_eq, ax_fl1_eq, ax_fl2_eq, ax_fv_eq] at hs
    repeat' (split at hs)
    all_goals first | (cases hs; done) | (cases hs; exact AR.iandA hd (by assumption) K)
  case ior =>
    simp only [ax_one, ax_go, ax_hs_eq, ax_ha_eq, ax_fl1_eq, ax_fl2_eq, ax_fv_eq] at hs
    repeat' (split at hs)
    all_goals first | (cases hs; done) | (cases hs; exact AR.ior hd (by assumption) K)
  case ixor =>
    simp only [ax_one, ax_go, ax_hs_eq, ax_ha_eq, ax_fl1_eq, ax_fl2_eq, ax_fv_eq] at hs
    repeat' (split at hs)
    all_goals first | (cases hs; done) | (cases hs; exact AR.ixor hd (by assumption) K)
  case ishl =>
    simp only [ax_one, ax_go, ax_hs_eq, ax_ha_eq, ax_fl1_eq, ax_fl2_eq, ax_fv_eq] at hs
    repeat' (split at hs)
    all_goals first | (cases hs; done) | (cases hs; exact AR.ishl hd (by assumption) K)
  case ishr =>
    simp only [ax_one, ax_go, ax_hs_eq, ax_ha_eq, ax_fl1_eq, ax_fl2_eq, ax_fv_eq] at hs
    repeat' (split at hs)
    all_goals first | (cases hs; done) | (cases hs; exact AR.ishr hd (by assumption) K)
  case iushr =>
    simp only [ax_one, ax_go, ax_hs_eq, ax_ha_eq, ax_fl1_eq, ax_fl2_eq, ax_fv_eq] at hs
    repeat' (split at hs)
    all_goals first | (cases hs; done) | (cases hs; exact AR.iushr hd (by assumption) K)
  case ladd =>
    simp only [ax_one, ax_go, ax_hs_eq, ax_ha_eq, ax_fl1_eq, ax_fl2_eq, ax_fv_eq] at hs
    repeat' (split at hs)
    all_goals first | (cases hs; done) | (cases hs; exact AR.ladd hd (by assumption) K)
  case lsub =>
    simp only [ax_one, ax_go, ax_hs_eq, ax_ha_eq, ax_fl1_eq, ax_fl2_eq, ax_fv_eq] at hs
    repeat' (split at hs)
    all_goals first | (cases hs; done) | (cases hs; exact AR.lsub hd (by assumption) K)
  case lmul =>
    simp only [ax_one, ax_go, ax_hs_eq, ax_ha_eq, ax_fl1_eq, ax_fl2_eq, ax_fv_eq] at hs
    repeat' (split at hs)
    all_goals first | (cases hs; done) | (cases hs; exact AR.lmul hd (by assumption) K)
  case land =>
    simp only [ax_one, ax_go, ax_hs_eq, ax_ha_eq, ax_fl1_eq, ax_fl2_eq, ax_fv_eq] at hs
    repeat' (split at hs)
    all_goals first | (cases hs; done) | (cases hs; exact AR.land hd (by assumption) K)
  case lor =>
    simp only [ax_one, ax_go, ax_hs_eq, ax_ha_eq, ax_fl1_eq, ax_fl2_eq, ax_fv_eq] at hs
    repeat' (split at hs)
    all_goals first | (cases hs; done) | (cases hs; exact AR.lor hd (by assumption) K)
  case lxor =>
    simp only [ax_one, ax_go, ax_hs_eq, ax_ha_eq, ax_fl1_eq, ax_fl2_eq, ax_fv_eq] at hs
    repeat' (split at hs)
    all_goals first | (cases hs; done) | (cases hs; exact AR.lxor hd (by assumption) K)
  case lshl =>
    simp only [ax_one, ax_go, ax_hs_eq, ax_ha_eq, ax_fl1_eq, ax_fl2_eq, ax_fv_eq] at hs
    repeat' (split at hs)
    all_goals first | (cases hs; done) | (cases hs; exact AR.lshl hd (by assumption) K)
  case lshr =>
    simp only [ax_one, ax_go, ax_hs_eq, ax_ha_eq, ax_fl1_eq, ax_fl2_eq, ax_fv_eq] at hs
    repeat' (split at hs)
    all_goals first | (cases hs; done) | (cases hs; exact AR.lshr hd (by assumption) K)
  case lushr =>
    simp only [ax_one, ax_go, ax_hs_eq, ax_ha_eq, ax_fl1_eq, ax_fl2_eq, ax_fv_eq] at hs
    repeat' (split at hs)
    all_goals first | (cases hs; done) | (cases hs; exact AR.lushr hd (by assumption) K)
  case idiv =>
    simp only [ax_one, ax_go, ax_hs_eq, ax_ha_eq, ax_fl1_eq, ax_fl2_eq, ax_fv_eq] at hs
    repeat' (split at hs)
    all_goals first | (cases hs; done) | (cases hs; exact AR.idiv hd (by assumption) K)
  case irem =>
    simp only [ax_one, ax_go, ax_hs_eq, ax_ha_eq, ax_fl1_eq, ax_fl2_eq, ax_fv_eq] at hs
    repeat' (split at hs)
    all_goals first | (cases hs; done) | (cases hs; exact AR.irem hd (by assumption) K)
  case ldiv =>
    simp only [ax_one, ax_go, ax_hs_eq, ax_ha_eq, ax_fl1_eq, ax_fl2_eq, ax_fv_eq] at hs
    repeat' (split at hs)
    all_goals first | (cases hs; done) | (cases hs; exact AR.ldiv hd (by assumption) K)
  case lrem =>
    simp only [ax_one, ax_go, ax_hs_eq, ax_ha_eq, ax_fl1_eq, ax_fl2_eq, ax_fv_eq] at hs
    repeat' (split at hs)
    all_goals first | (cases hs; done) | (cases hs; exact AR.lrem hd (by assumption) K)
  case lcmp =>
    simp only [ax_one, ax_go, ax_hs_eq, ax_ha_eq, ax_fl1_eq, ax_fl2_eq, ax_fv_eq] at hs
    repeat' (split at hs)
    all_goals first | (cases hs; done) | (cases hs; exact AR.lcmp hd (by assumption) K)
  case ineg =>
    simp only [ax_one, ax_go, ax_hs_eq, ax_ha_eq, ax_fl1_eq, ax_fl2_eq, ax_fv_eq] at hs
    repeat' (split at hs)
    all_goals first | (cases hs; done) | (cases hs; exact AR.ineg hd (by assumption) K)
  case lneg =>
    simp only [ax_one, ax_go, ax_hs_eq, ax_ha_eq, ax_fl1_eq, ax_fl2_eq, ax_fv_eq] at hs
    repeat' (split at hs)
    all_goals first | (cases hs; done) | (cases hs; exact AR.lneg hd (by assumption) K)
  case i2l =>
    simp only [ax_one, ax_go, ax_hs_eq, ax_ha_eq, ax_fl1_eq, ax_fl2_eq, ax_fv_eq] at hs
    repeat' (split at hs)
    all_goals first | (cases hs; done) | (cases hs; exact AR.i2l hd (by assumption) K)
  case l2i =>
    simp only [ax_one, ax_go, ax_hs_eq, ax_ha_eq, ax_fl1_eq, ax_fl2_eq, ax_fv_eq] at hs
    repeat' (split at hs)
    all_goals first | (cases hs; done) | (cases hs; exact AR.l2i hd (by assumption) K)
  case i2c =>
    simp only [ax_one, ax_go, ax_hs_eq, ax_ha_eq, ax_fl1_eq, ax_fl2_eq, ax_fv_eq] at hs
    repeat' (split at hs)
    all_goals first | (cases hs; done) | (cases hs; exact AR.i2c hd (by assumption) K)
  case i2b =>
    simp only [ax_one, ax_go, ax_hs_eq, ax_ha_eq, ax_fl1_eq, ax_fl2_eq, ax_fv_eq] at hs
    repeat' (split at hs)
    all_goals first | (cases hs; done) | (cases hs; exact AR.i2b hd (by assumption) K)
  case dup =>
    simp only [ax_one, ax_go, ax_hs_eq, ax_ha_eq, ax_fl1_eq, ax_fl2_eq, ax_fv_eq] at hs
    repeat' (split at hs)
    all_goals first | (cases hs; done) | (cases hs; exact AR.dup hd (by assumption) K)
  case pop =>
    simp only [ax_one, ax_go, ax_hs_eq, ax_ha_eq, ax_fl1_eq, ax_fl2_eq, ax_fv_eq] at hs
    repeat' (split at hs)
    all_goals first | (cases hs; done) | (cases hs; exact AR.pop hd (by assumption) K)
  case dup2 =>
    simp only [ax_one, ax_go, ax_hs_eq, ax_ha_eq, ax_fl1_eq, ax_fl2_eq, ax_fv_eq] at hs
    repeat' (split at hs)
    all_goals first | (cases hs; done) | (cases hs; rename_i hc; exact AR.dup2 hd hc.1 hc.2 K)
  case ifCond cd off =>
    cases cd
    case eq =>
      simp only [ax_one, ax_go, ax_hs_eq, ax_ha_eq, ax_fl1_eq, ax_fl2_eq, ax_fv_eq] at hs
      repeat' (split at hs)
      all_goals first | (cases hs; done) | (rename_i hc _ _ hu; cases hs; exact AR.v_eq hd hc.1 hc.2 hu K)
    case ne =>
      simp only [ax_one, ax_go, ax_hs_eq, ax_ha_eq, ax_fl1_eq, ax_fl2_eq, ax_fv_eq] at hs
      repeat' (split at hs)
      all_goals first | (cases hs; done) | (rename_i hc _ _ hu; cases hs; exact AR.v_ne hd hc.1 hc.2 hu K)
    case lt =>
      simp only [ax_one, ax_go, ax_hs_eq, ax_ha_eq, ax_fl1_eq, ax_fl2_eq, ax_fv_eq] at hs
      repeat' (split at hs)
      all_goals first | (cases hs; done) | (rename_i hc _ _ hu; cases hs; exact AR.v_lt hd hc.1 hc.2 hu K)
    case ge =>
      simp only [ax_one, ax_go, ax_hs_eq, ax_ha_eq, ax_fl1_eq, ax_fl2_eq, ax_fv_eq] at hs
      repeat' (split at hs)
      all_goals first | (cases hs; done) | (rename_i hc _ _ hu; cases hs; exact AR.v_ge hd hc.1 hc.2 hu K)
    case gt =>
      simp only [ax_one, ax_go, ax_hs_eq, ax_ha_eq, ax_fl1_eq, ax_fl2_eq, ax_fv_eq] at hs
      repeat' (split at hs)
      all_goals first | (cases hs; done) | (rename_i hc _ _ hu; cases hs; exact AR.v_gt hd hc.1 hc.2 hu K)
    case le =>
      simp only [ax_one, ax_go, ax_hs_eq, ax_ha_eq, ax_fl1_eq, ax_fl2_eq, ax_fv_eq] at hs
      repeat' (split at hs)
      all_goals first | (cases hs; done) | (rename_i hc _ _ hu; cases hs; exact AR.v_le hd hc.1 hc.2 hu K)
  case if_icmp cd off =>
    cases cd
    case eq =>
      simp only [ax_one, ax_go, ax_hs_eq, ax_ha_eq, ax_fl1_eq, ax_fl2_eq, ax_fv_eq] at hs
      repeat' (split at hs)
      all_goals first | (cases hs; done) | (rename_i hc _ _ hu; cases hs; exact AR.u_eq hd hc.1 hc.2.1 hc.2.2 hu K)
    case ne =>
      simp only [ax_one, ax_go, ax_hs_eq, ax_ha_eq, ax_fl1_eq, ax_fl2_eq, ax_fv_eq] at hs
      repeat' (split at hs)
      all_goals first | (cases hs; done) | (rename_i hc _ _ hu; cases hs; exact AR.u_ne hd hc.1 hc.2.1 hc.2.2 hu K)
    case lt =>
      simp only [ax_one, ax_go, ax_hs_eq, ax_ha_eq, ax_fl1_eq, ax_fl2_eq, ax_fv_eq] at hs
      repeat' (split at hs)
      all_goals first | (cases hs; done) | (rename_i hc _ _ hu; cases hs; exact AR.u_lt hd hc.1 hc.2.1 hc.2.2 hu K)
    case ge =>
      simp only [ax_one, ax_go, ax_hs_eq, ax_ha_eq, ax_fl1_eq, ax_fl2_eq, ax_fv_eq] at hs
      repeat' (split at hs)
      all_goals first | (cases hs; done) | (rename_i hc _ _ hu; cases hs; exact AR.u_ge hd hc.1 hc.2.1 hc.2.2 hu K)
    case gt =>
      simp only [ax_one, ax_go, ax_hs_eq, ax_ha_eq, ax_fl1_eq, ax_fl2_eq, ax_fv_eq] at hs
      repeat' (split at hs)
      all_goals first | (cases hs; done) | (rename_i hc _ _ hu; cases hs; exact AR.u_gt hd hc.1 hc.2.1 hc.2.2 hu K)
    case le =>
      simp only [ax_one, ax_go, ax_hs_eq, ax_ha_eq, ax_fl1_eq, ax_fl2_eq, ax_fv_eq] at hs
      repeat' (split at hs)
      all_goals first | (cases hs; done) | (rename_i hc _ _ hu; cases hs; exact AR.u_le hd hc.1 hc.2.1 hc.2.2 hu K)
  case goto off =>
    simp only [ax_one, ax_go, ax_hs_eq, ax_ha_eq, ax_fl1_eq, ax_fl2_eq, ax_fv_eq] at hs
    repeat' (split at hs)
    all_goals first | (cases hs; done) | (cases hs; exact AR.goto hd (Int.toNat_of_nonneg (by assumption)).symm K)
  case ldc2_w ix =>
    simp only [ax_one, ax_go, ax_hs_eq, ax_ha_eq, ax_fl1_eq, ax_fl2_eq, ax_fv_eq] at hs
    split at hs
    · cases hs
    · rename_i ha
      cases hs
      have hx := hok ha
      simp only [ax_okx] at hx
      split at hx
      · exact AR.ldc2 hd (ax_wk_mem hx) K
      · cases hx
  case ldc ix =>
    simp only [ax_one, ax_go, ax_hs_eq, ax_ha_eq, ax_fl1_eq, ax_fl2_eq, ax_fv_eq] at hs
    split at hs
    · cases hs
    · rename_i ha
      cases hs
      have hx := hok ha
      simp only [ax_okx] at hx
      split at hx
      · exact AR.ldci hd (ax_wk_mem hx) K
      · cases hx
  case getfield ix =>
    simp only [ax_one, ax_go, ax_hs_eq, ax_ha_eq, ax_fl1_eq, ax_fl2_eq, ax_fv_eq] at hs
    repeat' (split at hs)
    all_goals first | (cases hs; done) | skip
    rename_i t vs hg hc _ x hx0
    cases hs
    have ha : ¬ a = 900 := fun q => hc (Or.inl q)
    have ht : t = a := Decidable.byContradiction fun q => hc (Or.inr q)
    subst ht
    have hx := hok ha
    simp only [ax_okx] at hx
    split at hx
    · rename_i q w hq
      simp only [Bool.and_eq_true] at hx
      exact AR.getfield hd hq (Nat.lt_of_succ_le (Nat.le_of_ble_eq_true hx.1)) (ax_wk_mem hx.2) hg hx0 K
    · cases hx
  case putfield ix =>
    simp only [ax_one, ax_go, ax_hs_eq, ax_ha_eq, ax_fl1_eq, ax_fl2_eq, ax_fv_eq] at hs
    repeat' (split at hs)
    all_goals first | (cases hs; done) | skip
    rename_i t vs cl hg hcl hc
    cases hs
    have ha : ¬ a = 900 := fun q => hc (Or.inl q)
    have ht : t = a := Decidable.byContradiction fun q => hc (Or.inr (Or.inl q))
    have h2 := Decidable.byContradiction fun q => hc (Or.inr (Or.inr (Or.inl q)))
    have h3 := Decidable.byContradiction fun q => hc (Or.inr (Or.inr (Or.inr (Or.inl q))))
    have h4 : ¬ ax_fit (cl.2.2.2 b) _ = false := fun q => hc (Or.inr (Or.inr (Or.inr (Or.inr q))))
    subst ht
    have hx := hok ha
    simp only [ax_okx] at hx
    split at hx
    · rename_i q w hq
      cases hcl.symm.trans hq
      simp only [Bool.and_eq_true, Bool.or_eq_true, Bool.not_eq_true', decide_eq_true_eq] at hx
      refine AR.putfield hd hcl (Nat.lt_of_succ_le (Nat.le_of_ble_eq_true hx.1.1)) (ax_wk_mem hx.1.2) ?_ h2 hg h3 (Bool.not_eq_false _ |>.mp h4) K
      cases hf : (cl.2.1 b).2.2.2 with
      | false => exact Or.inl rfl
      | true =>
        rcases hx.2 with q | q
        · rw [hf] at q; cases q
        · exact Or.inr ⟨rfl, q.1, q.2⟩
    · cases hx
  case getstatic ix =>
    simp only [ax_one, ax_go, ax_hs_eq, ax_ha_eq, ax_fl1_eq, ax_fl2_eq, ax_fv_eq] at hs
    repeat' (split at hs)
    all_goals first | (cases hs; done) | skip
    rename_i q hq
    cases hs
    have ha : ¬ a = 900 := fun e => by subst e; simp [ax_stat] at hq
    have hx := hok ha
    simp only [ax_okx] at hx
    split at hx
    · rename_i q2 w hq2
      cases hq.symm.trans hq2
      exact AR.getstatic hd (List.mem_of_getElem? hq) (ax_wk_mem hx) K
    · cases hx
  case iaload =>
    simp only [ax_one, ax_go, ax_hs_eq, ax_ha_eq, ax_fl1_eq, ax_fl2_eq, ax_fv_eq] at hs
    repeat' (split at hs)
    all_goals first | (cases hs; done) | (cases hs; exact AR.iaload hd (by assumption) (by assumption) (by assumption) K)
  case laload =>
    simp only [ax_one, ax_go, ax_hs_eq, ax_ha_eq, ax_fl1_eq, ax_fl2_eq, ax_fv_eq] at hs
    repeat' (split at hs)
    all_goals first | (cases hs; done) | (cases hs; exact AR.laload hd (by assumption) (by assumption) (by assumption) K)
  case baload =>
    simp only [ax_one, ax_go, ax_hs_eq, ax_ha_eq, ax_fl1_eq, ax_fl2_eq, ax_fv_eq] at hs
    repeat' (split at hs)
    all_goals first | (cases hs; done) | (cases hs; exact AR.zaload hd (by assumption) (by assumption) (by assumption) K)
  case aaload =>
    simp only [ax_one, ax_go, ax_hs_eq, ax_ha_eq, ax_fl1_eq, ax_fl2_eq, ax_fv_eq] at hs
    repeat' (split at hs)
    all_goals first | (cases hs; done) | skip
    rename_i t vs hg hc _ x hx0
    cases hs
    have h1 : ¬ _ := fun q => hc (Or.inl q)
    obtain ⟨u, hu, rfl⟩ : ∃ u, u < 7 ∧ t = 100 + u := ⟨t - 100, by omega, by omega⟩
    have hr : ∃ ty, ax_tys[u]? = some ty ∧ ty.isReference = true := by
      rcases (by omega : u = 4 ∨ u = 5 ∨ u = 6) with rfl | rfl | rfl <;> exact ⟨_, rfl, rfl⟩
    obtain ⟨ty, ht, hr⟩ := hr
    exact AR.aaload hd ht hr hg h1 hx0 K
  case arraylength =>
    simp only [ax_one, ax_go, ax_hs_eq, ax_ha_eq, ax_fl1_eq, ax_fl2_eq, ax_fv_eq] at hs
    repeat' (split at hs)
    all_goals first | (cases hs; done) | skip
    rename_i t vs hg hc
    cases hs
    obtain ⟨u, hu, rfl⟩ : ∃ u, u < 7 ∧ t = 100 + u := ⟨t - 100, by omega, by omega⟩
    have hr : ∃ ty, ax_tys[u]? = some ty := ⟨_, List.getElem?_eq_getElem (show u < ax_tys.length from hu)⟩
    obtain ⟨ty, ht⟩ := hr
    exact AR.arraylength hd ht hg K
  case iastore =>
    simp only [ax_one, ax_go, ax_hs_eq, ax_ha_eq, ax_fl1_eq, ax_fl2_eq, ax_fv_eq] at hs
    repeat' (split at hs)
    all_goals first | (cases hs; done) | (cases hs; rename_i hc; exact AR.iastore hd hc.2.2.1 (by assumption) hc.1 hc.2.1 hc.2.2.2 K)
  case lastore =>
    simp only [ax_one, ax_go, ax_hs_eq, ax_ha_eq, ax_fl1_eq, ax_fl2_eq, ax_fv_eq] at hs
    repeat' (split at hs)
    all_goals first | (cases hs; done) | (cases hs; rename_i hc; exact AR.lastore hd hc.2.2.1 (by assumption) hc.1 hc.2.1 hc.2.2.2 K)
  case bastore =>
    simp only [ax_one, ax_go, ax_hs_eq, ax_ha_eq, ax_fl1_eq, ax_fl2_eq, ax_fv_eq] at hs
    repeat' (split at hs)
    all_goals first | (cases hs; done) | (cases hs; rename_i hc; exact AR.zastore hd hc.2.2.1 (by assumption) hc.1 hc.2.1 hc.2.2.2 K)
  case aastore =>
    simp only [ax_one, ax_go, ax_hs_eq, ax_ha_eq, ax_fl1_eq, ax_fl2_eq, ax_fv_eq] at hs
    repeat' (split at hs)
    all_goals first | (cases hs; done) | skip
    rename_i t vs ci us hg hg2 _ _ cl ty hcl hty hc
    cases hs
    obtain ⟨h1, h2, h3, h4, h5, rfl⟩ := hc
    obtain ⟨u, rfl⟩ : ∃ u, t = 100 + u := ⟨t - 100, by omega⟩
    rw [Nat.add_sub_cancel_left] at hty
    exact AR.aastore hd h3 h4 hcl hty hg hg2 h1 h2 K
  case new ix =>
    simp only [ax_one, ax_go, ax_hs_eq, ax_ha_eq, ax_fl1_eq, ax_fl2_eq, ax_fv_eq] at hs
    repeat' (split at hs)
    all_goals first | (cases hs; done) | skip
    rename_i q hq hc
    cases hs
    have hx := hok (by omega)
    simp only [ax_okx, Bool.or_eq_true] at hx
    rcases hx with hx | hx
    · exact absurd (Nat.le_of_ble_eq_true hx) hc
    · split at hx
      · rename_i q2 w1 w2 w3 hq2
        cases hq.symm.trans hq2
        simp only [Bool.and_eq_true] at hx
        exact AR.new hd hq (ax_wk_mem hx.1.1) (ax_wk_mem hx.1.2) (ax_wk_mem hx.2) (Nat.le_add_left _ _) (Nat.le_add_left _ _) (by rw [Nat.add_sub_cancel, Nat.add_sub_cancel]; exact K)
      · cases hx
  case newarray at_ =>
    simp only [ax_one, ax_go, ax_hs_eq, ax_ha_eq, ax_fl1_eq, ax_fl2_eq, ax_fv_eq] at hs
    repeat' (split at hs)
    all_goals first | (cases hs; done) | skip
    rename_i ty hty hc
    cases hs
    have hx := hok (fun q => hc (Or.inr (Or.inr q)))
    have h1 := fun q => hc (Or.inl q)
    have h2 := fun q => hc (Or.inr (Or.inl q))
    simp only [ax_okx] at hx
    split at hx
    · rename_i ty2 w hty2
      cases hty.symm.trans hty2
      simp only [Bool.and_eq_true, decide_eq_true_eq] at hx
      exact AR.newarray hd hty hx.1.1.1 (ax_wk_mem hx.1.1.2) h1 rfl (Nat.not_lt.mp h2) (Nat.le_add_left _ _) (Nat.le_add_left _ _) ⟨hx.1.2, hx.2⟩ (by rw [Nat.add_sub_cancel, Nat.add_sub_cancel]; exact K)
    · cases hx
  case anewarray ix =>
    simp only [ax_one, ax_go, ax_hs_eq, ax_ha_eq, ax_fl1_eq, ax_fl2_eq, ax_fv_eq] at hs
    repeat' (split at hs)
    all_goals first | (cases hs; done) | skip
    rename_i hc
    cases hs
    have hx := hok (fun q => hc (Or.inr (Or.inr q)))
    have h1 := fun q => hc (Or.inl q)
    have h2 := fun q => hc (Or.inr (Or.inl q))
    simp only [ax_okx] at hx
    split at hx
    · rename_i C w1 hty
      simp only [Bool.and_eq_true, decide_eq_true_eq] at hx
      exact AR.anewarray hd hty (ax_wk_mem hx.1) hx.2 h1 rfl (Nat.not_lt.mp h2) (Nat.le_add_left _ _) (Nat.le_add_left _ _) (by rw [Nat.add_sub_cancel, Nat.add_sub_cancel]; exact K)
    · cases hx
  case invokespecial ix =>
    simp only [ax_one, ax_go, ax_hs_eq, ax_ha_eq, ax_fl1_eq, ax_fl2_eq, ax_fv_eq] at hs
    repeat' (split at hs)
    all_goals first | (cases hs; done) | skip
    rename_i hc _ _ _ hcat
    cases hs
    obtain ⟨rfl, ha⟩ := hc
    have hx := hok ha
    simp only [ax_okx] at hx
    match ws, hx with
    | [], hx => cases hx
    | [w], hx => exact AR.objInit hd (ax_wk_mem hx) ax_ok0.1 ax_ok0.2 hcat K
    | _ :: _ :: _, hx => cases hx
  case invokestatic ix =>
    simp only [ax_one, ax_go, ax_hs_eq] at hs
    split at hs
    all_goals repeat' (split at hs)
    all_goals first | (cases hs; done) | skip
    · cases hs
      rename_i hz hcat
      have hx := hok (by decide)
      simp only [ax_okx] at hx
      split at hx
      · exact AR.mminL hd (ax_wk_mem hx) hz hcat K
      · cases hx
    · cases hs
      rename_i hz hcat
      have hx := hok (by decide)
      simp only [ax_okx] at hx
      split at hx
      · exact AR.mmaxL hd (ax_wk_mem hx) hz hcat K
      · cases hx
    · cases hs
      rename_i hz hcat
      have hx := hok (by decide)
      simp only [ax_okx] at hx
      split at hx
      · exact AR.mmaxI hd (ax_wk_mem hx) hz hcat K
      · cases hx
    · rename_i t vs t1 us hg0 hg1 _ ty hty hc
      cases hs
      obtain ⟨c1, rfl, c3, c4, c5, c6, c7, c8, c9⟩ := hc
      obtain ⟨u, rfl⟩ : ∃ u, t1 = 100 + u := ⟨t1 - 100, by omega⟩
      rw [Nat.add_sub_cancel_left] at hty
      have hx := hok (by decide)
      simp only [ax_okx] at hx
      split at hx
      · exact AR.arraycopy hd (ax_wk_mem hx) hty c3 hg0 c4 hg1 c5 c6 c7 (fun x hx => List.all_eq_true.mp c8 x hx) c9 K
      · cases hx
  case tableswitch dflt lo hi offs =>
    simp only [ax_one, ax_go, ax_hs_eq, ax_ha_eq, ax_fl1_eq, ax_fl2_eq, ax_fv_eq] at hs
    repeat' (split at hs)
    all_goals first | (cases hs; done) | (cases hs; rename_i hr _; exact AR.tableOut hd hr (Int.toNat_of_nonneg (by assumption)).symm K) | (cases hs; rename_i hr _ _ ho _; exact AR.tableIn hd (fun q => hr (Or.inl q)) (fun q => hr (Or.inr q)) ho (Int.toNat_of_nonneg (by assumption)).symm K) | (cases hs; rename_i hr; exact AR.split rfl (fun i hi => AR.tableOut hd (by have h1 := hi.1; have h2 := hi.2; omega) (Int.toNat_of_nonneg hr.2).symm K))
  all_goals exact absurd hs (by simp [ax_one])
end AXO
