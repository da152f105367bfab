/-! BY HAND, 7: least -/
theorem hn_172 : (ax_mm 172).2.2.1 = 9 := by decide +kernel
theorem hr_172 : (ax_mm 172).2.2.2.1 = some .int := by decide +kernel
theorem hk_172_0 : ax_look 172 0 = some (.bipush 24, (0, 0, 0), .null, []) := by decide +kernel
theorem hk_172_2 : ax_look 172 2 = some (.newarray .boolean, (2, 0, 0), .null, [5047]) := by decide +kernel
theorem hk_172_4 : ax_look 172 4 = some (.astore_n 2, (0, 0, 0), .null, []) := by decide +kernel
theorem hk_172_5 : ax_look 172 5 = some (.lconst 0, (0, 0, 0), .null, []) := by decide +kernel
theorem hk_172_6 : ax_look 172 6 = some (.lstore_n 3, (0, 0, 0), .null, []) := by decide +kernel
theorem hk_172_7 : ax_look 172 7 = some (.aload_n 0, (0, 0, 0), .null, []) := by decide +kernel
theorem hk_172_8 : ax_look 172 8 = some (.iload_n 1, (0, 0, 0), .null, []) := by decide +kernel
theorem hk_172_9 : ax_look 172 9 = some (.invokevirtual 198, (166, 1, 9), .null, [999999, 999999]) := by decide +kernel
theorem hk_172_12 : ax_look 172 12 = some (.istore 5, (0, 0, 0), .null, []) := by decide +kernel
theorem hk_172_14 : ax_look 172 14 = some (.iconst 0, (0, 0, 0), .null, []) := by decide +kernel
theorem hk_172_15 : ax_look 172 15 = some (.istore 6, (0, 0, 0), .null, []) := by decide +kernel
theorem hk_172_17 : ax_look 172 17 = some (.iload 6, (0, 0, 0), .null, []) := by decide +kernel
theorem hk_172_19 : ax_look 172 19 = some (.iload 5, (0, 0, 0), .null, []) := by decide +kernel
theorem hk_172_21 : ax_look 172 21 = some (.if_icmp .gt 91, (0, 0, 0), .null, []) := by decide +kernel
theorem hk_172_24 : ax_look 172 24 = some (.lload_n 3, (0, 0, 0), .null, []) := by decide +kernel
theorem hk_172_25 : ax_look 172 25 = some (.aload_n 0, (0, 0, 0), .null, []) := by decide +kernel
theorem hk_172_26 : ax_look 172 26 = some (.getfield 13, (9, 3, 0), .null, [999999]) := by decide +kernel
theorem hk_172_29 : ax_look 172 29 = some (.iload_n 1, (0, 0, 0), .null, []) := by decide +kernel
theorem hk_172_30 : ax_look 172 30 = some (.laload, (0, 0, 0), .null, []) := by decide +kernel
theorem hk_172_31 : ax_look 172 31 = some (.lcmp, (0, 0, 0), .null, []) := by decide +kernel
theorem hk_172_32 : ax_look 172 32 = some (.ifCond .lt 6, (0, 0, 0), .null, []) := by decide +kernel
theorem hk_172_35 : ax_look 172 35 = some (.iload 6, (0, 0, 0), .null, []) := by decide +kernel
theorem hk_172_37 : ax_look 172 37 = some (.ireturn, (0, 0, 0), .null, []) := by decide +kernel
theorem hk_172_38 : ax_look 172 38 = some (.iconst (-1), (0, 0, 0), .null, []) := by decide +kernel
theorem hk_172_39 : ax_look 172 39 = some (.istore 7, (0, 0, 0), .null, []) := by decide +kernel
theorem hk_172_41 : ax_look 172 41 = some (.iconst 0, (0, 0, 0), .null, []) := by decide +kernel
theorem hk_172_42 : ax_look 172 42 = some (.istore 8, (0, 0, 0), .null, []) := by decide +kernel
theorem hk_172_44 : ax_look 172 44 = some (.iload 8, (0, 0, 0), .null, []) := by decide +kernel
theorem hk_172_46 : ax_look 172 46 = some (.bipush 24, (0, 0, 0), .null, []) := by decide +kernel
theorem hk_172_48 : ax_look 172 48 = some (.if_icmp .ge 43, (0, 0, 0), .null, []) := by decide +kernel
theorem hk_172_51 : ax_look 172 51 = some (.aload_n 2, (0, 0, 0), .null, []) := by decide +kernel
theorem hk_172_52 : ax_look 172 52 = some (.iload 8, (0, 0, 0), .null, []) := by decide +kernel
theorem hk_172_54 : ax_look 172 54 = some (.baload, (0, 0, 0), .null, []) := by decide +kernel
theorem hk_172_55 : ax_look 172 55 = some (.ifCond .ne 30, (0, 0, 0), .null, []) := by decide +kernel
theorem hk_172_58 : ax_look 172 58 = some (.iload 7, (0, 0, 0), .null, []) := by decide +kernel
theorem hk_172_60 : ax_look 172 60 = some (.ifCond .lt 21, (0, 0, 0), .null, []) := by decide +kernel
theorem hk_172_63 : ax_look 172 63 = some (.aload_n 0, (0, 0, 0), .null, []) := by decide +kernel
theorem hk_172_64 : ax_look 172 64 = some (.iload_n 1, (0, 0, 0), .null, []) := by decide +kernel
theorem hk_172_65 : ax_look 172 65 = some (.iload 8, (0, 0, 0), .null, []) := by decide +kernel
theorem hk_172_67 : ax_look 172 67 = some (.invokevirtual 71, (136, 2, 9), .null, [999999, 999999]) := by decide +kernel
theorem hk_172_70 : ax_look 172 70 = some (.aload_n 0, (0, 0, 0), .null, []) := by decide +kernel
theorem hk_172_71 : ax_look 172 71 = some (.iload_n 1, (0, 0, 0), .null, []) := by decide +kernel
theorem hk_172_72 : ax_look 172 72 = some (.iload 7, (0, 0, 0), .null, []) := by decide +kernel
theorem hk_172_74 : ax_look 172 74 = some (.invokevirtual 71, (136, 2, 9), .null, [999999, 999999]) := by decide +kernel
theorem hk_172_77 : ax_look 172 77 = some (.lcmp, (0, 0, 0), .null, []) := by decide +kernel
theorem hk_172_78 : ax_look 172 78 = some (.ifCond .le 7, (0, 0, 0), .null, []) := by decide +kernel
theorem hk_172_81 : ax_look 172 81 = some (.iload 8, (0, 0, 0), .null, []) := by decide +kernel
theorem hk_172_83 : ax_look 172 83 = some (.istore 7, (0, 0, 0), .null, []) := by decide +kernel
theorem hk_172_85 : ax_look 172 85 = some (.iinc 8 1, (0, 0, 0), .null, []) := by decide +kernel
theorem hk_172_88 : ax_look 172 88 = some (.goto (-44), (0, 0, 0), .null, []) := by decide +kernel
theorem hk_172_91 : ax_look 172 91 = some (.aload_n 2, (0, 0, 0), .null, []) := by decide +kernel
theorem hk_172_92 : ax_look 172 92 = some (.iload 7, (0, 0, 0), .null, []) := by decide +kernel
theorem hk_172_94 : ax_look 172 94 = some (.iconst 1, (0, 0, 0), .null, []) := by decide +kernel
theorem hk_172_95 : ax_look 172 95 = some (.bastore, (0, 0, 0), .null, []) := by decide +kernel
theorem hk_172_96 : ax_look 172 96 = some (.lload_n 3, (0, 0, 0), .null, []) := by decide +kernel
theorem hk_172_97 : ax_look 172 97 = some (.aload_n 0, (0, 0, 0), .null, []) := by decide +kernel
theorem hk_172_98 : ax_look 172 98 = some (.iload_n 1, (0, 0, 0), .null, []) := by decide +kernel
theorem hk_172_99 : ax_look 172 99 = some (.iload 7, (0, 0, 0), .null, []) := by decide +kernel
theorem hk_172_101 : ax_look 172 101 = some (.invokevirtual 71, (136, 2, 9), .null, [999999, 999999]) := by decide +kernel
theorem hk_172_104 : ax_look 172 104 = some (.ladd, (0, 0, 0), .null, []) := by decide +kernel
theorem hk_172_105 : ax_look 172 105 = some (.lstore_n 3, (0, 0, 0), .null, []) := by decide +kernel
theorem hk_172_106 : ax_look 172 106 = some (.iinc 6 1, (0, 0, 0), .null, []) := by decide +kernel
theorem hk_172_109 : ax_look 172 109 = some (.goto (-92), (0, 0, 0), .null, []) := by decide +kernel
theorem hk_172_112 : ax_look 172 112 = some (.iload 5, (0, 0, 0), .null, []) := by decide +kernel
theorem hk_172_114 : ax_look 172 114 = some (.iconst 1, (0, 0, 0), .null, []) := by decide +kernel
theorem hk_172_115 : ax_look 172 115 = some (.iadd, (0, 0, 0), .null, []) := by decide +kernel
theorem hk_172_116 : ax_look 172 116 = some (.ireturn, (0, 0, 0), .null, []) := by decide +kernel

section HM4
variable {l : Launch} {K : Int} {h g : ax_H} {c y : Int32} {cn yn : Nat}
theorem hy_app (hH : hy_H K h) (gs : ax_H) : hy_H K (h ++ gs) := by
  have hl := hH.1
  exact ty_H.far hH ty_Lo_push (by rw [List.length_append]; omega) (fun q hq => List.getElem?_append_left (by omega))
theorem hy_zapp (hH : hy_H K h) (gs : ax_H) {q : Nat} (hq : q < 198) (j : Nat) : hy_z (h ++ gs) q j = hy_z h q j := by
  have hl := hH.1
  refine hy_ze ?_
  unfold ty_fd
  rw [List.getElem?_append_left (by omega)]
def hy_bl (f : Nat → Bool) : List Value := (List.range 24).map (fun j => .int (if f j then 1 else 0))
theorem hy_bl_len (f : Nat → Bool) : (hy_bl f).length = 24 := by simp [hy_bl]
theorem hy_bl_get (f : Nat → Bool) {j : Nat} (hj : j < 24) : (hy_bl f)[j]? = some (.int (if f j then 1 else 0)) := by
  simp [hy_bl, hj]
theorem hy_bl_set (f : Nat → Bool) {i : Nat} (hi : i < 24) : (hy_bl f).set i (.int 1) = hy_bl (fun j => if j = i then true else f j) := by
  refine List.ext_getElem? (fun j => ?_)
  rcases Nat.lt_or_ge j 24 with hj | hj
  · by_cases e : j = i
    · subst e
      rw [List.getElem?_set_self (by rw [hy_bl_len]; exact hj), hy_bl_get _ hj]
      simp
    · rw [List.getElem?_set_ne (Ne.symm e), hy_bl_get _ hj, hy_bl_get _ hj]
      simp [e]
  · rw [List.getElem?_eq_none (by rw [List.length_set, hy_bl_len]; exact hj), List.getElem?_eq_none (by rw [hy_bl_len]; exact hj)]
def hy_bc (f : Nat → Bool) : Nat → Nat
  | 0 => 0
  | n + 1 => (if f n then 1 else 0) + hy_bc f n
theorem hy_bc_all {f : Nat → Bool} : ∀ {n : Nat}, (∀ j, j < n → f j = true) → hy_bc f n = n
  | 0, _ => rfl
  | n + 1, h => by
    have := hy_bc_all (f := f) (n := n) (fun j hj => h j (by omega))
    simp only [hy_bc, h n (by omega), this]
    simp
    omega
theorem hy_bc_up {f : Nat → Bool} {i : Nat} : ∀ {n : Nat}, f i = false → hy_bc (fun j => if j = i then true else f j) n = hy_bc f n + (if i < n then 1 else 0)
  | 0, _ => by simp [hy_bc]
  | n + 1, h => by
    have := hy_bc_up (f := f) (i := i) (n := n) h
    simp only [hy_bc, this]
    by_cases e : n = i
    · subst e
      simp [h]
      omega
    · by_cases e2 : i < n
      · simp only [if_neg e]
        rw [if_pos e2, if_pos (show i < n + 1 by omega)]
        omega
      · simp only [if_neg e]
        rw [if_neg e2, if_neg (show ¬ i < n + 1 by omega)]
        omega
theorem hy_setl (h : ax_H) (a b : Nat × List Value) : (h ++ [a]).set h.length b = h ++ [b] := by
  refine List.ext_getElem? (fun j => ?_)
  rcases (by omega : j < h.length ∨ j = h.length ∨ h.length < j) with e | e | e
  · rw [List.getElem?_set_ne (by omega), List.getElem?_append_left e, List.getElem?_append_left e]
  · subst e
    rw [List.getElem?_set_self (by rw [List.length_append]; exact Nat.lt_succ_self _)]
    simp
  · rw [List.getElem?_eq_none (by rw [List.length_set, List.length_append]; exact e), List.getElem?_eq_none (by rw [List.length_append]; exact e)]
theorem hy_getl (h : ax_H) (a : Nat × List Value) : (h ++ [a])[h.length]? = some a := by simp
theorem AR.nz {d i pc : Nat} {P : ax_P} {X : ax_PX} {lv : List (Nat × Value)} {st : List Value} {bc bs b cc : Nat} {v : Value} {ws : List Nat} {t : ArrayType} (hl : ax_look i pc = some (.newarray t, (2, b, cc), v, ws)) (k : AR ax_ns l (ax_mm i) d ty_R P X (pc + 2) lv (.ref h.length :: st) (h ++ [(102, hy_bl (fun _ => false))]) bc bs) : AR ax_ns l (ax_mm i) d ty_R P X pc lv (.int (Int8.ofInt 24).toInt32 :: st) h (bc + 1) (bs + 24) := by
  obtain ⟨hd, hok⟩ := ax_look_ok hl
  refine ax_one_ok (pc' := pc + 2) (lv' := lv) (st' := .ref h.length :: st) (h' := h ++ [(102, hy_bl (fun _ => false))]) (dc := 1) (ds := 24) hd hok ?_ k
  have e : (102, hy_bl (fun _ => false)) = (100 + 2, List.replicate ((Int8.ofInt 24).toInt32).toNatClampNeg (defaultValue .boolean)) := rfl
  rw [e]
  have hn : ¬ ((Int8.ofInt 24).toInt32 < 0 ∨ 60000000 < ((Int8.ofInt 24).toInt32).toNatClampNeg ∨ 2 = 900) := by decide
  have ht : ax_tys[2]? = some .boolean := rfl
  simp only [ax_one, ht]
  rw [if_neg hn, ax_ha_eq]
  rfl
def hq_le (K : Int) (h : ax_H) : ax_Q := fun res g => (∃ f, g = h ++ [(102, hy_bl f)]) ∧ ∃ z : Int32, res = .inl (some (.int z)) ∧ 0 ≤ z.toInt ∧ z.toInt ≤ 24
def hy_bst (f : Nat → Bool) (t : Nat) (b : Int32) : Prop := (b.toInt = -1 ∧ ∀ j, j < t → f j = true) ∨ (0 ≤ b.toInt ∧ b.toInt < t ∧ f b.toInt.toNat = false)
theorem hf_leI (hlst : l.stackTraces = false) {X : ax_PX} (hH : hy_H K h) (hc : c.toInt = (cn : Nat)) (hc1 : cn < 60) (f : Nat → Bool) (kv n : Int32) (sm : Int64) (k : ∀ b : Int32, hy_bst f 24 b → AR ax_ns l (ax_mm 172) 3 ty_R (ax_ret ax_ns (ax_mm 172) (hq_le K h)) X 91 [(7, .int b), (6, .int kv), (5, .int n), (3, .long sm), (2, .ref h.length), (0, .ref 181), (1, .int c)] [] (h ++ [(102, hy_bl f)]) 0 0) : ∀ (m t : Nat) (y b : Int32), t + m = 24 → y.toInt = (t : Nat) → hy_bst f t b → AR ax_ns l (ax_mm 172) 3 ty_R (ax_ret ax_ns (ax_mm 172) (hq_le K h)) X 44 [(8, .int y), (7, .int b), (6, .int kv), (5, .int n), (3, .long sm), (2, .ref h.length), (0, .ref 181), (1, .int c)] [] (h ++ [(102, hy_bl f)]) 0 0 := by
  have hA := hy_app hH [(102, hy_bl f)]
  intro m
  induction m with
  | zero =>
    intro t y b ht hy hb
    refine AR.s (pc' := 46) (lv' := [(8, .int y), (7, .int b), (6, .int kv), (5, .int n), (3, .long sm), (2, .ref h.length), (0, .ref 181), (1, .int c)]) (st' := [.int y]) (h' := (h ++ [(102, hy_bl f)])) _ hn_172 hk_172_44 rfl ?_
    refine AR.bipushT hk_172_46 (by decide) (fun z1 ez1 => ?_)
    show AR _ _ _ _ _ _ _ 48 [(8, .int y), (7, .int b), (6, .int kv), (5, .int n), (3, .long sm), (2, .ref h.length), (0, .ref 181), (1, .int c)] [.int z1, .int y] (h ++ [(102, hy_bl f)]) _ _
    refine AR.jge hk_172_48 (tgt := 91) (by decide) (fun j1 => ?_) (fun j2 => ?_)
    · refine AR.lessL (lv' := [(7, .int b), (6, .int kv), (5, .int n), (3, .long sm), (2, .ref h.length), (0, .ref 181), (1, .int c)]) (List.forall_mem_cons.mpr ⟨⟨_, by simp, ax_le_rfl rfl⟩, (List.forall_mem_cons.mpr ⟨⟨_, by simp, ax_le_rfl rfl⟩, (List.forall_mem_cons.mpr ⟨⟨_, by simp, ax_le_rfl rfl⟩, (List.forall_mem_cons.mpr ⟨⟨_, by simp, ax_le_rfl rfl⟩, (List.forall_mem_cons.mpr ⟨⟨_, by simp, ax_le_rfl rfl⟩, (List.forall_mem_cons.mpr ⟨⟨_, by simp, ax_le_rfl rfl⟩, (List.forall_mem_cons.mpr ⟨⟨_, by simp, ax_le_rfl rfl⟩, (fun _ h => absurd h List.not_mem_nil)⟩)⟩)⟩)⟩)⟩)⟩)⟩) ?_
      obtain rfl : t = 24 := by omega
      exact k b hb
    · exact absurd j2 (by omega)
  | succ m ih =>
    intro t y b ht hy hb
    refine AR.s (pc' := 46) (lv' := [(8, .int y), (7, .int b), (6, .int kv), (5, .int n), (3, .long sm), (2, .ref h.length), (0, .ref 181), (1, .int c)]) (st' := [.int y]) (h' := (h ++ [(102, hy_bl f)])) _ hn_172 hk_172_44 rfl ?_
    refine AR.bipushT hk_172_46 (by decide) (fun z2 ez2 => ?_)
    show AR _ _ _ _ _ _ _ 48 [(8, .int y), (7, .int b), (6, .int kv), (5, .int n), (3, .long sm), (2, .ref h.length), (0, .ref 181), (1, .int c)] [.int z2, .int y] (h ++ [(102, hy_bl f)]) _ _
    refine AR.jge hk_172_48 (tgt := 91) (by decide) (fun j1 => ?_) (fun j2 => ?_)
    · exact absurd j1 (by omega)
    · refine AR.s (pc' := 52) (lv' := [(8, .int y), (7, .int b), (6, .int kv), (5, .int n), (3, .long sm), (2, .ref h.length), (0, .ref 181), (1, .int c)]) (st' := [.ref h.length]) (h' := (h ++ [(102, hy_bl f)])) _ hn_172 hk_172_51 rfl ?_
      refine AR.s (pc' := 54) (lv' := [(8, .int y), (7, .int b), (6, .int kv), (5, .int n), (3, .long sm), (2, .ref h.length), (0, .ref 181), (1, .int c)]) (st' := [.int y, .ref h.length]) (h' := (h ++ [(102, hy_bl f)])) _ hn_172 hk_172_52 rfl ?_
      refine AR.small (fun hsz => ?_)
      have hyn : y.toNatClampNeg = t := by show y.toInt.toNat = t; omega
      refine AR.zax hk_172_54 (by rw [List.length_append] at hsz; omega) (hy_getl h _) (hy_nn (by omega)).1 (by rw [hyn]; exact hy_bl_get f (by omega)) ?_
      show AR _ _ _ _ _ _ _ 55 [(8, .int y), (7, .int b), (6, .int kv), (5, .int n), (3, .long sm), (2, .ref h.length), (0, .ref 181), (1, .int c)] [.int (if f t then 1 else 0)] (h ++ [(102, hy_bl f)]) _ _
      refine AR.zne hk_172_55 (tgt := 85) (by decide) (fun q1 => ?_) (fun q2 => ?_)
      · have ft : f t = true := by
          cases e : f t with
          | true => rfl
          | false => rw [e] at q1; exact absurd rfl q1
        refine AR.iincT hk_172_85 (x := y) rfl (by rw [hn_172]; decide) (by decide) (by omega) (by omega) (fun z3 ez3 => ?_)
        show AR _ _ _ _ _ _ _ 88 [(8, .int z3), (7, .int b), (6, .int kv), (5, .int n), (3, .long sm), (2, .ref h.length), (0, .ref 181), (1, .int c)] [] (h ++ [(102, hy_bl f)]) _ _
        refine AR.gotoT hk_172_88 (tgt := 44) (by decide) ?_
        refine ih (t + 1) z3 b (by omega) (by omega) ?_
        rcases hb with ⟨b1, b2⟩ | ⟨b1, b2, b3⟩
        · refine Or.inl ⟨b1, fun j hj => ?_⟩
          rcases (by omega : j < t ∨ j = t) with e | e
          · exact b2 j e
          · rw [e]; exact ft
        · exact Or.inr ⟨b1, by omega, b3⟩
      · have ft : f t = false := by
          cases e : f t with
          | false => rfl
          | true => rw [e] at q2; exact absurd q2 (by decide)
        refine AR.s (pc' := 60) (lv' := [(8, .int y), (7, .int b), (6, .int kv), (5, .int n), (3, .long sm), (2, .ref h.length), (0, .ref 181), (1, .int c)]) (st' := [.int b]) (h' := (h ++ [(102, hy_bl f)])) _ hn_172 hk_172_58 rfl ?_
        refine AR.zlt hk_172_60 (tgt := 81) (by decide) (fun r1 => ?_) (fun r2 => ?_)
        · refine AR.s (pc' := 83) (lv' := [(8, .int y), (7, .int b), (6, .int kv), (5, .int n), (3, .long sm), (2, .ref h.length), (0, .ref 181), (1, .int c)]) (st' := [.int y]) (h' := (h ++ [(102, hy_bl f)])) _ hn_172 hk_172_81 rfl ?_
          refine AR.s (pc' := 85) (lv' := [(7, .int y), (8, .int y), (6, .int kv), (5, .int n), (3, .long sm), (2, .ref h.length), (0, .ref 181), (1, .int c)]) (st' := []) (h' := (h ++ [(102, hy_bl f)])) _ hn_172 hk_172_83 rfl ?_
          refine AR.iincT hk_172_85 (x := y) rfl (by rw [hn_172]; decide) (by decide) (by omega) (by omega) (fun z4 ez4 => ?_)
          show AR _ _ _ _ _ _ _ 88 [(8, .int z4), (7, .int y), (6, .int kv), (5, .int n), (3, .long sm), (2, .ref h.length), (0, .ref 181), (1, .int c)] [] (h ++ [(102, hy_bl f)]) _ _
          refine AR.gotoT hk_172_88 (tgt := 44) (by decide) ?_
          refine ih (t + 1) z4 y (by omega) (by omega) ?_
          exact Or.inr ⟨by omega, by omega, by rw [hy]; exact ft⟩
        · refine AR.s (pc' := 64) (lv' := [(8, .int y), (7, .int b), (6, .int kv), (5, .int n), (3, .long sm), (2, .ref h.length), (0, .ref 181), (1, .int c)]) (st' := [.ref 181]) (h' := (h ++ [(102, hy_bl f)])) _ hn_172 hk_172_63 rfl ?_
          refine AR.s (pc' := 65) (lv' := [(8, .int y), (7, .int b), (6, .int kv), (5, .int n), (3, .long sm), (2, .ref h.length), (0, .ref 181), (1, .int c)]) (st' := [.int c, .ref 181]) (h' := (h ++ [(102, hy_bl f)])) _ hn_172 hk_172_64 rfl ?_
          refine AR.s (pc' := 67) (lv' := [(8, .int y), (7, .int b), (6, .int kv), (5, .int n), (3, .long sm), (2, .ref h.length), (0, .ref 181), (1, .int c)]) (st' := [.int y, .int c, .ref 181]) (h' := (h ++ [(102, hy_bl f)])) _ hn_172 hk_172_65 rfl ?_
          refine AR.c9 (as := [.int c, .int y]) (rest := []) hk_172_67 hA (by decide +kernel) rfl rfl (Nat.le_of_ble_eq_true rfl) (hf_of hlst hA hc hc1 hy (yn := t) (by omega)) (by decide) (Nat.le_refl _) (Nat.le_refl _) (fun E h' q => by obtain ⟨-, x, e, -⟩ := q; cases e) ?_
          rintro wo5 ho5 ⟨eo5, o5, e, hxo5⟩
          cases e
          subst eo5
          show AR _ _ _ _ _ _ _ 70 [(8, .int y), (7, .int b), (6, .int kv), (5, .int n), (3, .long sm), (2, .ref h.length), (0, .ref 181), (1, .int c)] [.long o5] (h ++ [(102, hy_bl f)]) _ _
          have hb0 : b.toInt = (b.toInt.toNat : Nat) := by omega
          have hb1 : b.toInt.toNat < 24 := by rcases hb with ⟨b1, -⟩ | ⟨b1, b2, -⟩ <;> omega
          refine AR.s (pc' := 71) (lv' := [(8, .int y), (7, .int b), (6, .int kv), (5, .int n), (3, .long sm), (2, .ref h.length), (0, .ref 181), (1, .int c)]) (st' := [.ref 181, .long o5]) (h' := (h ++ [(102, hy_bl f)])) _ hn_172 hk_172_70 rfl ?_
          refine AR.s (pc' := 72) (lv' := [(8, .int y), (7, .int b), (6, .int kv), (5, .int n), (3, .long sm), (2, .ref h.length), (0, .ref 181), (1, .int c)]) (st' := [.int c, .ref 181, .long o5]) (h' := (h ++ [(102, hy_bl f)])) _ hn_172 hk_172_71 rfl ?_
          refine AR.s (pc' := 74) (lv' := [(8, .int y), (7, .int b), (6, .int kv), (5, .int n), (3, .long sm), (2, .ref h.length), (0, .ref 181), (1, .int c)]) (st' := [.int b, .int c, .ref 181, .long o5]) (h' := (h ++ [(102, hy_bl f)])) _ hn_172 hk_172_72 rfl ?_
          refine AR.c9 (as := [.int c, .int b]) (rest := [.long o5]) hk_172_74 hA (by decide +kernel) rfl rfl (Nat.le_of_ble_eq_true rfl) (hf_of hlst hA hc hc1 hb0 hb1) (by decide) (Nat.le_refl _) (Nat.le_refl _) (fun E h' q => by obtain ⟨-, x, e, -⟩ := q; cases e) ?_
          rintro wo6 ho6 ⟨eo6, o6, e, hxo6⟩
          cases e
          subst eo6
          show AR _ _ _ _ _ _ _ 77 [(8, .int y), (7, .int b), (6, .int kv), (5, .int n), (3, .long sm), (2, .ref h.length), (0, .ref 181), (1, .int c)] [.long o6, .long o5] (h ++ [(102, hy_bl f)]) _ _
          refine AR.lcmpT hk_172_77 (fun w9 c9 => ?_)
          show AR _ _ _ _ _ _ _ 78 [(8, .int y), (7, .int b), (6, .int kv), (5, .int n), (3, .long sm), (2, .ref h.length), (0, .ref 181), (1, .int c)] [.int w9] (h ++ [(102, hy_bl f)]) _ _
          refine AR.zle hk_172_78 (tgt := 85) (by decide) (fun s1 => ?_) (fun s2 => ?_)
          · refine AR.iincT hk_172_85 (x := y) rfl (by rw [hn_172]; decide) (by decide) (by omega) (by omega) (fun z7 ez7 => ?_)
            show AR _ _ _ _ _ _ _ 88 [(8, .int z7), (7, .int b), (6, .int kv), (5, .int n), (3, .long sm), (2, .ref h.length), (0, .ref 181), (1, .int c)] [] (h ++ [(102, hy_bl f)]) _ _
            refine AR.gotoT hk_172_88 (tgt := 44) (by decide) ?_
            refine ih (t + 1) z7 b (by omega) (by omega) ?_
            rcases hb with ⟨b1, b2⟩ | ⟨b1, b2, b3⟩
            · omega
            · exact Or.inr ⟨b1, by omega, b3⟩
          · refine AR.s (pc' := 83) (lv' := [(8, .int y), (7, .int b), (6, .int kv), (5, .int n), (3, .long sm), (2, .ref h.length), (0, .ref 181), (1, .int c)]) (st' := [.int y]) (h' := (h ++ [(102, hy_bl f)])) _ hn_172 hk_172_81 rfl ?_
            refine AR.s (pc' := 85) (lv' := [(7, .int y), (8, .int y), (6, .int kv), (5, .int n), (3, .long sm), (2, .ref h.length), (0, .ref 181), (1, .int c)]) (st' := []) (h' := (h ++ [(102, hy_bl f)])) _ hn_172 hk_172_83 rfl ?_
            refine AR.iincT hk_172_85 (x := y) rfl (by rw [hn_172]; decide) (by decide) (by omega) (by omega) (fun z8 ez8 => ?_)
            show AR _ _ _ _ _ _ _ 88 [(8, .int z8), (7, .int y), (6, .int kv), (5, .int n), (3, .long sm), (2, .ref h.length), (0, .ref 181), (1, .int c)] [] (h ++ [(102, hy_bl f)]) _ _
            refine AR.gotoT hk_172_88 (tgt := 44) (by decide) ?_
            refine ih (t + 1) z8 y (by omega) (by omega) ?_
            exact Or.inr ⟨by omega, by omega, by rw [hy]; exact ft⟩
theorem hf_leL (hlst : l.stackTraces = false) {X : ax_PX} (hH : hy_H K h) (hc : c.toInt = (cn : Nat)) (hc1 : cn < 60) (n : Int32) (hn : 0 ≤ n.toInt ∧ n.toInt ≤ 23) : ∀ (m t : Nat) (f : Nat → Bool) (sm : Int64) (kv : Int32), t + m = 24 → kv.toInt = (t : Nat) → hy_bc f 24 = t → AR ax_ns l (ax_mm 172) 3 ty_R (ax_ret ax_ns (ax_mm 172) (hq_le K h)) X 17 [(6, .int kv), (5, .int n), (3, .long sm), (2, .ref h.length), (0, .ref 181), (1, .int c)] [] (h ++ [(102, hy_bl f)]) 0 0 := by
  intro m
  induction m with
  | zero =>
    intro t f sm kv ht hk hf
    have hA := hy_app hH [(102, hy_bl f)]
    refine AR.s (pc' := 19) (lv' := [(6, .int kv), (5, .int n), (3, .long sm), (2, .ref h.length), (0, .ref 181), (1, .int c)]) (st' := [.int kv]) (h' := (h ++ [(102, hy_bl f)])) _ hn_172 hk_172_17 rfl ?_
    refine AR.s (pc' := 21) (lv' := [(6, .int kv), (5, .int n), (3, .long sm), (2, .ref h.length), (0, .ref 181), (1, .int c)]) (st' := [.int n, .int kv]) (h' := (h ++ [(102, hy_bl f)])) _ hn_172 hk_172_19 rfl ?_
    refine AR.jgt hk_172_21 (tgt := 112) (by decide) (fun j1 => ?_) (fun j2 => ?_)
    · refine AR.s (pc' := 114) (lv' := [(6, .int kv), (5, .int n), (3, .long sm), (2, .ref h.length), (0, .ref 181), (1, .int c)]) (st' := [.int n]) (h' := (h ++ [(102, hy_bl f)])) _ hn_172 hk_172_112 rfl ?_
      refine AR.iconstT hk_172_114 (by decide) (fun z9 ez9 => ?_)
      show AR _ _ _ _ _ _ _ 115 [(6, .int kv), (5, .int n), (3, .long sm), (2, .ref h.length), (0, .ref 181), (1, .int c)] [.int z9, .int n] (h ++ [(102, hy_bl f)]) _ _
      refine AR.addT hk_172_115 (by omega) (by omega) (fun z10 ez10 => ?_)
      show AR _ _ _ _ _ _ _ 116 [(6, .int kv), (5, .int n), (3, .long sm), (2, .ref h.length), (0, .ref 181), (1, .int c)] [.int z10] (h ++ [(102, hy_bl f)]) _ _
      exact AR.iret hk_172_116 hr_172 ⟨⟨f, rfl⟩, z10, rfl, by omega, by omega⟩
    · exact absurd j2 (by omega)
  | succ m ih =>
    intro t f sm kv ht hk hf
    have hA := hy_app hH [(102, hy_bl f)]
    refine AR.s (pc' := 19) (lv' := [(6, .int kv), (5, .int n), (3, .long sm), (2, .ref h.length), (0, .ref 181), (1, .int c)]) (st' := [.int kv]) (h' := (h ++ [(102, hy_bl f)])) _ hn_172 hk_172_17 rfl ?_
    refine AR.s (pc' := 21) (lv' := [(6, .int kv), (5, .int n), (3, .long sm), (2, .ref h.length), (0, .ref 181), (1, .int c)]) (st' := [.int n, .int kv]) (h' := (h ++ [(102, hy_bl f)])) _ hn_172 hk_172_19 rfl ?_
    refine AR.jgt hk_172_21 (tgt := 112) (by decide) (fun j1 => ?_) (fun j2 => ?_)
    · refine AR.s (pc' := 114) (lv' := [(6, .int kv), (5, .int n), (3, .long sm), (2, .ref h.length), (0, .ref 181), (1, .int c)]) (st' := [.int n]) (h' := (h ++ [(102, hy_bl f)])) _ hn_172 hk_172_112 rfl ?_
      refine AR.iconstT hk_172_114 (by decide) (fun z11 ez11 => ?_)
      show AR _ _ _ _ _ _ _ 115 [(6, .int kv), (5, .int n), (3, .long sm), (2, .ref h.length), (0, .ref 181), (1, .int c)] [.int z11, .int n] (h ++ [(102, hy_bl f)]) _ _
      refine AR.addT hk_172_115 (by omega) (by omega) (fun z12 ez12 => ?_)
      show AR _ _ _ _ _ _ _ 116 [(6, .int kv), (5, .int n), (3, .long sm), (2, .ref h.length), (0, .ref 181), (1, .int c)] [.int z12] (h ++ [(102, hy_bl f)]) _ _
      exact AR.iret hk_172_116 hr_172 ⟨⟨f, rfl⟩, z12, rfl, by omega, by omega⟩
    · refine AR.s (pc' := 25) (lv' := [(6, .int kv), (5, .int n), (3, .long sm), (2, .ref h.length), (0, .ref 181), (1, .int c)]) (st' := [.long sm]) (h' := (h ++ [(102, hy_bl f)])) _ hn_172 hk_172_24 rfl ?_
      refine AR.s (pc' := 26) (lv' := [(6, .int kv), (5, .int n), (3, .long sm), (2, .ref h.length), (0, .ref 181), (1, .int c)]) (st' := [.ref 181, .long sm]) (h' := (h ++ [(102, hy_bl f)])) _ hn_172 hk_172_25 rfl ?_
      refine AR.gR hk_172_26 (by decide) hA (q := 181) (n := 32) (by decide) (by decide +kernel) (by decide +kernel) (by decide) hy_t181_3 ?_
      show AR _ _ _ _ _ _ _ 29 [(6, .int kv), (5, .int n), (3, .long sm), (2, .ref h.length), (0, .ref 181), (1, .int c)] [.ref 183, .long sm] (h ++ [(102, hy_bl f)]) _ _
      refine AR.s (pc' := 30) (lv' := [(6, .int kv), (5, .int n), (3, .long sm), (2, .ref h.length), (0, .ref 181), (1, .int c)]) (st' := [.int c, .ref 183, .long sm]) (h' := (h ++ [(102, hy_bl f)])) _ hn_172 hk_172_29 rfl ?_
      refine AR.laI hk_172_30 hA (q := 183) (n := 60) (by decide) (by decide +kernel) (by decide +kernel) (by decide +kernel) hy_t183_0 (by omega) (by omega) (fun x13 dx13 lx13 ux13 => ?_)
      show AR _ _ _ _ _ _ _ 31 [(6, .int kv), (5, .int n), (3, .long sm), (2, .ref h.length), (0, .ref 181), (1, .int c)] [.long x13, .long sm] (h ++ [(102, hy_bl f)]) _ _
      refine AR.lcmpT hk_172_31 (fun w9 c9 => ?_)
      show AR _ _ _ _ _ _ _ 32 [(6, .int kv), (5, .int n), (3, .long sm), (2, .ref h.length), (0, .ref 181), (1, .int c)] [.int w9] (h ++ [(102, hy_bl f)]) _ _
      refine AR.zlt hk_172_32 (tgt := 38) (by decide) (fun q1 => ?_) (fun q2 => ?_)
      · refine AR.iconstT hk_172_38 (by decide) (fun z14 ez14 => ?_)
        show AR _ _ _ _ _ _ _ 39 [(6, .int kv), (5, .int n), (3, .long sm), (2, .ref h.length), (0, .ref 181), (1, .int c)] [.int z14] (h ++ [(102, hy_bl f)]) _ _
        refine AR.s (pc' := 41) (lv' := [(7, .int z14), (6, .int kv), (5, .int n), (3, .long sm), (2, .ref h.length), (0, .ref 181), (1, .int c)]) (st' := []) (h' := (h ++ [(102, hy_bl f)])) _ hn_172 hk_172_39 rfl ?_
        refine AR.iconstT hk_172_41 (by decide) (fun z15 ez15 => ?_)
        show AR _ _ _ _ _ _ _ 42 [(7, .int z14), (6, .int kv), (5, .int n), (3, .long sm), (2, .ref h.length), (0, .ref 181), (1, .int c)] [.int z15] (h ++ [(102, hy_bl f)]) _ _
        refine AR.s (pc' := 44) (lv' := [(8, .int z15), (7, .int z14), (6, .int kv), (5, .int n), (3, .long sm), (2, .ref h.length), (0, .ref 181), (1, .int c)]) (st' := []) (h' := (h ++ [(102, hy_bl f)])) _ hn_172 hk_172_42 rfl ?_
        refine hf_leI hlst hH hc hc1 f kv n sm (fun b hb => ?_) 24 0 z15 z14 rfl (by omega) (Or.inl ⟨by omega, fun j hj => absurd hj (Nat.not_lt_zero _)⟩)
        rcases hb with ⟨b1, b2⟩ | ⟨b1, b2, b3⟩
        · exact absurd (hy_bc_all b2) (by omega)
        have hbn : b.toNatClampNeg = b.toInt.toNat := rfl
        have hb24 : b.toInt.toNat < 24 := by omega
        show AR _ _ _ _ _ _ _ 91 [(7, .int b), (6, .int kv), (5, .int n), (3, .long sm), (2, .ref h.length), (0, .ref 181), (1, .int c)] [] _ _ _
        refine AR.s (pc' := 92) (lv' := [(7, .int b), (6, .int kv), (5, .int n), (3, .long sm), (2, .ref h.length), (0, .ref 181), (1, .int c)]) (st' := [.ref h.length]) (h' := (h ++ [(102, hy_bl f)])) _ hn_172 hk_172_91 rfl ?_
        refine AR.s (pc' := 94) (lv' := [(7, .int b), (6, .int kv), (5, .int n), (3, .long sm), (2, .ref h.length), (0, .ref 181), (1, .int c)]) (st' := [.int b, .ref h.length]) (h' := (h ++ [(102, hy_bl f)])) _ hn_172 hk_172_92 rfl ?_
        refine AR.s (pc' := 95) (lv' := [(7, .int b), (6, .int kv), (5, .int n), (3, .long sm), (2, .ref h.length), (0, .ref 181), (1, .int c)]) (st' := [.int (Int32.ofInt 1), .int b, .ref h.length]) (h' := (h ++ [(102, hy_bl f)])) _ hn_172 hk_172_94 rfl ?_
        refine AR.small (fun hsz => ?_)
        refine AR.zsx hk_172_95 (by rw [List.length_append] at hsz; omega) (hy_getl h _) (hy_nn b1).1 (by rw [hbn, hy_bl_len]; exact hb24) rfl ?_
        have e9 : (h ++ [(102, hy_bl f)]).set h.length (102, (hy_bl f).set b.toNatClampNeg (.int (Int32.ofInt 1))) = h ++ [(102, hy_bl (fun j => if j = b.toInt.toNat then true else f j))] := by rw [hy_setl, hbn, show Int32.ofInt 1 = 1 from rfl, hy_bl_set f hb24]
        rw [e9]
        have hB := hy_app hH [(102, hy_bl (fun j => if j = b.toInt.toNat then true else f j))]
        show AR _ _ _ _ _ _ _ 96 [(7, .int b), (6, .int kv), (5, .int n), (3, .long sm), (2, .ref h.length), (0, .ref 181), (1, .int c)] [] (h ++ [(102, hy_bl (fun j => if j = b.toInt.toNat then true else f j))]) _ _
        refine AR.s (pc' := 97) (lv' := [(7, .int b), (6, .int kv), (5, .int n), (3, .long sm), (2, .ref h.length), (0, .ref 181), (1, .int c)]) (st' := [.long sm]) (h' := (h ++ [(102, hy_bl (fun j => if j = b.toInt.toNat then true else f j))])) _ hn_172 hk_172_96 rfl ?_
        refine AR.s (pc' := 98) (lv' := [(7, .int b), (6, .int kv), (5, .int n), (3, .long sm), (2, .ref h.length), (0, .ref 181), (1, .int c)]) (st' := [.ref 181, .long sm]) (h' := (h ++ [(102, hy_bl (fun j => if j = b.toInt.toNat then true else f j))])) _ hn_172 hk_172_97 rfl ?_
        refine AR.s (pc' := 99) (lv' := [(7, .int b), (6, .int kv), (5, .int n), (3, .long sm), (2, .ref h.length), (0, .ref 181), (1, .int c)]) (st' := [.int c, .ref 181, .long sm]) (h' := (h ++ [(102, hy_bl (fun j => if j = b.toInt.toNat then true else f j))])) _ hn_172 hk_172_98 rfl ?_
        refine AR.s (pc' := 101) (lv' := [(7, .int b), (6, .int kv), (5, .int n), (3, .long sm), (2, .ref h.length), (0, .ref 181), (1, .int c)]) (st' := [.int b, .int c, .ref 181, .long sm]) (h' := (h ++ [(102, hy_bl (fun j => if j = b.toInt.toNat then true else f j))])) _ hn_172 hk_172_99 rfl ?_
        refine AR.c9 (as := [.int c, .int b]) (rest := [.long sm]) hk_172_101 hB (by decide +kernel) rfl rfl (Nat.le_of_ble_eq_true rfl) (hf_of hlst hB hc hc1 (yn := b.toInt.toNat) (by omega) hb24) (by decide) (Nat.le_refl _) (Nat.le_refl _) (fun E h' q => by obtain ⟨-, x, e, -⟩ := q; cases e) ?_
        rintro w7 h7 ⟨e7, o7, e, hx7⟩
        cases e
        subst e7
        show AR _ _ _ _ _ _ _ 104 [(7, .int b), (6, .int kv), (5, .int n), (3, .long sm), (2, .ref h.length), (0, .ref 181), (1, .int c)] [.long o7, .long sm] (h ++ [(102, hy_bl (fun j => if j = b.toInt.toNat then true else f j))]) _ _
        refine AR.addsT hk_172_104 (fun s9 => ?_)
        show AR _ _ _ _ _ _ _ 105 [(7, .int b), (6, .int kv), (5, .int n), (3, .long sm), (2, .ref h.length), (0, .ref 181), (1, .int c)] [.long s9] (h ++ [(102, hy_bl (fun j => if j = b.toInt.toNat then true else f j))]) _ _
        refine AR.s (pc' := 106) (lv' := [(3, .long s9), (7, .int b), (6, .int kv), (5, .int n), (2, .ref h.length), (0, .ref 181), (1, .int c)]) (st' := []) (h' := (h ++ [(102, hy_bl (fun j => if j = b.toInt.toNat then true else f j))])) _ hn_172 hk_172_105 rfl ?_
        refine AR.iincT hk_172_106 (x := kv) rfl (by rw [hn_172]; decide) (by decide) (by omega) (by omega) (fun z16 ez16 => ?_)
        show AR _ _ _ _ _ _ _ 109 [(6, .int z16), (3, .long s9), (7, .int b), (5, .int n), (2, .ref h.length), (0, .ref 181), (1, .int c)] [] (h ++ [(102, hy_bl (fun j => if j = b.toInt.toNat then true else f j))]) _ _
        refine AR.gotoT hk_172_109 (tgt := 17) (by decide) ?_
        refine AR.lessL (lv' := [(6, .int z16), (5, .int n), (3, .long s9), (2, .ref h.length), (0, .ref 181), (1, .int c)]) (List.forall_mem_cons.mpr ⟨⟨_, by simp, ax_le_rfl rfl⟩, (List.forall_mem_cons.mpr ⟨⟨_, by simp, ax_le_rfl rfl⟩, (List.forall_mem_cons.mpr ⟨⟨_, by simp, ax_le_rfl rfl⟩, (List.forall_mem_cons.mpr ⟨⟨_, by simp, ax_le_rfl rfl⟩, (List.forall_mem_cons.mpr ⟨⟨_, by simp, ax_le_rfl rfl⟩, (List.forall_mem_cons.mpr ⟨⟨_, by simp, ax_le_rfl rfl⟩, (fun _ h => absurd h List.not_mem_nil)⟩)⟩)⟩)⟩)⟩)⟩) ?_
        exact ih (t + 1) _ s9 z16 (by omega) (by omega) (by rw [hy_bc_up b3, if_pos hb24]; omega)
      · refine AR.s (pc' := 37) (lv' := [(6, .int kv), (5, .int n), (3, .long sm), (2, .ref h.length), (0, .ref 181), (1, .int c)]) (st' := [.int kv]) (h' := (h ++ [(102, hy_bl f)])) _ hn_172 hk_172_35 rfl ?_
        exact AR.iret hk_172_37 hr_172 ⟨⟨f, rfl⟩, kv, rfl, by omega, by omega⟩
theorem hf_least (hlst : l.stackTraces = false) (hH : hy_H K h) (hI : hy_Ip h) (hc : c.toInt = (cn : Nat)) (hc1 : cn < 60) : AM ax_ns l (ax_mm 172) 3 ty_R 1 24 [.ref 181, .int c] h (hq_le K h) := by
  refine AM.of (ax_mfacts (by decide +kernel : ax_has 172 = true)).2.2.2.2.2.2 hlst (by rw [hn_172]; exact Nat.le_of_ble_eq_true rfl) ?_
  show AR ax_ns l (ax_mm 172) 3 ty_R _ _ 0 [(0, .ref 181), (1, .int c)] [] h (0 + 1) (0 + 24)
  refine AR.s (pc' := 2) (lv' := [(0, .ref 181), (1, .int c)]) (st' := [.int (Int8.ofInt 24).toInt32]) (h' := h) _ hn_172 hk_172_0 rfl ?_
  refine AR.nz hk_172_2 ?_
  show AR _ _ _ _ _ _ _ 4 [(0, .ref 181), (1, .int c)] [.ref h.length] (h ++ [(102, hy_bl (fun _ => false))]) _ _
  have hF := hy_app hH [(102, hy_bl (fun _ => false))]
  refine AR.s (pc' := 5) (lv' := [(2, .ref h.length), (0, .ref 181), (1, .int c)]) (st' := []) (h' := (h ++ [(102, hy_bl (fun _ => false))])) _ hn_172 hk_172_4 rfl ?_
  refine AR.lconstT hk_172_5 (fun z17 ez17 => ?_)
  show AR _ _ _ _ _ _ _ 6 [(2, .ref h.length), (0, .ref 181), (1, .int c)] [.long z17] (h ++ [(102, hy_bl (fun _ => false))]) _ _
  refine AR.s (pc' := 7) (lv' := [(3, .long z17), (2, .ref h.length), (0, .ref 181), (1, .int c)]) (st' := []) (h' := (h ++ [(102, hy_bl (fun _ => false))])) _ hn_172 hk_172_6 rfl ?_
  refine AR.s (pc' := 8) (lv' := [(3, .long z17), (2, .ref h.length), (0, .ref 181), (1, .int c)]) (st' := [.ref 181]) (h' := (h ++ [(102, hy_bl (fun _ => false))])) _ hn_172 hk_172_7 rfl ?_
  refine AR.s (pc' := 9) (lv' := [(3, .long z17), (2, .ref h.length), (0, .ref 181), (1, .int c)]) (st' := [.int c, .ref 181]) (h' := (h ++ [(102, hy_bl (fun _ => false))])) _ hn_172 hk_172_8 rfl ?_
  refine AR.c9 (as := [.int c]) (rest := []) hk_172_9 hF (by decide +kernel) rfl rfl (Nat.le_of_ble_eq_true rfl) (hf_terms hlst hF (fun k hk => by rw [hy_zapp hH _ (by decide), hy_zapp hH _ (by decide)]; exact hI k hk) hc hc1) (by decide) (Nat.le_refl _) (Nat.le_refl _) (fun E h' q => by obtain ⟨-, x, e, -⟩ := q; cases e) ?_
  rintro w7 h7 ⟨e7, n, e, hn⟩
  cases e
  subst e7
  show AR _ _ _ _ _ _ _ 12 [(3, .long z17), (2, .ref h.length), (0, .ref 181), (1, .int c)] [.int n] (h ++ [(102, hy_bl (fun _ => false))]) _ _
  refine AR.s (pc' := 14) (lv' := [(5, .int n), (3, .long z17), (2, .ref h.length), (0, .ref 181), (1, .int c)]) (st' := []) (h' := (h ++ [(102, hy_bl (fun _ => false))])) _ hn_172 hk_172_12 rfl ?_
  refine AR.iconstT hk_172_14 (by decide) (fun z18 ez18 => ?_)
  show AR _ _ _ _ _ _ _ 15 [(5, .int n), (3, .long z17), (2, .ref h.length), (0, .ref 181), (1, .int c)] [.int z18] (h ++ [(102, hy_bl (fun _ => false))]) _ _
  refine AR.s (pc' := 17) (lv' := [(6, .int z18), (5, .int n), (3, .long z17), (2, .ref h.length), (0, .ref 181), (1, .int c)]) (st' := []) (h' := (h ++ [(102, hy_bl (fun _ => false))])) _ hn_172 hk_172_15 rfl ?_
  exact hf_leL hlst hH hc hc1 n hn 24 0 (fun _ => false) z17 z18 rfl (by omega) rfl
end HM4
