/-! BY HAND, 1: divisorOf -/
section HDIV
variable {I : ax_H → Prop} {l : Launch} {d : Nat} {P : ax_P} {X : ax_PX} {h : ax_H} {bc bs : Nat}
theorem hd_n : (ax_mm 181).2.2.1 = 10 := by decide +kernel
theorem hd_loop (hfin : ∀ (a : Int64) (lv : List (Nat × Value)), a.toInt ≠ 0 → P 33 lv [.long a] h bc bs) : ∀ (n : Nat) (a b : Int64), b.toInt ≤ (n : Int) → a.toInt ≠ 0 → AR ax_ns l (ax_mm 181) d ty_R P X 6 [(6, .long b), (4, .long a)] [] h bc bs := by
  intro n
  induction n with
  | zero =>
    intro a b hb ha
    refine AR.s (.lload 6, (0, 0, 0), .null, []) hd_n (by decide +kernel) rfl ?_
    refine AR.s (.lconst 0, (0, 0, 0), .null, []) hd_n (by decide +kernel) rfl ?_
    refine AR.s (.lcmp, (0, 0, 0), .null, []) hd_n (by decide +kernel) rfl ?_
    have out : ∀ x : Int32, (x = 0 ∨ x = -1) → AR ax_ns l (ax_mm 181) d ty_R P X 10 [(6, .long b), (4, .long a)] [.int x] h bc bs := by
      rintro x (rfl | rfl)
      · refine AR.s (.ifCond .le 21, (0, 0, 0), .null, []) hd_n (by decide +kernel) rfl ?_
        refine AR.s (.lload 4, (0, 0, 0), .null, []) hd_n (by decide +kernel) rfl ?_
        exact AR.at (hfin a _ ha)
      · refine AR.s (.ifCond .le 21, (0, 0, 0), .null, []) hd_n (by decide +kernel) rfl ?_
        refine AR.s (.lload 4, (0, 0, 0), .null, []) hd_n (by decide +kernel) rfl ?_
        exact AR.at (hfin a _ ha)
    refine out _ ?_
    obtain ⟨c1, c2, c3⟩ := @ty_cmp b (Int64.ofNat ((0 : Fin 2) : Nat))
    have e0 : (Int64.ofNat ((0 : Fin 2) : Nat)).toInt = 0 := by decide
    rcases (by omega : b.toInt = 0 ∨ b.toInt < 0) with q | q
    · exact Or.inl (c2 (by omega))
    · exact Or.inr (c1 (by omega))
  | succ n ih =>
    intro a b hb ha
    refine AR.s (.lload 6, (0, 0, 0), .null, []) hd_n (by decide +kernel) rfl ?_
    refine AR.s (.lconst 0, (0, 0, 0), .null, []) hd_n (by decide +kernel) rfl ?_
    refine AR.s (.lcmp, (0, 0, 0), .null, []) hd_n (by decide +kernel) rfl ?_
    have out : ∀ x : Int32, (x = 0 ∨ x = -1) → AR ax_ns l (ax_mm 181) d ty_R P X 10 [(6, .long b), (4, .long a)] [.int x] h bc bs := by
      rintro x (rfl | rfl)
      · refine AR.s (.ifCond .le 21, (0, 0, 0), .null, []) hd_n (by decide +kernel) rfl ?_
        refine AR.s (.lload 4, (0, 0, 0), .null, []) hd_n (by decide +kernel) rfl ?_
        exact AR.at (hfin a _ ha)
      · refine AR.s (.ifCond .le 21, (0, 0, 0), .null, []) hd_n (by decide +kernel) rfl ?_
        refine AR.s (.lload 4, (0, 0, 0), .null, []) hd_n (by decide +kernel) rfl ?_
        exact AR.at (hfin a _ ha)
    have on : ∀ x : Int32, x = 1 → 0 < b.toInt → AR ax_ns l (ax_mm 181) d ty_R P X 10 [(6, .long b), (4, .long a)] [.int x] h bc bs := by
      rintro x rfl hpos
      have hb0 : ¬ b = 0 := by
        rintro rfl
        exact absurd hpos (by decide)
      refine AR.s (.ifCond .le 21, (0, 0, 0), .null, []) hd_n (by decide +kernel) rfl ?_
      refine AR.s (.lload 4, (0, 0, 0), .null, []) hd_n (by decide +kernel) rfl ?_
      refine AR.s (.lload 6, (0, 0, 0), .null, []) hd_n (by decide +kernel) rfl ?_
      refine AR.s (st' := [.long (a - a / b * b)]) (.lrem, (0, 0, 0), .null, []) hd_n (by decide +kernel) (by simp only [ax_one, ax_m2, if_neg hb0, ax_l2]; rfl) ?_
      refine AR.s (.lstore 8, (0, 0, 0), .null, []) hd_n (by decide +kernel) rfl ?_
      refine AR.s (.lload 6, (0, 0, 0), .null, []) hd_n (by decide +kernel) rfl ?_
      refine AR.s (.lstore 4, (0, 0, 0), .null, []) hd_n (by decide +kernel) rfl ?_
      refine AR.s (.lload 8, (0, 0, 0), .null, []) hd_n (by decide +kernel) rfl ?_
      refine AR.s (.lstore 6, (0, 0, 0), .null, []) hd_n (by decide +kernel) rfl ?_
      refine AR.s (.goto (-22), (0, 0, 0), .null, []) hd_n (by decide +kernel) rfl ?_
      refine AR.lessL (lv' := [(6, .long (a - a / b * b)), (4, .long b)]) (fun q hq => ?_) (ih b _ ?_ (by omega))
      · rcases List.mem_cons.mp hq with e | e
        · subst e
          exact ⟨_, List.mem_cons_self, decide_eq_true rfl⟩
        · rcases List.mem_cons.mp e with e | e
          · subst e
            exact ⟨_, List.mem_cons_of_mem _ List.mem_cons_self, decide_eq_true rfl⟩
          · cases e
      · have h1 := Int.tmod_lt_of_pos a.toInt (b := b.toInt) (by omega)
        have h2 := Int.lt_tmod_of_pos a.toInt (b := b.toInt) (by omega)
        have hbu := Int64.toInt_lt b
        have e1 : (a / b).toInt = a.toInt.tdiv b.toInt := Int64.toInt_div_of_ne_right _ _ (fun e => by
          rw [e] at hpos
          exact absurd hpos (by decide))
        have e2 : (a - a / b * b).toInt = (a.toInt.tmod b.toInt).bmod (2 ^ 64) := by
          rw [Int64.toInt_sub, Int64.toInt_mul, e1, Int.tmod_def, Int.mul_comm b.toInt]
          exact Int.sub_bmod_bmod
        rw [e2, Int.bmod_eq_of_le (by omega) (by omega)]
        omega
    obtain ⟨c1, c2, c3⟩ := @ty_cmp b (Int64.ofNat ((0 : Fin 2) : Nat))
    have e0 : (Int64.ofNat ((0 : Fin 2) : Nat)).toInt = 0 := by decide
    rcases (by omega : b.toInt = 0 ∨ b.toInt < 0 ∨ 0 < b.toInt) with q | q | q
    · exact out _ (Or.inl (c2 (by omega)))
    · exact out _ (Or.inr (c1 (by omega)))
    · exact on _ (c3 (by omega)) q
theorem hd_look : ax_look 181 33 = some (.lreturn, (0, 0, 0), .null, []) := by decide +kernel
theorem hd_ty : (ax_mm 181).2.2.2.1 = some .long := by decide +kernel
/-- two numbers other than 0 have a divisor other than 0 -/
theorem hd_ok (hlst : l.stackTraces = false) {a1 z1 a2 z2 : Int} (h1 : z1 < 0 ∨ 0 < a1) : ty_M I l (181, 1, 0, 0, 0, [(1, 0, 0, a1, z1), (1, 0, 0, a2, z2)], [], [(.inl (some (1, 0, 0, (-9223372036854775808), (-1))), []), (.inl (some (1, 0, 0, 1, 9223372036854775807)), [])]) := by
  intro K h asx hr hH hi
  obtain ⟨x, r, rfl, ⟨a, rfl, p1, p2, -⟩, y, r2, rfl, ⟨b, rfl, q1, q2, -⟩, e⟩ := hr
  cases e
  have hfin : ∀ (c : Int64) (lv : List (Nat × Value)), c.toInt ≠ 0 → ty_P I 181 0 [(.inl (some (1, 0, 0, (-9223372036854775808), (-1))), []), (.inl (some (1, 0, 0, 1, 9223372036854775807)), [])] K h 33 lv [.long c] h 0 0 := by
    intro c lv hc
    have b1 := Int64.le_toInt c
    have b2 := Int64.toInt_lt c
    refine Or.inr (Or.inr (Or.inl ⟨_, rfl, rfl, (ax_look_ok hd_look).1, hd_ty, ty_F_refl 0 h, hi, ?_⟩))
    rcases (by omega : c.toInt < 0 ∨ 0 < c.toInt) with q | q
    · exact ⟨_, List.mem_cons_self, ⟨c, rfl, by omega, by omega, Or.inl rfl⟩, hH⟩
    · exact ⟨_, List.mem_cons_of_mem _ List.mem_cons_self, ⟨c, rfl, by omega, by omega, Or.inl rfl⟩, hH⟩
  refine AM.of (ax_mfacts (by decide +kernel : ax_has 181 = true)).2.2.2.2.2.2 hlst (by rw [hd_n]; exact Nat.le_of_ble_eq_true rfl) ?_
  show AR ax_ns l (ax_mm 181) 1 ty_R _ _ 0 [(0, .long a), (2, .long b)] [] h 0 0
  refine AR.s (.lload_n 0, (0, 0, 0), .null, []) hd_n (by decide +kernel) rfl ?_
  refine AR.s (.lstore 4, (0, 0, 0), .null, []) hd_n (by decide +kernel) rfl ?_
  refine AR.s (.lload_n 2, (0, 0, 0), .null, []) hd_n (by decide +kernel) rfl ?_
  refine AR.s (.lstore 6, (0, 0, 0), .null, []) hd_n (by decide +kernel) rfl ?_
  refine AR.lessL (lv' := [(6, .long b), (4, .long a)]) (fun q hq => ?_) (hd_loop hfin b.toInt.toNat a b (by omega) (by omega))
  rcases List.mem_cons.mp hq with e | e
  · subst e
    exact ⟨_, List.mem_cons_self, decide_eq_true rfl⟩
  · rcases List.mem_cons.mp e with e | e
    · subst e
      exact ⟨_, List.mem_cons_of_mem _ List.mem_cons_self, decide_eq_true rfl⟩
    · cases e
end HDIV
