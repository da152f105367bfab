/-! BITS, closed calls, and other rules for a walk by hand -/
theorem ax_sh {v : Nat} (h : v < 12) : ((nI v &&& 31).toBitVec.smod 32).toNat = v := by
  have : ∀ v, v < 12 → ((nI v &&& 31).toBitVec.smod 32).toNat = v := by decide +kernel
  exact this v h
theorem ax_bitv {Y v : Nat} (hY : Y < 4096) (h : v < 12) : (nI Y >>> (nI v &&& 31)) &&& Int32.ofInt 1 = nI (Y / 2 ^ v % 2) := by
  rw [pk_shrN (by omega) _ v (ax_sh h)]
  have : Y / 2 ^ v ≤ Y := Nat.div_le_self _ _
  exact pk_andN (by omega) 1 (by decide)
theorem ax_bit {Y v : Nat} (hY : Y < 4096) (h : v < 12) : (nI Y >>> (nI v &&& 31)) &&& Int32.ofInt 1 = Int32.ofInt 1 ↔ Y.testBit v = true := by
  rw [ax_bitv hY h, Nat.testBit_eq_decide_div_mod_eq, decide_eq_true_eq]
  have h2 : Y / 2 ^ v % 2 < 2 := Nat.mod_lt _ (by decide)
  have h1 : Int32.ofInt 1 = nI 1 := by decide
  rw [h1, nI_eq (by omega) (by omega)]
theorem ax_sh6 {Y : Nat} (hY : Y < 4096) : nI Y >>> ((Int8.ofInt 6).toInt32 &&& 31) = nI (Y / 64) := pk_shrN (by omega) _ 6 (by decide)
theorem ax_nIand {a b : Nat} (ha : a < 4096) (hb : b < 4096) : nI a &&& nI b = nI (a &&& b) := by
  apply Int32.toBitVec.inj
  apply BitVec.eq_of_toNat_eq
  rw [Int32.toBitVec_and, BitVec.toNat_and, pk_tn (by omega), pk_tn (by omega), pk_tn]
  exact Nat.lt_of_le_of_lt Nat.and_le_left (by omega)
theorem ax_dj {Y N v : Nat} (h : Y &&& N = 0) (hY : Y.testBit v = true) : N.testBit v = false := by
  have h1 : (Y &&& N).testBit v = false := by rw [h]; exact Nat.zero_testBit v
  rw [Nat.testBit_and, hY, Bool.true_and] at h1
  exact h1
theorem ax_dj6 {Y N : Nat} (h : Y &&& N = 0) : (Y / 64) &&& (N / 64) = 0 := by
  apply Nat.eq_of_testBit_eq
  intro i
  have e : ∀ x : Nat, (x / 64).testBit i = x.testBit (i + 6) := fun x => by
    rw [show (64 : Nat) = 2 ^ 6 from rfl, Nat.testBit_div_two_pow]
  rw [Nat.testBit_and, Nat.zero_testBit, e, e, ← Nat.testBit_and, h, Nat.zero_testBit]
/-- the bits of a word whose masks contain a variable -/
def ax_bw (v : Nat) : Int64 := match v with
  | 0 => -6148914691236517206
  | 1 => -3689348814741910324
  | 2 => -1085102592571150096
  | 3 => -71777214294589696
  | 4 => -281470681808896
  | _ => -4294967296
theorem ax_bw_at {v : Nat} (h : v < 6) : ax_bits[v]? = some (.long (ax_bw v)) := by
  match v, h with
  | 0, _ => rfl
  | 1, _ => rfl
  | 2, _ => rfl
  | 3, _ => rfl
  | 4, _ => rfl
  | 5, _ => rfl
  | v + 6, h => omega
theorem ax_bw_bit {v p : Nat} (h : v < 6) (hp : p < 64) : (ax_bw v).toBitVec.getLsbD p = p.testBit v := by
  have : ∀ v, v < 6 → ∀ p, p < 64 → (ax_bw v).toBitVec.getLsbD p = p.testBit v := by decide +kernel
  exact this v h p hp
theorem ax_mod6 {Y v : Nat} (h : v < 6) : (Y % 64).testBit v = Y.testBit v := by
  rw [show (64 : Nat) = 2 ^ 6 from rfl, Nat.testBit_mod_two_pow]
  simp [h]
theorem ax_get_r {r h : ax_H} : ax_get r h 1000000000 = r[0]? := rfl
theorem ax_le9 {Y : Nat} (h : Y < 4096) : ax_les [.float 9] [.int (nI Y)] = true := by
  have e : (nI Y).toInt = (Y : Int) := nI_toInt (by omega)
  have e1 : ax_rg 9 = (0, 4095) := by decide
  have e2 : (9 : UInt32).toNat < 1000 := by decide
  simp only [ax_les, ax_le, e1, e, Bool.and_true, Bool.and_eq_true, decide_eq_true_eq]
  exact ⟨e2, by omega, by omega⟩
section AXB
variable {l : Launch} {d : Nat} {r : ax_H} {P : ax_P} {X : ax_PX} {i pc : Nat} {lv lv' : List (Nat × Value)} {st : List Value} {h : ax_H} {bc bs mc ms : Nat} {Q : ax_Q}
theorem ax_le_self (x : Value) : ax_le x x = true := by
  cases x with
  | float m => simp [ax_le]
  | int i => exact decide_eq_true rfl
  | long i => exact decide_eq_true rfl
  | ref i => exact decide_eq_true rfl
  | double i => rfl
  | retAddr i => rfl
  | null => rfl
theorem ax_les_self : ∀ (xs : List Value), ax_les xs xs = true
  | [] => rfl
  | x :: xs => by
    show (ax_le x x && ax_les xs xs) = true
    rw [ax_le_self, ax_les_self xs]
    rfl
theorem AR.sub (hs : ∀ q ∈ lv', q ∈ lv) (K : AR ax_ns l (ax_mm i) d r P X pc lv' st h bc bs) : AR ax_ns l (ax_mm i) d r P X pc lv st h bc bs :=
  AR.lessL (fun q hq => ⟨q.2, hs q hq, ax_le_self q.2⟩) K
/-- what is known of nothing from before is known of all -/
theorem AM.any {a : Nat} {as : List Value} (K : AM ax_ns l (ax_mm a) d [] mc ms as h Q) : AM ax_ns l (ax_mm a) d r mc ms as h Q := by
  intro D b o
  refine MetFree.mono (K D b o) (fun a U hp => ?_) (fun _ _ _ _ _ h9 => h9) (fun _ _ _ _ _ hq => hq)
  obtain ⟨ac, e1, e2, e3, ⟨t1, t2, t3, t4, t5, t6, t7, t8, t9⟩, e5⟩ := hp
  exact ⟨ac, e1, e2, e3, ⟨t1, t2, t3, t4, t5, t6, t7, fun k q hq => by simp at hq, t9⟩, e5⟩
/-- a call that is counted out, of arguments that say less -/
theorem AR.callC (hl9 : l.stackTraces = false) {ins : Instr} {a b c : Nat} {v : Value} {ws : List Nat} (hl : ax_look i pc = some (ins, (a, b, c), v, ws)) {as as' rest : List Value} (hg : ax_arg r ins a b c st h = some (as, rest)) {f D uc us : Nat} {x0 : Value} {h0 : ax_H}
    (hrun : ax_rets (ax_cl [] ax_no f D a as' h) x0 h0 uc us = true) (hle : ax_les as' as = true) (hD : D + 1 ≤ d) (hmc : uc ≤ bc) (hms : us ≤ bs) (K : AR ax_ns l (ax_mm i) d r P X (pc + 3) lv (x0 :: rest) h0 (bc - uc) (bs - us)) : AR ax_ns l (ax_mm i) d r P X pc lv st h bc bs := by
  unfold ax_rets at hrun
  split at hrun
  · rename_i x h2 uc1 us1 he
    simp only [Bool.and_eq_true] at hrun
    obtain ⟨e1, e2, e3, e4⟩ := hrun
    have e1 := Nat.eq_of_beq_eq_true e1
    have e2 := Nat.eq_of_beq_eq_true e2
    subst e1
    subst e2
    refine AR.call hl hg (AM.any (AM.less hle (ax_cl_ok hl9 ax_no_ok _ _ _ _ _ _ _ _ he))) hD hmc hms (fun v h' hq => ?_) (fun E h' hq => ?_)
    · obtain ⟨q1, q2⟩ := hq
      cases q1
      subst q2
      exact AR.less (st' := x0 :: rest) (fun q hq => ⟨q.2, hq, ax_le_self q.2⟩) (by show (ax_le x0 x && ax_les rest rest) = true; rw [e3, ax_les_self]; rfl) e4 K
    · obtain ⟨q1, q2⟩ := hq
      cases q1
  · cases hrun
theorem ax_of {as : List Value} {lv0 : List (Nat × Value)} (hlv : lv_args 0 as = lv0) (hl : l.stackTraces = false) (hi : ax_has i = true) {nL : Nat} (hn : (ax_mm i).2.2.1 = nL) (hlen : (lg_sl as).length ≤ nL) (K : AR ax_ns l (ax_mm i) d r (ax_ret ax_ns (ax_mm i) Q) (fun _ _ E h _ _ => (ax_mm i).2.2.2.2 = [] ∧ Q (.inr E) h) 0 lv0 [] h mc ms) : AM ax_ns l (ax_mm i) d r mc ms as h Q := by
  subst hlv
  exact ax_ofAM hl hi hn hlen K
theorem ax_retL {ei : (Nat × Nat × Nat) × Value × List Nat} {x : Value} (hl : ax_look i pc = some (.lreturn, ei)) (hty : (ax_mm i).2.2.2.1 = some .long) (hx : ax_isL x = true) (hQ : Q (.inl (some x)) h) : AR ax_ns l (ax_mm i) d r (ax_ret ax_ns (ax_mm i) Q) X pc lv [x] h bc bs :=
  AR.at (Or.inr (Or.inr (Or.inl ⟨_, rfl, hx, (ax_look_ok hl).1, hty, hQ⟩)))
end AXB
