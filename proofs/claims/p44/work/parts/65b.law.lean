/-! p44, 9: the law's body, on -/

section LWG
variable {l : Launch} {h : ax_H} {x : Int32}
theorem AW.nz {d i pc : Nat} {r : ax_H} {P : ax_P} {X : ax_PX} {lv : List (Nat × Value)} {st : List Value} {bc bs' b cc : Nat} {v : Value} {ws : List Nat} {t : ArrayType} {N : Nat} (hl : ax_look i pc = some (.newarray t, (2, b, cc), v, ws)) (hx : x.toInt = N) (hN : N ≤ 60000000) (k : AR ax_ns l (ax_mm i) d r P X (pc + 2) lv (.ref h.length :: st) (h ++ [(102, List.replicate N (.int 0))]) bc bs') : AR ax_ns l (ax_mm i) d r P X pc lv (.int x :: st) h (bc + 1) (bs' + N) := by
  obtain ⟨hd, hok⟩ := ax_look_ok hl
  refine ax_one_ok (pc' := pc + 2) (lv' := lv) (st' := .ref h.length :: st) (h' := h ++ [(102, List.replicate N (.int 0))]) (dc := 1) (ds := N) hd hok ?_ k
  have e : x.toNatClampNeg = N := by show x.toInt.toNat = N; omega
  have hn : ¬ (x < 0 ∨ 60000000 < N ∨ 2 = 900) := by
    rintro (z | z | z)
    · exact (hj_nn (by omega)).1 z
    · omega
    · cases z
  have ht : ax_tys[2]? = some .boolean := rfl
  simp only [ax_one, ht, e]
  rw [if_neg hn, ax_ha_eq]
  rfl
def bi (b : Bool) : Int32 := if b then 1 else 0
theorem bi_i (b : Bool) : (bi b).toInt = if b then 1 else 0 := by cases b <;> rfl
theorem bi_of {y : Int32} {b : Bool} (h : y.toInt = if b then 1 else 0) : y = bi b := Int32.toInt_inj.mp (by rw [h, bi_i])
/-- all of F are in G -/
def im (F G : Nat → Bool) : Nat → Bool
  | 0 => true
  | m + 1 => im F G m && (!F m || G m)
theorem im_iff {F G : Nat → Bool} : ∀ n, im F G n = true ↔ ∀ k, k < n → F k = true → G k = true
  | 0 => ⟨fun _ k hk => absurd hk (by omega), fun _ => rfl⟩
  | n + 1 => by
    show (im F G n && (!F n || G n)) = true ↔ _
    rw [Bool.and_eq_true_iff, im_iff n]
    constructor
    · rintro ⟨a, b⟩ k hk e
      rcases (by omega : k < n ∨ k = n) with q | rfl
      · exact a k q e
      · rw [e] at b; exact b
    · intro a
      refine ⟨fun k hk e => a k (by omega) e, ?_⟩
      cases e : F n with
      | false => rfl
      | true => rw [a n (by omega) e]; rfl
/-- some of F is in G -/
def ex (F G : Nat → Bool) : Nat → Bool
  | 0 => false
  | m + 1 => ex F G m || (F m && G m)
theorem ex_iff {F G : Nat → Bool} : ∀ n, ex F G n = true ↔ ∃ k, k < n ∧ F k = true ∧ G k = true
  | 0 => ⟨fun h => (by cases h), fun ⟨k, hk, _⟩ => absurd hk (by omega)⟩
  | n + 1 => by
    show (ex F G n || (F n && G n)) = true ↔ _
    rw [Bool.or_eq_true_iff, ex_iff n, Bool.and_eq_true_iff]
    constructor
    · rintro (⟨k, hk, e⟩ | e)
      · exact ⟨k, by omega, e⟩
      · exact ⟨n, by omega, e⟩
    · rintro ⟨k, hk, e⟩
      rcases (by omega : k < n ∨ k = n) with q | rfl
      · exact Or.inl ⟨k, q, e⟩
      · exact Or.inr e
theorem ma_split (Y N k : Nat) : ∀ n, ma Y N n k = (ma Y 0 n k && ma 0 N n k)
  | 0 => rfl
  | n + 1 => by
    show ((ma Y N n k && (!(Y.testBit n) || k.testBit n)) && (!(N.testBit n) || !(k.testBit n))) = (((ma Y 0 n k && (!(Y.testBit n) || k.testBit n)) && (!((0 : Nat).testBit n) || !(k.testBit n))) && ((ma 0 N n k && (!((0 : Nat).testBit n) || k.testBit n)) && (!(N.testBit n) || !(k.testBit n))))
    rw [ma_split Y N k n, Nat.zero_testBit]
    cases ma Y 0 n k <;> cases ma 0 N n k <;> cases Y.testBit n <;> cases N.testBit n <;> cases k.testBit n <;> rfl
theorem ma_Y : ∀ Y, Y < 64 → ∀ k, k < 64 → ma Y 0 6 k = decide (k &&& Y = Y) := by decide +kernel
theorem ma_N : ∀ N, N < 64 → ∀ k, k < 64 → ma 0 N 6 k = decide (k &&& N = 0) := by decide +kernel
theorem ma_and {Y N k : Nat} (hY : Y < 64) (hN : N < 64) (hk : k < 64) : ma Y N 6 k = (decide (k &&& Y = Y) && decide (k &&& N = 0)) := by rw [ma_split, ma_Y Y hY k hk, ma_N N hN k hk]
theorem nt_a : ∀ a, a < 64 → ∀ b, b < 64 → Int32.ofNat a &&& (Int32.ofNat b ^^^ (-1)) = Int32.ofNat (a &&& (63 - b)) ∧ a &&& (63 - b) < 64 ∧ b &&& (a &&& (63 - b)) = 0 ∧ (a &&& b = a → a &&& (63 - b) = 0) := by decide +kernel
theorem nt_of {x y o : Int32} {A B : Nat} (hx : x.toInt = A) (hA : A < 64) (hy : y.toInt = B) (hB : B < 64) (ho : o.toInt = -1) : (x &&& (y ^^^ o)).toInt = ((A &&& (63 - B) : Nat) : Int) := by
  obtain ⟨e, h, -⟩ := nt_a A hA B hB
  rw [p_of64 hx hA, p_of64 hy hB, show o = -1 from Int32.toInt_inj.mp (ho.trans rfl), e]
  exact Int32.toInt_ofNat_of_lt (by omega)
theorem dq_a : ∀ V, V < 64 → (∀ v, v < 12 → Int32.ofNat V &&& (((1 : Int32) <<< (Int32.ofNat v &&& 31)) ^^^ (-1)) = Int32.ofNat (dr V v)) ∧ Int32.ofNat V &&& (((1 : Int32) <<< (Int32.ofNat 12 &&& 31)) ^^^ (-1)) = Int32.ofNat V := by decide +kernel
theorem dr_a : ∀ V, V < 64 → ∀ v, v < 12 → dr V v < 64 ∧ (V.testBit v = false → dr V v = V) := by decide +kernel
theorem dq_of {x y o m : Int32} {A v : Nat} (hx : x.toInt = A) (hA : A < 64) (hy : y.toInt = v) (hv : v < 12) (ho : o.toInt = 1) (hm : m.toInt = -1) : (x &&& ((o <<< (y &&& 31)) ^^^ m)).toInt = ((dr A v : Nat) : Int) := by
  rw [p_of64 hx hA, p_of64 hy (by omega), show o = 1 from Int32.toInt_inj.mp (ho.trans rfl), show m = -1 from Int32.toInt_inj.mp (hm.trans rfl), (dq_a A hA).1 v hv]
  exact Int32.toInt_ofNat_of_lt (by have := (dr_a A hA v hv).1; omega)
theorem dq_12 {x y o m : Int32} {A : Nat} (hx : x.toInt = A) (hA : A < 64) (hy : y.toInt = 12) (ho : o.toInt = 1) (hm : m.toInt = -1) : (x &&& ((o <<< (y &&& 31)) ^^^ m)).toInt = (A : Int) := by
  rw [p_of64 hx hA, p_of64 (n := 12) hy (by omega), show o = 1 from Int32.toInt_inj.mp (ho.trans rfl), show m = -1 from Int32.toInt_inj.mp (hm.trans rfl), (dq_a A hA).2]
  exact Int32.toInt_ofNat_of_lt (by omega)
theorem dr_land (Y V v : Nat) : Y &&& dr V v = dr (Y &&& V) v := by
  unfold dr
  rw [Nat.and_assoc]
-- the literals of a reason, in order
theorem w_cex {U : Nat → Bool} {j : Nat} : ∀ n, j < cnt U n → ∃ k, k < n ∧ U k = true ∧ cnt U k = j
  | 0, h => absurd h (Nat.not_lt_zero _)
  | n + 1, h => by
    have h : j < cnt U n + if U n then 1 else 0 := h
    by_cases e : j < cnt U n
    · obtain ⟨k, a, b⟩ := w_cex n e
      exact ⟨k, by omega, b⟩
    · cases q : U n with
      | false => rw [q] at h; simp at h; omega
      | true => rw [q] at h; simp at h; exact ⟨n, by omega, q, by omega⟩
theorem w_clt {U : Nat → Bool} {k n : Nat} (hk : k < n) (e : U k = true) : cnt U k < cnt U n := by
  have h1 : cnt U (k + 1) ≤ cnt U n := cnt_mo U n (by omega)
  have h2 : cnt U (k + 1) = cnt U k + 1 := by show cnt U k + (if U k then 1 else 0) = _; rw [e]; rfl
  omega
theorem w_cin {U : Nat → Bool} {j k : Nat} (h1 : U j = true) (h2 : U k = true) (e : cnt U j = cnt U k) : j = k := by
  rcases Nat.lt_trichotomy j k with q | q | q
  · have := w_clt q h1; omega
  · exact q
  · have := w_clt q h2; omega
theorem w_one : ∀ n, n < 12 → ∀ k, k < 32 → ib ((1 : Int32) <<< (Int32.ofNat n &&& 31)) k = decide (k = n) := by decide +kernel
theorem w_bit {o s : Int32} {n k : Nat} (ho : o.toInt = 1) (hs : s.toInt = n) (hn : n < 12) (hk : k < 32) : ib (o <<< (s &&& 31)) k = decide (k = n) := by
  rw [show o = 1 from Int32.toInt_inj.mp (ho.trans rfl), p_of64 hs (by omega)]
  exact w_one n hn k hk
theorem w_nb : ∀ A, A < 64 → ∀ k, k < 32 → ib (Int32.ofNat A) k = A.testBit k := by decide +kernel
theorem w_out : ∀ A, A < 64 → ∀ k, k < 32 → 6 ≤ k → A.testBit k = false := by decide +kernel
theorem w_is {a : Int32} {A : Nat} (hA : A < 64) (h : ∀ k, k < 32 → ib a k = A.testBit k) : a.toInt = A := by
  rw [show a = Int32.ofNat A from Int32.toBitVec_inj.mp (BitVec.eq_of_getLsbD_eq (fun k hk => (h k hk).trans (w_nb A hA k hk).symm))]
  exact Int32.toInt_ofNat_of_lt (by omega)
theorem w_yn : ∀ Y, Y < 64 → ∀ N, N < 64 → Y &&& N = 0 → ∀ v, v < 6 → Y.testBit v = true → N.testBit v = false := by decide +kernel
/-- the true and the false variables of a reason -/
theorem w_uV {Y N V : Nat} (hY : Y < 64) (hN : N < 64) (hYN : Y &&& N = 0) (hV : V < 64) (hs : ∀ k, k < 12 → V.testBit k = true → (Y ||| N).testBit k = true) {v : Nat} (hv : v < 12) : (Y &&& V).testBit v = uV V N (2 * v) ∧ (N &&& V).testBit v = uV V N (2 * v + 1) := by
  unfold uV
  rw [show 2 * v / 2 = v by omega, show (2 * v + 1) / 2 = v by omega, decide_eq_false (show ¬ 2 * v % 2 = 1 by omega), decide_eq_true (show (2 * v + 1) % 2 = 1 by omega), Nat.testBit_and, Nat.testBit_and]
  have h1 := hs v hv
  rw [Nat.testBit_or] at h1
  have h2 : Y.testBit v = true → N.testBit v = false := fun e => by
    by_cases q : v < 6
    · exact w_yn Y hY N hN hYN v q e
    · rw [w_out Y hY v (by omega) (by omega)] at e; cases e
  cases eV : V.testBit v <;> cases eY : Y.testBit v <;> cases eN : N.testBit v <;> simp [eV, eY, eN] at h1 h2 ⊢
end LWG
section LWH
variable {l : Launch} {h g : ax_H} {n p L b5 : Nat} {xs : Nat → Int32} {F : Nat → Bool} {P : ax_P} {X : ax_PX} {bc bs : Nat} {f : Nat → Int32}
def S3 (L : Nat) (xs : Nat → Int32) (h : ax_H) (b5 : Nat) (f : Nat → Int32) : Prop := LI h 9 (FF L xs 4) 3200 ∧ (∃ fr fd fa, AA h fr fd fa ∧ AV L xs 4 fr fd fa) ∧ h[b5]? = some (102, ar 64 f) ∧ 184 ≤ b5 ∧ b5 < 1000000000
theorem S3.set (S : S3 L xs h b5 f) {f' : Nat → Int32} (H : hy_H 0 g) (M : lf [b5] h g) (B : g[b5]? = some (102, ar 64 f')) : S3 L xs g b5 f' := by
  obtain ⟨s1, ⟨fr, fd, fa, A, V⟩, s3, s4, s5⟩ := S
  exact ⟨s1.mv M (fun q hq => by rw [List.mem_singleton.mp hq]; omega) H (by decide), ⟨fr, fd, fa, A.lf M (fun q hq => Or.inr (by rw [List.mem_singleton.mp hq]; exact s4)), V⟩, B, s4, s5⟩
theorem l3i (hlst : l.stackTraces = false) (hL : L ≤ 3072) {i v : Int32} {m : Nat} (hi : i.toInt = m) (hm : m < 64) (K : ∀ g f, S3 L xs g b5 f → (∀ k, k < m + 1 → f k = bi (FF L xs 4 k)) → AR ax_ns l (ax_mm 285) 8 (ax_r L xs) P X 311 [(7, .int i), (6, .int v), (5, .ref b5), (4, .ref 183), (3, .ref 182), (2, .ref 181), (1, .ref 0), (0, .ref 1000000001)] [] g (bc) (bs)) : ∀ (n q : Nat) (g : ax_H) (j : Int32) (f : Nat → Int32), q + n = 4 → j.toInt = q → S3 L xs g b5 f → (∀ k, k < m → f k = bi (FF L xs 4 k)) → f m = bi (FF L xs q m) → AR ax_ns l (ax_mm 285) 8 (ax_r L xs) P X 259 [(8, .int j), (7, .int i), (6, .int v), (5, .ref b5), (4, .ref 183), (3, .ref 182), (2, .ref 181), (1, .ref 0), (0, .ref 1000000001)] [] g (bc) (bs) := by
  intro n
  induction n with
  | zero =>
    intro q g j f hn hj S hf hq
    show AR _ _ _ _ _ _ _ 259 [(8, .int j), (7, .int i), (6, .int v), (5, .ref b5), (4, .ref 183), (3, .ref 182), (2, .ref 181), (1, .ref 0), (0, .ref 1000000001)] [] g _ _
    refine AR.s (pc' := 261) (lv' := [(8, .int j), (7, .int i), (6, .int v), (5, .ref b5), (4, .ref 183), (3, .ref 182), (2, .ref 181), (1, .ref 0), (0, .ref 1000000001)]) (st' := [.int j]) (h' := g) _ hn_285 hk_285_259 rfl ?_
    refine AW.iconstT hk_285_261 (by decide) (fun z273 ez273 => ?_)
    show AR _ _ _ _ _ _ _ 262 [(8, .int j), (7, .int i), (6, .int v), (5, .ref b5), (4, .ref 183), (3, .ref 182), (2, .ref 181), (1, .ref 0), (0, .ref 1000000001)] [.int z273, .int j] g _ _
    refine AW.jge hk_285_262 (tgt := 311) (by decide) (fun p1 => ?_) (fun p2 => ?_)
    · obtain rfl : q = 4 := by omega
      refine AR.lessL (lv' := [(7, .int i), (6, .int v), (5, .ref b5), (4, .ref 183), (3, .ref 182), (2, .ref 181), (1, .ref 0), (0, .ref 1000000001)]) (List.forall_mem_cons.mpr ⟨⟨_, by simp, ax_le_rfl rfl⟩, (List.forall_mem_cons.mpr ⟨⟨_, by simp, ax_le_rfl rfl⟩, (List.forall_mem_cons.mpr ⟨⟨_, by simp, ax_le_rfl rfl⟩, (List.forall_mem_cons.mpr ⟨⟨_, by simp, ax_le_rfl rfl⟩, (List.forall_mem_cons.mpr ⟨⟨_, by simp, ax_le_rfl rfl⟩, (List.forall_mem_cons.mpr ⟨⟨_, by simp, ax_le_rfl rfl⟩, (List.forall_mem_cons.mpr ⟨⟨_, by simp, ax_le_rfl rfl⟩, (List.forall_mem_cons.mpr ⟨⟨_, by simp, ax_le_rfl rfl⟩, (fun _ h => absurd h List.not_mem_nil)⟩)⟩)⟩)⟩)⟩)⟩)⟩)⟩) ?_
      refine K g f S (fun k hk => ?_)
      rcases (by omega : k < m ∨ k = m) with e | rfl
      · exact hf k e
      · exact hq
    · exact absurd p2 (by omega)
  | succ n ih =>
    intro q g j f hn hj S hf hq
    show AR _ _ _ _ _ _ _ 259 [(8, .int j), (7, .int i), (6, .int v), (5, .ref b5), (4, .ref 183), (3, .ref 182), (2, .ref 181), (1, .ref 0), (0, .ref 1000000001)] [] g _ _
    refine AR.s (pc' := 261) (lv' := [(8, .int j), (7, .int i), (6, .int v), (5, .ref b5), (4, .ref 183), (3, .ref 182), (2, .ref 181), (1, .ref 0), (0, .ref 1000000001)]) (st' := [.int j]) (h' := g) _ hn_285 hk_285_259 rfl ?_
    refine AW.iconstT hk_285_261 (by decide) (fun z274 ez274 => ?_)
    show AR _ _ _ _ _ _ _ 262 [(8, .int j), (7, .int i), (6, .int v), (5, .ref b5), (4, .ref 183), (3, .ref 182), (2, .ref 181), (1, .ref 0), (0, .ref 1000000001)] [.int z274, .int j] g _ _
    refine AW.jge hk_285_262 (tgt := 311) (by decide) (fun p1 => ?_) (fun p2 => ?_)
    · exact absurd p1 (by omega)
    · obtain ⟨I, ⟨fr, fd, fa, A, V⟩, e5, b0, b1⟩ := id S
      obtain ⟨v1, v2, -⟩ := V q (by omega)
      have rb := rr_bd L xs q
      show AR _ _ _ _ _ _ _ 265 [(8, .int j), (7, .int i), (6, .int v), (5, .ref b5), (4, .ref 183), (3, .ref 182), (2, .ref 181), (1, .ref 0), (0, .ref 1000000001)] [] g _ _
      refine AR.s (pc' := 267) (lv' := [(8, .int j), (7, .int i), (6, .int v), (5, .ref b5), (4, .ref 183), (3, .ref 182), (2, .ref 181), (1, .ref 0), (0, .ref 1000000001)]) (st' := [.ref b5]) (h' := g) _ hn_285 hk_285_265 rfl ?_
      refine AR.s (pc' := 269) (lv' := [(8, .int j), (7, .int i), (6, .int v), (5, .ref b5), (4, .ref 183), (3, .ref 182), (2, .ref 181), (1, .ref 0), (0, .ref 1000000001)]) (st' := [.int i, .ref b5]) (h' := g) _ hn_285 hk_285_267 rfl ?_
      refine AR.s (pc' := 271) (lv' := [(8, .int j), (7, .int i), (6, .int v), (5, .ref b5), (4, .ref 183), (3, .ref 182), (2, .ref 181), (1, .ref 0), (0, .ref 1000000001)]) (st' := [.ref b5, .int i, .ref b5]) (h' := g) _ hn_285 hk_285_269 rfl ?_
      refine AR.s (pc' := 273) (lv' := [(8, .int j), (7, .int i), (6, .int v), (5, .ref b5), (4, .ref 183), (3, .ref 182), (2, .ref 181), (1, .ref 0), (0, .ref 1000000001)]) (st' := [.int i, .ref b5, .int i, .ref b5]) (h' := g) _ hn_285 hk_285_271 rfl ?_
      refine AW.za hk_285_273 b1 e5 hi hm ?_
      rw [hq]
      have bb := bi_i (FF L xs q m)
      generalize bi (FF L xs q m) = yb at bb
      show AR _ _ _ _ _ _ _ 274 [(8, .int j), (7, .int i), (6, .int v), (5, .ref b5), (4, .ref 183), (3, .ref 182), (2, .ref 181), (1, .ref 0), (0, .ref 1000000001)] [.int yb, .int i, .ref b5] g _ _
      refine AW.zeq hk_285_274 (tgt := 303) (by decide) (fun x1 => ?_) (fun x2 => ?_)
      · have eF : FF L xs q m = false := by cases e : FF L xs q m; rfl; rw [e, if_pos rfl] at bb; omega
        refine AW.iconstT hk_285_303 (by decide) (fun z275 ez275 => ?_)
        show AR _ _ _ _ _ _ _ 304 [(8, .int j), (7, .int i), (6, .int v), (5, .ref b5), (4, .ref 183), (3, .ref 182), (2, .ref 181), (1, .ref 0), (0, .ref 1000000001)] [.int z275, .int i, .ref b5] g _ _
        have ey : z275.toInt = if FF L xs (q + 1) m then 1 else 0 := by
          show _ = if (FF L xs q m && fu (rr L xs q) (dd L xs q) (fs (sv L xs q) m 6)) then 1 else 0
          rw [eF, Bool.false_and, if_neg (by decide)]
          exact ez275
        refine AW.zas hk_285_304 I.1 (by omega) b1 e5 (Or.inr rfl) hi hm (by left; omega) (fun g1 H1 M1 B1 => ?_)
        show AR _ _ _ _ _ _ _ 305 [(8, .int j), (7, .int i), (6, .int v), (5, .ref b5), (4, .ref 183), (3, .ref 182), (2, .ref 181), (1, .ref 0), (0, .ref 1000000001)] [] g1 _ _
        refine AW.iincT hk_285_305 (x := j) rfl (by rw [hn_285]; decide) (by decide) (by omega) (by omega) (fun z276 ez276 => ?_)
        show AR _ _ _ _ _ _ _ 308 [(8, .int z276), (7, .int i), (6, .int v), (5, .ref b5), (4, .ref 183), (3, .ref 182), (2, .ref 181), (1, .ref 0), (0, .ref 1000000001)] [] g1 _ _
        refine AW.gotoT hk_285_308 (tgt := 259) (by decide) ?_
        refine AR.lessL (lv' := [(8, .int z276), (7, .int i), (6, .int v), (5, .ref b5), (4, .ref 183), (3, .ref 182), (2, .ref 181), (1, .ref 0), (0, .ref 1000000001)]) (List.forall_mem_cons.mpr ⟨⟨_, by simp, ax_le_rfl rfl⟩, (List.forall_mem_cons.mpr ⟨⟨_, by simp, ax_le_rfl rfl⟩, (List.forall_mem_cons.mpr ⟨⟨_, by simp, ax_le_rfl rfl⟩, (List.forall_mem_cons.mpr ⟨⟨_, by simp, ax_le_rfl rfl⟩, (List.forall_mem_cons.mpr ⟨⟨_, by simp, ax_le_rfl rfl⟩, (List.forall_mem_cons.mpr ⟨⟨_, by simp, ax_le_rfl rfl⟩, (List.forall_mem_cons.mpr ⟨⟨_, by simp, ax_le_rfl rfl⟩, (List.forall_mem_cons.mpr ⟨⟨_, by simp, ax_le_rfl rfl⟩, (List.forall_mem_cons.mpr ⟨⟨_, by simp, ax_le_rfl rfl⟩, (fun _ h => absurd h List.not_mem_nil)⟩)⟩)⟩)⟩)⟩)⟩)⟩)⟩)⟩) ?_
        refine ih (q + 1) g1 _ _ (by omega) (by omega) (S.set H1 M1 B1) (fun k hk => ?_) ?_
        · rw [if_neg (by omega)]; exact hf k hk
        · rw [if_pos rfl]; exact bi_of ey
      · have eF : FF L xs q m = true := by cases e : FF L xs q m; rw [e, if_neg (by decide)] at bb; omega; rfl
        show AR _ _ _ _ _ _ _ 277 [(8, .int j), (7, .int i), (6, .int v), (5, .ref b5), (4, .ref 183), (3, .ref 182), (2, .ref 181), (1, .ref 0), (0, .ref 1000000001)] [.int i, .ref b5] g _ _
        refine AR.s (pc' := 278) (lv' := [(8, .int j), (7, .int i), (6, .int v), (5, .ref b5), (4, .ref 183), (3, .ref 182), (2, .ref 181), (1, .ref 0), (0, .ref 1000000001)]) (st' := [.ref 1000000001, .int i, .ref b5]) (h' := g) _ hn_285 hk_285_277 rfl ?_
        refine AR.s (pc' := 280) (lv' := [(8, .int j), (7, .int i), (6, .int v), (5, .ref b5), (4, .ref 183), (3, .ref 182), (2, .ref 181), (1, .ref 0), (0, .ref 1000000001)]) (st' := [.int j, .ref 1000000001, .int i, .ref b5]) (h' := g) _ hn_285 hk_285_278 rfl ?_
        refine AW.cs (as := [.ref 1000000001, .int j]) (rest := [.int i, .ref b5]) hk_285_280 (by decide +kernel) rfl rfl (Nat.le_of_ble_eq_true rfl) (t_131 hlst hL (k := q) (by omega) (by omega)) (by decide) (Nat.zero_le _) (Nat.zero_le _) (fun E h' q => by cases q.2) ?_
        rintro w9 g9 ⟨ee277, e⟩
        cases e
        obtain rfl := ee277.symm
        show AR _ _ _ _ _ _ _ 283 [(8, .int j), (7, .int i), (6, .int v), (5, .ref b5), (4, .ref 183), (3, .ref 182), (2, .ref 181), (1, .ref 0), (0, .ref 1000000001)] [.int (sv L xs (q)), .int i, .ref b5] g _ _
        refine AR.s (pc' := 284) (lv' := [(8, .int j), (7, .int i), (6, .int v), (5, .ref b5), (4, .ref 183), (3, .ref 182), (2, .ref 181), (1, .ref 0), (0, .ref 1000000001)]) (st' := [.ref 181, .int (sv L xs (q)), .int i, .ref b5]) (h' := g) _ hn_285 hk_285_283 rfl ?_
        refine AR.s (pc' := 286) (lv' := [(8, .int j), (7, .int i), (6, .int v), (5, .ref b5), (4, .ref 183), (3, .ref 182), (2, .ref 181), (1, .ref 0), (0, .ref 1000000001)]) (st' := [.int j, .ref 181, .int (sv L xs (q)), .int i, .ref b5]) (h' := g) _ hn_285 hk_285_284 rfl ?_
        refine AW.ia hk_285_286 (by decide) A.1 hj (by omega) ?_
        show AR _ _ _ _ _ _ _ 287 [(8, .int j), (7, .int i), (6, .int v), (5, .ref b5), (4, .ref 183), (3, .ref 182), (2, .ref 181), (1, .ref 0), (0, .ref 1000000001)] [.int (fr q), .int (sv L xs (q)), .int i, .ref b5] g _ _
        refine AR.s (pc' := 288) (lv' := [(8, .int j), (7, .int i), (6, .int v), (5, .ref b5), (4, .ref 183), (3, .ref 182), (2, .ref 181), (1, .ref 0), (0, .ref 1000000001)]) (st' := [.ref 182, .int (fr q), .int (sv L xs (q)), .int i, .ref b5]) (h' := g) _ hn_285 hk_285_287 rfl ?_
        refine AR.s (pc' := 290) (lv' := [(8, .int j), (7, .int i), (6, .int v), (5, .ref b5), (4, .ref 183), (3, .ref 182), (2, .ref 181), (1, .ref 0), (0, .ref 1000000001)]) (st' := [.int j, .ref 182, .int (fr q), .int (sv L xs (q)), .int i, .ref b5]) (h' := g) _ hn_285 hk_285_288 rfl ?_
        refine AW.ia hk_285_290 (by decide) A.2.1 hj (by omega) ?_
        show AR _ _ _ _ _ _ _ 291 [(8, .int j), (7, .int i), (6, .int v), (5, .ref b5), (4, .ref 183), (3, .ref 182), (2, .ref 181), (1, .ref 0), (0, .ref 1000000001)] [.int (fd q), .int (fr q), .int (sv L xs (q)), .int i, .ref b5] g _ _
        refine AR.s (pc' := 293) (lv' := [(8, .int j), (7, .int i), (6, .int v), (5, .ref b5), (4, .ref 183), (3, .ref 182), (2, .ref 181), (1, .ref 0), (0, .ref 1000000001)]) (st' := [.int i, .int (fd q), .int (fr q), .int (sv L xs (q)), .int i, .ref b5]) (h' := g) _ hn_285 hk_285_291 rfl ?_
        refine AW.cs (as := [.int (sv L xs (q)), .int (fr q), .int (fd q), .int i]) (rest := [.int i, .ref b5]) hk_285_293 (by decide +kernel) rfl rfl (Nat.le_of_ble_eq_true rfl) (AW.W (t_138 hlst (M := m) hi hm (by omega))) (by decide) (Nat.zero_le _) (Nat.zero_le _) (fun E h' q => by obtain ⟨-, x, e, -⟩ := q; cases e) ?_
        rintro w278 g279 ⟨eg279, z280, e, ez280⟩
        cases e
        obtain rfl := eg279.symm
        show AR _ _ _ _ _ _ _ 296 [(8, .int j), (7, .int i), (6, .int v), (5, .ref b5), (4, .ref 183), (3, .ref 182), (2, .ref 181), (1, .ref 0), (0, .ref 1000000001)] [.int z280, .int i, .ref b5] g _ _
        rw [v1, v2] at ez280
        show AR _ _ _ _ _ _ _ 296 [(8, .int j), (7, .int i), (6, .int v), (5, .ref b5), (4, .ref 183), (3, .ref 182), (2, .ref 181), (1, .ref 0), (0, .ref 1000000001)] [.int z280, .int i, .ref b5] g _ _
        refine AW.zeq hk_285_296 (tgt := 303) (by decide) (fun y1 => ?_) (fun y2 => ?_)
        · have eG : fu (rr L xs q) (dd L xs q) (fs (sv L xs q) m 6) = false := by cases e : fu (rr L xs q) (dd L xs q) (fs (sv L xs q) m 6); rfl; rw [e, if_pos rfl] at ez280; omega
          refine AW.iconstT hk_285_303 (by decide) (fun z281 ez281 => ?_)
          show AR _ _ _ _ _ _ _ 304 [(8, .int j), (7, .int i), (6, .int v), (5, .ref b5), (4, .ref 183), (3, .ref 182), (2, .ref 181), (1, .ref 0), (0, .ref 1000000001)] [.int z281, .int i, .ref b5] g _ _
          have ey : z281.toInt = if FF L xs (q + 1) m then 1 else 0 := by
            show _ = if (FF L xs q m && fu (rr L xs q) (dd L xs q) (fs (sv L xs q) m 6)) then 1 else 0
            rw [eF, eG, Bool.and_false, if_neg (by decide)]
            exact ez281
          refine AW.zas hk_285_304 I.1 (by omega) b1 e5 (Or.inr rfl) hi hm (by left; omega) (fun g1 H1 M1 B1 => ?_)
          show AR _ _ _ _ _ _ _ 305 [(8, .int j), (7, .int i), (6, .int v), (5, .ref b5), (4, .ref 183), (3, .ref 182), (2, .ref 181), (1, .ref 0), (0, .ref 1000000001)] [] g1 _ _
          refine AW.iincT hk_285_305 (x := j) rfl (by rw [hn_285]; decide) (by decide) (by omega) (by omega) (fun z282 ez282 => ?_)
          show AR _ _ _ _ _ _ _ 308 [(8, .int z282), (7, .int i), (6, .int v), (5, .ref b5), (4, .ref 183), (3, .ref 182), (2, .ref 181), (1, .ref 0), (0, .ref 1000000001)] [] g1 _ _
          refine AW.gotoT hk_285_308 (tgt := 259) (by decide) ?_
          refine AR.lessL (lv' := [(8, .int z282), (7, .int i), (6, .int v), (5, .ref b5), (4, .ref 183), (3, .ref 182), (2, .ref 181), (1, .ref 0), (0, .ref 1000000001)]) (List.forall_mem_cons.mpr ⟨⟨_, by simp, ax_le_rfl rfl⟩, (List.forall_mem_cons.mpr ⟨⟨_, by simp, ax_le_rfl rfl⟩, (List.forall_mem_cons.mpr ⟨⟨_, by simp, ax_le_rfl rfl⟩, (List.forall_mem_cons.mpr ⟨⟨_, by simp, ax_le_rfl rfl⟩, (List.forall_mem_cons.mpr ⟨⟨_, by simp, ax_le_rfl rfl⟩, (List.forall_mem_cons.mpr ⟨⟨_, by simp, ax_le_rfl rfl⟩, (List.forall_mem_cons.mpr ⟨⟨_, by simp, ax_le_rfl rfl⟩, (List.forall_mem_cons.mpr ⟨⟨_, by simp, ax_le_rfl rfl⟩, (List.forall_mem_cons.mpr ⟨⟨_, by simp, ax_le_rfl rfl⟩, (fun _ h => absurd h List.not_mem_nil)⟩)⟩)⟩)⟩)⟩)⟩)⟩)⟩)⟩) ?_
          refine ih (q + 1) g1 _ _ (by omega) (by omega) (S.set H1 M1 B1) (fun k hk => ?_) ?_
          · rw [if_neg (by omega)]; exact hf k hk
          · rw [if_pos rfl]; exact bi_of ey
        · have eG : fu (rr L xs q) (dd L xs q) (fs (sv L xs q) m 6) = true := by cases e : fu (rr L xs q) (dd L xs q) (fs (sv L xs q) m 6); rw [e, if_neg (by decide)] at ez280; omega; rfl
          refine AW.iconstT hk_285_299 (by decide) (fun z283 ez283 => ?_)
          show AR _ _ _ _ _ _ _ 300 [(8, .int j), (7, .int i), (6, .int v), (5, .ref b5), (4, .ref 183), (3, .ref 182), (2, .ref 181), (1, .ref 0), (0, .ref 1000000001)] [.int z283, .int i, .ref b5] g _ _
          refine AW.gotoT hk_285_300 (tgt := 304) (by decide) ?_
          have ey : z283.toInt = if FF L xs (q + 1) m then 1 else 0 := by
            show _ = if (FF L xs q m && fu (rr L xs q) (dd L xs q) (fs (sv L xs q) m 6)) then 1 else 0
            rw [eF, eG, Bool.and_self, if_pos rfl]
            exact ez283
          refine AW.zas hk_285_304 I.1 (by omega) b1 e5 (Or.inr rfl) hi hm (by right; omega) (fun g1 H1 M1 B1 => ?_)
          show AR _ _ _ _ _ _ _ 305 [(8, .int j), (7, .int i), (6, .int v), (5, .ref b5), (4, .ref 183), (3, .ref 182), (2, .ref 181), (1, .ref 0), (0, .ref 1000000001)] [] g1 _ _
          refine AW.iincT hk_285_305 (x := j) rfl (by rw [hn_285]; decide) (by decide) (by omega) (by omega) (fun z284 ez284 => ?_)
          show AR _ _ _ _ _ _ _ 308 [(8, .int z284), (7, .int i), (6, .int v), (5, .ref b5), (4, .ref 183), (3, .ref 182), (2, .ref 181), (1, .ref 0), (0, .ref 1000000001)] [] g1 _ _
          refine AW.gotoT hk_285_308 (tgt := 259) (by decide) ?_
          refine AR.lessL (lv' := [(8, .int z284), (7, .int i), (6, .int v), (5, .ref b5), (4, .ref 183), (3, .ref 182), (2, .ref 181), (1, .ref 0), (0, .ref 1000000001)]) (List.forall_mem_cons.mpr ⟨⟨_, by simp, ax_le_rfl rfl⟩, (List.forall_mem_cons.mpr ⟨⟨_, by simp, ax_le_rfl rfl⟩, (List.forall_mem_cons.mpr ⟨⟨_, by simp, ax_le_rfl rfl⟩, (List.forall_mem_cons.mpr ⟨⟨_, by simp, ax_le_rfl rfl⟩, (List.forall_mem_cons.mpr ⟨⟨_, by simp, ax_le_rfl rfl⟩, (List.forall_mem_cons.mpr ⟨⟨_, by simp, ax_le_rfl rfl⟩, (List.forall_mem_cons.mpr ⟨⟨_, by simp, ax_le_rfl rfl⟩, (List.forall_mem_cons.mpr ⟨⟨_, by simp, ax_le_rfl rfl⟩, (List.forall_mem_cons.mpr ⟨⟨_, by simp, ax_le_rfl rfl⟩, (fun _ h => absurd h List.not_mem_nil)⟩)⟩)⟩)⟩)⟩)⟩)⟩)⟩)⟩) ?_
          refine ih (q + 1) g1 _ _ (by omega) (by omega) (S.set H1 M1 B1) (fun k hk => ?_) ?_
          · rw [if_neg (by omega)]; exact hf k hk
          · rw [if_pos rfl]; exact bi_of ey
theorem l3 (hlst : l.stackTraces = false) (hL : L ≤ 3072) (K : ∀ g f (v : Int32), S3 L xs g b5 f → (∀ k, k < 64 → f k = bi (FF L xs 4 k)) → v.toInt = nm (FF L xs 4) 64 → AR ax_ns l (ax_mm 285) 8 (ax_r L xs) P X 335 [(6, .int v), (5, .ref b5), (4, .ref 183), (3, .ref 182), (2, .ref 181), (1, .ref 0), (0, .ref 1000000001)] [] g (bc) (bs)) : ∀ (n m : Nat) (g : ax_H) (i v : Int32) (f : Nat → Int32), m + n = 64 → i.toInt = m → v.toInt = nm (FF L xs 4) m → S3 L xs g b5 f → (∀ k, k < m → f k = bi (FF L xs 4 k)) → AR ax_ns l (ax_mm 285) 8 (ax_r L xs) P X 243 [(7, .int i), (6, .int v), (5, .ref b5), (4, .ref 183), (3, .ref 182), (2, .ref 181), (1, .ref 0), (0, .ref 1000000001)] [] g (bc) (bs) := by
  intro n
  induction n with
  | zero =>
    intro m g i v f hn hi hv S hf
    show AR _ _ _ _ _ _ _ 243 [(7, .int i), (6, .int v), (5, .ref b5), (4, .ref 183), (3, .ref 182), (2, .ref 181), (1, .ref 0), (0, .ref 1000000001)] [] g _ _
    refine AR.s (pc' := 245) (lv' := [(7, .int i), (6, .int v), (5, .ref b5), (4, .ref 183), (3, .ref 182), (2, .ref 181), (1, .ref 0), (0, .ref 1000000001)]) (st' := [.int i]) (h' := g) _ hn_285 hk_285_243 rfl ?_
    refine AW.bipushT hk_285_245 (by decide) (fun z285 ez285 => ?_)
    show AR _ _ _ _ _ _ _ 247 [(7, .int i), (6, .int v), (5, .ref b5), (4, .ref 183), (3, .ref 182), (2, .ref 181), (1, .ref 0), (0, .ref 1000000001)] [.int z285, .int i] g _ _
    refine AW.jge hk_285_247 (tgt := 335) (by decide) (fun p1 => ?_) (fun p2 => ?_)
    · obtain rfl : m = 64 := by omega
      refine AR.lessL (lv' := [(6, .int v), (5, .ref b5), (4, .ref 183), (3, .ref 182), (2, .ref 181), (1, .ref 0), (0, .ref 1000000001)]) (List.forall_mem_cons.mpr ⟨⟨_, by simp, ax_le_rfl rfl⟩, (List.forall_mem_cons.mpr ⟨⟨_, by simp, ax_le_rfl rfl⟩, (List.forall_mem_cons.mpr ⟨⟨_, by simp, ax_le_rfl rfl⟩, (List.forall_mem_cons.mpr ⟨⟨_, by simp, ax_le_rfl rfl⟩, (List.forall_mem_cons.mpr ⟨⟨_, by simp, ax_le_rfl rfl⟩, (List.forall_mem_cons.mpr ⟨⟨_, by simp, ax_le_rfl rfl⟩, (List.forall_mem_cons.mpr ⟨⟨_, by simp, ax_le_rfl rfl⟩, (fun _ h => absurd h List.not_mem_nil)⟩)⟩)⟩)⟩)⟩)⟩)⟩) ?_
      exact K g f v S hf hv
    · exact absurd p2 (by omega)
  | succ n ih =>
    intro m g i v f hn hi hv S hf
    show AR _ _ _ _ _ _ _ 243 [(7, .int i), (6, .int v), (5, .ref b5), (4, .ref 183), (3, .ref 182), (2, .ref 181), (1, .ref 0), (0, .ref 1000000001)] [] g _ _
    refine AR.s (pc' := 245) (lv' := [(7, .int i), (6, .int v), (5, .ref b5), (4, .ref 183), (3, .ref 182), (2, .ref 181), (1, .ref 0), (0, .ref 1000000001)]) (st' := [.int i]) (h' := g) _ hn_285 hk_285_243 rfl ?_
    refine AW.bipushT hk_285_245 (by decide) (fun z286 ez286 => ?_)
    show AR _ _ _ _ _ _ _ 247 [(7, .int i), (6, .int v), (5, .ref b5), (4, .ref 183), (3, .ref 182), (2, .ref 181), (1, .ref 0), (0, .ref 1000000001)] [.int z286, .int i] g _ _
    refine AW.jge hk_285_247 (tgt := 335) (by decide) (fun p1 => ?_) (fun p2 => ?_)
    · exact absurd p1 (by omega)
    · have nl := nm_le (FF L xs 4) m
      obtain ⟨I, A, e5, b0, b1⟩ := id S
      show AR _ _ _ _ _ _ _ 250 [(7, .int i), (6, .int v), (5, .ref b5), (4, .ref 183), (3, .ref 182), (2, .ref 181), (1, .ref 0), (0, .ref 1000000001)] [] g _ _
      refine AR.s (pc' := 252) (lv' := [(7, .int i), (6, .int v), (5, .ref b5), (4, .ref 183), (3, .ref 182), (2, .ref 181), (1, .ref 0), (0, .ref 1000000001)]) (st' := [.ref b5]) (h' := g) _ hn_285 hk_285_250 rfl ?_
      refine AR.s (pc' := 254) (lv' := [(7, .int i), (6, .int v), (5, .ref b5), (4, .ref 183), (3, .ref 182), (2, .ref 181), (1, .ref 0), (0, .ref 1000000001)]) (st' := [.int i, .ref b5]) (h' := g) _ hn_285 hk_285_252 rfl ?_
      refine AW.iconstT hk_285_254 (by decide) (fun z287 ez287 => ?_)
      show AR _ _ _ _ _ _ _ 255 [(7, .int i), (6, .int v), (5, .ref b5), (4, .ref 183), (3, .ref 182), (2, .ref 181), (1, .ref 0), (0, .ref 1000000001)] [.int z287, .int i, .ref b5] g _ _
      refine AW.zas hk_285_255 I.1 (by omega) b1 e5 (Or.inr rfl) hi (by omega) (by right; omega) (fun g1 H1 M1 B1 => ?_)
      show AR _ _ _ _ _ _ _ 256 [(7, .int i), (6, .int v), (5, .ref b5), (4, .ref 183), (3, .ref 182), (2, .ref 181), (1, .ref 0), (0, .ref 1000000001)] [] g1 _ _
      refine AW.iconstT hk_285_256 (by decide) (fun z288 ez288 => ?_)
      show AR _ _ _ _ _ _ _ 257 [(7, .int i), (6, .int v), (5, .ref b5), (4, .ref 183), (3, .ref 182), (2, .ref 181), (1, .ref 0), (0, .ref 1000000001)] [.int z288] g1 _ _
      refine AR.s (pc' := 259) (lv' := [(8, .int z288), (7, .int i), (6, .int v), (5, .ref b5), (4, .ref 183), (3, .ref 182), (2, .ref 181), (1, .ref 0), (0, .ref 1000000001)]) (st' := []) (h' := g1) _ hn_285 hk_285_257 rfl ?_
      refine AR.lessL (lv' := [(8, .int z288), (7, .int i), (6, .int v), (5, .ref b5), (4, .ref 183), (3, .ref 182), (2, .ref 181), (1, .ref 0), (0, .ref 1000000001)]) (List.forall_mem_cons.mpr ⟨⟨_, by simp, ax_le_rfl rfl⟩, (List.forall_mem_cons.mpr ⟨⟨_, by simp, ax_le_rfl rfl⟩, (List.forall_mem_cons.mpr ⟨⟨_, by simp, ax_le_rfl rfl⟩, (List.forall_mem_cons.mpr ⟨⟨_, by simp, ax_le_rfl rfl⟩, (List.forall_mem_cons.mpr ⟨⟨_, by simp, ax_le_rfl rfl⟩, (List.forall_mem_cons.mpr ⟨⟨_, by simp, ax_le_rfl rfl⟩, (List.forall_mem_cons.mpr ⟨⟨_, by simp, ax_le_rfl rfl⟩, (List.forall_mem_cons.mpr ⟨⟨_, by simp, ax_le_rfl rfl⟩, (List.forall_mem_cons.mpr ⟨⟨_, by simp, ax_le_rfl rfl⟩, (fun _ h => absurd h List.not_mem_nil)⟩)⟩)⟩)⟩)⟩)⟩)⟩)⟩)⟩) ?_
      refine l3i hlst hL hi (by omega) (fun g2 f2 S2 hf2 => ?_) 4 0 g1 _ _ rfl (by omega) (S.set H1 M1 B1) (fun k hk => by rw [if_neg (by omega)]; exact hf k hk) (by rw [if_pos rfl]; exact bi_of ez287)
      obtain ⟨-, -, f5, -, -⟩ := id S2
      show AR _ _ _ _ _ _ _ 311 [(7, .int i), (6, .int v), (5, .ref b5), (4, .ref 183), (3, .ref 182), (2, .ref 181), (1, .ref 0), (0, .ref 1000000001)] [] g2 _ _
      refine AR.s (pc' := 313) (lv' := [(7, .int i), (6, .int v), (5, .ref b5), (4, .ref 183), (3, .ref 182), (2, .ref 181), (1, .ref 0), (0, .ref 1000000001)]) (st' := [.int v]) (h' := g2) _ hn_285 hk_285_311 rfl ?_
      refine AR.s (pc' := 315) (lv' := [(7, .int i), (6, .int v), (5, .ref b5), (4, .ref 183), (3, .ref 182), (2, .ref 181), (1, .ref 0), (0, .ref 1000000001)]) (st' := [.ref b5, .int v]) (h' := g2) _ hn_285 hk_285_313 rfl ?_
      refine AR.s (pc' := 317) (lv' := [(7, .int i), (6, .int v), (5, .ref b5), (4, .ref 183), (3, .ref 182), (2, .ref 181), (1, .ref 0), (0, .ref 1000000001)]) (st' := [.int i, .ref b5, .int v]) (h' := g2) _ hn_285 hk_285_315 rfl ?_
      refine AW.za hk_285_317 b1 f5 hi (by omega) ?_
      rw [hf2 m (by omega)]
      have bb := bi_i (FF L xs 4 m)
      generalize bi (FF L xs 4 m) = yb at bb
      show AR _ _ _ _ _ _ _ 318 [(7, .int i), (6, .int v), (5, .ref b5), (4, .ref 183), (3, .ref 182), (2, .ref 181), (1, .ref 0), (0, .ref 1000000001)] [.int yb, .int v] g2 _ _
      refine AW.zeq hk_285_318 (tgt := 325) (by decide) (fun x1 => ?_) (fun x2 => ?_)
      · refine AW.iconstT hk_285_325 (by decide) (fun z289 ez289 => ?_)
        show AR _ _ _ _ _ _ _ 326 [(7, .int i), (6, .int v), (5, .ref b5), (4, .ref 183), (3, .ref 182), (2, .ref 181), (1, .ref 0), (0, .ref 1000000001)] [.int z289, .int v] g2 _ _
        refine AW.addT hk_285_326 (by omega) (by omega) (fun z290 ez290 => ?_)
        show AR _ _ _ _ _ _ _ 327 [(7, .int i), (6, .int v), (5, .ref b5), (4, .ref 183), (3, .ref 182), (2, .ref 181), (1, .ref 0), (0, .ref 1000000001)] [.int z290] g2 _ _
        refine AR.s (pc' := 329) (lv' := [(6, .int z290), (7, .int i), (5, .ref b5), (4, .ref 183), (3, .ref 182), (2, .ref 181), (1, .ref 0), (0, .ref 1000000001)]) (st' := []) (h' := g2) _ hn_285 hk_285_327 rfl ?_
        refine AW.iincT hk_285_329 (x := i) rfl (by rw [hn_285]; decide) (by decide) (by omega) (by omega) (fun z291 ez291 => ?_)
        show AR _ _ _ _ _ _ _ 332 [(7, .int z291), (6, .int z290), (5, .ref b5), (4, .ref 183), (3, .ref 182), (2, .ref 181), (1, .ref 0), (0, .ref 1000000001)] [] g2 _ _
        refine AW.gotoT hk_285_332 (tgt := 243) (by decide) ?_
        refine AR.lessL (lv' := [(7, .int z291), (6, .int z290), (5, .ref b5), (4, .ref 183), (3, .ref 182), (2, .ref 181), (1, .ref 0), (0, .ref 1000000001)]) (List.forall_mem_cons.mpr ⟨⟨_, by simp, ax_le_rfl rfl⟩, (List.forall_mem_cons.mpr ⟨⟨_, by simp, ax_le_rfl rfl⟩, (List.forall_mem_cons.mpr ⟨⟨_, by simp, ax_le_rfl rfl⟩, (List.forall_mem_cons.mpr ⟨⟨_, by simp, ax_le_rfl rfl⟩, (List.forall_mem_cons.mpr ⟨⟨_, by simp, ax_le_rfl rfl⟩, (List.forall_mem_cons.mpr ⟨⟨_, by simp, ax_le_rfl rfl⟩, (List.forall_mem_cons.mpr ⟨⟨_, by simp, ax_le_rfl rfl⟩, (List.forall_mem_cons.mpr ⟨⟨_, by simp, ax_le_rfl rfl⟩, (fun _ h => absurd h List.not_mem_nil)⟩)⟩)⟩)⟩)⟩)⟩)⟩)⟩) ?_
        refine ih (m + 1) g2 _ _ f2 (by omega) (by omega) ?_ S2 hf2
        show _ = ((nm (FF L xs 4) m + (if FF L xs 4 m then 1 else 0) : Nat) : Int)
        cases e : FF L xs 4 m <;> simp only [e, if_true, if_false, Bool.false_eq_true] at bb ⊢ <;> omega
      · refine AW.iconstT hk_285_321 (by decide) (fun z292 ez292 => ?_)
        show AR _ _ _ _ _ _ _ 322 [(7, .int i), (6, .int v), (5, .ref b5), (4, .ref 183), (3, .ref 182), (2, .ref 181), (1, .ref 0), (0, .ref 1000000001)] [.int z292, .int v] g2 _ _
        refine AW.gotoT hk_285_322 (tgt := 326) (by decide) ?_
        refine AW.addT hk_285_326 (by omega) (by omega) (fun z293 ez293 => ?_)
        show AR _ _ _ _ _ _ _ 327 [(7, .int i), (6, .int v), (5, .ref b5), (4, .ref 183), (3, .ref 182), (2, .ref 181), (1, .ref 0), (0, .ref 1000000001)] [.int z293] g2 _ _
        refine AR.s (pc' := 329) (lv' := [(6, .int z293), (7, .int i), (5, .ref b5), (4, .ref 183), (3, .ref 182), (2, .ref 181), (1, .ref 0), (0, .ref 1000000001)]) (st' := []) (h' := g2) _ hn_285 hk_285_327 rfl ?_
        refine AW.iincT hk_285_329 (x := i) rfl (by rw [hn_285]; decide) (by decide) (by omega) (by omega) (fun z294 ez294 => ?_)
        show AR _ _ _ _ _ _ _ 332 [(7, .int z294), (6, .int z293), (5, .ref b5), (4, .ref 183), (3, .ref 182), (2, .ref 181), (1, .ref 0), (0, .ref 1000000001)] [] g2 _ _
        refine AW.gotoT hk_285_332 (tgt := 243) (by decide) ?_
        refine AR.lessL (lv' := [(7, .int z294), (6, .int z293), (5, .ref b5), (4, .ref 183), (3, .ref 182), (2, .ref 181), (1, .ref 0), (0, .ref 1000000001)]) (List.forall_mem_cons.mpr ⟨⟨_, by simp, ax_le_rfl rfl⟩, (List.forall_mem_cons.mpr ⟨⟨_, by simp, ax_le_rfl rfl⟩, (List.forall_mem_cons.mpr ⟨⟨_, by simp, ax_le_rfl rfl⟩, (List.forall_mem_cons.mpr ⟨⟨_, by simp, ax_le_rfl rfl⟩, (List.forall_mem_cons.mpr ⟨⟨_, by simp, ax_le_rfl rfl⟩, (List.forall_mem_cons.mpr ⟨⟨_, by simp, ax_le_rfl rfl⟩, (List.forall_mem_cons.mpr ⟨⟨_, by simp, ax_le_rfl rfl⟩, (List.forall_mem_cons.mpr ⟨⟨_, by simp, ax_le_rfl rfl⟩, (fun _ h => absurd h List.not_mem_nil)⟩)⟩)⟩)⟩)⟩)⟩)⟩)⟩) ?_
        refine ih (m + 1) g2 _ _ f2 (by omega) (by omega) ?_ S2 hf2
        show _ = ((nm (FF L xs 4) m + (if FF L xs 4 m then 1 else 0) : Nat) : Int)
        cases e : FF L xs 4 m <;> simp only [e, if_true, if_false, Bool.false_eq_true] at bb ⊢ <;> omega
theorem l4 (hlst : l.stackTraces = false) {c d : Int32} (b1 : b5 < 1000000000) (e5 : g[b5]? = some (102, ar 64 f)) (hf : ∀ k, k < 64 → f k = bi (F k)) (K : ∀ u : Int32, u.toInt = (if im F (fun k => fu 0 d.toInt (fs c k 6)) 64 then 1 else 0) → AR ax_ns l (ax_mm 285) 8 (ax_r L xs) P X 424 [(9, .int u), (8, .int d), (7, .int c), (5, .ref b5), (4, .ref 183), (3, .ref 182), (2, .ref 181), (1, .ref 0), (0, .ref 1000000001)] [] g (bc) (bs)) : ∀ (n m : Nat) (i u : Int32), m + n = 64 → i.toInt = m → u.toInt = (if im F (fun k => fu 0 d.toInt (fs c k 6)) m then 1 else 0) → AR ax_ns l (ax_mm 285) 8 (ax_r L xs) P X 378 [(10, .int i), (9, .int u), (8, .int d), (7, .int c), (5, .ref b5), (4, .ref 183), (3, .ref 182), (2, .ref 181), (1, .ref 0), (0, .ref 1000000001)] [] g (bc) (bs) := by
  intro n
  induction n with
  | zero =>
    intro m i u hn hi hu
    show AR _ _ _ _ _ _ _ 378 [(10, .int i), (9, .int u), (8, .int d), (7, .int c), (5, .ref b5), (4, .ref 183), (3, .ref 182), (2, .ref 181), (1, .ref 0), (0, .ref 1000000001)] [] g _ _
    refine AR.s (pc' := 380) (lv' := [(10, .int i), (9, .int u), (8, .int d), (7, .int c), (5, .ref b5), (4, .ref 183), (3, .ref 182), (2, .ref 181), (1, .ref 0), (0, .ref 1000000001)]) (st' := [.int i]) (h' := g) _ hn_285 hk_285_378 rfl ?_
    refine AW.bipushT hk_285_380 (by decide) (fun z295 ez295 => ?_)
    show AR _ _ _ _ _ _ _ 382 [(10, .int i), (9, .int u), (8, .int d), (7, .int c), (5, .ref b5), (4, .ref 183), (3, .ref 182), (2, .ref 181), (1, .ref 0), (0, .ref 1000000001)] [.int z295, .int i] g _ _
    refine AW.jge hk_285_382 (tgt := 424) (by decide) (fun p1 => ?_) (fun p2 => ?_)
    · obtain rfl : m = 64 := by omega
      refine AR.lessL (lv' := [(9, .int u), (8, .int d), (7, .int c), (5, .ref b5), (4, .ref 183), (3, .ref 182), (2, .ref 181), (1, .ref 0), (0, .ref 1000000001)]) (List.forall_mem_cons.mpr ⟨⟨_, by simp, ax_le_rfl rfl⟩, (List.forall_mem_cons.mpr ⟨⟨_, by simp, ax_le_rfl rfl⟩, (List.forall_mem_cons.mpr ⟨⟨_, by simp, ax_le_rfl rfl⟩, (List.forall_mem_cons.mpr ⟨⟨_, by simp, ax_le_rfl rfl⟩, (List.forall_mem_cons.mpr ⟨⟨_, by simp, ax_le_rfl rfl⟩, (List.forall_mem_cons.mpr ⟨⟨_, by simp, ax_le_rfl rfl⟩, (List.forall_mem_cons.mpr ⟨⟨_, by simp, ax_le_rfl rfl⟩, (List.forall_mem_cons.mpr ⟨⟨_, by simp, ax_le_rfl rfl⟩, (List.forall_mem_cons.mpr ⟨⟨_, by simp, ax_le_rfl rfl⟩, (fun _ h => absurd h List.not_mem_nil)⟩)⟩)⟩)⟩)⟩)⟩)⟩)⟩)⟩) ?_
      exact K u hu
    · exact absurd p2 (by omega)
  | succ n ih =>
    intro m i u hn hi hu
    show AR _ _ _ _ _ _ _ 378 [(10, .int i), (9, .int u), (8, .int d), (7, .int c), (5, .ref b5), (4, .ref 183), (3, .ref 182), (2, .ref 181), (1, .ref 0), (0, .ref 1000000001)] [] g _ _
    refine AR.s (pc' := 380) (lv' := [(10, .int i), (9, .int u), (8, .int d), (7, .int c), (5, .ref b5), (4, .ref 183), (3, .ref 182), (2, .ref 181), (1, .ref 0), (0, .ref 1000000001)]) (st' := [.int i]) (h' := g) _ hn_285 hk_285_378 rfl ?_
    refine AW.bipushT hk_285_380 (by decide) (fun z296 ez296 => ?_)
    show AR _ _ _ _ _ _ _ 382 [(10, .int i), (9, .int u), (8, .int d), (7, .int c), (5, .ref b5), (4, .ref 183), (3, .ref 182), (2, .ref 181), (1, .ref 0), (0, .ref 1000000001)] [.int z296, .int i] g _ _
    refine AW.jge hk_285_382 (tgt := 424) (by decide) (fun p1 => ?_) (fun p2 => ?_)
    · exact absurd p1 (by omega)
    · have key : im F (fun k => fu 0 d.toInt (fs c k 6)) (m + 1) = (im F (fun k => fu 0 d.toInt (fs c k 6)) m && (!F m || fu 0 d.toInt (fs c m 6))) := rfl
      have u01 : u.toInt = 0 ∨ u.toInt = 1 := by rw [hu]; split; exact Or.inr rfl; exact Or.inl rfl
      show AR _ _ _ _ _ _ _ 385 [(10, .int i), (9, .int u), (8, .int d), (7, .int c), (5, .ref b5), (4, .ref 183), (3, .ref 182), (2, .ref 181), (1, .ref 0), (0, .ref 1000000001)] [] g _ _
      refine AR.s (pc' := 387) (lv' := [(10, .int i), (9, .int u), (8, .int d), (7, .int c), (5, .ref b5), (4, .ref 183), (3, .ref 182), (2, .ref 181), (1, .ref 0), (0, .ref 1000000001)]) (st' := [.int u]) (h' := g) _ hn_285 hk_285_385 rfl ?_
      refine AW.zeq hk_285_387 (tgt := 415) (by decide) (fun x1 => ?_) (fun x2 => ?_)
      · have eI : im F (fun k => fu 0 d.toInt (fs c k 6)) m = false := by cases e : im F (fun k => fu 0 d.toInt (fs c k 6)) m; rfl; rw [e, if_pos rfl] at hu; omega
        refine AW.iconstT hk_285_415 (by decide) (fun z297 ez297 => ?_)
        show AR _ _ _ _ _ _ _ 416 [(10, .int i), (9, .int u), (8, .int d), (7, .int c), (5, .ref b5), (4, .ref 183), (3, .ref 182), (2, .ref 181), (1, .ref 0), (0, .ref 1000000001)] [.int z297] g _ _
        refine AR.s (pc' := 418) (lv' := [(9, .int z297), (10, .int i), (8, .int d), (7, .int c), (5, .ref b5), (4, .ref 183), (3, .ref 182), (2, .ref 181), (1, .ref 0), (0, .ref 1000000001)]) (st' := []) (h' := g) _ hn_285 hk_285_416 rfl ?_
        refine AW.iincT hk_285_418 (x := i) rfl (by rw [hn_285]; decide) (by decide) (by omega) (by omega) (fun z298 ez298 => ?_)
        show AR _ _ _ _ _ _ _ 421 [(10, .int z298), (9, .int z297), (8, .int d), (7, .int c), (5, .ref b5), (4, .ref 183), (3, .ref 182), (2, .ref 181), (1, .ref 0), (0, .ref 1000000001)] [] g _ _
        refine AW.gotoT hk_285_421 (tgt := 378) (by decide) ?_
        refine AR.lessL (lv' := [(10, .int z298), (9, .int z297), (8, .int d), (7, .int c), (5, .ref b5), (4, .ref 183), (3, .ref 182), (2, .ref 181), (1, .ref 0), (0, .ref 1000000001)]) (List.forall_mem_cons.mpr ⟨⟨_, by simp, ax_le_rfl rfl⟩, (List.forall_mem_cons.mpr ⟨⟨_, by simp, ax_le_rfl rfl⟩, (List.forall_mem_cons.mpr ⟨⟨_, by simp, ax_le_rfl rfl⟩, (List.forall_mem_cons.mpr ⟨⟨_, by simp, ax_le_rfl rfl⟩, (List.forall_mem_cons.mpr ⟨⟨_, by simp, ax_le_rfl rfl⟩, (List.forall_mem_cons.mpr ⟨⟨_, by simp, ax_le_rfl rfl⟩, (List.forall_mem_cons.mpr ⟨⟨_, by simp, ax_le_rfl rfl⟩, (List.forall_mem_cons.mpr ⟨⟨_, by simp, ax_le_rfl rfl⟩, (List.forall_mem_cons.mpr ⟨⟨_, by simp, ax_le_rfl rfl⟩, (List.forall_mem_cons.mpr ⟨⟨_, by simp, ax_le_rfl rfl⟩, (fun _ h => absurd h List.not_mem_nil)⟩)⟩)⟩)⟩)⟩)⟩)⟩)⟩)⟩)⟩) ?_
        refine ih (m + 1) _ _ (by omega) (by omega) ?_
        rw [key, eI, Bool.false_and, if_neg (by decide)]
        omega
      · have eI : im F (fun k => fu 0 d.toInt (fs c k 6)) m = true := by cases e : im F (fun k => fu 0 d.toInt (fs c k 6)) m; rw [e, if_neg (by decide)] at hu; omega; rfl
        show AR _ _ _ _ _ _ _ 390 [(10, .int i), (9, .int u), (8, .int d), (7, .int c), (5, .ref b5), (4, .ref 183), (3, .ref 182), (2, .ref 181), (1, .ref 0), (0, .ref 1000000001)] [] g _ _
        refine AR.s (pc' := 392) (lv' := [(10, .int i), (9, .int u), (8, .int d), (7, .int c), (5, .ref b5), (4, .ref 183), (3, .ref 182), (2, .ref 181), (1, .ref 0), (0, .ref 1000000001)]) (st' := [.ref b5]) (h' := g) _ hn_285 hk_285_390 rfl ?_
        refine AR.s (pc' := 394) (lv' := [(10, .int i), (9, .int u), (8, .int d), (7, .int c), (5, .ref b5), (4, .ref 183), (3, .ref 182), (2, .ref 181), (1, .ref 0), (0, .ref 1000000001)]) (st' := [.int i, .ref b5]) (h' := g) _ hn_285 hk_285_392 rfl ?_
        refine AW.za hk_285_394 b1 e5 hi (by omega) ?_
        rw [hf m (by omega)]
        have bb := bi_i (F m)
        generalize bi (F m) = yb at bb
        show AR _ _ _ _ _ _ _ 395 [(10, .int i), (9, .int u), (8, .int d), (7, .int c), (5, .ref b5), (4, .ref 183), (3, .ref 182), (2, .ref 181), (1, .ref 0), (0, .ref 1000000001)] [.int yb] g _ _
        refine AW.zeq hk_285_395 (tgt := 411) (by decide) (fun y1 => ?_) (fun y2 => ?_)
        · have eF : F m = false := by cases e : F m; rfl; rw [e, if_pos rfl] at bb; omega
          refine AW.iconstT hk_285_411 (by decide) (fun z299 ez299 => ?_)
          show AR _ _ _ _ _ _ _ 412 [(10, .int i), (9, .int u), (8, .int d), (7, .int c), (5, .ref b5), (4, .ref 183), (3, .ref 182), (2, .ref 181), (1, .ref 0), (0, .ref 1000000001)] [.int z299] g _ _
          refine AW.gotoT hk_285_412 (tgt := 416) (by decide) ?_
          refine AR.s (pc' := 418) (lv' := [(9, .int z299), (10, .int i), (8, .int d), (7, .int c), (5, .ref b5), (4, .ref 183), (3, .ref 182), (2, .ref 181), (1, .ref 0), (0, .ref 1000000001)]) (st' := []) (h' := g) _ hn_285 hk_285_416 rfl ?_
          refine AW.iincT hk_285_418 (x := i) rfl (by rw [hn_285]; decide) (by decide) (by omega) (by omega) (fun z300 ez300 => ?_)
          show AR _ _ _ _ _ _ _ 421 [(10, .int z300), (9, .int z299), (8, .int d), (7, .int c), (5, .ref b5), (4, .ref 183), (3, .ref 182), (2, .ref 181), (1, .ref 0), (0, .ref 1000000001)] [] g _ _
          refine AW.gotoT hk_285_421 (tgt := 378) (by decide) ?_
          refine AR.lessL (lv' := [(10, .int z300), (9, .int z299), (8, .int d), (7, .int c), (5, .ref b5), (4, .ref 183), (3, .ref 182), (2, .ref 181), (1, .ref 0), (0, .ref 1000000001)]) (List.forall_mem_cons.mpr ⟨⟨_, by simp, ax_le_rfl rfl⟩, (List.forall_mem_cons.mpr ⟨⟨_, by simp, ax_le_rfl rfl⟩, (List.forall_mem_cons.mpr ⟨⟨_, by simp, ax_le_rfl rfl⟩, (List.forall_mem_cons.mpr ⟨⟨_, by simp, ax_le_rfl rfl⟩, (List.forall_mem_cons.mpr ⟨⟨_, by simp, ax_le_rfl rfl⟩, (List.forall_mem_cons.mpr ⟨⟨_, by simp, ax_le_rfl rfl⟩, (List.forall_mem_cons.mpr ⟨⟨_, by simp, ax_le_rfl rfl⟩, (List.forall_mem_cons.mpr ⟨⟨_, by simp, ax_le_rfl rfl⟩, (List.forall_mem_cons.mpr ⟨⟨_, by simp, ax_le_rfl rfl⟩, (List.forall_mem_cons.mpr ⟨⟨_, by simp, ax_le_rfl rfl⟩, (fun _ h => absurd h List.not_mem_nil)⟩)⟩)⟩)⟩)⟩)⟩)⟩)⟩)⟩)⟩) ?_
          refine ih (m + 1) _ _ (by omega) (by omega) ?_
          rw [key, eI, eF, show (true && (!false || fu 0 d.toInt (fs c m 6))) = true from rfl, if_pos rfl]
          omega
        · have eF : F m = true := by cases e : F m; rw [e, if_neg (by decide)] at bb; omega; rfl
          show AR _ _ _ _ _ _ _ 398 [(10, .int i), (9, .int u), (8, .int d), (7, .int c), (5, .ref b5), (4, .ref 183), (3, .ref 182), (2, .ref 181), (1, .ref 0), (0, .ref 1000000001)] [] g _ _
          refine AR.s (pc' := 400) (lv' := [(10, .int i), (9, .int u), (8, .int d), (7, .int c), (5, .ref b5), (4, .ref 183), (3, .ref 182), (2, .ref 181), (1, .ref 0), (0, .ref 1000000001)]) (st' := [.int c]) (h' := g) _ hn_285 hk_285_398 rfl ?_
          refine AW.iconstT hk_285_400 (by decide) (fun z301 ez301 => ?_)
          show AR _ _ _ _ _ _ _ 401 [(10, .int i), (9, .int u), (8, .int d), (7, .int c), (5, .ref b5), (4, .ref 183), (3, .ref 182), (2, .ref 181), (1, .ref 0), (0, .ref 1000000001)] [.int z301, .int c] g _ _
          refine AR.s (pc' := 403) (lv' := [(10, .int i), (9, .int u), (8, .int d), (7, .int c), (5, .ref b5), (4, .ref 183), (3, .ref 182), (2, .ref 181), (1, .ref 0), (0, .ref 1000000001)]) (st' := [.int d, .int z301, .int c]) (h' := g) _ hn_285 hk_285_401 rfl ?_
          refine AR.s (pc' := 405) (lv' := [(10, .int i), (9, .int u), (8, .int d), (7, .int c), (5, .ref b5), (4, .ref 183), (3, .ref 182), (2, .ref 181), (1, .ref 0), (0, .ref 1000000001)]) (st' := [.int i, .int d, .int z301, .int c]) (h' := g) _ hn_285 hk_285_403 rfl ?_
          refine AW.cs (as := [.int c, .int z301, .int d, .int i]) (rest := []) hk_285_405 (by decide +kernel) rfl rfl (Nat.le_of_ble_eq_true rfl) (AW.W (t_138 hlst (M := m) hi (by omega) (by omega))) (by decide) (Nat.zero_le _) (Nat.zero_le _) (fun E h' q => by obtain ⟨-, x, e, -⟩ := q; cases e) ?_
          rintro w302 g303 ⟨eg303, z304, e, ez304⟩
          cases e
          obtain rfl := eg303.symm
          show AR _ _ _ _ _ _ _ 408 [(10, .int i), (9, .int u), (8, .int d), (7, .int c), (5, .ref b5), (4, .ref 183), (3, .ref 182), (2, .ref 181), (1, .ref 0), (0, .ref 1000000001)] [.int z304] g _ _
          rw [ez301] at ez304
          show AR _ _ _ _ _ _ _ 408 [(10, .int i), (9, .int u), (8, .int d), (7, .int c), (5, .ref b5), (4, .ref 183), (3, .ref 182), (2, .ref 181), (1, .ref 0), (0, .ref 1000000001)] [.int z304] g _ _
          refine AW.zeq hk_285_408 (tgt := 415) (by decide) (fun q1 => ?_) (fun q2 => ?_)
          · have eG : fu 0 d.toInt (fs c m 6) = false := by cases e : fu 0 d.toInt (fs c m 6); rfl; rw [e, if_pos rfl] at ez304; omega
            refine AW.iconstT hk_285_415 (by decide) (fun z305 ez305 => ?_)
            show AR _ _ _ _ _ _ _ 416 [(10, .int i), (9, .int u), (8, .int d), (7, .int c), (5, .ref b5), (4, .ref 183), (3, .ref 182), (2, .ref 181), (1, .ref 0), (0, .ref 1000000001)] [.int z305] g _ _
            refine AR.s (pc' := 418) (lv' := [(9, .int z305), (10, .int i), (8, .int d), (7, .int c), (5, .ref b5), (4, .ref 183), (3, .ref 182), (2, .ref 181), (1, .ref 0), (0, .ref 1000000001)]) (st' := []) (h' := g) _ hn_285 hk_285_416 rfl ?_
            refine AW.iincT hk_285_418 (x := i) rfl (by rw [hn_285]; decide) (by decide) (by omega) (by omega) (fun z306 ez306 => ?_)
            show AR _ _ _ _ _ _ _ 421 [(10, .int z306), (9, .int z305), (8, .int d), (7, .int c), (5, .ref b5), (4, .ref 183), (3, .ref 182), (2, .ref 181), (1, .ref 0), (0, .ref 1000000001)] [] g _ _
            refine AW.gotoT hk_285_421 (tgt := 378) (by decide) ?_
            refine AR.lessL (lv' := [(10, .int z306), (9, .int z305), (8, .int d), (7, .int c), (5, .ref b5), (4, .ref 183), (3, .ref 182), (2, .ref 181), (1, .ref 0), (0, .ref 1000000001)]) (List.forall_mem_cons.mpr ⟨⟨_, by simp, ax_le_rfl rfl⟩, (List.forall_mem_cons.mpr ⟨⟨_, by simp, ax_le_rfl rfl⟩, (List.forall_mem_cons.mpr ⟨⟨_, by simp, ax_le_rfl rfl⟩, (List.forall_mem_cons.mpr ⟨⟨_, by simp, ax_le_rfl rfl⟩, (List.forall_mem_cons.mpr ⟨⟨_, by simp, ax_le_rfl rfl⟩, (List.forall_mem_cons.mpr ⟨⟨_, by simp, ax_le_rfl rfl⟩, (List.forall_mem_cons.mpr ⟨⟨_, by simp, ax_le_rfl rfl⟩, (List.forall_mem_cons.mpr ⟨⟨_, by simp, ax_le_rfl rfl⟩, (List.forall_mem_cons.mpr ⟨⟨_, by simp, ax_le_rfl rfl⟩, (List.forall_mem_cons.mpr ⟨⟨_, by simp, ax_le_rfl rfl⟩, (fun _ h => absurd h List.not_mem_nil)⟩)⟩)⟩)⟩)⟩)⟩)⟩)⟩)⟩)⟩) ?_
            refine ih (m + 1) _ _ (by omega) (by omega) ?_
            rw [key, eI, eF, eG, show (true && (!true || false)) = false from rfl, if_neg (by decide)]
            omega
          · have eG : fu 0 d.toInt (fs c m 6) = true := by cases e : fu 0 d.toInt (fs c m 6); rw [e, if_neg (by decide)] at ez304; omega; rfl
            refine AW.iconstT hk_285_411 (by decide) (fun z307 ez307 => ?_)
            show AR _ _ _ _ _ _ _ 412 [(10, .int i), (9, .int u), (8, .int d), (7, .int c), (5, .ref b5), (4, .ref 183), (3, .ref 182), (2, .ref 181), (1, .ref 0), (0, .ref 1000000001)] [.int z307] g _ _
            refine AW.gotoT hk_285_412 (tgt := 416) (by decide) ?_
            refine AR.s (pc' := 418) (lv' := [(9, .int z307), (10, .int i), (8, .int d), (7, .int c), (5, .ref b5), (4, .ref 183), (3, .ref 182), (2, .ref 181), (1, .ref 0), (0, .ref 1000000001)]) (st' := []) (h' := g) _ hn_285 hk_285_416 rfl ?_
            refine AW.iincT hk_285_418 (x := i) rfl (by rw [hn_285]; decide) (by decide) (by omega) (by omega) (fun z308 ez308 => ?_)
            show AR _ _ _ _ _ _ _ 421 [(10, .int z308), (9, .int z307), (8, .int d), (7, .int c), (5, .ref b5), (4, .ref 183), (3, .ref 182), (2, .ref 181), (1, .ref 0), (0, .ref 1000000001)] [] g _ _
            refine AW.gotoT hk_285_421 (tgt := 378) (by decide) ?_
            refine AR.lessL (lv' := [(10, .int z308), (9, .int z307), (8, .int d), (7, .int c), (5, .ref b5), (4, .ref 183), (3, .ref 182), (2, .ref 181), (1, .ref 0), (0, .ref 1000000001)]) (List.forall_mem_cons.mpr ⟨⟨_, by simp, ax_le_rfl rfl⟩, (List.forall_mem_cons.mpr ⟨⟨_, by simp, ax_le_rfl rfl⟩, (List.forall_mem_cons.mpr ⟨⟨_, by simp, ax_le_rfl rfl⟩, (List.forall_mem_cons.mpr ⟨⟨_, by simp, ax_le_rfl rfl⟩, (List.forall_mem_cons.mpr ⟨⟨_, by simp, ax_le_rfl rfl⟩, (List.forall_mem_cons.mpr ⟨⟨_, by simp, ax_le_rfl rfl⟩, (List.forall_mem_cons.mpr ⟨⟨_, by simp, ax_le_rfl rfl⟩, (List.forall_mem_cons.mpr ⟨⟨_, by simp, ax_le_rfl rfl⟩, (List.forall_mem_cons.mpr ⟨⟨_, by simp, ax_le_rfl rfl⟩, (List.forall_mem_cons.mpr ⟨⟨_, by simp, ax_le_rfl rfl⟩, (fun _ h => absurd h List.not_mem_nil)⟩)⟩)⟩)⟩)⟩)⟩)⟩)⟩)⟩)⟩) ?_
            refine ih (m + 1) _ _ (by omega) (by omega) ?_
            rw [key, eI, eF, eG, show (true && (!true || true)) = true from rfl, if_pos rfl]
            omega
theorem l5 (hlst : l.stackTraces = false) {x y : Int32} {Y N : Nat} (hx : x.toInt = Y) (hY : Y < 64) (hy : y.toInt = N) (hN : N < 64) (b1 : b5 < 1000000000) (e5 : g[b5]? = some (102, ar 64 f)) (hf : ∀ k, k < 64 → f k = bi (F k)) (K : ∀ u : Int32, u.toInt = (if ex F (ma Y N 6) 64 then 1 else 0) → AR ax_ns l (ax_mm 285) 8 (ax_r L xs) P X 544 [(13, .int u), (12, .int y), (11, .int x), (5, .ref b5), (4, .ref 183), (3, .ref 182), (2, .ref 181), (1, .ref 0), (0, .ref 1000000001)] [] g (bc) (bs)) : ∀ (n m : Nat) (i u : Int32), m + n = 64 → i.toInt = m → u.toInt = (if ex F (ma Y N 6) m then 1 else 0) → AR ax_ns l (ax_mm 285) 8 (ax_r L xs) P X 493 [(14, .int i), (13, .int u), (12, .int y), (11, .int x), (5, .ref b5), (4, .ref 183), (3, .ref 182), (2, .ref 181), (1, .ref 0), (0, .ref 1000000001)] [] g (bc) (bs) := by
  intro n
  induction n with
  | zero =>
    intro m i u hn hi hu
    show AR _ _ _ _ _ _ _ 493 [(14, .int i), (13, .int u), (12, .int y), (11, .int x), (5, .ref b5), (4, .ref 183), (3, .ref 182), (2, .ref 181), (1, .ref 0), (0, .ref 1000000001)] [] g _ _
    refine AR.s (pc' := 495) (lv' := [(14, .int i), (13, .int u), (12, .int y), (11, .int x), (5, .ref b5), (4, .ref 183), (3, .ref 182), (2, .ref 181), (1, .ref 0), (0, .ref 1000000001)]) (st' := [.int i]) (h' := g) _ hn_285 hk_285_493 rfl ?_
    refine AW.bipushT hk_285_495 (by decide) (fun z309 ez309 => ?_)
    show AR _ _ _ _ _ _ _ 497 [(14, .int i), (13, .int u), (12, .int y), (11, .int x), (5, .ref b5), (4, .ref 183), (3, .ref 182), (2, .ref 181), (1, .ref 0), (0, .ref 1000000001)] [.int z309, .int i] g _ _
    refine AW.jge hk_285_497 (tgt := 544) (by decide) (fun p1 => ?_) (fun p2 => ?_)
    · obtain rfl : m = 64 := by omega
      refine AR.lessL (lv' := [(13, .int u), (12, .int y), (11, .int x), (5, .ref b5), (4, .ref 183), (3, .ref 182), (2, .ref 181), (1, .ref 0), (0, .ref 1000000001)]) (List.forall_mem_cons.mpr ⟨⟨_, by simp, ax_le_rfl rfl⟩, (List.forall_mem_cons.mpr ⟨⟨_, by simp, ax_le_rfl rfl⟩, (List.forall_mem_cons.mpr ⟨⟨_, by simp, ax_le_rfl rfl⟩, (List.forall_mem_cons.mpr ⟨⟨_, by simp, ax_le_rfl rfl⟩, (List.forall_mem_cons.mpr ⟨⟨_, by simp, ax_le_rfl rfl⟩, (List.forall_mem_cons.mpr ⟨⟨_, by simp, ax_le_rfl rfl⟩, (List.forall_mem_cons.mpr ⟨⟨_, by simp, ax_le_rfl rfl⟩, (List.forall_mem_cons.mpr ⟨⟨_, by simp, ax_le_rfl rfl⟩, (List.forall_mem_cons.mpr ⟨⟨_, by simp, ax_le_rfl rfl⟩, (fun _ h => absurd h List.not_mem_nil)⟩)⟩)⟩)⟩)⟩)⟩)⟩)⟩)⟩) ?_
      exact K u hu
    · exact absurd p2 (by omega)
  | succ n ih =>
    intro m i u hn hi hu
    show AR _ _ _ _ _ _ _ 493 [(14, .int i), (13, .int u), (12, .int y), (11, .int x), (5, .ref b5), (4, .ref 183), (3, .ref 182), (2, .ref 181), (1, .ref 0), (0, .ref 1000000001)] [] g _ _
    refine AR.s (pc' := 495) (lv' := [(14, .int i), (13, .int u), (12, .int y), (11, .int x), (5, .ref b5), (4, .ref 183), (3, .ref 182), (2, .ref 181), (1, .ref 0), (0, .ref 1000000001)]) (st' := [.int i]) (h' := g) _ hn_285 hk_285_493 rfl ?_
    refine AW.bipushT hk_285_495 (by decide) (fun z310 ez310 => ?_)
    show AR _ _ _ _ _ _ _ 497 [(14, .int i), (13, .int u), (12, .int y), (11, .int x), (5, .ref b5), (4, .ref 183), (3, .ref 182), (2, .ref 181), (1, .ref 0), (0, .ref 1000000001)] [.int z310, .int i] g _ _
    refine AW.jge hk_285_497 (tgt := 544) (by decide) (fun p1 => ?_) (fun p2 => ?_)
    · exact absurd p1 (by omega)
    · have key : ex F (ma Y N 6) (m + 1) = (ex F (ma Y N 6) m || (F m && ma Y N 6 m)) := rfl
      have hma := ma_and hY hN (k := m) (by omega)
      have aY := (p_an hi (by omega) hx hY).1
      have aN := (p_an hi (by omega) hy hN).1
      show AR _ _ _ _ _ _ _ 500 [(14, .int i), (13, .int u), (12, .int y), (11, .int x), (5, .ref b5), (4, .ref 183), (3, .ref 182), (2, .ref 181), (1, .ref 0), (0, .ref 1000000001)] [] g _ _
      refine AR.s (pc' := 502) (lv' := [(14, .int i), (13, .int u), (12, .int y), (11, .int x), (5, .ref b5), (4, .ref 183), (3, .ref 182), (2, .ref 181), (1, .ref 0), (0, .ref 1000000001)]) (st' := [.int u]) (h' := g) _ hn_285 hk_285_500 rfl ?_
      refine AW.zne hk_285_502 (tgt := 531) (by decide) (fun x1 => ?_) (fun x2 => ?_)
      · have eI : ex F (ma Y N 6) m = true := by cases e : ex F (ma Y N 6) m; rw [e, if_neg (by decide)] at hu; omega; rfl
        refine AW.iconstT hk_285_531 (by decide) (fun z311 ez311 => ?_)
        show AR _ _ _ _ _ _ _ 532 [(14, .int i), (13, .int u), (12, .int y), (11, .int x), (5, .ref b5), (4, .ref 183), (3, .ref 182), (2, .ref 181), (1, .ref 0), (0, .ref 1000000001)] [.int z311] g _ _
        refine AW.gotoT hk_285_532 (tgt := 536) (by decide) ?_
        refine AR.s (pc' := 538) (lv' := [(13, .int z311), (14, .int i), (12, .int y), (11, .int x), (5, .ref b5), (4, .ref 183), (3, .ref 182), (2, .ref 181), (1, .ref 0), (0, .ref 1000000001)]) (st' := []) (h' := g) _ hn_285 hk_285_536 rfl ?_
        refine AW.iincT hk_285_538 (x := i) rfl (by rw [hn_285]; decide) (by decide) (by omega) (by omega) (fun z312 ez312 => ?_)
        show AR _ _ _ _ _ _ _ 541 [(14, .int z312), (13, .int z311), (12, .int y), (11, .int x), (5, .ref b5), (4, .ref 183), (3, .ref 182), (2, .ref 181), (1, .ref 0), (0, .ref 1000000001)] [] g _ _
        refine AW.gotoT hk_285_541 (tgt := 493) (by decide) ?_
        refine AR.lessL (lv' := [(14, .int z312), (13, .int z311), (12, .int y), (11, .int x), (5, .ref b5), (4, .ref 183), (3, .ref 182), (2, .ref 181), (1, .ref 0), (0, .ref 1000000001)]) (List.forall_mem_cons.mpr ⟨⟨_, by simp, ax_le_rfl rfl⟩, (List.forall_mem_cons.mpr ⟨⟨_, by simp, ax_le_rfl rfl⟩, (List.forall_mem_cons.mpr ⟨⟨_, by simp, ax_le_rfl rfl⟩, (List.forall_mem_cons.mpr ⟨⟨_, by simp, ax_le_rfl rfl⟩, (List.forall_mem_cons.mpr ⟨⟨_, by simp, ax_le_rfl rfl⟩, (List.forall_mem_cons.mpr ⟨⟨_, by simp, ax_le_rfl rfl⟩, (List.forall_mem_cons.mpr ⟨⟨_, by simp, ax_le_rfl rfl⟩, (List.forall_mem_cons.mpr ⟨⟨_, by simp, ax_le_rfl rfl⟩, (List.forall_mem_cons.mpr ⟨⟨_, by simp, ax_le_rfl rfl⟩, (List.forall_mem_cons.mpr ⟨⟨_, by simp, ax_le_rfl rfl⟩, (fun _ h => absurd h List.not_mem_nil)⟩)⟩)⟩)⟩)⟩)⟩)⟩)⟩)⟩)⟩) ?_
        refine ih (m + 1) _ _ (by omega) (by omega) ?_
        rw [key, eI, Bool.true_or, if_pos rfl]
        omega
      · have eI : ex F (ma Y N 6) m = false := by cases e : ex F (ma Y N 6) m; rfl; rw [e, if_pos rfl] at hu; omega
        show AR _ _ _ _ _ _ _ 505 [(14, .int i), (13, .int u), (12, .int y), (11, .int x), (5, .ref b5), (4, .ref 183), (3, .ref 182), (2, .ref 181), (1, .ref 0), (0, .ref 1000000001)] [] g _ _
        refine AR.s (pc' := 507) (lv' := [(14, .int i), (13, .int u), (12, .int y), (11, .int x), (5, .ref b5), (4, .ref 183), (3, .ref 182), (2, .ref 181), (1, .ref 0), (0, .ref 1000000001)]) (st' := [.ref b5]) (h' := g) _ hn_285 hk_285_505 rfl ?_
        refine AR.s (pc' := 509) (lv' := [(14, .int i), (13, .int u), (12, .int y), (11, .int x), (5, .ref b5), (4, .ref 183), (3, .ref 182), (2, .ref 181), (1, .ref 0), (0, .ref 1000000001)]) (st' := [.int i, .ref b5]) (h' := g) _ hn_285 hk_285_507 rfl ?_
        refine AW.za hk_285_509 b1 e5 hi (by omega) ?_
        rw [hf m (by omega)]
        have bb := bi_i (F m)
        generalize bi (F m) = yb at bb
        show AR _ _ _ _ _ _ _ 510 [(14, .int i), (13, .int u), (12, .int y), (11, .int x), (5, .ref b5), (4, .ref 183), (3, .ref 182), (2, .ref 181), (1, .ref 0), (0, .ref 1000000001)] [.int yb] g _ _
        refine AW.zeq hk_285_510 (tgt := 535) (by decide) (fun y1 => ?_) (fun y2 => ?_)
        · have eF : F m = false := by cases e : F m; rfl; rw [e, if_pos rfl] at bb; omega
          refine AW.iconstT hk_285_535 (by decide) (fun z313 ez313 => ?_)
          show AR _ _ _ _ _ _ _ 536 [(14, .int i), (13, .int u), (12, .int y), (11, .int x), (5, .ref b5), (4, .ref 183), (3, .ref 182), (2, .ref 181), (1, .ref 0), (0, .ref 1000000001)] [.int z313] g _ _
          refine AR.s (pc' := 538) (lv' := [(13, .int z313), (14, .int i), (12, .int y), (11, .int x), (5, .ref b5), (4, .ref 183), (3, .ref 182), (2, .ref 181), (1, .ref 0), (0, .ref 1000000001)]) (st' := []) (h' := g) _ hn_285 hk_285_536 rfl ?_
          refine AW.iincT hk_285_538 (x := i) rfl (by rw [hn_285]; decide) (by decide) (by omega) (by omega) (fun z314 ez314 => ?_)
          show AR _ _ _ _ _ _ _ 541 [(14, .int z314), (13, .int z313), (12, .int y), (11, .int x), (5, .ref b5), (4, .ref 183), (3, .ref 182), (2, .ref 181), (1, .ref 0), (0, .ref 1000000001)] [] g _ _
          refine AW.gotoT hk_285_541 (tgt := 493) (by decide) ?_
          refine AR.lessL (lv' := [(14, .int z314), (13, .int z313), (12, .int y), (11, .int x), (5, .ref b5), (4, .ref 183), (3, .ref 182), (2, .ref 181), (1, .ref 0), (0, .ref 1000000001)]) (List.forall_mem_cons.mpr ⟨⟨_, by simp, ax_le_rfl rfl⟩, (List.forall_mem_cons.mpr ⟨⟨_, by simp, ax_le_rfl rfl⟩, (List.forall_mem_cons.mpr ⟨⟨_, by simp, ax_le_rfl rfl⟩, (List.forall_mem_cons.mpr ⟨⟨_, by simp, ax_le_rfl rfl⟩, (List.forall_mem_cons.mpr ⟨⟨_, by simp, ax_le_rfl rfl⟩, (List.forall_mem_cons.mpr ⟨⟨_, by simp, ax_le_rfl rfl⟩, (List.forall_mem_cons.mpr ⟨⟨_, by simp, ax_le_rfl rfl⟩, (List.forall_mem_cons.mpr ⟨⟨_, by simp, ax_le_rfl rfl⟩, (List.forall_mem_cons.mpr ⟨⟨_, by simp, ax_le_rfl rfl⟩, (List.forall_mem_cons.mpr ⟨⟨_, by simp, ax_le_rfl rfl⟩, (fun _ h => absurd h List.not_mem_nil)⟩)⟩)⟩)⟩)⟩)⟩)⟩)⟩)⟩)⟩) ?_
          refine ih (m + 1) _ _ (by omega) (by omega) ?_
          rw [key, eI, eF, Bool.false_and, Bool.or_false, if_neg (by decide)]
          omega
        · have eF : F m = true := by cases e : F m; rw [e, if_neg (by decide)] at bb; omega; rfl
          show AR _ _ _ _ _ _ _ 513 [(14, .int i), (13, .int u), (12, .int y), (11, .int x), (5, .ref b5), (4, .ref 183), (3, .ref 182), (2, .ref 181), (1, .ref 0), (0, .ref 1000000001)] [] g _ _
          refine AR.s (pc' := 515) (lv' := [(14, .int i), (13, .int u), (12, .int y), (11, .int x), (5, .ref b5), (4, .ref 183), (3, .ref 182), (2, .ref 181), (1, .ref 0), (0, .ref 1000000001)]) (st' := [.int i]) (h' := g) _ hn_285 hk_285_513 rfl ?_
          refine AR.s (pc' := 517) (lv' := [(14, .int i), (13, .int u), (12, .int y), (11, .int x), (5, .ref b5), (4, .ref 183), (3, .ref 182), (2, .ref 181), (1, .ref 0), (0, .ref 1000000001)]) (st' := [.int x, .int i]) (h' := g) _ hn_285 hk_285_515 rfl ?_
          refine AR.iand (z := .int (i &&& x)) (ax_look_ok hk_285_517).1 rfl ?_
          generalize gz315 : i &&& x = z315
          show AR _ _ _ _ _ _ _ 518 [(14, .int i), (13, .int u), (12, .int y), (11, .int x), (5, .ref b5), (4, .ref 183), (3, .ref 182), (2, .ref 181), (1, .ref 0), (0, .ref 1000000001)] [.int z315] g _ _
          rw [gz315] at aY
          show AR _ _ _ _ _ _ _ 518 [(14, .int i), (13, .int u), (12, .int y), (11, .int x), (5, .ref b5), (4, .ref 183), (3, .ref 182), (2, .ref 181), (1, .ref 0), (0, .ref 1000000001)] [.int z315] g _ _
          refine AR.s (pc' := 520) (lv' := [(14, .int i), (13, .int u), (12, .int y), (11, .int x), (5, .ref b5), (4, .ref 183), (3, .ref 182), (2, .ref 181), (1, .ref 0), (0, .ref 1000000001)]) (st' := [.int x, .int z315]) (h' := g) _ hn_285 hk_285_518 rfl ?_
          refine AW.jne hk_285_520 (tgt := 535) (by decide) (fun q1 => ?_) (fun q2 => ?_)
          · have eM : ma Y N 6 m = false := by rw [hma, decide_eq_false (fun e => q1 (by rw [aY, e]; omega)), Bool.false_and]
            refine AW.iconstT hk_285_535 (by decide) (fun z316 ez316 => ?_)
            show AR _ _ _ _ _ _ _ 536 [(14, .int i), (13, .int u), (12, .int y), (11, .int x), (5, .ref b5), (4, .ref 183), (3, .ref 182), (2, .ref 181), (1, .ref 0), (0, .ref 1000000001)] [.int z316] g _ _
            refine AR.s (pc' := 538) (lv' := [(13, .int z316), (14, .int i), (12, .int y), (11, .int x), (5, .ref b5), (4, .ref 183), (3, .ref 182), (2, .ref 181), (1, .ref 0), (0, .ref 1000000001)]) (st' := []) (h' := g) _ hn_285 hk_285_536 rfl ?_
            refine AW.iincT hk_285_538 (x := i) rfl (by rw [hn_285]; decide) (by decide) (by omega) (by omega) (fun z317 ez317 => ?_)
            show AR _ _ _ _ _ _ _ 541 [(14, .int z317), (13, .int z316), (12, .int y), (11, .int x), (5, .ref b5), (4, .ref 183), (3, .ref 182), (2, .ref 181), (1, .ref 0), (0, .ref 1000000001)] [] g _ _
            refine AW.gotoT hk_285_541 (tgt := 493) (by decide) ?_
            refine AR.lessL (lv' := [(14, .int z317), (13, .int z316), (12, .int y), (11, .int x), (5, .ref b5), (4, .ref 183), (3, .ref 182), (2, .ref 181), (1, .ref 0), (0, .ref 1000000001)]) (List.forall_mem_cons.mpr ⟨⟨_, by simp, ax_le_rfl rfl⟩, (List.forall_mem_cons.mpr ⟨⟨_, by simp, ax_le_rfl rfl⟩, (List.forall_mem_cons.mpr ⟨⟨_, by simp, ax_le_rfl rfl⟩, (List.forall_mem_cons.mpr ⟨⟨_, by simp, ax_le_rfl rfl⟩, (List.forall_mem_cons.mpr ⟨⟨_, by simp, ax_le_rfl rfl⟩, (List.forall_mem_cons.mpr ⟨⟨_, by simp, ax_le_rfl rfl⟩, (List.forall_mem_cons.mpr ⟨⟨_, by simp, ax_le_rfl rfl⟩, (List.forall_mem_cons.mpr ⟨⟨_, by simp, ax_le_rfl rfl⟩, (List.forall_mem_cons.mpr ⟨⟨_, by simp, ax_le_rfl rfl⟩, (List.forall_mem_cons.mpr ⟨⟨_, by simp, ax_le_rfl rfl⟩, (fun _ h => absurd h List.not_mem_nil)⟩)⟩)⟩)⟩)⟩)⟩)⟩)⟩)⟩)⟩) ?_
            refine ih (m + 1) _ _ (by omega) (by omega) ?_
            rw [key, eI, eF, eM, Bool.and_false, Bool.or_false, if_neg (by decide)]
            omega
          · have eY : m &&& Y = Y := by omega
            show AR _ _ _ _ _ _ _ 523 [(14, .int i), (13, .int u), (12, .int y), (11, .int x), (5, .ref b5), (4, .ref 183), (3, .ref 182), (2, .ref 181), (1, .ref 0), (0, .ref 1000000001)] [] g _ _
            refine AR.s (pc' := 525) (lv' := [(14, .int i), (13, .int u), (12, .int y), (11, .int x), (5, .ref b5), (4, .ref 183), (3, .ref 182), (2, .ref 181), (1, .ref 0), (0, .ref 1000000001)]) (st' := [.int i]) (h' := g) _ hn_285 hk_285_523 rfl ?_
            refine AR.s (pc' := 527) (lv' := [(14, .int i), (13, .int u), (12, .int y), (11, .int x), (5, .ref b5), (4, .ref 183), (3, .ref 182), (2, .ref 181), (1, .ref 0), (0, .ref 1000000001)]) (st' := [.int y, .int i]) (h' := g) _ hn_285 hk_285_525 rfl ?_
            refine AR.iand (z := .int (i &&& y)) (ax_look_ok hk_285_527).1 rfl ?_
            generalize gz318 : i &&& y = z318
            show AR _ _ _ _ _ _ _ 528 [(14, .int i), (13, .int u), (12, .int y), (11, .int x), (5, .ref b5), (4, .ref 183), (3, .ref 182), (2, .ref 181), (1, .ref 0), (0, .ref 1000000001)] [.int z318] g _ _
            rw [gz318] at aN
            show AR _ _ _ _ _ _ _ 528 [(14, .int i), (13, .int u), (12, .int y), (11, .int x), (5, .ref b5), (4, .ref 183), (3, .ref 182), (2, .ref 181), (1, .ref 0), (0, .ref 1000000001)] [.int z318] g _ _
            refine AW.zne hk_285_528 (tgt := 535) (by decide) (fun s1 => ?_) (fun s2 => ?_)
            · have eM : ma Y N 6 m = false := by rw [hma, decide_eq_false (p := m &&& N = 0) (fun e => s1 (by rw [aN, e]; rfl)), Bool.and_false]
              refine AW.iconstT hk_285_535 (by decide) (fun z319 ez319 => ?_)
              show AR _ _ _ _ _ _ _ 536 [(14, .int i), (13, .int u), (12, .int y), (11, .int x), (5, .ref b5), (4, .ref 183), (3, .ref 182), (2, .ref 181), (1, .ref 0), (0, .ref 1000000001)] [.int z319] g _ _
              refine AR.s (pc' := 538) (lv' := [(13, .int z319), (14, .int i), (12, .int y), (11, .int x), (5, .ref b5), (4, .ref 183), (3, .ref 182), (2, .ref 181), (1, .ref 0), (0, .ref 1000000001)]) (st' := []) (h' := g) _ hn_285 hk_285_536 rfl ?_
              refine AW.iincT hk_285_538 (x := i) rfl (by rw [hn_285]; decide) (by decide) (by omega) (by omega) (fun z320 ez320 => ?_)
              show AR _ _ _ _ _ _ _ 541 [(14, .int z320), (13, .int z319), (12, .int y), (11, .int x), (5, .ref b5), (4, .ref 183), (3, .ref 182), (2, .ref 181), (1, .ref 0), (0, .ref 1000000001)] [] g _ _
              refine AW.gotoT hk_285_541 (tgt := 493) (by decide) ?_
              refine AR.lessL (lv' := [(14, .int z320), (13, .int z319), (12, .int y), (11, .int x), (5, .ref b5), (4, .ref 183), (3, .ref 182), (2, .ref 181), (1, .ref 0), (0, .ref 1000000001)]) (List.forall_mem_cons.mpr ⟨⟨_, by simp, ax_le_rfl rfl⟩, (List.forall_mem_cons.mpr ⟨⟨_, by simp, ax_le_rfl rfl⟩, (List.forall_mem_cons.mpr ⟨⟨_, by simp, ax_le_rfl rfl⟩, (List.forall_mem_cons.mpr ⟨⟨_, by simp, ax_le_rfl rfl⟩, (List.forall_mem_cons.mpr ⟨⟨_, by simp, ax_le_rfl rfl⟩, (List.forall_mem_cons.mpr ⟨⟨_, by simp, ax_le_rfl rfl⟩, (List.forall_mem_cons.mpr ⟨⟨_, by simp, ax_le_rfl rfl⟩, (List.forall_mem_cons.mpr ⟨⟨_, by simp, ax_le_rfl rfl⟩, (List.forall_mem_cons.mpr ⟨⟨_, by simp, ax_le_rfl rfl⟩, (List.forall_mem_cons.mpr ⟨⟨_, by simp, ax_le_rfl rfl⟩, (fun _ h => absurd h List.not_mem_nil)⟩)⟩)⟩)⟩)⟩)⟩)⟩)⟩)⟩)⟩) ?_
              refine ih (m + 1) _ _ (by omega) (by omega) ?_
              rw [key, eI, eF, eM, Bool.and_false, Bool.or_false, if_neg (by decide)]
              omega
            · have eM : ma Y N 6 m = true := by rw [hma, decide_eq_true eY, decide_eq_true (show m &&& N = 0 by omega)]; rfl
              refine AW.iconstT hk_285_531 (by decide) (fun z321 ez321 => ?_)
              show AR _ _ _ _ _ _ _ 532 [(14, .int i), (13, .int u), (12, .int y), (11, .int x), (5, .ref b5), (4, .ref 183), (3, .ref 182), (2, .ref 181), (1, .ref 0), (0, .ref 1000000001)] [.int z321] g _ _
              refine AW.gotoT hk_285_532 (tgt := 536) (by decide) ?_
              refine AR.s (pc' := 538) (lv' := [(13, .int z321), (14, .int i), (12, .int y), (11, .int x), (5, .ref b5), (4, .ref 183), (3, .ref 182), (2, .ref 181), (1, .ref 0), (0, .ref 1000000001)]) (st' := []) (h' := g) _ hn_285 hk_285_536 rfl ?_
              refine AW.iincT hk_285_538 (x := i) rfl (by rw [hn_285]; decide) (by decide) (by omega) (by omega) (fun z322 ez322 => ?_)
              show AR _ _ _ _ _ _ _ 541 [(14, .int z322), (13, .int z321), (12, .int y), (11, .int x), (5, .ref b5), (4, .ref 183), (3, .ref 182), (2, .ref 181), (1, .ref 0), (0, .ref 1000000001)] [] g _ _
              refine AW.gotoT hk_285_541 (tgt := 493) (by decide) ?_
              refine AR.lessL (lv' := [(14, .int z322), (13, .int z321), (12, .int y), (11, .int x), (5, .ref b5), (4, .ref 183), (3, .ref 182), (2, .ref 181), (1, .ref 0), (0, .ref 1000000001)]) (List.forall_mem_cons.mpr ⟨⟨_, by simp, ax_le_rfl rfl⟩, (List.forall_mem_cons.mpr ⟨⟨_, by simp, ax_le_rfl rfl⟩, (List.forall_mem_cons.mpr ⟨⟨_, by simp, ax_le_rfl rfl⟩, (List.forall_mem_cons.mpr ⟨⟨_, by simp, ax_le_rfl rfl⟩, (List.forall_mem_cons.mpr ⟨⟨_, by simp, ax_le_rfl rfl⟩, (List.forall_mem_cons.mpr ⟨⟨_, by simp, ax_le_rfl rfl⟩, (List.forall_mem_cons.mpr ⟨⟨_, by simp, ax_le_rfl rfl⟩, (List.forall_mem_cons.mpr ⟨⟨_, by simp, ax_le_rfl rfl⟩, (List.forall_mem_cons.mpr ⟨⟨_, by simp, ax_le_rfl rfl⟩, (List.forall_mem_cons.mpr ⟨⟨_, by simp, ax_le_rfl rfl⟩, (fun _ h => absurd h List.not_mem_nil)⟩)⟩)⟩)⟩)⟩)⟩)⟩)⟩)⟩)⟩) ?_
              refine ih (m + 1) _ _ (by omega) (by omega) ?_
              rw [key, eI, eF, eM, Bool.and_true, Bool.or_true, if_pos rfl]
              omega
theorem l8 (hlst : l.stackTraces = false) {x y j b a z : Int32} {Y N : Nat} (hx : x.toInt = Y) (hY : Y < 64) (hy : y.toInt = N) (hN : N < 64) (b1 : b5 < 1000000000) (e5 : g[b5]? = some (102, ar 64 f)) (hf : ∀ k, k < 64 → f k = bi (F k)) (K : ∀ u : Int32, u.toInt = (if ex F (ma Y N 6) 64 then 1 else 0) → AR ax_ns l (ax_mm 285) 8 (ax_r L xs) P X 791 [(21, .int u), (20, .int y), (19, .int x), (17, .int j), (16, .int b), (15, .int a), (14, .int z), (5, .ref b5), (4, .ref 183), (3, .ref 182), (2, .ref 181), (1, .ref 0), (0, .ref 1000000001)] [] g (bc) (bs)) : ∀ (n m : Nat) (i u : Int32), m + n = 64 → i.toInt = m → u.toInt = (if ex F (ma Y N 6) m then 1 else 0) → AR ax_ns l (ax_mm 285) 8 (ax_r L xs) P X 740 [(22, .int i), (21, .int u), (20, .int y), (19, .int x), (17, .int j), (16, .int b), (15, .int a), (14, .int z), (5, .ref b5), (4, .ref 183), (3, .ref 182), (2, .ref 181), (1, .ref 0), (0, .ref 1000000001)] [] g (bc) (bs) := by
  intro n
  induction n with
  | zero =>
    intro m i u hn hi hu
    show AR _ _ _ _ _ _ _ 740 [(22, .int i), (21, .int u), (20, .int y), (19, .int x), (17, .int j), (16, .int b), (15, .int a), (14, .int z), (5, .ref b5), (4, .ref 183), (3, .ref 182), (2, .ref 181), (1, .ref 0), (0, .ref 1000000001)] [] g _ _
    refine AR.s (pc' := 742) (lv' := [(22, .int i), (21, .int u), (20, .int y), (19, .int x), (17, .int j), (16, .int b), (15, .int a), (14, .int z), (5, .ref b5), (4, .ref 183), (3, .ref 182), (2, .ref 181), (1, .ref 0), (0, .ref 1000000001)]) (st' := [.int i]) (h' := g) _ hn_285 hk_285_740 rfl ?_
    refine AW.bipushT hk_285_742 (by decide) (fun z323 ez323 => ?_)
    show AR _ _ _ _ _ _ _ 744 [(22, .int i), (21, .int u), (20, .int y), (19, .int x), (17, .int j), (16, .int b), (15, .int a), (14, .int z), (5, .ref b5), (4, .ref 183), (3, .ref 182), (2, .ref 181), (1, .ref 0), (0, .ref 1000000001)] [.int z323, .int i] g _ _
    refine AW.jge hk_285_744 (tgt := 791) (by decide) (fun p1 => ?_) (fun p2 => ?_)
    · obtain rfl : m = 64 := by omega
      refine AR.lessL (lv' := [(21, .int u), (20, .int y), (19, .int x), (17, .int j), (16, .int b), (15, .int a), (14, .int z), (5, .ref b5), (4, .ref 183), (3, .ref 182), (2, .ref 181), (1, .ref 0), (0, .ref 1000000001)]) (List.forall_mem_cons.mpr ⟨⟨_, by simp, ax_le_rfl rfl⟩, (List.forall_mem_cons.mpr ⟨⟨_, by simp, ax_le_rfl rfl⟩, (List.forall_mem_cons.mpr ⟨⟨_, by simp, ax_le_rfl rfl⟩, (List.forall_mem_cons.mpr ⟨⟨_, by simp, ax_le_rfl rfl⟩, (List.forall_mem_cons.mpr ⟨⟨_, by simp, ax_le_rfl rfl⟩, (List.forall_mem_cons.mpr ⟨⟨_, by simp, ax_le_rfl rfl⟩, (List.forall_mem_cons.mpr ⟨⟨_, by simp, ax_le_rfl rfl⟩, (List.forall_mem_cons.mpr ⟨⟨_, by simp, ax_le_rfl rfl⟩, (List.forall_mem_cons.mpr ⟨⟨_, by simp, ax_le_rfl rfl⟩, (List.forall_mem_cons.mpr ⟨⟨_, by simp, ax_le_rfl rfl⟩, (List.forall_mem_cons.mpr ⟨⟨_, by simp, ax_le_rfl rfl⟩, (List.forall_mem_cons.mpr ⟨⟨_, by simp, ax_le_rfl rfl⟩, (List.forall_mem_cons.mpr ⟨⟨_, by simp, ax_le_rfl rfl⟩, (fun _ h => absurd h List.not_mem_nil)⟩)⟩)⟩)⟩)⟩)⟩)⟩)⟩)⟩)⟩)⟩)⟩)⟩) ?_
      exact K u hu
    · exact absurd p2 (by omega)
  | succ n ih =>
    intro m i u hn hi hu
    show AR _ _ _ _ _ _ _ 740 [(22, .int i), (21, .int u), (20, .int y), (19, .int x), (17, .int j), (16, .int b), (15, .int a), (14, .int z), (5, .ref b5), (4, .ref 183), (3, .ref 182), (2, .ref 181), (1, .ref 0), (0, .ref 1000000001)] [] g _ _
    refine AR.s (pc' := 742) (lv' := [(22, .int i), (21, .int u), (20, .int y), (19, .int x), (17, .int j), (16, .int b), (15, .int a), (14, .int z), (5, .ref b5), (4, .ref 183), (3, .ref 182), (2, .ref 181), (1, .ref 0), (0, .ref 1000000001)]) (st' := [.int i]) (h' := g) _ hn_285 hk_285_740 rfl ?_
    refine AW.bipushT hk_285_742 (by decide) (fun z324 ez324 => ?_)
    show AR _ _ _ _ _ _ _ 744 [(22, .int i), (21, .int u), (20, .int y), (19, .int x), (17, .int j), (16, .int b), (15, .int a), (14, .int z), (5, .ref b5), (4, .ref 183), (3, .ref 182), (2, .ref 181), (1, .ref 0), (0, .ref 1000000001)] [.int z324, .int i] g _ _
    refine AW.jge hk_285_744 (tgt := 791) (by decide) (fun p1 => ?_) (fun p2 => ?_)
    · exact absurd p1 (by omega)
    · have key : ex F (ma Y N 6) (m + 1) = (ex F (ma Y N 6) m || (F m && ma Y N 6 m)) := rfl
      have hma := ma_and hY hN (k := m) (by omega)
      have aY := (p_an hi (by omega) hx hY).1
      have aN := (p_an hi (by omega) hy hN).1
      show AR _ _ _ _ _ _ _ 747 [(22, .int i), (21, .int u), (20, .int y), (19, .int x), (17, .int j), (16, .int b), (15, .int a), (14, .int z), (5, .ref b5), (4, .ref 183), (3, .ref 182), (2, .ref 181), (1, .ref 0), (0, .ref 1000000001)] [] g _ _
      refine AR.s (pc' := 749) (lv' := [(22, .int i), (21, .int u), (20, .int y), (19, .int x), (17, .int j), (16, .int b), (15, .int a), (14, .int z), (5, .ref b5), (4, .ref 183), (3, .ref 182), (2, .ref 181), (1, .ref 0), (0, .ref 1000000001)]) (st' := [.int u]) (h' := g) _ hn_285 hk_285_747 rfl ?_
      refine AW.zne hk_285_749 (tgt := 778) (by decide) (fun x1 => ?_) (fun x2 => ?_)
      · have eI : ex F (ma Y N 6) m = true := by cases e : ex F (ma Y N 6) m; rw [e, if_neg (by decide)] at hu; omega; rfl
        refine AW.iconstT hk_285_778 (by decide) (fun z325 ez325 => ?_)
        show AR _ _ _ _ _ _ _ 779 [(22, .int i), (21, .int u), (20, .int y), (19, .int x), (17, .int j), (16, .int b), (15, .int a), (14, .int z), (5, .ref b5), (4, .ref 183), (3, .ref 182), (2, .ref 181), (1, .ref 0), (0, .ref 1000000001)] [.int z325] g _ _
        refine AW.gotoT hk_285_779 (tgt := 783) (by decide) ?_
        refine AR.s (pc' := 785) (lv' := [(21, .int z325), (22, .int i), (20, .int y), (19, .int x), (17, .int j), (16, .int b), (15, .int a), (14, .int z), (5, .ref b5), (4, .ref 183), (3, .ref 182), (2, .ref 181), (1, .ref 0), (0, .ref 1000000001)]) (st' := []) (h' := g) _ hn_285 hk_285_783 rfl ?_
        refine AW.iincT hk_285_785 (x := i) rfl (by rw [hn_285]; decide) (by decide) (by omega) (by omega) (fun z326 ez326 => ?_)
        show AR _ _ _ _ _ _ _ 788 [(22, .int z326), (21, .int z325), (20, .int y), (19, .int x), (17, .int j), (16, .int b), (15, .int a), (14, .int z), (5, .ref b5), (4, .ref 183), (3, .ref 182), (2, .ref 181), (1, .ref 0), (0, .ref 1000000001)] [] g _ _
        refine AW.gotoT hk_285_788 (tgt := 740) (by decide) ?_
        refine AR.lessL (lv' := [(22, .int z326), (21, .int z325), (20, .int y), (19, .int x), (17, .int j), (16, .int b), (15, .int a), (14, .int z), (5, .ref b5), (4, .ref 183), (3, .ref 182), (2, .ref 181), (1, .ref 0), (0, .ref 1000000001)]) (List.forall_mem_cons.mpr ⟨⟨_, by simp, ax_le_rfl rfl⟩, (List.forall_mem_cons.mpr ⟨⟨_, by simp, ax_le_rfl rfl⟩, (List.forall_mem_cons.mpr ⟨⟨_, by simp, ax_le_rfl rfl⟩, (List.forall_mem_cons.mpr ⟨⟨_, by simp, ax_le_rfl rfl⟩, (List.forall_mem_cons.mpr ⟨⟨_, by simp, ax_le_rfl rfl⟩, (List.forall_mem_cons.mpr ⟨⟨_, by simp, ax_le_rfl rfl⟩, (List.forall_mem_cons.mpr ⟨⟨_, by simp, ax_le_rfl rfl⟩, (List.forall_mem_cons.mpr ⟨⟨_, by simp, ax_le_rfl rfl⟩, (List.forall_mem_cons.mpr ⟨⟨_, by simp, ax_le_rfl rfl⟩, (List.forall_mem_cons.mpr ⟨⟨_, by simp, ax_le_rfl rfl⟩, (List.forall_mem_cons.mpr ⟨⟨_, by simp, ax_le_rfl rfl⟩, (List.forall_mem_cons.mpr ⟨⟨_, by simp, ax_le_rfl rfl⟩, (List.forall_mem_cons.mpr ⟨⟨_, by simp, ax_le_rfl rfl⟩, (List.forall_mem_cons.mpr ⟨⟨_, by simp, ax_le_rfl rfl⟩, (fun _ h => absurd h List.not_mem_nil)⟩)⟩)⟩)⟩)⟩)⟩)⟩)⟩)⟩)⟩)⟩)⟩)⟩)⟩) ?_
        refine ih (m + 1) _ _ (by omega) (by omega) ?_
        rw [key, eI, Bool.true_or, if_pos rfl]
        omega
      · have eI : ex F (ma Y N 6) m = false := by cases e : ex F (ma Y N 6) m; rfl; rw [e, if_pos rfl] at hu; omega
        show AR _ _ _ _ _ _ _ 752 [(22, .int i), (21, .int u), (20, .int y), (19, .int x), (17, .int j), (16, .int b), (15, .int a), (14, .int z), (5, .ref b5), (4, .ref 183), (3, .ref 182), (2, .ref 181), (1, .ref 0), (0, .ref 1000000001)] [] g _ _
        refine AR.s (pc' := 754) (lv' := [(22, .int i), (21, .int u), (20, .int y), (19, .int x), (17, .int j), (16, .int b), (15, .int a), (14, .int z), (5, .ref b5), (4, .ref 183), (3, .ref 182), (2, .ref 181), (1, .ref 0), (0, .ref 1000000001)]) (st' := [.ref b5]) (h' := g) _ hn_285 hk_285_752 rfl ?_
        refine AR.s (pc' := 756) (lv' := [(22, .int i), (21, .int u), (20, .int y), (19, .int x), (17, .int j), (16, .int b), (15, .int a), (14, .int z), (5, .ref b5), (4, .ref 183), (3, .ref 182), (2, .ref 181), (1, .ref 0), (0, .ref 1000000001)]) (st' := [.int i, .ref b5]) (h' := g) _ hn_285 hk_285_754 rfl ?_
        refine AW.za hk_285_756 b1 e5 hi (by omega) ?_
        rw [hf m (by omega)]
        have bb := bi_i (F m)
        generalize bi (F m) = yb at bb
        show AR _ _ _ _ _ _ _ 757 [(22, .int i), (21, .int u), (20, .int y), (19, .int x), (17, .int j), (16, .int b), (15, .int a), (14, .int z), (5, .ref b5), (4, .ref 183), (3, .ref 182), (2, .ref 181), (1, .ref 0), (0, .ref 1000000001)] [.int yb] g _ _
        refine AW.zeq hk_285_757 (tgt := 782) (by decide) (fun y1 => ?_) (fun y2 => ?_)
        · have eF : F m = false := by cases e : F m; rfl; rw [e, if_pos rfl] at bb; omega
          refine AW.iconstT hk_285_782 (by decide) (fun z327 ez327 => ?_)
          show AR _ _ _ _ _ _ _ 783 [(22, .int i), (21, .int u), (20, .int y), (19, .int x), (17, .int j), (16, .int b), (15, .int a), (14, .int z), (5, .ref b5), (4, .ref 183), (3, .ref 182), (2, .ref 181), (1, .ref 0), (0, .ref 1000000001)] [.int z327] g _ _
          refine AR.s (pc' := 785) (lv' := [(21, .int z327), (22, .int i), (20, .int y), (19, .int x), (17, .int j), (16, .int b), (15, .int a), (14, .int z), (5, .ref b5), (4, .ref 183), (3, .ref 182), (2, .ref 181), (1, .ref 0), (0, .ref 1000000001)]) (st' := []) (h' := g) _ hn_285 hk_285_783 rfl ?_
          refine AW.iincT hk_285_785 (x := i) rfl (by rw [hn_285]; decide) (by decide) (by omega) (by omega) (fun z328 ez328 => ?_)
          show AR _ _ _ _ _ _ _ 788 [(22, .int z328), (21, .int z327), (20, .int y), (19, .int x), (17, .int j), (16, .int b), (15, .int a), (14, .int z), (5, .ref b5), (4, .ref 183), (3, .ref 182), (2, .ref 181), (1, .ref 0), (0, .ref 1000000001)] [] g _ _
          refine AW.gotoT hk_285_788 (tgt := 740) (by decide) ?_
          refine AR.lessL (lv' := [(22, .int z328), (21, .int z327), (20, .int y), (19, .int x), (17, .int j), (16, .int b), (15, .int a), (14, .int z), (5, .ref b5), (4, .ref 183), (3, .ref 182), (2, .ref 181), (1, .ref 0), (0, .ref 1000000001)]) (List.forall_mem_cons.mpr ⟨⟨_, by simp, ax_le_rfl rfl⟩, (List.forall_mem_cons.mpr ⟨⟨_, by simp, ax_le_rfl rfl⟩, (List.forall_mem_cons.mpr ⟨⟨_, by simp, ax_le_rfl rfl⟩, (List.forall_mem_cons.mpr ⟨⟨_, by simp, ax_le_rfl rfl⟩, (List.forall_mem_cons.mpr ⟨⟨_, by simp, ax_le_rfl rfl⟩, (List.forall_mem_cons.mpr ⟨⟨_, by simp, ax_le_rfl rfl⟩, (List.forall_mem_cons.mpr ⟨⟨_, by simp, ax_le_rfl rfl⟩, (List.forall_mem_cons.mpr ⟨⟨_, by simp, ax_le_rfl rfl⟩, (List.forall_mem_cons.mpr ⟨⟨_, by simp, ax_le_rfl rfl⟩, (List.forall_mem_cons.mpr ⟨⟨_, by simp, ax_le_rfl rfl⟩, (List.forall_mem_cons.mpr ⟨⟨_, by simp, ax_le_rfl rfl⟩, (List.forall_mem_cons.mpr ⟨⟨_, by simp, ax_le_rfl rfl⟩, (List.forall_mem_cons.mpr ⟨⟨_, by simp, ax_le_rfl rfl⟩, (List.forall_mem_cons.mpr ⟨⟨_, by simp, ax_le_rfl rfl⟩, (fun _ h => absurd h List.not_mem_nil)⟩)⟩)⟩)⟩)⟩)⟩)⟩)⟩)⟩)⟩)⟩)⟩)⟩)⟩) ?_
          refine ih (m + 1) _ _ (by omega) (by omega) ?_
          rw [key, eI, eF, Bool.false_and, Bool.or_false, if_neg (by decide)]
          omega
        · have eF : F m = true := by cases e : F m; rw [e, if_neg (by decide)] at bb; omega; rfl
          show AR _ _ _ _ _ _ _ 760 [(22, .int i), (21, .int u), (20, .int y), (19, .int x), (17, .int j), (16, .int b), (15, .int a), (14, .int z), (5, .ref b5), (4, .ref 183), (3, .ref 182), (2, .ref 181), (1, .ref 0), (0, .ref 1000000001)] [] g _ _
          refine AR.s (pc' := 762) (lv' := [(22, .int i), (21, .int u), (20, .int y), (19, .int x), (17, .int j), (16, .int b), (15, .int a), (14, .int z), (5, .ref b5), (4, .ref 183), (3, .ref 182), (2, .ref 181), (1, .ref 0), (0, .ref 1000000001)]) (st' := [.int i]) (h' := g) _ hn_285 hk_285_760 rfl ?_
          refine AR.s (pc' := 764) (lv' := [(22, .int i), (21, .int u), (20, .int y), (19, .int x), (17, .int j), (16, .int b), (15, .int a), (14, .int z), (5, .ref b5), (4, .ref 183), (3, .ref 182), (2, .ref 181), (1, .ref 0), (0, .ref 1000000001)]) (st' := [.int x, .int i]) (h' := g) _ hn_285 hk_285_762 rfl ?_
          refine AR.iand (z := .int (i &&& x)) (ax_look_ok hk_285_764).1 rfl ?_
          generalize gz329 : i &&& x = z329
          show AR _ _ _ _ _ _ _ 765 [(22, .int i), (21, .int u), (20, .int y), (19, .int x), (17, .int j), (16, .int b), (15, .int a), (14, .int z), (5, .ref b5), (4, .ref 183), (3, .ref 182), (2, .ref 181), (1, .ref 0), (0, .ref 1000000001)] [.int z329] g _ _
          rw [gz329] at aY
          show AR _ _ _ _ _ _ _ 765 [(22, .int i), (21, .int u), (20, .int y), (19, .int x), (17, .int j), (16, .int b), (15, .int a), (14, .int z), (5, .ref b5), (4, .ref 183), (3, .ref 182), (2, .ref 181), (1, .ref 0), (0, .ref 1000000001)] [.int z329] g _ _
          refine AR.s (pc' := 767) (lv' := [(22, .int i), (21, .int u), (20, .int y), (19, .int x), (17, .int j), (16, .int b), (15, .int a), (14, .int z), (5, .ref b5), (4, .ref 183), (3, .ref 182), (2, .ref 181), (1, .ref 0), (0, .ref 1000000001)]) (st' := [.int x, .int z329]) (h' := g) _ hn_285 hk_285_765 rfl ?_
          refine AW.jne hk_285_767 (tgt := 782) (by decide) (fun q1 => ?_) (fun q2 => ?_)
          · have eM : ma Y N 6 m = false := by rw [hma, decide_eq_false (fun e => q1 (by rw [aY, e]; omega)), Bool.false_and]
            refine AW.iconstT hk_285_782 (by decide) (fun z330 ez330 => ?_)
            show AR _ _ _ _ _ _ _ 783 [(22, .int i), (21, .int u), (20, .int y), (19, .int x), (17, .int j), (16, .int b), (15, .int a), (14, .int z), (5, .ref b5), (4, .ref 183), (3, .ref 182), (2, .ref 181), (1, .ref 0), (0, .ref 1000000001)] [.int z330] g _ _
            refine AR.s (pc' := 785) (lv' := [(21, .int z330), (22, .int i), (20, .int y), (19, .int x), (17, .int j), (16, .int b), (15, .int a), (14, .int z), (5, .ref b5), (4, .ref 183), (3, .ref 182), (2, .ref 181), (1, .ref 0), (0, .ref 1000000001)]) (st' := []) (h' := g) _ hn_285 hk_285_783 rfl ?_
            refine AW.iincT hk_285_785 (x := i) rfl (by rw [hn_285]; decide) (by decide) (by omega) (by omega) (fun z331 ez331 => ?_)
            show AR _ _ _ _ _ _ _ 788 [(22, .int z331), (21, .int z330), (20, .int y), (19, .int x), (17, .int j), (16, .int b), (15, .int a), (14, .int z), (5, .ref b5), (4, .ref 183), (3, .ref 182), (2, .ref 181), (1, .ref 0), (0, .ref 1000000001)] [] g _ _
            refine AW.gotoT hk_285_788 (tgt := 740) (by decide) ?_
            refine AR.lessL (lv' := [(22, .int z331), (21, .int z330), (20, .int y), (19, .int x), (17, .int j), (16, .int b), (15, .int a), (14, .int z), (5, .ref b5), (4, .ref 183), (3, .ref 182), (2, .ref 181), (1, .ref 0), (0, .ref 1000000001)]) (List.forall_mem_cons.mpr ⟨⟨_, by simp, ax_le_rfl rfl⟩, (List.forall_mem_cons.mpr ⟨⟨_, by simp, ax_le_rfl rfl⟩, (List.forall_mem_cons.mpr ⟨⟨_, by simp, ax_le_rfl rfl⟩, (List.forall_mem_cons.mpr ⟨⟨_, by simp, ax_le_rfl rfl⟩, (List.forall_mem_cons.mpr ⟨⟨_, by simp, ax_le_rfl rfl⟩, (List.forall_mem_cons.mpr ⟨⟨_, by simp, ax_le_rfl rfl⟩, (List.forall_mem_cons.mpr ⟨⟨_, by simp, ax_le_rfl rfl⟩, (List.forall_mem_cons.mpr ⟨⟨_, by simp, ax_le_rfl rfl⟩, (List.forall_mem_cons.mpr ⟨⟨_, by simp, ax_le_rfl rfl⟩, (List.forall_mem_cons.mpr ⟨⟨_, by simp, ax_le_rfl rfl⟩, (List.forall_mem_cons.mpr ⟨⟨_, by simp, ax_le_rfl rfl⟩, (List.forall_mem_cons.mpr ⟨⟨_, by simp, ax_le_rfl rfl⟩, (List.forall_mem_cons.mpr ⟨⟨_, by simp, ax_le_rfl rfl⟩, (List.forall_mem_cons.mpr ⟨⟨_, by simp, ax_le_rfl rfl⟩, (fun _ h => absurd h List.not_mem_nil)⟩)⟩)⟩)⟩)⟩)⟩)⟩)⟩)⟩)⟩)⟩)⟩)⟩)⟩) ?_
            refine ih (m + 1) _ _ (by omega) (by omega) ?_
            rw [key, eI, eF, eM, Bool.and_false, Bool.or_false, if_neg (by decide)]
            omega
          · have eY : m &&& Y = Y := by omega
            show AR _ _ _ _ _ _ _ 770 [(22, .int i), (21, .int u), (20, .int y), (19, .int x), (17, .int j), (16, .int b), (15, .int a), (14, .int z), (5, .ref b5), (4, .ref 183), (3, .ref 182), (2, .ref 181), (1, .ref 0), (0, .ref 1000000001)] [] g _ _
            refine AR.s (pc' := 772) (lv' := [(22, .int i), (21, .int u), (20, .int y), (19, .int x), (17, .int j), (16, .int b), (15, .int a), (14, .int z), (5, .ref b5), (4, .ref 183), (3, .ref 182), (2, .ref 181), (1, .ref 0), (0, .ref 1000000001)]) (st' := [.int i]) (h' := g) _ hn_285 hk_285_770 rfl ?_
            refine AR.s (pc' := 774) (lv' := [(22, .int i), (21, .int u), (20, .int y), (19, .int x), (17, .int j), (16, .int b), (15, .int a), (14, .int z), (5, .ref b5), (4, .ref 183), (3, .ref 182), (2, .ref 181), (1, .ref 0), (0, .ref 1000000001)]) (st' := [.int y, .int i]) (h' := g) _ hn_285 hk_285_772 rfl ?_
            refine AR.iand (z := .int (i &&& y)) (ax_look_ok hk_285_774).1 rfl ?_
            generalize gz332 : i &&& y = z332
            show AR _ _ _ _ _ _ _ 775 [(22, .int i), (21, .int u), (20, .int y), (19, .int x), (17, .int j), (16, .int b), (15, .int a), (14, .int z), (5, .ref b5), (4, .ref 183), (3, .ref 182), (2, .ref 181), (1, .ref 0), (0, .ref 1000000001)] [.int z332] g _ _
            rw [gz332] at aN
            show AR _ _ _ _ _ _ _ 775 [(22, .int i), (21, .int u), (20, .int y), (19, .int x), (17, .int j), (16, .int b), (15, .int a), (14, .int z), (5, .ref b5), (4, .ref 183), (3, .ref 182), (2, .ref 181), (1, .ref 0), (0, .ref 1000000001)] [.int z332] g _ _
            refine AW.zne hk_285_775 (tgt := 782) (by decide) (fun s1 => ?_) (fun s2 => ?_)
            · have eM : ma Y N 6 m = false := by rw [hma, decide_eq_false (p := m &&& N = 0) (fun e => s1 (by rw [aN, e]; rfl)), Bool.and_false]
              refine AW.iconstT hk_285_782 (by decide) (fun z333 ez333 => ?_)
              show AR _ _ _ _ _ _ _ 783 [(22, .int i), (21, .int u), (20, .int y), (19, .int x), (17, .int j), (16, .int b), (15, .int a), (14, .int z), (5, .ref b5), (4, .ref 183), (3, .ref 182), (2, .ref 181), (1, .ref 0), (0, .ref 1000000001)] [.int z333] g _ _
              refine AR.s (pc' := 785) (lv' := [(21, .int z333), (22, .int i), (20, .int y), (19, .int x), (17, .int j), (16, .int b), (15, .int a), (14, .int z), (5, .ref b5), (4, .ref 183), (3, .ref 182), (2, .ref 181), (1, .ref 0), (0, .ref 1000000001)]) (st' := []) (h' := g) _ hn_285 hk_285_783 rfl ?_
              refine AW.iincT hk_285_785 (x := i) rfl (by rw [hn_285]; decide) (by decide) (by omega) (by omega) (fun z334 ez334 => ?_)
              show AR _ _ _ _ _ _ _ 788 [(22, .int z334), (21, .int z333), (20, .int y), (19, .int x), (17, .int j), (16, .int b), (15, .int a), (14, .int z), (5, .ref b5), (4, .ref 183), (3, .ref 182), (2, .ref 181), (1, .ref 0), (0, .ref 1000000001)] [] g _ _
              refine AW.gotoT hk_285_788 (tgt := 740) (by decide) ?_
              refine AR.lessL (lv' := [(22, .int z334), (21, .int z333), (20, .int y), (19, .int x), (17, .int j), (16, .int b), (15, .int a), (14, .int z), (5, .ref b5), (4, .ref 183), (3, .ref 182), (2, .ref 181), (1, .ref 0), (0, .ref 1000000001)]) (List.forall_mem_cons.mpr ⟨⟨_, by simp, ax_le_rfl rfl⟩, (List.forall_mem_cons.mpr ⟨⟨_, by simp, ax_le_rfl rfl⟩, (List.forall_mem_cons.mpr ⟨⟨_, by simp, ax_le_rfl rfl⟩, (List.forall_mem_cons.mpr ⟨⟨_, by simp, ax_le_rfl rfl⟩, (List.forall_mem_cons.mpr ⟨⟨_, by simp, ax_le_rfl rfl⟩, (List.forall_mem_cons.mpr ⟨⟨_, by simp, ax_le_rfl rfl⟩, (List.forall_mem_cons.mpr ⟨⟨_, by simp, ax_le_rfl rfl⟩, (List.forall_mem_cons.mpr ⟨⟨_, by simp, ax_le_rfl rfl⟩, (List.forall_mem_cons.mpr ⟨⟨_, by simp, ax_le_rfl rfl⟩, (List.forall_mem_cons.mpr ⟨⟨_, by simp, ax_le_rfl rfl⟩, (List.forall_mem_cons.mpr ⟨⟨_, by simp, ax_le_rfl rfl⟩, (List.forall_mem_cons.mpr ⟨⟨_, by simp, ax_le_rfl rfl⟩, (List.forall_mem_cons.mpr ⟨⟨_, by simp, ax_le_rfl rfl⟩, (List.forall_mem_cons.mpr ⟨⟨_, by simp, ax_le_rfl rfl⟩, (fun _ h => absurd h List.not_mem_nil)⟩)⟩)⟩)⟩)⟩)⟩)⟩)⟩)⟩)⟩)⟩)⟩)⟩)⟩) ?_
              refine ih (m + 1) _ _ (by omega) (by omega) ?_
              rw [key, eI, eF, eM, Bool.and_false, Bool.or_false, if_neg (by decide)]
              omega
            · have eM : ma Y N 6 m = true := by rw [hma, decide_eq_true eY, decide_eq_true (show m &&& N = 0 by omega)]; rfl
              refine AW.iconstT hk_285_778 (by decide) (fun z335 ez335 => ?_)
              show AR _ _ _ _ _ _ _ 779 [(22, .int i), (21, .int u), (20, .int y), (19, .int x), (17, .int j), (16, .int b), (15, .int a), (14, .int z), (5, .ref b5), (4, .ref 183), (3, .ref 182), (2, .ref 181), (1, .ref 0), (0, .ref 1000000001)] [.int z335] g _ _
              refine AW.gotoT hk_285_779 (tgt := 783) (by decide) ?_
              refine AR.s (pc' := 785) (lv' := [(21, .int z335), (22, .int i), (20, .int y), (19, .int x), (17, .int j), (16, .int b), (15, .int a), (14, .int z), (5, .ref b5), (4, .ref 183), (3, .ref 182), (2, .ref 181), (1, .ref 0), (0, .ref 1000000001)]) (st' := []) (h' := g) _ hn_285 hk_285_783 rfl ?_
              refine AW.iincT hk_285_785 (x := i) rfl (by rw [hn_285]; decide) (by decide) (by omega) (by omega) (fun z336 ez336 => ?_)
              show AR _ _ _ _ _ _ _ 788 [(22, .int z336), (21, .int z335), (20, .int y), (19, .int x), (17, .int j), (16, .int b), (15, .int a), (14, .int z), (5, .ref b5), (4, .ref 183), (3, .ref 182), (2, .ref 181), (1, .ref 0), (0, .ref 1000000001)] [] g _ _
              refine AW.gotoT hk_285_788 (tgt := 740) (by decide) ?_
              refine AR.lessL (lv' := [(22, .int z336), (21, .int z335), (20, .int y), (19, .int x), (17, .int j), (16, .int b), (15, .int a), (14, .int z), (5, .ref b5), (4, .ref 183), (3, .ref 182), (2, .ref 181), (1, .ref 0), (0, .ref 1000000001)]) (List.forall_mem_cons.mpr ⟨⟨_, by simp, ax_le_rfl rfl⟩, (List.forall_mem_cons.mpr ⟨⟨_, by simp, ax_le_rfl rfl⟩, (List.forall_mem_cons.mpr ⟨⟨_, by simp, ax_le_rfl rfl⟩, (List.forall_mem_cons.mpr ⟨⟨_, by simp, ax_le_rfl rfl⟩, (List.forall_mem_cons.mpr ⟨⟨_, by simp, ax_le_rfl rfl⟩, (List.forall_mem_cons.mpr ⟨⟨_, by simp, ax_le_rfl rfl⟩, (List.forall_mem_cons.mpr ⟨⟨_, by simp, ax_le_rfl rfl⟩, (List.forall_mem_cons.mpr ⟨⟨_, by simp, ax_le_rfl rfl⟩, (List.forall_mem_cons.mpr ⟨⟨_, by simp, ax_le_rfl rfl⟩, (List.forall_mem_cons.mpr ⟨⟨_, by simp, ax_le_rfl rfl⟩, (List.forall_mem_cons.mpr ⟨⟨_, by simp, ax_le_rfl rfl⟩, (List.forall_mem_cons.mpr ⟨⟨_, by simp, ax_le_rfl rfl⟩, (List.forall_mem_cons.mpr ⟨⟨_, by simp, ax_le_rfl rfl⟩, (List.forall_mem_cons.mpr ⟨⟨_, by simp, ax_le_rfl rfl⟩, (fun _ h => absurd h List.not_mem_nil)⟩)⟩)⟩)⟩)⟩)⟩)⟩)⟩)⟩)⟩)⟩)⟩)⟩)⟩) ?_
              refine ih (m + 1) _ _ (by omega) (by omega) ?_
              rw [key, eI, eF, eM, Bool.and_true, Bool.or_true, if_pos rfl]
              omega
def lw_PE : ax_P := ax_ret ax_ns (ax_mm 285) (fun res _ => res = .inl (some (.int 1)))
theorem l_end {fr fd fa : Nat → Int32} (A : AA g fr fd fa) (V : AV L xs 4 fr fd fa) : AR ax_ns l (ax_mm 285) 8 (ax_r L xs) lw_PE X 819 [(4, .ref 183)] [] g bc bs := by
  have v0 := (V 0 (by decide)).2.2
  have v3 := (V 3 (by decide)).2.2
  show AR _ _ _ _ _ _ _ 819 [(4, .ref 183)] [] g _ _
  refine AR.s (pc' := 821) (lv' := [(4, .ref 183)]) (st' := [.ref 183]) (h' := g) _ hn_285 hk_285_819 rfl ?_
  refine AW.iconstT hk_285_821 (by decide) (fun z337 ez337 => ?_)
  show AR _ _ _ _ _ _ _ 822 [(4, .ref 183)] [.int z337, .ref 183] g _ _
  refine AW.ia hk_285_822 (by decide) A.2.2 (m := 0) (by omega) (by decide) ?_
  show AR _ _ _ _ _ _ _ 823 [(4, .ref 183)] [.int (fa 0)] g _ _
  refine AW.zne hk_285_823 (tgt := 838) (by decide) (fun p1 => ?_) (fun p2 => ?_)
  · exact absurd v0 p1
  · refine AR.s (pc' := 828) (lv' := [(4, .ref 183)]) (st' := [.ref 183]) (h' := g) _ hn_285 hk_285_826 rfl ?_
    refine AW.iconstT hk_285_828 (by decide) (fun z338 ez338 => ?_)
    show AR _ _ _ _ _ _ _ 829 [(4, .ref 183)] [.int z338, .ref 183] g _ _
    refine AW.ia hk_285_829 (by decide) A.2.2 (m := 3) (by omega) (by decide) ?_
    show AR _ _ _ _ _ _ _ 830 [(4, .ref 183)] [.int (fa 3)] g _ _
    refine AW.iconstT hk_285_830 (by decide) (fun z339 ez339 => ?_)
    show AR _ _ _ _ _ _ _ 831 [(4, .ref 183)] [.int z339, .int (fa 3)] g _ _
    refine AW.jne hk_285_831 (tgt := 838) (by decide) (fun q1 => ?_) (fun q2 => ?_)
    · exact absurd (by omega) q1
    · refine AW.iconstT hk_285_834 (by decide) (fun z340 ez340 => ?_)
      show AR _ _ _ _ _ _ _ 835 [(4, .ref 183)] [.int z340] g _ _
      refine AW.gotoT hk_285_835 (tgt := 839) (by decide) ?_
      obtain rfl : z340 = 1 := Int32.toInt_inj.mp ez340
      exact AR.at (Or.inr (Or.inl ⟨_, .boolean, rfl, rfl, rfl, (ax_look_ok hk_285_839).1, hr_285, rfl⟩))
def wA (U : Nat → Bool) (t : Nat) (a : Int32) (m : Nat) : Prop := ∀ v, v < 32 → ib a v = (decide (v < 12) && (U (2 * v + t) && decide (cnt U (2 * v + t) < m)))
theorem wA_keep {U : Nat → Bool} {t m k : Nat} {a : Int32} (A : wA U t a m) (e : cnt U k = m) (hU : U k = true) (hk : ∀ v, 2 * v + t ≠ k) : wA U t a (m + 1) := fun v hv => by
  rw [A v hv]
  cases q : U (2 * v + t) with
  | false => rfl
  | true =>
    have : cnt U (2 * v + t) ≠ m := fun z => hk v (w_cin q hU (z.trans e.symm))
    rw [show decide (cnt U (2 * v + t) < m + 1) = decide (cnt U (2 * v + t) < m) from decide_eq_decide.mpr (by omega)]
theorem wA_add {U : Nat → Bool} {t m k : Nat} {a o s : Int32} (A : wA U t a m) (e : cnt U k = m) (hU : U k = true) (hk : k = 2 * (k / 2) + t) (h24 : k < 24) (t2 : t < 2) (ho : o.toInt = 1) (hs : s.toInt = (k / 2 : Nat)) : wA U t (a ||| (o <<< (s &&& 31))) (m + 1) := fun v hv => by
  rw [ib_or, A v hv, w_bit ho hs (by omega) hv]
  by_cases e2 : v = k / 2
  · subst e2
    rw [decide_eq_true rfl, Bool.or_true, ← hk, hU, decide_eq_true (show k / 2 < 12 by omega), decide_eq_true (show cnt U k < m + 1 by omega)]
    rfl
  · rw [decide_eq_false e2, Bool.or_false]
    cases q : U (2 * v + t) with
    | false => rfl
    | true =>
      have : cnt U (2 * v + t) ≠ m := fun z => by have := w_cin q hU (z.trans e.symm); omega
      rw [show decide (cnt U (2 * v + t) < m + 1) = decide (cnt U (2 * v + t) < m) from decide_eq_decide.mpr (by omega)]
theorem wA_end {U : Nat → Bool} {t A : Nat} {a : Int32} (W : wA U t a (cnt U 24)) (t2 : t < 2) (hA : A < 64) (h : ∀ v, v < 12 → A.testBit v = U (2 * v + t)) : a.toInt = A := w_is hA (fun v hv => by
  rw [W v hv]
  by_cases e : v < 12
  · rw [decide_eq_true e, Bool.true_and, h v e]
    cases q : U (2 * v + t) with
    | false => rfl
    | true => rw [decide_eq_true (w_clt (by omega) q)]; rfl
  · rw [decide_eq_false e, w_out A hA v hv (by omega)]
    rfl)
theorem l6 (hlst : l.stackTraces = false) {x y z : Int32} {U : Nat → Bool} (H : hy_H 0 g) (z0 : z.toInt = cnt U 24) (r1 : hy_z g 21 1 = cnt U 24) (r2 : ∀ k, k < 24 → U k = true → hy_z g 22 (cnt U k) = k) (K : ∀ a b : Int32, wA U 0 a (cnt U 24) → wA U 1 b (cnt U 24) → AR ax_ns l (ax_mm 285) 8 (ax_r L xs) P X 633 [(16, .int b), (15, .int a), (14, .int z), (12, .int y), (11, .int x), (5, .ref b5), (4, .ref 183), (3, .ref 182), (2, .ref 181), (1, .ref 0), (0, .ref 1000000001)] [] g (bc) (bs)) : ∀ (n m : Nat) (j a b : Int32), m + n = cnt U 24 → j.toInt = m → wA U 0 a m → wA U 1 b m → AR ax_ns l (ax_mm 285) 8 (ax_r L xs) P X 580 [(17, .int j), (16, .int b), (15, .int a), (14, .int z), (12, .int y), (11, .int x), (5, .ref b5), (4, .ref 183), (3, .ref 182), (2, .ref 181), (1, .ref 0), (0, .ref 1000000001)] [] g (bc) (bs) := by
  intro n
  induction n with
  | zero =>
    intro m j a b hn hj hA hB
    show AR _ _ _ _ _ _ _ 580 [(17, .int j), (16, .int b), (15, .int a), (14, .int z), (12, .int y), (11, .int x), (5, .ref b5), (4, .ref 183), (3, .ref 182), (2, .ref 181), (1, .ref 0), (0, .ref 1000000001)] [] g _ _
    refine AR.s (pc' := 582) (lv' := [(17, .int j), (16, .int b), (15, .int a), (14, .int z), (12, .int y), (11, .int x), (5, .ref b5), (4, .ref 183), (3, .ref 182), (2, .ref 181), (1, .ref 0), (0, .ref 1000000001)]) (st' := [.int j]) (h' := g) _ hn_285 hk_285_580 rfl ?_
    refine AR.s (pc' := 584) (lv' := [(17, .int j), (16, .int b), (15, .int a), (14, .int z), (12, .int y), (11, .int x), (5, .ref b5), (4, .ref 183), (3, .ref 182), (2, .ref 181), (1, .ref 0), (0, .ref 1000000001)]) (st' := [.int z, .int j]) (h' := g) _ hn_285 hk_285_582 rfl ?_
    refine AW.jge hk_285_584 (tgt := 633) (by decide) (fun p1 => ?_) (fun p2 => ?_)
    · obtain rfl : m = cnt U 24 := by omega
      refine AR.lessL (lv' := [(16, .int b), (15, .int a), (14, .int z), (12, .int y), (11, .int x), (5, .ref b5), (4, .ref 183), (3, .ref 182), (2, .ref 181), (1, .ref 0), (0, .ref 1000000001)]) (List.forall_mem_cons.mpr ⟨⟨_, by simp, ax_le_rfl rfl⟩, (List.forall_mem_cons.mpr ⟨⟨_, by simp, ax_le_rfl rfl⟩, (List.forall_mem_cons.mpr ⟨⟨_, by simp, ax_le_rfl rfl⟩, (List.forall_mem_cons.mpr ⟨⟨_, by simp, ax_le_rfl rfl⟩, (List.forall_mem_cons.mpr ⟨⟨_, by simp, ax_le_rfl rfl⟩, (List.forall_mem_cons.mpr ⟨⟨_, by simp, ax_le_rfl rfl⟩, (List.forall_mem_cons.mpr ⟨⟨_, by simp, ax_le_rfl rfl⟩, (List.forall_mem_cons.mpr ⟨⟨_, by simp, ax_le_rfl rfl⟩, (List.forall_mem_cons.mpr ⟨⟨_, by simp, ax_le_rfl rfl⟩, (List.forall_mem_cons.mpr ⟨⟨_, by simp, ax_le_rfl rfl⟩, (List.forall_mem_cons.mpr ⟨⟨_, by simp, ax_le_rfl rfl⟩, (fun _ h => absurd h List.not_mem_nil)⟩)⟩)⟩)⟩)⟩)⟩)⟩)⟩)⟩)⟩)⟩) ?_
      exact K a b hA hB
    · exact absurd p2 (by omega)
  | succ n ih =>
    intro m j a b hn hj hA hB
    show AR _ _ _ _ _ _ _ 580 [(17, .int j), (16, .int b), (15, .int a), (14, .int z), (12, .int y), (11, .int x), (5, .ref b5), (4, .ref 183), (3, .ref 182), (2, .ref 181), (1, .ref 0), (0, .ref 1000000001)] [] g _ _
    refine AR.s (pc' := 582) (lv' := [(17, .int j), (16, .int b), (15, .int a), (14, .int z), (12, .int y), (11, .int x), (5, .ref b5), (4, .ref 183), (3, .ref 182), (2, .ref 181), (1, .ref 0), (0, .ref 1000000001)]) (st' := [.int j]) (h' := g) _ hn_285 hk_285_580 rfl ?_
    refine AR.s (pc' := 584) (lv' := [(17, .int j), (16, .int b), (15, .int a), (14, .int z), (12, .int y), (11, .int x), (5, .ref b5), (4, .ref 183), (3, .ref 182), (2, .ref 181), (1, .ref 0), (0, .ref 1000000001)]) (st' := [.int z, .int j]) (h' := g) _ hn_285 hk_285_582 rfl ?_
    refine AW.jge hk_285_584 (tgt := 633) (by decide) (fun p1 => ?_) (fun p2 => ?_)
    · exact absurd p1 (by omega)
    · obtain ⟨k, k24, kU, kc⟩ := w_cex (U := U) (j := m) 24 (by omega)
      have rk := r2 k k24 kU
      have c24 := cnt_le U 24
      obtain ⟨v0, c0⟩ := p_c8 H
      show AR _ _ _ _ _ _ _ 587 [(17, .int j), (16, .int b), (15, .int a), (14, .int z), (12, .int y), (11, .int x), (5, .ref b5), (4, .ref 183), (3, .ref 182), (2, .ref 181), (1, .ref 0), (0, .ref 1000000001)] [] g _ _
      refine AR.s (pc' := 588) (lv' := [(17, .int j), (16, .int b), (15, .int a), (14, .int z), (12, .int y), (11, .int x), (5, .ref b5), (4, .ref 183), (3, .ref 182), (2, .ref 181), (1, .ref 0), (0, .ref 1000000001)]) (st' := [.ref 0]) (h' := g) _ hn_285 hk_285_587 rfl ?_
      refine AR.s (pc' := 590) (lv' := [(17, .int j), (16, .int b), (15, .int a), (14, .int z), (12, .int y), (11, .int x), (5, .ref b5), (4, .ref 183), (3, .ref 182), (2, .ref 181), (1, .ref 0), (0, .ref 1000000001)]) (st' := [.int j, .ref 0]) (h' := g) _ hn_285 hk_285_588 rfl ?_
      refine AW.jr (r := 0) (as := [.int j]) (rest := []) hk_285_590 (by decide) (by decide +kernel) (by decide) c0 rfl rfl (Nat.le_of_ble_eq_true rfl) (AW.W (p_107 hlst H hj (by omega))) (by decide) (Nat.zero_le _) (Nat.zero_le _) ?_ (fun E h' q => by obtain ⟨-, x, e, -⟩ := q; cases e)
      rintro w341 g342 ⟨eg342, z343, e, ez343⟩
      cases e
      obtain rfl := eg342.symm
      show AR _ _ _ _ _ _ _ 593 [(17, .int j), (16, .int b), (15, .int a), (14, .int z), (12, .int y), (11, .int x), (5, .ref b5), (4, .ref 183), (3, .ref 182), (2, .ref 181), (1, .ref 0), (0, .ref 1000000001)] [.int z343] g _ _
      rw [← kc, rk] at ez343
      show AR _ _ _ _ _ _ _ 593 [(17, .int j), (16, .int b), (15, .int a), (14, .int z), (12, .int y), (11, .int x), (5, .ref b5), (4, .ref 183), (3, .ref 182), (2, .ref 181), (1, .ref 0), (0, .ref 1000000001)] [.int z343] g _ _
      refine AR.s (pc' := 595) (lv' := [(18, .int z343), (17, .int j), (16, .int b), (15, .int a), (14, .int z), (12, .int y), (11, .int x), (5, .ref b5), (4, .ref 183), (3, .ref 182), (2, .ref 181), (1, .ref 0), (0, .ref 1000000001)]) (st' := []) (h' := g) _ hn_285 hk_285_593 rfl ?_
      refine AR.s (pc' := 597) (lv' := [(18, .int z343), (17, .int j), (16, .int b), (15, .int a), (14, .int z), (12, .int y), (11, .int x), (5, .ref b5), (4, .ref 183), (3, .ref 182), (2, .ref 181), (1, .ref 0), (0, .ref 1000000001)]) (st' := [.int z343]) (h' := g) _ hn_285 hk_285_595 rfl ?_
      refine AW.iconstT hk_285_597 (by decide) (fun z344 ez344 => ?_)
      show AR _ _ _ _ _ _ _ 598 [(18, .int z343), (17, .int j), (16, .int b), (15, .int a), (14, .int z), (12, .int y), (11, .int x), (5, .ref b5), (4, .ref 183), (3, .ref 182), (2, .ref 181), (1, .ref 0), (0, .ref 1000000001)] [.int z344, .int z343] g _ _
      refine AW.parT hk_285_598 ez344 (by omega) (fun z345 ez345 => ?_)
      show AR _ _ _ _ _ _ _ 599 [(18, .int z343), (17, .int j), (16, .int b), (15, .int a), (14, .int z), (12, .int y), (11, .int x), (5, .ref b5), (4, .ref 183), (3, .ref 182), (2, .ref 181), (1, .ref 0), (0, .ref 1000000001)] [.int z345] g _ _
      refine AW.zne hk_285_599 (tgt := 616) (by decide) (fun x1 => ?_) (fun x2 => ?_)
      · refine AR.s (pc' := 618) (lv' := [(18, .int z343), (17, .int j), (16, .int b), (15, .int a), (14, .int z), (12, .int y), (11, .int x), (5, .ref b5), (4, .ref 183), (3, .ref 182), (2, .ref 181), (1, .ref 0), (0, .ref 1000000001)]) (st' := [.int b]) (h' := g) _ hn_285 hk_285_616 rfl ?_
        refine AW.iconstT hk_285_618 (by decide) (fun z346 ez346 => ?_)
        show AR _ _ _ _ _ _ _ 619 [(18, .int z343), (17, .int j), (16, .int b), (15, .int a), (14, .int z), (12, .int y), (11, .int x), (5, .ref b5), (4, .ref 183), (3, .ref 182), (2, .ref 181), (1, .ref 0), (0, .ref 1000000001)] [.int z346, .int b] g _ _
        refine AR.s (pc' := 621) (lv' := [(18, .int z343), (17, .int j), (16, .int b), (15, .int a), (14, .int z), (12, .int y), (11, .int x), (5, .ref b5), (4, .ref 183), (3, .ref 182), (2, .ref 181), (1, .ref 0), (0, .ref 1000000001)]) (st' := [.int z343, .int z346, .int b]) (h' := g) _ hn_285 hk_285_619 rfl ?_
        refine AW.iconstT hk_285_621 (by decide) (fun z347 ez347 => ?_)
        show AR _ _ _ _ _ _ _ 622 [(18, .int z343), (17, .int j), (16, .int b), (15, .int a), (14, .int z), (12, .int y), (11, .int x), (5, .ref b5), (4, .ref 183), (3, .ref 182), (2, .ref 181), (1, .ref 0), (0, .ref 1000000001)] [.int z347, .int z343, .int z346, .int b] g _ _
        refine AW.halfT hk_285_622 ez347 (by omega) (fun z348 ez348 => ?_)
        show AR _ _ _ _ _ _ _ 623 [(18, .int z343), (17, .int j), (16, .int b), (15, .int a), (14, .int z), (12, .int y), (11, .int x), (5, .ref b5), (4, .ref 183), (3, .ref 182), (2, .ref 181), (1, .ref 0), (0, .ref 1000000001)] [.int z348, .int z346, .int b] g _ _
        refine AR.ishl (z := .int (z346 <<< (z348 &&& 31))) (ax_look_ok hk_285_623).1 rfl ?_
        generalize gz349 : z346 <<< (z348 &&& 31) = z349
        show AR _ _ _ _ _ _ _ 624 [(18, .int z343), (17, .int j), (16, .int b), (15, .int a), (14, .int z), (12, .int y), (11, .int x), (5, .ref b5), (4, .ref 183), (3, .ref 182), (2, .ref 181), (1, .ref 0), (0, .ref 1000000001)] [.int z349, .int b] g _ _
        refine AR.ior (z := .int (b ||| z349)) (ax_look_ok hk_285_624).1 rfl ?_
        generalize gz350 : b ||| z349 = z350
        show AR _ _ _ _ _ _ _ 625 [(18, .int z343), (17, .int j), (16, .int b), (15, .int a), (14, .int z), (12, .int y), (11, .int x), (5, .ref b5), (4, .ref 183), (3, .ref 182), (2, .ref 181), (1, .ref 0), (0, .ref 1000000001)] [.int z350] g _ _
        have hW := wA_add (t := 1) hB kc kU (by omega) k24 (by decide) ez346 (s := z348) (by omega)
        rw [gz349, gz350] at hW
        have hV := wA_keep (t := 0) hA kc kU (fun v => by omega)
        show AR _ _ _ _ _ _ _ 625 [(18, .int z343), (17, .int j), (16, .int b), (15, .int a), (14, .int z), (12, .int y), (11, .int x), (5, .ref b5), (4, .ref 183), (3, .ref 182), (2, .ref 181), (1, .ref 0), (0, .ref 1000000001)] [.int z350] g _ _
        refine AR.s (pc' := 627) (lv' := [(16, .int z350), (18, .int z343), (17, .int j), (15, .int a), (14, .int z), (12, .int y), (11, .int x), (5, .ref b5), (4, .ref 183), (3, .ref 182), (2, .ref 181), (1, .ref 0), (0, .ref 1000000001)]) (st' := []) (h' := g) _ hn_285 hk_285_625 rfl ?_
        refine AW.iincT hk_285_627 (x := j) rfl (by rw [hn_285]; decide) (by decide) (by omega) (by omega) (fun z351 ez351 => ?_)
        show AR _ _ _ _ _ _ _ 630 [(17, .int z351), (16, .int z350), (18, .int z343), (15, .int a), (14, .int z), (12, .int y), (11, .int x), (5, .ref b5), (4, .ref 183), (3, .ref 182), (2, .ref 181), (1, .ref 0), (0, .ref 1000000001)] [] g _ _
        refine AW.gotoT hk_285_630 (tgt := 580) (by decide) ?_
        refine AR.lessL (lv' := [(17, .int z351), (16, .int z350), (15, .int a), (14, .int z), (12, .int y), (11, .int x), (5, .ref b5), (4, .ref 183), (3, .ref 182), (2, .ref 181), (1, .ref 0), (0, .ref 1000000001)]) (List.forall_mem_cons.mpr ⟨⟨_, by simp, ax_le_rfl rfl⟩, (List.forall_mem_cons.mpr ⟨⟨_, by simp, ax_le_rfl rfl⟩, (List.forall_mem_cons.mpr ⟨⟨_, by simp, ax_le_rfl rfl⟩, (List.forall_mem_cons.mpr ⟨⟨_, by simp, ax_le_rfl rfl⟩, (List.forall_mem_cons.mpr ⟨⟨_, by simp, ax_le_rfl rfl⟩, (List.forall_mem_cons.mpr ⟨⟨_, by simp, ax_le_rfl rfl⟩, (List.forall_mem_cons.mpr ⟨⟨_, by simp, ax_le_rfl rfl⟩, (List.forall_mem_cons.mpr ⟨⟨_, by simp, ax_le_rfl rfl⟩, (List.forall_mem_cons.mpr ⟨⟨_, by simp, ax_le_rfl rfl⟩, (List.forall_mem_cons.mpr ⟨⟨_, by simp, ax_le_rfl rfl⟩, (List.forall_mem_cons.mpr ⟨⟨_, by simp, ax_le_rfl rfl⟩, (List.forall_mem_cons.mpr ⟨⟨_, by simp, ax_le_rfl rfl⟩, (fun _ h => absurd h List.not_mem_nil)⟩)⟩)⟩)⟩)⟩)⟩)⟩)⟩)⟩)⟩)⟩)⟩) ?_
        exact ih (m + 1) _ _ _ (by omega) (by omega) hV hW
      · refine AR.s (pc' := 604) (lv' := [(18, .int z343), (17, .int j), (16, .int b), (15, .int a), (14, .int z), (12, .int y), (11, .int x), (5, .ref b5), (4, .ref 183), (3, .ref 182), (2, .ref 181), (1, .ref 0), (0, .ref 1000000001)]) (st' := [.int a]) (h' := g) _ hn_285 hk_285_602 rfl ?_
        refine AW.iconstT hk_285_604 (by decide) (fun z352 ez352 => ?_)
        show AR _ _ _ _ _ _ _ 605 [(18, .int z343), (17, .int j), (16, .int b), (15, .int a), (14, .int z), (12, .int y), (11, .int x), (5, .ref b5), (4, .ref 183), (3, .ref 182), (2, .ref 181), (1, .ref 0), (0, .ref 1000000001)] [.int z352, .int a] g _ _
        refine AR.s (pc' := 607) (lv' := [(18, .int z343), (17, .int j), (16, .int b), (15, .int a), (14, .int z), (12, .int y), (11, .int x), (5, .ref b5), (4, .ref 183), (3, .ref 182), (2, .ref 181), (1, .ref 0), (0, .ref 1000000001)]) (st' := [.int z343, .int z352, .int a]) (h' := g) _ hn_285 hk_285_605 rfl ?_
        refine AW.iconstT hk_285_607 (by decide) (fun z353 ez353 => ?_)
        show AR _ _ _ _ _ _ _ 608 [(18, .int z343), (17, .int j), (16, .int b), (15, .int a), (14, .int z), (12, .int y), (11, .int x), (5, .ref b5), (4, .ref 183), (3, .ref 182), (2, .ref 181), (1, .ref 0), (0, .ref 1000000001)] [.int z353, .int z343, .int z352, .int a] g _ _
        refine AW.halfT hk_285_608 ez353 (by omega) (fun z354 ez354 => ?_)
        show AR _ _ _ _ _ _ _ 609 [(18, .int z343), (17, .int j), (16, .int b), (15, .int a), (14, .int z), (12, .int y), (11, .int x), (5, .ref b5), (4, .ref 183), (3, .ref 182), (2, .ref 181), (1, .ref 0), (0, .ref 1000000001)] [.int z354, .int z352, .int a] g _ _
        refine AR.ishl (z := .int (z352 <<< (z354 &&& 31))) (ax_look_ok hk_285_609).1 rfl ?_
        generalize gz355 : z352 <<< (z354 &&& 31) = z355
        show AR _ _ _ _ _ _ _ 610 [(18, .int z343), (17, .int j), (16, .int b), (15, .int a), (14, .int z), (12, .int y), (11, .int x), (5, .ref b5), (4, .ref 183), (3, .ref 182), (2, .ref 181), (1, .ref 0), (0, .ref 1000000001)] [.int z355, .int a] g _ _
        refine AR.ior (z := .int (a ||| z355)) (ax_look_ok hk_285_610).1 rfl ?_
        generalize gz356 : a ||| z355 = z356
        show AR _ _ _ _ _ _ _ 611 [(18, .int z343), (17, .int j), (16, .int b), (15, .int a), (14, .int z), (12, .int y), (11, .int x), (5, .ref b5), (4, .ref 183), (3, .ref 182), (2, .ref 181), (1, .ref 0), (0, .ref 1000000001)] [.int z356] g _ _
        have hW := wA_add (t := 0) hA kc kU (by omega) k24 (by decide) ez352 (s := z354) (by omega)
        rw [gz355, gz356] at hW
        have hV := wA_keep (t := 1) hB kc kU (fun v => by omega)
        show AR _ _ _ _ _ _ _ 611 [(18, .int z343), (17, .int j), (16, .int b), (15, .int a), (14, .int z), (12, .int y), (11, .int x), (5, .ref b5), (4, .ref 183), (3, .ref 182), (2, .ref 181), (1, .ref 0), (0, .ref 1000000001)] [.int z356] g _ _
        refine AR.s (pc' := 613) (lv' := [(15, .int z356), (18, .int z343), (17, .int j), (16, .int b), (14, .int z), (12, .int y), (11, .int x), (5, .ref b5), (4, .ref 183), (3, .ref 182), (2, .ref 181), (1, .ref 0), (0, .ref 1000000001)]) (st' := []) (h' := g) _ hn_285 hk_285_611 rfl ?_
        refine AW.gotoT hk_285_613 (tgt := 627) (by decide) ?_
        refine AW.iincT hk_285_627 (x := j) rfl (by rw [hn_285]; decide) (by decide) (by omega) (by omega) (fun z357 ez357 => ?_)
        show AR _ _ _ _ _ _ _ 630 [(17, .int z357), (15, .int z356), (18, .int z343), (16, .int b), (14, .int z), (12, .int y), (11, .int x), (5, .ref b5), (4, .ref 183), (3, .ref 182), (2, .ref 181), (1, .ref 0), (0, .ref 1000000001)] [] g _ _
        refine AW.gotoT hk_285_630 (tgt := 580) (by decide) ?_
        refine AR.lessL (lv' := [(17, .int z357), (16, .int b), (15, .int z356), (14, .int z), (12, .int y), (11, .int x), (5, .ref b5), (4, .ref 183), (3, .ref 182), (2, .ref 181), (1, .ref 0), (0, .ref 1000000001)]) (List.forall_mem_cons.mpr ⟨⟨_, by simp, ax_le_rfl rfl⟩, (List.forall_mem_cons.mpr ⟨⟨_, by simp, ax_le_rfl rfl⟩, (List.forall_mem_cons.mpr ⟨⟨_, by simp, ax_le_rfl rfl⟩, (List.forall_mem_cons.mpr ⟨⟨_, by simp, ax_le_rfl rfl⟩, (List.forall_mem_cons.mpr ⟨⟨_, by simp, ax_le_rfl rfl⟩, (List.forall_mem_cons.mpr ⟨⟨_, by simp, ax_le_rfl rfl⟩, (List.forall_mem_cons.mpr ⟨⟨_, by simp, ax_le_rfl rfl⟩, (List.forall_mem_cons.mpr ⟨⟨_, by simp, ax_le_rfl rfl⟩, (List.forall_mem_cons.mpr ⟨⟨_, by simp, ax_le_rfl rfl⟩, (List.forall_mem_cons.mpr ⟨⟨_, by simp, ax_le_rfl rfl⟩, (List.forall_mem_cons.mpr ⟨⟨_, by simp, ax_le_rfl rfl⟩, (List.forall_mem_cons.mpr ⟨⟨_, by simp, ax_le_rfl rfl⟩, (fun _ h => absurd h List.not_mem_nil)⟩)⟩)⟩)⟩)⟩)⟩)⟩)⟩)⟩)⟩)⟩)⟩) ?_
        exact ih (m + 1) _ _ _ (by omega) (by omega) hW hV
theorem l7 (hlst : l.stackTraces = false) {a b z : Int32} {A B : Nat} (b1 : b5 < 1000000000) (e5 : g[b5]? = some (102, ar 64 f)) (hf : ∀ k, k < 64 → f k = bi (F k)) {U : Nat → Bool} (H : hy_H 0 g) (z0 : z.toInt = cnt U 24) (r1 : hy_z g 21 1 = cnt U 24) (r2 : ∀ k, k < 24 → U k = true → hy_z g 22 (cnt U k) = k) (ha : a.toInt = A) (hA : A < 64) (hb : b.toInt = B) (hB : B < 64) (x0 : ex F (ma A B 6) 64 = false) (x1 : ∀ v, v < 12 → U (2 * v) = true → ex F (ma (dr A v) B 6) 64 = true) (x2 : ∀ v, v < 12 → U (2 * v + 1) = true → ex F (ma A (dr B v) 6) 64 = true) (K : AR ax_ns l (ax_mm 285) 8 (ax_r L xs) P X 819 [(4, .ref 183)] [] g (bc) (bs)) : ∀ (n : Nat) (j : Int32), j.toInt + n = cnt U 24 → -1 ≤ j.toInt → AR ax_ns l (ax_mm 285) 8 (ax_r L xs) P X 658 [(17, .int j), (16, .int b), (15, .int a), (14, .int z), (5, .ref b5), (4, .ref 183), (3, .ref 182), (2, .ref 181), (1, .ref 0), (0, .ref 1000000001)] [] g (bc) (bs) := by
  intro n
  induction n with
  | zero =>
    intro j hn hj
    have c24 := cnt_le U 24
    show AR _ _ _ _ _ _ _ 658 [(17, .int j), (16, .int b), (15, .int a), (14, .int z), (5, .ref b5), (4, .ref 183), (3, .ref 182), (2, .ref 181), (1, .ref 0), (0, .ref 1000000001)] [] g _ _
    refine AR.s (pc' := 660) (lv' := [(17, .int j), (16, .int b), (15, .int a), (14, .int z), (5, .ref b5), (4, .ref 183), (3, .ref 182), (2, .ref 181), (1, .ref 0), (0, .ref 1000000001)]) (st' := [.int j]) (h' := g) _ hn_285 hk_285_658 rfl ?_
    refine AR.s (pc' := 662) (lv' := [(17, .int j), (16, .int b), (15, .int a), (14, .int z), (5, .ref b5), (4, .ref 183), (3, .ref 182), (2, .ref 181), (1, .ref 0), (0, .ref 1000000001)]) (st' := [.int z, .int j]) (h' := g) _ hn_285 hk_285_660 rfl ?_
    refine AW.jge hk_285_662 (tgt := 819) (by decide) (fun p1 => ?_) (fun p2 => ?_)
    · refine AR.lessL (lv' := [(4, .ref 183)]) (List.forall_mem_cons.mpr ⟨⟨_, by simp, ax_le_rfl rfl⟩, (fun _ h => absurd h List.not_mem_nil)⟩) ?_
      exact K
    · exact absurd p2 (by omega)
  | succ n ih =>
    intro j hn hj
    have c24 := cnt_le U 24
    show AR _ _ _ _ _ _ _ 658 [(17, .int j), (16, .int b), (15, .int a), (14, .int z), (5, .ref b5), (4, .ref 183), (3, .ref 182), (2, .ref 181), (1, .ref 0), (0, .ref 1000000001)] [] g _ _
    refine AR.s (pc' := 660) (lv' := [(17, .int j), (16, .int b), (15, .int a), (14, .int z), (5, .ref b5), (4, .ref 183), (3, .ref 182), (2, .ref 181), (1, .ref 0), (0, .ref 1000000001)]) (st' := [.int j]) (h' := g) _ hn_285 hk_285_658 rfl ?_
    refine AR.s (pc' := 662) (lv' := [(17, .int j), (16, .int b), (15, .int a), (14, .int z), (5, .ref b5), (4, .ref 183), (3, .ref 182), (2, .ref 181), (1, .ref 0), (0, .ref 1000000001)]) (st' := [.int z, .int j]) (h' := g) _ hn_285 hk_285_660 rfl ?_
    refine AW.jge hk_285_662 (tgt := 819) (by decide) (fun p1 => ?_) (fun p2 => ?_)
    · exact absurd p1 (by omega)
    · refine AR.s (pc' := 667) (lv' := [(17, .int j), (16, .int b), (15, .int a), (14, .int z), (5, .ref b5), (4, .ref 183), (3, .ref 182), (2, .ref 181), (1, .ref 0), (0, .ref 1000000001)]) (st' := [.int j]) (h' := g) _ hn_285 hk_285_665 rfl ?_
      refine AW.zge hk_285_667 (tgt := 675) (by decide) (fun y1 => ?_) (fun y2 => ?_)
      · obtain ⟨k, k24, kU, kc⟩ := w_cex (U := U) (j := j.toInt.toNat) 24 (by omega)
        have rk := r2 k k24 kU
        obtain ⟨v0, c0⟩ := p_c8 H
        show AR _ _ _ _ _ _ _ 675 [(17, .int j), (16, .int b), (15, .int a), (14, .int z), (5, .ref b5), (4, .ref 183), (3, .ref 182), (2, .ref 181), (1, .ref 0), (0, .ref 1000000001)] [] g _ _
        refine AR.s (pc' := 676) (lv' := [(17, .int j), (16, .int b), (15, .int a), (14, .int z), (5, .ref b5), (4, .ref 183), (3, .ref 182), (2, .ref 181), (1, .ref 0), (0, .ref 1000000001)]) (st' := [.ref 0]) (h' := g) _ hn_285 hk_285_675 rfl ?_
        refine AR.s (pc' := 678) (lv' := [(17, .int j), (16, .int b), (15, .int a), (14, .int z), (5, .ref b5), (4, .ref 183), (3, .ref 182), (2, .ref 181), (1, .ref 0), (0, .ref 1000000001)]) (st' := [.int j, .ref 0]) (h' := g) _ hn_285 hk_285_676 rfl ?_
        refine AW.jr (r := 0) (as := [.int j]) (rest := []) hk_285_678 (by decide) (by decide +kernel) (by decide) c0 rfl rfl (Nat.le_of_ble_eq_true rfl) (AW.W (p_107 hlst H (j := j.toInt.toNat) (by omega) (by omega))) (by decide) (Nat.zero_le _) (Nat.zero_le _) ?_ (fun E h' q => by obtain ⟨-, x, e, -⟩ := q; cases e)
        rintro w375 g376 ⟨eg376, z377, e, ez377⟩
        cases e
        obtain rfl := eg376.symm
        show AR _ _ _ _ _ _ _ 681 [(17, .int j), (16, .int b), (15, .int a), (14, .int z), (5, .ref b5), (4, .ref 183), (3, .ref 182), (2, .ref 181), (1, .ref 0), (0, .ref 1000000001)] [.int z377] g _ _
        rw [← kc, rk] at ez377
        show AR _ _ _ _ _ _ _ 681 [(17, .int j), (16, .int b), (15, .int a), (14, .int z), (5, .ref b5), (4, .ref 183), (3, .ref 182), (2, .ref 181), (1, .ref 0), (0, .ref 1000000001)] [.int z377] g _ _
        refine AR.s (pc' := 683) (lv' := [(18, .int z377), (17, .int j), (16, .int b), (15, .int a), (14, .int z), (5, .ref b5), (4, .ref 183), (3, .ref 182), (2, .ref 181), (1, .ref 0), (0, .ref 1000000001)]) (st' := []) (h' := g) _ hn_285 hk_285_681 rfl ?_
        refine AR.s (pc' := 685) (lv' := [(18, .int z377), (17, .int j), (16, .int b), (15, .int a), (14, .int z), (5, .ref b5), (4, .ref 183), (3, .ref 182), (2, .ref 181), (1, .ref 0), (0, .ref 1000000001)]) (st' := [.int z377]) (h' := g) _ hn_285 hk_285_683 rfl ?_
        refine AW.iconstT hk_285_685 (by decide) (fun z378 ez378 => ?_)
        show AR _ _ _ _ _ _ _ 686 [(18, .int z377), (17, .int j), (16, .int b), (15, .int a), (14, .int z), (5, .ref b5), (4, .ref 183), (3, .ref 182), (2, .ref 181), (1, .ref 0), (0, .ref 1000000001)] [.int z378, .int z377] g _ _
        refine AW.parT hk_285_686 ez378 (by omega) (fun z379 ez379 => ?_)
        show AR _ _ _ _ _ _ _ 687 [(18, .int z377), (17, .int j), (16, .int b), (15, .int a), (14, .int z), (5, .ref b5), (4, .ref 183), (3, .ref 182), (2, .ref 181), (1, .ref 0), (0, .ref 1000000001)] [.int z379] g _ _
        refine AW.zne hk_285_687 (tgt := 704) (by decide) (fun r1 => ?_) (fun r2 => ?_)
        · refine AR.s (pc' := 706) (lv' := [(18, .int z377), (17, .int j), (16, .int b), (15, .int a), (14, .int z), (5, .ref b5), (4, .ref 183), (3, .ref 182), (2, .ref 181), (1, .ref 0), (0, .ref 1000000001)]) (st' := [.int a]) (h' := g) _ hn_285 hk_285_704 rfl ?_
          refine AR.s (pc' := 708) (lv' := [(19, .int a), (18, .int z377), (17, .int j), (16, .int b), (15, .int a), (14, .int z), (5, .ref b5), (4, .ref 183), (3, .ref 182), (2, .ref 181), (1, .ref 0), (0, .ref 1000000001)]) (st' := []) (h' := g) _ hn_285 hk_285_706 rfl ?_
          refine AR.s (pc' := 710) (lv' := [(19, .int a), (18, .int z377), (17, .int j), (16, .int b), (15, .int a), (14, .int z), (5, .ref b5), (4, .ref 183), (3, .ref 182), (2, .ref 181), (1, .ref 0), (0, .ref 1000000001)]) (st' := [.int z377]) (h' := g) _ hn_285 hk_285_708 rfl ?_
          refine AW.iconstT hk_285_710 (by decide) (fun z380 ez380 => ?_)
          show AR _ _ _ _ _ _ _ 711 [(19, .int a), (18, .int z377), (17, .int j), (16, .int b), (15, .int a), (14, .int z), (5, .ref b5), (4, .ref 183), (3, .ref 182), (2, .ref 181), (1, .ref 0), (0, .ref 1000000001)] [.int z380, .int z377] g _ _
          refine AW.parT hk_285_711 ez380 (by omega) (fun z381 ez381 => ?_)
          show AR _ _ _ _ _ _ _ 712 [(19, .int a), (18, .int z377), (17, .int j), (16, .int b), (15, .int a), (14, .int z), (5, .ref b5), (4, .ref 183), (3, .ref 182), (2, .ref 181), (1, .ref 0), (0, .ref 1000000001)] [.int z381] g _ _
          refine AW.iconstT hk_285_712 (by decide) (fun z382 ez382 => ?_)
          show AR _ _ _ _ _ _ _ 713 [(19, .int a), (18, .int z377), (17, .int j), (16, .int b), (15, .int a), (14, .int z), (5, .ref b5), (4, .ref 183), (3, .ref 182), (2, .ref 181), (1, .ref 0), (0, .ref 1000000001)] [.int z382, .int z381] g _ _
          refine AW.jne hk_285_713 (tgt := 730) (by decide) (fun s1 => ?_) (fun s2 => ?_)
          · exact absurd (by omega) s1
          · obtain ⟨v, hv⟩ : ∃ v, k = 2 * v + 1 := ⟨k / 2, by omega⟩
            rw [hv] at kU
            have xx := x2 v (by omega) kU
            show AR _ _ _ _ _ _ _ 716 [(19, .int a), (18, .int z377), (17, .int j), (16, .int b), (15, .int a), (14, .int z), (5, .ref b5), (4, .ref 183), (3, .ref 182), (2, .ref 181), (1, .ref 0), (0, .ref 1000000001)] [] g _ _
            refine AR.s (pc' := 718) (lv' := [(19, .int a), (18, .int z377), (17, .int j), (16, .int b), (15, .int a), (14, .int z), (5, .ref b5), (4, .ref 183), (3, .ref 182), (2, .ref 181), (1, .ref 0), (0, .ref 1000000001)]) (st' := [.int b]) (h' := g) _ hn_285 hk_285_716 rfl ?_
            refine AW.iconstT hk_285_718 (by decide) (fun z383 ez383 => ?_)
            show AR _ _ _ _ _ _ _ 719 [(19, .int a), (18, .int z377), (17, .int j), (16, .int b), (15, .int a), (14, .int z), (5, .ref b5), (4, .ref 183), (3, .ref 182), (2, .ref 181), (1, .ref 0), (0, .ref 1000000001)] [.int z383, .int b] g _ _
            refine AR.s (pc' := 721) (lv' := [(19, .int a), (18, .int z377), (17, .int j), (16, .int b), (15, .int a), (14, .int z), (5, .ref b5), (4, .ref 183), (3, .ref 182), (2, .ref 181), (1, .ref 0), (0, .ref 1000000001)]) (st' := [.int z377, .int z383, .int b]) (h' := g) _ hn_285 hk_285_719 rfl ?_
            refine AW.iconstT hk_285_721 (by decide) (fun z384 ez384 => ?_)
            show AR _ _ _ _ _ _ _ 722 [(19, .int a), (18, .int z377), (17, .int j), (16, .int b), (15, .int a), (14, .int z), (5, .ref b5), (4, .ref 183), (3, .ref 182), (2, .ref 181), (1, .ref 0), (0, .ref 1000000001)] [.int z384, .int z377, .int z383, .int b] g _ _
            refine AW.halfT hk_285_722 ez384 (by omega) (fun z385 ez385 => ?_)
            show AR _ _ _ _ _ _ _ 723 [(19, .int a), (18, .int z377), (17, .int j), (16, .int b), (15, .int a), (14, .int z), (5, .ref b5), (4, .ref 183), (3, .ref 182), (2, .ref 181), (1, .ref 0), (0, .ref 1000000001)] [.int z385, .int z383, .int b] g _ _
            refine AR.ishl (z := .int (z383 <<< (z385 &&& 31))) (ax_look_ok hk_285_723).1 rfl ?_
            generalize gz386 : z383 <<< (z385 &&& 31) = z386
            show AR _ _ _ _ _ _ _ 724 [(19, .int a), (18, .int z377), (17, .int j), (16, .int b), (15, .int a), (14, .int z), (5, .ref b5), (4, .ref 183), (3, .ref 182), (2, .ref 181), (1, .ref 0), (0, .ref 1000000001)] [.int z386, .int b] g _ _
            refine AW.iconstT hk_285_724 (by decide) (fun z387 ez387 => ?_)
            show AR _ _ _ _ _ _ _ 725 [(19, .int a), (18, .int z377), (17, .int j), (16, .int b), (15, .int a), (14, .int z), (5, .ref b5), (4, .ref 183), (3, .ref 182), (2, .ref 181), (1, .ref 0), (0, .ref 1000000001)] [.int z387, .int z386, .int b] g _ _
            refine AR.ixor (z := .int (z386 ^^^ z387)) (ax_look_ok hk_285_725).1 rfl ?_
            generalize gz388 : z386 ^^^ z387 = z388
            show AR _ _ _ _ _ _ _ 726 [(19, .int a), (18, .int z377), (17, .int j), (16, .int b), (15, .int a), (14, .int z), (5, .ref b5), (4, .ref 183), (3, .ref 182), (2, .ref 181), (1, .ref 0), (0, .ref 1000000001)] [.int z388, .int b] g _ _
            have hD := dq_of hb hB (y := z385) (v := v) (by omega) (by omega) ez383 ez387
            rw [gz386, gz388] at hD
            refine AR.iand (z := .int (b &&& z388)) (ax_look_ok hk_285_726).1 rfl ?_
            generalize gz389 : b &&& z388 = z389
            show AR _ _ _ _ _ _ _ 727 [(19, .int a), (18, .int z377), (17, .int j), (16, .int b), (15, .int a), (14, .int z), (5, .ref b5), (4, .ref 183), (3, .ref 182), (2, .ref 181), (1, .ref 0), (0, .ref 1000000001)] [.int z389] g _ _
            rw [gz389] at hD
            show AR _ _ _ _ _ _ _ 727 [(19, .int a), (18, .int z377), (17, .int j), (16, .int b), (15, .int a), (14, .int z), (5, .ref b5), (4, .ref 183), (3, .ref 182), (2, .ref 181), (1, .ref 0), (0, .ref 1000000001)] [.int z389] g _ _
            refine AW.gotoT hk_285_727 (tgt := 732) (by decide) ?_
            refine AR.s (pc' := 734) (lv' := [(20, .int z389), (19, .int a), (18, .int z377), (17, .int j), (16, .int b), (15, .int a), (14, .int z), (5, .ref b5), (4, .ref 183), (3, .ref 182), (2, .ref 181), (1, .ref 0), (0, .ref 1000000001)]) (st' := []) (h' := g) _ hn_285 hk_285_732 rfl ?_
            refine AW.iconstT hk_285_734 (by decide) (fun z390 ez390 => ?_)
            show AR _ _ _ _ _ _ _ 735 [(20, .int z389), (19, .int a), (18, .int z377), (17, .int j), (16, .int b), (15, .int a), (14, .int z), (5, .ref b5), (4, .ref 183), (3, .ref 182), (2, .ref 181), (1, .ref 0), (0, .ref 1000000001)] [.int z390] g _ _
            refine AR.s (pc' := 737) (lv' := [(21, .int z390), (20, .int z389), (19, .int a), (18, .int z377), (17, .int j), (16, .int b), (15, .int a), (14, .int z), (5, .ref b5), (4, .ref 183), (3, .ref 182), (2, .ref 181), (1, .ref 0), (0, .ref 1000000001)]) (st' := []) (h' := g) _ hn_285 hk_285_735 rfl ?_
            refine AW.iconstT hk_285_737 (by decide) (fun z391 ez391 => ?_)
            show AR _ _ _ _ _ _ _ 738 [(21, .int z390), (20, .int z389), (19, .int a), (18, .int z377), (17, .int j), (16, .int b), (15, .int a), (14, .int z), (5, .ref b5), (4, .ref 183), (3, .ref 182), (2, .ref 181), (1, .ref 0), (0, .ref 1000000001)] [.int z391] g _ _
            refine AR.s (pc' := 740) (lv' := [(22, .int z391), (21, .int z390), (20, .int z389), (19, .int a), (18, .int z377), (17, .int j), (16, .int b), (15, .int a), (14, .int z), (5, .ref b5), (4, .ref 183), (3, .ref 182), (2, .ref 181), (1, .ref 0), (0, .ref 1000000001)]) (st' := []) (h' := g) _ hn_285 hk_285_738 rfl ?_
            refine AR.lessL (lv' := [(22, .int z391), (21, .int z390), (20, .int z389), (19, .int a), (17, .int j), (16, .int b), (15, .int a), (14, .int z), (5, .ref b5), (4, .ref 183), (3, .ref 182), (2, .ref 181), (1, .ref 0), (0, .ref 1000000001)]) (List.forall_mem_cons.mpr ⟨⟨_, by simp, ax_le_rfl rfl⟩, (List.forall_mem_cons.mpr ⟨⟨_, by simp, ax_le_rfl rfl⟩, (List.forall_mem_cons.mpr ⟨⟨_, by simp, ax_le_rfl rfl⟩, (List.forall_mem_cons.mpr ⟨⟨_, by simp, ax_le_rfl rfl⟩, (List.forall_mem_cons.mpr ⟨⟨_, by simp, ax_le_rfl rfl⟩, (List.forall_mem_cons.mpr ⟨⟨_, by simp, ax_le_rfl rfl⟩, (List.forall_mem_cons.mpr ⟨⟨_, by simp, ax_le_rfl rfl⟩, (List.forall_mem_cons.mpr ⟨⟨_, by simp, ax_le_rfl rfl⟩, (List.forall_mem_cons.mpr ⟨⟨_, by simp, ax_le_rfl rfl⟩, (List.forall_mem_cons.mpr ⟨⟨_, by simp, ax_le_rfl rfl⟩, (List.forall_mem_cons.mpr ⟨⟨_, by simp, ax_le_rfl rfl⟩, (List.forall_mem_cons.mpr ⟨⟨_, by simp, ax_le_rfl rfl⟩, (List.forall_mem_cons.mpr ⟨⟨_, by simp, ax_le_rfl rfl⟩, (List.forall_mem_cons.mpr ⟨⟨_, by simp, ax_le_rfl rfl⟩, (fun _ h => absurd h List.not_mem_nil)⟩)⟩)⟩)⟩)⟩)⟩)⟩)⟩)⟩)⟩)⟩)⟩)⟩)⟩) ?_
            refine l8 hlst (Y := A) (N := dr B v) ha hA hD (dr_a B hB v (by omega)).1 b1 e5 hf (fun u9 hu9 => ?_) 64 0 _ _ rfl (by omega) (by show _ = (0 : Int); omega)
            rw [xx] at hu9
            simp only [Bool.false_eq_true, if_true, if_false] at hu9
            show AR _ _ _ _ _ _ _ 791 [(21, .int u9), (20, .int z389), (19, .int a), (17, .int j), (16, .int b), (15, .int a), (14, .int z), (5, .ref b5), (4, .ref 183), (3, .ref 182), (2, .ref 181), (1, .ref 0), (0, .ref 1000000001)] [] g _ _
            refine AR.s (pc' := 793) (lv' := [(21, .int u9), (20, .int z389), (19, .int a), (17, .int j), (16, .int b), (15, .int a), (14, .int z), (5, .ref b5), (4, .ref 183), (3, .ref 182), (2, .ref 181), (1, .ref 0), (0, .ref 1000000001)]) (st' := [.int u9]) (h' := g) _ hn_285 hk_285_791 rfl ?_
            refine AR.s (pc' := 795) (lv' := [(21, .int u9), (20, .int z389), (19, .int a), (17, .int j), (16, .int b), (15, .int a), (14, .int z), (5, .ref b5), (4, .ref 183), (3, .ref 182), (2, .ref 181), (1, .ref 0), (0, .ref 1000000001)]) (st' := [.int j, .int u9]) (h' := g) _ hn_285 hk_285_793 rfl ?_
            refine AW.zlt hk_285_795 (tgt := 802) (by decide) (fun q1 => ?_) (fun q2 => ?_)
            · exact absurd q1 (by omega)
            · refine AW.iconstT hk_285_798 (by decide) (fun z392 ez392 => ?_)
              show AR _ _ _ _ _ _ _ 799 [(21, .int u9), (20, .int z389), (19, .int a), (17, .int j), (16, .int b), (15, .int a), (14, .int z), (5, .ref b5), (4, .ref 183), (3, .ref 182), (2, .ref 181), (1, .ref 0), (0, .ref 1000000001)] [.int z392, .int u9] g _ _
              refine AW.gotoT hk_285_799 (tgt := 803) (by decide) ?_
              refine AW.jeq hk_285_803 (tgt := 813) (by decide) (fun e1 => ?_) (fun e2 => ?_)
              · refine AW.iincT hk_285_813 (x := j) rfl (by rw [hn_285]; decide) (by decide) (by omega) (by omega) (fun z393 ez393 => ?_)
                show AR _ _ _ _ _ _ _ 816 [(17, .int z393), (21, .int u9), (20, .int z389), (19, .int a), (16, .int b), (15, .int a), (14, .int z), (5, .ref b5), (4, .ref 183), (3, .ref 182), (2, .ref 181), (1, .ref 0), (0, .ref 1000000001)] [] g _ _
                refine AW.gotoT hk_285_816 (tgt := 658) (by decide) ?_
                refine AR.lessL (lv' := [(17, .int z393), (16, .int b), (15, .int a), (14, .int z), (5, .ref b5), (4, .ref 183), (3, .ref 182), (2, .ref 181), (1, .ref 0), (0, .ref 1000000001)]) (List.forall_mem_cons.mpr ⟨⟨_, by simp, ax_le_rfl rfl⟩, (List.forall_mem_cons.mpr ⟨⟨_, by simp, ax_le_rfl rfl⟩, (List.forall_mem_cons.mpr ⟨⟨_, by simp, ax_le_rfl rfl⟩, (List.forall_mem_cons.mpr ⟨⟨_, by simp, ax_le_rfl rfl⟩, (List.forall_mem_cons.mpr ⟨⟨_, by simp, ax_le_rfl rfl⟩, (List.forall_mem_cons.mpr ⟨⟨_, by simp, ax_le_rfl rfl⟩, (List.forall_mem_cons.mpr ⟨⟨_, by simp, ax_le_rfl rfl⟩, (List.forall_mem_cons.mpr ⟨⟨_, by simp, ax_le_rfl rfl⟩, (List.forall_mem_cons.mpr ⟨⟨_, by simp, ax_le_rfl rfl⟩, (List.forall_mem_cons.mpr ⟨⟨_, by simp, ax_le_rfl rfl⟩, (fun _ h => absurd h List.not_mem_nil)⟩)⟩)⟩)⟩)⟩)⟩)⟩)⟩)⟩)⟩) ?_
                exact ih _ (by omega) (by omega)
              · exact absurd (by omega) e2
        · obtain ⟨v, hv⟩ : ∃ v, k = 2 * v := ⟨k / 2, by omega⟩
          rw [hv] at kU
          have xx := x1 v (by omega) kU
          show AR _ _ _ _ _ _ _ 690 [(18, .int z377), (17, .int j), (16, .int b), (15, .int a), (14, .int z), (5, .ref b5), (4, .ref 183), (3, .ref 182), (2, .ref 181), (1, .ref 0), (0, .ref 1000000001)] [] g _ _
          refine AR.s (pc' := 692) (lv' := [(18, .int z377), (17, .int j), (16, .int b), (15, .int a), (14, .int z), (5, .ref b5), (4, .ref 183), (3, .ref 182), (2, .ref 181), (1, .ref 0), (0, .ref 1000000001)]) (st' := [.int a]) (h' := g) _ hn_285 hk_285_690 rfl ?_
          refine AW.iconstT hk_285_692 (by decide) (fun z394 ez394 => ?_)
          show AR _ _ _ _ _ _ _ 693 [(18, .int z377), (17, .int j), (16, .int b), (15, .int a), (14, .int z), (5, .ref b5), (4, .ref 183), (3, .ref 182), (2, .ref 181), (1, .ref 0), (0, .ref 1000000001)] [.int z394, .int a] g _ _
          refine AR.s (pc' := 695) (lv' := [(18, .int z377), (17, .int j), (16, .int b), (15, .int a), (14, .int z), (5, .ref b5), (4, .ref 183), (3, .ref 182), (2, .ref 181), (1, .ref 0), (0, .ref 1000000001)]) (st' := [.int z377, .int z394, .int a]) (h' := g) _ hn_285 hk_285_693 rfl ?_
          refine AW.iconstT hk_285_695 (by decide) (fun z395 ez395 => ?_)
          show AR _ _ _ _ _ _ _ 696 [(18, .int z377), (17, .int j), (16, .int b), (15, .int a), (14, .int z), (5, .ref b5), (4, .ref 183), (3, .ref 182), (2, .ref 181), (1, .ref 0), (0, .ref 1000000001)] [.int z395, .int z377, .int z394, .int a] g _ _
          refine AW.halfT hk_285_696 ez395 (by omega) (fun z396 ez396 => ?_)
          show AR _ _ _ _ _ _ _ 697 [(18, .int z377), (17, .int j), (16, .int b), (15, .int a), (14, .int z), (5, .ref b5), (4, .ref 183), (3, .ref 182), (2, .ref 181), (1, .ref 0), (0, .ref 1000000001)] [.int z396, .int z394, .int a] g _ _
          refine AR.ishl (z := .int (z394 <<< (z396 &&& 31))) (ax_look_ok hk_285_697).1 rfl ?_
          generalize gz397 : z394 <<< (z396 &&& 31) = z397
          show AR _ _ _ _ _ _ _ 698 [(18, .int z377), (17, .int j), (16, .int b), (15, .int a), (14, .int z), (5, .ref b5), (4, .ref 183), (3, .ref 182), (2, .ref 181), (1, .ref 0), (0, .ref 1000000001)] [.int z397, .int a] g _ _
          refine AW.iconstT hk_285_698 (by decide) (fun z398 ez398 => ?_)
          show AR _ _ _ _ _ _ _ 699 [(18, .int z377), (17, .int j), (16, .int b), (15, .int a), (14, .int z), (5, .ref b5), (4, .ref 183), (3, .ref 182), (2, .ref 181), (1, .ref 0), (0, .ref 1000000001)] [.int z398, .int z397, .int a] g _ _
          refine AR.ixor (z := .int (z397 ^^^ z398)) (ax_look_ok hk_285_699).1 rfl ?_
          generalize gz399 : z397 ^^^ z398 = z399
          show AR _ _ _ _ _ _ _ 700 [(18, .int z377), (17, .int j), (16, .int b), (15, .int a), (14, .int z), (5, .ref b5), (4, .ref 183), (3, .ref 182), (2, .ref 181), (1, .ref 0), (0, .ref 1000000001)] [.int z399, .int a] g _ _
          have hD := dq_of ha hA (y := z396) (v := v) (by omega) (by omega) ez394 ez398
          rw [gz397, gz399] at hD
          refine AR.iand (z := .int (a &&& z399)) (ax_look_ok hk_285_700).1 rfl ?_
          generalize gz400 : a &&& z399 = z400
          show AR _ _ _ _ _ _ _ 701 [(18, .int z377), (17, .int j), (16, .int b), (15, .int a), (14, .int z), (5, .ref b5), (4, .ref 183), (3, .ref 182), (2, .ref 181), (1, .ref 0), (0, .ref 1000000001)] [.int z400] g _ _
          rw [gz400] at hD
          show AR _ _ _ _ _ _ _ 701 [(18, .int z377), (17, .int j), (16, .int b), (15, .int a), (14, .int z), (5, .ref b5), (4, .ref 183), (3, .ref 182), (2, .ref 181), (1, .ref 0), (0, .ref 1000000001)] [.int z400] g _ _
          refine AW.gotoT hk_285_701 (tgt := 706) (by decide) ?_
          refine AR.s (pc' := 708) (lv' := [(19, .int z400), (18, .int z377), (17, .int j), (16, .int b), (15, .int a), (14, .int z), (5, .ref b5), (4, .ref 183), (3, .ref 182), (2, .ref 181), (1, .ref 0), (0, .ref 1000000001)]) (st' := []) (h' := g) _ hn_285 hk_285_706 rfl ?_
          refine AR.s (pc' := 710) (lv' := [(19, .int z400), (18, .int z377), (17, .int j), (16, .int b), (15, .int a), (14, .int z), (5, .ref b5), (4, .ref 183), (3, .ref 182), (2, .ref 181), (1, .ref 0), (0, .ref 1000000001)]) (st' := [.int z377]) (h' := g) _ hn_285 hk_285_708 rfl ?_
          refine AW.iconstT hk_285_710 (by decide) (fun z401 ez401 => ?_)
          show AR _ _ _ _ _ _ _ 711 [(19, .int z400), (18, .int z377), (17, .int j), (16, .int b), (15, .int a), (14, .int z), (5, .ref b5), (4, .ref 183), (3, .ref 182), (2, .ref 181), (1, .ref 0), (0, .ref 1000000001)] [.int z401, .int z377] g _ _
          refine AW.parT hk_285_711 ez401 (by omega) (fun z402 ez402 => ?_)
          show AR _ _ _ _ _ _ _ 712 [(19, .int z400), (18, .int z377), (17, .int j), (16, .int b), (15, .int a), (14, .int z), (5, .ref b5), (4, .ref 183), (3, .ref 182), (2, .ref 181), (1, .ref 0), (0, .ref 1000000001)] [.int z402] g _ _
          refine AW.iconstT hk_285_712 (by decide) (fun z403 ez403 => ?_)
          show AR _ _ _ _ _ _ _ 713 [(19, .int z400), (18, .int z377), (17, .int j), (16, .int b), (15, .int a), (14, .int z), (5, .ref b5), (4, .ref 183), (3, .ref 182), (2, .ref 181), (1, .ref 0), (0, .ref 1000000001)] [.int z403, .int z402] g _ _
          refine AW.jne hk_285_713 (tgt := 730) (by decide) (fun s1 => ?_) (fun s2 => ?_)
          · refine AR.s (pc' := 732) (lv' := [(19, .int z400), (18, .int z377), (17, .int j), (16, .int b), (15, .int a), (14, .int z), (5, .ref b5), (4, .ref 183), (3, .ref 182), (2, .ref 181), (1, .ref 0), (0, .ref 1000000001)]) (st' := [.int b]) (h' := g) _ hn_285 hk_285_730 rfl ?_
            refine AR.s (pc' := 734) (lv' := [(20, .int b), (19, .int z400), (18, .int z377), (17, .int j), (16, .int b), (15, .int a), (14, .int z), (5, .ref b5), (4, .ref 183), (3, .ref 182), (2, .ref 181), (1, .ref 0), (0, .ref 1000000001)]) (st' := []) (h' := g) _ hn_285 hk_285_732 rfl ?_
            refine AW.iconstT hk_285_734 (by decide) (fun z404 ez404 => ?_)
            show AR _ _ _ _ _ _ _ 735 [(20, .int b), (19, .int z400), (18, .int z377), (17, .int j), (16, .int b), (15, .int a), (14, .int z), (5, .ref b5), (4, .ref 183), (3, .ref 182), (2, .ref 181), (1, .ref 0), (0, .ref 1000000001)] [.int z404] g _ _
            refine AR.s (pc' := 737) (lv' := [(21, .int z404), (20, .int b), (19, .int z400), (18, .int z377), (17, .int j), (16, .int b), (15, .int a), (14, .int z), (5, .ref b5), (4, .ref 183), (3, .ref 182), (2, .ref 181), (1, .ref 0), (0, .ref 1000000001)]) (st' := []) (h' := g) _ hn_285 hk_285_735 rfl ?_
            refine AW.iconstT hk_285_737 (by decide) (fun z405 ez405 => ?_)
            show AR _ _ _ _ _ _ _ 738 [(21, .int z404), (20, .int b), (19, .int z400), (18, .int z377), (17, .int j), (16, .int b), (15, .int a), (14, .int z), (5, .ref b5), (4, .ref 183), (3, .ref 182), (2, .ref 181), (1, .ref 0), (0, .ref 1000000001)] [.int z405] g _ _
            refine AR.s (pc' := 740) (lv' := [(22, .int z405), (21, .int z404), (20, .int b), (19, .int z400), (18, .int z377), (17, .int j), (16, .int b), (15, .int a), (14, .int z), (5, .ref b5), (4, .ref 183), (3, .ref 182), (2, .ref 181), (1, .ref 0), (0, .ref 1000000001)]) (st' := []) (h' := g) _ hn_285 hk_285_738 rfl ?_
            refine AR.lessL (lv' := [(22, .int z405), (21, .int z404), (20, .int b), (19, .int z400), (17, .int j), (16, .int b), (15, .int a), (14, .int z), (5, .ref b5), (4, .ref 183), (3, .ref 182), (2, .ref 181), (1, .ref 0), (0, .ref 1000000001)]) (List.forall_mem_cons.mpr ⟨⟨_, by simp, ax_le_rfl rfl⟩, (List.forall_mem_cons.mpr ⟨⟨_, by simp, ax_le_rfl rfl⟩, (List.forall_mem_cons.mpr ⟨⟨_, by simp, ax_le_rfl rfl⟩, (List.forall_mem_cons.mpr ⟨⟨_, by simp, ax_le_rfl rfl⟩, (List.forall_mem_cons.mpr ⟨⟨_, by simp, ax_le_rfl rfl⟩, (List.forall_mem_cons.mpr ⟨⟨_, by simp, ax_le_rfl rfl⟩, (List.forall_mem_cons.mpr ⟨⟨_, by simp, ax_le_rfl rfl⟩, (List.forall_mem_cons.mpr ⟨⟨_, by simp, ax_le_rfl rfl⟩, (List.forall_mem_cons.mpr ⟨⟨_, by simp, ax_le_rfl rfl⟩, (List.forall_mem_cons.mpr ⟨⟨_, by simp, ax_le_rfl rfl⟩, (List.forall_mem_cons.mpr ⟨⟨_, by simp, ax_le_rfl rfl⟩, (List.forall_mem_cons.mpr ⟨⟨_, by simp, ax_le_rfl rfl⟩, (List.forall_mem_cons.mpr ⟨⟨_, by simp, ax_le_rfl rfl⟩, (List.forall_mem_cons.mpr ⟨⟨_, by simp, ax_le_rfl rfl⟩, (fun _ h => absurd h List.not_mem_nil)⟩)⟩)⟩)⟩)⟩)⟩)⟩)⟩)⟩)⟩)⟩)⟩)⟩)⟩) ?_
            refine l8 hlst (Y := dr A v) (N := B) hD (dr_a A hA v (by omega)).1 hb hB b1 e5 hf (fun u9 hu9 => ?_) 64 0 _ _ rfl (by omega) (by show _ = (0 : Int); omega)
            rw [xx] at hu9
            simp only [Bool.false_eq_true, if_true, if_false] at hu9
            show AR _ _ _ _ _ _ _ 791 [(21, .int u9), (20, .int b), (19, .int z400), (17, .int j), (16, .int b), (15, .int a), (14, .int z), (5, .ref b5), (4, .ref 183), (3, .ref 182), (2, .ref 181), (1, .ref 0), (0, .ref 1000000001)] [] g _ _
            refine AR.s (pc' := 793) (lv' := [(21, .int u9), (20, .int b), (19, .int z400), (17, .int j), (16, .int b), (15, .int a), (14, .int z), (5, .ref b5), (4, .ref 183), (3, .ref 182), (2, .ref 181), (1, .ref 0), (0, .ref 1000000001)]) (st' := [.int u9]) (h' := g) _ hn_285 hk_285_791 rfl ?_
            refine AR.s (pc' := 795) (lv' := [(21, .int u9), (20, .int b), (19, .int z400), (17, .int j), (16, .int b), (15, .int a), (14, .int z), (5, .ref b5), (4, .ref 183), (3, .ref 182), (2, .ref 181), (1, .ref 0), (0, .ref 1000000001)]) (st' := [.int j, .int u9]) (h' := g) _ hn_285 hk_285_793 rfl ?_
            refine AW.zlt hk_285_795 (tgt := 802) (by decide) (fun q1 => ?_) (fun q2 => ?_)
            · exact absurd q1 (by omega)
            · refine AW.iconstT hk_285_798 (by decide) (fun z406 ez406 => ?_)
              show AR _ _ _ _ _ _ _ 799 [(21, .int u9), (20, .int b), (19, .int z400), (17, .int j), (16, .int b), (15, .int a), (14, .int z), (5, .ref b5), (4, .ref 183), (3, .ref 182), (2, .ref 181), (1, .ref 0), (0, .ref 1000000001)] [.int z406, .int u9] g _ _
              refine AW.gotoT hk_285_799 (tgt := 803) (by decide) ?_
              refine AW.jeq hk_285_803 (tgt := 813) (by decide) (fun e1 => ?_) (fun e2 => ?_)
              · refine AW.iincT hk_285_813 (x := j) rfl (by rw [hn_285]; decide) (by decide) (by omega) (by omega) (fun z407 ez407 => ?_)
                show AR _ _ _ _ _ _ _ 816 [(17, .int z407), (21, .int u9), (20, .int b), (19, .int z400), (16, .int b), (15, .int a), (14, .int z), (5, .ref b5), (4, .ref 183), (3, .ref 182), (2, .ref 181), (1, .ref 0), (0, .ref 1000000001)] [] g _ _
                refine AW.gotoT hk_285_816 (tgt := 658) (by decide) ?_
                refine AR.lessL (lv' := [(17, .int z407), (16, .int b), (15, .int a), (14, .int z), (5, .ref b5), (4, .ref 183), (3, .ref 182), (2, .ref 181), (1, .ref 0), (0, .ref 1000000001)]) (List.forall_mem_cons.mpr ⟨⟨_, by simp, ax_le_rfl rfl⟩, (List.forall_mem_cons.mpr ⟨⟨_, by simp, ax_le_rfl rfl⟩, (List.forall_mem_cons.mpr ⟨⟨_, by simp, ax_le_rfl rfl⟩, (List.forall_mem_cons.mpr ⟨⟨_, by simp, ax_le_rfl rfl⟩, (List.forall_mem_cons.mpr ⟨⟨_, by simp, ax_le_rfl rfl⟩, (List.forall_mem_cons.mpr ⟨⟨_, by simp, ax_le_rfl rfl⟩, (List.forall_mem_cons.mpr ⟨⟨_, by simp, ax_le_rfl rfl⟩, (List.forall_mem_cons.mpr ⟨⟨_, by simp, ax_le_rfl rfl⟩, (List.forall_mem_cons.mpr ⟨⟨_, by simp, ax_le_rfl rfl⟩, (List.forall_mem_cons.mpr ⟨⟨_, by simp, ax_le_rfl rfl⟩, (fun _ h => absurd h List.not_mem_nil)⟩)⟩)⟩)⟩)⟩)⟩)⟩)⟩)⟩)⟩) ?_
                exact ih _ (by omega) (by omega)
              · exact absurd (by omega) e2
          · exact absurd s2 (by omega)
      · refine AW.bipushT hk_285_670 (by decide) (fun z358 ez358 => ?_)
        show AR _ _ _ _ _ _ _ 672 [(17, .int j), (16, .int b), (15, .int a), (14, .int z), (5, .ref b5), (4, .ref 183), (3, .ref 182), (2, .ref 181), (1, .ref 0), (0, .ref 1000000001)] [.int z358] g _ _
        refine AW.gotoT hk_285_672 (tgt := 681) (by decide) ?_
        refine AR.s (pc' := 683) (lv' := [(18, .int z358), (17, .int j), (16, .int b), (15, .int a), (14, .int z), (5, .ref b5), (4, .ref 183), (3, .ref 182), (2, .ref 181), (1, .ref 0), (0, .ref 1000000001)]) (st' := []) (h' := g) _ hn_285 hk_285_681 rfl ?_
        refine AR.s (pc' := 685) (lv' := [(18, .int z358), (17, .int j), (16, .int b), (15, .int a), (14, .int z), (5, .ref b5), (4, .ref 183), (3, .ref 182), (2, .ref 181), (1, .ref 0), (0, .ref 1000000001)]) (st' := [.int z358]) (h' := g) _ hn_285 hk_285_683 rfl ?_
        refine AW.iconstT hk_285_685 (by decide) (fun z359 ez359 => ?_)
        show AR _ _ _ _ _ _ _ 686 [(18, .int z358), (17, .int j), (16, .int b), (15, .int a), (14, .int z), (5, .ref b5), (4, .ref 183), (3, .ref 182), (2, .ref 181), (1, .ref 0), (0, .ref 1000000001)] [.int z359, .int z358] g _ _
        refine AW.parT hk_285_686 ez359 (by omega) (fun z360 ez360 => ?_)
        show AR _ _ _ _ _ _ _ 687 [(18, .int z358), (17, .int j), (16, .int b), (15, .int a), (14, .int z), (5, .ref b5), (4, .ref 183), (3, .ref 182), (2, .ref 181), (1, .ref 0), (0, .ref 1000000001)] [.int z360] g _ _
        refine AW.zne hk_285_687 (tgt := 704) (by decide) (fun r1 => ?_) (fun r2 => ?_)
        · exact absurd (by omega) r1
        · refine AR.s (pc' := 692) (lv' := [(18, .int z358), (17, .int j), (16, .int b), (15, .int a), (14, .int z), (5, .ref b5), (4, .ref 183), (3, .ref 182), (2, .ref 181), (1, .ref 0), (0, .ref 1000000001)]) (st' := [.int a]) (h' := g) _ hn_285 hk_285_690 rfl ?_
          refine AW.iconstT hk_285_692 (by decide) (fun z361 ez361 => ?_)
          show AR _ _ _ _ _ _ _ 693 [(18, .int z358), (17, .int j), (16, .int b), (15, .int a), (14, .int z), (5, .ref b5), (4, .ref 183), (3, .ref 182), (2, .ref 181), (1, .ref 0), (0, .ref 1000000001)] [.int z361, .int a] g _ _
          refine AR.s (pc' := 695) (lv' := [(18, .int z358), (17, .int j), (16, .int b), (15, .int a), (14, .int z), (5, .ref b5), (4, .ref 183), (3, .ref 182), (2, .ref 181), (1, .ref 0), (0, .ref 1000000001)]) (st' := [.int z358, .int z361, .int a]) (h' := g) _ hn_285 hk_285_693 rfl ?_
          refine AW.iconstT hk_285_695 (by decide) (fun z362 ez362 => ?_)
          show AR _ _ _ _ _ _ _ 696 [(18, .int z358), (17, .int j), (16, .int b), (15, .int a), (14, .int z), (5, .ref b5), (4, .ref 183), (3, .ref 182), (2, .ref 181), (1, .ref 0), (0, .ref 1000000001)] [.int z362, .int z358, .int z361, .int a] g _ _
          refine AW.halfT hk_285_696 ez362 (by omega) (fun z363 ez363 => ?_)
          show AR _ _ _ _ _ _ _ 697 [(18, .int z358), (17, .int j), (16, .int b), (15, .int a), (14, .int z), (5, .ref b5), (4, .ref 183), (3, .ref 182), (2, .ref 181), (1, .ref 0), (0, .ref 1000000001)] [.int z363, .int z361, .int a] g _ _
          refine AR.ishl (z := .int (z361 <<< (z363 &&& 31))) (ax_look_ok hk_285_697).1 rfl ?_
          generalize gz364 : z361 <<< (z363 &&& 31) = z364
          show AR _ _ _ _ _ _ _ 698 [(18, .int z358), (17, .int j), (16, .int b), (15, .int a), (14, .int z), (5, .ref b5), (4, .ref 183), (3, .ref 182), (2, .ref 181), (1, .ref 0), (0, .ref 1000000001)] [.int z364, .int a] g _ _
          refine AW.iconstT hk_285_698 (by decide) (fun z365 ez365 => ?_)
          show AR _ _ _ _ _ _ _ 699 [(18, .int z358), (17, .int j), (16, .int b), (15, .int a), (14, .int z), (5, .ref b5), (4, .ref 183), (3, .ref 182), (2, .ref 181), (1, .ref 0), (0, .ref 1000000001)] [.int z365, .int z364, .int a] g _ _
          refine AR.ixor (z := .int (z364 ^^^ z365)) (ax_look_ok hk_285_699).1 rfl ?_
          generalize gz366 : z364 ^^^ z365 = z366
          show AR _ _ _ _ _ _ _ 700 [(18, .int z358), (17, .int j), (16, .int b), (15, .int a), (14, .int z), (5, .ref b5), (4, .ref 183), (3, .ref 182), (2, .ref 181), (1, .ref 0), (0, .ref 1000000001)] [.int z366, .int a] g _ _
          have hD := dq_12 ha hA (y := z363) (by omega) ez361 ez365
          rw [gz364, gz366] at hD
          refine AR.iand (z := .int (a &&& z366)) (ax_look_ok hk_285_700).1 rfl ?_
          generalize gz367 : a &&& z366 = z367
          show AR _ _ _ _ _ _ _ 701 [(18, .int z358), (17, .int j), (16, .int b), (15, .int a), (14, .int z), (5, .ref b5), (4, .ref 183), (3, .ref 182), (2, .ref 181), (1, .ref 0), (0, .ref 1000000001)] [.int z367] g _ _
          rw [gz367] at hD
          show AR _ _ _ _ _ _ _ 701 [(18, .int z358), (17, .int j), (16, .int b), (15, .int a), (14, .int z), (5, .ref b5), (4, .ref 183), (3, .ref 182), (2, .ref 181), (1, .ref 0), (0, .ref 1000000001)] [.int z367] g _ _
          refine AW.gotoT hk_285_701 (tgt := 706) (by decide) ?_
          refine AR.s (pc' := 708) (lv' := [(19, .int z367), (18, .int z358), (17, .int j), (16, .int b), (15, .int a), (14, .int z), (5, .ref b5), (4, .ref 183), (3, .ref 182), (2, .ref 181), (1, .ref 0), (0, .ref 1000000001)]) (st' := []) (h' := g) _ hn_285 hk_285_706 rfl ?_
          refine AR.s (pc' := 710) (lv' := [(19, .int z367), (18, .int z358), (17, .int j), (16, .int b), (15, .int a), (14, .int z), (5, .ref b5), (4, .ref 183), (3, .ref 182), (2, .ref 181), (1, .ref 0), (0, .ref 1000000001)]) (st' := [.int z358]) (h' := g) _ hn_285 hk_285_708 rfl ?_
          refine AW.iconstT hk_285_710 (by decide) (fun z368 ez368 => ?_)
          show AR _ _ _ _ _ _ _ 711 [(19, .int z367), (18, .int z358), (17, .int j), (16, .int b), (15, .int a), (14, .int z), (5, .ref b5), (4, .ref 183), (3, .ref 182), (2, .ref 181), (1, .ref 0), (0, .ref 1000000001)] [.int z368, .int z358] g _ _
          refine AW.parT hk_285_711 ez368 (by omega) (fun z369 ez369 => ?_)
          show AR _ _ _ _ _ _ _ 712 [(19, .int z367), (18, .int z358), (17, .int j), (16, .int b), (15, .int a), (14, .int z), (5, .ref b5), (4, .ref 183), (3, .ref 182), (2, .ref 181), (1, .ref 0), (0, .ref 1000000001)] [.int z369] g _ _
          refine AW.iconstT hk_285_712 (by decide) (fun z370 ez370 => ?_)
          show AR _ _ _ _ _ _ _ 713 [(19, .int z367), (18, .int z358), (17, .int j), (16, .int b), (15, .int a), (14, .int z), (5, .ref b5), (4, .ref 183), (3, .ref 182), (2, .ref 181), (1, .ref 0), (0, .ref 1000000001)] [.int z370, .int z369] g _ _
          refine AW.jne hk_285_713 (tgt := 730) (by decide) (fun s1 => ?_) (fun s2 => ?_)
          · refine AR.s (pc' := 732) (lv' := [(19, .int z367), (18, .int z358), (17, .int j), (16, .int b), (15, .int a), (14, .int z), (5, .ref b5), (4, .ref 183), (3, .ref 182), (2, .ref 181), (1, .ref 0), (0, .ref 1000000001)]) (st' := [.int b]) (h' := g) _ hn_285 hk_285_730 rfl ?_
            refine AR.s (pc' := 734) (lv' := [(20, .int b), (19, .int z367), (18, .int z358), (17, .int j), (16, .int b), (15, .int a), (14, .int z), (5, .ref b5), (4, .ref 183), (3, .ref 182), (2, .ref 181), (1, .ref 0), (0, .ref 1000000001)]) (st' := []) (h' := g) _ hn_285 hk_285_732 rfl ?_
            refine AW.iconstT hk_285_734 (by decide) (fun z371 ez371 => ?_)
            show AR _ _ _ _ _ _ _ 735 [(20, .int b), (19, .int z367), (18, .int z358), (17, .int j), (16, .int b), (15, .int a), (14, .int z), (5, .ref b5), (4, .ref 183), (3, .ref 182), (2, .ref 181), (1, .ref 0), (0, .ref 1000000001)] [.int z371] g _ _
            refine AR.s (pc' := 737) (lv' := [(21, .int z371), (20, .int b), (19, .int z367), (18, .int z358), (17, .int j), (16, .int b), (15, .int a), (14, .int z), (5, .ref b5), (4, .ref 183), (3, .ref 182), (2, .ref 181), (1, .ref 0), (0, .ref 1000000001)]) (st' := []) (h' := g) _ hn_285 hk_285_735 rfl ?_
            refine AW.iconstT hk_285_737 (by decide) (fun z372 ez372 => ?_)
            show AR _ _ _ _ _ _ _ 738 [(21, .int z371), (20, .int b), (19, .int z367), (18, .int z358), (17, .int j), (16, .int b), (15, .int a), (14, .int z), (5, .ref b5), (4, .ref 183), (3, .ref 182), (2, .ref 181), (1, .ref 0), (0, .ref 1000000001)] [.int z372] g _ _
            refine AR.s (pc' := 740) (lv' := [(22, .int z372), (21, .int z371), (20, .int b), (19, .int z367), (18, .int z358), (17, .int j), (16, .int b), (15, .int a), (14, .int z), (5, .ref b5), (4, .ref 183), (3, .ref 182), (2, .ref 181), (1, .ref 0), (0, .ref 1000000001)]) (st' := []) (h' := g) _ hn_285 hk_285_738 rfl ?_
            refine AR.lessL (lv' := [(22, .int z372), (21, .int z371), (20, .int b), (19, .int z367), (17, .int j), (16, .int b), (15, .int a), (14, .int z), (5, .ref b5), (4, .ref 183), (3, .ref 182), (2, .ref 181), (1, .ref 0), (0, .ref 1000000001)]) (List.forall_mem_cons.mpr ⟨⟨_, by simp, ax_le_rfl rfl⟩, (List.forall_mem_cons.mpr ⟨⟨_, by simp, ax_le_rfl rfl⟩, (List.forall_mem_cons.mpr ⟨⟨_, by simp, ax_le_rfl rfl⟩, (List.forall_mem_cons.mpr ⟨⟨_, by simp, ax_le_rfl rfl⟩, (List.forall_mem_cons.mpr ⟨⟨_, by simp, ax_le_rfl rfl⟩, (List.forall_mem_cons.mpr ⟨⟨_, by simp, ax_le_rfl rfl⟩, (List.forall_mem_cons.mpr ⟨⟨_, by simp, ax_le_rfl rfl⟩, (List.forall_mem_cons.mpr ⟨⟨_, by simp, ax_le_rfl rfl⟩, (List.forall_mem_cons.mpr ⟨⟨_, by simp, ax_le_rfl rfl⟩, (List.forall_mem_cons.mpr ⟨⟨_, by simp, ax_le_rfl rfl⟩, (List.forall_mem_cons.mpr ⟨⟨_, by simp, ax_le_rfl rfl⟩, (List.forall_mem_cons.mpr ⟨⟨_, by simp, ax_le_rfl rfl⟩, (List.forall_mem_cons.mpr ⟨⟨_, by simp, ax_le_rfl rfl⟩, (List.forall_mem_cons.mpr ⟨⟨_, by simp, ax_le_rfl rfl⟩, (fun _ h => absurd h List.not_mem_nil)⟩)⟩)⟩)⟩)⟩)⟩)⟩)⟩)⟩)⟩)⟩)⟩)⟩)⟩) ?_
            refine l8 hlst (Y := A) (N := B) hD hA hb hB b1 e5 hf (fun u9 hu9 => ?_) 64 0 _ _ rfl (by omega) (by show _ = (0 : Int); omega)
            rw [x0] at hu9
            simp only [Bool.false_eq_true, if_true, if_false] at hu9
            show AR _ _ _ _ _ _ _ 791 [(21, .int u9), (20, .int b), (19, .int z367), (17, .int j), (16, .int b), (15, .int a), (14, .int z), (5, .ref b5), (4, .ref 183), (3, .ref 182), (2, .ref 181), (1, .ref 0), (0, .ref 1000000001)] [] g _ _
            refine AR.s (pc' := 793) (lv' := [(21, .int u9), (20, .int b), (19, .int z367), (17, .int j), (16, .int b), (15, .int a), (14, .int z), (5, .ref b5), (4, .ref 183), (3, .ref 182), (2, .ref 181), (1, .ref 0), (0, .ref 1000000001)]) (st' := [.int u9]) (h' := g) _ hn_285 hk_285_791 rfl ?_
            refine AR.s (pc' := 795) (lv' := [(21, .int u9), (20, .int b), (19, .int z367), (17, .int j), (16, .int b), (15, .int a), (14, .int z), (5, .ref b5), (4, .ref 183), (3, .ref 182), (2, .ref 181), (1, .ref 0), (0, .ref 1000000001)]) (st' := [.int j, .int u9]) (h' := g) _ hn_285 hk_285_793 rfl ?_
            refine AW.zlt hk_285_795 (tgt := 802) (by decide) (fun q1 => ?_) (fun q2 => ?_)
            · refine AW.iconstT hk_285_802 (by decide) (fun z373 ez373 => ?_)
              show AR _ _ _ _ _ _ _ 803 [(21, .int u9), (20, .int b), (19, .int z367), (17, .int j), (16, .int b), (15, .int a), (14, .int z), (5, .ref b5), (4, .ref 183), (3, .ref 182), (2, .ref 181), (1, .ref 0), (0, .ref 1000000001)] [.int z373, .int u9] g _ _
              refine AW.jeq hk_285_803 (tgt := 813) (by decide) (fun e1 => ?_) (fun e2 => ?_)
              · refine AW.iincT hk_285_813 (x := j) rfl (by rw [hn_285]; decide) (by decide) (by omega) (by omega) (fun z374 ez374 => ?_)
                show AR _ _ _ _ _ _ _ 816 [(17, .int z374), (21, .int u9), (20, .int b), (19, .int z367), (16, .int b), (15, .int a), (14, .int z), (5, .ref b5), (4, .ref 183), (3, .ref 182), (2, .ref 181), (1, .ref 0), (0, .ref 1000000001)] [] g _ _
                refine AW.gotoT hk_285_816 (tgt := 658) (by decide) ?_
                refine AR.lessL (lv' := [(17, .int z374), (16, .int b), (15, .int a), (14, .int z), (5, .ref b5), (4, .ref 183), (3, .ref 182), (2, .ref 181), (1, .ref 0), (0, .ref 1000000001)]) (List.forall_mem_cons.mpr ⟨⟨_, by simp, ax_le_rfl rfl⟩, (List.forall_mem_cons.mpr ⟨⟨_, by simp, ax_le_rfl rfl⟩, (List.forall_mem_cons.mpr ⟨⟨_, by simp, ax_le_rfl rfl⟩, (List.forall_mem_cons.mpr ⟨⟨_, by simp, ax_le_rfl rfl⟩, (List.forall_mem_cons.mpr ⟨⟨_, by simp, ax_le_rfl rfl⟩, (List.forall_mem_cons.mpr ⟨⟨_, by simp, ax_le_rfl rfl⟩, (List.forall_mem_cons.mpr ⟨⟨_, by simp, ax_le_rfl rfl⟩, (List.forall_mem_cons.mpr ⟨⟨_, by simp, ax_le_rfl rfl⟩, (List.forall_mem_cons.mpr ⟨⟨_, by simp, ax_le_rfl rfl⟩, (List.forall_mem_cons.mpr ⟨⟨_, by simp, ax_le_rfl rfl⟩, (fun _ h => absurd h List.not_mem_nil)⟩)⟩)⟩)⟩)⟩)⟩)⟩)⟩)⟩)⟩) ?_
                exact ih _ (by omega) (by omega)
              · exact absurd (by omega) e2
            · exact absurd q2 (by omega)
          · exact absurd s2 (by omega)
end LWH
