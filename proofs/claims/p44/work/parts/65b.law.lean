/-! p44, 9: the law's body, on -/

section LWG
variable {l : Launch} {h : ax_H} {x : Int32}
theorem AW.nz {d i pc : Nat} {r : ax_H} {P : ax_P} {X : ax_PX} {lv : List (Nat × Value)} {st : List Value} {bc bs' b cc : Nat} {v : Value} {ws : List Nat} {t : ArrayType} {N : Nat} (hl : ax_look i pc = some (.newarray t, (2, b, cc), v, ws)) (hx : x.toInt = N) (hN : N ≤ 60000000) (k : AR ax_ns l (ax_mm i) d r P X (pc + 2) lv (.ref h.length :: st) (h ++ [(102, List.replicate N (.int 0))]) bc bs') : AR ax_ns l (ax_mm i) d r P X pc lv (.int x :: st) h (bc + 1) (bs' + N) := by
  obtain ⟨hd, hok⟩ := ax_look_ok hl
  refine ax_one_ok (pc' := pc + 2) (lv' := lv) (st' := .ref h.length :: st) (h' := h ++ [(102, List.replicate N (.int 0))]) (dc := 1) (ds := N) hd hok ?_ k
  have e : x.toNatClampNeg = N := by show x.toInt.toNat = N; omega
  have hn : ¬ (x < 0 ∨ 60000000 < N ∨ 2 = 900) := by
    rintro (z | z | z)
    · exact (hj_nn (by omega)).1 z
    · omega
    · cases z
  have ht : ax_tys[2]? = some .boolean := rfl
  simp only [ax_one, ht, e]
  rw [if_neg hn, ax_ha_eq]
  rfl
def bi (b : Bool) : Int32 := if b then 1 else 0
theorem bi_i (b : Bool) : (bi b).toInt = if b then 1 else 0 := by cases b <;> rfl
theorem bi_of {y : Int32} {b : Bool} (h : y.toInt = if b then 1 else 0) : y = bi b := Int32.toInt_inj.mp (by rw [h, bi_i])
/-- all of F are in G -/
def im (F G : Nat → Bool) : Nat → Bool
  | 0 => true
  | m + 1 => im F G m && (!F m || G m)
theorem im_iff {F G : Nat → Bool} : ∀ n, im F G n = true ↔ ∀ k, k < n → F k = true → G k = true
  | 0 => ⟨fun _ k hk => absurd hk (by omega), fun _ => rfl⟩
  | n + 1 => by
    show (im F G n && (!F n || G n)) = true ↔ _
    rw [Bool.and_eq_true_iff, im_iff n]
    constructor
    · rintro ⟨a, b⟩ k hk e
      rcases (by omega : k < n ∨ k = n) with q | rfl
      · exact a k q e
      · rw [e] at b; exact b
    · intro a
      refine ⟨fun k hk e => a k (by omega) e, ?_⟩
      cases e : F n with
      | false => rfl
      | true => rw [a n (by omega) e]; rfl
/-- some of F is in G -/
def ex (F G : Nat → Bool) : Nat → Bool
  | 0 => false
  | m + 1 => ex F G m || (F m && G m)
theorem ex_iff {F G : Nat → Bool} : ∀ n, ex F G n = true ↔ ∃ k, k < n ∧ F k = true ∧ G k = true
  | 0 => ⟨fun h => (by cases h), fun ⟨k, hk, _⟩ => absurd hk (by omega)⟩
  | n + 1 => by
    show (ex F G n || (F n && G n)) = true ↔ _
    rw [Bool.or_eq_true_iff, ex_iff n, Bool.and_eq_true_iff]
    constructor
    · rintro (⟨k, hk, e⟩ | e)
      · exact ⟨k, by omega, e⟩
      · exact ⟨n, by omega, e⟩
    · rintro ⟨k, hk, e⟩
      rcases (by omega : k < n ∨ k = n) with q | rfl
      · exact Or.inl ⟨k, q, e⟩
      · exact Or.inr e
theorem ma_split (Y N k : Nat) : ∀ n, ma Y N n k = (ma Y 0 n k && ma 0 N n k)
  | 0 => rfl
  | n + 1 => by
    show ((ma Y N n k && (!(Y.testBit n) || k.testBit n)) && (!(N.testBit n) || !(k.testBit n))) = (((ma Y 0 n k && (!(Y.testBit n) || k.testBit n)) && (!((0 : Nat).testBit n) || !(k.testBit n))) && ((ma 0 N n k && (!((0 : Nat).testBit n) || k.testBit n)) && (!(N.testBit n) || !(k.testBit n))))
    rw [ma_split Y N k n, Nat.zero_testBit]
    cases ma Y 0 n k <;> cases ma 0 N n k <;> cases Y.testBit n <;> cases N.testBit n <;> cases k.testBit n <;> rfl
theorem ma_Y : ∀ Y, Y < 64 → ∀ k, k < 64 → ma Y 0 6 k = decide (k &&& Y = Y) := by decide +kernel
theorem ma_N : ∀ N, N < 64 → ∀ k, k < 64 → ma 0 N 6 k = decide (k &&& N = 0) := by decide +kernel
theorem ma_and {Y N k : Nat} (hY : Y < 64) (hN : N < 64) (hk : k < 64) : ma Y N 6 k = (decide (k &&& Y = Y) && decide (k &&& N = 0)) := by rw [ma_split, ma_Y Y hY k hk, ma_N N hN k hk]
theorem nt_a : ∀ a, a < 64 → ∀ b, b < 64 → Int32.ofNat a &&& (Int32.ofNat b ^^^ (-1)) = Int32.ofNat (a &&& (63 - b)) ∧ a &&& (63 - b) < 64 ∧ b &&& (a &&& (63 - b)) = 0 ∧ (a &&& b = a → a &&& (63 - b) = 0) := by decide +kernel
theorem nt_of {x y o : Int32} {A B : Nat} (hx : x.toInt = A) (hA : A < 64) (hy : y.toInt = B) (hB : B < 64) (ho : o.toInt = -1) : (x &&& (y ^^^ o)).toInt = ((A &&& (63 - B) : Nat) : Int) := by
  obtain ⟨e, h, -⟩ := nt_a A hA B hB
  rw [p_of64 hx hA, p_of64 hy hB, show o = -1 from Int32.toInt_inj.mp (ho.trans rfl), e]
  exact Int32.toInt_ofNat_of_lt (by omega)
theorem dq_a : ∀ V, V < 64 → (∀ v, v < 12 → Int32.ofNat V &&& (((1 : Int32) <<< (Int32.ofNat v &&& 31)) ^^^ (-1)) = Int32.ofNat (dr V v)) ∧ Int32.ofNat V &&& (((1 : Int32) <<< (Int32.ofNat 12 &&& 31)) ^^^ (-1)) = Int32.ofNat V := by decide +kernel
theorem dr_a : ∀ V, V < 64 → ∀ v, v < 12 → dr V v < 64 ∧ (V.testBit v = false → dr V v = V) := by decide +kernel
theorem dq_of {x y o m : Int32} {A v : Nat} (hx : x.toInt = A) (hA : A < 64) (hy : y.toInt = v) (hv : v < 12) (ho : o.toInt = 1) (hm : m.toInt = -1) : (x &&& ((o <<< (y &&& 31)) ^^^ m)).toInt = ((dr A v : Nat) : Int) := by
  rw [p_of64 hx hA, p_of64 hy (by omega), show o = 1 from Int32.toInt_inj.mp (ho.trans rfl), show m = -1 from Int32.toInt_inj.mp (hm.trans rfl), (dq_a A hA).1 v hv]
  exact Int32.toInt_ofNat_of_lt (by have := (dr_a A hA v hv).1; omega)
theorem dq_12 {x y o m : Int32} {A : Nat} (hx : x.toInt = A) (hA : A < 64) (hy : y.toInt = 12) (ho : o.toInt = 1) (hm : m.toInt = -1) : (x &&& ((o <<< (y &&& 31)) ^^^ m)).toInt = (A : Int) := by
  rw [p_of64 hx hA, p_of64 (n := 12) hy (by omega), show o = 1 from Int32.toInt_inj.mp (ho.trans rfl), show m = -1 from Int32.toInt_inj.mp (hm.trans rfl), (dq_a A hA).2]
  exact Int32.toInt_ofNat_of_lt (by omega)
theorem dr_land (Y V v : Nat) : Y &&& dr V v = dr (Y &&& V) v := by
  unfold dr
  rw [Nat.and_assoc]
-- the literals of a reason, in order
theorem w_cex {U : Nat → Bool} {j : Nat} : ∀ n, j < cnt U n → ∃ k, k < n ∧ U k = true ∧ cnt U k = j
  | 0, h => absurd h (Nat.not_lt_zero _)
  | n + 1, h => by
    have h : j < cnt U n + if U n then 1 else 0 := h
    by_cases e : j < cnt U n
    · obtain ⟨k, a, b⟩ := w_cex n e
      exact ⟨k, by omega, b⟩
    · cases q : U n with
      | false => rw [q] at h; simp at h; omega
      | true => rw [q] at h; simp at h; exact ⟨n, by omega, q, by omega⟩
theorem w_clt {U : Nat → Bool} {k n : Nat} (hk : k < n) (e : U k = true) : cnt U k < cnt U n := by
  have h1 : cnt U (k + 1) ≤ cnt U n := cnt_mo U n (by omega)
  have h2 : cnt U (k + 1) = cnt U k + 1 := by show cnt U k + (if U k then 1 else 0) = _; rw [e]; rfl
  omega
theorem w_cin {U : Nat → Bool} {j k : Nat} (h1 : U j = true) (h2 : U k = true) (e : cnt U j = cnt U k) : j = k := by
  rcases Nat.lt_trichotomy j k with q | q | q
  · have := w_clt q h1; omega
  · exact q
  · have := w_clt q h2; omega
theorem w_one : ∀ n, n < 12 → ∀ k, k < 32 → ib ((1 : Int32) <<< (Int32.ofNat n &&& 31)) k = decide (k = n) := by decide +kernel
theorem w_bit {o s : Int32} {n k : Nat} (ho : o.toInt = 1) (hs : s.toInt = n) (hn : n < 12) (hk : k < 32) : ib (o <<< (s &&& 31)) k = decide (k = n) := by
  rw [show o = 1 from Int32.toInt_inj.mp (ho.trans rfl), p_of64 hs (by omega)]
  exact w_one n hn k hk
theorem w_nb : ∀ A, A < 64 → ∀ k, k < 32 → ib (Int32.ofNat A) k = A.testBit k := by decide +kernel
theorem w_out : ∀ A, A < 64 → ∀ k, k < 32 → 6 ≤ k → A.testBit k = false := by decide +kernel
theorem w_is {a : Int32} {A : Nat} (hA : A < 64) (h : ∀ k, k < 32 → ib a k = A.testBit k) : a.toInt = A := by
  rw [show a = Int32.ofNat A from Int32.toBitVec_inj.mp (BitVec.eq_of_getLsbD_eq (fun k hk => (h k hk).trans (w_nb A hA k hk).symm))]
  exact Int32.toInt_ofNat_of_lt (by omega)
theorem w_yn : ∀ Y, Y < 64 → ∀ N, N < 64 → Y &&& N = 0 → ∀ v, v < 6 → Y.testBit v = true → N.testBit v = false := by decide +kernel
/-- the true and the false variables of a reason -/
theorem w_uV {Y N V : Nat} (hY : Y < 64) (hN : N < 64) (hYN : Y &&& N = 0) (hV : V < 64) (hs : ∀ k, k < 12 → V.testBit k = true → (Y ||| N).testBit k = true) {v : Nat} (hv : v < 12) : (Y &&& V).testBit v = uV V N (2 * v) ∧ (N &&& V).testBit v = uV V N (2 * v + 1) := by
  unfold uV
  rw [show 2 * v / 2 = v by omega, show (2 * v + 1) / 2 = v by omega, decide_eq_false (show ¬ 2 * v % 2 = 1 by omega), decide_eq_true (show (2 * v + 1) % 2 = 1 by omega), Nat.testBit_and, Nat.testBit_and]
  have h1 := hs v hv
  rw [Nat.testBit_or] at h1
  have h2 : Y.testBit v = true → N.testBit v = false := fun e => by
    by_cases q : v < 6
    · exact w_yn Y hY N hN hYN v q e
    · rw [w_out Y hY v (by omega) (by omega)] at e; cases e
  cases eV : V.testBit v <;> cases eY : Y.testBit v <;> cases eN : N.testBit v <;> simp [eV, eY, eN] at h1 h2 ⊢
end LWG
section LWH
variable {l : Launch} {h g : ax_H} {n p L b5 : Nat} {xs : Nat → Int32} {F : Nat → Bool} {P : ax_P} {X : ax_PX} {bc bs : Nat} {f : Nat → Int32}
def S3 (L : Nat) (xs : Nat → Int32) (h : ax_H) (b5 : Nat) (f : Nat → Int32) : Prop := LI h 9 (FF L xs 4) 3200 ∧ (∃ fr fd fa, AA h fr fd fa ∧ AV L xs 4 fr fd fa) ∧ h[b5]? = some (102, ar 64 f) ∧ 184 ≤ b5 ∧ b5 < 1000000000
theorem S3.set (S : S3 L xs h b5 f) {f' : Nat → Int32} (H : hy_H 0 g) (M : lf [b5] h g) (B : g[b5]? = some (102, ar 64 f')) : S3 L xs g b5 f' := by
  obtain ⟨s1, ⟨fr, fd, fa, A, V⟩, s3, s4, s5⟩ := S
  exact ⟨s1.mv M (fun q hq => by rw [List.mem_singleton.mp hq]; omega) H (by decide), ⟨fr, fd, fa, A.lf M (fun q hq => Or.inr (by rw [List.mem_singleton.mp hq]; exact s4)), V⟩, B, s4, s5⟩
theorem l3i (hlst : l.stackTraces = false) (hL : L ≤ 3072) {i v : Int32} {m : Nat} (hi : i.toInt = m) (hm : m < 64) (K : ∀ g f, S3 L xs g b5 f → (∀ k, k < m + 1 → f k = bi (FF L xs 4 k)) → AR ax_ns l (ax_mm 285) 8 (ax_r L xs) P X 311 [(7, .int i), (6, .int v), (5, .ref b5), (4, .ref 183), (3, .ref 182), (2, .ref 181), (1, .ref 0), (0, .ref 1000000001)] [] g (bc) (bs)) : ∀ (n q : Nat) (g : ax_H) (j : Int32) (f : Nat → Int32), q + n = 4 → j.toInt = q → S3 L xs g b5 f → (∀ k, k < m → f k = bi (FF L xs 4 k)) → f m = bi (FF L xs q m) → AR ax_ns l (ax_mm 285) 8 (ax_r L xs) P X 259 [(8, .int j), (7, .int i), (6, .int v), (5, .ref b5), (4, .ref 183), (3, .ref 182), (2, .ref 181), (1, .ref 0), (0, .ref 1000000001)] [] g (bc) (bs) := by
  intro n
  induction n with
  | zero =>
    intro q g j f hn hj S hf hq
    show AR _ _ _ _ _ _ _ 259 [(8, .int j), (7, .int i), (6, .int v), (5, .ref b5), (4, .ref 183), (3, .ref 182), (2, .ref 181), (1, .ref 0), (0, .ref 1000000001)] [] g _ _
    refine AR.s (pc' := 261) (lv' := [(8, .int j), (7, .int i), (6, .int v), (5, .ref b5), (4, .ref 183), (3, .ref 182), (2, .ref 181), (1, .ref 0), (0, .ref 1000000001)]) (st' := [.int j]) (h' := g) _ hn_285 hk_285_259 rfl ?_
    refine AW.iconstT hk_285_261 (by decide) (fun z273 ez273 => ?_)
    show AR _ _ _ _ _ _ _ 262 [(8, .int j), (7, .int i), (6, .int v), (5, .ref b5), (4, .ref 183), (3, .ref 182), (2, .ref 181), (1, .ref 0), (0, .ref 1000000001)] [.int z273, .int j] g _ _
    refine AW.jge hk_285_262 (tgt := 311) (by decide) (fun p1 => ?_) (fun p2 => ?_)
    · obtain rfl : q = 4 := by omega
      refine AR.lessL (lv' := [(7, .int i), (6, .int v), (5, .ref b5), (4, .ref 183), (3, .ref 182), (2, .ref 181), (1, .ref 0), (0, .ref 1000000001)]) (List.forall_mem_cons.mpr ⟨⟨_, by simp, ax_le_rfl rfl⟩, (List.forall_mem_cons.mpr ⟨⟨_, by simp, ax_le_rfl rfl⟩, (List.forall_mem_cons.mpr ⟨⟨_, by simp, ax_le_rfl rfl⟩, (List.forall_mem_cons.mpr ⟨⟨_, by simp, ax_le_rfl rfl⟩, (List.forall_mem_cons.mpr ⟨⟨_, by simp, ax_le_rfl rfl⟩, (List.forall_mem_cons.mpr ⟨⟨_, by simp, ax_le_rfl rfl⟩, (List.forall_mem_cons.mpr ⟨⟨_, by simp, ax_le_rfl rfl⟩, (List.forall_mem_cons.mpr ⟨⟨_, by simp, ax_le_rfl rfl⟩, (fun _ h => absurd h List.not_mem_nil)⟩)⟩)⟩)⟩)⟩)⟩)⟩)⟩) ?_
      refine K g f S (fun k hk => ?_)
      rcases (by omega : k < m ∨ k = m) with e | rfl
      · exact hf k e
      · exact hq
    · exact absurd p2 (by omega)
  | succ n ih =>
    intro q g j f hn hj S hf hq
    show AR _ _ _ _ _ _ _ 259 [(8, .int j), (7, .int i), (6, .int v), (5, .ref b5), (4, .ref 183), (3, .ref 182), (2, .ref 181), (1, .ref 0), (0, .ref 1000000001)] [] g _ _
    refine AR.s (pc' := 261) (lv' := [(8, .int j), (7, .int i), (6, .int v), (5, .ref b5), (4, .ref 183), (3, .ref 182), (2, .ref 181), (1, .ref 0), (0, .ref 1000000001)]) (st' := [.int j]) (h' := g) _ hn_285 hk_285_259 rfl ?_
    refine AW.iconstT hk_285_261 (by decide) (fun z274 ez274 => ?_)
    show AR _ _ _ _ _ _ _ 262 [(8, .int j), (7, .int i), (6, .int v), (5, .ref b5), (4, .ref 183), (3, .ref 182), (2, .ref 181), (1, .ref 0), (0, .ref 1000000001)] [.int z274, .int j] g _ _
    refine AW.jge hk_285_262 (tgt := 311) (by decide) (fun p1 => ?_) (fun p2 => ?_)
    · exact absurd p1 (by omega)
    · obtain ⟨I, ⟨fr, fd, fa, A, V⟩, e5, b0, b1⟩ := id S
      obtain ⟨v1, v2, -⟩ := V q (by omega)
      have rb := rr_bd L xs q
      show AR _ _ _ _ _ _ _ 265 [(8, .int j), (7, .int i), (6, .int v), (5, .ref b5), (4, .ref 183), (3, .ref 182), (2, .ref 181), (1, .ref 0), (0, .ref 1000000001)] [] g _ _
      refine AR.s (pc' := 267) (lv' := [(8, .int j), (7, .int i), (6, .int v), (5, .ref b5), (4, .ref 183), (3, .ref 182), (2, .ref 181), (1, .ref 0), (0, .ref 1000000001)]) (st' := [.ref b5]) (h' := g) _ hn_285 hk_285_265 rfl ?_
      refine AR.s (pc' := 269) (lv' := [(8, .int j), (7, .int i), (6, .int v), (5, .ref b5), (4, .ref 183), (3, .ref 182), (2, .ref 181), (1, .ref 0), (0, .ref 1000000001)]) (st' := [.int i, .ref b5]) (h' := g) _ hn_285 hk_285_267 rfl ?_
      refine AR.s (pc' := 271) (lv' := [(8, .int j), (7, .int i), (6, .int v), (5, .ref b5), (4, .ref 183), (3, .ref 182), (2, .ref 181), (1, .ref 0), (0, .ref 1000000001)]) (st' := [.ref b5, .int i, .ref b5]) (h' := g) _ hn_285 hk_285_269 rfl ?_
      refine AR.s (pc' := 273) (lv' := [(8, .int j), (7, .int i), (6, .int v), (5, .ref b5), (4, .ref 183), (3, .ref 182), (2, .ref 181), (1, .ref 0), (0, .ref 1000000001)]) (st' := [.int i, .ref b5, .int i, .ref b5]) (h' := g) _ hn_285 hk_285_271 rfl ?_
      refine AW.za hk_285_273 b1 e5 hi hm ?_
      rw [hq]
      have bb := bi_i (FF L xs q m)
      generalize bi (FF L xs q m) = yb at bb
      show AR _ _ _ _ _ _ _ 274 [(8, .int j), (7, .int i), (6, .int v), (5, .ref b5), (4, .ref 183), (3, .ref 182), (2, .ref 181), (1, .ref 0), (0, .ref 1000000001)] [.int yb, .int i, .ref b5] g _ _
      refine AW.zeq hk_285_274 (tgt := 303) (by decide) (fun x1 => ?_) (fun x2 => ?_)
      · have eF : FF L xs q m = false := by cases e : FF L xs q m; rfl; rw [e, if_pos rfl] at bb; omega
        refine AW.iconstT hk_285_303 (by decide) (fun z275 ez275 => ?_)
        show AR _ _ _ _ _ _ _ 304 [(8, .int j), (7, .int i), (6, .int v), (5, .ref b5), (4, .ref 183), (3, .ref 182), (2, .ref 181), (1, .ref 0), (0, .ref 1000000001)] [.int z275, .int i, .ref b5] g _ _
        have ey : z275.toInt = if FF L xs (q + 1) m then 1 else 0 := by
          show _ = if (FF L xs q m && fu (rr L xs q) (dd L xs q) (fs (sv L xs q) m 6)) then 1 else 0
          rw [eF, Bool.false_and, if_neg (by decide)]
          exact ez275
        refine AW.zas hk_285_304 I.1 (by omega) b1 e5 (Or.inr rfl) hi hm (by left; omega) (fun g1 H1 M1 B1 => ?_)
        show AR _ _ _ _ _ _ _ 305 [(8, .int j), (7, .int i), (6, .int v), (5, .ref b5), (4, .ref 183), (3, .ref 182), (2, .ref 181), (1, .ref 0), (0, .ref 1000000001)] [] g1 _ _
        refine AW.iincT hk_285_305 (x := j) rfl (by rw [hn_285]; decide) (by decide) (by omega) (by omega) (fun z276 ez276 => ?_)
        show AR _ _ _ _ _ _ _ 308 [(8, .int z276), (7, .int i), (6, .int v), (5, .ref b5), (4, .ref 183), (3, .ref 182), (2, .ref 181), (1, .ref 0), (0, .ref 1000000001)] [] g1 _ _
        refine AW.gotoT hk_285_308 (tgt := 259) (by decide) ?_
        refine AR.lessL (lv' := [(8, .int z276), (7, .int i), (6, .int v), (5, .ref b5), (4, .ref 183), (3, .ref 182), (2, .ref 181), (1, .ref 0), (0, .ref 1000000001)]) (List.forall_mem_cons.mpr ⟨⟨_, by simp, ax_le_rfl rfl⟩, (List.forall_mem_cons.mpr ⟨⟨_, by simp, ax_le_rfl rfl⟩, (List.forall_mem_cons.mpr ⟨⟨_, by simp, ax_le_rfl rfl⟩, (List.forall_mem_cons.mpr ⟨⟨_, by simp, ax_le_rfl rfl⟩, (List.forall_mem_cons.mpr ⟨⟨_, by simp, ax_le_rfl rfl⟩, (List.forall_mem_cons.mpr ⟨⟨_, by simp, ax_le_rfl rfl⟩, (List.forall_mem_cons.mpr ⟨⟨_, by simp, ax_le_rfl rfl⟩, (List.forall_mem_cons.mpr ⟨⟨_, by simp, ax_le_rfl rfl⟩, (List.forall_mem_cons.mpr ⟨⟨_, by simp, ax_le_rfl rfl⟩, (fun _ h => absurd h List.not_mem_nil)⟩)⟩)⟩)⟩)⟩)⟩)⟩)⟩)⟩) ?_
        refine ih (q + 1) g1 _ _ (by omega) (by omega) (S.set H1 M1 B1) (fun k hk => ?_) ?_
        · rw [if_neg (by omega)]; exact hf k hk
        · rw [if_pos rfl]; exact bi_of ey
      · have eF : FF L xs q m = true := by cases e : FF L xs q m; rw [e, if_neg (by decide)] at bb; omega; rfl
        show AR _ _ _ _ _ _ _ 277 [(8, .int j), (7, .int i), (6, .int v), (5, .ref b5), (4, .ref 183), (3, .ref 182), (2, .ref 181), (1, .ref 0), (0, .ref 1000000001)] [.int i, .ref b5] g _ _
        refine AR.s (pc' := 278) (lv' := [(8, .int j), (7, .int i), (6, .int v), (5, .ref b5), (4, .ref 183), (3, .ref 182), (2, .ref 181), (1, .ref 0), (0, .ref 1000000001)]) (st' := [.ref 1000000001, .int i, .ref b5]) (h' := g) _ hn_285 hk_285_277 rfl ?_
        refine AR.s (pc' := 280) (lv' := [(8, .int j), (7, .int i), (6, .int v), (5, .ref b5), (4, .ref 183), (3, .ref 182), (2, .ref 181), (1, .ref 0), (0, .ref 1000000001)]) (st' := [.int j, .ref 1000000001, .int i, .ref b5]) (h' := g) _ hn_285 hk_285_278 rfl ?_
        refine AW.cs (as := [.ref 1000000001, .int j]) (rest := [.int i, .ref b5]) hk_285_280 (by decide +kernel) rfl rfl (Nat.le_of_ble_eq_true rfl) (t_131 hlst hL (k := q) (by omega) (by omega)) (by decide) (Nat.zero_le _) (Nat.zero_le _) (fun E h' q => by cases q.2) ?_
        rintro w9 g9 ⟨ee277, e⟩
        cases e
        obtain rfl := ee277.symm
        show AR _ _ _ _ _ _ _ 283 [(8, .int j), (7, .int i), (6, .int v), (5, .ref b5), (4, .ref 183), (3, .ref 182), (2, .ref 181), (1, .ref 0), (0, .ref 1000000001)] [.int (sv L xs (q)), .int i, .ref b5] g _ _
        refine AR.s (pc' := 284) (lv' := [(8, .int j), (7, .int i), (6, .int v), (5, .ref b5), (4, .ref 183), (3, .ref 182), (2, .ref 181), (1, .ref 0), (0, .ref 1000000001)]) (st' := [.ref 181, .int (sv L xs (q)), .int i, .ref b5]) (h' := g) _ hn_285 hk_285_283 rfl ?_
        refine AR.s (pc' := 286) (lv' := [(8, .int j), (7, .int i), (6, .int v), (5, .ref b5), (4, .ref 183), (3, .ref 182), (2, .ref 181), (1, .ref 0), (0, .ref 1000000001)]) (st' := [.int j, .ref 181, .int (sv L xs (q)), .int i, .ref b5]) (h' := g) _ hn_285 hk_285_284 rfl ?_
        refine AW.ia hk_285_286 (by decide) A.1 hj (by omega) ?_
        show AR _ _ _ _ _ _ _ 287 [(8, .int j), (7, .int i), (6, .int v), (5, .ref b5), (4, .ref 183), (3, .ref 182), (2, .ref 181), (1, .ref 0), (0, .ref 1000000001)] [.int (fr q), .int (sv L xs (q)), .int i, .ref b5] g _ _
        refine AR.s (pc' := 288) (lv' := [(8, .int j), (7, .int i), (6, .int v), (5, .ref b5), (4, .ref 183), (3, .ref 182), (2, .ref 181), (1, .ref 0), (0, .ref 1000000001)]) (st' := [.ref 182, .int (fr q), .int (sv L xs (q)), .int i, .ref b5]) (h' := g) _ hn_285 hk_285_287 rfl ?_
        refine AR.s (pc' := 290) (lv' := [(8, .int j), (7, .int i), (6, .int v), (5, .ref b5), (4, .ref 183), (3, .ref 182), (2, .ref 181), (1, .ref 0), (0, .ref 1000000001)]) (st' := [.int j, .ref 182, .int (fr q), .int (sv L xs (q)), .int i, .ref b5]) (h' := g) _ hn_285 hk_285_288 rfl ?_
        refine AW.ia hk_285_290 (by decide) A.2.1 hj (by omega) ?_
        show AR _ _ _ _ _ _ _ 291 [(8, .int j), (7, .int i), (6, .int v), (5, .ref b5), (4, .ref 183), (3, .ref 182), (2, .ref 181), (1, .ref 0), (0, .ref 1000000001)] [.int (fd q), .int (fr q), .int (sv L xs (q)), .int i, .ref b5] g _ _
        refine AR.s (pc' := 293) (lv' := [(8, .int j), (7, .int i), (6, .int v), (5, .ref b5), (4, .ref 183), (3, .ref 182), (2, .ref 181), (1, .ref 0), (0, .ref 1000000001)]) (st' := [.int i, .int (fd q), .int (fr q), .int (sv L xs (q)), .int i, .ref b5]) (h' := g) _ hn_285 hk_285_291 rfl ?_
        refine AW.cs (as := [.int (sv L xs (q)), .int (fr q), .int (fd q), .int i]) (rest := [.int i, .ref b5]) hk_285_293 (by decide +kernel) rfl rfl (Nat.le_of_ble_eq_true rfl) (AW.W (t_138 hlst (M := m) hi hm (by omega))) (by decide) (Nat.zero_le _) (Nat.zero_le _) (fun E h' q => by obtain ⟨-, x, e, -⟩ := q; cases e) ?_
        rintro w278 g279 ⟨eg279, z280, e, ez280⟩
        cases e
        obtain rfl := eg279.symm
        show AR _ _ _ _ _ _ _ 296 [(8, .int j), (7, .int i), (6, .int v), (5, .ref b5), (4, .ref 183), (3, .ref 182), (2, .ref 181), (1, .ref 0), (0, .ref 1000000001)] [.int z280, .int i, .ref b5] g _ _
        rw [v1, v2] at ez280
        show AR _ _ _ _ _ _ _ 296 [(8, .int j), (7, .int i), (6, .int v), (5, .ref b5), (4, .ref 183), (3, .ref 182), (2, .ref 181), (1, .ref 0), (0, .ref 1000000001)] [.int z280, .int i, .ref b5] g _ _
        refine AW.zeq hk_285_296 (tgt := 303) (by decide) (fun y1 => ?_) (fun y2 => ?_)
        · have eG : fu (rr L xs q) (dd L xs q) (fs (sv L xs q) m 6) = false := by cases e : fu (rr L xs q) (dd L xs q) (fs (sv L xs q) m 6); rfl; rw [e, if_pos rfl] at ez280; omega
          refine AW.iconstT hk_285_303 (by decide) (fun z281 ez281 => ?_)
          show AR _ _ _ _ _ _ _ 304 [(8, .int j), (7, .int i), (6, .int v), (5, .ref b5), (4, .ref 183), (3, .ref 182), (2, .ref 181), (1, .ref 0), (0, .ref 1000000001)] [.int z281, .int i, .ref b5] g _ _
          have ey : z281.toInt = if FF L xs (q + 1) m then 1 else 0 := by
            show _ = if (FF L xs q m && fu (rr L xs q) (dd L xs q) (fs (sv L xs q) m 6)) then 1 else 0
            rw [eF, eG, Bool.and_false, if_neg (by decide)]
            exact ez281
          refine AW.zas hk_285_304 I.1 (by omega) b1 e5 (Or.inr rfl) hi hm (by left; omega) (fun g1 H1 M1 B1 => ?_)
          show AR _ _ _ _ _ _ _ 305 [(8, .int j), (7, .int i), (6, .int v), (5, .ref b5), (4, .ref 183), (3, .ref 182), (2, .ref 181), (1, .ref 0), (0, .ref 1000000001)] [] g1 _ _
          refine AW.iincT hk_285_305 (x := j) rfl (by rw [hn_285]; decide) (by decide) (by omega) (by omega) (fun z282 ez282 => ?_)
          show AR _ _ _ _ _ _ _ 308 [(8, .int z282), (7, .int i), (6, .int v), (5, .ref b5), (4, .ref 183), (3, .ref 182), (2, .ref 181), (1, .ref 0), (0, .ref 1000000001)] [] g1 _ _
          refine AW.gotoT hk_285_308 (tgt := 259) (by decide) ?_
          refine AR.lessL (lv' := [(8, .int z282), (7, .int i), (6, .int v), (5, .ref b5), (4, .ref 183), (3, .ref 182), (2, .ref 181), (1, .ref 0), (0, .ref 1000000001)]) (List.forall_mem_cons.mpr ⟨⟨_, by simp, ax_le_rfl rfl⟩, (List.forall_mem_cons.mpr ⟨⟨_, by simp, ax_le_rfl rfl⟩, (List.forall_mem_cons.mpr ⟨⟨_, by simp, ax_le_rfl rfl⟩, (List.forall_mem_cons.mpr ⟨⟨_, by simp, ax_le_rfl rfl⟩, (List.forall_mem_cons.mpr ⟨⟨_, by simp, ax_le_rfl rfl⟩, (List.forall_mem_cons.mpr ⟨⟨_, by simp, ax_le_rfl rfl⟩, (List.forall_mem_cons.mpr ⟨⟨_, by simp, ax_le_rfl rfl⟩, (List.forall_mem_cons.mpr ⟨⟨_, by simp, ax_le_rfl rfl⟩, (List.forall_mem_cons.mpr ⟨⟨_, by simp, ax_le_rfl rfl⟩, (fun _ h => absurd h List.not_mem_nil)⟩)⟩)⟩)⟩)⟩)⟩)⟩)⟩)⟩) ?_
          refine ih (q + 1) g1 _ _ (by omega) (by omega) (S.set H1 M1 B1) (fun k hk => ?_) ?_
          · rw [if_neg (by omega)]; exact hf k hk
          · rw [if_pos rfl]; exact bi_of ey
        · have eG : fu (rr L xs q) (dd L xs q) (fs (sv L xs q) m 6) = true := by cases e : fu (rr L xs q) (dd L xs q) (fs (sv L xs q) m 6); rw [e, if_neg (by decide)] at ez280; omega; rfl
          refine AW.iconstT hk_285_299 (by decide) (fun z283 ez283 => ?_)
          show AR _ _ _ _ _ _ _ 300 [(8, .int j), (7, .int i), (6, .int v), (5, .ref b5), (4, .ref 183), (3, .ref 182), (2, .ref 181), (1, .ref 0), (0, .ref 1000000001)] [.int z283, .int i, .ref b5] g _ _
          refine AW.gotoT hk_285_300 (tgt := 304) (by decide) ?_
          have ey : z283.toInt = if FF L xs (q + 1) m then 1 else 0 := by
            show _ = if (FF L xs q m && fu (rr L xs q) (dd L xs q) (fs (sv L xs q) m 6)) then 1 else 0
            rw [eF, eG, Bool.and_self, if_pos rfl]
            exact ez283
          refine AW.zas hk_285_304 I.1 (by omega) b1 e5 (Or.inr rfl) hi hm (by right; omega) (fun g1 H1 M1 B1 => ?_)
          show AR _ _ _ _ _ _ _ 305 [(8, .int j), (7, .int i), (6, .int v), (5, .ref b5), (4, .ref 183), (3, .ref 182), (2, .ref 181), (1, .ref 0), (0, .ref 1000000001)] [] g1 _ _
          refine AW.iincT hk_285_305 (x := j) rfl (by rw [hn_285]; decide) (by decide) (by omega) (by omega) (fun z284 ez284 => ?_)
          show AR _ _ _ _ _ _ _ 308 [(8, .int z284), (7, .int i), (6, .int v), (5, .ref b5), (4, .ref 183), (3, .ref 182), (2, .ref 181), (1, .ref 0), (0, .ref 1000000001)] [] g1 _ _
          refine AW.gotoT hk_285_308 (tgt := 259) (by decide) ?_
          refine AR.lessL (lv' := [(8, .int z284), (7, .int i), (6, .int v), (5, .ref b5), (4, .ref 183), (3, .ref 182), (2, .ref 181), (1, .ref 0), (0, .ref 1000000001)]) (List.forall_mem_cons.mpr ⟨⟨_, by simp, ax_le_rfl rfl⟩, (List.forall_mem_cons.mpr ⟨⟨_, by simp, ax_le_rfl rfl⟩, (List.forall_mem_cons.mpr ⟨⟨_, by simp, ax_le_rfl rfl⟩, (List.forall_mem_cons.mpr ⟨⟨_, by simp, ax_le_rfl rfl⟩, (List.forall_mem_cons.mpr ⟨⟨_, by simp, ax_le_rfl rfl⟩, (List.forall_mem_cons.mpr ⟨⟨_, by simp, ax_le_rfl rfl⟩, (List.forall_mem_cons.mpr ⟨⟨_, by simp, ax_le_rfl rfl⟩, (List.forall_mem_cons.mpr ⟨⟨_, by simp, ax_le_rfl rfl⟩, (List.forall_mem_cons.mpr ⟨⟨_, by simp, ax_le_rfl rfl⟩, (fun _ h => absurd h List.not_mem_nil)⟩)⟩)⟩)⟩)⟩)⟩)⟩)⟩)⟩) ?_
          refine ih (q + 1) g1 _ _ (by omega) (by omega) (S.set H1 M1 B1) (fun k hk => ?_) ?_
          · rw [if_neg (by omega)]; exact hf k hk
          · rw [if_pos rfl]; exact bi_of ey
theorem l3 (hlst : l.stackTraces = false) (hL : L ≤ 3072) (K : ∀ g f (v : Int32), S3 L xs g b5 f → (∀ k, k < 64 → f k = bi (FF L xs 4 k)) → v.toInt = nm (FF L xs 4) 64 → AR ax_ns l (ax_mm 285) 8 (ax_r L xs) P X 335 [(6, .int v), (5, .ref b5), (4, .ref 183), (3, .ref 182), (2, .ref 181), (1, .ref 0), (0, .ref 1000000001)] [] g (bc) (bs)) : ∀ (n m : Nat) (g : ax_H) (i v : Int32) (f : Nat → Int32), m + n = 64 → i.toInt = m → v.toInt = nm (FF L xs 4) m → S3 L xs g b5 f → (∀ k, k < m → f k = bi (FF L xs 4 k)) → AR ax_ns l (ax_mm 285) 8 (ax_r L xs) P X 243 [(7, .int i), (6, .int v), (5, .ref b5), (4, .ref 183), (3, .ref 182), (2, .ref 181), (1, .ref 0), (0, .ref 1000000001)] [] g (bc) (bs) := by
  intro n
  induction n with
  | zero =>
    intro m g i v f hn hi hv S hf
    show AR _ _ _ _ _ _ _ 243 [(7, .int i), (6, .int v), (5, .ref b5), (4, .ref 183), (3, .ref 182), (2, .ref 181), (1, .ref 0), (0, .ref 1000000001)] [] g _ _
    refine AR.s (pc' := 245) (lv' := [(7, .int i), (6, .int v), (5, .ref b5), (4, .ref 183), (3, .ref 182), (2, .ref 181), (1, .ref 0), (0, .ref 1000000001)]) (st' := [.int i]) (h' := g) _ hn_285 hk_285_243 rfl ?_
    refine AW.bipushT hk_285_245 (by decide) (fun z285 ez285 => ?_)
    show AR _ _ _ _ _ _ _ 247 [(7, .int i), (6, .int v), (5, .ref b5), (4, .ref 183), (3, .ref 182), (2, .ref 181), (1, .ref 0), (0, .ref 1000000001)] [.int z285, .int i] g _ _
    refine AW.jge hk_285_247 (tgt := 335) (by decide) (fun p1 => ?_) (fun p2 => ?_)
    · obtain rfl : m = 64 := by omega
      refine AR.lessL (lv' := [(6, .int v), (5, .ref b5), (4, .ref 183), (3, .ref 182), (2, .ref 181), (1, .ref 0), (0, .ref 1000000001)]) (List.forall_mem_cons.mpr ⟨⟨_, by simp, ax_le_rfl rfl⟩, (List.forall_mem_cons.mpr ⟨⟨_, by simp, ax_le_rfl rfl⟩, (List.forall_mem_cons.mpr ⟨⟨_, by simp, ax_le_rfl rfl⟩, (List.forall_mem_cons.mpr ⟨⟨_, by simp, ax_le_rfl rfl⟩, (List.forall_mem_cons.mpr ⟨⟨_, by simp, ax_le_rfl rfl⟩, (List.forall_mem_cons.mpr ⟨⟨_, by simp, ax_le_rfl rfl⟩, (List.forall_mem_cons.mpr ⟨⟨_, by simp, ax_le_rfl rfl⟩, (fun _ h => absurd h List.not_mem_nil)⟩)⟩)⟩)⟩)⟩)⟩)⟩) ?_
      exact K g f v S hf hv
    · exact absurd p2 (by omega)
  | succ n ih =>
    intro m g i v f hn hi hv S hf
    show AR _ _ _ _ _ _ _ 243 [(7, .int i), (6, .int v), (5, .ref b5), (4, .ref 183), (3, .ref 182), (2, .ref 181), (1, .ref 0), (0, .ref 1000000001)] [] g _ _
    refine AR.s (pc' := 245) (lv' := [(7, .int i), (6, .int v), (5, .ref b5), (4, .ref 183), (3, .ref 182), (2, .ref 181), (1, .ref 0), (0, .ref 1000000001)]) (st' := [.int i]) (h' := g) _ hn_285 hk_285_243 rfl ?_
    refine AW.bipushT hk_285_245 (by decide) (fun z286 ez286 => ?_)
    show AR _ _ _ _ _ _ _ 247 [(7, .int i), (6, .int v), (5, .ref b5), (4, .ref 183), (3, .ref 182), (2, .ref 181), (1, .ref 0), (0, .ref 1000000001)] [.int z286, .int i] g _ _
    refine AW.jge hk_285_247 (tgt := 335) (by decide) (fun p1 => ?_) (fun p2 => ?_)
    · exact absurd p1 (by omega)
    · have nl := nm_le (FF L xs 4) m
      obtain ⟨I, A, e5, b0, b1⟩ := id S
      show AR _ _ _ _ _ _ _ 250 [(7, .int i), (6, .int v), (5, .ref b5), (4, .ref 183), (3, .ref 182), (2, .ref 181), (1, .ref 0), (0, .ref 1000000001)] [] g _ _
      refine AR.s (pc' := 252) (lv' := [(7, .int i), (6, .int v), (5, .ref b5), (4, .ref 183), (3, .ref 182), (2, .ref 181), (1, .ref 0), (0, .ref 1000000001)]) (st' := [.ref b5]) (h' := g) _ hn_285 hk_285_250 rfl ?_
      refine AR.s (pc' := 254) (lv' := [(7, .int i), (6, .int v), (5, .ref b5), (4, .ref 183), (3, .ref 182), (2, .ref 181), (1, .ref 0), (0, .ref 1000000001)]) (st' := [.int i, .ref b5]) (h' := g) _ hn_285 hk_285_252 rfl ?_
      refine AW.iconstT hk_285_254 (by decide) (fun z287 ez287 => ?_)
      show AR _ _ _ _ _ _ _ 255 [(7, .int i), (6, .int v), (5, .ref b5), (4, .ref 183), (3, .ref 182), (2, .ref 181), (1, .ref 0), (0, .ref 1000000001)] [.int z287, .int i, .ref b5] g _ _
      refine AW.zas hk_285_255 I.1 (by omega) b1 e5 (Or.inr rfl) hi (by omega) (by right; omega) (fun g1 H1 M1 B1 => ?_)
      show AR _ _ _ _ _ _ _ 256 [(7, .int i), (6, .int v), (5, .ref b5), (4, .ref 183), (3, .ref 182), (2, .ref 181), (1, .ref 0), (0, .ref 1000000001)] [] g1 _ _
      refine AW.iconstT hk_285_256 (by decide) (fun z288 ez288 => ?_)
      show AR _ _ _ _ _ _ _ 257 [(7, .int i), (6, .int v), (5, .ref b5), (4, .ref 183), (3, .ref 182), (2, .ref 181), (1, .ref 0), (0, .ref 1000000001)] [.int z288] g1 _ _
      refine AR.s (pc' := 259) (lv' := [(8, .int z288), (7, .int i), (6, .int v), (5, .ref b5), (4, .ref 183), (3, .ref 182), (2, .ref 181), (1, .ref 0), (0, .ref 1000000001)]) (st' := []) (h' := g1) _ hn_285 hk_285_257 rfl ?_
      refine AR.lessL (lv' := [(8, .int z288), (7, .int i), (6, .int v), (5, .ref b5), (4, .ref 183), (3, .ref 182), (2, .ref 181), (1, .ref 0), (0, .ref 1000000001)]) (List.forall_mem_cons.mpr ⟨⟨_, by simp, ax_le_rfl rfl⟩, (List.forall_mem_cons.mpr ⟨⟨_, by simp, ax_le_rfl rfl⟩, (List.forall_mem_cons.mpr ⟨⟨_, by simp, ax_le_rfl rfl⟩, (List.forall_mem_cons.mpr ⟨⟨_, by simp, ax_le_rfl rfl⟩, (List.forall_mem_cons.mpr ⟨⟨_, by simp, ax_le_rfl rfl⟩, (List.forall_mem_cons.mpr ⟨⟨_, by simp, ax_le_rfl rfl⟩, (List.forall_mem_cons.mpr ⟨⟨_, by simp, ax_le_rfl rfl⟩, (List.forall_mem_cons.mpr ⟨⟨_, by simp, ax_le_rfl rfl⟩, (List.forall_mem_cons.mpr ⟨⟨_, by simp, ax_le_rfl rfl⟩, (fun _ h => absurd h List.not_mem_nil)⟩)⟩)⟩)⟩)⟩)⟩)⟩)⟩)⟩) ?_
      refine l3i hlst hL hi (by omega) (fun g2 f2 S2 hf2 => ?_) 4 0 g1 _ _ rfl (by omega) (S.set H1 M1 B1) (fun k hk => by rw [if_neg (by omega)]; exact hf k hk) (by rw [if_pos rfl]; exact bi_of ez287)
      obtain ⟨-, -, f5, -, -⟩ := id S2
      show AR _ _ _ _ _ _ _ 311 [(7, .int i), (6, .int v), (5, .ref b5), (4, .ref 183), (3, .ref 182), (2, .ref 181), (1, .ref 0), (0, .ref 1000000001)] [] g2 _ _
      refine AR.s (pc' := 313) (lv' := [(7, .int i), (6, .int v), (5, .ref b5), (4, .ref 183), (3, .ref 182), (2, .ref 181), (1, .ref 0), (0, .ref 1000000001)]) (st' := [.int v]) (h' := g2) _ hn_285 hk_285_311 rfl ?_
      refine AR.s (pc' := 315) (lv' := [(7, .int i), (6, .int v), (5, .ref b5), (4, .ref 183), (3, .ref 182), (2, .ref 181), (1, .ref 0), (0, .ref 1000000001)]) (st' := [.ref b5, .int v]) (h' := g2) _ hn_285 hk_285_313 rfl ?_
      refine AR.s (pc' := 317) (lv' := [(7, .int i), (6, .int v), (5, .ref b5), (4, .ref 183), (3, .ref 182), (2, .ref 181), (1, .ref 0), (0, .ref 1000000001)]) (st' := [.int i, .ref b5, .int v]) (h' := g2) _ hn_285 hk_285_315 rfl ?_
      refine AW.za hk_285_317 b1 f5 hi (by omega) ?_
      rw [hf2 m (by omega)]
      have bb := bi_i (FF L xs 4 m)
      generalize bi (FF L xs 4 m) = yb at bb
      show AR _ _ _ _ _ _ _ 318 [(7, .int i), (6, .int v), (5, .ref b5), (4, .ref 183), (3, .ref 182), (2, .ref 181), (1, .ref 0), (0, .ref 1000000001)] [.int yb, .int v] g2 _ _
      refine AW.zeq hk_285_318 (tgt := 325) (by decide) (fun x1 => ?_) (fun x2 => ?_)
      · refine AW.iconstT hk_285_325 (by decide) (fun z289 ez289 => ?_)
        show AR _ _ _ _ _ _ _ 326 [(7, .int i), (6, .int v), (5, .ref b5), (4, .ref 183), (3, .ref 182), (2, .ref 181), (1, .ref 0), (0, .ref 1000000001)] [.int z289, .int v] g2 _ _
        refine AW.addT hk_285_326 (by omega) (by omega) (fun z290 ez290 => ?_)
        show AR _ _ _ _ _ _ _ 327 [(7, .int i), (6, .int v), (5, .ref b5), (4, .ref 183), (3, .ref 182), (2, .ref 181), (1, .ref 0), (0, .ref 1000000001)] [.int z290] g2 _ _
        refine AR.s (pc' := 329) (lv' := [(6, .int z290), (7, .int i), (5, .ref b5), (4, .ref 183), (3, .ref 182), (2, .ref 181), (1, .ref 0), (0, .ref 1000000001)]) (st' := []) (h' := g2) _ hn_285 hk_285_327 rfl ?_
        refine AW.iincT hk_285_329 (x := i) rfl (by rw [hn_285]; decide) (by decide) (by omega) (by omega) (fun z291 ez291 => ?_)
        show AR _ _ _ _ _ _ _ 332 [(7, .int z291), (6, .int z290), (5, .ref b5), (4, .ref 183), (3, .ref 182), (2, .ref 181), (1, .ref 0), (0, .ref 1000000001)] [] g2 _ _
        refine AW.gotoT hk_285_332 (tgt := 243) (by decide) ?_
        refine AR.lessL (lv' := [(7, .int z291), (6, .int z290), (5, .ref b5), (4, .ref 183), (3, .ref 182), (2, .ref 181), (1, .ref 0), (0, .ref 1000000001)]) (List.forall_mem_cons.mpr ⟨⟨_, by simp, ax_le_rfl rfl⟩, (List.forall_mem_cons.mpr ⟨⟨_, by simp, ax_le_rfl rfl⟩, (List.forall_mem_cons.mpr ⟨⟨_, by simp, ax_le_rfl rfl⟩, (List.forall_mem_cons.mpr ⟨⟨_, by simp, ax_le_rfl rfl⟩, (List.forall_mem_cons.mpr ⟨⟨_, by simp, ax_le_rfl rfl⟩, (List.forall_mem_cons.mpr ⟨⟨_, by simp, ax_le_rfl rfl⟩, (List.forall_mem_cons.mpr ⟨⟨_, by simp, ax_le_rfl rfl⟩, (List.forall_mem_cons.mpr ⟨⟨_, by simp, ax_le_rfl rfl⟩, (fun _ h => absurd h List.not_mem_nil)⟩)⟩)⟩)⟩)⟩)⟩)⟩)⟩) ?_
        refine ih (m + 1) g2 _ _ f2 (by omega) (by omega) ?_ S2 hf2
        show _ = ((nm (FF L xs 4) m + (if FF L xs 4 m then 1 else 0) : Nat) : Int)
        cases e : FF L xs 4 m <;> simp only [e, if_true, if_false, Bool.false_eq_true] at bb ⊢ <;> omega
      · refine AW.iconstT hk_285_321 (by decide) (fun z292 ez292 => ?_)
        show AR _ _ _ _ _ _ _ 322 [(7, .int i), (6, .int v), (5, .ref b5), (4, .ref 183), (3, .ref 182), (2, .ref 181), (1, .ref 0), (0, .ref 1000000001)] [.int z292, .int v] g2 _ _
        refine AW.gotoT hk_285_322 (tgt := 326) (by decide) ?_
        refine AW.addT hk_285_326 (by omega) (by omega) (fun z293 ez293 => ?_)
        show AR _ _ _ _ _ _ _ 327 [(7, .int i), (6, .int v), (5, .ref b5), (4, .ref 183), (3, .ref 182), (2, .ref 181), (1, .ref 0), (0, .ref 1000000001)] [.int z293] g2 _ _
        refine AR.s (pc' := 329) (lv' := [(6, .int z293), (7, .int i), (5, .ref b5), (4, .ref 183), (3, .ref 182), (2, .ref 181), (1, .ref 0), (0, .ref 1000000001)]) (st' := []) (h' := g2) _ hn_285 hk_285_327 rfl ?_
        refine AW.iincT hk_285_329 (x := i) rfl (by rw [hn_285]; decide) (by decide) (by omega) (by omega) (fun z294 ez294 => ?_)
        show AR _ _ _ _ _ _ _ 332 [(7, .int z294), (6, .int z293), (5, .ref b5), (4, .ref 183), (3, .ref 182), (2, .ref 181), (1, .ref 0), (0, .ref 1000000001)] [] g2 _ _
        refine AW.gotoT hk_285_332 (tgt := 243) (by decide) ?_
        refine AR.lessL (lv' := [(7, .int z294), (6, .int z293), (5, .ref b5), (4, .ref 183), (3, .ref 182), (2, .ref 181), (1, .ref 0), (0, .ref 1000000001)]) (List.forall_mem_cons.mpr ⟨⟨_, by simp, ax_le_rfl rfl⟩, (List.forall_mem_cons.mpr ⟨⟨_, by simp, ax_le_rfl rfl⟩, (List.forall_mem_cons.mpr ⟨⟨_, by simp, ax_le_rfl rfl⟩, (List.forall_mem_cons.mpr ⟨⟨_, by simp, ax_le_rfl rfl⟩, (List.forall_mem_cons.mpr ⟨⟨_, by simp, ax_le_rfl rfl⟩, (List.forall_mem_cons.mpr ⟨⟨_, by simp, ax_le_rfl rfl⟩, (List.forall_mem_cons.mpr ⟨⟨_, by simp, ax_le_rfl rfl⟩, (List.forall_mem_cons.mpr ⟨⟨_, by simp, ax_le_rfl rfl⟩, (fun _ h => absurd h List.not_mem_nil)⟩)⟩)⟩)⟩)⟩)⟩)⟩)⟩) ?_
        refine ih (m + 1) g2 _ _ f2 (by omega) (by omega) ?_ S2 hf2
        show _ = ((nm (FF L xs 4) m + (if FF L xs 4 m then 1 else 0) : Nat) : Int)
        cases e : FF L xs 4 m <;> simp only [e, if_true, if_false, Bool.false_eq_true] at bb ⊢ <;> omega
end LWH
