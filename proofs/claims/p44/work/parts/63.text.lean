/-! p44, 5: the law's numbers and its texts; a text is a constraint -/
theorem c_7f : (2147483647 : Int32).toInt = 2147483647 := rfl
/-- (v & 0x7fffffff) % n -/
def lbw (x : Int32) (n : Int) : Int := (x &&& 2147483647).toInt % n
theorem lbw_bd (x : Int32) {n : Int} (hn : 0 < n) : 0 ≤ lbw x n ∧ lbw x n < n := ⟨Int.emod_nonneg _ (by omega), Int.emod_lt_of_pos _ hn⟩
def co (c : Int32) (v : Nat) : Int := lbw (c >>> (Int32.ofNat (3 * v) &&& 31)) 7 - 3
theorem co_bd (c : Int32) (v : Nat) : -3 ≤ co c v ∧ co c v ≤ 3 := by
  have := lbw_bd (c >>> (Int32.ofNat (3 * v) &&& 31)) (n := 7) (by decide)
  unfold co
  omega
def ng (c : Int32) (v : Nat) : Bool := decide (((c >>> (Int32.ofNat (20 + v) &&& 31)) &&& 1).toInt = 1)
def ab (k : Int) : Int := if k < 0 then -k else k
/-- a term's text: sign; number, ~ and letter -/
def sg1 (k : Int) (v : Nat) : List Int32 := if k < 0 then [45] else if 0 < v then [43] else []
def bdg (g : Bool) (v : Nat) : List Int32 := (if g then [126] else []) ++ [Int32.ofNat (97 + v)]
def bdn (k : Int) : List Int32 := if k = 1 ∨ k = -1 then [] else dgt (ab k)
def bd (k : Int) (g : Bool) (v : Nat) : List Int32 := bdn k ++ bdg g v
def pc1 (c : Int32) (v : Nat) : List Int32 := sg1 (co c v) v ++ bd (co c v) (ng c v) v
def px1 (c : Int32) : Nat → List Int32
  | 0 => []
  | v + 1 => px1 c v ++ pc1 c v
def rl (r : Int) : List Int32 := if r = 0 then [32, 62, 61, 32] else [32, 60, 61, 32]
def tx (c : Int32) (r d : Int) : List Int32 := px1 c 6 ++ (rl r ++ dgt d)
/-- the same from the front -/
def sx (c : Int32) : Nat → Nat → List Int32 → List Int32
  | _, 0, R => R
  | v, n + 1, R => sg1 (co c v) v ++ (bd (co c v) (ng c v) v ++ sx c (v + 1) n R)
theorem px_sx (c : Int32) (R : List Int32) : ∀ n v, px1 c v ++ sx c v n R = px1 c (v + n) ++ R
  | 0, _ => rfl
  | n + 1, v => by
    have := px_sx c R n (v + 1)
    rw [show v + (n + 1) = v + 1 + n by omega, ← this]
    show px1 c v ++ (sg1 (co c v) v ++ (bd (co c v) (ng c v) v ++ sx c (v + 1) n R)) = px1 c v ++ (sg1 (co c v) v ++ bd (co c v) (ng c v) v) ++ sx c (v + 1) n R
    simp only [List.append_assoc]
theorem tx_sx (c : Int32) (r d : Int) : tx c r d = sx c 0 6 (rl r ++ dgt d) := (px_sx c (rl r ++ dgt d) 6 0).symm
theorem ab_bd {k : Int} (h : -3 ≤ k ∧ k ≤ 3) : 0 ≤ ab k ∧ ab k ≤ 3 := by unfold ab; split <;> omega
theorem dg_len (x : Int) : 1 ≤ (dgt x).length ∧ (dgt x).length ≤ 2 := by unfold dgt; split <;> simp
theorem dg_len1 {x : Int} (h : 0 ≤ x) : (dgt x).length = 1 := by unfold dgt; rw [if_neg (by omega)]; rfl
theorem sg_len (k : Int) (v : Nat) : (sg1 k v).length ≤ 1 := by unfold sg1; split; decide; split <;> decide
theorem bdg_len (g : Bool) (v : Nat) : 1 ≤ (bdg g v).length ∧ (bdg g v).length ≤ 2 := by unfold bdg; cases g <;> simp
theorem bdn_len {k : Int} (h : -3 ≤ k ∧ k ≤ 3) : (bdn k).length ≤ 1 := by
  unfold bdn
  split
  · decide
  · rw [dg_len1 (ab_bd h).1]; decide
theorem bd_len {k : Int} (h : -3 ≤ k ∧ k ≤ 3) (g : Bool) (v : Nat) : 1 ≤ (bd k g v).length ∧ (bd k g v).length ≤ 3 := by
  have a := bdn_len h
  have b := bdg_len g v
  unfold bd
  rw [List.length_append]
  omega
theorem sx_len (c : Int32) (R : List Int32) : ∀ n v, (sx c v n R).length ≤ 4 * n + R.length
  | 0, _ => by show R.length ≤ _; omega
  | n + 1, v => by
    have a := sx_len c R n (v + 1)
    have b := sg_len (co c v) v
    have d := bd_len (co_bd c v) (ng c v) v
    show (sg1 (co c v) v ++ (bd (co c v) (ng c v) v ++ sx c (v + 1) n R)).length ≤ _
    rw [List.length_append, List.length_append]
    omega
theorem sx_ge (c : Int32) (R : List Int32) : ∀ n v, R.length ≤ (sx c v n R).length
  | 0, _ => Nat.le_refl _
  | n + 1, v => by
    have a := sx_ge c R n (v + 1)
    show R.length ≤ (sg1 (co c v) v ++ (bd (co c v) (ng c v) v ++ sx c (v + 1) n R)).length
    rw [List.length_append, List.length_append]
    omega
theorem rl_len (r : Int) : (rl r).length = 4 := by unfold rl; split <;> rfl
theorem tx_len (c : Int32) (r d : Int) : (tx c r d).length ≤ 30 := by
  have a := sx_len c (rl r ++ dgt d) 6 0
  have b := dg_len d
  rw [tx_sx]
  rw [List.length_append, rl_len] at a
  omega
/-- from p on the text is just this -/
def rd (B : Int → Int) (p : Int) (L : List Int32) : Prop := ∀ j : Nat, B (p + j) = if j < L.length then (L.getD j 0).toInt else -1
theorem rd_cons {B : Int → Int} {p : Int} {c : Int32} {L : List Int32} (h : rd B p (c :: L)) : B p = c.toInt ∧ rd B (p + 1) L := by
  constructor
  · have := h 0
    rw [show p + ((0 : Nat) : Int) = p by omega, if_pos (by simp)] at this
    exact this
  · intro j
    have := h (j + 1)
    rw [show p + ((j + 1 : Nat) : Int) = p + 1 + (j : Int) by omega] at this
    rw [this]
    by_cases e : j < L.length
    · rw [if_pos e, if_pos (by simp; exact e)]
      rfl
    · rw [if_neg e, if_neg (by simp; omega)]
theorem rd_nil {B : Int → Int} {p : Int} (h : rd B p []) : B p = -1 ∧ B (p + 1) = -1 := by
  have a := h 0
  have b := h 1
  rw [show p + ((0 : Nat) : Int) = p by omega, if_neg (by simp)] at a
  rw [if_neg (by simp)] at b
  exact ⟨a, b⟩
theorem rd_app {B : Int → Int} {L R : List Int32} : ∀ {p : Int}, rd B p (L ++ R) → rd B (p + L.length) R := by
  induction L with
  | nil => intro p h; rw [show p + ((([] : List Int32).length : Nat) : Int) = p by simp]; exact h
  | cons c L ih =>
    intro p h
    have := ih (rd_cons (c := c) (L := L ++ R) h).2
    rw [show p + 1 + ((L.length : Nat) : Int) = p + (((c :: L).length : Nat) : Int) by rw [List.length_cons]; omega] at this
    exact this
-- tokens
theorem sp_no {B : Int → Int} {p : Int} (h : B p ≠ 32) : q_sp B p = p := if_neg h
theorem sp_yes {B : Int → Int} {p : Int} (h : B p = 32) : q_sp B p = p + 1 := if_pos h
theorem dig_iff {c : Int} : t_dig c = true ↔ 48 ≤ c ∧ c ≤ 57 := by
  unfold t_dig
  rw [Bool.and_eq_true, decide_eq_true_eq, decide_eq_true_eq]
theorem dig_no {c : Int} (h : c < 48 ∨ 57 < c) : t_dig c = false := by
  cases e : t_dig c with
  | false => rfl
  | true => have := dig_iff.mp e; omega
theorem nx_dig {B : Int → Int} {s : q_S} {p c : Int} (hs : q_sp B s.1 = p) (hB : B p = c) (h1 : 48 ≤ c) (h2 : c ≤ 57) : q_nx B s = (p + 1, 2, c - 48, s.2.2.2) := by
  unfold q_nx
  rw [hs, hB, if_pos (dig_iff.mpr ⟨h1, h2⟩)]
theorem nx_let {B : Int → Int} {s : q_S} {p c : Int} (hs : q_sp B s.1 = p) (hB : B p = c) (h1 : 97 ≤ c) (h2 : c ≤ 108) : q_nx B s = (p + 1, 3, s.2.2.1, c - 97) := by
  unfold q_nx
  rw [hs, hB, dig_no (by omega), if_neg (by decide), if_pos ⟨h1, h2⟩]
theorem nx_sy {B : Int → Int} {s : q_S} {p c : Int} (hs : q_sp B s.1 = p) (hB : B p = c) (h1 : c < 48 ∨ (57 < c ∧ c < 97) ∨ 108 < c) : q_nx B s = (p + (t_sy c (B (p + 1))).2, (t_sy c (B (p + 1))).1, s.2.2.1, s.2.2.2) := by
  unfold q_nx
  rw [hs, hB, dig_no (by omega), if_neg (by decide), if_neg (by omega)]
theorem ok_of {B : Int → Int} {p p' : Int} (h0 : 0 ≤ p) (h1 : p ≤ 190) (hs : q_sp B p = p') (h2 : B p' ≠ 32) (h3 : t_dig (B p') = true → t_dig (B (p' + 1)) = false) : q_ok B p := ⟨h0, h1, by rw [hs]; exact h2, by rw [hs]; exact h3⟩
/-- a token that is no number begins here -/
def okN (B : Int → Int) (p : Int) : Prop := B (q_sp B p) ≠ 32 ∧ t_dig (B (q_sp B p)) = false
theorem okN.ok {B : Int → Int} {p : Int} (h : okN B p) (h0 : 0 ≤ p) (h1 : p ≤ 190) : q_ok B p := ⟨h0, h1, h.1, fun e => by rw [h.2] at e; cases e⟩
theorem let_c : ∀ v, v < 12 → (Int32.ofNat (97 + v)).toInt = 97 + (v : Int) := by decide +kernel
theorem dgt_c : ∀ n : Nat, n < 10 → (Int32.ofInt (48 + (n : Int))).toInt = 48 + (n : Int) := by decide +kernel
theorem dgt_p {x : Int} (h0 : 0 ≤ x) (h9 : x ≤ 9) : dgt x = [Int32.ofInt (48 + x)] ∧ (Int32.ofInt (48 + x)).toInt = 48 + x := by
  have := dgt_c x.toNat (by omega)
  rw [show ((x.toNat : Nat) : Int) = x by omega] at this
  exact ⟨by unfold dgt; rw [if_neg (by omega)], this⟩
/-- ~ and letter -/
theorem lv_ok {B : Int → Int} {p : Int} {g : Bool} {v : Nat} {R : List Int32} (h : rd B p (bdg g v ++ R)) (hv : v < 12) (p0 : 0 ≤ p) (p1 : p ≤ 180) (hR : okN B (p + (bdg g v).length)) {r : q_S} (hr : r.1 = p) :
    ∃ u : q_S, u.1 = p + (bdg g v).length ∧ (((q_nx B r).2.1 = 6 ∧ q_ok B (q_nx B r).1 ∧ u = q_nx B (q_nx B r) ∧ (if g then (1 : Int) else 0) = 1) ∨ ((q_nx B r).2.1 ≠ 6 ∧ u = q_nx B r ∧ (if g then (1 : Int) else 0) = 0)) ∧ u.2.1 = 3 ∧ u.2.2.2 = v ∧ q_ok B u.1 ∧ (q_nx B r).2.1 ≠ 2 ∧ okN B p := by
  have hl := let_c v hv
  cases g with
  | true =>
    have e1 : bdg true v ++ R = 126 :: Int32.ofNat (97 + v) :: R := rfl
    rw [e1] at h
    obtain ⟨b1, h⟩ := rd_cons h
    obtain ⟨b2, h⟩ := rd_cons h
    rw [hl] at b2
    have b1 : B p = 126 := b1
    have s1 : q_sp B r.1 = p := by rw [hr]; exact sp_no (by omega)
    have n1 := nx_sy s1 b1 (Or.inr (Or.inr (by decide)))
    rw [show t_sy 126 (B (p + 1)) = (6, 1) from rfl] at n1
    have s2 : q_sp B (q_nx B r).1 = p + 1 := by rw [n1]; exact sp_no (by show B (p + 1) ≠ 32; omega)
    have n2 := nx_let s2 b2 (by omega) (by omega)
    have hl2 : (bdg true v).length = 2 := rfl
    rw [hl2] at hR ⊢
    refine ⟨q_nx B (q_nx B r), by rw [n2]; show p + 1 + 1 = _; omega, Or.inl ⟨by rw [n1], ?_, rfl, rfl⟩, by rw [n2], by rw [n2]; show 97 + (v : Int) - 97 = v; omega, ?_, by rw [n1]; simp, ?_⟩
    · rw [n1]
      exact ok_of (by show 0 ≤ p + 1; omega) (by show p + 1 ≤ 190; omega) (sp_no (by show B (p + 1) ≠ 32; omega)) (by show B (p + 1) ≠ 32; omega) (fun e => by rw [show B (p + 1) = 97 + (v : Int) from b2, dig_no (by omega)] at e; cases e)
    · rw [n2, show ((p + 1 + 1, 3, (q_nx B r).2.2.1, 97 + (v : Int) - 97) : q_S).1 = p + ((2 : Nat) : Int) by show p + 1 + 1 = _; omega]
      exact hR.ok (by omega) (by omega)
    · unfold okN
      rw [sp_no (by omega), b1]
      exact ⟨by decide, by decide⟩
  | false =>
    have e1 : bdg false v ++ R = Int32.ofNat (97 + v) :: R := rfl
    rw [e1] at h
    obtain ⟨b2, h⟩ := rd_cons h
    rw [hl] at b2
    have s1 : q_sp B r.1 = p := by rw [hr]; exact sp_no (by omega)
    have n2 := nx_let s1 b2 (by omega) (by omega)
    have hl2 : (bdg false v).length = 1 := rfl
    rw [hl2] at hR ⊢
    refine ⟨q_nx B r, by rw [n2]; rfl, Or.inr ⟨by rw [n2]; simp, rfl, rfl⟩, by rw [n2], by rw [n2]; show 97 + (v : Int) - 97 = v; omega, ?_, by rw [n2]; simp, ?_⟩
    · rw [n2]
      exact hR.ok (by show 0 ≤ p + 1; omega) (by show p + 1 ≤ 190; omega)
    · unfold okN
      rw [sp_no (by omega), b2]
      exact ⟨by omega, dig_no (by omega)⟩
/-- number, ~ and letter -/
theorem lt_ok {B : Int → Int} {p k : Int} {g : Bool} {v : Nat} {R : List Int32} (h : rd B p (bd k g v ++ R)) (hk : -3 ≤ k ∧ k ≤ 3) (hv : v < 12) (p0 : 0 ≤ p) (p1 : p ≤ 170) (hR : okN B (p + (bd k g v).length)) {r : q_S} (hr : r.1 = p) :
    ∃ u : q_S, u.1 = p + (bd k g v).length ∧ q_T B (q_nx B r) (q_nx B u) (2 * v + if g then 1 else 0) (ab k) ∧ q_ok B p ∧ (q_nx B r).2.1 ≠ 5 := by
  have hab := ab_bd hk
  have hi : (((2 * v + if g then 1 else 0 : Nat) : Nat) : Int) = 2 * v + (if g then 1 else 0) := by cases g <;> simp
  by_cases c1 : k = 1 ∨ k = -1
  · have e1 : bd k g v = bdg g v := by unfold bd bdn; rw [if_pos c1]; rfl
    rw [e1] at h hR ⊢
    obtain ⟨u, u1, u2, u3, u4, u5, u6, u7⟩ := lv_ok h hv p0 (by omega) hR hr
    have a1 : ab k = 1 := by unfold ab; split <;> omega
    refine ⟨u, u1, ⟨q_nx B r, u, v, (if g then 1 else 0), Or.inr ⟨u6, rfl, a1⟩, u2.imp (fun x => ⟨x.1, x.2.1, x.2.2.1, x.2.2.2⟩) (fun x => ⟨x.1, x.2.1, x.2.2⟩), u3, u4, hv, u5, hi, by omega, by omega, rfl⟩, u7.ok p0 (by omega), ?_⟩
    rcases u2 with x | x
    · rw [x.1]; decide
    · rw [← x.2.1, u3]; decide
  · obtain ⟨d1, d2⟩ := dgt_p hab.1 (by omega)
    have e1 : bd k g v ++ R = Int32.ofInt (48 + ab k) :: (bdg g v ++ R) := by unfold bd bdn; rw [if_neg c1, d1]; rfl
    have e2 : (((bd k g v).length : Nat) : Int) = 1 + ((bdg g v).length : Nat) := by unfold bd bdn; rw [if_neg c1, d1, List.length_append, List.length_singleton]; omega
    rw [e1] at h
    obtain ⟨b1, h⟩ := rd_cons h
    rw [d2] at b1
    have s1 : q_sp B r.1 = p := by rw [hr]; exact sp_no (by omega)
    have n1 := nx_dig s1 b1 (by omega) (by omega)
    rw [e2, ← Int.add_assoc] at hR
    obtain ⟨u, u1, u2, u3, u4, u5, u6, u7⟩ := lv_ok h hv (by omega) (by omega) hR (r := q_nx B r) (by rw [n1])
    have b7 : t_dig (B (p + 1)) = false := by
      have b32 : B (p + 1) ≠ 32 := fun e => by
        cases g with
        | true =>
          have z : B (p + 1) = (126 : Int32).toInt := (rd_cons (c := 126) (L := Int32.ofNat (97 + v) :: R) h).1
          rw [z] at e
          exact absurd e (by decide)
        | false =>
          have z : B (p + 1) = _ := (rd_cons (c := Int32.ofNat (97 + v)) (L := R) h).1
          rw [let_c v hv] at z
          omega
      have := u7.2
      rwa [sp_no b32] at this
    refine ⟨u, by rw [u1, e2]; omega, ⟨q_nx B (q_nx B r), u, v, (if g then 1 else 0), Or.inl ⟨by rw [n1], ?_, rfl, by rw [n1]; show ab k = 48 + ab k - 48; omega⟩, u2.imp (fun x => ⟨x.1, x.2.1, x.2.2.1, x.2.2.2⟩) (fun x => ⟨x.1, x.2.1, x.2.2⟩), u3, u4, hv, u5, hi, by omega, by omega, rfl⟩, ?_, by rw [n1]; simp⟩
    · rw [n1]
      exact u7.ok (by show 0 ≤ p + 1; omega) (by show p + 1 ≤ 190; omega)
    · exact ok_of p0 (by omega) (sp_no (by omega)) (by omega) (fun _ => b7)
/-- the terms -/
def tm (c : Int32) (v : Nat) : Nat × Int := (2 * v + (if ng c v then 1 else 0), co c v)
def tms (c : Int32) : Nat → Nat → List (Nat × Int)
  | _, 0 => []
  | v, n + 1 => tm c v :: tms c (v + 1) n
theorem tms_len (c : Int32) : ∀ n v, (tms c v n).length = n
  | 0, _ => rfl
  | n + 1, v => by show (tms c (v + 1) n).length + 1 = n + 1; rw [tms_len c n]
/-- what stands behind the terms is no term -/
def tlR (B : Int → Int) (R : List Int32) : Prop := ∀ p, rd B p R → 0 ≤ p → p ≤ 180 → okN B p ∧ ∀ u : q_S, u.1 = p → (q_nx B u).2.1 ≠ 4 ∧ (q_nx B u).2.1 ≠ 5
theorem ch_ok {B : Int → Int} {c : Int32} {R : List Int32} (hT : tlR B R) : ∀ (n v : Nat) (p : Int) (u : q_S), 1 ≤ v → v + n ≤ 6 → rd B p (sx c v n R) → 0 ≤ p → p + 4 * n ≤ 150 → u.1 = p → okN B p ∧ ∃ u' : q_S, u'.1 + (R.length : Int) = p + ((sx c v n R).length : Int) ∧ q_M B (q_nx B u) (tms c v n) (q_nx B u') := by
  intro n
  induction n with
  | zero =>
    intro v p u v1 v6 h p0 p1 hu
    obtain ⟨a, b⟩ := hT p h p0 (by omega)
    exact ⟨a, u, by rw [hu]; rfl, (b u hu).1, (b u hu).2, rfl⟩
  | succ n ih =>
    intro v p u v1 v6 h p0 p1 hu
    have hk := co_bd c v
    have hbl := bd_len hk (ng c v) v
    have hS : ∃ (c0 : Int32), sx c v (n + 1) R = c0 :: (bd (co c v) (ng c v) v ++ sx c (v + 1) n R) ∧ ((co c v < 0 ∧ c0 = 45) ∨ (0 ≤ co c v ∧ c0 = 43)) := by
      by_cases e : co c v < 0
      · exact ⟨45, by show sg1 (co c v) v ++ _ = _; unfold sg1; rw [if_pos e]; rfl, Or.inl ⟨e, rfl⟩⟩
      · exact ⟨43, by show sg1 (co c v) v ++ _ = _; unfold sg1; rw [if_neg e, if_pos (by omega)]; rfl, Or.inr ⟨by omega, rfl⟩⟩
    obtain ⟨c0, e0, hc0⟩ := hS
    rw [e0] at h
    obtain ⟨b1, h2⟩ := rd_cons h
    have h3 := rd_app h2
    obtain ⟨o3, -⟩ := ih (v + 1) (p + 1 + ((bd (co c v) (ng c v) v).length : Int)) (p + 1 + ((bd (co c v) (ng c v) v).length : Int), 0, 0, 0) (by omega) (by omega) h3 (by omega) (by omega) rfl
    have hcv : c0.toInt = 45 ∨ c0.toInt = 43 := hc0.imp (fun x => by rw [x.2]; rfl) (fun x => by rw [x.2]; rfl)
    have s1 : q_sp B u.1 = p := by rw [hu]; exact sp_no (by omega)
    have n1 : (q_nx B u).1 = p + 1 ∧ ((co c v < 0 ∧ (q_nx B u).2.1 = 5) ∨ (0 ≤ co c v ∧ (q_nx B u).2.1 = 4)) := by
      rcases hc0 with ⟨x, rfl⟩ | ⟨x, rfl⟩
      · rw [nx_sy s1 b1 (Or.inl (by decide)), show t_sy (45 : Int32).toInt (B (p + 1)) = (5, 1) from rfl]
        exact ⟨rfl, Or.inl ⟨x, rfl⟩⟩
      · rw [nx_sy s1 b1 (Or.inl (by decide)), show t_sy (43 : Int32).toInt (B (p + 1)) = (4, 1) from rfl]
        exact ⟨rfl, Or.inr ⟨x, rfl⟩⟩
    obtain ⟨u1, a1, a2, a3, -⟩ := lt_ok h2 hk (by omega) (by omega) (by omega) o3 n1.1
    obtain ⟨-, u', z1, z2⟩ := ih (v + 1) _ u1 (by omega) (by omega) h3 (by omega) (by omega) a1
    refine ⟨?_, u', ?_, q_nx B u1, ab (co c v), ?_, by rw [n1.1]; exact a3, a2, z2⟩
    · unfold okN
      rw [sp_no (by omega)]
      exact ⟨by omega, dig_no (by omega)⟩
    · rw [e0, List.length_cons, List.length_append]
      omega
    · rcases n1.2 with ⟨x, y⟩ | ⟨x, y⟩
      · exact Or.inr ⟨y, by show co c v = -ab (co c v); unfold ab; rw [if_pos x]; omega⟩
      · exact Or.inl ⟨y, by show co c v = ab (co c v); unfold ab; rw [if_neg (by omega)]⟩
theorem rl_c (r : Int) : ∃ x : Int32, rl r = [32, x, 61, 32] ∧ ((r = 0 ∧ x = 62) ∨ (r ≠ 0 ∧ x = 60)) := by
  by_cases e : r = 0
  · exact ⟨62, by unfold rl; rw [if_pos e], Or.inl ⟨e, rfl⟩⟩
  · exact ⟨60, by unfold rl; rw [if_neg e], Or.inr ⟨e, rfl⟩⟩
/-- the relation's token -/
theorem rl_nx {B : Int → Int} {p r : Int} {L : List Int32} (h : rd B p (rl r ++ L)) : okN B p ∧ rd B (p + 4) L ∧ B (p + 3) = 32 ∧ ∀ u : q_S, u.1 = p → q_nx B u = (p + 3, if r = 0 then 7 else 8, u.2.2.1, u.2.2.2) := by
  obtain ⟨x, e, hx⟩ := rl_c r
  rw [e] at h
  obtain ⟨b0, h⟩ := rd_cons (L := x :: 61 :: 32 :: L) h
  obtain ⟨b1, h⟩ := rd_cons h
  obtain ⟨b2, h⟩ := rd_cons h
  obtain ⟨b3, h⟩ := rd_cons h
  have b0 : B p = 32 := b0
  have b2 : B (p + 1 + 1) = 61 := b2
  have b3 : B (p + 1 + 1 + 1) = 32 := b3
  have hv : x.toInt = 62 ∨ x.toInt = 60 := hx.imp (fun q => by rw [q.2]; rfl) (fun q => by rw [q.2]; rfl)
  refine ⟨?_, by rw [show p + 4 = p + 1 + 1 + 1 + 1 by omega]; exact h, by rw [show p + 3 = p + 1 + 1 + 1 by omega]; exact b3, fun u hu => ?_⟩
  · unfold okN
    rw [sp_yes b0]
    exact ⟨by omega, dig_no (by omega)⟩
  · rw [nx_sy (s := u) (p := p + 1) (by rw [hu]; exact sp_yes b0) b1 (by omega), b2]
    rcases hx with ⟨q, rfl⟩ | ⟨q, rfl⟩
    · rw [show t_sy (62 : Int32).toInt 61 = (7, 2) from rfl, if_pos q, show p + 1 + 2 = p + 3 by omega]
    · rw [show t_sy (60 : Int32).toInt 61 = (8, 2) from rfl, if_neg q, show p + 1 + 2 = p + 3 by omega]
theorem tlR_rl {B : Int → Int} {r : Int} {L : List Int32} : tlR B (rl r ++ L) := fun p h p0 p1 => by
  obtain ⟨a, -, -, b⟩ := rl_nx h
  refine ⟨a, fun u hu => ?_⟩
  rw [b u hu]
  by_cases e : r = 0
  · rw [if_pos e]; exact ⟨by simp, by simp⟩
  · rw [if_neg e]; exact ⟨by simp, by simp⟩
/-- the text of a constraint is one -/
theorem qC_of {B : Int → Int} {c : Int32} {r d : Int} (h : rd B 0 (tx c r d)) (hd : -3 ≤ d ∧ d ≤ 3) : q_C B (tms c 0 6) (if r = 0 then 7 else 8) d := by
  rw [tx_sx] at h
  have hk := co_bd c 0
  have hbl := bd_len hk (ng c 0) 0
  have hsl := sx_len c (rl r ++ dgt d) 5 1
  have hdl := dg_len d
  have hRl : (rl r ++ dgt d).length = 4 + (dgt d).length := by rw [List.length_append, rl_len]
  -- the bound, from its place on
  have fin : ∀ (u : q_S) (P : Int), u.1 = P → 0 ≤ P → P ≤ 160 → rd B P (rl r ++ dgt d) → ∃ s2 s3 : q_S, (q_nx B u).2.1 = (if r = 0 then 7 else 8) ∧ q_ok B (q_nx B u).1 ∧ s2 = q_nx B (q_nx B u) ∧ ((s2.2.1 = 5 ∧ q_ok B s2.1 ∧ s3 = q_nx B s2 ∧ d = -s3.2.2.1) ∨ (s2.2.1 ≠ 5 ∧ s3 = s2 ∧ d = s3.2.2.1)) ∧ s3.2.1 = 2 ∧ (0 ≤ s3.2.2.1 ∧ s3.2.2.1 ≤ 9) ∧ q_ok B s3.1 ∧ (q_nx B s3).2.1 = 0 := by
    intro u P hu P0 P1 hR
    obtain ⟨-, h4, b3, hn⟩ := rl_nx hR
    have n1 := hn u hu
    have s1 : q_sp B (q_nx B u).1 = P + 4 := by
      rw [n1, show P + 4 = P + 3 + 1 by omega]
      exact sp_yes b3
    by_cases e : d < 0
    · have e1 : dgt d = [45, Int32.ofInt (48 - d)] := by unfold dgt; rw [if_pos e]
      have e2 : (Int32.ofInt (48 - d)).toInt = 48 - d := by
        have := (dgt_p (x := -d) (by omega) (by omega)).2
        rwa [show (48 : Int) + -d = 48 - d by omega] at this
      rw [e1] at h4
      obtain ⟨c1, h4⟩ := rd_cons h4
      obtain ⟨c2, h4⟩ := rd_cons h4
      obtain ⟨c3, c4⟩ := rd_nil h4
      rw [e2] at c2
      have c1 : B (P + 4) = 45 := c1
      have n2 := nx_sy s1 c1 (Or.inl (by decide))
      rw [show t_sy 45 (B (P + 4 + 1)) = (5, 1) from rfl] at n2
      have s2 : q_sp B (q_nx B (q_nx B u)).1 = P + 5 := by
        rw [n2, show P + 5 = P + 4 + 1 by omega]
        exact sp_no (by show B (P + 4 + 1) ≠ 32; omega)
      have c2 : B (P + 5) = 48 - d := by rw [show P + 5 = P + 4 + 1 by omega]; exact c2
      have c3 : B (P + 6) = -1 := by rw [show P + 6 = P + 4 + 1 + 1 by omega]; exact c3
      have n3 := nx_dig s2 c2 (by omega) (by omega)
      have s3 : q_sp B (q_nx B (q_nx B (q_nx B u))).1 = P + 6 := by
        rw [n3, show P + 6 = P + 5 + 1 by omega]
        exact sp_no (by show B (P + 5 + 1) ≠ 32; rw [show P + 5 + 1 = P + 6 by omega]; omega)
      have n4 := nx_sy s3 c3 (Or.inl (by decide))
      refine ⟨_, q_nx B (q_nx B (q_nx B u)), by rw [n1], ?_, rfl, Or.inl ⟨by rw [n2], ?_, rfl, by rw [n3]; show d = -(48 - d - 48); omega⟩, by rw [n3], by rw [n3]; show 0 ≤ 48 - d - 48 ∧ 48 - d - 48 ≤ 9; omega, ?_, by rw [n4]; rfl⟩
      · exact ok_of (by rw [n1]; show 0 ≤ P + 3; omega) (by rw [n1]; show P + 3 ≤ 190; omega) s1 (by omega) (fun z => by rw [c1, dig_no (by omega)] at z; cases z)
      · exact ok_of (by rw [n2]; show 0 ≤ P + 4 + 1; omega) (by rw [n2]; show P + 4 + 1 ≤ 190; omega) s2 (by omega) (fun _ => by rw [show P + 5 + 1 = P + 6 by omega, c3]; rfl)
      · exact ok_of (by rw [n3]; show 0 ≤ P + 5 + 1; omega) (by rw [n3]; show P + 5 + 1 ≤ 190; omega) s3 (by omega) (fun z => by rw [c3] at z; cases z)
    · obtain ⟨e1, e2⟩ := dgt_p (x := d) (by omega) (by omega)
      rw [e1] at h4
      obtain ⟨c2, h4⟩ := rd_cons h4
      obtain ⟨c3, c4⟩ := rd_nil h4
      rw [e2] at c2
      have c3 : B (P + 5) = -1 := by rw [show P + 5 = P + 4 + 1 by omega]; exact c3
      have n3 := nx_dig s1 c2 (by omega) (by omega)
      have s3 : q_sp B (q_nx B (q_nx B u)).1 = P + 5 := by
        rw [n3, show P + 5 = P + 4 + 1 by omega]
        exact sp_no (by show B (P + 4 + 1) ≠ 32; rw [show P + 4 + 1 = P + 5 by omega]; omega)
      have n4 := nx_sy s3 c3 (Or.inl (by decide))
      refine ⟨_, q_nx B (q_nx B u), by rw [n1], ?_, rfl, Or.inr ⟨by rw [n3]; simp, rfl, by rw [n3]; show d = 48 + d - 48; omega⟩, by rw [n3], by rw [n3]; show 0 ≤ 48 + d - 48 ∧ 48 + d - 48 ≤ 9; omega, ?_, by rw [n4]; rfl⟩
      · exact ok_of (by rw [n1]; show 0 ≤ P + 3; omega) (by rw [n1]; show P + 3 ≤ 190; omega) s1 (by omega) (fun _ => by rw [show P + 4 + 1 = P + 5 by omega, c3]; rfl)
      · exact ok_of (by rw [n3]; show 0 ≤ P + 4 + 1; omega) (by rw [n3]; show P + 4 + 1 ≤ 190; omega) s3 (by omega) (fun z => by rw [c3] at z; cases z)
  -- the first term
  have rest : ∀ (p : Int) (r0 : q_S), r0.1 = p → 0 ≤ p → p ≤ 2 → rd B p (bd (co c 0) (ng c 0) 0 ++ sx c 1 5 (rl r ++ dgt d)) → q_ok B p ∧ (q_nx B r0).2.1 ≠ 5 ∧ ∃ (s1 sa s2 s3 : q_S), q_T B (q_nx B r0) sa (tm c 0).1 (ab (co c 0)) ∧ q_M B sa (tms c 1 5) s1 ∧ s1.2.1 = (if r = 0 then 7 else 8) ∧ q_ok B s1.1 ∧ s2 = q_nx B s1 ∧ ((s2.2.1 = 5 ∧ q_ok B s2.1 ∧ s3 = q_nx B s2 ∧ d = -s3.2.2.1) ∨ (s2.2.1 ≠ 5 ∧ s3 = s2 ∧ d = s3.2.2.1)) ∧ s3.2.1 = 2 ∧ (0 ≤ s3.2.2.1 ∧ s3.2.2.1 ≤ 9) ∧ q_ok B s3.1 ∧ (q_nx B s3).2.1 = 0 := by
    intro p r0 hr0 p0 p2 h
    have h3 := rd_app h
    obtain ⟨o3, -⟩ := ch_ok (c := c) tlR_rl 5 1 (p + ((bd (co c 0) (ng c 0) 0).length : Int)) (p + ((bd (co c 0) (ng c 0) 0).length : Int), 0, 0, 0) (by omega) (by omega) h3 (by omega) (by omega) rfl
    obtain ⟨u1, a1, a2, a3, a4⟩ := lt_ok h hk (by omega) p0 (by omega) o3 hr0
    obtain ⟨-, u', z1, z2⟩ := ch_ok (c := c) tlR_rl 5 1 _ u1 (by omega) (by omega) h3 (by omega) (by omega) a1
    have hP : rd B u'.1 (rl r ++ dgt d) := by
      have gen : ∀ (n v : Nat) (p : Int), rd B p (sx c v n (rl r ++ dgt d)) → rd B (p + ((sx c v n (rl r ++ dgt d)).length : Int) - ((rl r ++ dgt d).length : Int)) (rl r ++ dgt d) := by
        intro n
        induction n with
        | zero => intro v p h; rw [show p + (((sx c v 0 (rl r ++ dgt d)).length : Nat) : Int) - ((rl r ++ dgt d).length : Int) = p by show p + ((rl r ++ dgt d).length : Int) - _ = p; omega]; exact h
        | succ n ih =>
          intro v p h
          have h1 : rd B p (sg1 (co c v) v ++ (bd (co c v) (ng c v) v ++ sx c (v + 1) n (rl r ++ dgt d))) := h
          have h2 := ih (v + 1) _ (rd_app (rd_app h1))
          rw [show sx c v (n + 1) (rl r ++ dgt d) = sg1 (co c v) v ++ (bd (co c v) (ng c v) v ++ sx c (v + 1) n (rl r ++ dgt d)) from rfl, List.length_append, List.length_append]
          rw [show p + ((((sg1 (co c v) v).length + ((bd (co c v) (ng c v) v).length + (sx c (v + 1) n (rl r ++ dgt d)).length) : Nat) : Nat) : Int) - ((rl r ++ dgt d).length : Int) = p + ((sg1 (co c v) v).length : Int) + ((bd (co c v) (ng c v) v).length : Int) + ((sx c (v + 1) n (rl r ++ dgt d)).length : Int) - ((rl r ++ dgt d).length : Int) by omega]
          exact h2
      have := gen 5 1 _ h3
      rwa [show p + ((bd (co c 0) (ng c 0) 0).length : Int) + ((sx c 1 5 (rl r ++ dgt d)).length : Int) - ((rl r ++ dgt d).length : Int) = u'.1 by omega] at this
    have hg9 := sx_ge c (rl r ++ dgt d) 5 1
    obtain ⟨s2, s3, f1, f2, f3⟩ := fin u' u'.1 rfl (by omega) (by omega) hP
    exact ⟨a3, a4, q_nx B u', q_nx B u1, s2, s3, a2, z2, f1, f2, f3⟩
  have hr7 : (if r = 0 then (7 : Int) else 8) = 7 ∨ (if r = 0 then (7 : Int) else 8) = 8 := by split; exact Or.inl rfl; exact Or.inr rfl
  have h : rd B 0 (sg1 (co c 0) 0 ++ (bd (co c 0) (ng c 0) 0 ++ sx c 1 5 (rl r ++ dgt d))) := h
  by_cases e : co c 0 < 0
  · have e1 : sg1 (co c 0) 0 = [45] := by unfold sg1; rw [if_pos e]
    rw [e1] at h
    obtain ⟨b0, h⟩ := rd_cons (L := bd (co c 0) (ng c 0) 0 ++ sx c 1 5 (rl r ++ dgt d)) h
    have b0 : B 0 = 45 := b0
    refine ⟨ok_of (p' := 0) (by omega) (by omega) (sp_no (by omega)) (by omega) (fun z => by rw [b0, dig_no (by omega)] at z; cases z), by rw [tms_len]; decide, hr7, fun a b c' => ?_⟩
    have n1 := nx_sy (s := ((0, a, b, c') : q_S)) (p := 0) (sp_no (by show B 0 ≠ 32; omega)) b0 (Or.inl (by decide))
    rw [show t_sy 45 (B (0 + 1)) = (5, 1) from rfl] at n1
    obtain ⟨o1, -, s1, sa, s2, s3, t1, t2, t3⟩ := rest (0 + 1) (q_nx B (0, a, b, c')) (by rw [n1]) (by omega) (by omega) h
    refine ⟨s1, s2, s3, ⟨tm c 0, tms c 1 5, sa, ab (co c 0), rfl, Or.inl ⟨by rw [n1], by rw [n1]; exact o1, t1, by show co c 0 = -ab (co c 0); unfold ab; rw [if_pos e]; omega⟩, t2⟩, t3⟩
  · have e1 : sg1 (co c 0) 0 = [] := by unfold sg1; rw [if_neg e, if_neg (by omega)]
    rw [e1, List.nil_append] at h
    obtain ⟨o1, -⟩ := rest 0 (0, 0, 0, 0) rfl (by omega) (by omega) h
    refine ⟨o1, by rw [tms_len]; decide, hr7, fun a b c' => ?_⟩
    obtain ⟨-, o2, s1, sa, s2, s3, t1, t2, t3⟩ := rest 0 (0, a, b, c') rfl (by omega) (by omega) h
    exact ⟨s1, s2, s3, ⟨tm c 0, tms c 1 5, sa, ab (co c 0), rfl, Or.inr ⟨o2, t1, by show co c 0 = ab (co c 0); unfold ab; rw [if_neg e]⟩, t2⟩, t3⟩
