/-! THE TABLES as the abstract machine takes them: classes, arrays, words -/
def ax_nwk : Cond → Bool
  | .methodLinkNest .. => true
  | .declares _ => true
  | .castable .. => true
  | .arrayOver (.object _) => true
  | _ => false
theorem ax_nw_warm {w : Cond} (h : ax_nwk w = true) {s U : State} (hW : s.WarmedH U.vm) (hw : va_Nw w s) : va_Nw w U := by
  cases w with
  | methodLinkNest _ _ _ _ => exact va_Nw.warmM hW hw
  | declares _ => exact va_Nw.warmD hW hw
  | castable _ _ => exact va_Nw.warmC hW hw
  | arrayOver t =>
    cases t with
    | object C => exact va_AO.moved (C := C) hW.alike hw
    | _ => simp [ax_nwk] at h
  | _ => simp [ax_nwk] at h
theorem ax_nw_use {w : Cond} (h : ax_nwk w = true) {A : Array Value} {U : State} (hw : va_Nw w U) : w.before A U = true := by
  cases w with
  | methodLinkNest _ _ _ _ => exact va_Nw.use rfl hw
  | declares _ => exact va_Nw.use rfl hw
  | castable _ _ => exact va_Nw.use rfl hw
  | arrayOver t =>
    cases t with
    | object C => exact va_AO.use (C := C) hw
    | _ => simp [ax_nwk] at h
  | _ => simp [ax_nwk] at h
/-- an array of this type with these things in it -/
def ax_A (s : State) (b : Nat) (o : Nat → Nat) (ty : FieldType) (vs : List Value) (cell : Cell) : Prop := s.isArrayOf cell ty ∧ cell.vm ≠ .unknown ∧ vs.length ≤ cell.slots.size ∧ cell.slots.size.toInt32 = vs.length.toInt32 ∧ ∀ (k : Nat) (x : Value), vs[k]? = some x → ∃ v, cell.slots[k]? = some v ∧ ax_v b o x v
abbrev ax_O (s : State) (b : Nat) (o : Nat → Nat) (r : ax_H) (H : Heap) : Prop := ∀ k q, r[k]? = some q → (o k < b ∧ k < 1000) ∧ ∃ (t : Nat) (ty : FieldType) (cell : Cell), q.1 = 100 + t ∧ ax_tys[t]? = some ty ∧ H[o k]? = some cell ∧ ax_A s b o ty q.2 cell
def ax_dg1 : List Int32 := [48, 49, 50, 51, 52, 53, 54, 55, 56, 57, 48, 49, 50, 51, 52, 53, 54, 55, 56, 57, 48, 49, 50, 51, 52, 53, 54, 55, 56, 57, 48, 49, 50, 51, 52, 53, 54, 55, 56, 57, 48, 49, 50, 51, 52, 53, 54, 55, 56, 57, 48, 49, 50, 51, 52, 53, 54, 55, 56, 57, 48, 49, 50, 51, 52, 53, 54, 55, 56, 57, 48, 49, 50, 51, 52, 53, 54, 55, 56, 57, 48, 49, 50, 51, 52, 53, 54, 55, 56, 57, 48, 49, 50, 51, 52, 53, 54, 55, 56, 57]
def ax_dg2 : List Int32 := [48, 48, 48, 48, 48, 48, 48, 48, 48, 48, 49, 49, 49, 49, 49, 49, 49, 49, 49, 49, 50, 50, 50, 50, 50, 50, 50, 50, 50, 50, 51, 51, 51, 51, 51, 51, 51, 51, 51, 51, 52, 52, 52, 52, 52, 52, 52, 52, 52, 52, 53, 53, 53, 53, 53, 53, 53, 53, 53, 53, 54, 54, 54, 54, 54, 54, 54, 54, 54, 54, 55, 55, 55, 55, 55, 55, 55, 55, 55, 55, 56, 56, 56, 56, 56, 56, 56, 56, 56, 56, 57, 57, 57, 57, 57, 57, 57, 57, 57, 57]
/-- a String of n Latin-1 letters at a, its bytes at t -/
def ax_js (a t n : Nat) (bs : List Int32) (A : Nat → Prop) (U : State) (H : Heap) : Prop := va_O "java/lang/String" a A U H ∧ va_OF "java/lang/String" "coder" "B" (.int 0) a A U H ∧ va_OF "java/lang/String" "value" "[B" (.ref t) a A U H ∧ va_T .byte t n (fun j => .int (bs.getD j 0)) A U H
theorem ax_js.moved {a t n : Nat} {bs : List Int32} {A : Nat → Prop} {u U : State} {H : Heap} (hvm : u.vm.Alike U.vm) (h : ax_js a t n bs A u H) : ax_js a t n bs A U H := ⟨va_O.moved hvm h.1, va_OF.moved hvm h.2.1, va_OF.moved hvm h.2.2.1, va_T.moved hvm h.2.2.2⟩
theorem ax_js.kept {a t n : Nat} {bs : List Int32} {A : Nat → Prop} {U : State} {H H1 : Heap} (h : ax_js a t n bs A U H) (hq : ∀ q : Nat, q < H.size → ¬ A q → H1[q]? = H[q]?) : ax_js a t n bs A U H1 := ⟨h.1.kept hq, h.2.1.kept hq, h.2.2.1.kept hq, h.2.2.2.kept hq⟩
def ax_jn : String := "jdk/internal/util/Preconditions"
/-- the law's Strings: constant, place (its bytes' place is the next), bytes, text -/
def ax_sl : List (Nat × Nat × List Int32 × String) := [(42, 2, [], ""), (54, 4, [45], "-"), (56, 6, [43], "+"), (69, 8, [126], "~"), (74, 10, [32, 62, 61, 32], " >= "), (76, 12, [32, 60, 61, 32], " <= ")]
/-- what else was there before: the law's Strings, a table of digits, a static -/
def ax_J (b : Nat) (o : Nat → Nat) (U : State) : Prop :=
  (∀ q ∈ ax_sl, ax_js (o q.2.1) (o (q.2.1 + 1)) q.2.2.1.length q.2.2.1 (fun q => b ≤ q) U U.heap ∧ vk_R "PseudoBooleanLaw" q.1 q.2.2.2 (o q.2.1) U) ∧
  (va_Z "java/lang/Integer" "DigitOnes" "[B" (.ref (o 14)) (fun q => b ≤ q) U U.heap ∧ va_T .byte (o 14) 100 (fun j => .int (ax_dg1.getD j 0)) (fun q => b ≤ q) U U.heap) ∧
  vx_Zq ax_jn "SIOOBE_FORMATTER" "Ljava/util/function/BiFunction;" (fun q => b ≤ q) U U.heap
theorem ax_J.warm {b : Nat} {o : Nat → Nat} {s U : State} (h : ax_J b o s) (hW : s.WarmedH U.vm) (hk : ∀ q : Nat, q < s.heap.size → ¬ b ≤ q → U.heap[q]? = s.heap[q]?) : ax_J b o U := by
  obtain ⟨a1, ⟨c1, c2⟩, e1⟩ := h
  have hal := hW.alike
  exact ⟨fun q hq => ⟨((a1 q hq).1.moved hal).kept hk, (a1 q hq).2.warm hW⟩, ⟨(va_Z.moved hal c1).kept hk, (va_T.moved hal c2).kept hk⟩, (vx_Zq.moved hal e1).kept hk⟩
def ax_T (ns : ax_NS) (r : ax_H) (D : va_G) (b : Nat) (o : Nat → Nat) (U : State) : Prop :=
  (∀ (ci : Nat) (q : ax_Cl), ax_cls[ci]? = some q → u_Kn U q.1 q.2.1 q.2.2.1 (D.1 ci) (D.2 ci)) ∧
  (∀ (t : Nat) (ty : FieldType), ax_tys[t]? = some ty → ArrOfT U (D.1 (100 + t)) ty ∧ va_RA U (D.1 (100 + t)) ty ∧ ∀ j, D.2 (100 + t) j = j) ∧
  (∀ w ∈ ns.1, ax_nwk w = true ∧ va_Nw w U) ∧ (∀ q ∈ ns.2, ∃ a, vk_R q.1 q.2.1 q.2.2 a U) ∧
  vx_Zq Bundle.tN "UNASSIGNED_STACK" Bundle.steD (fun q => b ≤ q) U U.heap ∧ vx_Zq Bundle.tN "SUPPRESSED_SENTINEL" Bundle.listD (fun q => b ≤ q) U U.heap ∧
  (∀ q ∈ ax_stat, ∃ v, ax_v b o q.2.2.2 v ∧ va_Z q.1 q.2.1 q.2.2.1 v (fun q => b ≤ q) U U.heap) ∧
  ax_O U b o r U.heap ∧ (∀ q ∈ ax_ncs, va_Nc q.1 q.2 U) ∧ b ≤ U.heap.size ∧ ax_J b o U
theorem ax_T.warm {ns : ax_NS} {r : ax_H} {D : va_G} {b : Nat} {o : Nat → Nat} {s U : State} (h : ax_T ns r D b o s) (hW : s.WarmedH U.vm) (hz : s.heap.size ≤ U.heap.size) (hk : ∀ q : Nat, q < s.heap.size → ¬ b ≤ q → U.heap[q]? = s.heap[q]?) : ax_T ns r D b o U := by
  obtain ⟨h1, h2, h3, h4, h5, h6, h7, h8, h10, h9, h11⟩ := h
  have hal := hW.alike
  refine ⟨fun ci q hq => u_Kn_moved hal (h1 ci q hq), fun t ty ht => ?_, fun w hw => ⟨(h3 w hw).1, ax_nw_warm (h3 w hw).1 hW (h3 w hw).2⟩, fun q hq => ?_, (vx_Zq.moved hal h5).kept hk, (vx_Zq.moved hal h6).kept hk, fun q hq => ?_, fun k q hq => ?_, fun q hq => (h10 q hq).moved hal, Nat.le_trans h9 hz, h11.warm hW hk⟩
  · obtain ⟨a1, a2, a3⟩ := h2 t ty ht
    exact ⟨arrOfT_moved hal a1, a2.moved hal, a3⟩
  · obtain ⟨a, ha⟩ := h4 q hq
    exact ⟨a, ha.warm hW⟩
  · obtain ⟨v, hv, hZ⟩ := h7 q hq
    exact ⟨v, hv, (va_Z.moved hal hZ).kept hk⟩
  · obtain ⟨a1, t, ty, cell, a2, a3, a4, a5, a6⟩ := h8 k q hq
    exact ⟨a1, t, ty, cell, a2, a3, by rw [hk _ (by omega) (by omega)]; exact a4, State.isArrayOf_alike hal a5, a6⟩
/-! THE FRAME -/
/-- what stands fast while a method's frame is at work -/
def ax_X (ns : ax_NS) (l : Launch) (k : ax_M) (d : Nat) (r : ax_H) (D : va_G) (b : Nat) (o : Nat → Nat) (TC TS : Nat) (p : Program) (R : Room) (s : State) (m : MethodId) (args : Array Value) (meth : Method) (c : Code) : Prop :=
  p.tables.exec = Jvm.exec ∧ c.code = k.2.1 ∧ c.maxLocals = k.2.2.1 ∧ s.vm.findClass k.1.cls = some m.cls ∧ (∀ w ∈ ax_tb, w.before args s = true) ∧ ax_T ns r D b o s ∧ d + 6 ≤ R.frames ∧ 40 * d + 224 ≤ R.locals ∧ TC ≤ R.cells ∧ TS ≤ R.slots ∧ meth.locks = false ∧ meth.name = k.1.name ∧ l.stackTraces = false ∧ c.exceptionTable.toList = tableOf k.2.2.2.2 ∧ s.heap.size + TC < b + 1000000000
def ax_G (nL : Nat) (D : va_G) (b : Nat) (o : Nat → Nat) (TC TS : Nat) (s : State) (lv : List (Nat × Value)) (st : List Value) (h : ax_H) (bc bs : Nat) (lvc : List (Nat × Value)) (ls : Array Slot) (stc : List Value) (H : Heap) (locs : List Loc) (cells slots : Nat) : Prop :=
  lv_has ls nL lvc ∧ ax_ls b o lv lvc ∧ ax_vs b o st stc ∧ ax_R D b o h H ∧ va_S (ax_RG b o) s.heap H locs ∧ cells + bc ≤ TC ∧ slots + bs ≤ TS
/-- from this place, with whatever stands for it, the machine goes on to Z -/
def AC (l : Launch) (nL : Nat) (D : va_G) (b : Nat) (o : Nat → Nat) (TC TS : Nat) (p : Program) (e : Env) (R : Room) (s : State) (m : MethodId) (args : Array Value) (below : List Frame) (meth : Method) (c : Code) (Z : State → Prop) (pc : Nat) (lv : List (Nat × Value)) (st : List Value) (h : ax_H) (bc bs : Nat) : Prop :=
  ∀ (lvc : List (Nat × Value)) (ls : Array Slot) (stc : List Value) (H : Heap) (locs : List Loc) (cells slots : Nat), ax_G nL D b o TC TS s lv st h bc bs lvc ls stc H locs cells slots → W p l e R s m args below meth c H locs cells slots Z (F0 m pc ls stc)
/-- the same where E has been thrown over the frame -/
def ACX (l : Launch) (nL : Nat) (D : va_G) (b : Nat) (o : Nat → Nat) (TC TS : Nat) (p : Program) (e : Env) (R : Room) (s : State) (m : MethodId) (args : Array Value) (below : List Frame) (meth : Method) (c : Code) (Z : State → Prop) (pc : Nat) (lv : List (Nat × Value)) (E : String) (h : ax_H) (bc bs : Nat) : Prop :=
  ∀ (lvc : List (Nat × Value)) (ls : Array Slot) (stc : List Value) (H : Heap) (locs : List Loc) (cells slots : Nat) (q : Addr) (ce : Cell), ax_G nL D b o TC TS s lv [] h bc bs lvc ls [] H locs cells slots → H[q]? = some ce → ce.vm = .none → s.vm.findClass E = some ce.cls → vx_W p l e R s m args below meth c H locs cells slots Z (F0 m pc ls stc) q
abbrev ax_P : Type := Nat → List (Nat × Value) → List Value → ax_H → Nat → Nat → Prop
abbrev ax_PX : Type := Nat → List (Nat × Value) → String → ax_H → Nat → Nat → Prop
/-- the machine gets from this place to one with P, or throws with X -/
def AR (ns : ax_NS) (l : Launch) (k : ax_M) (d : Nat) (r : ax_H) (P : ax_P) (X : ax_PX) (pc : Nat) (lv : List (Nat × Value)) (st : List Value) (h : ax_H) (bc bs : Nat) : Prop :=
  ∀ (D : va_G) (b : Nat) (o : Nat → Nat) (TC TS : Nat) (p : Program) (e : Env) (R : Room) (s : State) (m : MethodId) (args : Array Value) (below : List Frame) (meth : Method) (c : Code) (Z : State → Prop), ax_X ns l k d r D b o TC TS p R s m args meth c →
    (∀ pc lv st h bc bs, P pc lv st h bc bs → AC l k.2.2.1 D b o TC TS p e R s m args below meth c Z pc lv st h bc bs) → (∀ pc lv E h bc bs, X pc lv E h bc bs → ACX l k.2.2.1 D b o TC TS p e R s m args below meth c Z pc lv E h bc bs) → AC l k.2.2.1 D b o TC TS p e R s m args below meth c Z pc lv st h bc bs
/-- the same where E has been thrown over the frame -/
def AX (ns : ax_NS) (l : Launch) (k : ax_M) (d : Nat) (r : ax_H) (P : ax_P) (X : ax_PX) (pc : Nat) (lv : List (Nat × Value)) (E : String) (h : ax_H) (bc bs : Nat) : Prop :=
  ∀ (D : va_G) (b : Nat) (o : Nat → Nat) (TC TS : Nat) (p : Program) (e : Env) (R : Room) (s : State) (m : MethodId) (args : Array Value) (below : List Frame) (meth : Method) (c : Code) (Z : State → Prop), ax_X ns l k d r D b o TC TS p R s m args meth c →
    (∀ pc lv st h bc bs, P pc lv st h bc bs → AC l k.2.2.1 D b o TC TS p e R s m args below meth c Z pc lv st h bc bs) → (∀ pc lv E h bc bs, X pc lv E h bc bs → ACX l k.2.2.1 D b o TC TS p e R s m args below meth c Z pc lv E h bc bs) → ACX l k.2.2.1 D b o TC TS p e R s m args below meth c Z pc lv E h bc bs
theorem ax_size {D : va_G} {b : Nat} {o : Nat → Nat} {TC : Nat} {p : Program} {l : Launch} {e : Env} {R : Room} {s : State} {m : MethodId} {args : Array Value} {below : List Frame} {meth : Method} {c : Code} {Z : State → Prop} {g : JFrame} {h : ax_H} {bc : Nat} {H : Heap} {locs : List Loc} {cells slots : Nat} (hz : s.heap.size + TC < b + 1000000000) (hR : ax_R D b o h H) (hc : cells + bc ≤ TC) (K : h.length < 1000000000 → W p l e R s m args below meth c H locs cells slots Z g) : W p l e R s m args below meth c H locs cells slots Z g := by
  intro T hT X
  refine K ?_ T hT X
  have h1 := X.heapSize
  rw [hT, hR.1] at h1
  omega
section AXR
variable {ns : ax_NS} {l : Launch} {k : ax_M} {d : Nat} {r : ax_H} {P P' : ax_P} {X : ax_PX} {pc : Nat} {lv : List (Nat × Value)} {st : List Value} {h : ax_H} {bc bs : Nat}
theorem AR.at (hp : P pc lv st h bc bs) : AR ns l k d r P X pc lv st h bc bs := fun _ _ _ _ _ _ _ _ _ _ _ _ _ _ _ _ hP _ => hP _ _ _ _ _ _ hp
theorem AR.then (ha : AR ns l k d r P X pc lv st h bc bs) (hb : ∀ pc lv st h bc bs, P pc lv st h bc bs → AR ns l k d r P' X pc lv st h bc bs) : AR ns l k d r P' X pc lv st h bc bs :=
  fun D b o TC TS p e R s m args below meth c Z hX hP hXX => ha D b o TC TS p e R s m args below meth c Z hX (fun pc lv st h bc bs hp => hb pc lv st h bc bs hp D b o TC TS p e R s m args below meth c Z hX hP hXX) hXX
theorem AR.lt {bc' bs' : Nat} (h1 : bc' ≤ bc) (h2 : bs' ≤ bs) (ha : AR ns l k d r P X pc lv st h bc' bs') : AR ns l k d r P X pc lv st h bc bs := by
  intro D b o TC TS p e R s m args below meth c Z hX hP hXX lvc ls stc H locs cells slots hG
  obtain ⟨g1, g2, g3, g4, g5, g6, g7⟩ := hG
  exact ha D b o TC TS p e R s m args below meth c Z hX hP hXX lvc ls stc H locs cells slots ⟨g1, g2, g3, g4, g5, by omega, by omega⟩
/-- of an int that isn't known: for each that it may be -/
theorem AR.split {x : Value} (hx : ax_isI x = true) (K : ∀ i, ax_vi x i → AR ns l k d r P X pc lv (.int i :: st) h bc bs) : AR ns l k d r P X pc lv (x :: st) h bc bs := by
  intro D b o TC TS p e R s m args below meth c Z hX hP hXX lvc ls stc H locs cells slots hG
  obtain ⟨g1, g2, ⟨v1, t1, rfl, hv1, hs1⟩, g4, g5, g6, g7⟩ := hG
  cases x <;> simp only [ax_isI] at hx
  case int i => exact K i rfl D b o TC TS p e R s m args below meth c Z hX hP hXX _ _ _ _ _ _ _ ⟨g1, g2, ⟨_, _, rfl, hv1, hs1⟩, g4, g5, g6, g7⟩
  case float n =>
    obtain ⟨i, rfl, hi, -⟩ := hv1
    exact K i hi D b o TC TS p e R s m args below meth c Z hX hP hXX _ _ _ _ _ _ _ ⟨g1, g2, ⟨_, _, rfl, rfl, hs1⟩, g4, g5, g6, g7⟩
  all_goals cases hx
theorem AR.split2 {x y : Value} (hx : ax_isI x = true) (hy : ax_isI y = true) (K : ∀ i j, ax_vi x i → ax_vi y j → AR ns l k d r P X pc lv (.int j :: .int i :: st) h bc bs) : AR ns l k d r P X pc lv (y :: x :: st) h bc bs := by
  intro D b o TC TS p e R s m args below meth c Z hX hP hXX lvc ls stc H locs cells slots hG
  obtain ⟨g1, g2, ⟨v1, t1, rfl, hv1, v2, t2, rfl, hv2, hs2⟩, g4, g5, g6, g7⟩ := hG
  obtain ⟨i, hi, rfl⟩ : ∃ i, ax_vi x i ∧ v2 = .int i := by
    cases x <;> simp only [ax_isI] at hx
    case int i => exact ⟨i, rfl, hv2⟩
    case float n => obtain ⟨i, h1, h2, -⟩ := hv2; exact ⟨i, h2, h1⟩
    all_goals cases hx
  obtain ⟨j, hj, rfl⟩ : ∃ j, ax_vi y j ∧ v1 = .int j := by
    cases y <;> simp only [ax_isI] at hy
    case int i => exact ⟨i, rfl, hv1⟩
    case float n => obtain ⟨i, h1, h2, -⟩ := hv1; exact ⟨i, h2, h1⟩
    all_goals cases hy
  exact K i j hi hj D b o TC TS p e R s m args below meth c Z hX hP hXX _ _ _ _ _ _ _ ⟨g1, g2, ⟨_, _, rfl, rfl, _, _, rfl, rfl, hs2⟩, g4, g5, g6, g7⟩
theorem AX.out {E : String} (hx : X pc lv E h bc bs) : AX ns l k d r P X pc lv E h bc bs := fun _ _ _ _ _ _ _ _ _ _ _ _ _ _ _ _ _ hXX => hXX _ _ _ _ _ _ hx
/-- a handler of the method's own takes it -/
theorem AX.caught {E : String} {pre suf : List (Nat × Nat × Nat × Nat)} {s0 e0 hpc ct : Nat} (ht : k.2.2.2.2 = pre ++ (s0, e0, hpc, ct) :: suf) (h1 : s0 ≤ pc) (h2 : pc < e0) (h3 : ct ≠ 0) (h4 : Cond.classLink k.1.cls ct E ∈ ax_tb) (h5 : Cond.castable E E ∈ ns.1) (h6 : ∀ z ∈ pre, z.2.2.2 ≠ 0 ∧ ∃ nm, Cond.classLink k.1.cls z.2.2.2 nm ∈ ax_tb ∧ (E, nm) ∈ ax_ncs) (K : AR ns l k d r P X hpc lv [.retAddr 0] h bc bs) : AX ns l k d r P X pc lv E h bc bs := by
  intro D b o TC TS p e R s m args below meth c Z hX hP hXX lvc ls stc H locs cells slots q ce hG hce hcv hcl
  obtain ⟨g1, g2, g3, g4, g5, g6, g7⟩ := hG
  obtain ⟨hx, hb, hml, hown, hts, hT, -, -, -, -, -, -, -, hex, -⟩ := id hX
  obtain ⟨-, -, hT3, -, -, -, -, -, hT10, -⟩ := hT
  refine vx_catch hown (tableOf pre) ⟨s0, e0, hpc, ct⟩ (tableOf suf) (by rw [hex, ht]; simp [tableOf]) (fun z hz => ?_) (by simp [covers, h1, h2]) h3 (hts _ h4) (ax_nw_use (hT3 _ h5).1 (hT3 _ h5).2) hce hcv hcl ?_
  · simp only [tableOf, List.mem_map] at hz
    obtain ⟨y, hy, rfl⟩ := hz
    obtain ⟨a1, nm, a2, a3⟩ := h6 y hy
    exact Or.inr ⟨a1, nm, hts _ a2, hT10 _ a3⟩
  · exact K D b o TC TS p e R s m args below meth c Z hX hP hXX _ _ _ _ _ _ _ ⟨g1, g2, ⟨_, _, rfl, ⟨q, rfl, ax_ga0 _ _ _⟩, rfl⟩, g4, g5, g6, g7⟩
end AXR
