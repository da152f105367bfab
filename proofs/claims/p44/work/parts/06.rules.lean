/-! RULES of the abstract machine: one instruction each -/
section AXI
variable {ns : ax_NS} {l : Launch} {k : ax_M} {d : Nat} {r : ax_H} {P : ax_P} {X : ax_PX} {pc : Nat} {lv : List (Nat × Value)} {st : List Value} {h : ax_H} {bc bs : Nat}
theorem AR.push0 {n : Nat} {v : Value} (hv : ∀ b o, ax_v b o v v) (hW : ∀ {p : Program} {e : Env} {R : Room} {s : State} {m : MethodId} {args : Array Value} {below : List Frame} {meth : Method} {c : Code} {H : Heap} {locs : List Loc} {cells slots : Nat} {Z : State → Prop} {ls : Array Slot} {rest : List Value}, p.tables.exec = Jvm.exec → c.code = k.2.1 → W p l e R s m args below meth c H locs cells slots Z (F0 m (pc + n) ls (v :: rest)) → W p l e R s m args below meth c H locs cells slots Z (F0 m pc ls rest)) (K : AR ns l k d r P X (pc + n) lv (v :: st) h bc bs) : AR ns l k d r P X pc lv st h bc bs := by
  intro D b o TC TS p e R s m args below meth c Z hX hP hXX lvc ls stc H locs cells slots hG
  have hx := hX.1
  have hb := hX.2.1
  obtain ⟨g1, g2, g3, g4, g5, g6, g7⟩ := hG
  exact hW hx hb (K D b o TC TS p e R s m args below meth c Z hX hP hXX _ _ _ _ _ _ _ ⟨g1, g2, ⟨_, _, rfl, hv b o, g3⟩, g4, g5, g6, g7⟩)
theorem AR.iconst {n : Int} (hd : decode k.2.1 pc = .ok (.iconst n, 1)) (K : AR ns l k d r P X (pc + 1) lv (.int (Int32.ofInt n) :: st) h bc bs) : AR ns l k d r P X pc lv st h bc bs := AR.push0 (v := .int (Int32.ofInt n)) (fun _ _ => rfl) (fun hx hb q => lv_iconst hx hb hd rfl q) K
theorem AR.bipush {n : Int} (hd : decode k.2.1 pc = .ok (.bipush n, 2)) (K : AR ns l k d r P X (pc + 2) lv (.int (Int8.ofInt n).toInt32 :: st) h bc bs) : AR ns l k d r P X pc lv st h bc bs := AR.push0 (v := .int (Int8.ofInt n).toInt32) (fun _ _ => rfl) (fun hx hb q => lv_bipush hx hb hd rfl q) K
theorem AR.sipush {n : Int} (hd : decode k.2.1 pc = .ok (.sipush n, 3)) (K : AR ns l k d r P X (pc + 3) lv (.int (Int16.ofInt n).toInt32 :: st) h bc bs) : AR ns l k d r P X pc lv st h bc bs := AR.push0 (v := .int (Int16.ofInt n).toInt32) (fun _ _ => rfl) (fun hx hb q => lv_sipush hx hb hd rfl q) K
theorem AR.lconst {n : Fin 2} (hd : decode k.2.1 pc = .ok (.lconst n, 1)) (K : AR ns l k d r P X (pc + 1) lv (.long (Int64.ofNat (n : Nat)) :: st) h bc bs) : AR ns l k d r P X pc lv st h bc bs := AR.push0 (v := .long (Int64.ofNat (n : Nat))) (fun _ _ => rfl) (fun hx hb q => lv_lconst hx hb hd rfl q) K
theorem AR.loadI {n i : Nat} {x : Value} (hl : ax_at lv i = some x) (ht : ax_isI x = true) (hW : ∀ {p : Program} {e : Env} {R : Room} {s : State} {m : MethodId} {args : Array Value} {below : List Frame} {meth : Method} {c : Code} {H : Heap} {locs : List Loc} {cells slots : Nat} {Z : State → Prop} {ls : Array Slot} {rest : List Value} {y : Int32}, p.tables.exec = Jvm.exec → c.code = k.2.1 → ls[i]? = some (.val (.int y)) → W p l e R s m args below meth c H locs cells slots Z (F0 m (pc + n) ls (.int y :: rest)) → W p l e R s m args below meth c H locs cells slots Z (F0 m pc ls rest)) (K : AR ns l k d r P X (pc + n) lv (x :: st) h bc bs) : AR ns l k d r P X pc lv st h bc bs := by
  intro D b o TC TS p e R s m args below meth c Z hX hP hXX lvc ls stc H locs cells slots hG
  have hx := hX.1
  have hb := hX.2.1
  obtain ⟨g1, g2, g3, g4, g5, g6, g7⟩ := hG
  obtain ⟨v, hm, hv⟩ := ax_at_spec g2 hl
  obtain ⟨y, rfl⟩ := ax_v_I hv ht
  exact hW hx hb (g1.2.2 _ hm) (K D b o TC TS p e R s m args below meth c Z hX hP hXX _ _ _ _ _ _ _ ⟨g1, g2, ⟨_, _, rfl, hv, g3⟩, g4, g5, g6, g7⟩)
theorem AR.iload_n {j : Fin 4} {x : Value} (hd : decode k.2.1 pc = .ok (.iload_n j, 1)) (hl : ax_at lv (j : Nat) = some x) (ht : ax_isI x = true) (K : AR ns l k d r P X (pc + 1) lv (x :: st) h bc bs) : AR ns l k d r P X pc lv st h bc bs := AR.loadI hl ht (fun hx hb q w => lv_iload_n hx hb hd rfl q w) K
theorem AR.iload {j : Nat} {x : Value} (hd : decode k.2.1 pc = .ok (.iload j, 2)) (hl : ax_at lv j = some x) (ht : ax_isI x = true) (K : AR ns l k d r P X (pc + 2) lv (x :: st) h bc bs) : AR ns l k d r P X pc lv st h bc bs := AR.loadI hl ht (fun hx hb q w => lv_iload hx hb hd q w) K
theorem AR.storeI {n i : Nat} {x : Value} (hn : i < k.2.2.1) (ht : ax_isI x = true) (hW : ∀ {p : Program} {e : Env} {R : Room} {s : State} {m : MethodId} {args : Array Value} {below : List Frame} {meth : Method} {c : Code} {H : Heap} {locs : List Loc} {cells slots : Nat} {Z : State → Prop} {ls : Array Slot} {rest : List Value} {y : Int32} {lv0 : List (Nat × Value)}, p.tables.exec = Jvm.exec → c.code = k.2.1 → lv_has ls k.2.2.1 lv0 → (∀ ls' : Array Slot, lv_has ls' k.2.2.1 (ax_s1 i (.int y) lv0) → W p l e R s m args below meth c H locs cells slots Z (F0 m (pc + n) ls' rest)) → W p l e R s m args below meth c H locs cells slots Z (F0 m pc ls (.int y :: rest))) (K : AR ns l k d r P X (pc + n) (ax_s1 i x lv) st h bc bs) : AR ns l k d r P X pc lv (x :: st) h bc bs := by
  intro D b o TC TS p e R s m args below meth c Z hX hP hXX lvc ls stc H locs cells slots hG
  have hx := hX.1
  have hb := hX.2.1
  obtain ⟨g1, g2, g3, g4, g5, g6, g7⟩ := hG
  obtain ⟨v, t, rfl, hv, hs⟩ := g3
  obtain ⟨y, rfl⟩ := ax_v_I hv ht
  exact hW hx hb g1 (fun ls' h' => K D b o TC TS p e R s m args below meth c Z hX hP hXX _ _ _ _ _ _ _ ⟨h', ax_s1_spec g2 hv, hs, g4, g5, g6, g7⟩)
theorem AR.istore_n {j : Fin 4} {x : Value} (hd : decode k.2.1 pc = .ok (.istore_n j, 1)) (hn : (j : Nat) < k.2.2.1) (ht : ax_isI x = true) (K : AR ns l k d r P X (pc + 1) (ax_s1 (j : Nat) x lv) st h bc bs) : AR ns l k d r P X pc lv (x :: st) h bc bs := AR.storeI hn ht (fun hx hb q w => lv_istore_n hx hb hd rfl q hn rfl w) K
theorem AR.istore {j : Nat} {x : Value} (hd : decode k.2.1 pc = .ok (.istore j, 2)) (hn : j < k.2.2.1) (ht : ax_isI x = true) (K : AR ns l k d r P X (pc + 2) (ax_s1 j x lv) st h bc bs) : AR ns l k d r P X pc lv (x :: st) h bc bs := AR.storeI hn ht (fun hx hb q w => lv_istore hx hb hd q hn rfl w) K
theorem AR.loadL {n i : Nat} {x : Value} (hl : ax_at lv i = some x) (ht : ax_isL x = true) (hW : ∀ {p : Program} {e : Env} {R : Room} {s : State} {m : MethodId} {args : Array Value} {below : List Frame} {meth : Method} {c : Code} {H : Heap} {locs : List Loc} {cells slots : Nat} {Z : State → Prop} {ls : Array Slot} {rest : List Value} {y : Int64}, p.tables.exec = Jvm.exec → c.code = k.2.1 → ls[i]? = some (.val (.long y)) → W p l e R s m args below meth c H locs cells slots Z (F0 m (pc + n) ls (.long y :: rest)) → W p l e R s m args below meth c H locs cells slots Z (F0 m pc ls rest)) (K : AR ns l k d r P X (pc + n) lv (x :: st) h bc bs) : AR ns l k d r P X pc lv st h bc bs := by
  intro D b o TC TS p e R s m args below meth c Z hX hP hXX lvc ls stc H locs cells slots hG
  have hx := hX.1
  have hb := hX.2.1
  obtain ⟨g1, g2, g3, g4, g5, g6, g7⟩ := hG
  obtain ⟨v, hm, hv⟩ := ax_at_spec g2 hl
  obtain ⟨y, rfl⟩ := ax_v_L hv ht
  exact hW hx hb (g1.2.2 _ hm) (K D b o TC TS p e R s m args below meth c Z hX hP hXX _ _ _ _ _ _ _ ⟨g1, g2, ⟨_, _, rfl, hv, g3⟩, g4, g5, g6, g7⟩)
theorem AR.lload_n {j : Fin 4} {x : Value} (hd : decode k.2.1 pc = .ok (.lload_n j, 1)) (hl : ax_at lv (j : Nat) = some x) (ht : ax_isL x = true) (K : AR ns l k d r P X (pc + 1) lv (x :: st) h bc bs) : AR ns l k d r P X pc lv st h bc bs := AR.loadL hl ht (fun hx hb q w => lv_lload_n hx hb hd rfl q w) K
theorem AR.lload {j : Nat} {x : Value} (hd : decode k.2.1 pc = .ok (.lload j, 2)) (hl : ax_at lv j = some x) (ht : ax_isL x = true) (K : AR ns l k d r P X (pc + 2) lv (x :: st) h bc bs) : AR ns l k d r P X pc lv st h bc bs := AR.loadL hl ht (fun hx hb q w => lv_lload hx hb hd q w) K
theorem AR.storeL {n i : Nat} {x : Value} (hn : i + 1 < k.2.2.1) (ht : ax_isL x = true) (hW : ∀ {p : Program} {e : Env} {R : Room} {s : State} {m : MethodId} {args : Array Value} {below : List Frame} {meth : Method} {c : Code} {H : Heap} {locs : List Loc} {cells slots : Nat} {Z : State → Prop} {ls : Array Slot} {rest : List Value} {y : Int64} {lv0 : List (Nat × Value)}, p.tables.exec = Jvm.exec → c.code = k.2.1 → lv_has ls k.2.2.1 lv0 → (∀ ls' : Array Slot, lv_has ls' k.2.2.1 (ax_s2 i (.long y) lv0) → W p l e R s m args below meth c H locs cells slots Z (F0 m (pc + n) ls' rest)) → W p l e R s m args below meth c H locs cells slots Z (F0 m pc ls (.long y :: rest))) (K : AR ns l k d r P X (pc + n) (ax_s2 i x lv) st h bc bs) : AR ns l k d r P X pc lv (x :: st) h bc bs := by
  intro D b o TC TS p e R s m args below meth c Z hX hP hXX lvc ls stc H locs cells slots hG
  have hx := hX.1
  have hb := hX.2.1
  obtain ⟨g1, g2, g3, g4, g5, g6, g7⟩ := hG
  obtain ⟨v, t, rfl, hv, hs⟩ := g3
  obtain ⟨y, rfl⟩ := ax_v_L hv ht
  exact hW hx hb g1 (fun ls' h' => K D b o TC TS p e R s m args below meth c Z hX hP hXX _ _ _ _ _ _ _ ⟨h', ax_s2_spec g2 hv, hs, g4, g5, g6, g7⟩)
theorem AR.lstore_n {j : Fin 4} {x : Value} (hd : decode k.2.1 pc = .ok (.lstore_n j, 1)) (hn : (j : Nat) + 1 < k.2.2.1) (ht : ax_isL x = true) (K : AR ns l k d r P X (pc + 1) (ax_s2 (j : Nat) x lv) st h bc bs) : AR ns l k d r P X pc lv (x :: st) h bc bs := AR.storeL hn ht (fun hx hb q w => lv_lstore_n hx hb hd rfl q hn rfl w) K
theorem AR.lstore {j : Nat} {x : Value} (hd : decode k.2.1 pc = .ok (.lstore j, 2)) (hn : j + 1 < k.2.2.1) (ht : ax_isL x = true) (K : AR ns l k d r P X (pc + 2) (ax_s2 j x lv) st h bc bs) : AR ns l k d r P X pc lv (x :: st) h bc bs := AR.storeL hn ht (fun hx hb q w => lv_lstore hx hb hd q hn rfl w) K
theorem AR.loadA {n i : Nat} {x : Value} (hl : ax_at lv i = some x) (ht : ax_isA x = true) (hW : ∀ {p : Program} {e : Env} {R : Room} {s : State} {m : MethodId} {args : Array Value} {below : List Frame} {meth : Method} {c : Code} {H : Heap} {locs : List Loc} {cells slots : Nat} {Z : State → Prop} {ls : Array Slot} {rest : List Value} {y : Nat}, p.tables.exec = Jvm.exec → c.code = k.2.1 → ls[i]? = some (.val (.ref y)) → W p l e R s m args below meth c H locs cells slots Z (F0 m (pc + n) ls (.ref y :: rest)) → W p l e R s m args below meth c H locs cells slots Z (F0 m pc ls rest)) (K : AR ns l k d r P X (pc + n) lv (x :: st) h bc bs) : AR ns l k d r P X pc lv st h bc bs := by
  intro D b o TC TS p e R s m args below meth c Z hX hP hXX lvc ls stc H locs cells slots hG
  have hx := hX.1
  have hb := hX.2.1
  obtain ⟨g1, g2, g3, g4, g5, g6, g7⟩ := hG
  obtain ⟨v, hm, hv⟩ := ax_at_spec g2 hl
  obtain ⟨y, rfl⟩ := ax_v_A hv ht
  exact hW hx hb (g1.2.2 _ hm) (K D b o TC TS p e R s m args below meth c Z hX hP hXX _ _ _ _ _ _ _ ⟨g1, g2, ⟨_, _, rfl, hv, g3⟩, g4, g5, g6, g7⟩)
theorem AR.aload_n {j : Fin 4} {x : Value} (hd : decode k.2.1 pc = .ok (.aload_n j, 1)) (hl : ax_at lv (j : Nat) = some x) (ht : ax_isA x = true) (K : AR ns l k d r P X (pc + 1) lv (x :: st) h bc bs) : AR ns l k d r P X pc lv st h bc bs := AR.loadA hl ht (fun hx hb q w => lv_aload_n hx hb hd rfl q w) K
theorem AR.aload {j : Nat} {x : Value} (hd : decode k.2.1 pc = .ok (.aload j, 2)) (hl : ax_at lv j = some x) (ht : ax_isA x = true) (K : AR ns l k d r P X (pc + 2) lv (x :: st) h bc bs) : AR ns l k d r P X pc lv st h bc bs := AR.loadA hl ht (fun hx hb q w => lv_aload hx hb hd q w) K
theorem AR.storeA {n i : Nat} {x : Value} (hn : i < k.2.2.1) (ht : ax_isA x = true) (hW : ∀ {p : Program} {e : Env} {R : Room} {s : State} {m : MethodId} {args : Array Value} {below : List Frame} {meth : Method} {c : Code} {H : Heap} {locs : List Loc} {cells slots : Nat} {Z : State → Prop} {ls : Array Slot} {rest : List Value} {y : Nat} {lv0 : List (Nat × Value)}, p.tables.exec = Jvm.exec → c.code = k.2.1 → lv_has ls k.2.2.1 lv0 → (∀ ls' : Array Slot, lv_has ls' k.2.2.1 (ax_s1 i (.ref y) lv0) → W p l e R s m args below meth c H locs cells slots Z (F0 m (pc + n) ls' rest)) → W p l e R s m args below meth c H locs cells slots Z (F0 m pc ls (.ref y :: rest))) (K : AR ns l k d r P X (pc + n) (ax_s1 i x lv) st h bc bs) : AR ns l k d r P X pc lv (x :: st) h bc bs := by
  intro D b o TC TS p e R s m args below meth c Z hX hP hXX lvc ls stc H locs cells slots hG
  have hx := hX.1
  have hb := hX.2.1
  obtain ⟨g1, g2, g3, g4, g5, g6, g7⟩ := hG
  obtain ⟨v, t, rfl, hv, hs⟩ := g3
  obtain ⟨y, rfl⟩ := ax_v_A hv ht
  exact hW hx hb g1 (fun ls' h' => K D b o TC TS p e R s m args below meth c Z hX hP hXX _ _ _ _ _ _ _ ⟨h', ax_s1_spec g2 hv, hs, g4, g5, g6, g7⟩)
theorem AR.astore_n {j : Fin 4} {x : Value} (hd : decode k.2.1 pc = .ok (.astore_n j, 1)) (hn : (j : Nat) < k.2.2.1) (ht : ax_isA x = true) (K : AR ns l k d r P X (pc + 1) (ax_s1 (j : Nat) x lv) st h bc bs) : AR ns l k d r P X pc lv (x :: st) h bc bs := AR.storeA hn ht (fun hx hb q w => lv_astore_n hx hb hd rfl q hn rfl w) K
theorem AR.astore {j : Nat} {x : Value} (hd : decode k.2.1 pc = .ok (.astore j, 2)) (hn : j < k.2.2.1) (ht : ax_isA x = true) (K : AR ns l k d r P X (pc + 2) (ax_s1 j x lv) st h bc bs) : AR ns l k d r P X pc lv (x :: st) h bc bs := AR.storeA hn ht (fun hx hb q w => lv_astore hx hb hd q hn rfl w) K
theorem AR.iinc {j : Nat} {n : Int} {x z : Value} (hd : decode k.2.1 pc = .ok (.iinc j n, 3)) (hn : j < k.2.2.1) (hl : ax_at lv j = some x) (hz : ax_b2 (· + ·) x (.int (Int32.ofInt n)) = some z) (K : AR ns l k d r P X (pc + 3) (ax_s1 j z lv) st h bc bs) : AR ns l k d r P X pc lv st h bc bs := by
  intro D b o TC TS p e R s m args below meth c Z hX hP hXX lvc ls stc H locs cells slots hG
  have hx := hX.1
  have hb := hX.2.1
  obtain ⟨g1, g2, g3, g4, g5, g6, g7⟩ := hG
  obtain ⟨v, hm, hv⟩ := ax_at_spec g2 hl
  obtain ⟨i, i2, rfl, e2, hv2⟩ := ax_b2_spec (b := b) (o := o) hz hv (rfl : ax_v b o (.int (Int32.ofInt n)) (.int (Int32.ofInt n)))
  cases e2
  obtain ⟨q, hq⟩ := List.getElem?_of_mem hm
  exact lv_iinc (lv' := ax_s1 j (.int (i + Int32.ofInt n)) lvc) hx hb hd g1 hq rfl hn rfl (fun ls' h' => K D b o TC TS p e R s m args below meth c Z hX hP hXX _ _ _ _ _ _ _ ⟨h', ax_s1_spec g2 hv2, g3, g4, g5, g6, g7⟩)
theorem AR.r_ib {f : Int32 → Int32 → Int32} {x y z : Value} (hW : ∀ {p : Program} {e : Env} {R : Room} {s : State} {m : MethodId} {args : Array Value} {below : List Frame} {meth : Method} {c : Code} {H : Heap} {locs : List Loc} {cells slots : Nat} {Z : State → Prop} {ls : Array Slot} {rest : List Value} {i : Int32} {j : Int32}, p.tables.exec = Jvm.exec → c.code = k.2.1 → W p l e R s m args below meth c H locs cells slots Z (F0 m (pc + 1) ls (.int (f i j) :: rest)) → W p l e R s m args below meth c H locs cells slots Z (F0 m pc ls (.int j :: .int i :: rest))) (hz : ax_b2 f x y = some z) (K : AR ns l k d r P X (pc + 1) lv (z :: st) h bc bs) : AR ns l k d r P X pc lv (y :: x :: st) h bc bs := by
  intro D b o TC TS p e R s m args below meth c Z hX hP hXX lvc ls stc H locs cells slots hG
  have hx := hX.1
  have hb := hX.2.1
  obtain ⟨g1, g2, g3, g4, g5, g6, g7⟩ := hG
  obtain ⟨v2, t2, rfl, hv2, hs2⟩ := g3
  obtain ⟨v1, t1, rfl, hv1, hs1⟩ := hs2
  obtain ⟨i, j, rfl, rfl, hv⟩ := ax_b2_spec hz hv1 hv2
  exact hW hx hb (K D b o TC TS p e R s m args below meth c Z hX hP hXX _ _ _ _ _ _ _ ⟨g1, g2, ⟨_, _, rfl, hv, hs1⟩, g4, g5, g6, g7⟩)
theorem AR.r_id {f : Int32 → Int32 → Int32} {x y z : Value} (hW : ∀ {p : Program} {e : Env} {R : Room} {s : State} {m : MethodId} {args : Array Value} {below : List Frame} {meth : Method} {c : Code} {H : Heap} {locs : List Loc} {cells slots : Nat} {Z : State → Prop} {ls : Array Slot} {rest : List Value} {i : Int32} {j : Int32}, p.tables.exec = Jvm.exec → c.code = k.2.1 → ¬ j = 0 → W p l e R s m args below meth c H locs cells slots Z (F0 m (pc + 1) ls (.int (f i j) :: rest)) → W p l e R s m args below meth c H locs cells slots Z (F0 m pc ls (.int j :: .int i :: rest))) (hz : ax_d2 f x y = some z) (K : AR ns l k d r P X (pc + 1) lv (z :: st) h bc bs) : AR ns l k d r P X pc lv (y :: x :: st) h bc bs := by
  intro D b o TC TS p e R s m args below meth c Z hX hP hXX lvc ls stc H locs cells slots hG
  have hx := hX.1
  have hb := hX.2.1
  obtain ⟨g1, g2, g3, g4, g5, g6, g7⟩ := hG
  obtain ⟨v2, t2, rfl, hv2, hs2⟩ := g3
  obtain ⟨v1, t1, rfl, hv1, hs1⟩ := hs2
  obtain ⟨i, j, rfl, rfl, hne, hv⟩ := ax_d2_spec hz hv1 hv2
  exact hW hx hb hne (K D b o TC TS p e R s m args below meth c Z hX hP hXX _ _ _ _ _ _ _ ⟨g1, g2, ⟨_, _, rfl, hv, hs1⟩, g4, g5, g6, g7⟩)
theorem AR.r_lb {f : Int64 → Int64 → Int64} {x y z : Value} (hW : ∀ {p : Program} {e : Env} {R : Room} {s : State} {m : MethodId} {args : Array Value} {below : List Frame} {meth : Method} {c : Code} {H : Heap} {locs : List Loc} {cells slots : Nat} {Z : State → Prop} {ls : Array Slot} {rest : List Value} {i : Int64} {j : Int64}, p.tables.exec = Jvm.exec → c.code = k.2.1 → W p l e R s m args below meth c H locs cells slots Z (F0 m (pc + 1) ls (.long (f i j) :: rest)) → W p l e R s m args below meth c H locs cells slots Z (F0 m pc ls (.long j :: .long i :: rest))) (hz : ax_l2 f x y = some z) (K : AR ns l k d r P X (pc + 1) lv (z :: st) h bc bs) : AR ns l k d r P X pc lv (y :: x :: st) h bc bs := by
  intro D b o TC TS p e R s m args below meth c Z hX hP hXX lvc ls stc H locs cells slots hG
  have hx := hX.1
  have hb := hX.2.1
  obtain ⟨g1, g2, g3, g4, g5, g6, g7⟩ := hG
  obtain ⟨v2, t2, rfl, hv2, hs2⟩ := g3
  obtain ⟨v1, t1, rfl, hv1, hs1⟩ := hs2
  obtain ⟨i, j, rfl, rfl, hv⟩ := ax_l2_spec hz hv1 hv2
  exact hW hx hb (K D b o TC TS p e R s m args below meth c Z hX hP hXX _ _ _ _ _ _ _ ⟨g1, g2, ⟨_, _, rfl, hv, hs1⟩, g4, g5, g6, g7⟩)
theorem AR.r_ld {f : Int64 → Int64 → Int64} {x y z : Value} (hW : ∀ {p : Program} {e : Env} {R : Room} {s : State} {m : MethodId} {args : Array Value} {below : List Frame} {meth : Method} {c : Code} {H : Heap} {locs : List Loc} {cells slots : Nat} {Z : State → Prop} {ls : Array Slot} {rest : List Value} {i : Int64} {j : Int64}, p.tables.exec = Jvm.exec → c.code = k.2.1 → ¬ j = 0 → W p l e R s m args below meth c H locs cells slots Z (F0 m (pc + 1) ls (.long (f i j) :: rest)) → W p l e R s m args below meth c H locs cells slots Z (F0 m pc ls (.long j :: .long i :: rest))) (hz : ax_m2 f x y = some z) (K : AR ns l k d r P X (pc + 1) lv (z :: st) h bc bs) : AR ns l k d r P X pc lv (y :: x :: st) h bc bs := by
  intro D b o TC TS p e R s m args below meth c Z hX hP hXX lvc ls stc H locs cells slots hG
  have hx := hX.1
  have hb := hX.2.1
  obtain ⟨g1, g2, g3, g4, g5, g6, g7⟩ := hG
  obtain ⟨v2, t2, rfl, hv2, hs2⟩ := g3
  obtain ⟨v1, t1, rfl, hv1, hs1⟩ := hs2
  obtain ⟨i, j, rfl, rfl, hne, hv⟩ := ax_m2_spec hz hv1 hv2
  exact hW hx hb hne (K D b o TC TS p e R s m args below meth c Z hX hP hXX _ _ _ _ _ _ _ ⟨g1, g2, ⟨_, _, rfl, hv, hs1⟩, g4, g5, g6, g7⟩)
theorem AR.r_li {f : Int64 → Int32 → Int64} {x y z : Value} (hW : ∀ {p : Program} {e : Env} {R : Room} {s : State} {m : MethodId} {args : Array Value} {below : List Frame} {meth : Method} {c : Code} {H : Heap} {locs : List Loc} {cells slots : Nat} {Z : State → Prop} {ls : Array Slot} {rest : List Value} {i : Int64} {j : Int32}, p.tables.exec = Jvm.exec → c.code = k.2.1 → W p l e R s m args below meth c H locs cells slots Z (F0 m (pc + 1) ls (.long (f i j) :: rest)) → W p l e R s m args below meth c H locs cells slots Z (F0 m pc ls (.int j :: .long i :: rest))) (hz : ax_li f x y = some z) (K : AR ns l k d r P X (pc + 1) lv (z :: st) h bc bs) : AR ns l k d r P X pc lv (y :: x :: st) h bc bs := by
  intro D b o TC TS p e R s m args below meth c Z hX hP hXX lvc ls stc H locs cells slots hG
  have hx := hX.1
  have hb := hX.2.1
  obtain ⟨g1, g2, g3, g4, g5, g6, g7⟩ := hG
  obtain ⟨v2, t2, rfl, hv2, hs2⟩ := g3
  obtain ⟨v1, t1, rfl, hv1, hs1⟩ := hs2
  obtain ⟨i, j, rfl, rfl, hv⟩ := ax_li_spec hz hv1 hv2
  exact hW hx hb (K D b o TC TS p e R s m args below meth c Z hX hP hXX _ _ _ _ _ _ _ ⟨g1, g2, ⟨_, _, rfl, hv, hs1⟩, g4, g5, g6, g7⟩)
theorem AR.iadd {x y z : Value} (hd : decode k.2.1 pc = .ok (.iadd, 1)) (hz : ax_b2 (fun i j => i + j) x y = some z) (K : AR ns l k d r P X (pc + 1) lv (z :: st) h bc bs) : AR ns l k d r P X pc lv (y :: x :: st) h bc bs := AR.r_ib (fun hx hb q => lv_iadd hx hb hd q) hz K
theorem AR.isub {x y z : Value} (hd : decode k.2.1 pc = .ok (.isub, 1)) (hz : ax_b2 (fun i j => i - j) x y = some z) (K : AR ns l k d r P X (pc + 1) lv (z :: st) h bc bs) : AR ns l k d r P X pc lv (y :: x :: st) h bc bs := AR.r_ib (fun hx hb q => lv_isub hx hb hd q) hz K
theorem AR.imul {x y z : Value} (hd : decode k.2.1 pc = .ok (.imul, 1)) (hz : ax_b2 (fun i j => i * j) x y = some z) (K : AR ns l k d r P X (pc + 1) lv (z :: st) h bc bs) : AR ns l k d r P X pc lv (y :: x :: st) h bc bs := AR.r_ib (fun hx hb q => lv_imul hx hb hd q) hz K
theorem AR.iand {x y z : Value} (hd : decode k.2.1 pc = .ok (.iand, 1)) (hz : ax_b2 (fun i j => i &&& j) x y = some z) (K : AR ns l k d r P X (pc + 1) lv (z :: st) h bc bs) : AR ns l k d r P X pc lv (y :: x :: st) h bc bs := AR.r_ib (fun hx hb q => lv_iand hx hb hd q) hz K
theorem AR.ior {x y z : Value} (hd : decode k.2.1 pc = .ok (.ior, 1)) (hz : ax_b2 (fun i j => i ||| j) x y = some z) (K : AR ns l k d r P X (pc + 1) lv (z :: st) h bc bs) : AR ns l k d r P X pc lv (y :: x :: st) h bc bs := AR.r_ib (fun hx hb q => lv_ior hx hb hd q) hz K
theorem AR.ixor {x y z : Value} (hd : decode k.2.1 pc = .ok (.ixor, 1)) (hz : ax_b2 (fun i j => i ^^^ j) x y = some z) (K : AR ns l k d r P X (pc + 1) lv (z :: st) h bc bs) : AR ns l k d r P X pc lv (y :: x :: st) h bc bs := AR.r_ib (fun hx hb q => lv_ixor hx hb hd q) hz K
theorem AR.ishl {x y z : Value} (hd : decode k.2.1 pc = .ok (.ishl, 1)) (hz : ax_b2 (fun i j => i <<< (j &&& 31)) x y = some z) (K : AR ns l k d r P X (pc + 1) lv (z :: st) h bc bs) : AR ns l k d r P X pc lv (y :: x :: st) h bc bs := AR.r_ib (fun hx hb q => lv_ishl hx hb hd q) hz K
theorem AR.ishr {x y z : Value} (hd : decode k.2.1 pc = .ok (.ishr, 1)) (hz : ax_b2 (fun i j => i >>> (j &&& 31)) x y = some z) (K : AR ns l k d r P X (pc + 1) lv (z :: st) h bc bs) : AR ns l k d r P X pc lv (y :: x :: st) h bc bs := AR.r_ib (fun hx hb q => lv_ishr hx hb hd q) hz K
theorem AR.iushr {x y z : Value} (hd : decode k.2.1 pc = .ok (.iushr, 1)) (hz : ax_b2 (fun i j => (i.toUInt32 >>> (j.toUInt32 &&& Int32.toUInt32 31)).toInt32) x y = some z) (K : AR ns l k d r P X (pc + 1) lv (z :: st) h bc bs) : AR ns l k d r P X pc lv (y :: x :: st) h bc bs := AR.r_ib (fun hx hb q => lv_iushr hx hb hd rfl q) hz K
theorem AR.ladd {x y z : Value} (hd : decode k.2.1 pc = .ok (.ladd, 1)) (hz : ax_l2 (fun i j => i + j) x y = some z) (K : AR ns l k d r P X (pc + 1) lv (z :: st) h bc bs) : AR ns l k d r P X pc lv (y :: x :: st) h bc bs := AR.r_lb (fun hx hb q => lv_ladd hx hb hd q) hz K
theorem AR.lsub {x y z : Value} (hd : decode k.2.1 pc = .ok (.lsub, 1)) (hz : ax_l2 (fun i j => i - j) x y = some z) (K : AR ns l k d r P X (pc + 1) lv (z :: st) h bc bs) : AR ns l k d r P X pc lv (y :: x :: st) h bc bs := AR.r_lb (fun hx hb q => lv_lsub hx hb hd q) hz K
theorem AR.lmul {x y z : Value} (hd : decode k.2.1 pc = .ok (.lmul, 1)) (hz : ax_l2 (fun i j => i * j) x y = some z) (K : AR ns l k d r P X (pc + 1) lv (z :: st) h bc bs) : AR ns l k d r P X pc lv (y :: x :: st) h bc bs := AR.r_lb (fun hx hb q => lv_lmul hx hb hd q) hz K
theorem AR.land {x y z : Value} (hd : decode k.2.1 pc = .ok (.land, 1)) (hz : ax_l2 (fun i j => i &&& j) x y = some z) (K : AR ns l k d r P X (pc + 1) lv (z :: st) h bc bs) : AR ns l k d r P X pc lv (y :: x :: st) h bc bs := AR.r_lb (fun hx hb q => lv_land hx hb hd q) hz K
theorem AR.lor {x y z : Value} (hd : decode k.2.1 pc = .ok (.lor, 1)) (hz : ax_l2 (fun i j => i ||| j) x y = some z) (K : AR ns l k d r P X (pc + 1) lv (z :: st) h bc bs) : AR ns l k d r P X pc lv (y :: x :: st) h bc bs := AR.r_lb (fun hx hb q => lv_lor hx hb hd q) hz K
theorem AR.lxor {x y z : Value} (hd : decode k.2.1 pc = .ok (.lxor, 1)) (hz : ax_l2 (fun i j => i ^^^ j) x y = some z) (K : AR ns l k d r P X (pc + 1) lv (z :: st) h bc bs) : AR ns l k d r P X pc lv (y :: x :: st) h bc bs := AR.r_lb (fun hx hb q => lv_lxor hx hb hd q) hz K
theorem AR.lshl {x y z : Value} (hd : decode k.2.1 pc = .ok (.lshl, 1)) (hz : ax_li (fun i j => i <<< (j.toInt64 &&& 63)) x y = some z) (K : AR ns l k d r P X (pc + 1) lv (z :: st) h bc bs) : AR ns l k d r P X pc lv (y :: x :: st) h bc bs := AR.r_li (fun hx hb q => lv_lshl hx hb hd rfl q) hz K
theorem AR.lshr {x y z : Value} (hd : decode k.2.1 pc = .ok (.lshr, 1)) (hz : ax_li (fun i j => i >>> (j.toInt64 &&& 63)) x y = some z) (K : AR ns l k d r P X (pc + 1) lv (z :: st) h bc bs) : AR ns l k d r P X pc lv (y :: x :: st) h bc bs := AR.r_li (fun hx hb q => lv_lshr hx hb hd rfl q) hz K
theorem AR.lushr {x y z : Value} (hd : decode k.2.1 pc = .ok (.lushr, 1)) (hz : ax_li (fun i j => (i.toUInt64 >>> (j.toInt64.toUInt64 &&& Int64.toUInt64 63)).toInt64) x y = some z) (K : AR ns l k d r P X (pc + 1) lv (z :: st) h bc bs) : AR ns l k d r P X pc lv (y :: x :: st) h bc bs := AR.r_li (fun hx hb q => lv_lushr hx hb hd rfl q) hz K
theorem AR.idiv {x y z : Value} (hd : decode k.2.1 pc = .ok (.idiv, 1)) (hz : ax_d2 (fun i j => i / j) x y = some z) (K : AR ns l k d r P X (pc + 1) lv (z :: st) h bc bs) : AR ns l k d r P X pc lv (y :: x :: st) h bc bs := AR.r_id (fun hx hb hne q => lv_idiv hx hb hd hne q) hz K
theorem AR.irem {x y z : Value} (hd : decode k.2.1 pc = .ok (.irem, 1)) (hz : ax_d2 (fun i j => i - i / j * j) x y = some z) (K : AR ns l k d r P X (pc + 1) lv (z :: st) h bc bs) : AR ns l k d r P X pc lv (y :: x :: st) h bc bs := AR.r_id (fun hx hb hne q => lv_irem hx hb hd hne q) hz K
theorem AR.ldiv {x y z : Value} (hd : decode k.2.1 pc = .ok (.ldiv, 1)) (hz : ax_m2 (fun i j => i / j) x y = some z) (K : AR ns l k d r P X (pc + 1) lv (z :: st) h bc bs) : AR ns l k d r P X pc lv (y :: x :: st) h bc bs := AR.r_ld (fun hx hb hne q => lv_ldiv hx hb hd hne q) hz K
theorem AR.lrem {x y z : Value} (hd : decode k.2.1 pc = .ok (.lrem, 1)) (hz : ax_m2 (fun i j => i - i / j * j) x y = some z) (K : AR ns l k d r P X (pc + 1) lv (z :: st) h bc bs) : AR ns l k d r P X pc lv (y :: x :: st) h bc bs := AR.r_ld (fun hx hb hne q => lv_lrem hx hb hd hne q) hz K
theorem AR.ineg {x z : Value} (hd : decode k.2.1 pc = .ok (.ineg, 1)) (hz : ax_u1 (fun i => -i) x = some z) (K : AR ns l k d r P X (pc + 1) lv (z :: st) h bc bs) : AR ns l k d r P X pc lv (x :: st) h bc bs := by
  intro D b o TC TS p e R s m args below meth c Z hX hP hXX lvc ls stc H locs cells slots hG
  have hx := hX.1
  have hb := hX.2.1
  obtain ⟨g1, g2, g3, g4, g5, g6, g7⟩ := hG
  obtain ⟨v1, t1, rfl, hv1, hs1⟩ := g3
  obtain ⟨i, rfl, hv⟩ := ax_u1_spec hz hv1
  exact lv_ineg hx hb hd (K D b o TC TS p e R s m args below meth c Z hX hP hXX _ _ _ _ _ _ _ ⟨g1, g2, ⟨_, _, rfl, hv, hs1⟩, g4, g5, g6, g7⟩)
theorem AR.lneg {x z : Value} (hd : decode k.2.1 pc = .ok (.lneg, 1)) (hz : ax_ul (fun i => -i) x = some z) (K : AR ns l k d r P X (pc + 1) lv (z :: st) h bc bs) : AR ns l k d r P X pc lv (x :: st) h bc bs := by
  intro D b o TC TS p e R s m args below meth c Z hX hP hXX lvc ls stc H locs cells slots hG
  have hx := hX.1
  have hb := hX.2.1
  obtain ⟨g1, g2, g3, g4, g5, g6, g7⟩ := hG
  obtain ⟨v1, t1, rfl, hv1, hs1⟩ := g3
  obtain ⟨i, rfl, hv⟩ := ax_ul_spec hz hv1
  exact lv_lneg hx hb hd (K D b o TC TS p e R s m args below meth c Z hX hP hXX _ _ _ _ _ _ _ ⟨g1, g2, ⟨_, _, rfl, hv, hs1⟩, g4, g5, g6, g7⟩)
theorem AR.i2l {x z : Value} (hd : decode k.2.1 pc = .ok (.i2l, 1)) (hz : ax_i2l x = some z) (K : AR ns l k d r P X (pc + 1) lv (z :: st) h bc bs) : AR ns l k d r P X pc lv (x :: st) h bc bs := by
  intro D b o TC TS p e R s m args below meth c Z hX hP hXX lvc ls stc H locs cells slots hG
  have hx := hX.1
  have hb := hX.2.1
  obtain ⟨g1, g2, g3, g4, g5, g6, g7⟩ := hG
  obtain ⟨v1, t1, rfl, hv1, hs1⟩ := g3
  obtain ⟨i, rfl, hv⟩ := ax_i2l_spec hz hv1
  exact lv_i2l hx hb hd rfl (K D b o TC TS p e R s m args below meth c Z hX hP hXX _ _ _ _ _ _ _ ⟨g1, g2, ⟨_, _, rfl, hv, hs1⟩, g4, g5, g6, g7⟩)
theorem AR.l2i {x z : Value} (hd : decode k.2.1 pc = .ok (.l2i, 1)) (hz : ax_l2i x = some z) (K : AR ns l k d r P X (pc + 1) lv (z :: st) h bc bs) : AR ns l k d r P X pc lv (x :: st) h bc bs := by
  intro D b o TC TS p e R s m args below meth c Z hX hP hXX lvc ls stc H locs cells slots hG
  have hx := hX.1
  have hb := hX.2.1
  obtain ⟨g1, g2, g3, g4, g5, g6, g7⟩ := hG
  obtain ⟨v1, t1, rfl, hv1, hs1⟩ := g3
  obtain ⟨i, rfl, hv⟩ := ax_l2i_spec hz hv1
  exact lv_l2i hx hb hd rfl (K D b o TC TS p e R s m args below meth c Z hX hP hXX _ _ _ _ _ _ _ ⟨g1, g2, ⟨_, _, rfl, hv, hs1⟩, g4, g5, g6, g7⟩)
theorem AR.i2c {x z : Value} (hd : decode k.2.1 pc = .ok (.i2c, 1)) (hz : ax_u1 (fun i => (i.toUInt32 % 65536).toInt32) x = some z) (K : AR ns l k d r P X (pc + 1) lv (z :: st) h bc bs) : AR ns l k d r P X pc lv (x :: st) h bc bs := by
  intro D b o TC TS p e R s m args below meth c Z hX hP hXX lvc ls stc H locs cells slots hG
  have hx := hX.1
  have hb := hX.2.1
  obtain ⟨g1, g2, g3, g4, g5, g6, g7⟩ := hG
  obtain ⟨v1, t1, rfl, hv1, hs1⟩ := g3
  obtain ⟨i, rfl, hv⟩ := ax_u1_spec hz hv1
  exact lv_i2c hx hb hd rfl (K D b o TC TS p e R s m args below meth c Z hX hP hXX _ _ _ _ _ _ _ ⟨g1, g2, ⟨_, _, rfl, hv, hs1⟩, g4, g5, g6, g7⟩)
theorem AR.i2b {x z : Value} (hd : decode k.2.1 pc = .ok (.i2b, 1)) (hz : ax_u1 (fun i => i.toInt8.toInt32) x = some z) (K : AR ns l k d r P X (pc + 1) lv (z :: st) h bc bs) : AR ns l k d r P X pc lv (x :: st) h bc bs := by
  intro D b o TC TS p e R s m args below meth c Z hX hP hXX lvc ls stc H locs cells slots hG
  have hx := hX.1
  have hb := hX.2.1
  obtain ⟨g1, g2, g3, g4, g5, g6, g7⟩ := hG
  obtain ⟨v1, t1, rfl, hv1, hs1⟩ := g3
  obtain ⟨i, rfl, hv⟩ := ax_u1_spec hz hv1
  exact lv_i2b hx hb hd rfl (K D b o TC TS p e R s m args below meth c Z hX hP hXX _ _ _ _ _ _ _ ⟨g1, g2, ⟨_, _, rfl, hv, hs1⟩, g4, g5, g6, g7⟩)
theorem AR.lcmp {x y z : Value} (hd : decode k.2.1 pc = .ok (.lcmp, 1)) (hz : ax_lc x y = some z) (K : AR ns l k d r P X (pc + 1) lv (z :: st) h bc bs) : AR ns l k d r P X pc lv (y :: x :: st) h bc bs := by
  intro D b o TC TS p e R s m args below meth c Z hX hP hXX lvc ls stc H locs cells slots hG
  have hx := hX.1
  have hb := hX.2.1
  obtain ⟨g1, g2, g3, g4, g5, g6, g7⟩ := hG
  obtain ⟨v2, t2, rfl, hv2, hs2⟩ := g3
  obtain ⟨v1, t1, rfl, hv1, hs1⟩ := hs2
  obtain ⟨i, j, rfl, rfl, hv⟩ := ax_lc_spec hz hv1 hv2
  exact W.lcmp hx hb hd (K D b o TC TS p e R s m args below meth c Z hX hP hXX _ _ _ _ _ _ _ ⟨g1, g2, ⟨_, _, rfl, hv, hs1⟩, g4, g5, g6, g7⟩)
theorem AR.dup {x : Value} (hd : decode k.2.1 pc = .ok (.dup, 1)) (hc : x.category = 1) (K : AR ns l k d r P X (pc + 1) lv (x :: x :: st) h bc bs) : AR ns l k d r P X pc lv (x :: st) h bc bs := by
  intro D b o TC TS p e R s m args below meth c Z hX hP hXX lvc ls stc H locs cells slots hG
  have hx := hX.1
  have hb := hX.2.1
  obtain ⟨g1, g2, g3, g4, g5, g6, g7⟩ := hG
  obtain ⟨v1, t1, rfl, hv1, hs1⟩ := g3
  exact lv_dup hx hb hd ((ax_v_cat hv1).trans hc) (K D b o TC TS p e R s m args below meth c Z hX hP hXX _ _ _ _ _ _ _ ⟨g1, g2, ⟨_, _, rfl, hv1, _, _, rfl, hv1, hs1⟩, g4, g5, g6, g7⟩)
theorem AR.pop {x : Value} (hd : decode k.2.1 pc = .ok (.pop, 1)) (hc : x.category = 1) (K : AR ns l k d r P X (pc + 1) lv st h bc bs) : AR ns l k d r P X pc lv (x :: st) h bc bs := by
  intro D b o TC TS p e R s m args below meth c Z hX hP hXX lvc ls stc H locs cells slots hG
  have hx := hX.1
  have hb := hX.2.1
  obtain ⟨g1, g2, g3, g4, g5, g6, g7⟩ := hG
  obtain ⟨v1, t1, rfl, hv1, hs1⟩ := g3
  exact lv_pop hx hb hd ((ax_v_cat hv1).trans hc) (K D b o TC TS p e R s m args below meth c Z hX hP hXX _ _ _ _ _ _ _ ⟨g1, g2, hs1, g4, g5, g6, g7⟩)
theorem AR.dup2 {x y : Value} (hd : decode k.2.1 pc = .ok (.dup2, 1)) (hc : x.category = 1) (hc2 : y.category = 1) (K : AR ns l k d r P X (pc + 1) lv (x :: y :: x :: y :: st) h bc bs) : AR ns l k d r P X pc lv (x :: y :: st) h bc bs := by
  intro D b o TC TS p e R s m args below meth c Z hX hP hXX lvc ls stc H locs cells slots hG
  have hx := hX.1
  have hb := hX.2.1
  obtain ⟨g1, g2, g3, g4, g5, g6, g7⟩ := hG
  obtain ⟨v1, t1, rfl, hv1, hs1⟩ := g3
  obtain ⟨v2, t2, rfl, hv2, hs2⟩ := hs1
  exact lv_dup2_11 hx hb hd ((ax_v_cat hv1).trans hc) ((ax_v_cat hv2).trans hc2) (K D b o TC TS p e R s m args below meth c Z hX hP hXX _ _ _ _ _ _ _ ⟨g1, g2, ⟨_, _, rfl, hv1, _, _, rfl, hv2, _, _, rfl, hv1, _, _, rfl, hv2, hs2⟩, g4, g5, g6, g7⟩)
theorem AR.if_eq {x : Int32} {off : Int} {tgt : Nat} (hd : decode k.2.1 pc = .ok (.ifCond .eq off, 3)) (ht : (pc : Int) + off = (tgt : Int)) (kt : x = 0 → AR ns l k d r P X tgt lv st h bc bs) (kf : ¬ (x = 0) → AR ns l k d r P X (pc + 3) lv st h bc bs) : AR ns l k d r P X pc lv (.int x :: st) h bc bs := by
  intro D b o TC TS p e R s m args below meth c Z hX hP hXX lvc ls stc H locs cells slots hG
  have hx := hX.1
  have hb := hX.2.1
  obtain ⟨g1, g2, g3, g4, g5, g6, g7⟩ := hG
  obtain ⟨v1, t1, rfl, hv1, hs1⟩ := g3
  cases hv1
  exact lv_if_eq hx hb hd ht (fun hc => kt hc D b o TC TS p e R s m args below meth c Z hX hP hXX _ _ _ _ _ _ _ ⟨g1, g2, hs1, g4, g5, g6, g7⟩) (fun hc => kf hc D b o TC TS p e R s m args below meth c Z hX hP hXX _ _ _ _ _ _ _ ⟨g1, g2, hs1, g4, g5, g6, g7⟩)
theorem AR.icmp_eq {x y : Int32} {off : Int} {tgt : Nat} (hd : decode k.2.1 pc = .ok (.if_icmp .eq off, 3)) (ht : (pc : Int) + off = (tgt : Int)) (kt : x = y → AR ns l k d r P X tgt lv st h bc bs) (kf : ¬ (x = y) → AR ns l k d r P X (pc + 3) lv st h bc bs) : AR ns l k d r P X pc lv (.int y :: .int x :: st) h bc bs := by
  intro D b o TC TS p e R s m args below meth c Z hX hP hXX lvc ls stc H locs cells slots hG
  have hx := hX.1
  have hb := hX.2.1
  obtain ⟨g1, g2, g3, g4, g5, g6, g7⟩ := hG
  obtain ⟨v1, t1, rfl, hv1, hs1⟩ := g3
  obtain ⟨v2, t2, rfl, hv2, hs2⟩ := hs1
  cases hv1
  cases hv2
  exact lv_icmp_eq hx hb hd ht (fun hc => kt hc D b o TC TS p e R s m args below meth c Z hX hP hXX _ _ _ _ _ _ _ ⟨g1, g2, hs2, g4, g5, g6, g7⟩) (fun hc => kf hc D b o TC TS p e R s m args below meth c Z hX hP hXX _ _ _ _ _ _ _ ⟨g1, g2, hs2, g4, g5, g6, g7⟩)
theorem AR.if_ne {x : Int32} {off : Int} {tgt : Nat} (hd : decode k.2.1 pc = .ok (.ifCond .ne off, 3)) (ht : (pc : Int) + off = (tgt : Int)) (kt : ¬ x = 0 → AR ns l k d r P X tgt lv st h bc bs) (kf : x = 0 → AR ns l k d r P X (pc + 3) lv st h bc bs) : AR ns l k d r P X pc lv (.int x :: st) h bc bs := by
  intro D b o TC TS p e R s m args below meth c Z hX hP hXX lvc ls stc H locs cells slots hG
  have hx := hX.1
  have hb := hX.2.1
  obtain ⟨g1, g2, g3, g4, g5, g6, g7⟩ := hG
  obtain ⟨v1, t1, rfl, hv1, hs1⟩ := g3
  cases hv1
  exact lv_if_ne hx hb hd ht (fun hc => kt hc D b o TC TS p e R s m args below meth c Z hX hP hXX _ _ _ _ _ _ _ ⟨g1, g2, hs1, g4, g5, g6, g7⟩) (fun hc => kf hc D b o TC TS p e R s m args below meth c Z hX hP hXX _ _ _ _ _ _ _ ⟨g1, g2, hs1, g4, g5, g6, g7⟩)
theorem AR.icmp_ne {x y : Int32} {off : Int} {tgt : Nat} (hd : decode k.2.1 pc = .ok (.if_icmp .ne off, 3)) (ht : (pc : Int) + off = (tgt : Int)) (kt : ¬ x = y → AR ns l k d r P X tgt lv st h bc bs) (kf : x = y → AR ns l k d r P X (pc + 3) lv st h bc bs) : AR ns l k d r P X pc lv (.int y :: .int x :: st) h bc bs := by
  intro D b o TC TS p e R s m args below meth c Z hX hP hXX lvc ls stc H locs cells slots hG
  have hx := hX.1
  have hb := hX.2.1
  obtain ⟨g1, g2, g3, g4, g5, g6, g7⟩ := hG
  obtain ⟨v1, t1, rfl, hv1, hs1⟩ := g3
  obtain ⟨v2, t2, rfl, hv2, hs2⟩ := hs1
  cases hv1
  cases hv2
  exact lv_icmp_ne hx hb hd ht (fun hc => kt hc D b o TC TS p e R s m args below meth c Z hX hP hXX _ _ _ _ _ _ _ ⟨g1, g2, hs2, g4, g5, g6, g7⟩) (fun hc => kf hc D b o TC TS p e R s m args below meth c Z hX hP hXX _ _ _ _ _ _ _ ⟨g1, g2, hs2, g4, g5, g6, g7⟩)
theorem AR.if_lt {x : Int32} {off : Int} {tgt : Nat} (hd : decode k.2.1 pc = .ok (.ifCond .lt off, 3)) (ht : (pc : Int) + off = (tgt : Int)) (kt : x < 0 → AR ns l k d r P X tgt lv st h bc bs) (kf : ¬ (x < 0) → AR ns l k d r P X (pc + 3) lv st h bc bs) : AR ns l k d r P X pc lv (.int x :: st) h bc bs := by
  intro D b o TC TS p e R s m args below meth c Z hX hP hXX lvc ls stc H locs cells slots hG
  have hx := hX.1
  have hb := hX.2.1
  obtain ⟨g1, g2, g3, g4, g5, g6, g7⟩ := hG
  obtain ⟨v1, t1, rfl, hv1, hs1⟩ := g3
  cases hv1
  exact lv_if_lt hx hb hd ht (fun hc => kt hc D b o TC TS p e R s m args below meth c Z hX hP hXX _ _ _ _ _ _ _ ⟨g1, g2, hs1, g4, g5, g6, g7⟩) (fun hc => kf hc D b o TC TS p e R s m args below meth c Z hX hP hXX _ _ _ _ _ _ _ ⟨g1, g2, hs1, g4, g5, g6, g7⟩)
theorem AR.icmp_lt {x y : Int32} {off : Int} {tgt : Nat} (hd : decode k.2.1 pc = .ok (.if_icmp .lt off, 3)) (ht : (pc : Int) + off = (tgt : Int)) (kt : x < y → AR ns l k d r P X tgt lv st h bc bs) (kf : ¬ (x < y) → AR ns l k d r P X (pc + 3) lv st h bc bs) : AR ns l k d r P X pc lv (.int y :: .int x :: st) h bc bs := by
  intro D b o TC TS p e R s m args below meth c Z hX hP hXX lvc ls stc H locs cells slots hG
  have hx := hX.1
  have hb := hX.2.1
  obtain ⟨g1, g2, g3, g4, g5, g6, g7⟩ := hG
  obtain ⟨v1, t1, rfl, hv1, hs1⟩ := g3
  obtain ⟨v2, t2, rfl, hv2, hs2⟩ := hs1
  cases hv1
  cases hv2
  exact lv_icmp_lt hx hb hd ht (fun hc => kt hc D b o TC TS p e R s m args below meth c Z hX hP hXX _ _ _ _ _ _ _ ⟨g1, g2, hs2, g4, g5, g6, g7⟩) (fun hc => kf hc D b o TC TS p e R s m args below meth c Z hX hP hXX _ _ _ _ _ _ _ ⟨g1, g2, hs2, g4, g5, g6, g7⟩)
theorem AR.if_ge {x : Int32} {off : Int} {tgt : Nat} (hd : decode k.2.1 pc = .ok (.ifCond .ge off, 3)) (ht : (pc : Int) + off = (tgt : Int)) (kt : 0 ≤ x → AR ns l k d r P X tgt lv st h bc bs) (kf : ¬ (0 ≤ x) → AR ns l k d r P X (pc + 3) lv st h bc bs) : AR ns l k d r P X pc lv (.int x :: st) h bc bs := by
  intro D b o TC TS p e R s m args below meth c Z hX hP hXX lvc ls stc H locs cells slots hG
  have hx := hX.1
  have hb := hX.2.1
  obtain ⟨g1, g2, g3, g4, g5, g6, g7⟩ := hG
  obtain ⟨v1, t1, rfl, hv1, hs1⟩ := g3
  cases hv1
  exact lv_if_ge hx hb hd ht (fun hc => kt hc D b o TC TS p e R s m args below meth c Z hX hP hXX _ _ _ _ _ _ _ ⟨g1, g2, hs1, g4, g5, g6, g7⟩) (fun hc => kf hc D b o TC TS p e R s m args below meth c Z hX hP hXX _ _ _ _ _ _ _ ⟨g1, g2, hs1, g4, g5, g6, g7⟩)
theorem AR.icmp_ge {x y : Int32} {off : Int} {tgt : Nat} (hd : decode k.2.1 pc = .ok (.if_icmp .ge off, 3)) (ht : (pc : Int) + off = (tgt : Int)) (kt : y ≤ x → AR ns l k d r P X tgt lv st h bc bs) (kf : ¬ (y ≤ x) → AR ns l k d r P X (pc + 3) lv st h bc bs) : AR ns l k d r P X pc lv (.int y :: .int x :: st) h bc bs := by
  intro D b o TC TS p e R s m args below meth c Z hX hP hXX lvc ls stc H locs cells slots hG
  have hx := hX.1
  have hb := hX.2.1
  obtain ⟨g1, g2, g3, g4, g5, g6, g7⟩ := hG
  obtain ⟨v1, t1, rfl, hv1, hs1⟩ := g3
  obtain ⟨v2, t2, rfl, hv2, hs2⟩ := hs1
  cases hv1
  cases hv2
  exact lv_icmp_ge hx hb hd ht (fun hc => kt hc D b o TC TS p e R s m args below meth c Z hX hP hXX _ _ _ _ _ _ _ ⟨g1, g2, hs2, g4, g5, g6, g7⟩) (fun hc => kf hc D b o TC TS p e R s m args below meth c Z hX hP hXX _ _ _ _ _ _ _ ⟨g1, g2, hs2, g4, g5, g6, g7⟩)
theorem AR.if_gt {x : Int32} {off : Int} {tgt : Nat} (hd : decode k.2.1 pc = .ok (.ifCond .gt off, 3)) (ht : (pc : Int) + off = (tgt : Int)) (kt : 0 < x → AR ns l k d r P X tgt lv st h bc bs) (kf : ¬ (0 < x) → AR ns l k d r P X (pc + 3) lv st h bc bs) : AR ns l k d r P X pc lv (.int x :: st) h bc bs := by
  intro D b o TC TS p e R s m args below meth c Z hX hP hXX lvc ls stc H locs cells slots hG
  have hx := hX.1
  have hb := hX.2.1
  obtain ⟨g1, g2, g3, g4, g5, g6, g7⟩ := hG
  obtain ⟨v1, t1, rfl, hv1, hs1⟩ := g3
  cases hv1
  exact lv_if_gt hx hb hd ht (fun hc => kt hc D b o TC TS p e R s m args below meth c Z hX hP hXX _ _ _ _ _ _ _ ⟨g1, g2, hs1, g4, g5, g6, g7⟩) (fun hc => kf hc D b o TC TS p e R s m args below meth c Z hX hP hXX _ _ _ _ _ _ _ ⟨g1, g2, hs1, g4, g5, g6, g7⟩)
theorem AR.icmp_gt {x y : Int32} {off : Int} {tgt : Nat} (hd : decode k.2.1 pc = .ok (.if_icmp .gt off, 3)) (ht : (pc : Int) + off = (tgt : Int)) (kt : y < x → AR ns l k d r P X tgt lv st h bc bs) (kf : ¬ (y < x) → AR ns l k d r P X (pc + 3) lv st h bc bs) : AR ns l k d r P X pc lv (.int y :: .int x :: st) h bc bs := by
  intro D b o TC TS p e R s m args below meth c Z hX hP hXX lvc ls stc H locs cells slots hG
  have hx := hX.1
  have hb := hX.2.1
  obtain ⟨g1, g2, g3, g4, g5, g6, g7⟩ := hG
  obtain ⟨v1, t1, rfl, hv1, hs1⟩ := g3
  obtain ⟨v2, t2, rfl, hv2, hs2⟩ := hs1
  cases hv1
  cases hv2
  exact lv_icmp_gt hx hb hd ht (fun hc => kt hc D b o TC TS p e R s m args below meth c Z hX hP hXX _ _ _ _ _ _ _ ⟨g1, g2, hs2, g4, g5, g6, g7⟩) (fun hc => kf hc D b o TC TS p e R s m args below meth c Z hX hP hXX _ _ _ _ _ _ _ ⟨g1, g2, hs2, g4, g5, g6, g7⟩)
theorem AR.if_le {x : Int32} {off : Int} {tgt : Nat} (hd : decode k.2.1 pc = .ok (.ifCond .le off, 3)) (ht : (pc : Int) + off = (tgt : Int)) (kt : x ≤ 0 → AR ns l k d r P X tgt lv st h bc bs) (kf : ¬ (x ≤ 0) → AR ns l k d r P X (pc + 3) lv st h bc bs) : AR ns l k d r P X pc lv (.int x :: st) h bc bs := by
  intro D b o TC TS p e R s m args below meth c Z hX hP hXX lvc ls stc H locs cells slots hG
  have hx := hX.1
  have hb := hX.2.1
  obtain ⟨g1, g2, g3, g4, g5, g6, g7⟩ := hG
  obtain ⟨v1, t1, rfl, hv1, hs1⟩ := g3
  cases hv1
  exact lv_if_le hx hb hd ht (fun hc => kt hc D b o TC TS p e R s m args below meth c Z hX hP hXX _ _ _ _ _ _ _ ⟨g1, g2, hs1, g4, g5, g6, g7⟩) (fun hc => kf hc D b o TC TS p e R s m args below meth c Z hX hP hXX _ _ _ _ _ _ _ ⟨g1, g2, hs1, g4, g5, g6, g7⟩)
theorem AR.icmp_le {x y : Int32} {off : Int} {tgt : Nat} (hd : decode k.2.1 pc = .ok (.if_icmp .le off, 3)) (ht : (pc : Int) + off = (tgt : Int)) (kt : x ≤ y → AR ns l k d r P X tgt lv st h bc bs) (kf : ¬ (x ≤ y) → AR ns l k d r P X (pc + 3) lv st h bc bs) : AR ns l k d r P X pc lv (.int y :: .int x :: st) h bc bs := by
  intro D b o TC TS p e R s m args below meth c Z hX hP hXX lvc ls stc H locs cells slots hG
  have hx := hX.1
  have hb := hX.2.1
  obtain ⟨g1, g2, g3, g4, g5, g6, g7⟩ := hG
  obtain ⟨v1, t1, rfl, hv1, hs1⟩ := g3
  obtain ⟨v2, t2, rfl, hv2, hs2⟩ := hs1
  cases hv1
  cases hv2
  exact lv_icmp_le hx hb hd ht (fun hc => kt hc D b o TC TS p e R s m args below meth c Z hX hP hXX _ _ _ _ _ _ _ ⟨g1, g2, hs2, g4, g5, g6, g7⟩) (fun hc => kf hc D b o TC TS p e R s m args below meth c Z hX hP hXX _ _ _ _ _ _ _ ⟨g1, g2, hs2, g4, g5, g6, g7⟩)
theorem AR.goto {off : Int} {tgt : Nat} (hd : decode k.2.1 pc = .ok (.goto off, 3)) (ht : (pc : Int) + off = (tgt : Int)) (K : AR ns l k d r P X tgt lv st h bc bs) : AR ns l k d r P X pc lv st h bc bs := by
  intro D b o TC TS p e R s m args below meth c Z hX hP hXX lvc ls stc H locs cells slots hG
  have hx := hX.1
  have hb := hX.2.1
  obtain ⟨g1, g2, g3, g4, g5, g6, g7⟩ := hG
  exact lv_goto hx hb hd ht (K D b o TC TS p e R s m args below meth c Z hX hP hXX _ _ _ _ _ _ _ ⟨g1, g2, g3, g4, g5, g6, g7⟩)
theorem AR.tableIn {dflt lo hi : Int} {offs : Array Int} {len : Nat} {x : Int32} {off : Int} {tgt : Nat} (hd : decode k.2.1 pc = .ok (.tableswitch dflt lo hi offs, len)) (h1 : ¬ x.toInt < lo) (h2 : ¬ hi < x.toInt) (ho : offs[(x.toInt - lo).toNat]? = some off) (ht : (pc : Int) + off = (tgt : Int)) (K : AR ns l k d r P X tgt lv st h bc bs) : AR ns l k d r P X pc lv (.int x :: st) h bc bs := by
  intro D b o TC TS p e R s m args below meth c Z hX hP hXX lvc ls stc H locs cells slots hG
  have hx := hX.1
  have hb := hX.2.1
  obtain ⟨g1, g2, g3, g4, g5, g6, g7⟩ := hG
  obtain ⟨v1, t1, rfl, hv1, hs1⟩ := g3
  cases hv1
  exact lv_tableIn hx hb hd h1 h2 ho ht (K D b o TC TS p e R s m args below meth c Z hX hP hXX _ _ _ _ _ _ _ ⟨g1, g2, hs1, g4, g5, g6, g7⟩)
theorem AR.tableOut {dflt lo hi : Int} {offs : Array Int} {len : Nat} {x : Int32} {tgt : Nat} (hd : decode k.2.1 pc = .ok (.tableswitch dflt lo hi offs, len)) (hr : x.toInt < lo ∨ hi < x.toInt) (ht : (pc : Int) + dflt = (tgt : Int)) (K : AR ns l k d r P X tgt lv st h bc bs) : AR ns l k d r P X pc lv (.int x :: st) h bc bs := by
  intro D b o TC TS p e R s m args below meth c Z hX hP hXX lvc ls stc H locs cells slots hG
  have hx := hX.1
  have hb := hX.2.1
  obtain ⟨g1, g2, g3, g4, g5, g6, g7⟩ := hG
  obtain ⟨v1, t1, rfl, hv1, hs1⟩ := g3
  cases hv1
  exact lv_tableOut hx hb hd hr ht (K D b o TC TS p e R s m args below meth c Z hX hP hXX _ _ _ _ _ _ _ ⟨g1, g2, hs1, g4, g5, g6, g7⟩)
theorem AR.ldc2 {i : Nat} {v : Int64} (hd : decode k.2.1 pc = .ok (.ldc2_w i, 3)) (hw : Cond.constantLong k.1.cls i v ∈ ax_tb) (K : AR ns l k d r P X (pc + 3) lv (.long v :: st) h bc bs) : AR ns l k d r P X pc lv st h bc bs := by
  intro D b o TC TS p e R s m args below meth c Z hX hP hXX lvc ls stc H locs cells slots hG
  have hx := hX.1
  have hb := hX.2.1
  obtain ⟨g1, g2, g3, g4, g5, g6, g7⟩ := hG
  exact lv_ldc2 hx hb hX.2.2.2.1 (hX.2.2.2.2.1 _ hw) hd (K D b o TC TS p e R s m args below meth c Z hX hP hXX _ _ _ _ _ _ _ ⟨g1, g2, ⟨_, _, rfl, rfl, g3⟩, g4, g5, g6, g7⟩)
theorem AR.ldci {i : Nat} {v : Int32} (hd : decode k.2.1 pc = .ok (.ldc i, 2)) (hw : Cond.constant k.1.cls i v ∈ ax_tb) (K : AR ns l k d r P X (pc + 2) lv (.int v :: st) h bc bs) : AR ns l k d r P X pc lv st h bc bs := by
  intro D b o TC TS p e R s m args below meth c Z hX hP hXX lvc ls stc H locs cells slots hG
  have hx := hX.1
  have hb := hX.2.1
  obtain ⟨g1, g2, g3, g4, g5, g6, g7⟩ := hG
  exact lv_ldc hx hb hX.2.2.2.1 (hX.2.2.2.2.1 _ hw) hd (K D b o TC TS p e R s m args below meth c Z hX hP hXX _ _ _ _ _ _ _ ⟨g1, g2, ⟨_, _, rfl, rfl, g3⟩, g4, g5, g6, g7⟩)
end AXI
