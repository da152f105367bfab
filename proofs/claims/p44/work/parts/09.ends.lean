/-! throws, with the cells that they make counted (after vx_throwS, vx_throwSW) -/
section AXT
variable {p : Program} {l : Launch} {e : Env} {R : Room} {s : State} {m : MethodId} {args : Array Value} {below : List Frame} {meth : Method} {c : Code} {H : Heap} {locs : List Loc} {cells slots : Nat} {Q : State → Prop}
variable {mc ms : Nat} {free : Addr → Prop} {A0 A1 : Nat → Prop} {H0 : Heap} {a : Array Value} {ls : Array Slot} {st0 rest : List Value}
variable {Qc : Array Value → State → Outcome → State → Prop} {XC : String → State → State → Prop}
theorem ax_throwS {cc : ByteArray} {pc : Nat} (hexec : p.tables.exec = Jvm.exec) (hb : c.code = cc) (hl : l.stackTraces = false) {own cls text : String} {names : List String} {ik is ic mc ms sa : Nat} {A : Nat → Prop}
    (hown : s.vm.findClass own = some m.cls) (hcls : Bundle.fit cls = true) (hnames : ∀ n ∈ names, Bundle.fit n = true)
    (hk : (Cond.classLink own ik cls).before args s = true) (hini : (Cond.initialized cls).before args s = true) (hstr : vk_R own is text sa s) (hat : ∀ w ∈ vx_atS own ic cls names, w.before args s = true)
    (hgood : ∀ w ∈ Cond.classLink own ik cls :: Cond.initialized cls :: vx_atS own ic cls names, vx_ot w = true)
    (hU : vx_Zq Bundle.tN "UNASSIGNED_STACK" Bundle.steD A s s.heap) (hN : vx_Zq Bundle.tN "SUPPRESSED_SENTINEL" Bundle.listD A s s.heap) (hS : va_S A s.heap H locs) (hsize : ls.size = c.maxLocals)
    (d0 : decode cc pc = .ok (.new ik, 3)) (d3 : decode cc (pc + 3) = .ok (.dup, 1)) (d4 : decode cc (pc + 4) = .ok (.ldc is, 2)) (d6 : decode cc (pc + 6) = .ok (.invokespecial ic, 3)) (d9 : decode cc (pc + 9) = .ok (.athrow, 1))
    (hout : ∀ x ∈ c.exceptionTable.toList, covers x (pc + 9) = false)
    (hRframes : names.length + 3 < R.frames) (hRlocals : (rest.map fun v => v.category).sum + (13 * (names.length + 1) + 43) ≤ R.locals) (hRcells : cells + 1 ≤ R.cells) (hRslots : slots + 6 ≤ R.slots) (hlocks : meth.locks = false)
    (hx : ∀ t : State, s.vm.Alike t.vm → t.heap.size = H.size + 1 → (∀ q : Nat, q < H.size → t.heap[q]? = H[q]?) → XC cls s t)
    (hf : ∀ z ∈ locs, free z.base) (hc : cells + 1 ≤ mc) (hs : slots + 6 ≤ ms) :
    W p l e R s m args below meth c H locs cells slots (vx_MQ below Qc XC args s mc ms free) (F0 m pc ls rest) := by
  intro T hT X
  have htr : e.platform.stackTraces = false := (show e.platform.stackTraces = l.stackTraces by rw [X.admits.platform]).trans hl
  have Y := vx_rebase X (R' := { frames := R.frames, locals := R.locals, cells := 1, slots := 6 }) (Nat.le_refl _) (Nat.le_refl _) hRcells hRslots
  obtain ⟨s', hA⟩ : ∃ z, z = (T.setVm s.vm).setFrames (.invoking m args :: below) := ⟨_, rfl⟩
  rw [← hA] at Y
  have hvm : s'.vm = s.vm := by rw [hA]; rfl
  have hhp : s'.heap = H := by rw [hA]; exact hT
  have hW0 : s.WarmedH s'.vm := by rw [hvm]; exact State.WarmedH.refl s
  have hat' : ∀ w ∈ vx_atS own ic cls names, w.before args s' = true := fun w hw => vx_ot_at hW0 hvm.symm (hgood w (List.mem_cons_of_mem _ (List.mem_cons_of_mem _ hw))) (hat w hw)
  have hk' : (Cond.classLink own ik cls).before args s' = true := vx_ot_at hW0 hvm.symm (hgood _ List.mem_cons_self) hk
  have hini' : (Cond.initialized cls).before args s' = true := vx_ot_at hW0 hvm.symm (hgood _ (List.mem_cons_of_mem _ List.mem_cons_self)) hini
  have hU' : vx_Zq Bundle.tN "UNASSIGNED_STACK" Bundle.steD A s' s'.heap := by rw [hhp]; exact vx_Zq.moved hW0.alike (hU.kept hS.2.1)
  have hN' : vx_Zq Bundle.tN "SUPPRESSED_SENTINEL" Bundle.listD A s' s'.heap := by rw [hhp]; exact vx_Zq.moved hW0.alike (hN.kept hS.2.1)
  have h : ∀ w ∈ Bundle.ownAtoms own ic cls names, w.before args s' = true := vx_own hat' (vx_isRefq hU'.1) (vx_isRefq hN'.1) hU'.2.word hN'.2.word
  have hown' : s'.vm.findClass own = some m.cls := by rw [hvm]; exact hown
  have hins : (Cond.instantiable cls 6).before args s' = true := h _ (by simp [Bundle.ownAtoms])
  obtain ⟨vm₁, cX, kX, hfX, hkX, -, -, X₁, st1⟩ := Y.newCold hexec (own := own) (C := cls) (index := ik) (n := 6) hown' hk' hins hini'
    (g := F0 m pc ls rest) rfl (by rw [hb]; exact d0) (Nat.le_refl _) (Nat.le_refl _)
  generalize hT1 : (T.setVm vm₁).pushCell { cls := cX, slots := kX.instanceTypes.map defaultValue, vm := .none } = T1 at X₁ st1
  have hcat : (Value.ref T.heap.size).category = 1 := rfl
  have hcellA : T1.heap[T.heap.size]? = some (freshCell cX kX) := by rw [← hT1]; exact State.heap_pushCell_size _ _
  have d3' : decode c.code (pc + 3) = .ok (.dup, 1) := by rw [hb]; exact d3
  have d4' : decode c.code (pc + 4) = .ok (.ldc is, 2) := by rw [hb]; exact d4
  have hstr' : vk_R own is text sa s' := vk_R.warm hW0 hstr
  obtain ⟨U, hsteps, hrun, hend, hW, hsame, ce, hce, hO⟩ := X₁.ctorThrowS hexec htr (own := own) (cls := cls) (names := names) (ic := ic) hown' hcls hnames h (fun x hx => nomatch hx) hfX hkX hcellA (by rw [hhp, hT]; exact Nat.le_refl _) (msg := .ref sa) rfl
    (g := { method := m, pc := pc + 6, locals := ls, stack := .ref sa :: .ref T.heap.size :: .ref T.heap.size :: rest, locked := none }) rfl hsize rfl rfl (rest := rest) rfl
    (by rw [hb]; exact d6) (by rw [hb]; exact d9) hout hRframes (by simp only [List.map_cons, List.sum_cons, hcat]; omega) hlocks
  obtain ⟨f1, f2⟩ := vx_frame hsame
  rw [hhp] at f1 f2
  have f3 : U.heap.size = H.size + 1 := by
    have z1 : U.heap.size ≤ s'.heap.size + _ := hsame.2.2.1
    have z2 : T.heap.size < U.heap.size := (Array.getElem?_eq_some_iff.mp hce).1
    rw [hhp] at z1
    rw [hT] at z2
    omega
  have hWs : s.WarmedH U.vm := State.WarmedH.trans hW0 hW
  have hcl : s.vm.findClass cls = some ce.cls := by
    have h9 := hO.cls
    rw [hvm] at h9
    exact h9
  have hall : s.sameButNew ({ U with vm := s.vm } : State) locs mc ms := by
    subst hA
    obtain ⟨e1, e2⟩ := hsame
    rw [State.setFrames_setFrames] at e1
    have h2 : (T.setVm s.vm).sameButNew ({ U with vm := s.vm } : State) [] (0 + 1) (0 + 6) := ⟨e1, e2⟩
    have h3 := X.same.trans h2
    rw [List.append_nil] at h3
    exact h3.mono hc hs
  refine ⟨U, ?_, .threw T.heap.size, hrun, hend, Or.inr ⟨T.heap.size, rfl, cls, ce, locs, hx U hWs.alike f3 (fun q hq => f2 q hq (fun z hz => nomatch hz)), hce, hO.vm, hcl, hWs, hall, hf⟩⟩
  refine st1 _ ?_
  show Steps p.tables e below (T1.setTop { method := m, pc := pc + 3, locals := ls, stack := .ref T.heap.size :: rest, locked := none }) _
  jvm_step X₁.here [X₁.here.top, hexec, d3', Value.category]
  exact X₁.ldcString hexec (own := own) (text := text) (index := is) (a := sa) hown' hstr'.1 hstr'.2
    (g := { method := m, pc := pc + 4, locals := ls, stack := .ref T.heap.size :: .ref T.heap.size :: rest, locked := none }) rfl d4' _ hsteps
theorem ax_throwSW {cc : ByteArray} {pc : Nat} (hexec : p.tables.exec = Jvm.exec) (hb : c.code = cc) (hl : l.stackTraces = false) {own cls text : String} {names : List String} {q : Option (Nat × ByteArray)} {ik is ic mc ms sa : Nat} {A : Nat → Prop}
    (hq : ax_xok q) (hown : s.vm.findClass own = some m.cls) (hcls : Bundle.fit cls = true) (hnames : ∀ n ∈ names, Bundle.fit n = true)
    (hk : (Cond.classLink own ik cls).before args s = true) (hini : (Cond.initialized cls).before args s = true) (hstr : vk_R own is text sa s) (hat : ∀ w ∈ ax_owS own ic cls names q, w.before args s = true)
    (hgood : ∀ w ∈ Cond.classLink own ik cls :: Cond.initialized cls :: ax_owS own ic cls names q, vx_ot w = true)
    (hU : vx_Zq Bundle.tN "UNASSIGNED_STACK" Bundle.steD A s s.heap) (hN : vx_Zq Bundle.tN "SUPPRESSED_SENTINEL" Bundle.listD A s s.heap) (hS : va_S A s.heap H locs) (hsize : ls.size = c.maxLocals)
    (d0 : decode cc pc = .ok (.new ik, 3)) (d3 : decode cc (pc + 3) = .ok (.dup, 1)) (d4 : decode cc (pc + 4) = .ok (.ldc_w is, 3)) (d7 : decode cc (pc + 7) = .ok (.invokespecial ic, 3)) (d10 : decode cc (pc + 10) = .ok (.athrow, 1))
    (hout : ∀ x ∈ c.exceptionTable.toList, covers x (pc + 10) = false)
    (hRframes : names.length + 3 < R.frames) (hRlocals : (rest.map fun v => v.category).sum + (13 * (names.length + 1) + 43) ≤ R.locals) (hRcells : cells + 1 ≤ R.cells) (hRslots : slots + 6 ≤ R.slots) (hlocks : meth.locks = false)
    (hx : ∀ t : State, s.vm.Alike t.vm → t.heap.size = H.size + 1 → (∀ q : Nat, q < H.size → t.heap[q]? = H[q]?) → XC cls s t)
    (hf : ∀ z ∈ locs, free z.base) (hc : cells + 1 ≤ mc) (hs : slots + 6 ≤ ms) :
    W p l e R s m args below meth c H locs cells slots (vx_MQ below Qc XC args s mc ms free) (F0 m pc ls rest) := by
  intro T hT X
  have htr : e.platform.stackTraces = false := (show e.platform.stackTraces = l.stackTraces by rw [X.admits.platform]).trans hl
  have Y := vx_rebase X (R' := { frames := R.frames, locals := R.locals, cells := 1, slots := 6 }) (Nat.le_refl _) (Nat.le_refl _) hRcells hRslots
  obtain ⟨s', hA⟩ : ∃ z, z = (T.setVm s.vm).setFrames (.invoking m args :: below) := ⟨_, rfl⟩
  rw [← hA] at Y
  have hvm : s'.vm = s.vm := by rw [hA]; rfl
  have hhp : s'.heap = H := by rw [hA]; exact hT
  have hW0 : s.WarmedH s'.vm := by rw [hvm]; exact State.WarmedH.refl s
  have hat' : ∀ w ∈ ax_owS own ic cls names q, w.before args s' = true := fun w hw => vx_ot_at hW0 hvm.symm (hgood w (List.mem_cons_of_mem _ (List.mem_cons_of_mem _ hw))) (hat w hw)
  have hk' : (Cond.classLink own ik cls).before args s' = true := vx_ot_at hW0 hvm.symm (hgood _ List.mem_cons_self) hk
  have hini' : (Cond.initialized cls).before args s' = true := vx_ot_at hW0 hvm.symm (hgood _ (List.mem_cons_of_mem _ List.mem_cons_self)) hini
  have hU' : vx_Zq Bundle.tN "UNASSIGNED_STACK" Bundle.steD A s' s'.heap := by rw [hhp]; exact vx_Zq.moved hW0.alike (hU.kept hS.2.1)
  have hN' : vx_Zq Bundle.tN "SUPPRESSED_SENTINEL" Bundle.listD A s' s'.heap := by rw [hhp]; exact vx_Zq.moved hW0.alike (hN.kept hS.2.1)
  have h : ∀ w ∈ ax_ow own ic cls names q, w.before args s' = true := vx_own hat' (vx_isRefq hU'.1) (vx_isRefq hN'.1) hU'.2.word hN'.2.word
  have hown' : s'.vm.findClass own = some m.cls := by rw [hvm]; exact hown
  have hins : (Cond.instantiable cls 6).before args s' = true := h _ ax_ow_ins
  obtain ⟨vm₁, cX, kX, hfX, hkX, -, -, X₁, st1⟩ := Y.newCold hexec (own := own) (C := cls) (index := ik) (n := 6) hown' hk' hins hini'
    (g := F0 m pc ls rest) rfl (by rw [hb]; exact d0) (Nat.le_refl _) (Nat.le_refl _)
  generalize hT1 : (T.setVm vm₁).pushCell { cls := cX, slots := kX.instanceTypes.map defaultValue, vm := .none } = T1 at X₁ st1
  have hcat : (Value.ref T.heap.size).category = 1 := rfl
  have hcellA : T1.heap[T.heap.size]? = some (freshCell cX kX) := by rw [← hT1]; exact State.heap_pushCell_size _ _
  have d3' : decode c.code (pc + 3) = .ok (.dup, 1) := by rw [hb]; exact d3
  have d4' : decode c.code (pc + 4) = .ok (.ldc_w is, 3) := by rw [hb]; exact d4
  have hstr' : vk_R own is text sa s' := vk_R.warm hW0 hstr
  obtain ⟨U, hsteps, hrun, hend, hW, hsame, ce, hce, hO1, hO2⟩ := ax_ctor X₁ hexec htr hq (own := own) (cls := cls) (names := names) (ic := ic) hown' hcls hnames h (fun x hx => nomatch hx) hfX hkX hcellA (by rw [hhp, hT]; exact Nat.le_refl _) (msg := .ref sa) rfl
    (g := { method := m, pc := pc + 7, locals := ls, stack := .ref sa :: .ref T.heap.size :: .ref T.heap.size :: rest, locked := none }) rfl hsize rfl rfl (rest := rest) rfl
    (by rw [hb]; exact d7) (by rw [hb]; exact d10) hout hRframes (by simp only [List.map_cons, List.sum_cons, hcat]; omega) hlocks
  obtain ⟨f1, f2⟩ := vx_frame hsame
  rw [hhp] at f1 f2
  have f3 : U.heap.size = H.size + 1 := by
    have z1 : U.heap.size ≤ s'.heap.size + _ := hsame.2.2.1
    have z2 : T.heap.size < U.heap.size := (Array.getElem?_eq_some_iff.mp hce).1
    rw [hhp] at z1
    rw [hT] at z2
    omega
  have hWs : s.WarmedH U.vm := State.WarmedH.trans hW0 hW
  have hcl : s.vm.findClass cls = some ce.cls := by
    have h9 := hO2
    rw [hvm] at h9
    exact h9
  have hall : s.sameButNew ({ U with vm := s.vm } : State) locs mc ms := by
    subst hA
    obtain ⟨e1, e2⟩ := hsame
    rw [State.setFrames_setFrames] at e1
    have h2 : (T.setVm s.vm).sameButNew ({ U with vm := s.vm } : State) [] (0 + 1) (0 + 6) := ⟨e1, e2⟩
    have h3 := X.same.trans h2
    rw [List.append_nil] at h3
    exact h3.mono hc hs
  refine ⟨U, ?_, .threw T.heap.size, hrun, hend, Or.inr ⟨T.heap.size, rfl, cls, ce, locs, hx U hWs.alike f3 (fun q hq => f2 q hq (fun z hz => nomatch hz)), hce, hO1, hcl, hWs, hall, hf⟩⟩
  refine st1 _ ?_
  show Steps p.tables e below (T1.setTop { method := m, pc := pc + 3, locals := ls, stack := .ref T.heap.size :: rest, locked := none }) _
  jvm_step X₁.here [X₁.here.top, hexec, d3', Value.category]
  exact X₁.ldcStringW hexec (own := own) (text := text) (index := is) (a := sa) hown' hstr'.1 hstr'.2
    (g := { method := m, pc := pc + 4, locals := ls, stack := .ref T.heap.size :: .ref T.heap.size :: rest, locked := none }) rfl d4' _ hsteps
end AXT
/-! ENDS of methods, and a contract out of a walk -/
/-- the walk's end: an answer, or a throw -/
def ax_ret (ns : ax_NS) (k : ax_M) (Q : ax_Q) : ax_P := fun pc _ st h bc bs =>
  (∃ x, st = [x] ∧ ax_isI x = true ∧ decode k.2.1 pc = .ok (.ireturn, 1) ∧ k.2.2.2.1 = some .int ∧ Q (.inl (some x)) h) ∨
  (∃ x ty, st = [x] ∧ ax_fit ty x = true ∧ ax_isI x = true ∧ decode k.2.1 pc = .ok (.ireturn, 1) ∧ k.2.2.2.1 = some ty ∧ Q (.inl (some x)) h) ∨
  (∃ x, st = [x] ∧ ax_isL x = true ∧ decode k.2.1 pc = .ok (.lreturn, 1) ∧ k.2.2.2.1 = some .long ∧ Q (.inl (some x)) h) ∨
  (∃ x rt, st = [x] ∧ ax_isA x = true ∧ decode k.2.1 pc = .ok (.areturn, 1) ∧ k.2.2.2.1 = some rt ∧ ((∃ n, rt = .object n) ∨ ∃ t, rt = .array t) ∧ Q (.inl (some x)) h) ∨
  (st = [] ∧ decode k.2.1 pc = .ok (.return_, 1) ∧ k.2.2.2.1 = none ∧ Q (.inl none) h) ∨
  (∃ E, ax_thr ns k pc E ∧ k.2.2.2.2 = [] ∧ 1 ≤ bc ∧ 6 ≤ bs ∧ (st.map fun v => v.category).sum ≤ 100 ∧ Q (.inr E) (h ++ [(99, [])]))
theorem ax_R.grow {D : va_G} {b : Nat} {o : Nat → Nat} {h : ax_H} {H H1 : Heap} (hR : ax_R D b o h H) (hz : H1.size = H.size + 1) (ho : ∀ x, x < H.size → H1[x]? = H[x]?) : ax_R D b o (h ++ [(99, [])]) H1 :=
  hR.push (cell := H1[H.size]'(by omega)) (Array.getElem?_eq_getElem (by omega)) hz ho (Or.inl rfl)
section AXE
variable {ns : ax_NS} {l : Launch} {k : ax_M} {d : Nat} {r : ax_H} {X : ax_PX} {pc : Nat} {lv : List (Nat × Value)} {st as : List Value} {h : ax_H} {bc bs mc ms : Nat} {Q : ax_Q}
variable {D : va_G} {b : Nat} {o : Nat → Nat} {TC TS : Nat} {p : Program} {e : Env} {R : Room} {s : State} {m : MethodId} {args : Array Value} {below : List Frame} {meth : Method} {c : Code} {Z : State → Prop}
theorem ax_end (hX : ax_X ns l k d r D b o mc ms p R s m args meth c) (hr : meth.sig.returnType = k.2.2.2.1) (hp : ax_ret ns k Q pc lv st h bc bs) : AC l k.2.2.1 D b o mc ms p e R s m args below meth c (vx_MQ below (ax_Qc D b o Q) (ax_XC D b o Q) args s mc ms (ax_RG b o)) pc lv st h bc bs := by
  intro lvc ls stc H locs cells slots hG
  obtain ⟨g1, g2, g3, g4, g5, g6, g7⟩ := hG
  obtain ⟨hx, hb, hml, hown, hts, hT, hfr, hlo, -, -, hlk, -, htr, hex, -⟩ := id hX
  have hF : ∀ t : State, t.heap = H → va_F (ax_RG b o) s t := fun t ht => g5.F ht
  rcases hp with ⟨x, rfl, hI, hd, hk, hQ⟩ | ⟨x, ty, rfl, hft, hI, hd, hk, hQ⟩ | ⟨x, rfl, hI, hd, hk, hQ⟩ | ⟨x, rt, rfl, hI, hd, hk, hrt, hQ⟩ | ⟨rfl, hd, hk, hQ⟩ | ⟨E, hthr, hnil, h1, h2, hcat, hQ⟩
  · obtain ⟨v, t1, rfl, hv, ht1⟩ := g3
    cases ht1
    obtain ⟨i, rfl⟩ := ax_v_I hv hI
    refine W.widen (k := mc) (n := ms) (by omega) (by omega) (vx_ret (W.iret hx hb (by rw [hr]; exact hk) (fun t ht hW => ?_) g5.2.2 hd hlk))
    exact ⟨some x, _, h, rfl, ⟨_, rfl, hv⟩, hQ, by rw [ht]; exact g4, hF t ht⟩
  · obtain ⟨v, t1, rfl, hv, ht1⟩ := g3
    cases ht1
    obtain ⟨i, rfl⟩ := ax_v_I hv hI
    refine W.widen (k := mc) (n := ms) (by omega) (by omega) (vx_ret (W.zret hx hb (by rw [hr]; exact hk) (ax_fit_spec hft hv).1 (fun t ht hW => ?_) g5.2.2 hd hlk))
    exact ⟨some x, _, h, rfl, ⟨_, rfl, hv⟩, hQ, by rw [ht]; exact g4, hF t ht⟩
  · obtain ⟨v, t1, rfl, hv, ht1⟩ := g3
    cases ht1
    obtain ⟨i, rfl⟩ := ax_v_L hv hI
    refine W.widen (k := mc) (n := ms) (by omega) (by omega) (vx_ret (W.lret hx hb (by rw [hr]; exact hk) (fun t ht hW => ?_) g5.2.2 hd hlk))
    exact ⟨some x, _, h, rfl, ⟨_, rfl, hv⟩, hQ, by rw [ht]; exact g4, hF t ht⟩
  · obtain ⟨v, t1, rfl, hv, ht1⟩ := g3
    cases ht1
    obtain ⟨i, rfl⟩ := ax_v_A hv hI
    refine W.widen (k := mc) (n := ms) (by omega) (by omega) (vx_ret (W.aret hx hb (by rw [hr]; exact hk) hrt (Or.inr ⟨_, rfl⟩) (fun t ht hW => ?_) g5.2.2 hd hlk))
    exact ⟨some x, _, h, rfl, ⟨_, rfl, hv⟩, hQ, by rw [ht]; exact g4, hF t ht⟩
  · cases g3
    refine W.widen (k := mc) (n := ms) (by omega) (by omega) (vx_ret (W.vret hx hb (by rw [hr]; exact hk) (fun t ht hW => ?_) g5.2.2 hd hlk))
    exact ⟨none, _, h, rfl, rfl, hQ, by rw [ht]; exact g4, hF t ht⟩
  · obtain ⟨ik, is, ic, text, names, wide, q, d0, d3, dw, hfit, hnames, hnl, hw1, hw2, hstr, hat, hgood, hxq⟩ := hthr
    obtain ⟨-, -, hT3, hT4, hU, hN, -⟩ := hT
    obtain ⟨sa, hsa⟩ := hT4 _ hstr
    have hat' : ∀ w ∈ ax_owS k.1.cls ic E names q, w.before args s = true := fun w hw => by
      rcases hat w hw with h9 | h9
      · exact hts w h9
      · obtain ⟨n1, n2⟩ := hT3 w h9
        exact ax_nw_use n1 n2
    have hout : ∀ pc, ∀ x ∈ c.exceptionTable.toList, covers x pc = false := fun pc x hx' => by
      rw [hex, hnil] at hx'
      simp [tableOf] at hx'
    have hxc : ∀ t : State, s.vm.Alike t.vm → t.heap.size = H.size + 1 → (∀ q : Nat, q < H.size → t.heap[q]? = H[q]?) → ax_XC D b o Q E s t := fun t _ hz hk => by
      refine ⟨_, hQ, g4.grow hz hk, ⟨Nat.le_trans g5.1 (by omega), fun q q1 q2 => ?_⟩⟩
      rw [hk q (Nat.lt_of_lt_of_le q1 g5.1)]
      exact g5.2.1 q q1 q2
    have hrl : ((stc.map fun v => v.category).sum) + (13 * (names.length + 1) + 43) ≤ R.locals := by
      rw [ax_vs_cat g3]
      omega
    have hcx : cells + 1 ≤ R.cells := by have := hX.2.2.2.2.2.2.2.2.1; omega
    have hsx : slots + 6 ≤ R.slots := by have := hX.2.2.2.2.2.2.2.2.2.1; omega
    cases wide with
    | false =>
      simp only [Bool.false_eq_true, if_false] at dw
      obtain ⟨hqn, dw⟩ := dw
      subst hqn
      exact ax_throwS hx hb htr hown hfit hnames (hts _ hw1) (hts _ hw2) hsa hat' hgood (hU.narrow fun _ z => z.1) (hN.narrow fun _ z => z.1) g5 (g1.1.trans hml.symm) d0 d3 dw.1 dw.2.1 dw.2.2 (hout _) (by omega) hrl hcx hsx hlk hxc g5.2.2 (by omega) (by omega)
    | true =>
      simp only [if_true] at dw
      exact ax_throwSW hx hb htr hxq hown hfit hnames (hts _ hw1) (hts _ hw2) hsa hat' hgood (hU.narrow fun _ z => z.1) (hN.narrow fun _ z => z.1) g5 (g1.1.trans hml.symm) d0 d3 dw.1 dw.2.1 dw.2.2 (hout _) (by omega) hrl hcx hsx hlk hxc g5.2.2 (by omega) (by omega)
/-- an exception goes on to the caller -/
theorem ax_endx {E : String} (hX : ax_X ns l k d r D b o mc ms p R s m args meth c) (hnil : k.2.2.2.2 = []) (hQ : Q (.inr E) h) : ACX l k.2.2.1 D b o mc ms p e R s m args below meth c (vx_MQ below (ax_Qc D b o Q) (ax_XC D b o Q) args s mc ms (ax_RG b o)) pc lv E h bc bs := by
  intro lvc ls stc H locs cells slots q ce hG hce hcv hcl
  obtain ⟨g1, g2, g3, g4, g5, g6, g7⟩ := hG
  obtain ⟨hx, hb, hml, hown, hts, hT, hfr, hlo, -, -, hlk, -, htr, hex, -⟩ := id hX
  refine vx_out (fun x hx' => ?_) hlk hce hcv hcl (fun t ht _ => ⟨h, hQ, by rw [ht]; exact g4, g5.F ht⟩) g5.2.2 (by omega) (by omega)
  rw [hex, hnil] at hx'
  simp [tableOf] at hx'
/-- a method's contract, by its walk -/
theorem AM.of (hy : plainName k.1.cls = true) (hl : l.stackTraces = false) (hlen : (lg_sl as).length ≤ k.2.2.1) (hbody : AR ns l k d r (ax_ret ns k Q) (fun _ _ E h _ _ => k.2.2.2.2 = [] ∧ Q (.inr E) h) 0 (lv_args 0 as) [] h mc ms) : AM ns l k d r mc ms as h Q := by
  intro D b o
  have go : ∀ p e s m args below meth c s₁, BodyLoose p l k.1 (headSpec (ax_ws k) (ax_rm d mc ms)) k.2.1 k.2.2.1 k.2.2.2.1 e s m args below meth c s₁ → c.maxLocals = k.2.2.1 → c.exceptionTable.toList = tableOf k.2.2.2.2 → ax_Pc ns r D b o mc as h args s →
      W p l e (headSpec (ax_ws k) (ax_rm d mc ms)).room s m args below meth c s.heap [] 0 0 (vx_MQ below (ax_Qc D b o Q) (ax_XC D b o Q) args s mc ms (ax_RG b o)) (entryFrame m args k.2.2.1) := by
    intro p e s m args below meth c s₁ B hml hex hv
    obtain ⟨ac, rfl, ha, hR, hT, hz⟩ := hv
    have hts0 := atoms_spec (ws := ax_ws k) B.pre
    have hX : ax_X ns l k d r D b o mc ms p (headSpec (ax_ws k) (ax_rm d mc ms)).room s m ac.toArray meth c :=
      ⟨B.exec, B.bytes, hml, findClass_of_methodNamed B.named, fun w hw => hts0 w (List.mem_cons_of_mem _ hw), hT, Nat.le_refl _, Nat.le_refl _, Nat.le_refl _, Nat.le_refl _, B.notSynchronized, (name_of_methodNamed B.named B.method).1, hl, hex, hz⟩
    rw [lg_entry_eq]
    have hlc : (lg_sl ac).length ≤ k.2.2.1 := by rw [ax_sl_len ha]; exact hlen
    have hl0 := lv_entry ac (n := k.2.2.1) hlc
    exact hbody D b o mc ms p e _ s m ac.toArray below meth c _ hX (fun pc lv st h bc bs hp => ax_end hX B.returns hp) (fun pc lv E h bc bs hq => ax_endx hX hq.1 hq.2) _ _ _ _ [] 0 0 ⟨hl0, ax_args 0 ha, rfl, hR, va_S.rf, by omega, by omega⟩
  by_cases hnil : k.2.2.2.2 = []
  · refine vx_ofW (cc := k.2.1) (maxL := k.2.2.1) (ret := k.2.2.2.1) hy (ws' := ax_tb) (by rw [ax_ws, ax_hd_nil hnil]) ?_
    intro p e s m args below meth c s₁ B hml hex hv
    refine go p e s m args below meth c s₁ B hml ?_ hv
    rw [hnil]
    cases he : c.exceptionTable.toList with
    | nil => rfl
    | cons x t => exact (hex x (by rw [he]; exact List.mem_cons_self)).elim
  · refine vx_ofWH (cc := k.2.1) (maxL := k.2.2.1) (ret := k.2.2.2.1) (hh := k.2.2.2.2) hy (ws' := ax_tb) (by rw [ax_ws, ax_hd_cons hnil]) ?_
    intro p e s m args below meth c s₁ B hml hv
    have hts0 := atoms_spec (ws := ax_ws k) B.pre
    exact go p e s m args below meth c s₁ B hml (vx_table (x := k.1) B (by rw [← ax_hd_cons hnil]; exact hts0 _ List.mem_cons_self)) hv
end AXE
