section
/-! ===== BEGIN words of one list among another's, by their places ===== -/
theorem goodIn_r {big : List Cond} (ws : List Cond) (ps : List Nat) (hp : ws = ps.filterMap (fun i => big[i]?)) (h : ws.all goodWord = true) : GoodIn big ws := by
  intro w hw
  have h1 := List.all_eq_true.mp h w hw
  rw [hp] at hw
  obtain ⟨i, -, hi⟩ := List.mem_filterMap.mp hw
  have hm : w ∈ big := by first | exact List.mem_of_getElem? hi | exact List.getElem?_mem hi
  exact ⟨hm, good_of_word h1⟩
theorem goodIn_app {big a b : List Cond} (ha : GoodIn big a) (hb : GoodIn big b) : GoodIn big (a ++ b) := fun w h => (List.mem_append.mp h).elim (ha w) (hb w)
theorem goodIn_ca {big a b : List Cond} {c : Cond} (ha : GoodIn big (c :: a)) (hb : GoodIn big b) : GoodIn big (c :: (a ++ b)) := fun w h => (List.mem_cons.mp h).elim (fun e => ha w (List.mem_cons.mpr (Or.inl e))) (fun h => (List.mem_append.mp h).elim (fun h => ha w (List.mem_cons.mpr (Or.inr h))) (hb w))
theorem goodIn_sub {big ws : List Cond} (hm : ∀ w ∈ ws, w ∈ big) (h : ws.all goodWord = true) : GoodIn big ws := fun w hw => ⟨hm w hw, good_of_word (List.all_eq_true.mp h w hw)⟩
/-! ===== END ===== -/

/-! ===== BEGIN exceptions that leave a method, and their catching by the caller (launches without stack traces) ===== -/
section VXA
/-! The laws vx_back, vx_callV, vx_callS, vx_callSW, vx_throw0, vx_throwS follow proofs of the library, with one case more: JvmDerived/Free/Laws.lean (Back.of_free), Shelf42/LK1.lean (callV, callS), Shelf/KitTraced.lean (throwNew0V, throwNewS). -/
/-- where a method has thrown q: the class by its name, the cell, what was written, the world -/
def vx_T (XC : String → State → State → Prop) (st : State) (q : Addr) (t : State) (mc ms : Nat) (free : Addr → Prop) : Prop :=
  ∃ (E : String) (ce : Cell) (L : List Loc), XC E st t ∧ t.heap[q]? = some ce ∧ ce.vm = .none ∧ st.vm.findClass E = some ce.cls ∧ st.WarmedH t.vm ∧ st.sameButNew ({ t with vm := st.vm } : State) L mc ms ∧ ∀ z ∈ L, free z.base
def vx_Q (Qc : Array Value → State → Outcome → State → Prop) (XC : String → State → State → Prop) (mc ms : Nat) (free : Addr → Prop) : Array Value → State → Outcome → State → Prop := fun a st o t =>
  (Qc a st o t ∧ ∃ L, FrameEnd st o t L mc ms ∧ ∀ q ∈ L, free q.base) ∨ ∃ q, o = .threw q ∧ vx_T XC st q t mc ms free
/-- a callee that returns or throws -/
def vx_Met (l : Launch) (y : MethodName) (ws : List Cond) (rm : Room) (Pc : Array Value → State → Prop) (Qc : Array Value → State → Outcome → State → Prop) (XC : String → State → State → Prop) (mc ms : Nat) (free : Addr → Prop) : Prop :=
  MetFree l y (headSpec ws rm) Pc (fun _ _ _ _ _ => True) (vx_Q Qc XC mc ms free)
def vx_Post (XC : String → State → State → Prop) (mc ms : Nat) (free : Addr → Prop) : Pt → Array Value → Addr → Pt → Prop := fun A a q B =>
  ∃ (g : JFrame) (mk : MethodId) (t : State) (L : List Loc) (E : String) (ce : Cell), B.U.heap = t.heap ∧ B.U.vm = t.vm ∧ XC E (A.U.calling g mk a) t ∧ t.heap[q]? = some ce ∧ ce.vm = .none ∧ A.U.vm.findClass E = some ce.cls ∧ B.locs = A.locs ++ L ∧ (∀ z ∈ L, free z.base) ∧ B.cells = A.cells + mc ∧ B.slots = A.slots + ms
def vx_Back (l : Launch) (R : Room) (p : Program) (e : Env) (below : List Frame) (s : State) (sargs : Array Value) (y : MethodName) (len W9 : Nat)
    (Pre : Pt → Array Value → Prop) (Post : Pt → Array Value → Option Value → Pt → Prop) (PostX : Pt → Array Value → Addr → Pt → Prop) : Prop :=
  ∀ (m : MethodId) (meth : Method) (c : Code) (A : Pt) (g : JFrame) (ig : Instr) (mk : MethodId) (a : Array Value),
    Stand p l e R s m sargs below meth c A.U A.locs A.cells A.slots → g.method = m → g.locals.size = c.maxLocals → decode c.code g.pc = .ok (ig, len) →
    2 * g.monitorRoom + (g.stack.map fun v => v.category).sum ≤ W9 → A.U.methodNamed? y = some mk → Pre A a →
    (∃ (v : Option Value) (B : Pt), Stand p l e R s m sargs below meth c B.U B.locs B.cells B.slots ∧ Post A a v B ∧
      Steps p.tables e below (doInvoke e (A.U.setTop g) [] mk a).1 (B.U.setTop { g with pc := g.pc + len, stack := v.toList ++ g.stack })) ∨
    (∃ (q : Addr) (B : Pt), Stand p l e R s m sargs below meth c B.U B.locs B.cells B.slots ∧ PostX A a q B ∧
      Steps p.tables e below (doInvoke e (A.U.setTop g) [] mk a).1 ((B.U.setTop g).pushFrame (.throwing q)))
section Payer
variable {l : Launch} {R : Room} {p : Program} {e : Env} {below : List Frame} {s : State} {sargs : Array Value} {y : MethodName} {len W9 : Nat}
theorem vx_back {ws : List Cond} {rm : Room} {Pc : Array Value → State → Prop} {Qc : Array Value → State → Outcome → State → Prop} {XC : String → State → State → Prop} {mc ms : Nat} {free : Addr → Prop} {bytes : ByteArray} {maxL : Nat} {ret : Option FieldType}
    (hM : vx_Met l y ws rm Pc Qc XC mc ms free) (hblind : FrameBlind Pc) (hrc : rm.cells = mc) (hrs : rm.slots = ms)
    (hframes : rm.frames + 1 ≤ R.frames) (hlocals : W9 + (maxL + 11) + rm.locals ≤ R.locals)
    (hws : ∀ w ∈ ws, ∀ a' U, s.WarmedH U.vm → w.before a' U = true) (hcode : Cond.code y bytes maxL ret ∈ ws) (hinit : ∀ a' U, s.WarmedH U.vm → (Cond.initialized y.cls).before a' U = true) :
    vx_Back l R p e below s sargs y len W9 (PreOf R mc ms Pc) (PostOf Qc mc ms free) (vx_Post XC mc ms free) := by
  intro m meth c A g ig mk a X hg hsize hdg hW hn hp
  have h1 : (headSpec ws rm).pre.before a A.U = true := atoms_intro fun w hw => hws w hw _ _ X.warmed
  have h2 : (Cond.code y bytes maxL ret).before a A.U = true := hws _ hcode _ _ X.warmed
  have h3 : (Cond.initialized y.cls).before a A.U = true := hinit _ _ X.warmed
  have h4 : A.cells + (headSpec ws rm).room.cells ≤ R.cells := by rw [show (headSpec ws rm).room.cells = mc from hrc]; exact hp.1
  have h5 : A.slots + (headSpec ws rm).room.slots ≤ R.slots := by rw [show (headSpec ws rm).room.slots = ms from hrs]; exact hp.2.1
  have hPc : Pc a (A.U.calling g mk a) := hblind _ _ _ _ hp.2.2
  obtain ⟨U, Ls, c0, s0⟩ := A
  dsimp only [Pt.U, Pt.locs, Pt.cells, Pt.slots] at h1 h2 h3 h4 h5 X hn hPc ⊢
  obtain ⟨methY, cY, hmY, hcY, -, hlY, -, -, -, -⟩ := Cond.code_spec hn h2
  obtain ⟨kY, hkY, -⟩ := className_of_methodNamed hn
  have hinitY : kY.init = .initialized := Cond.initialized_spec (findClass_of_methodNamed hn) hkY h3
  have h : At U g.method c below := by rw [hg]; exact X.here
  have hlocals9 : W9 + (maxL + 11) + (headSpec ws rm).room.locals ≤ R.locals := hlocals
  have happ : (headSpec ws rm).appliesLoose y e.platform (U.calling g mk a) = true :=
    Spec.appliesLoose_calling (g := g) h hdg hn hkY hinitY
      (X.room_calling (g := g) (R' := (headSpec ws rm).room) hsize hmY hcY hframes (by rw [hlY]; omega) h4 h5) h1
  obtain ⟨mid, hmid⟩ := h.above
  have hfr : (U.setTop g).frames = (.java g :: mid) ++ below := by rw [State.frames_setTop' g h.top, hmid]; rfl
  obtain ⟨o, s₂, hsteps, -, hend, hq⟩ := Steps.callFree hM p X.admits X.cas X.clock (acts := []) hfr happ hPc trivial
  have hq' : vx_Q Qc XC mc ms free a (U.calling g mk a) o s₂ := hq
  rw [State.frames_setTop' g h.top] at hend
  obtain ⟨g₀, hg0⟩ := Option.isSome_iff_exists.mp h.top
  obtain ⟨r, hr⟩ := State.topJava?_eq_some.mp hg0
  have hr' : (({ U with heap := s₂.heap, slotsUsed := s₂.slotsUsed } : State).setVm s₂.vm).frames = .java g₀ :: r := hr
  rcases hq' with ⟨hqc, L, hfe, hL⟩ | ⟨q, rfl, E, ce, L, hx, hce, hcv, hcl, hW₂, hsm, hL⟩
  · obtain ⟨⟨v, rfl⟩, hW₂, e2, q2, q3, q4, q5, q6⟩ := id hfe
    have e3 : s₂ = ({ (U.calling g mk a).setFrames s₂.frames with heap := s₂.heap, slotsUsed := s₂.slotsUsed } : State).setVm s₂.vm := by
      have : s₂ = ({ s₂ with vm := (U.calling g mk a).vm } : State).setVm s₂.vm := rfl
      rw [e2] at this
      exact this
    obtain ⟨c₂, i₂, len₂, hc₂, hd₂, hf₂⟩ := hend
    have hW' : U.WarmedH s₂.vm := hW₂
    have hcc : c₂ = c := by
      have h1 : s₂.code? g.method = U.code? g.method := by
        rw [State.code?_eq, State.code?_eq, hW'.alike.method?]
      exact Option.some.inj (hc₂.symm.trans (h1.trans h.code))
    subst hcc
    have hlen : len₂ = len := by rw [hdg] at hd₂; cases hd₂; rfl
    subst hlen
    have hs₂ : s₂ = (({ U with heap := s₂.heap, slotsUsed := s₂.slotsUsed } : State).setVm s₂.vm).setTop { g with pc := g.pc + len₂, stack := v.toList ++ g.stack } := by
      refine e3.trans ?_
      rw [hf₂, State.calling_eq h.top, State.setFrames_setFrames, State.setTop_of_frames _ hr', hr]
      rfl
    have hsame : U.sameButNew ({ U with heap := s₂.heap, slotsUsed := s₂.slotsUsed } : State) L mc ms := by
      refine ⟨?_, q2, q3, q4, q5, q6⟩
      obtain ⟨t, ht, -⟩ := State.frames_cons hr
      show ({ U with heap := s₂.heap, slotsUsed := s₂.slotsUsed } : State) = { U.setFrames U.frames with heap := s₂.heap, slotsUsed := s₂.slotsUsed }
      rw [State.setFrames_self ht]
    subst hg
    refine Or.inl ⟨v, ⟨(({ U with heap := s₂.heap, slotsUsed := s₂.slotsUsed } : State).setVm s₂.vm), Ls ++ L, c0 + mc, s0 + ms⟩,
      ⟨X.admits, X.cas, X.clock, X.frames, X.room, X.hears, X.method, X.code, (X.here.setHeapUsed s₂.heap s₂.slotsUsed).setVm hW'.alike, X.tail, State.WarmedH.trans X.warmed hW', X.limits, X.bytes, X.same.trans (hsame.setVm s.vm)⟩,
      ⟨g, mk, s₂, L, rfl, rfl, hqc, rfl, hL, rfl, rfl⟩, ?_⟩
    show Steps p.tables e below _ ((({ U with heap := s₂.heap, slotsUsed := s₂.slotsUsed } : State).setVm s₂.vm).setTop { g with pc := g.pc + len₂, stack := v.toList ++ g.stack })
    rw [← hs₂]
    exact hsteps
  · obtain ⟨e2, q2, q3, q4, q5, q6⟩ := id hsm
    have e3 : s₂ = ({ (U.calling g mk a).setFrames s₂.frames with heap := s₂.heap, slotsUsed := s₂.slotsUsed } : State).setVm s₂.vm := by
      have : s₂ = ({ s₂ with vm := (U.calling g mk a).vm } : State).setVm s₂.vm := rfl
      rw [e2] at this
      exact this
    have hf₂ : s₂.frames = .throwing q :: .java g :: U.frames.tail := hend
    have hW' : U.WarmedH s₂.vm := hW₂
    have hs₂ : s₂ = ((({ U with heap := s₂.heap, slotsUsed := s₂.slotsUsed } : State).setVm s₂.vm).setTop g).pushFrame (.throwing q) := by
      refine e3.trans ?_
      rw [hf₂, State.calling_eq h.top, State.setFrames_setFrames, State.pushFrame, State.frames_setTop _ hr', State.setTop_of_frames _ hr', State.setFrames_setFrames, hr]
      rfl
    have hsame : U.sameButNew ({ U with heap := s₂.heap, slotsUsed := s₂.slotsUsed } : State) L mc ms := by
      refine ⟨?_, q2, q3, q4, q5, q6⟩
      obtain ⟨t, ht, -⟩ := State.frames_cons hr
      show ({ U with heap := s₂.heap, slotsUsed := s₂.slotsUsed } : State) = { U.setFrames U.frames with heap := s₂.heap, slotsUsed := s₂.slotsUsed }
      rw [State.setFrames_self ht]
    subst hg
    refine Or.inr ⟨q, ⟨(({ U with heap := s₂.heap, slotsUsed := s₂.slotsUsed } : State).setVm s₂.vm), Ls ++ L, c0 + mc, s0 + ms⟩,
      ⟨X.admits, X.cas, X.clock, X.frames, X.room, X.hears, X.method, X.code, (X.here.setHeapUsed s₂.heap s₂.slotsUsed).setVm hW'.alike, X.tail, State.WarmedH.trans X.warmed hW', X.limits, X.bytes, X.same.trans (hsame.setVm s.vm)⟩,
      ⟨g, mk, s₂, L, E, ce, rfl, rfl, hx, hce, hcv, hcl, rfl, hL, rfl, rfl⟩, ?_⟩
    show Steps p.tables e below _ (((({ U with heap := s₂.heap, slotsUsed := s₂.slotsUsed } : State).setVm s₂.vm).setTop g).pushFrame (.throwing q))
    rw [← hs₂]
    exact hsteps
end Payer
section Calls
variable {p : Program} {l : Launch} {e : Env} {R : Room} {s : State} {m : MethodId} {args : Array Value} {below : List Frame} {meth : Method} {c : Code} {T : State} {locs : List Loc} {cells slots : Nat}
theorem vx_callV (X : Stand p l e R s m args below meth c T locs cells slots) (hexec : p.tables.exec = Jvm.exec) {own C : String} {index : Nat} {y : MethodName} {bytes : ByteArray} {maxL : Nat} {ret : Option FieldType}
    (hown : s.vm.findClass own = some m.cls) (hlink : (Cond.methodLink own index y).before args s = true) (hinst : (Cond.instanceMethod y).before args s = true) (hsel : (Cond.selects C y y).before args s = true)
    (hcode : (Cond.code y bytes maxL ret).before args s = true) (hy : y.cls ≠ "java/lang/invoke/MethodHandle" ∧ y.cls ≠ "java/lang/invoke/VarHandle")
    {W9 : Nat} {Pre : Pt → Array Value → Prop} {Post : Pt → Array Value → Option Value → Pt → Prop} {PostX : Pt → Array Value → Addr → Pt → Prop} (hK : vx_Back l R p e below s args y 3 W9 Pre Post PostX)
    {b : Addr} {cellB : Cell} (hcell : T.heap[b]? = some cellB) (hobj : cellB.vm.isStatics = false) (hcls : s.vm.findClass C = some cellB.cls)
    {g : JFrame} (hg : g.method = m) (hsize : g.locals.size = c.maxLocals) {argsL rest : List Value} (hlen : ∀ sig, parseMethodDescriptor y.desc = some sig → argsL.length = sig.parameters.length)
    (hstack : g.stack = argsL.reverse ++ .ref b :: rest) (hW : 2 * g.monitorRoom + (rest.map fun v => v.category).sum ≤ W9) (hdg : decode c.code g.pc = .ok (.invokevirtual index, 3))
    (hpre : ∀ vm₁, s.WarmedH vm₁ → Pre ⟨T.setVm vm₁, locs, cells, slots⟩ (Value.ref b :: argsL).toArray) :
    (∃ (v : Option Value) (vm₁ : Vm) (B : Pt), s.WarmedH vm₁ ∧ Stand p l e R s m args below meth c B.U B.locs B.cells B.slots ∧ Post ⟨T.setVm vm₁, locs, cells, slots⟩ (Value.ref b :: argsL).toArray v B ∧
      ∀ target, Steps p.tables e below (B.U.setTop { g with pc := g.pc + 3, stack := v.toList ++ rest }) target → Steps p.tables e below (T.setTop g) target) ∨
    (∃ (q : Addr) (vm₁ : Vm) (B : Pt), s.WarmedH vm₁ ∧ Stand p l e R s m args below meth c B.U B.locs B.cells B.slots ∧ PostX ⟨T.setVm vm₁, locs, cells, slots⟩ (Value.ref b :: argsL).toArray q B ∧
      Steps p.tables e below (T.setTop g) ((B.U.setTop { g with stack := rest }).pushFrame (.throwing q))) := by
  obtain ⟨mk, methM, hnamed, hmethM, hstM, habM⟩ := Cond.instanceMethod_spec hinst
  obtain ⟨methM', cM, hmethM', -, -, -, -, -, -, hsigM⟩ := Cond.code_spec hnamed hcode
  cases hmethM.symm.trans hmethM'
  obtain ⟨c2, r2, m2, q1, q2, q3, q4, kP, hkP, hkPi⟩ := Cond.selects_spec hsel
  cases hcls.symm.trans q1
  cases (State.methodFound?_of_named hnamed hy).symm.trans q2
  cases hnamed.symm.trans q3
  have hselP : selectMethod e.platform s.vm cellB.cls mk = .method mk := by rw [Launch.admits_selectMethod X.admits]; exact q4
  obtain ⟨vm₁, X₁, hstep₁⟩ := X.invokevirtual hexec hown hlink hnamed hmethM hstM hkP hkPi hy (a := b) (cell := cellB) hcell
    (fun z h => by rw [h] at hobj; cases hobj) hselP hmethM habM hkP hkPi (g := g) hg (argsL := argsL) (rest := rest) (hlen _ hsigM) hstack hdg
  rcases hK m meth c ⟨T.setVm vm₁, locs, cells, slots⟩ { g with stack := rest } (.invokevirtual index) mk (Value.ref b :: argsL).toArray X₁ hg hsize hdg hW (X₁.named hnamed) (hpre vm₁ X₁.warmed) with ⟨v, B, X', hpost, hsteps⟩ | ⟨q, B, X', hpost, hsteps⟩
  · exact Or.inl ⟨v, vm₁, B, X₁.warmed, X', hpost, fun target h => hstep₁ _ fun acts => by rw [doInvoke_state]; exact hsteps.trans h⟩
  · exact Or.inr ⟨q, vm₁, B, X₁.warmed, X', hpost, hstep₁ _ fun acts => by rw [doInvoke_state]; exact hsteps⟩
theorem vx_callS (X : Stand p l e R s m args below meth c T locs cells slots) (hexec : p.tables.exec = Jvm.exec) {own : String} {index : Nat} {y : MethodName} {bytes : ByteArray} {maxL : Nat} {ret : Option FieldType}
    (hown : s.vm.findClass own = some m.cls) (hlink : (Cond.methodLink own index y).before args s = true) (hstat : (Cond.static y).before args s = true) (hinit : (Cond.initialized y.cls).before args s = true)
    (hcode : (Cond.code y bytes maxL ret).before args s = true) (hy : y.cls ≠ "java/lang/invoke/MethodHandle" ∧ y.cls ≠ "java/lang/invoke/VarHandle")
    {W9 : Nat} {Pre : Pt → Array Value → Prop} {Post : Pt → Array Value → Option Value → Pt → Prop} {PostX : Pt → Array Value → Addr → Pt → Prop} (hK : vx_Back l R p e below s args y 3 W9 Pre Post PostX)
    {g : JFrame} (hg : g.method = m) (hsize : g.locals.size = c.maxLocals) {argsL rest : List Value} (hlen : ∀ sig, parseMethodDescriptor y.desc = some sig → argsL.length = sig.parameters.length)
    (hstack : g.stack = argsL.reverse ++ rest) (hW : 2 * g.monitorRoom + (rest.map fun v => v.category).sum ≤ W9) (hdg : decode c.code g.pc = .ok (.invokestatic index, 3))
    (hpre : ∀ vm₁, s.WarmedH vm₁ → Pre ⟨T.setVm vm₁, locs, cells, slots⟩ argsL.toArray) :
    (∃ (v : Option Value) (vm₁ : Vm) (B : Pt), s.WarmedH vm₁ ∧ Stand p l e R s m args below meth c B.U B.locs B.cells B.slots ∧ Post ⟨T.setVm vm₁, locs, cells, slots⟩ argsL.toArray v B ∧
      ∀ target, Steps p.tables e below (B.U.setTop { g with pc := g.pc + 3, stack := v.toList ++ rest }) target → Steps p.tables e below (T.setTop g) target) ∨
    (∃ (q : Addr) (vm₁ : Vm) (B : Pt), s.WarmedH vm₁ ∧ Stand p l e R s m args below meth c B.U B.locs B.cells B.slots ∧ PostX ⟨T.setVm vm₁, locs, cells, slots⟩ argsL.toArray q B ∧
      Steps p.tables e below (T.setTop g) ((B.U.setTop { g with stack := rest }).pushFrame (.throwing q))) := by
  obtain ⟨mk, hnamed⟩ := Cond.code_named hcode
  obtain ⟨methM, cM, hmethM, -, -, -, -, -, -, hsigM⟩ := Cond.code_spec hnamed hcode
  have hstatic : methM.isStatic = true := Cond.static_spec hnamed hmethM hstat
  obtain ⟨kP, hkP, -⟩ := className_of_methodNamed hnamed
  have hinitP : kP.init = .initialized := Cond.initialized_spec (findClass_of_methodNamed hnamed) hkP hinit
  obtain ⟨vm₁, X₁, hstep₁⟩ := X.invokestatic hexec hown hlink hnamed hmethM hstatic hkP hinitP hy (g := g) hg (argsL := argsL) (rest := rest) (hlen _ hsigM) hstack hdg
  rcases hK m meth c ⟨T.setVm vm₁, locs, cells, slots⟩ { g with stack := rest } (.invokestatic index) mk argsL.toArray X₁ hg hsize hdg hW (X₁.named hnamed) (hpre vm₁ X₁.warmed) with ⟨v, B, X', hpost, hsteps⟩ | ⟨q, B, X', hpost, hsteps⟩
  · exact Or.inl ⟨v, vm₁, B, X₁.warmed, X', hpost, fun target h => hstep₁ _ fun acts => by rw [doInvoke_state]; exact hsteps.trans h⟩
  · exact Or.inr ⟨q, vm₁, B, X₁.warmed, X', hpost, hstep₁ _ fun acts => by rw [doInvoke_state]; exact hsteps⟩
end Calls
theorem vx_cls {s : State} {T : State} {vm₁ : Vm} {E : String} {k : ClassId} (hW : s.WarmedH vm₁) (h : (T.setVm vm₁).vm.findClass E = some k) : s.vm.findClass E = some k := by
  have h1 : vm₁.findClass E = some k := h
  rw [hW.alike.findClass] at h1
  exact h1
/-- the method's frame g, with q thrown over it -/
def vx_W (p : Program) (l : Launch) (e : Env) (R : Room) (s : State) (m : MethodId) (args : Array Value) (below : List Frame) (meth : Method) (c : Code) (H : Heap) (locs : List Loc) (cells slots : Nat) (Q : State → Prop) (g : JFrame) (q : Addr) : Prop :=
  ∀ T : State, T.heap = H → Stand p l e R s m args below meth c T locs cells slots → ∃ t, Steps p.tables e below ((T.setTop g).pushFrame (.throwing q)) t ∧ Q t
def vx_Run (p : Program) (l : Launch) (e : Env) (R : Room) (s : State) (m : MethodId) (args : Array Value) (below : List Frame) (meth : Method) (c : Code) (H : Heap) (locs : List Loc) (cells slots mc ms : Nat) (g : JFrame) (rest : List Value) (Qa : State → Outcome → State → Prop) (XC : String → State → State → Prop) (free : Addr → Prop) : Prop :=
  ∀ T : State, T.heap = H → Stand p l e R s m args below meth c T locs cells slots →
    (∃ (v : Option Value) (st₀ t T' : State) (L : List Loc), st₀.heap = H ∧ Stand p l e R s m args below meth c T' (locs ++ L) (cells + mc) (slots + ms) ∧ (∀ q ∈ L, free q.base) ∧ T'.heap = t.heap ∧ T'.vm = t.vm ∧ Qa st₀ (.returned v) t ∧
      Goes p e below T g T' { g with pc := g.pc + 3, stack := v.toList ++ rest }) ∨
    (∃ (q : Addr) (st₀ t T' : State) (L : List Loc) (E : String) (ce : Cell), st₀.heap = H ∧ Stand p l e R s m args below meth c T' (locs ++ L) (cells + mc) (slots + ms) ∧ (∀ z ∈ L, free z.base) ∧ T'.heap = t.heap ∧ T'.vm = t.vm ∧ XC E st₀ t ∧ t.heap[q]? = some ce ∧ ce.vm = .none ∧ s.vm.findClass E = some ce.cls ∧
      Steps p.tables e below (T.setTop g) ((T'.setTop { g with stack := rest }).pushFrame (.throwing q)))
def vx_X {S : Type} (px : S → Prop) (B : String → S → State → Prop) (A : Nat → Prop) : String → State → State → Prop := fun E st t => ∃ u : S, px u ∧ B E u t ∧ va_F A st t
section Runs
variable {p : Program} {l : Launch} {e : Env} {R : Room} {s : State} {m : MethodId} {args : Array Value} {below : List Frame} {meth : Method} {c : Code} {H : Heap} {locs : List Loc} {cells slots : Nat}
variable {y : MethodName} {bytes cc : ByteArray} {maxL nL mc ms n index : Nat} {ret : Option FieldType} {ws : List Cond} {rm : Room} {Pc : Array Value → State → Prop} {Qc : Array Value → State → Outcome → State → Prop} {XC : String → State → State → Prop} {free : Addr → Prop} {Ts : List Cond} {own C : String} {b : Addr} {As rest : List Value} {g : JFrame}
theorem vx_callBack (cb : CallB R s args own index y bytes maxL ret ws rm mc ms n) (hM : vx_Met l y ws rm Pc Qc XC mc ms free) (hbl : FrameBlind Pc) : vx_Back l R p e below s args y 3 8 (PreOf R mc ms Pc) (PostOf Qc mc ms free) (vx_Post XC mc ms free) := by
  obtain ⟨hrc, hrs, hfr, hlo, hws, hcw, -, hini, -⟩ := cb
  exact vx_back (bytes := bytes) (maxL := maxL) (ret := ret) hM hbl hrc hrs hfr hlo hws hcw (fun a' U hW => word_at hW (Or.inl (by first | rfl | simp [Cond.onTables, Cond.keeps, Cond.steady])) hini)
theorem vx_runV (S : CallFix p m c cc nL s args Ts own) (hM : vx_Met l y ws rm Pc Qc XC mc ms free) (cw : CallW R s args own C index y bytes maxL ret ws rm mc ms n) (hp : PreV s H C b Pc As)
    (hg : g.method = m) (hn : As.length = n) (hsize : g.locals.size = nL) (hstack : g.stack = As.reverse ++ .ref b :: rest) (hW : 2 * g.monitorRoom + (rest.map fun v => v.category).sum ≤ 8) (hdg : decode cc g.pc = .ok (.invokevirtual index, 3)) (hf : cells + mc ≤ R.cells ∧ slots + ms ≤ R.slots) :
    vx_Run p l e R s m args below meth c H locs cells slots mc ms g rest (Qc (Value.ref b :: As).toArray) XC free := by
  have hK : vx_Back l R p e below s args y 3 8 (PreOf R mc ms Pc) (PostOf Qc mc ms free) (vx_Post XC mc ms free) := vx_callBack cw.1 hM hp.1
  obtain ⟨⟨-, -, -, -, -, -, hcode, -, hy, hlen, hl⟩, hin, hse⟩ := cw
  obtain ⟨hx, hb, hml, ho, -⟩ := S
  obtain ⟨-, ⟨cellB, hcB, hoB, hclB⟩, hPc⟩ := hp
  intro T hT X
  rcases vx_callV X hx (C := C) (bytes := bytes) (maxL := maxL) (ret := ret) ho hl hin hse hcode hy hK (by rw [hT]; exact hcB) hoB hclB hg (hsize.trans hml.symm) (argsL := As) (rest := rest) (fun sig h => hn.trans (hlen sig h)) hstack hW (by rw [hb]; exact hdg)
    (fun vm₁ hW₁ => ⟨hf.1, hf.2, hPc (T.setVm vm₁) hT hW₁⟩) with ⟨v, vm₁, ⟨U', l2, c2, s2⟩, hW₁, X', ⟨g', mk, t, L, e1, e2, hq, h1, hL, h2, h3⟩, st⟩ | ⟨q, vm₁, ⟨U', l2, c2, s2⟩, hW₁, X', ⟨g', mk, t, L, E, ce, e1, e2, hq, hce, hcv, hcl, h1, hL, h2, h3⟩, st⟩
  · dsimp only [Pt.U, Pt.locs, Pt.cells, Pt.slots] at X' e1 e2 h1 h2 h3 st
    subst h1; subst h2; subst h3
    exact Or.inl ⟨v, (T.setVm vm₁).calling g' mk (Value.ref b :: As).toArray, t, U', L, hT, X', hL, e1, e2, hq, st⟩
  · dsimp only [Pt.U, Pt.locs, Pt.cells, Pt.slots] at X' e1 e2 h1 h2 h3 st hcl
    subst h1; subst h2; subst h3
    exact Or.inr ⟨q, (T.setVm vm₁).calling g' mk (Value.ref b :: As).toArray, t, U', L, E, ce, hT, X', hL, e1, e2, hq, hce, hcv, vx_cls hW₁ hcl, st⟩
theorem vx_runS (S : CallFix p m c cc nL s args Ts own) (hM : vx_Met l y ws rm Pc Qc XC mc ms free) (cw : CallB R s args own index y bytes maxL ret ws rm mc ms n ∧ (Cond.static y).before args s = true) (hp : PreS s H Pc As)
    (hg : g.method = m) (hn : As.length = n) (hsize : g.locals.size = nL) (hstack : g.stack = As.reverse ++ rest) (hW : 2 * g.monitorRoom + (rest.map fun v => v.category).sum ≤ 8) (hdg : decode cc g.pc = .ok (.invokestatic index, 3)) (hf : cells + mc ≤ R.cells ∧ slots + ms ≤ R.slots) :
    vx_Run p l e R s m args below meth c H locs cells slots mc ms g rest (Qc As.toArray) XC free := by
  have hK : vx_Back l R p e below s args y 3 8 (PreOf R mc ms Pc) (PostOf Qc mc ms free) (vx_Post XC mc ms free) := vx_callBack cw.1 hM hp.1
  obtain ⟨⟨-, -, -, -, -, -, hcode, hini, hy, hlen, hl⟩, hstt⟩ := cw
  obtain ⟨hx, hb, hml, ho, -⟩ := S
  intro T hT X
  rcases vx_callS X hx (bytes := bytes) (maxL := maxL) (ret := ret) ho hl hstt hini hcode hy hK hg (hsize.trans hml.symm) (argsL := As) (rest := rest) (fun sig h => hn.trans (hlen sig h)) hstack hW (by rw [hb]; exact hdg)
    (fun vm₁ hW₁ => ⟨hf.1, hf.2, hp.2 (T.setVm vm₁) hT hW₁⟩) with ⟨v, vm₁, ⟨U', l2, c2, s2⟩, hW₁, X', ⟨g', mk, t, L, e1, e2, hq, h1, hL, h2, h3⟩, st⟩ | ⟨q, vm₁, ⟨U', l2, c2, s2⟩, hW₁, X', ⟨g', mk, t, L, E, ce, e1, e2, hq, hce, hcv, hcl, h1, hL, h2, h3⟩, st⟩
  · dsimp only [Pt.U, Pt.locs, Pt.cells, Pt.slots] at X' e1 e2 h1 h2 h3 st
    subst h1; subst h2; subst h3
    exact Or.inl ⟨v, (T.setVm vm₁).calling g' mk As.toArray, t, U', L, hT, X', hL, e1, e2, hq, st⟩
  · dsimp only [Pt.U, Pt.locs, Pt.cells, Pt.slots] at X' e1 e2 h1 h2 h3 st hcl
    subst h1; subst h2; subst h3
    exact Or.inr ⟨q, (T.setVm vm₁).calling g' mk As.toArray, t, U', L, E, ce, hT, X', hL, e1, e2, hq, hce, hcv, vx_cls hW₁ hcl, st⟩
end Runs
section Rows
variable {p : Program} {l : Launch} {e : Env} {R : Room} {s : State} {m : MethodId} {args : Array Value} {below : List Frame} {meth : Method} {c : Code} {H : Heap} {locs : List Loc} {cells slots : Nat} {Q : State → Prop}
variable {mc ms : Nat} {free : Addr → Prop} {A0 A1 : Nat → Prop} {H0 : Heap} {a : Array Value} {pc : Nat} {ls : Array Slot} {st0 rest : List Value}
theorem vx_keep {st₀ t T' : State} {L : List Loc} (h0 : st₀.heap = H) (e1 : T'.heap = t.heap) (hS : va_S A0 H0 H locs) (hA : ∀ q, q < H.size → A1 q → A0 q) (hf : ∀ q, free q → A0 q) (hL : ∀ q ∈ L, free q.base) (hF : va_F A1 st₀ t) :
    H.size ≤ T'.heap.size ∧ (∀ q : Nat, q < H.size → ¬ A1 q → T'.heap[q]? = H[q]?) ∧ va_S A0 H0 T'.heap (locs ++ L) := by
  obtain ⟨hz, hk⟩ := hF
  rw [h0] at hz hk
  exact ⟨by rw [e1]; exact hz, fun q h1 h2 => by rw [e1]; exact hk q h1 h2,
    ⟨Nat.le_trans hS.1 (by rw [e1]; exact hz), fun q h1 h2 => by rw [e1, hk q (Nat.lt_of_lt_of_le h1 hS.1) (fun z => h2 (hA q (Nat.lt_of_lt_of_le h1 hS.1) z))]; exact hS.2.1 q h1 h2, fun q hq => by
      rcases List.mem_append.mp hq with h | h
      · exact hS.2.2 q h
      · exact hf _ (hL q h)⟩⟩
theorem vx_calli {S SX : Type} {post : Int32 → S → Prop} {px : SX → Prop} {B : S → State → Prop} {BX : String → SX → State → Prop} {AX : Nat → Prop} (hr : vx_Run p l e R s m args below meth c H locs cells slots mc ms (F0 m pc ls st0) rest (va_Qi post B A1 a) (vx_X px BX AX) free) (hS : va_S A0 H0 H locs) (hA : ∀ q, q < H.size → A1 q → A0 q) (hf : ∀ q, free q → A0 q) (hAX : ∀ q, q < H.size → AX q → A0 q)
    (kx : ∀ (E : String) (ce : Cell) (q9 : Addr) (u : SX) (t : State) (H1 : Heap) (locs1 : List Loc), t.heap = H1 → s.vm.Alike t.vm → px u → BX E u t → H.size ≤ H1.size → (∀ q : Nat, q < H.size → ¬ AX q → H1[q]? = H[q]?) → va_S A0 H0 H1 locs1 → H1[q9]? = some ce → ce.vm = .none → s.vm.findClass E = some ce.cls → vx_W p l e R s m args below meth c H1 locs1 (cells + mc) (slots + ms) Q (F0 m pc ls rest) q9)
    (kk : ∀ (r : Int32) (u : S) (t : State) (H1 : Heap) (locs1 : List Loc), t.heap = H1 → s.vm.Alike t.vm → post r u → B u t → H.size ≤ H1.size → (∀ q : Nat, q < H.size → ¬ A1 q → H1[q]? = H[q]?) → va_S A0 H0 H1 locs1 → W p l e R s m args below meth c H1 locs1 (cells + mc) (slots + ms) Q (F0 m (pc + 3) ls (.int r :: rest))) : W p l e R s m args below meth c H locs cells slots Q (F0 m pc ls st0) := by
  intro T hT X
  rcases hr T hT X with ⟨v, st₀, t, T', L, h0, X', hL, e1, e2, ⟨⟨r, u, hv, hp, hb⟩, hF⟩, st⟩ | ⟨q, st₀, t, T', L, E, ce, h0, X', hL, e1, e2, ⟨u, hp, hb, hF⟩, hce, hcv, hcl, st⟩
  · cases hv
    obtain ⟨k1, k2, k3⟩ := vx_keep h0 e1 hS hA hf hL hF
    obtain ⟨t2, a1, b1⟩ := kk r u t T'.heap (locs ++ L) e1.symm (by rw [← e2]; exact X'.warmed.alike) hp hb k1 k2 k3 T' rfl X'
    exact ⟨t2, st t2 a1, b1⟩
  · obtain ⟨k1, k2, k3⟩ := vx_keep h0 e1 hS hAX hf hL hF
    obtain ⟨t2, a1, b1⟩ := kx E ce q u t T'.heap (locs ++ L) e1.symm (by rw [← e2]; exact X'.warmed.alike) hp hb k1 k2 k3 (by rw [e1]; exact hce) hcv hcl T' rfl X'
    exact ⟨t2, st.trans a1, b1⟩
theorem vx_calll {S SX : Type} {post : Int64 → S → Prop} {px : SX → Prop} {B : S → State → Prop} {BX : String → SX → State → Prop} {AX : Nat → Prop} (hr : vx_Run p l e R s m args below meth c H locs cells slots mc ms (F0 m pc ls st0) rest (va_Ql post B A1 a) (vx_X px BX AX) free) (hS : va_S A0 H0 H locs) (hA : ∀ q, q < H.size → A1 q → A0 q) (hf : ∀ q, free q → A0 q) (hAX : ∀ q, q < H.size → AX q → A0 q)
    (kx : ∀ (E : String) (ce : Cell) (q9 : Addr) (u : SX) (t : State) (H1 : Heap) (locs1 : List Loc), t.heap = H1 → s.vm.Alike t.vm → px u → BX E u t → H.size ≤ H1.size → (∀ q : Nat, q < H.size → ¬ AX q → H1[q]? = H[q]?) → va_S A0 H0 H1 locs1 → H1[q9]? = some ce → ce.vm = .none → s.vm.findClass E = some ce.cls → vx_W p l e R s m args below meth c H1 locs1 (cells + mc) (slots + ms) Q (F0 m pc ls rest) q9)
    (kk : ∀ (r : Int64) (u : S) (t : State) (H1 : Heap) (locs1 : List Loc), t.heap = H1 → s.vm.Alike t.vm → post r u → B u t → H.size ≤ H1.size → (∀ q : Nat, q < H.size → ¬ A1 q → H1[q]? = H[q]?) → va_S A0 H0 H1 locs1 → W p l e R s m args below meth c H1 locs1 (cells + mc) (slots + ms) Q (F0 m (pc + 3) ls (.long r :: rest))) : W p l e R s m args below meth c H locs cells slots Q (F0 m pc ls st0) := by
  intro T hT X
  rcases hr T hT X with ⟨v, st₀, t, T', L, h0, X', hL, e1, e2, ⟨⟨r, u, hv, hp, hb⟩, hF⟩, st⟩ | ⟨q, st₀, t, T', L, E, ce, h0, X', hL, e1, e2, ⟨u, hp, hb, hF⟩, hce, hcv, hcl, st⟩
  · cases hv
    obtain ⟨k1, k2, k3⟩ := vx_keep h0 e1 hS hA hf hL hF
    obtain ⟨t2, a1, b1⟩ := kk r u t T'.heap (locs ++ L) e1.symm (by rw [← e2]; exact X'.warmed.alike) hp hb k1 k2 k3 T' rfl X'
    exact ⟨t2, st t2 a1, b1⟩
  · obtain ⟨k1, k2, k3⟩ := vx_keep h0 e1 hS hAX hf hL hF
    obtain ⟨t2, a1, b1⟩ := kx E ce q u t T'.heap (locs ++ L) e1.symm (by rw [← e2]; exact X'.warmed.alike) hp hb k1 k2 k3 (by rw [e1]; exact hce) hcv hcl T' rfl X'
    exact ⟨t2, st.trans a1, b1⟩
theorem vx_callf {S SX : Type} {post : UInt32 → S → Prop} {px : SX → Prop} {B : S → State → Prop} {BX : String → SX → State → Prop} {AX : Nat → Prop} (hr : vx_Run p l e R s m args below meth c H locs cells slots mc ms (F0 m pc ls st0) rest (va_Qf post B A1 a) (vx_X px BX AX) free) (hS : va_S A0 H0 H locs) (hA : ∀ q, q < H.size → A1 q → A0 q) (hf : ∀ q, free q → A0 q) (hAX : ∀ q, q < H.size → AX q → A0 q)
    (kx : ∀ (E : String) (ce : Cell) (q9 : Addr) (u : SX) (t : State) (H1 : Heap) (locs1 : List Loc), t.heap = H1 → s.vm.Alike t.vm → px u → BX E u t → H.size ≤ H1.size → (∀ q : Nat, q < H.size → ¬ AX q → H1[q]? = H[q]?) → va_S A0 H0 H1 locs1 → H1[q9]? = some ce → ce.vm = .none → s.vm.findClass E = some ce.cls → vx_W p l e R s m args below meth c H1 locs1 (cells + mc) (slots + ms) Q (F0 m pc ls rest) q9)
    (kk : ∀ (r : UInt32) (u : S) (t : State) (H1 : Heap) (locs1 : List Loc), t.heap = H1 → s.vm.Alike t.vm → post r u → B u t → H.size ≤ H1.size → (∀ q : Nat, q < H.size → ¬ A1 q → H1[q]? = H[q]?) → va_S A0 H0 H1 locs1 → W p l e R s m args below meth c H1 locs1 (cells + mc) (slots + ms) Q (F0 m (pc + 3) ls (.float r :: rest))) : W p l e R s m args below meth c H locs cells slots Q (F0 m pc ls st0) := by
  intro T hT X
  rcases hr T hT X with ⟨v, st₀, t, T', L, h0, X', hL, e1, e2, ⟨⟨r, u, hv, hp, hb⟩, hF⟩, st⟩ | ⟨q, st₀, t, T', L, E, ce, h0, X', hL, e1, e2, ⟨u, hp, hb, hF⟩, hce, hcv, hcl, st⟩
  · cases hv
    obtain ⟨k1, k2, k3⟩ := vx_keep h0 e1 hS hA hf hL hF
    obtain ⟨t2, a1, b1⟩ := kk r u t T'.heap (locs ++ L) e1.symm (by rw [← e2]; exact X'.warmed.alike) hp hb k1 k2 k3 T' rfl X'
    exact ⟨t2, st t2 a1, b1⟩
  · obtain ⟨k1, k2, k3⟩ := vx_keep h0 e1 hS hAX hf hL hF
    obtain ⟨t2, a1, b1⟩ := kx E ce q u t T'.heap (locs ++ L) e1.symm (by rw [← e2]; exact X'.warmed.alike) hp hb k1 k2 k3 (by rw [e1]; exact hce) hcv hcl T' rfl X'
    exact ⟨t2, st.trans a1, b1⟩
theorem vx_calld {S SX : Type} {post : UInt64 → S → Prop} {px : SX → Prop} {B : S → State → Prop} {BX : String → SX → State → Prop} {AX : Nat → Prop} (hr : vx_Run p l e R s m args below meth c H locs cells slots mc ms (F0 m pc ls st0) rest (va_Qd post B A1 a) (vx_X px BX AX) free) (hS : va_S A0 H0 H locs) (hA : ∀ q, q < H.size → A1 q → A0 q) (hf : ∀ q, free q → A0 q) (hAX : ∀ q, q < H.size → AX q → A0 q)
    (kx : ∀ (E : String) (ce : Cell) (q9 : Addr) (u : SX) (t : State) (H1 : Heap) (locs1 : List Loc), t.heap = H1 → s.vm.Alike t.vm → px u → BX E u t → H.size ≤ H1.size → (∀ q : Nat, q < H.size → ¬ AX q → H1[q]? = H[q]?) → va_S A0 H0 H1 locs1 → H1[q9]? = some ce → ce.vm = .none → s.vm.findClass E = some ce.cls → vx_W p l e R s m args below meth c H1 locs1 (cells + mc) (slots + ms) Q (F0 m pc ls rest) q9)
    (kk : ∀ (r : UInt64) (u : S) (t : State) (H1 : Heap) (locs1 : List Loc), t.heap = H1 → s.vm.Alike t.vm → post r u → B u t → H.size ≤ H1.size → (∀ q : Nat, q < H.size → ¬ A1 q → H1[q]? = H[q]?) → va_S A0 H0 H1 locs1 → W p l e R s m args below meth c H1 locs1 (cells + mc) (slots + ms) Q (F0 m (pc + 3) ls (.double r :: rest))) : W p l e R s m args below meth c H locs cells slots Q (F0 m pc ls st0) := by
  intro T hT X
  rcases hr T hT X with ⟨v, st₀, t, T', L, h0, X', hL, e1, e2, ⟨⟨r, u, hv, hp, hb⟩, hF⟩, st⟩ | ⟨q, st₀, t, T', L, E, ce, h0, X', hL, e1, e2, ⟨u, hp, hb, hF⟩, hce, hcv, hcl, st⟩
  · cases hv
    obtain ⟨k1, k2, k3⟩ := vx_keep h0 e1 hS hA hf hL hF
    obtain ⟨t2, a1, b1⟩ := kk r u t T'.heap (locs ++ L) e1.symm (by rw [← e2]; exact X'.warmed.alike) hp hb k1 k2 k3 T' rfl X'
    exact ⟨t2, st t2 a1, b1⟩
  · obtain ⟨k1, k2, k3⟩ := vx_keep h0 e1 hS hAX hf hL hF
    obtain ⟨t2, a1, b1⟩ := kx E ce q u t T'.heap (locs ++ L) e1.symm (by rw [← e2]; exact X'.warmed.alike) hp hb k1 k2 k3 (by rw [e1]; exact hce) hcv hcl T' rfl X'
    exact ⟨t2, st.trans a1, b1⟩
theorem vx_callv {S SX : Type} {post : S → Prop} {px : SX → Prop} {B : S → State → Prop} {BX : String → SX → State → Prop} {AX : Nat → Prop} (hr : vx_Run p l e R s m args below meth c H locs cells slots mc ms (F0 m pc ls st0) rest (va_Qv post B A1 a) (vx_X px BX AX) free) (hS : va_S A0 H0 H locs) (hA : ∀ q, q < H.size → A1 q → A0 q) (hf : ∀ q, free q → A0 q) (hAX : ∀ q, q < H.size → AX q → A0 q)
    (kx : ∀ (E : String) (ce : Cell) (q9 : Addr) (u : SX) (t : State) (H1 : Heap) (locs1 : List Loc), t.heap = H1 → s.vm.Alike t.vm → px u → BX E u t → H.size ≤ H1.size → (∀ q : Nat, q < H.size → ¬ AX q → H1[q]? = H[q]?) → va_S A0 H0 H1 locs1 → H1[q9]? = some ce → ce.vm = .none → s.vm.findClass E = some ce.cls → vx_W p l e R s m args below meth c H1 locs1 (cells + mc) (slots + ms) Q (F0 m pc ls rest) q9)
    (kk : ∀ (u : S) (t : State) (H1 : Heap) (locs1 : List Loc), t.heap = H1 → s.vm.Alike t.vm → post u → B u t → H.size ≤ H1.size → (∀ q : Nat, q < H.size → ¬ A1 q → H1[q]? = H[q]?) → va_S A0 H0 H1 locs1 → W p l e R s m args below meth c H1 locs1 (cells + mc) (slots + ms) Q (F0 m (pc + 3) ls (rest))) : W p l e R s m args below meth c H locs cells slots Q (F0 m pc ls st0) := by
  intro T hT X
  rcases hr T hT X with ⟨v, st₀, t, T', L, h0, X', hL, e1, e2, ⟨⟨u, hv, hp, hb⟩, hF⟩, st⟩ | ⟨q, st₀, t, T', L, E, ce, h0, X', hL, e1, e2, ⟨u, hp, hb, hF⟩, hce, hcv, hcl, st⟩
  · cases hv
    obtain ⟨k1, k2, k3⟩ := vx_keep h0 e1 hS hA hf hL hF
    obtain ⟨t2, a1, b1⟩ := kk u t T'.heap (locs ++ L) e1.symm (by rw [← e2]; exact X'.warmed.alike) hp hb k1 k2 k3 T' rfl X'
    exact ⟨t2, st t2 a1, b1⟩
  · obtain ⟨k1, k2, k3⟩ := vx_keep h0 e1 hS hAX hf hL hF
    obtain ⟨t2, a1, b1⟩ := kx E ce q u t T'.heap (locs ++ L) e1.symm (by rw [← e2]; exact X'.warmed.alike) hp hb k1 k2 k3 (by rw [e1]; exact hce) hcv hcl T' rfl X'
    exact ⟨t2, st.trans a1, b1⟩
/-- caught by the row x of this method's table; the rows ahead don't take it -/
theorem vx_catch {own name : String} {E : String} {ce : Cell} {q : Addr} (hown : s.vm.findClass own = some m.cls) (pre : List ExceptionTableEntry) (x : ExceptionTableEntry) (suf : List ExceptionTableEntry) (hsplit : c.exceptionTable.toList = pre ++ x :: suf)
    (hpass : ∀ z ∈ pre, covers z pc = false ∨ (z.catchType ≠ 0 ∧ ∃ nm : String, (Cond.classLink own z.catchType nm).before args s = true ∧ va_Nc E nm s)) (hx : covers x pc = true) (h0 : x.catchType ≠ 0)
    (hlink : (Cond.classLink own x.catchType name).before args s = true) (hcast : (Cond.castable E name).before args s = true) (hcell : H[q]? = some ce) (hv : ce.vm = .none) (hcl : s.vm.findClass E = some ce.cls)
    (kk : W p l e R s m args below meth c H locs cells slots Q (F0 m x.handlerPc ls [.ref q])) : vx_W p l e R s m args below meth c H locs cells slots Q (F0 m pc ls rest) q := by
  intro T hT X
  have hpl : e.platform.magicAccessors = ({} : Platform).magicAccessors := by rw [X.admits.platform]
  obtain ⟨c3, c4, hc3, hc4, hasg⟩ := Cond.castable_spec hcast
  cases Option.some.inj (hc3.symm.trans hcl)
  obtain ⟨c5, hc5, hcl5⟩ := Cond.classLink_spec hown hlink e.platform hpl
  cases Option.some.inj (hc4.symm.trans hc5)
  obtain ⟨vm', X', st⟩ := X.thenCaughtThrough q (g := F0 m pc ls rest) rfl (Steps.refl _) (by rw [hT]; exact hcell) (by rw [hv]; rfl) (by obtain ⟨k9, h9, -⟩ := Vm.findClass_spec hcl; exact ⟨k9, h9⟩) pre x suf hsplit
    (fun z hz => by
      rcases hpass z hz with h | ⟨hz0, nm, hl1, hn1⟩
      · exact Or.inl h
      · obtain ⟨c6, hc6, hcl6⟩ := Cond.classLink_spec hown hl1 e.platform hpl
        obtain ⟨a8, b8, h1, h2, h3⟩ := hn1
        cases Option.some.inj (h1.symm.trans hcl)
        cases Option.some.inj (h2.symm.trans hc6)
        exact Or.inr ⟨hz0, _, hcl6, h3⟩) hx (Or.inr ⟨h0, c4, hcl5, hasg⟩)
  obtain ⟨t, a1, b1⟩ := kk (T.setVm vm') hT X'
  exact ⟨t, st.trans a1, b1⟩
end Rows
section Ends
variable {p : Program} {l : Launch} {e : Env} {R : Room} {s : State} {m : MethodId} {args : Array Value} {below : List Frame} {meth : Method} {c : Code} {H : Heap} {locs : List Loc} {cells slots : Nat} {Q : State → Prop}
variable {mc ms : Nat} {free : Addr → Prop} {A0 A1 : Nat → Prop} {H0 : Heap} {a : Array Value} {ls : Array Slot} {st0 rest : List Value}
variable {Qc : Array Value → State → Outcome → State → Prop} {XC : String → State → State → Prop}
/-- what a body that may throw owes at its end -/
def vx_MQ (below : List Frame) (Qc : Array Value → State → Outcome → State → Prop) (XC : String → State → State → Prop) (a : Array Value) (s : State) (mc ms : Nat) (free : Addr → Prop) : State → Prop := fun t =>
  ∃ o, t.status = .running ∧ Ended t below o ∧ vx_Q Qc XC mc ms free a s o t
theorem vx_ret {g : JFrame} {mc ms : Nat} (k : W p l e R s m args below meth c H locs cells slots (MQ below Qc args s mc ms free) g) : W p l e R s m args below meth c H locs cells slots (vx_MQ below Qc XC args s mc ms free) g := by
  intro T hT X
  obtain ⟨t, a1, o, b1, b2, b3, b4⟩ := k T hT X
  exact ⟨t, a1, o, b1, b2, Or.inl ⟨b3, b4⟩⟩
/-- not caught here: it goes on to the caller -/
theorem vx_widen {g : JFrame} {q : Addr} {k n : Nat} (h1 : cells ≤ k) (h2 : slots ≤ n) (kk : vx_W p l e R s m args below meth c H locs k n Q g q) : vx_W p l e R s m args below meth c H locs cells slots Q g q := fun T hT X => kk T hT (stand_widen X h1 h2)
theorem vx_out {pc : Nat} {E : String} {ce : Cell} {q : Addr} {mc ms : Nat} (hout : ∀ x ∈ c.exceptionTable.toList, covers x pc = false) (hlocks : meth.locks = false) (hcell : H[q]? = some ce) (hv : ce.vm = .none) (hcl : s.vm.findClass E = some ce.cls)
    (hx : ∀ t : State, t.heap = H → s.vm.Alike t.vm → XC E s t) (hf : ∀ z ∈ locs, free z.base) (hc : cells ≤ mc) (hs : slots ≤ ms) :
    vx_W p l e R s m args below meth c H locs cells slots (vx_MQ below Qc XC args s mc ms free) (F0 m pc ls rest) q := by
  intro T hT X
  obtain ⟨st1, hrun, hend, hW, hsm⟩ := X.leaveThrown q (g := F0 m pc ls rest) rfl rfl rfl hout hlocks
  have hcell9 : (T.setFrames (.throwing q :: below)).heap[q]? = some ce := by
    show T.heap[q]? = some ce
    rw [hT]; exact hcell
  exact ⟨_, st1, .threw q, hrun, hend, Or.inr ⟨q, rfl, E, ce, locs, hx _ hT hW.alike, hcell9, hv, hcl, hW, hsm.mono hc hs, hf⟩⟩
theorem vx_frame {U : State} {k n : Nat} (h : s.sameButNew ({ U with vm := s.vm } : State) locs k n) : s.heap.size ≤ U.heap.size ∧ ∀ q : Nat, q < s.heap.size → (∀ z ∈ locs, z.base ≠ q) → U.heap[q]? = s.heap[q]? := by
  obtain ⟨-, h2, -, -, -, h6⟩ := h
  refine ⟨h2, fun q hq hz => ?_⟩
  obtain ⟨c9, e1, e2, e3, e4⟩ := h6 q _ (Array.getElem?_eq_getElem hq)
  have hs : c9.slots = (s.heap[q]).slots := Array.ext_getElem? fun i => e4 i fun hm => hz _ hm rfl
  have h9 : c9 = s.heap[q] := by
    rw [hs] at e2
    exact e2
  have e5 : U.heap[q]? = some c9 := e1
  rw [e5, h9, Array.getElem?_eq_getElem hq]
/-- the words of a throw but the four that speak of the heap -/
def vx_no (w : Cond) : Bool := decide (w ≠ .isRef (.static Bundle.tN "UNASSIGNED_STACK" Bundle.steD)) && decide (w ≠ .isRef (.static Bundle.tN "SUPPRESSED_SENTINEL" Bundle.listD)) && decide (w ≠ .laysStatic Bundle.tN "UNASSIGNED_STACK" Bundle.steD) && decide (w ≠ .laysStatic Bundle.tN "SUPPRESSED_SENTINEL" Bundle.listD)
def vx_at0 (own : String) (ic : Nat) (X : String) (names : List String) : List Cond := (Bundle.ownAtoms0 own ic X names).filter vx_no
def vx_atS (own : String) (ic : Nat) (X : String) (names : List String) : List Cond := (Bundle.ownAtoms own ic X names).filter vx_no
/-- a word that the tables alone decide, or a good one -/
def vx_ot (w : Cond) : Bool := w.onTables || goodWord w
theorem vx_ot_at {args a' : Array Value} {s U : State} {w : Cond} (hW : s.WarmedH U.vm) (hvm : s.vm = U.vm) (hg : vx_ot w = true) (h : w.before args s = true) : w.before a' U = true := by
  simp only [vx_ot, Bool.or_eq_true] at hg
  rcases hg with hg | hg
  · exact va_tabs hg hvm h
  · exact word_at hW (good_of_word hg) h
/-- a list's words: the good ones out of the method's own list, the others by premises of their own -/
theorem vx_hat {args : Array Value} {s : State} {L B : List Cond} (h1 : ∀ w ∈ L.filter goodWord, w.before args s = true) (h2 : ∀ w ∈ L.filter (fun w => !goodWord w), w ∈ B) (h3 : ∀ w ∈ B, w.before args s = true) : ∀ w ∈ L, w.before args s = true := by
  intro w hw
  by_cases g : goodWord w = true
  · exact h1 w (List.mem_filter.mpr ⟨hw, g⟩)
  · refine h3 w (h2 w (List.mem_filter.mpr ⟨hw, ?_⟩))
    show (!goodWord w) = true
    cases hgw : goodWord w
    · rfl
    · exact absurd hgw g
theorem vx_c {args : Array Value} {s : State} {w : Cond} {B : List Cond} (h : w.before args s = true) (t : ∀ w ∈ B, w.before args s = true) : ∀ w' ∈ w :: B, w'.before args s = true := fun w' h' => (List.mem_cons.mp h').elim (fun e => by rw [e]; exact h) (t w')
theorem vx_n {args : Array Value} {s : State} : ∀ w ∈ ([] : List Cond), w.before args s = true := fun _ h => nomatch h
theorem vx_own {args : Array Value} {s : State} {L : List Cond} (h1 : ∀ w ∈ L.filter vx_no, w.before args s = true)
    (hU : (Cond.isRef (.static Bundle.tN "UNASSIGNED_STACK" Bundle.steD)).before args s = true) (hN : (Cond.isRef (.static Bundle.tN "SUPPRESSED_SENTINEL" Bundle.listD)).before args s = true)
    (lU : (Cond.laysStatic Bundle.tN "UNASSIGNED_STACK" Bundle.steD).before args s = true) (lN : (Cond.laysStatic Bundle.tN "SUPPRESSED_SENTINEL" Bundle.listD).before args s = true) : ∀ w ∈ L, w.before args s = true := by
  intro w hw
  by_cases e1 : w = .isRef (.static Bundle.tN "UNASSIGNED_STACK" Bundle.steD)
  · rw [e1]; exact hU
  · by_cases e2 : w = .isRef (.static Bundle.tN "SUPPRESSED_SENTINEL" Bundle.listD)
    · rw [e2]; exact hN
    · by_cases e3 : w = .laysStatic Bundle.tN "UNASSIGNED_STACK" Bundle.steD
      · rw [e3]; exact lU
      · by_cases e4 : w = .laysStatic Bundle.tN "SUPPRESSED_SENTINEL" Bundle.listD
        · rw [e4]; exact lN
        · exact h1 w (List.mem_filter.mpr ⟨hw, by unfold vx_no; rw [decide_eq_true e1, decide_eq_true e2, decide_eq_true e3, decide_eq_true e4]; rfl⟩)
/-- where a static field lies, its class's statics cell in H -/
def vx_L (C n d : String) (A : Nat → Prop) (U : State) (H : Heap) : Prop := ∃ (c : ClassId) (k : Class) (i : Nat) (f : Field) (a : Nat) (cell : Cell), U.vm.findClass C = some c ∧ U.fieldFound? C n d = some (c, k, i, f) ∧ f.isStatic = true ∧ k.statics = some a ∧ H[a]? = some cell ∧ cell.vm.isStatics = true ∧ cell.cls = c ∧ f.slot < cell.slots.size ∧ k.staticTypes[f.slot]? = some f.type ∧ ¬ A a
theorem vx_L.moved {C n d : String} {A : Nat → Prop} {u U : State} {H : Heap} (hvm : u.vm.Alike U.vm) (h : vx_L C n d A u H) : vx_L C n d A U H := by
  obtain ⟨c, k, i, f, a, cell, h1, h2, h3, h4, h5, h6, h7, h8, h9, h10⟩ := h
  obtain ⟨k', hi', he⟩ := State.fieldFound?_setVm hvm h2
  exact ⟨c, k', i, f, a, cell, by rw [hvm.findClass]; exact h1, hi', h3, by rw [he]; exact h4, h5, h6, h7, h8, by rw [he]; exact h9, h10⟩
theorem vx_L.kept {C n d : String} {A : Nat → Prop} {U : State} {H H1 : Heap} (h : vx_L C n d A U H) (hq : ∀ a : Nat, a < H.size → ¬ A a → H1[a]? = H[a]?) : vx_L C n d A U H1 := by
  obtain ⟨c, k, i, f, a, cell, h1, h2, h3, h4, h5, h6, h7, h8, h9, h10⟩ := h
  exact ⟨c, k, i, f, a, cell, h1, h2, h3, h4, by rw [hq a (Array.getElem?_eq_some_iff.mp h5).1 h10]; exact h5, h6, h7, h8, h9, h10⟩
theorem vx_L.narrow {C n d : String} {A B : Nat → Prop} {U : State} {H : Heap} (h : vx_L C n d A U H) (hAB : ∀ q, B q → A q) : vx_L C n d B U H := by
  obtain ⟨c, k, i, f, a, cell, h1, h2, h3, h4, h5, h6, h7, h8, h9, h10⟩ := h
  exact ⟨c, k, i, f, a, cell, h1, h2, h3, h4, h5, h6, h7, h8, h9, fun z => h10 (hAB _ z)⟩
theorem vx_L.word {C n d : String} {A : Nat → Prop} {s : State} {args : Array Value} (h : vx_L C n d A s s.heap) : (Cond.laysStatic C n d).before args s = true := by
  obtain ⟨c, k, i, f, a, cell, h1, h2, h3, h4, h5, h6, h7, h8, h9, -⟩ := h
  show (Cond.laysStatic C n d).holds args s none s [] = true
  exact Cond.laysStatic_of h1 h2 h3 h4 h5 h6 h7 h8 h9
/-- .. and what it holds: null or some reference -/
def vx_Zq (C n d : String) (A : Nat → Prop) (U : State) (H : Heap) : Prop := va_Zq C n d A U H ∧ vx_L C n d A U H
theorem vx_Zq.moved {C n d : String} {A : Nat → Prop} {u U : State} {H : Heap} (hvm : u.vm.Alike U.vm) (h : vx_Zq C n d A u H) : vx_Zq C n d A U H := ⟨va_Zq.moved hvm h.1, vx_L.moved hvm h.2⟩
theorem vx_Zq.kept {C n d : String} {A : Nat → Prop} {U : State} {H H1 : Heap} (h : vx_Zq C n d A U H) (hq : ∀ a : Nat, a < H.size → ¬ A a → H1[a]? = H[a]?) : vx_Zq C n d A U H1 := ⟨va_Zq.kept h.1 hq, vx_L.kept h.2 hq⟩
theorem vx_Zq.narrow {C n d : String} {A B : Nat → Prop} {U : State} {H : Heap} (h : vx_Zq C n d A U H) (hAB : ∀ q, B q → A q) : vx_Zq C n d B U H := ⟨va_Zq.narrow h.1 hAB, vx_L.narrow h.2 hAB⟩
theorem vx_Zqof {args : Array Value} {s : State} {C n d : String} {A : Nat → Prop} (hl : (Cond.laysStatic C n d).before args s = true) (hini : (Cond.initialized C).before args s = true) (h : (Cond.isRef (.static C n d)).before args s = true) (hA : ∀ a : Nat, a < s.heap.size → ¬ A a) : vx_Zq C n d A s s.heap := by
  refine ⟨va_Zqof hl hini h hA, ?_⟩
  obtain ⟨c, k, i, f, a, cell, h1, h2, h3, h4, h5, h6, h7, h8, h9⟩ := Cond.laysStatic_spec hl
  exact ⟨c, k, i, f, a, cell, h1, h2, h3, h4, h5, h6, h7, h8, h9, hA a (Array.getElem?_eq_some_iff.mp h5).1⟩
theorem vx_isRef {C n d : String} {v : Value} {A : Nat → Prop} {s : State} {args : Array Value} (h : va_Z C n d v A s s.heap) (hv : v.isRef = true) : (Cond.isRef (.static C n d)).before args s = true := by
  obtain ⟨cf, kf, fi, f, a, cell, h1, h2, h3, h4, h5, h6, h7, -⟩ := h
  have he : (Term.static C n d).eval args s none [] s = some v := by
    simp [Term.eval, State.fieldNamed?, h1, h2, h4, h5, h6, h7]
  simp only [Cond.before, Cond.holds, Cond.value, he]
  cases v <;> simp_all [Value.isRef]
theorem vx_isRefq {C n d : String} {A : Nat → Prop} {s : State} {args : Array Value} (h : va_Zq C n d A s s.heap) : (Cond.isRef (.static C n d)).before args s = true := by
  rcases h with h | ⟨t, h⟩
  · exact vx_isRef h rfl
  · exact vx_isRef h rfl
/-- the same frame, seen from here: as if the method were called anew in this heap -/
theorem vx_rebase {T : State} (X : Stand p l e R s m args below meth c T locs cells slots) {R' : Room} (hf : R'.frames ≤ R.frames) (hl : R'.locals ≤ R.locals) (hc : cells + R'.cells ≤ R.cells) (hs : slots + R'.slots ≤ R.slots) :
    Stand p l e R' ((T.setVm s.vm).setFrames (.invoking m args :: below)) m args below meth c T [] 0 0 := by
  have htop : (T.setVm s.vm).topJava?.isSome := X.here.top
  have hF : ((T.setVm s.vm).setFrames (.invoking m args :: below)).frames = .invoking m args :: below := State.frames_setFrames _ (State.cur_lt_of_top htop)
  obtain ⟨g₀, hg0⟩ := Option.isSome_iff_exists.mp htop
  obtain ⟨r, hr⟩ := State.topJava?_eq_some.mp hg0
  have hl9 : e.platform.stackLimits (T.setVm s.vm).me = e.platform.stackLimits s.me := X.limits
  have hb9 : (T.setVm s.vm).me.stackBytes = s.me.stackBytes := X.bytes
  refine ⟨X.admits, X.cas, X.clock, hF, ?_, X.hears, X.method, X.code, X.here, X.tail, X.warmed, ?_, ?_, ?_⟩
  · have h := X.room
    have hU : ((T.setVm s.vm).setFrames (.invoking m args :: below)).localsInUse = s.localsInUse := by
      rw [State.localsInUse_invoking hF (meth := meth) (c := c) X.method X.code, State.localsInUse_invoking X.frames X.method X.code]
    simp only [State.hasRoom, Bool.and_eq_true, decide_eq_true_eq] at h ⊢
    obtain ⟨⟨⟨⟨h1, h2, h3, h4, h5, h6⟩, h7⟩, h8⟩, h9⟩ := h
    rw [X.frames, List.length_cons] at h2 h3
    have q1 := X.heapSize
    have q2 := X.used
    simp only [hF, hU, List.length_cons, State.stackLimits_setFrames, State.stackBytes_setFrames, hl9, hb9]
    refine ⟨⟨⟨⟨by omega, by omega, by omega, by omega, by omega, h6⟩, ?_⟩, ?_⟩, X.book⟩
    · show T.heap.size + R'.cells ≤ e.platform.maxCells
      omega
    · show T.slotsUsed + R'.slots ≤ e.platform.maxSlots
      omega
  · rw [State.stackLimits_setFrames]; rfl
  · rw [State.stackBytes_setFrames]; rfl
  · refine ⟨?_, Nat.le_refl _, Nat.le_refl _, ?_, ?_, fun a c9 h9 => ⟨c9, h9, rfl, rfl, fun _ _ => rfl⟩⟩
    · obtain ⟨t, ht, -⟩ := State.frames_cons hr
      show T.setVm s.vm = { ((T.setVm s.vm).setFrames (.invoking m args :: below)).setFrames (T.setVm s.vm).frames with heap := T.heap, slotsUsed := T.slotsUsed }
      rw [State.setFrames_setFrames, State.setFrames_self ht]
      rfl
    · show T.slotsUsed = T.slotsUsed + ((T.heap.toList.drop T.heap.size).map (·.slots.size)).sum
      rw [List.drop_eq_nil_of_le (Nat.le_of_eq Array.length_toList)]
      rfl
    · show ((T.heap.toList.drop T.heap.size).map (·.slots.size)).sum ≤ 0
      rw [List.drop_eq_nil_of_le (Nat.le_of_eq Array.length_toList)]
      exact Nat.le_refl _
/-- 'throw new E()': new; dup; invokespecial; athrow -/
theorem vx_throw0 {cc : ByteArray} {pc : Nat} (hexec : p.tables.exec = Jvm.exec) (hb : c.code = cc) (hl : l.stackTraces = false) {own cls : String} {names : List String} {ik ic mc ms : Nat} {A : Nat → Prop}
    (hown : s.vm.findClass own = some m.cls) (hcls : Bundle.fit cls = true) (hnames : ∀ n ∈ names, Bundle.fit n = true)
    (hk : (Cond.classLink own ik cls).before args s = true) (hini : (Cond.initialized cls).before args s = true) (hat : ∀ w ∈ vx_at0 own ic cls names, w.before args s = true)
    (hgood : ∀ w ∈ Cond.classLink own ik cls :: Cond.initialized cls :: vx_at0 own ic cls names, vx_ot w = true)
    (hU : vx_Zq Bundle.tN "UNASSIGNED_STACK" Bundle.steD A s s.heap) (hN : vx_Zq Bundle.tN "SUPPRESSED_SENTINEL" Bundle.listD A s s.heap) (hS : va_S A s.heap H locs) (hsize : ls.size = c.maxLocals)
    (d0 : decode cc pc = .ok (.new ik, 3)) (d3 : decode cc (pc + 3) = .ok (.dup, 1)) (d4 : decode cc (pc + 4) = .ok (.invokespecial ic, 3)) (d7 : decode cc (pc + 7) = .ok (.athrow, 1))
    (hout : ∀ x ∈ c.exceptionTable.toList, covers x (pc + 7) = false)
    (hRframes : names.length + 3 < R.frames) (hRlocals : (rest.map fun v => v.category).sum + (13 * (names.length + 1) + 42) ≤ R.locals) (hRcells : cells + 1 ≤ R.cells) (hRslots : slots + 6 ≤ R.slots) (hlocks : meth.locks = false)
    (hx : ∀ t : State, s.vm.Alike t.vm → H.size ≤ t.heap.size → (∀ q : Nat, q < H.size → t.heap[q]? = H[q]?) → XC cls s t)
    (hf : ∀ z ∈ locs, free z.base) (hc : cells + 1 ≤ mc) (hs : slots + 6 ≤ ms) :
    W p l e R s m args below meth c H locs cells slots (vx_MQ below Qc XC args s mc ms free) (F0 m pc ls rest) := by
  intro T hT X
  have htr : e.platform.stackTraces = false := (show e.platform.stackTraces = l.stackTraces by rw [X.admits.platform]).trans hl
  have Y := vx_rebase X (R' := { frames := R.frames, locals := R.locals, cells := 1, slots := 6 }) (Nat.le_refl _) (Nat.le_refl _) hRcells hRslots
  obtain ⟨s', hA⟩ : ∃ z, z = (T.setVm s.vm).setFrames (.invoking m args :: below) := ⟨_, rfl⟩
  rw [← hA] at Y
  have hvm : s'.vm = s.vm := by rw [hA]; rfl
  have hhp : s'.heap = H := by rw [hA]; exact hT
  have hW0 : s.WarmedH s'.vm := by rw [hvm]; exact State.WarmedH.refl s
  have hat' : ∀ w ∈ vx_at0 own ic cls names, w.before args s' = true := fun w hw => vx_ot_at hW0 hvm.symm (hgood w (List.mem_cons_of_mem _ (List.mem_cons_of_mem _ hw))) (hat w hw)
  have hk' : (Cond.classLink own ik cls).before args s' = true := vx_ot_at hW0 hvm.symm (hgood _ List.mem_cons_self) hk
  have hini' : (Cond.initialized cls).before args s' = true := vx_ot_at hW0 hvm.symm (hgood _ (List.mem_cons_of_mem _ List.mem_cons_self)) hini
  have hU' : vx_Zq Bundle.tN "UNASSIGNED_STACK" Bundle.steD A s' s'.heap := by rw [hhp]; exact vx_Zq.moved hW0.alike (hU.kept hS.2.1)
  have hN' : vx_Zq Bundle.tN "SUPPRESSED_SENTINEL" Bundle.listD A s' s'.heap := by rw [hhp]; exact vx_Zq.moved hW0.alike (hN.kept hS.2.1)
  have h : ∀ w ∈ Bundle.ownAtoms0 own ic cls names, w.before args s' = true := vx_own hat' (vx_isRefq hU'.1) (vx_isRefq hN'.1) hU'.2.word hN'.2.word
  have hown' : s'.vm.findClass own = some m.cls := by rw [hvm]; exact hown
  have hins : (Cond.instantiable cls 6).before args s' = true := h _ (by simp [Bundle.ownAtoms0])
  obtain ⟨vm₁, cX, kX, hfX, hkX, -, -, X₁, st1⟩ := Y.newCold hexec (own := own) (C := cls) (index := ik) (n := 6) hown' hk' hins hini'
    (g := F0 m pc ls rest) rfl (by rw [hb]; exact d0) (Nat.le_refl _) (Nat.le_refl _)
  generalize hT1 : (T.setVm vm₁).pushCell { cls := cX, slots := kX.instanceTypes.map defaultValue, vm := .none } = T1 at X₁ st1
  have hcat : (Value.ref T.heap.size).category = 1 := rfl
  have hcellA : T1.heap[T.heap.size]? = some (freshCell cX kX) := by rw [← hT1]; exact State.heap_pushCell_size _ _
  have d3' : decode c.code (pc + 3) = .ok (.dup, 1) := by rw [hb]; exact d3
  obtain ⟨U, hsteps, hrun, hend, hW, hsame, ce, hce, hO⟩ := X₁.ctorThrow0 hexec htr (own := own) (cls := cls) (names := names) (ic := ic) hown' hcls hnames h (fun x hx => nomatch hx) hfX hkX hcellA (by rw [hhp, hT]; exact Nat.le_refl _)
    (g := { method := m, pc := pc + 4, locals := ls, stack := .ref T.heap.size :: .ref T.heap.size :: rest, locked := none }) rfl hsize rfl rfl (rest := rest) rfl
    (by rw [hb]; exact d4) (by rw [hb]; exact d7) hout hRframes (by simp only [List.map_cons, List.sum_cons, hcat]; omega) hlocks
  obtain ⟨f1, f2⟩ := vx_frame hsame
  rw [hhp] at f1 f2
  have hWs : s.WarmedH U.vm := State.WarmedH.trans hW0 hW
  have hcl : s.vm.findClass cls = some ce.cls := by
    have h9 := hO.cls
    rw [hvm] at h9
    exact h9
  have hall : s.sameButNew ({ U with vm := s.vm } : State) locs mc ms := by
    subst hA
    obtain ⟨e1, e2⟩ := hsame
    rw [State.setFrames_setFrames] at e1
    have h2 : (T.setVm s.vm).sameButNew ({ U with vm := s.vm } : State) [] (0 + 1) (0 + 6) := ⟨e1, e2⟩
    have h3 := X.same.trans h2
    rw [List.append_nil] at h3
    exact h3.mono hc hs
  refine ⟨U, ?_, .threw T.heap.size, hrun, hend, Or.inr ⟨T.heap.size, rfl, cls, ce, locs, hx U hWs.alike f1 (fun q hq => f2 q hq (fun z hz => nomatch hz)), hce, hO.vm, hcl, hWs, hall, hf⟩⟩
  refine st1 _ ?_
  show Steps p.tables e below (T1.setTop { method := m, pc := pc + 3, locals := ls, stack := .ref T.heap.size :: rest, locked := none }) _
  jvm_step X₁.here [X₁.here.top, hexec, d3', Value.category]
  exact hsteps
/-- 'throw new E("text")': new; dup; ldc; invokespecial; athrow -/
theorem vx_throwS {cc : ByteArray} {pc : Nat} (hexec : p.tables.exec = Jvm.exec) (hb : c.code = cc) (hl : l.stackTraces = false) {own cls text : String} {names : List String} {ik is ic mc ms sa : Nat} {A : Nat → Prop}
    (hown : s.vm.findClass own = some m.cls) (hcls : Bundle.fit cls = true) (hnames : ∀ n ∈ names, Bundle.fit n = true)
    (hk : (Cond.classLink own ik cls).before args s = true) (hini : (Cond.initialized cls).before args s = true) (hstr : vk_R own is text sa s) (hat : ∀ w ∈ vx_atS own ic cls names, w.before args s = true)
    (hgood : ∀ w ∈ Cond.classLink own ik cls :: Cond.initialized cls :: vx_atS own ic cls names, vx_ot w = true)
    (hU : vx_Zq Bundle.tN "UNASSIGNED_STACK" Bundle.steD A s s.heap) (hN : vx_Zq Bundle.tN "SUPPRESSED_SENTINEL" Bundle.listD A s s.heap) (hS : va_S A s.heap H locs) (hsize : ls.size = c.maxLocals)
    (d0 : decode cc pc = .ok (.new ik, 3)) (d3 : decode cc (pc + 3) = .ok (.dup, 1)) (d4 : decode cc (pc + 4) = .ok (.ldc is, 2)) (d6 : decode cc (pc + 6) = .ok (.invokespecial ic, 3)) (d9 : decode cc (pc + 9) = .ok (.athrow, 1))
    (hout : ∀ x ∈ c.exceptionTable.toList, covers x (pc + 9) = false)
    (hRframes : names.length + 3 < R.frames) (hRlocals : (rest.map fun v => v.category).sum + (13 * (names.length + 1) + 43) ≤ R.locals) (hRcells : cells + 1 ≤ R.cells) (hRslots : slots + 6 ≤ R.slots) (hlocks : meth.locks = false)
    (hx : ∀ t : State, s.vm.Alike t.vm → H.size ≤ t.heap.size → (∀ q : Nat, q < H.size → t.heap[q]? = H[q]?) → XC cls s t)
    (hf : ∀ z ∈ locs, free z.base) (hc : cells + 1 ≤ mc) (hs : slots + 6 ≤ ms) :
    W p l e R s m args below meth c H locs cells slots (vx_MQ below Qc XC args s mc ms free) (F0 m pc ls rest) := by
  intro T hT X
  have htr : e.platform.stackTraces = false := (show e.platform.stackTraces = l.stackTraces by rw [X.admits.platform]).trans hl
  have Y := vx_rebase X (R' := { frames := R.frames, locals := R.locals, cells := 1, slots := 6 }) (Nat.le_refl _) (Nat.le_refl _) hRcells hRslots
  obtain ⟨s', hA⟩ : ∃ z, z = (T.setVm s.vm).setFrames (.invoking m args :: below) := ⟨_, rfl⟩
  rw [← hA] at Y
  have hvm : s'.vm = s.vm := by rw [hA]; rfl
  have hhp : s'.heap = H := by rw [hA]; exact hT
  have hW0 : s.WarmedH s'.vm := by rw [hvm]; exact State.WarmedH.refl s
  have hat' : ∀ w ∈ vx_atS own ic cls names, w.before args s' = true := fun w hw => vx_ot_at hW0 hvm.symm (hgood w (List.mem_cons_of_mem _ (List.mem_cons_of_mem _ hw))) (hat w hw)
  have hk' : (Cond.classLink own ik cls).before args s' = true := vx_ot_at hW0 hvm.symm (hgood _ List.mem_cons_self) hk
  have hini' : (Cond.initialized cls).before args s' = true := vx_ot_at hW0 hvm.symm (hgood _ (List.mem_cons_of_mem _ List.mem_cons_self)) hini
  have hU' : vx_Zq Bundle.tN "UNASSIGNED_STACK" Bundle.steD A s' s'.heap := by rw [hhp]; exact vx_Zq.moved hW0.alike (hU.kept hS.2.1)
  have hN' : vx_Zq Bundle.tN "SUPPRESSED_SENTINEL" Bundle.listD A s' s'.heap := by rw [hhp]; exact vx_Zq.moved hW0.alike (hN.kept hS.2.1)
  have h : ∀ w ∈ Bundle.ownAtoms own ic cls names, w.before args s' = true := vx_own hat' (vx_isRefq hU'.1) (vx_isRefq hN'.1) hU'.2.word hN'.2.word
  have hown' : s'.vm.findClass own = some m.cls := by rw [hvm]; exact hown
  have hins : (Cond.instantiable cls 6).before args s' = true := h _ (by simp [Bundle.ownAtoms])
  obtain ⟨vm₁, cX, kX, hfX, hkX, -, -, X₁, st1⟩ := Y.newCold hexec (own := own) (C := cls) (index := ik) (n := 6) hown' hk' hins hini'
    (g := F0 m pc ls rest) rfl (by rw [hb]; exact d0) (Nat.le_refl _) (Nat.le_refl _)
  generalize hT1 : (T.setVm vm₁).pushCell { cls := cX, slots := kX.instanceTypes.map defaultValue, vm := .none } = T1 at X₁ st1
  have hcat : (Value.ref T.heap.size).category = 1 := rfl
  have hcellA : T1.heap[T.heap.size]? = some (freshCell cX kX) := by rw [← hT1]; exact State.heap_pushCell_size _ _
  have d3' : decode c.code (pc + 3) = .ok (.dup, 1) := by rw [hb]; exact d3
  have d4' : decode c.code (pc + 4) = .ok (.ldc is, 2) := by rw [hb]; exact d4
  have hstr' : vk_R own is text sa s' := vk_R.warm hW0 hstr
  obtain ⟨U, hsteps, hrun, hend, hW, hsame, ce, hce, hO⟩ := X₁.ctorThrowS hexec htr (own := own) (cls := cls) (names := names) (ic := ic) hown' hcls hnames h (fun x hx => nomatch hx) hfX hkX hcellA (by rw [hhp, hT]; exact Nat.le_refl _) (msg := .ref sa) rfl
    (g := { method := m, pc := pc + 6, locals := ls, stack := .ref sa :: .ref T.heap.size :: .ref T.heap.size :: rest, locked := none }) rfl hsize rfl rfl (rest := rest) rfl
    (by rw [hb]; exact d6) (by rw [hb]; exact d9) hout hRframes (by simp only [List.map_cons, List.sum_cons, hcat]; omega) hlocks
  obtain ⟨f1, f2⟩ := vx_frame hsame
  rw [hhp] at f1 f2
  have hWs : s.WarmedH U.vm := State.WarmedH.trans hW0 hW
  have hcl : s.vm.findClass cls = some ce.cls := by
    have h9 := hO.cls
    rw [hvm] at h9
    exact h9
  have hall : s.sameButNew ({ U with vm := s.vm } : State) locs mc ms := by
    subst hA
    obtain ⟨e1, e2⟩ := hsame
    rw [State.setFrames_setFrames] at e1
    have h2 : (T.setVm s.vm).sameButNew ({ U with vm := s.vm } : State) [] (0 + 1) (0 + 6) := ⟨e1, e2⟩
    have h3 := X.same.trans h2
    rw [List.append_nil] at h3
    exact h3.mono hc hs
  refine ⟨U, ?_, .threw T.heap.size, hrun, hend, Or.inr ⟨T.heap.size, rfl, cls, ce, locs, hx U hWs.alike f1 (fun q hq => f2 q hq (fun z hz => nomatch hz)), hce, hO.vm, hcl, hWs, hall, hf⟩⟩
  refine st1 _ ?_
  show Steps p.tables e below (T1.setTop { method := m, pc := pc + 3, locals := ls, stack := .ref T.heap.size :: rest, locked := none }) _
  jvm_step X₁.here [X₁.here.top, hexec, d3', Value.category]
  exact X₁.ldcString hexec (own := own) (text := text) (index := is) (a := sa) hown' hstr'.1 hstr'.2
    (g := { method := m, pc := pc + 4, locals := ls, stack := .ref T.heap.size :: .ref T.heap.size :: rest, locked := none }) rfl d4' _ hsteps
/-- 'throw new E("text")', the text by a wide index -/
theorem vx_throwSW {cc : ByteArray} {pc : Nat} (hexec : p.tables.exec = Jvm.exec) (hb : c.code = cc) (hl : l.stackTraces = false) {own cls text : String} {names : List String} {ik is ic mc ms sa : Nat} {A : Nat → Prop}
    (hown : s.vm.findClass own = some m.cls) (hcls : Bundle.fit cls = true) (hnames : ∀ n ∈ names, Bundle.fit n = true)
    (hk : (Cond.classLink own ik cls).before args s = true) (hini : (Cond.initialized cls).before args s = true) (hstr : vk_R own is text sa s) (hat : ∀ w ∈ vx_atS own ic cls names, w.before args s = true)
    (hgood : ∀ w ∈ Cond.classLink own ik cls :: Cond.initialized cls :: vx_atS own ic cls names, vx_ot w = true)
    (hU : vx_Zq Bundle.tN "UNASSIGNED_STACK" Bundle.steD A s s.heap) (hN : vx_Zq Bundle.tN "SUPPRESSED_SENTINEL" Bundle.listD A s s.heap) (hS : va_S A s.heap H locs) (hsize : ls.size = c.maxLocals)
    (d0 : decode cc pc = .ok (.new ik, 3)) (d3 : decode cc (pc + 3) = .ok (.dup, 1)) (d4 : decode cc (pc + 4) = .ok (.ldc_w is, 3)) (d7 : decode cc (pc + 7) = .ok (.invokespecial ic, 3)) (d10 : decode cc (pc + 10) = .ok (.athrow, 1))
    (hout : ∀ x ∈ c.exceptionTable.toList, covers x (pc + 10) = false)
    (hRframes : names.length + 3 < R.frames) (hRlocals : (rest.map fun v => v.category).sum + (13 * (names.length + 1) + 43) ≤ R.locals) (hRcells : cells + 1 ≤ R.cells) (hRslots : slots + 6 ≤ R.slots) (hlocks : meth.locks = false)
    (hx : ∀ t : State, s.vm.Alike t.vm → H.size ≤ t.heap.size → (∀ q : Nat, q < H.size → t.heap[q]? = H[q]?) → XC cls s t)
    (hf : ∀ z ∈ locs, free z.base) (hc : cells + 1 ≤ mc) (hs : slots + 6 ≤ ms) :
    W p l e R s m args below meth c H locs cells slots (vx_MQ below Qc XC args s mc ms free) (F0 m pc ls rest) := by
  intro T hT X
  have htr : e.platform.stackTraces = false := (show e.platform.stackTraces = l.stackTraces by rw [X.admits.platform]).trans hl
  have Y := vx_rebase X (R' := { frames := R.frames, locals := R.locals, cells := 1, slots := 6 }) (Nat.le_refl _) (Nat.le_refl _) hRcells hRslots
  obtain ⟨s', hA⟩ : ∃ z, z = (T.setVm s.vm).setFrames (.invoking m args :: below) := ⟨_, rfl⟩
  rw [← hA] at Y
  have hvm : s'.vm = s.vm := by rw [hA]; rfl
  have hhp : s'.heap = H := by rw [hA]; exact hT
  have hW0 : s.WarmedH s'.vm := by rw [hvm]; exact State.WarmedH.refl s
  have hat' : ∀ w ∈ vx_atS own ic cls names, w.before args s' = true := fun w hw => vx_ot_at hW0 hvm.symm (hgood w (List.mem_cons_of_mem _ (List.mem_cons_of_mem _ hw))) (hat w hw)
  have hk' : (Cond.classLink own ik cls).before args s' = true := vx_ot_at hW0 hvm.symm (hgood _ List.mem_cons_self) hk
  have hini' : (Cond.initialized cls).before args s' = true := vx_ot_at hW0 hvm.symm (hgood _ (List.mem_cons_of_mem _ List.mem_cons_self)) hini
  have hU' : vx_Zq Bundle.tN "UNASSIGNED_STACK" Bundle.steD A s' s'.heap := by rw [hhp]; exact vx_Zq.moved hW0.alike (hU.kept hS.2.1)
  have hN' : vx_Zq Bundle.tN "SUPPRESSED_SENTINEL" Bundle.listD A s' s'.heap := by rw [hhp]; exact vx_Zq.moved hW0.alike (hN.kept hS.2.1)
  have h : ∀ w ∈ Bundle.ownAtoms own ic cls names, w.before args s' = true := vx_own hat' (vx_isRefq hU'.1) (vx_isRefq hN'.1) hU'.2.word hN'.2.word
  have hown' : s'.vm.findClass own = some m.cls := by rw [hvm]; exact hown
  have hins : (Cond.instantiable cls 6).before args s' = true := h _ (by simp [Bundle.ownAtoms])
  obtain ⟨vm₁, cX, kX, hfX, hkX, -, -, X₁, st1⟩ := Y.newCold hexec (own := own) (C := cls) (index := ik) (n := 6) hown' hk' hins hini'
    (g := F0 m pc ls rest) rfl (by rw [hb]; exact d0) (Nat.le_refl _) (Nat.le_refl _)
  generalize hT1 : (T.setVm vm₁).pushCell { cls := cX, slots := kX.instanceTypes.map defaultValue, vm := .none } = T1 at X₁ st1
  have hcat : (Value.ref T.heap.size).category = 1 := rfl
  have hcellA : T1.heap[T.heap.size]? = some (freshCell cX kX) := by rw [← hT1]; exact State.heap_pushCell_size _ _
  have d3' : decode c.code (pc + 3) = .ok (.dup, 1) := by rw [hb]; exact d3
  have d4' : decode c.code (pc + 4) = .ok (.ldc_w is, 3) := by rw [hb]; exact d4
  have hstr' : vk_R own is text sa s' := vk_R.warm hW0 hstr
  obtain ⟨U, hsteps, hrun, hend, hW, hsame, ce, hce, hO⟩ := X₁.ctorThrowS hexec htr (own := own) (cls := cls) (names := names) (ic := ic) hown' hcls hnames h (fun x hx => nomatch hx) hfX hkX hcellA (by rw [hhp, hT]; exact Nat.le_refl _) (msg := .ref sa) rfl
    (g := { method := m, pc := pc + 7, locals := ls, stack := .ref sa :: .ref T.heap.size :: .ref T.heap.size :: rest, locked := none }) rfl hsize rfl rfl (rest := rest) rfl
    (by rw [hb]; exact d7) (by rw [hb]; exact d10) hout hRframes (by simp only [List.map_cons, List.sum_cons, hcat]; omega) hlocks
  obtain ⟨f1, f2⟩ := vx_frame hsame
  rw [hhp] at f1 f2
  have hWs : s.WarmedH U.vm := State.WarmedH.trans hW0 hW
  have hcl : s.vm.findClass cls = some ce.cls := by
    have h9 := hO.cls
    rw [hvm] at h9
    exact h9
  have hall : s.sameButNew ({ U with vm := s.vm } : State) locs mc ms := by
    subst hA
    obtain ⟨e1, e2⟩ := hsame
    rw [State.setFrames_setFrames] at e1
    have h2 : (T.setVm s.vm).sameButNew ({ U with vm := s.vm } : State) [] (0 + 1) (0 + 6) := ⟨e1, e2⟩
    have h3 := X.same.trans h2
    rw [List.append_nil] at h3
    exact h3.mono hc hs
  refine ⟨U, ?_, .threw T.heap.size, hrun, hend, Or.inr ⟨T.heap.size, rfl, cls, ce, locs, hx U hWs.alike f1 (fun q hq => f2 q hq (fun z hz => nomatch hz)), hce, hO.vm, hcl, hWs, hall, hf⟩⟩
  refine st1 _ ?_
  show Steps p.tables e below (T1.setTop { method := m, pc := pc + 3, locals := ls, stack := .ref T.heap.size :: rest, locked := none }) _
  jvm_step X₁.here [X₁.here.top, hexec, d3', Value.category]
  exact X₁.ldcStringW hexec (own := own) (text := text) (index := is) (a := sa) hown' hstr'.1 hstr'.2
    (g := { method := m, pc := pc + 4, locals := ls, stack := .ref T.heap.size :: .ref T.heap.size :: rest, locked := none }) rfl d4' _ hsteps
end Ends
section Bodies
variable {l : Launch}
theorem vx_ofW {y : MethodName} {ws ws' : List Cond} {rm : Room} {Pc : Array Value → State → Prop} {Qc : Array Value → State → Outcome → State → Prop} {XC : String → State → State → Prop} {mc ms : Nat} {free : Addr → Prop} {cc : ByteArray} {maxL : Nat} {ret : Option FieldType}
    (hy : plainName y.cls = true) (hw : ws = Cond.code y cc maxL ret :: ws')
    (body : ∀ p e s m args below meth c s₁, BodyLoose p l y (headSpec ws rm) cc maxL ret e s m args below meth c s₁ → c.maxLocals = maxL → (∀ x ∈ c.exceptionTable.toList, False) → Pc args s →
      W p l e (headSpec ws rm).room s m args below meth c s.heap [] 0 0 (vx_MQ below Qc XC args s mc ms free) (entryFrame m args maxL)) : vx_Met l y ws rm Pc Qc XC mc ms free := by
  refine MetFree.of_bodyS (code := cc) (maxLocals := maxL) (ret := ret) hy ?_ ?_
  · intro args s m h hn
    obtain ⟨meth, c, h1, h2, h3, h4, h5, h6, -, -⟩ := Cond.code_spec hn (atoms_spec (ws := ws) h _ (by rw [hw]; exact List.mem_cons_self))
    exact ⟨meth, c, h1, h2, h3, h4, h5, h6⟩
  · intro p e s m args below meth c s₁ B hml hP _
    have hh0 : s₁.heap = s.heap := by rw [B.state]; rfl
    have ht : ∀ x ∈ c.exceptionTable.toList, False := by
      obtain ⟨meth9, c9, h1, h2, -, -, -, -, h7, -⟩ := Cond.code_spec B.named (atoms_spec (ws := ws) B.pre _ (by rw [hw]; exact List.mem_cons_self))
      cases Option.some.inj (h1.symm.trans B.method)
      cases Option.some.inj (h2.symm.trans (Stand.of_body B).code)
      intro x hx
      rw [Array.isEmpty_iff.mp h7] at hx
      cases hx
    obtain ⟨t, a1, o, b1, b2, b3⟩ := body p e s m args below meth c s₁ B hml ht hP s₁ hh0 (Stand.of_body B)
    exact ⟨t, o, a1, b1, b2, b3⟩
/-- the table of a body with handlers -/
theorem vx_table {p : Program} {x y : MethodName} {S : Spec} {cc bytes : ByteArray} {maxL maxL' : Nat} {ret ret' : Option FieldType} {e : Env} {s s₁ : State} {m : MethodId} {args : Array Value} {below : List Frame} {meth : Method} {c : Code} {hh : List (Nat × Nat × Nat × Nat)}
    (B : BodyLoose p l y S cc maxL ret e s m args below meth c s₁) (h : (Cond.codeWith y bytes maxL' ret' hh).before args s = true) : c.exceptionTable.toList = tableOf hh := by
  obtain ⟨m9, meth9, c9, hn9, h1, h2, -, -, h6, -⟩ := Cond.codeWith_spec h
  cases Option.some.inj (hn9.symm.trans B.named)
  cases Option.some.inj (h1.symm.trans B.method)
  cases Option.some.inj (h2.symm.trans (Stand.of_body B).code)
  rw [← h6, table_eq]
end Bodies
end VXA
/-! ===== END ===== -/
/-! ===== BEGIN a static call of a method with an exception table ===== -/
section VXS
variable {p : Program} {l : Launch} {e : Env} {R : Room} {s : State} {m : MethodId} {args : Array Value} {below : List Frame} {meth : Method} {c : Code} {T : State} {H : Heap} {locs : List Loc} {cells slots : Nat}
abbrev vx_CSW (R : Room) (s : State) (args : Array Value) (own : String) (index : Nat) (y : MethodName) (bytes : ByteArray) (maxL : Nat) (ret : Option FieldType) (hh : List (Nat × Nat × Nat × Nat)) (ws : List Cond) (rm : Room) (mc ms n : Nat) : Prop :=
  (rm.cells = mc ∧ rm.slots = ms ∧ rm.frames + 1 ≤ R.frames ∧ 8 + (maxL + 11) + rm.locals ≤ R.locals ∧ (∀ w ∈ ws, ∀ (a' : Array Value) (U : State), s.WarmedH U.vm → w.before a' U = true) ∧ Cond.codeWith y bytes maxL ret hh ∈ ws) ∧
  (Cond.codeWith y bytes maxL ret hh).before args s = true ∧ (Cond.initialized y.cls).before args s = true ∧ (y.cls ≠ "java/lang/invoke/MethodHandle" ∧ y.cls ≠ "java/lang/invoke/VarHandle") ∧
  (∀ sig, parseMethodDescriptor y.desc = some sig → n = sig.parameters.length) ∧ (Cond.methodLink own index y).before args s = true ∧ (Cond.static y).before args s = true
theorem vx_cwSW {own : String} {index maxL mc ms : Nat} {y : MethodName} {bytes : ByteArray} {ret : Option FieldType} {hh : List (Nat × Nat × Nat × Nat)} {Ts ws ws' : List Cond} {rm : Room} (n : Nat) (ht : ∀ w ∈ Ts, w.before args s = true) (hT : GoodIn Ts (va_wsS own index y ws)) (hw : ws = Cond.codeWith y bytes maxL ret hh :: ws') (hrc : rm.cells = mc) (hrs : rm.slots = ms)
    (hd : y.cls ≠ "java/lang/invoke/MethodHandle" ∧ y.cls ≠ "java/lang/invoke/VarHandle" ∧ (parseMethodDescriptor y.desc).map (fun d => d.parameters.length) = some n) (hR : rm.frames + 1 ≤ R.frames ∧ 8 + (maxL + 11) + rm.locals ≤ R.locals) :
    vx_CSW R s args own index y bytes maxL ret hh ws rm mc ms n := by
  have ok : ∀ w ∈ va_wsS own index y ws, w.before args s = true := fun w h => ht w (hT w h).1
  have hG : GoodIn Ts ws := fun w h => hT w (by unfold va_wsS; exact List.mem_append_right _ h)
  have hc : Cond.codeWith y bytes maxL ret hh ∈ ws := by rw [hw]; exact List.mem_cons_self
  refine ⟨⟨hrc, hrs, hR.1, hR.2, pay_in ht hG, hc⟩, ht _ (hG _ hc).1, ok _ (by simp [va_wsS]), ⟨hd.1, hd.2.1⟩, fun sig h => ?_, ok _ (by simp [va_wsS]), ok _ (by simp [va_wsS])⟩
  have h2 := hd.2.2
  rw [h] at h2
  exact (Option.some.inj h2).symm
theorem vx_callSW (X : Stand p l e R s m args below meth c T locs cells slots) (hexec : p.tables.exec = Jvm.exec) {own : String} {index : Nat} {y : MethodName} {bytes : ByteArray} {maxL : Nat} {ret : Option FieldType} {hh : List (Nat × Nat × Nat × Nat)}
    (hown : s.vm.findClass own = some m.cls) (hlink : (Cond.methodLink own index y).before args s = true) (hstat : (Cond.static y).before args s = true) (hinit : (Cond.initialized y.cls).before args s = true)
    (hcode : (Cond.codeWith y bytes maxL ret hh).before args s = true) (hy : y.cls ≠ "java/lang/invoke/MethodHandle" ∧ y.cls ≠ "java/lang/invoke/VarHandle")
    {W9 : Nat} {Pre : Pt → Array Value → Prop} {Post : Pt → Array Value → Option Value → Pt → Prop} (hK : Back l R p e below s args y 3 W9 Pre Post)
    {g : JFrame} (hg : g.method = m) (hsize : g.locals.size = c.maxLocals) {argsL rest : List Value} (hlen : ∀ sig, parseMethodDescriptor y.desc = some sig → argsL.length = sig.parameters.length)
    (hstack : g.stack = argsL.reverse ++ rest) (hW : 2 * g.monitorRoom + (rest.map fun v => v.category).sum ≤ W9) (hdg : decode c.code g.pc = .ok (.invokestatic index, 3))
    (hpre : ∀ vm₁, s.WarmedH vm₁ → Pre ⟨T.setVm vm₁, locs, cells, slots⟩ argsL.toArray) :
    ∃ (v : Option Value) (vm₁ : Vm) (B : Pt), s.WarmedH vm₁ ∧ Stand p l e R s m args below meth c B.U B.locs B.cells B.slots ∧ Post ⟨T.setVm vm₁, locs, cells, slots⟩ argsL.toArray v B ∧
      ∀ target, Steps p.tables e below (B.U.setTop { g with pc := g.pc + 3, stack := v.toList ++ rest }) target → Steps p.tables e below (T.setTop g) target := by
  obtain ⟨mk, methM, cM, hnamed, hmethM, -, -, -, -, -, -, hsigM⟩ := Cond.codeWith_spec hcode
  have hstatic : methM.isStatic = true := Cond.static_spec hnamed hmethM hstat
  obtain ⟨kP, hkP, -⟩ := className_of_methodNamed hnamed
  have hinitP : kP.init = .initialized := Cond.initialized_spec (findClass_of_methodNamed hnamed) hkP hinit
  obtain ⟨vm₁, X₁, hstep₁⟩ := X.invokestatic hexec hown hlink hnamed hmethM hstatic hkP hinitP hy (g := g) hg (argsL := argsL) (rest := rest) (hlen _ hsigM) hstack hdg
  obtain ⟨v, B, X', hpost, hsteps⟩ := hK m meth c ⟨T.setVm vm₁, locs, cells, slots⟩ { g with stack := rest } (.invokestatic index) mk argsL.toArray X₁ hg hsize hdg hW (X₁.named hnamed) (hpre vm₁ X₁.warmed)
  exact ⟨v, vm₁, B, X₁.warmed, X', hpost, fun target h => hstep₁ _ fun acts => by rw [doInvoke_state]; exact hsteps.trans h⟩
theorem vx_runSW {y : MethodName} {bytes cc : ByteArray} {maxL nL mc ms n index : Nat} {ret : Option FieldType} {hh : List (Nat × Nat × Nat × Nat)} {ws : List Cond} {rm : Room} {Pc : Array Value → State → Prop} {Qc : Array Value → State → Outcome → State → Prop} {free : Addr → Prop} {Ts : List Cond} {own : String} {As rest : List Value} {g : JFrame}
    (S : CallFix p m c cc nL s args Ts own) (hM : Met l y ws rm Pc Qc mc ms free) (cw : vx_CSW R s args own index y bytes maxL ret hh ws rm mc ms n) (hp : PreS s H Pc As)
    (hg : g.method = m) (hn : As.length = n) (hsize : g.locals.size = nL) (hstack : g.stack = As.reverse ++ rest) (hW : 2 * g.monitorRoom + (rest.map fun v => v.category).sum ≤ 8) (hdg : decode cc g.pc = .ok (.invokestatic index, 3)) (hf : cells + mc ≤ R.cells ∧ slots + ms ≤ R.slots) :
    va_Run p l e R s m args below meth c H locs cells slots mc ms g rest (Qc As.toArray) (free) := by
  obtain ⟨⟨hrc, hrs, hfr, hlo, hws, hcw⟩, hcode, hini, hy, hlen, hl, hstt⟩ := cw
  have hK : Back l R p e below s args y 3 8 (PreOf R mc ms Pc) (PostOf Qc mc ms free) := va_backW (hh := hh) (bytes := bytes) (maxL := maxL) (ret := ret) hM hp.1 hrc hrs hfr hlo hws hcw (fun a' U hW => word_at hW (Or.inl (by first | rfl | simp [Cond.onTables, Cond.keeps, Cond.steady])) hini)
  obtain ⟨hx, hb, hml, ho, -⟩ := S
  intro T hT X
  obtain ⟨v, vm₁, ⟨U', l2, c2, s2⟩, hW₁, X', ⟨g', mk, t, L, e1, e2, hq, h1, hL, h2, h3⟩, st⟩ := vx_callSW X hx (hh := hh) (bytes := bytes) (maxL := maxL) (ret := ret) ho hl hstt hini hcode hy hK hg (hsize.trans hml.symm) (argsL := As) (rest := rest) (fun sig h => hn.trans (hlen sig h)) hstack hW (by rw [hb]; exact hdg)
    (fun vm₁ hW₁ => ⟨hf.1, hf.2, hp.2 (T.setVm vm₁) hT hW₁⟩)
  dsimp only [Pt.U, Pt.locs, Pt.cells, Pt.slots] at X' e1 e2 h1 h2 h3 st
  subst h1; subst h2; subst h3
  exact ⟨v, (T.setVm vm₁).calling g' mk As.toArray, t, U', L, hT, X', hL, e1, e2, hq, st⟩
/-- not caught here, past rows that name other classes: it goes on to the caller -/
theorem vx_outP {p : Program} {l : Launch} {e : Env} {R : Room} {s : State} {m : MethodId} {args : Array Value} {below : List Frame} {meth : Method} {c : Code} {H : Heap} {locs : List Loc} {cells slots : Nat} {free : Addr → Prop} {ls : Array Slot} {rest : List Value} {Qc : Array Value → State → Outcome → State → Prop} {XC : String → State → State → Prop}
    {pc : Nat} {own E : String} {ce : Cell} {q : Addr} {mc ms : Nat} (hown : s.vm.findClass own = some m.cls) (hlocks : meth.locks = false)
    (hpass : ∀ z ∈ c.exceptionTable.toList, covers z pc = false ∨ (z.catchType ≠ 0 ∧ ∃ nm : String, (Cond.classLink own z.catchType nm).before args s = true ∧ va_Nc E nm s)) (hcell : H[q]? = some ce) (hv : ce.vm = .none) (hcl : s.vm.findClass E = some ce.cls)
    (hx : ∀ t : State, t.heap = H → s.vm.Alike t.vm → XC E s t) (hf : ∀ z ∈ locs, free z.base) (hc : cells ≤ mc) (hs : slots ≤ ms) :
    vx_W p l e R s m args below meth c H locs cells slots (vx_MQ below Qc XC args s mc ms free) (F0 m pc ls rest) q := by
  intro T hT X
  have hpl : e.platform.magicAccessors = ({} : Platform).magicAccessors := by rw [X.admits.platform]
  obtain ⟨vm', hW', X', st⟩ := X.outThrough hlocks q (g := F0 m pc ls rest) rfl rfl rfl (cell := ce) (by rw [hT]; exact hcell) (by rw [hv]; rfl)
    (by obtain ⟨k9, h9, -⟩ := Vm.findClass_spec hcl; exact ⟨k9, h9⟩) (fun z hz => by
      rcases hpass z hz with h | ⟨hz0, nm, hl1, hn1⟩
      · exact Or.inl h
      · obtain ⟨c6, hc6, hcl6⟩ := Cond.classLink_spec hown hl1 e.platform hpl
        obtain ⟨a8, b8, h1, h2, h3⟩ := hn1
        cases Option.some.inj (h1.symm.trans hcl)
        cases Option.some.inj (h2.symm.trans hc6)
        exact Or.inr ⟨hz0, _, hcl6, h3⟩)
  obtain ⟨g₀, hfr⟩ := X'.frames_eq
  have hcell9 : ((T.setVm vm').setFrames (.throwing q :: below)).heap[q]? = some ce := by
    show T.heap[q]? = some ce
    rw [hT]; exact hcell
  have hend : Ended ((T.setVm vm').setFrames (.throwing q :: below)) below (.threw q) := State.frames_setFrames _ (State.cur_lt_of_frames hfr)
  refine ⟨(T.setVm vm').setFrames (.throwing q :: below), ?_, .threw q, X'.here.running, hend, Or.inr ⟨q, rfl, E, ce, locs, hx _ hT (X'.ends _).1.alike, hcell9, hv, hcl, (X'.ends _).1, (X'.ends _).2.mono hc hs, hf⟩⟩
  rw [X.pushThrowing_eq]
  exact st
/-- a thing of a world lies in the heap -/
theorem vx_lt {D : va_G} {cl : List vw_C} {ws : va_W} {H1 : Heap} (h : va_P D cl ws H1) {k : Nat} {q : Nat × va_E} (hk : ws[k]? = some q) : q.1 < H1.size := (h k q hk).lt
end VXS
/-! ===== END ===== -/
/-! ===== BEGIN methods with a table of their own: called by a name, returning or throwing ===== -/
section VXH
/-! vx_backW, vx_callVX, vx_callSX, vx_callVW, vx_runVW, vx_runVX, vx_runSX, vx_ofWH follow the same proofs as their sisters above (Free/Laws.lean, Shelf42/LK1.lean); vx_outP calls Shelf42/NT130.lean (outThrough). -/
section
variable {l : Launch} {R : Room} {p : Program} {e : Env} {below : List Frame} {s : State} {sargs : Array Value} {y : MethodName} {len W9 : Nat}
theorem vx_backW {ws : List Cond} {rm : Room} {Pc : Array Value → State → Prop} {Qc : Array Value → State → Outcome → State → Prop} {XC : String → State → State → Prop} {mc ms : Nat} {free : Addr → Prop} {bytes : ByteArray} {maxL : Nat} {ret : Option FieldType} {hh : List (Nat × Nat × Nat × Nat)}
    (hM : vx_Met l y ws rm Pc Qc XC mc ms free) (hblind : FrameBlind Pc) (hrc : rm.cells = mc) (hrs : rm.slots = ms)
    (hframes : rm.frames + 1 ≤ R.frames) (hlocals : W9 + (maxL + 11) + rm.locals ≤ R.locals)
    (hws : ∀ w ∈ ws, ∀ a' U, s.WarmedH U.vm → w.before a' U = true) (hcode : Cond.codeWith y bytes maxL ret hh ∈ ws) (hinit : ∀ a' U, s.WarmedH U.vm → (Cond.initialized y.cls).before a' U = true) :
    vx_Back l R p e below s sargs y len W9 (PreOf R mc ms Pc) (PostOf Qc mc ms free) (vx_Post XC mc ms free) := by
  intro m meth c A g ig mk a X hg hsize hdg hW hn hp
  have h1 : (headSpec ws rm).pre.before a A.U = true := atoms_intro fun w hw => hws w hw _ _ X.warmed
  have h2 : (Cond.codeWith y bytes maxL ret hh).before a A.U = true := hws _ hcode _ _ X.warmed
  have h3 : (Cond.initialized y.cls).before a A.U = true := hinit _ _ X.warmed
  have h4 : A.cells + (headSpec ws rm).room.cells ≤ R.cells := by rw [show (headSpec ws rm).room.cells = mc from hrc]; exact hp.1
  have h5 : A.slots + (headSpec ws rm).room.slots ≤ R.slots := by rw [show (headSpec ws rm).room.slots = ms from hrs]; exact hp.2.1
  have hPc : Pc a (A.U.calling g mk a) := hblind _ _ _ _ hp.2.2
  obtain ⟨U, Ls, c0, s0⟩ := A
  dsimp only [Pt.U, Pt.locs, Pt.cells, Pt.slots] at h1 h2 h3 h4 h5 X hn hPc ⊢
  obtain ⟨m9, methY, cY, hn9, hmY, hcY, -, hlY, -⟩ := Cond.codeWith_spec h2
  cases Option.some.inj (hn9.symm.trans hn)
  obtain ⟨kY, hkY, -⟩ := className_of_methodNamed hn
  have hinitY : kY.init = .initialized := Cond.initialized_spec (findClass_of_methodNamed hn) hkY h3
  have h : At U g.method c below := by rw [hg]; exact X.here
  have hlocals9 : W9 + (maxL + 11) + (headSpec ws rm).room.locals ≤ R.locals := hlocals
  have happ : (headSpec ws rm).appliesLoose y e.platform (U.calling g mk a) = true :=
    Spec.appliesLoose_calling (g := g) h hdg hn hkY hinitY
      (X.room_calling (g := g) (R' := (headSpec ws rm).room) hsize hmY hcY hframes (by rw [hlY]; omega) h4 h5) h1
  obtain ⟨mid, hmid⟩ := h.above
  have hfr : (U.setTop g).frames = (.java g :: mid) ++ below := by rw [State.frames_setTop' g h.top, hmid]; rfl
  obtain ⟨o, s₂, hsteps, -, hend, hq⟩ := Steps.callFree hM p X.admits X.cas X.clock (acts := []) hfr happ hPc trivial
  have hq' : vx_Q Qc XC mc ms free a (U.calling g mk a) o s₂ := hq
  rw [State.frames_setTop' g h.top] at hend
  obtain ⟨g₀, hg0⟩ := Option.isSome_iff_exists.mp h.top
  obtain ⟨r, hr⟩ := State.topJava?_eq_some.mp hg0
  have hr' : (({ U with heap := s₂.heap, slotsUsed := s₂.slotsUsed } : State).setVm s₂.vm).frames = .java g₀ :: r := hr
  rcases hq' with ⟨hqc, L, hfe, hL⟩ | ⟨q, rfl, E, ce, L, hx, hce, hcv, hcl, hW₂, hsm, hL⟩
  · obtain ⟨⟨v, rfl⟩, hW₂, e2, q2, q3, q4, q5, q6⟩ := id hfe
    have e3 : s₂ = ({ (U.calling g mk a).setFrames s₂.frames with heap := s₂.heap, slotsUsed := s₂.slotsUsed } : State).setVm s₂.vm := by
      have : s₂ = ({ s₂ with vm := (U.calling g mk a).vm } : State).setVm s₂.vm := rfl
      rw [e2] at this
      exact this
    obtain ⟨c₂, i₂, len₂, hc₂, hd₂, hf₂⟩ := hend
    have hW' : U.WarmedH s₂.vm := hW₂
    have hcc : c₂ = c := by
      have h1 : s₂.code? g.method = U.code? g.method := by
        rw [State.code?_eq, State.code?_eq, hW'.alike.method?]
      exact Option.some.inj (hc₂.symm.trans (h1.trans h.code))
    subst hcc
    have hlen : len₂ = len := by rw [hdg] at hd₂; cases hd₂; rfl
    subst hlen
    have hs₂ : s₂ = (({ U with heap := s₂.heap, slotsUsed := s₂.slotsUsed } : State).setVm s₂.vm).setTop { g with pc := g.pc + len₂, stack := v.toList ++ g.stack } := by
      refine e3.trans ?_
      rw [hf₂, State.calling_eq h.top, State.setFrames_setFrames, State.setTop_of_frames _ hr', hr]
      rfl
    have hsame : U.sameButNew ({ U with heap := s₂.heap, slotsUsed := s₂.slotsUsed } : State) L mc ms := by
      refine ⟨?_, q2, q3, q4, q5, q6⟩
      obtain ⟨t, ht, -⟩ := State.frames_cons hr
      show ({ U with heap := s₂.heap, slotsUsed := s₂.slotsUsed } : State) = { U.setFrames U.frames with heap := s₂.heap, slotsUsed := s₂.slotsUsed }
      rw [State.setFrames_self ht]
    subst hg
    refine Or.inl ⟨v, ⟨(({ U with heap := s₂.heap, slotsUsed := s₂.slotsUsed } : State).setVm s₂.vm), Ls ++ L, c0 + mc, s0 + ms⟩,
      ⟨X.admits, X.cas, X.clock, X.frames, X.room, X.hears, X.method, X.code, (X.here.setHeapUsed s₂.heap s₂.slotsUsed).setVm hW'.alike, X.tail, State.WarmedH.trans X.warmed hW', X.limits, X.bytes, X.same.trans (hsame.setVm s.vm)⟩,
      ⟨g, mk, s₂, L, rfl, rfl, hqc, rfl, hL, rfl, rfl⟩, ?_⟩
    show Steps p.tables e below _ ((({ U with heap := s₂.heap, slotsUsed := s₂.slotsUsed } : State).setVm s₂.vm).setTop { g with pc := g.pc + len₂, stack := v.toList ++ g.stack })
    rw [← hs₂]
    exact hsteps
  · obtain ⟨e2, q2, q3, q4, q5, q6⟩ := id hsm
    have e3 : s₂ = ({ (U.calling g mk a).setFrames s₂.frames with heap := s₂.heap, slotsUsed := s₂.slotsUsed } : State).setVm s₂.vm := by
      have : s₂ = ({ s₂ with vm := (U.calling g mk a).vm } : State).setVm s₂.vm := rfl
      rw [e2] at this
      exact this
    have hf₂ : s₂.frames = .throwing q :: .java g :: U.frames.tail := hend
    have hW' : U.WarmedH s₂.vm := hW₂
    have hs₂ : s₂ = ((({ U with heap := s₂.heap, slotsUsed := s₂.slotsUsed } : State).setVm s₂.vm).setTop g).pushFrame (.throwing q) := by
      refine e3.trans ?_
      rw [hf₂, State.calling_eq h.top, State.setFrames_setFrames, State.pushFrame, State.frames_setTop _ hr', State.setTop_of_frames _ hr', State.setFrames_setFrames, hr]
      rfl
    have hsame : U.sameButNew ({ U with heap := s₂.heap, slotsUsed := s₂.slotsUsed } : State) L mc ms := by
      refine ⟨?_, q2, q3, q4, q5, q6⟩
      obtain ⟨t, ht, -⟩ := State.frames_cons hr
      show ({ U with heap := s₂.heap, slotsUsed := s₂.slotsUsed } : State) = { U.setFrames U.frames with heap := s₂.heap, slotsUsed := s₂.slotsUsed }
      rw [State.setFrames_self ht]
    subst hg
    refine Or.inr ⟨q, ⟨(({ U with heap := s₂.heap, slotsUsed := s₂.slotsUsed } : State).setVm s₂.vm), Ls ++ L, c0 + mc, s0 + ms⟩,
      ⟨X.admits, X.cas, X.clock, X.frames, X.room, X.hears, X.method, X.code, (X.here.setHeapUsed s₂.heap s₂.slotsUsed).setVm hW'.alike, X.tail, State.WarmedH.trans X.warmed hW', X.limits, X.bytes, X.same.trans (hsame.setVm s.vm)⟩,
      ⟨g, mk, s₂, L, E, ce, rfl, rfl, hx, hce, hcv, hcl, rfl, hL, rfl, rfl⟩, ?_⟩
    show Steps p.tables e below _ (((({ U with heap := s₂.heap, slotsUsed := s₂.slotsUsed } : State).setVm s₂.vm).setTop g).pushFrame (.throwing q))
    rw [← hs₂]
    exact hsteps
end
variable {p : Program} {l : Launch} {e : Env} {R : Room} {s : State} {m : MethodId} {args : Array Value} {below : List Frame} {meth : Method} {c : Code} {T : State} {H : Heap} {locs : List Loc} {cells slots : Nat}
theorem vx_callVX (X : Stand p l e R s m args below meth c T locs cells slots) (hexec : p.tables.exec = Jvm.exec) {own C : String} {index : Nat} {y : MethodName} {bytes : ByteArray} {maxL : Nat} {ret : Option FieldType} {hh : List (Nat × Nat × Nat × Nat)}
    (hown : s.vm.findClass own = some m.cls) (hlink : (Cond.methodLink own index y).before args s = true) (hinst : (Cond.instanceMethod y).before args s = true) (hsel : (Cond.selects C y y).before args s = true)
    (hcode : (Cond.codeWith y bytes maxL ret hh).before args s = true) (hy : y.cls ≠ "java/lang/invoke/MethodHandle" ∧ y.cls ≠ "java/lang/invoke/VarHandle")
    {W9 : Nat} {Pre : Pt → Array Value → Prop} {Post : Pt → Array Value → Option Value → Pt → Prop} {PostX : Pt → Array Value → Addr → Pt → Prop} (hK : vx_Back l R p e below s args y 3 W9 Pre Post PostX)
    {b : Addr} {cellB : Cell} (hcell : T.heap[b]? = some cellB) (hobj : cellB.vm.isStatics = false) (hcls : s.vm.findClass C = some cellB.cls)
    {g : JFrame} (hg : g.method = m) (hsize : g.locals.size = c.maxLocals) {argsL rest : List Value} (hlen : ∀ sig, parseMethodDescriptor y.desc = some sig → argsL.length = sig.parameters.length)
    (hstack : g.stack = argsL.reverse ++ .ref b :: rest) (hW : 2 * g.monitorRoom + (rest.map fun v => v.category).sum ≤ W9) (hdg : decode c.code g.pc = .ok (.invokevirtual index, 3))
    (hpre : ∀ vm₁, s.WarmedH vm₁ → Pre ⟨T.setVm vm₁, locs, cells, slots⟩ (Value.ref b :: argsL).toArray) :
    (∃ (v : Option Value) (vm₁ : Vm) (B : Pt), s.WarmedH vm₁ ∧ Stand p l e R s m args below meth c B.U B.locs B.cells B.slots ∧ Post ⟨T.setVm vm₁, locs, cells, slots⟩ (Value.ref b :: argsL).toArray v B ∧
      ∀ target, Steps p.tables e below (B.U.setTop { g with pc := g.pc + 3, stack := v.toList ++ rest }) target → Steps p.tables e below (T.setTop g) target) ∨
    (∃ (q : Addr) (vm₁ : Vm) (B : Pt), s.WarmedH vm₁ ∧ Stand p l e R s m args below meth c B.U B.locs B.cells B.slots ∧ PostX ⟨T.setVm vm₁, locs, cells, slots⟩ (Value.ref b :: argsL).toArray q B ∧
      Steps p.tables e below (T.setTop g) ((B.U.setTop { g with stack := rest }).pushFrame (.throwing q))) := by
  obtain ⟨mk, methM, hnamed, hmethM, hstM, habM⟩ := Cond.instanceMethod_spec hinst
  obtain ⟨m8, methM', cM, hn8, hmethM', -, -, -, -, -, -, hsigM⟩ := Cond.codeWith_spec hcode
  cases Option.some.inj (hn8.symm.trans hnamed)
  cases hmethM.symm.trans hmethM'
  obtain ⟨c2, r2, m2, q1, q2, q3, q4, kP, hkP, hkPi⟩ := Cond.selects_spec hsel
  cases hcls.symm.trans q1
  cases (State.methodFound?_of_named hnamed hy).symm.trans q2
  cases hnamed.symm.trans q3
  have hselP : selectMethod e.platform s.vm cellB.cls mk = .method mk := by rw [Launch.admits_selectMethod X.admits]; exact q4
  obtain ⟨vm₁, X₁, hstep₁⟩ := X.invokevirtual hexec hown hlink hnamed hmethM hstM hkP hkPi hy (a := b) (cell := cellB) hcell
    (fun z h => by rw [h] at hobj; cases hobj) hselP hmethM habM hkP hkPi (g := g) hg (argsL := argsL) (rest := rest) (hlen _ hsigM) hstack hdg
  rcases hK m meth c ⟨T.setVm vm₁, locs, cells, slots⟩ { g with stack := rest } (.invokevirtual index) mk (Value.ref b :: argsL).toArray X₁ hg hsize hdg hW (X₁.named hnamed) (hpre vm₁ X₁.warmed) with ⟨v, B, X', hpost, hsteps⟩ | ⟨q, B, X', hpost, hsteps⟩
  · exact Or.inl ⟨v, vm₁, B, X₁.warmed, X', hpost, fun target h => hstep₁ _ fun acts => by rw [doInvoke_state]; exact hsteps.trans h⟩
  · exact Or.inr ⟨q, vm₁, B, X₁.warmed, X', hpost, hstep₁ _ fun acts => by rw [doInvoke_state]; exact hsteps⟩
theorem vx_callSX (X : Stand p l e R s m args below meth c T locs cells slots) (hexec : p.tables.exec = Jvm.exec) {own : String} {index : Nat} {y : MethodName} {bytes : ByteArray} {maxL : Nat} {ret : Option FieldType} {hh : List (Nat × Nat × Nat × Nat)}
    (hown : s.vm.findClass own = some m.cls) (hlink : (Cond.methodLink own index y).before args s = true) (hstat : (Cond.static y).before args s = true) (hinit : (Cond.initialized y.cls).before args s = true)
    (hcode : (Cond.codeWith y bytes maxL ret hh).before args s = true) (hy : y.cls ≠ "java/lang/invoke/MethodHandle" ∧ y.cls ≠ "java/lang/invoke/VarHandle")
    {W9 : Nat} {Pre : Pt → Array Value → Prop} {Post : Pt → Array Value → Option Value → Pt → Prop} {PostX : Pt → Array Value → Addr → Pt → Prop} (hK : vx_Back l R p e below s args y 3 W9 Pre Post PostX)
    {g : JFrame} (hg : g.method = m) (hsize : g.locals.size = c.maxLocals) {argsL rest : List Value} (hlen : ∀ sig, parseMethodDescriptor y.desc = some sig → argsL.length = sig.parameters.length)
    (hstack : g.stack = argsL.reverse ++ rest) (hW : 2 * g.monitorRoom + (rest.map fun v => v.category).sum ≤ W9) (hdg : decode c.code g.pc = .ok (.invokestatic index, 3))
    (hpre : ∀ vm₁, s.WarmedH vm₁ → Pre ⟨T.setVm vm₁, locs, cells, slots⟩ argsL.toArray) :
    (∃ (v : Option Value) (vm₁ : Vm) (B : Pt), s.WarmedH vm₁ ∧ Stand p l e R s m args below meth c B.U B.locs B.cells B.slots ∧ Post ⟨T.setVm vm₁, locs, cells, slots⟩ argsL.toArray v B ∧
      ∀ target, Steps p.tables e below (B.U.setTop { g with pc := g.pc + 3, stack := v.toList ++ rest }) target → Steps p.tables e below (T.setTop g) target) ∨
    (∃ (q : Addr) (vm₁ : Vm) (B : Pt), s.WarmedH vm₁ ∧ Stand p l e R s m args below meth c B.U B.locs B.cells B.slots ∧ PostX ⟨T.setVm vm₁, locs, cells, slots⟩ argsL.toArray q B ∧
      Steps p.tables e below (T.setTop g) ((B.U.setTop { g with stack := rest }).pushFrame (.throwing q))) := by
  obtain ⟨mk, methM, cM, hnamed, hmethM, -, -, -, -, -, -, hsigM⟩ := Cond.codeWith_spec hcode
  have hstatic : methM.isStatic = true := Cond.static_spec hnamed hmethM hstat
  obtain ⟨kP, hkP, -⟩ := className_of_methodNamed hnamed
  have hinitP : kP.init = .initialized := Cond.initialized_spec (findClass_of_methodNamed hnamed) hkP hinit
  obtain ⟨vm₁, X₁, hstep₁⟩ := X.invokestatic hexec hown hlink hnamed hmethM hstatic hkP hinitP hy (g := g) hg (argsL := argsL) (rest := rest) (hlen _ hsigM) hstack hdg
  rcases hK m meth c ⟨T.setVm vm₁, locs, cells, slots⟩ { g with stack := rest } (.invokestatic index) mk argsL.toArray X₁ hg hsize hdg hW (X₁.named hnamed) (hpre vm₁ X₁.warmed) with ⟨v, B, X', hpost, hsteps⟩ | ⟨q, B, X', hpost, hsteps⟩
  · exact Or.inl ⟨v, vm₁, B, X₁.warmed, X', hpost, fun target h => hstep₁ _ fun acts => by rw [doInvoke_state]; exact hsteps.trans h⟩
  · exact Or.inr ⟨q, vm₁, B, X₁.warmed, X', hpost, hstep₁ _ fun acts => by rw [doInvoke_state]; exact hsteps⟩
theorem vx_callVW (X : Stand p l e R s m args below meth c T locs cells slots) (hexec : p.tables.exec = Jvm.exec) {own C : String} {index : Nat} {y : MethodName} {bytes : ByteArray} {maxL : Nat} {ret : Option FieldType} {hh : List (Nat × Nat × Nat × Nat)}
    (hown : s.vm.findClass own = some m.cls) (hlink : (Cond.methodLink own index y).before args s = true) (hinst : (Cond.instanceMethod y).before args s = true) (hsel : (Cond.selects C y y).before args s = true)
    (hcode : (Cond.codeWith y bytes maxL ret hh).before args s = true) (hy : y.cls ≠ "java/lang/invoke/MethodHandle" ∧ y.cls ≠ "java/lang/invoke/VarHandle")
    {W9 : Nat} {Pre : Pt → Array Value → Prop} {Post : Pt → Array Value → Option Value → Pt → Prop} (hK : Back l R p e below s args y 3 W9 Pre Post)
    {b : Addr} {cellB : Cell} (hcell : T.heap[b]? = some cellB) (hobj : cellB.vm.isStatics = false) (hcls : s.vm.findClass C = some cellB.cls)
    {g : JFrame} (hg : g.method = m) (hsize : g.locals.size = c.maxLocals) {argsL rest : List Value} (hlen : ∀ sig, parseMethodDescriptor y.desc = some sig → argsL.length = sig.parameters.length)
    (hstack : g.stack = argsL.reverse ++ .ref b :: rest) (hW : 2 * g.monitorRoom + (rest.map fun v => v.category).sum ≤ W9) (hdg : decode c.code g.pc = .ok (.invokevirtual index, 3))
    (hpre : ∀ vm₁, s.WarmedH vm₁ → Pre ⟨T.setVm vm₁, locs, cells, slots⟩ (Value.ref b :: argsL).toArray) :
    ∃ (v : Option Value) (vm₁ : Vm) (B : Pt), s.WarmedH vm₁ ∧ Stand p l e R s m args below meth c B.U B.locs B.cells B.slots ∧ Post ⟨T.setVm vm₁, locs, cells, slots⟩ (Value.ref b :: argsL).toArray v B ∧
      ∀ target, Steps p.tables e below (B.U.setTop { g with pc := g.pc + 3, stack := v.toList ++ rest }) target → Steps p.tables e below (T.setTop g) target := by
  obtain ⟨mk, methM, hnamed, hmethM, hstM, habM⟩ := Cond.instanceMethod_spec hinst
  obtain ⟨m8, methM', cM, hn8, hmethM', -, -, -, -, -, -, hsigM⟩ := Cond.codeWith_spec hcode
  cases Option.some.inj (hn8.symm.trans hnamed)
  cases hmethM.symm.trans hmethM'
  obtain ⟨c2, r2, m2, q1, q2, q3, q4, kP, hkP, hkPi⟩ := Cond.selects_spec hsel
  cases hcls.symm.trans q1
  cases (State.methodFound?_of_named hnamed hy).symm.trans q2
  cases hnamed.symm.trans q3
  have hselP : selectMethod e.platform s.vm cellB.cls mk = .method mk := by rw [Launch.admits_selectMethod X.admits]; exact q4
  obtain ⟨vm₁, X₁, hstep₁⟩ := X.invokevirtual hexec hown hlink hnamed hmethM hstM hkP hkPi hy (a := b) (cell := cellB) hcell
    (fun z h => by rw [h] at hobj; cases hobj) hselP hmethM habM hkP hkPi (g := g) hg (argsL := argsL) (rest := rest) (hlen _ hsigM) hstack hdg
  obtain ⟨v, B, X', hpost, hsteps⟩ := hK m meth c ⟨T.setVm vm₁, locs, cells, slots⟩ { g with stack := rest } (.invokevirtual index) mk (Value.ref b :: argsL).toArray X₁ hg hsize hdg hW (X₁.named hnamed) (hpre vm₁ X₁.warmed)
  exact ⟨v, vm₁, B, X₁.warmed, X', hpost, fun target h => hstep₁ _ fun acts => by rw [doInvoke_state]; exact hsteps.trans h⟩
abbrev vx_CVW (R : Room) (s : State) (args : Array Value) (own C : String) (index : Nat) (y : MethodName) (bytes : ByteArray) (maxL : Nat) (ret : Option FieldType) (hh : List (Nat × Nat × Nat × Nat)) (ws : List Cond) (rm : Room) (mc ms n : Nat) : Prop :=
  (rm.cells = mc ∧ rm.slots = ms ∧ rm.frames + 1 ≤ R.frames ∧ 8 + (maxL + 11) + rm.locals ≤ R.locals ∧ (∀ w ∈ ws, ∀ (a' : Array Value) (U : State), s.WarmedH U.vm → w.before a' U = true) ∧ Cond.codeWith y bytes maxL ret hh ∈ ws) ∧
  (Cond.codeWith y bytes maxL ret hh).before args s = true ∧ (Cond.initialized y.cls).before args s = true ∧ (y.cls ≠ "java/lang/invoke/MethodHandle" ∧ y.cls ≠ "java/lang/invoke/VarHandle") ∧
  (∀ sig, parseMethodDescriptor y.desc = some sig → n = sig.parameters.length) ∧ (Cond.methodLink own index y).before args s = true ∧ (Cond.instanceMethod y).before args s = true ∧ (Cond.selects C y y).before args s = true
theorem vx_cwVW {own C : String} {index maxL mc ms : Nat} {y : MethodName} {bytes : ByteArray} {ret : Option FieldType} {hh : List (Nat × Nat × Nat × Nat)} {Ts ws ws' : List Cond} {rm : Room} (n : Nat) (ht : ∀ w ∈ Ts, w.before args s = true) (hT : GoodIn Ts (wsV own index C y ws)) (hw : ws = Cond.codeWith y bytes maxL ret hh :: ws') (hrc : rm.cells = mc) (hrs : rm.slots = ms)
    (hd : y.cls = C ∧ y.cls ≠ "java/lang/invoke/MethodHandle" ∧ y.cls ≠ "java/lang/invoke/VarHandle" ∧ (parseMethodDescriptor y.desc).map (fun d => d.parameters.length) = some n) (hR : rm.frames + 1 ≤ R.frames ∧ 8 + (maxL + 11) + rm.locals ≤ R.locals) :
    vx_CVW R s args own C index y bytes maxL ret hh ws rm mc ms n := by
  obtain ⟨hC, hd⟩ := hd
  subst hC
  have ok : ∀ w ∈ wsV own index y.cls y ws, w.before args s = true := fun w h => ht w (hT w h).1
  have hG : GoodIn Ts ws := fun w h => hT w (by unfold wsV; exact List.mem_append_right _ h)
  have hc : Cond.codeWith y bytes maxL ret hh ∈ ws := by rw [hw]; exact List.mem_cons_self
  refine ⟨⟨hrc, hrs, hR.1, hR.2, pay_in ht hG, hc⟩, ht _ (hG _ hc).1, ok _ (by simp [wsV]), ⟨hd.1, hd.2.1⟩, fun sig h => ?_, ok _ (by simp [wsV]), ok _ (by simp [wsV]), ok _ (by simp [wsV])⟩
  have h2 := hd.2.2
  rw [h] at h2
  exact (Option.some.inj h2).symm
theorem vx_runVW {y : MethodName} {bytes cc : ByteArray} {maxL nL mc ms n index : Nat} {ret : Option FieldType} {hh : List (Nat × Nat × Nat × Nat)} {ws : List Cond} {rm : Room} {Pc : Array Value → State → Prop} {Qc : Array Value → State → Outcome → State → Prop} {free : Addr → Prop} {Ts : List Cond} {own C : String} {b : Addr} {As rest : List Value} {g : JFrame}
    (S : CallFix p m c cc nL s args Ts own) (hM : Met l y ws rm Pc Qc mc ms free) (cw : vx_CVW R s args own C index y bytes maxL ret hh ws rm mc ms n) (hp : PreV s H C b Pc As)
    (hg : g.method = m) (hn : As.length = n) (hsize : g.locals.size = nL) (hstack : g.stack = As.reverse ++ .ref b :: rest) (hW : 2 * g.monitorRoom + (rest.map fun v => v.category).sum ≤ 8) (hdg : decode cc g.pc = .ok (.invokevirtual index, 3)) (hf : cells + mc ≤ R.cells ∧ slots + ms ≤ R.slots) :
    va_Run p l e R s m args below meth c H locs cells slots mc ms g rest (Qc (Value.ref b :: As).toArray) free := by
  obtain ⟨⟨hrc, hrs, hfr, hlo, hws, hcw⟩, hcode, hini, hy, hlen, hl, hin, hse⟩ := cw
  have hK : Back l R p e below s args y 3 8 (PreOf R mc ms Pc) (PostOf Qc mc ms free) := va_backW (hh := hh) (bytes := bytes) (maxL := maxL) (ret := ret) hM hp.1 hrc hrs hfr hlo hws hcw (fun a' U hW => word_at hW (Or.inl (by first | rfl | simp [Cond.onTables, Cond.keeps, Cond.steady])) hini)
  obtain ⟨hx, hb, hml, ho, -⟩ := S
  obtain ⟨-, ⟨cellB, hcB, hoB, hclB⟩, hPc⟩ := hp
  intro T hT X
  obtain ⟨v, vm₁, ⟨U', l2, c2, s2⟩, hW₁, X', ⟨g', mk, t, L, e1, e2, hq, h1, hL, h2, h3⟩, st⟩ := vx_callVW X hx (C := C) (hh := hh) (bytes := bytes) (maxL := maxL) (ret := ret) ho hl hin hse hcode hy hK (by rw [hT]; exact hcB) hoB hclB hg (hsize.trans hml.symm) (argsL := As) (rest := rest) (fun sig h => hn.trans (hlen sig h)) hstack hW (by rw [hb]; exact hdg)
    (fun vm₁ hW₁ => ⟨hf.1, hf.2, hPc (T.setVm vm₁) hT hW₁⟩)
  dsimp only [Pt.U, Pt.locs, Pt.cells, Pt.slots] at X' e1 e2 h1 h2 h3 st
  subst h1; subst h2; subst h3
  exact ⟨v, (T.setVm vm₁).calling g' mk (Value.ref b :: As).toArray, t, U', L, hT, X', hL, e1, e2, hq, st⟩
section
variable {y : MethodName} {bytes cc : ByteArray} {maxL nL mc ms n index : Nat} {ret : Option FieldType} {ws : List Cond} {rm : Room} {Pc : Array Value → State → Prop} {Qc : Array Value → State → Outcome → State → Prop} {XC : String → State → State → Prop} {free : Addr → Prop} {Ts : List Cond} {own C : String} {b : Addr} {As rest : List Value} {g : JFrame}
theorem vx_runVX {hh : List (Nat × Nat × Nat × Nat)} (S : CallFix p m c cc nL s args Ts own) (hM : vx_Met l y ws rm Pc Qc XC mc ms free) (cw : vx_CVW R s args own C index y bytes maxL ret hh ws rm mc ms n) (hp : PreV s H C b Pc As)
    (hg : g.method = m) (hn : As.length = n) (hsize : g.locals.size = nL) (hstack : g.stack = As.reverse ++ .ref b :: rest) (hW : 2 * g.monitorRoom + (rest.map fun v => v.category).sum ≤ 8) (hdg : decode cc g.pc = .ok (.invokevirtual index, 3)) (hf : cells + mc ≤ R.cells ∧ slots + ms ≤ R.slots) :
    vx_Run p l e R s m args below meth c H locs cells slots mc ms g rest (Qc (Value.ref b :: As).toArray) XC free := by
  obtain ⟨⟨hrc, hrs, hfr, hlo, hws, hcw⟩, hcode, hini, hy, hlen, hl, hin, hse⟩ := cw
  have hK : vx_Back l R p e below s args y 3 8 (PreOf R mc ms Pc) (PostOf Qc mc ms free) (vx_Post XC mc ms free) := vx_backW (hh := hh) (bytes := bytes) (maxL := maxL) (ret := ret) hM hp.1 hrc hrs hfr hlo hws hcw (fun a' U hW => word_at hW (Or.inl (by first | rfl | simp [Cond.onTables, Cond.keeps, Cond.steady])) hini)
  obtain ⟨hx, hb, hml, ho, -⟩ := S
  obtain ⟨-, ⟨cellB, hcB, hoB, hclB⟩, hPc⟩ := hp
  intro T hT X
  rcases vx_callVX X hx (C := C) (hh := hh) (bytes := bytes) (maxL := maxL) (ret := ret) ho hl hin hse hcode hy hK (by rw [hT]; exact hcB) hoB hclB hg (hsize.trans hml.symm) (argsL := As) (rest := rest) (fun sig h => hn.trans (hlen sig h)) hstack hW (by rw [hb]; exact hdg)
    (fun vm₁ hW₁ => ⟨hf.1, hf.2, hPc (T.setVm vm₁) hT hW₁⟩) with ⟨v, vm₁, ⟨U', l2, c2, s2⟩, hW₁, X', ⟨g', mk, t, L, e1, e2, hq, h1, hL, h2, h3⟩, st⟩ | ⟨q, vm₁, ⟨U', l2, c2, s2⟩, hW₁, X', ⟨g', mk, t, L, E, ce, e1, e2, hq, hce, hcv, hcl, h1, hL, h2, h3⟩, st⟩
  · dsimp only [Pt.U, Pt.locs, Pt.cells, Pt.slots] at X' e1 e2 h1 h2 h3 st
    subst h1; subst h2; subst h3
    exact Or.inl ⟨v, (T.setVm vm₁).calling g' mk (Value.ref b :: As).toArray, t, U', L, hT, X', hL, e1, e2, hq, st⟩
  · dsimp only [Pt.U, Pt.locs, Pt.cells, Pt.slots] at X' e1 e2 h1 h2 h3 st hcl
    subst h1; subst h2; subst h3
    exact Or.inr ⟨q, (T.setVm vm₁).calling g' mk (Value.ref b :: As).toArray, t, U', L, E, ce, hT, X', hL, e1, e2, hq, hce, hcv, vx_cls hW₁ hcl, st⟩
theorem vx_runSX {hh : List (Nat × Nat × Nat × Nat)} (S : CallFix p m c cc nL s args Ts own) (hM : vx_Met l y ws rm Pc Qc XC mc ms free) (cw : vx_CSW R s args own index y bytes maxL ret hh ws rm mc ms n) (hp : PreS s H Pc As)
    (hg : g.method = m) (hn : As.length = n) (hsize : g.locals.size = nL) (hstack : g.stack = As.reverse ++ rest) (hW : 2 * g.monitorRoom + (rest.map fun v => v.category).sum ≤ 8) (hdg : decode cc g.pc = .ok (.invokestatic index, 3)) (hf : cells + mc ≤ R.cells ∧ slots + ms ≤ R.slots) :
    vx_Run p l e R s m args below meth c H locs cells slots mc ms g rest (Qc As.toArray) XC free := by
  obtain ⟨⟨hrc, hrs, hfr, hlo, hws, hcw⟩, hcode, hini, hy, hlen, hl, hstt⟩ := cw
  have hK : vx_Back l R p e below s args y 3 8 (PreOf R mc ms Pc) (PostOf Qc mc ms free) (vx_Post XC mc ms free) := vx_backW (hh := hh) (bytes := bytes) (maxL := maxL) (ret := ret) hM hp.1 hrc hrs hfr hlo hws hcw (fun a' U hW => word_at hW (Or.inl (by first | rfl | simp [Cond.onTables, Cond.keeps, Cond.steady])) hini)
  obtain ⟨hx, hb, hml, ho, -⟩ := S
  intro T hT X
  rcases vx_callSX X hx (hh := hh) (bytes := bytes) (maxL := maxL) (ret := ret) ho hl hstt hini hcode hy hK hg (hsize.trans hml.symm) (argsL := As) (rest := rest) (fun sig h => hn.trans (hlen sig h)) hstack hW (by rw [hb]; exact hdg)
    (fun vm₁ hW₁ => ⟨hf.1, hf.2, hp.2 (T.setVm vm₁) hT hW₁⟩) with ⟨v, vm₁, ⟨U', l2, c2, s2⟩, hW₁, X', ⟨g', mk, t, L, e1, e2, hq, h1, hL, h2, h3⟩, st⟩ | ⟨q, vm₁, ⟨U', l2, c2, s2⟩, hW₁, X', ⟨g', mk, t, L, E, ce, e1, e2, hq, hce, hcv, hcl, h1, hL, h2, h3⟩, st⟩
  · dsimp only [Pt.U, Pt.locs, Pt.cells, Pt.slots] at X' e1 e2 h1 h2 h3 st
    subst h1; subst h2; subst h3
    exact Or.inl ⟨v, (T.setVm vm₁).calling g' mk As.toArray, t, U', L, hT, X', hL, e1, e2, hq, st⟩
  · dsimp only [Pt.U, Pt.locs, Pt.cells, Pt.slots] at X' e1 e2 h1 h2 h3 st hcl
    subst h1; subst h2; subst h3
    exact Or.inr ⟨q, (T.setVm vm₁).calling g' mk As.toArray, t, U', L, E, ce, hT, X', hL, e1, e2, hq, hce, hcv, vx_cls hW₁ hcl, st⟩
end
end VXH
theorem vx_ofWH {l : Launch} {y : MethodName} {ws ws' : List Cond} {rm : Room} {Pc : Array Value → State → Prop} {Qc : Array Value → State → Outcome → State → Prop} {XC : String → State → State → Prop} {mc ms : Nat} {free : Addr → Prop} {cc : ByteArray} {maxL : Nat} {ret : Option FieldType} {hh : List (Nat × Nat × Nat × Nat)}
    (hy : plainName y.cls = true) (hw : ws = Cond.codeWith y cc maxL ret hh :: ws')
    (body : ∀ p e s m args below meth c s₁, BodyLoose p l y (headSpec ws rm) cc maxL ret e s m args below meth c s₁ → c.maxLocals = maxL → Pc args s →
      W p l e (headSpec ws rm).room s m args below meth c s.heap [] 0 0 (vx_MQ below Qc XC args s mc ms free) (entryFrame m args maxL)) : vx_Met l y ws rm Pc Qc XC mc ms free := by
  refine MetFree.of_bodyS (code := cc) (maxLocals := maxL) (ret := ret) hy ?_ ?_
  · intro args s m h hn
    obtain ⟨m9, meth, c, hn9, h1, h2, h3, h4, -, h5, h6, -⟩ := Cond.codeWith_spec (atoms_spec (ws := ws) h _ (by rw [hw]; exact List.mem_cons_self))
    cases hn.symm.trans hn9
    exact ⟨meth, c, h1, h2, h3, h4, h5, h6⟩
  · intro p e s m args below meth c s₁ B hml hP _
    have hh0 : s₁.heap = s.heap := by rw [B.state]; rfl
    obtain ⟨t, a1, o, b1, b2, b3⟩ := body p e s m args below meth c s₁ B hml hP s₁ hh0 (Stand.of_body B)
    exact ⟨t, o, a1, b1, b2, b3⟩
/-! ===== END ===== -/
/-! ===== BEGIN a constructor that throws (launches without stack traces) ===== -/
section VXIA
variable {p : Program} {l : Launch} {e : Env} {R : Room} {s : State} {m : MethodId} {args : Array Value} {below : List Frame} {meth : Method} {c : Code} {T : State} {locs : List Loc} {cells slots : Nat}
theorem vx_callI (X : Stand p l e R s m args below meth c T locs cells slots) (hexec : p.tables.exec = Jvm.exec) {own : String} {index : Nat} {y : MethodName} {bytes : ByteArray} {maxL : Nat}
    (hown : s.vm.findClass own = some m.cls) (hy1 : y.name = "<init>") (hlink : (Cond.methodLink own index y).before args s = true) (hinst : (Cond.instanceMethod y).before args s = true)
    (hcode : (Cond.code y bytes maxL none).before args s = true) (hy : y.cls ≠ "java/lang/invoke/MethodHandle" ∧ y.cls ≠ "java/lang/invoke/VarHandle")
    {W9 : Nat} {Pre : Pt → Array Value → Prop} {Post : Pt → Array Value → Option Value → Pt → Prop} {PostX : Pt → Array Value → Addr → Pt → Prop} (hK : vx_Back l R p e below s args y 3 W9 Pre Post PostX)
    {g : JFrame} (hg : g.method = m) (hsize : g.locals.size = c.maxLocals) {a : Addr} {argsL rest : List Value} (hlen : ∀ sig, parseMethodDescriptor y.desc = some sig → argsL.length = sig.parameters.length)
    (hstack : g.stack = argsL.reverse ++ .ref a :: rest) (hW : 2 * g.monitorRoom + (rest.map fun v => v.category).sum ≤ W9) (hdg : decode c.code g.pc = .ok (.invokespecial index, 3))
    (hpre : ∀ vm₁, s.WarmedH vm₁ → Pre ⟨T.setVm vm₁, locs, cells, slots⟩ (Value.ref a :: argsL).toArray) :
    (∃ (v : Option Value) (vm₁ : Vm) (B : Pt), s.WarmedH vm₁ ∧ Stand p l e R s m args below meth c B.U B.locs B.cells B.slots ∧ Post ⟨T.setVm vm₁, locs, cells, slots⟩ (Value.ref a :: argsL).toArray v B ∧
      ∀ target, Steps p.tables e below (B.U.setTop { g with pc := g.pc + 3, stack := v.toList ++ rest }) target → Steps p.tables e below (T.setTop g) target) ∨
    (∃ (q : Addr) (vm₁ : Vm) (B : Pt), s.WarmedH vm₁ ∧ Stand p l e R s m args below meth c B.U B.locs B.cells B.slots ∧ PostX ⟨T.setVm vm₁, locs, cells, slots⟩ (Value.ref a :: argsL).toArray q B ∧
      Steps p.tables e below (T.setTop g) ((B.U.setTop { g with stack := rest }).pushFrame (.throwing q))) := by
  subst hg
  have hpl : e.platform.magicAccessors = ({} : Platform).magicAccessors := by rw [X.admits.platform]
  obtain ⟨mk, methM, cM, kP, vm₁, hnamed, hmethM, hcodeM, -, hlocalsM, -, hkP, -, hW₁, hstep₁⟩ := Steps.initColdArgs (e := e) X.here hexec X.warmed hpl hown hy1 hy hlink hinst hcode (f := g) rfl hlen hstack hdg
  have X₁ := X.noted hW₁
  rcases hK g.method meth c ⟨T.setVm vm₁, locs, cells, slots⟩ { g with stack := rest } (.invokespecial index) mk (Value.ref a :: argsL).toArray X₁ rfl hsize hdg hW (X₁.named hnamed) (hpre vm₁ X₁.warmed) with ⟨v, B, X', hpost, hsteps⟩ | ⟨q, B, X', hpost, hsteps⟩
  · exact Or.inl ⟨v, vm₁, B, X₁.warmed, X', hpost, fun target h => hstep₁ _ fun acts => by rw [doInvoke_state]; exact hsteps.trans h⟩
  · exact Or.inr ⟨q, vm₁, B, X₁.warmed, X', hpost, hstep₁ _ fun acts => by rw [doInvoke_state]; exact hsteps⟩
end VXIA
section VXIB
variable {p : Program} {l : Launch} {e : Env} {R : Room} {s : State} {m : MethodId} {args : Array Value} {below : List Frame} {meth : Method} {c : Code} {H : Heap} {locs : List Loc} {cells slots : Nat}
variable {y : MethodName} {bytes cc : ByteArray} {maxL nL mc ms n index : Nat} {ret : Option FieldType} {ws : List Cond} {rm : Room} {Pc : Array Value → State → Prop} {Qc : Array Value → State → Outcome → State → Prop} {XC : String → State → State → Prop} {free : Addr → Prop} {Ts : List Cond} {own C : String} {b : Addr} {As rest : List Value} {g : JFrame}
theorem vx_runI (S : CallFix p m c cc nL s args Ts own) (hM : vx_Met l y ws rm Pc Qc XC mc ms free) (cw : CallB R s args own index y bytes maxL none ws rm mc ms n ∧ y.name = "<init>" ∧ (Cond.instanceMethod y).before args s = true) (hp : PreS s H Pc (.ref b :: As))
    (hg : g.method = m) (hn : As.length = n) (hsize : g.locals.size = nL) (hstack : g.stack = As.reverse ++ .ref b :: rest) (hW : 2 * g.monitorRoom + (rest.map fun v => v.category).sum ≤ 8) (hdg : decode cc g.pc = .ok (.invokespecial index, 3)) (hf : cells + mc ≤ R.cells ∧ slots + ms ≤ R.slots) :
    vx_Run p l e R s m args below meth c H locs cells slots mc ms g rest (Qc (Value.ref b :: As).toArray) XC free := by
  have hK : vx_Back l R p e below s args y 3 8 (PreOf R mc ms Pc) (PostOf Qc mc ms free) (vx_Post XC mc ms free) := vx_callBack cw.1 hM hp.1
  obtain ⟨⟨-, -, -, -, -, -, hcode, -, hy, hlen, hl⟩, hy1, hin⟩ := cw
  obtain ⟨hx, hb, hml, ho, -⟩ := S
  have hPc := hp.2
  intro T hT X
  rcases vx_callI X hx (bytes := bytes) (maxL := maxL) ho hy1 hl hin hcode hy hK hg (hsize.trans hml.symm) (a := b) (argsL := As) (rest := rest) (fun sig h => hn.trans (hlen sig h)) hstack hW (by rw [hb]; exact hdg)
    (fun vm₁ hW₁ => ⟨hf.1, hf.2, hPc (T.setVm vm₁) hT hW₁⟩) with ⟨v, vm₁, ⟨U', l2, c2, s2⟩, hW₁, X', ⟨g', mk, t, L, e1, e2, hq, h1, hL, h2, h3⟩, st⟩ | ⟨q, vm₁, ⟨U', l2, c2, s2⟩, hW₁, X', ⟨g', mk, t, L, E, ce, e1, e2, hq, hce, hcv, hcl, h1, hL, h2, h3⟩, st⟩
  · dsimp only [Pt.U, Pt.locs, Pt.cells, Pt.slots] at X' e1 e2 h1 h2 h3 st
    subst h1; subst h2; subst h3
    exact Or.inl ⟨v, (T.setVm vm₁).calling g' mk (Value.ref b :: As).toArray, t, U', L, hT, X', hL, e1, e2, hq, st⟩
  · dsimp only [Pt.U, Pt.locs, Pt.cells, Pt.slots] at X' e1 e2 h1 h2 h3 st hcl
    subst h1; subst h2; subst h3
    exact Or.inr ⟨q, (T.setVm vm₁).calling g' mk (Value.ref b :: As).toArray, t, U', L, E, ce, hT, X', hL, e1, e2, hq, hce, hcv, vx_cls hW₁ hcl, st⟩
end VXIB
/-! ===== END ===== -/
/-! ===== BEGIN a private constructor of a nest mate that throws ===== -/
section VXIC
variable {p : Program} {l : Launch} {e : Env} {R : Room} {s : State} {m : MethodId} {args : Array Value} {below : List Frame} {meth : Method} {c : Code} {T : State} {locs : List Loc} {cells slots : Nat}
theorem vx_callIN (X : Stand p l e R s m args below meth c T locs cells slots) (hexec : p.tables.exec = Jvm.exec) {own : String} {index : Nat} {host : String} {y : MethodName} {bytes : ByteArray} {maxL : Nat}
    (hown : s.vm.findClass own = some m.cls) (hy1 : y.name = "<init>") (hlink : (Cond.methodLinkNest own index y host).before args s = true) (hinst : (Cond.instanceMethod y).before args s = true)
    (hcode : (Cond.code y bytes maxL none).before args s = true) (hy : y.cls ≠ "java/lang/invoke/MethodHandle" ∧ y.cls ≠ "java/lang/invoke/VarHandle")
    {W9 : Nat} {Pre : Pt → Array Value → Prop} {Post : Pt → Array Value → Option Value → Pt → Prop} {PostX : Pt → Array Value → Addr → Pt → Prop} (hK : vx_Back l R p e below s args y 3 W9 Pre Post PostX)
    {g : JFrame} (hg : g.method = m) (hsize : g.locals.size = c.maxLocals) {a : Addr} {argsL rest : List Value} (hlen : ∀ sig, parseMethodDescriptor y.desc = some sig → argsL.length = sig.parameters.length)
    (hstack : g.stack = argsL.reverse ++ .ref a :: rest) (hW : 2 * g.monitorRoom + (rest.map fun v => v.category).sum ≤ W9) (hdg : decode c.code g.pc = .ok (.invokespecial index, 3))
    (hpre : ∀ vm₁, s.WarmedH vm₁ → Pre ⟨T.setVm vm₁, locs, cells, slots⟩ (Value.ref a :: argsL).toArray) :
    (∃ (v : Option Value) (vm₁ : Vm) (B : Pt), s.WarmedH vm₁ ∧ Stand p l e R s m args below meth c B.U B.locs B.cells B.slots ∧ Post ⟨T.setVm vm₁, locs, cells, slots⟩ (Value.ref a :: argsL).toArray v B ∧
      ∀ target, Steps p.tables e below (B.U.setTop { g with pc := g.pc + 3, stack := v.toList ++ rest }) target → Steps p.tables e below (T.setTop g) target) ∨
    (∃ (q : Addr) (vm₁ : Vm) (B : Pt), s.WarmedH vm₁ ∧ Stand p l e R s m args below meth c B.U B.locs B.cells B.slots ∧ PostX ⟨T.setVm vm₁, locs, cells, slots⟩ (Value.ref a :: argsL).toArray q B ∧
      Steps p.tables e below (T.setTop g) ((B.U.setTop { g with stack := rest }).pushFrame (.throwing q))) := by
  subst hg
  have hpl : e.platform.magicAccessors = ({} : Platform).magicAccessors := by rw [X.admits.platform]
  obtain ⟨mk, methM, cM, kP, vm₁, hnamed, hmethM, hcodeM, -, hlocalsM, -, hkP, -, hW₁, hstep₁⟩ := Steps.initColdArgsNest (e := e) X.here hexec X.warmed hpl hown hy1 hy hlink hinst hcode (f := g) rfl hlen hstack hdg
  have X₁ := X.noted hW₁
  rcases hK g.method meth c ⟨T.setVm vm₁, locs, cells, slots⟩ { g with stack := rest } (.invokespecial index) mk (Value.ref a :: argsL).toArray X₁ rfl hsize hdg hW (X₁.named hnamed) (hpre vm₁ X₁.warmed) with ⟨v, B, X', hpost, hsteps⟩ | ⟨q, B, X', hpost, hsteps⟩
  · exact Or.inl ⟨v, vm₁, B, X₁.warmed, X', hpost, fun target h => hstep₁ _ fun acts => by rw [doInvoke_state]; exact hsteps.trans h⟩
  · exact Or.inr ⟨q, vm₁, B, X₁.warmed, X', hpost, hstep₁ _ fun acts => by rw [doInvoke_state]; exact hsteps⟩
end VXIC
section VXID
variable {p : Program} {l : Launch} {e : Env} {R : Room} {s : State} {m : MethodId} {args : Array Value} {below : List Frame} {meth : Method} {c : Code} {H : Heap} {locs : List Loc} {cells slots : Nat}
theorem vx_runIN {y : MethodName} {bytes cc : ByteArray} {maxL nL mc ms n index : Nat} {ws : List Cond} {rm : Room} {Pc : Array Value → State → Prop} {Qc : Array Value → State → Outcome → State → Prop} {XC : String → State → State → Prop} {free : Addr → Prop} {Ts : List Cond} {own host : String} {b : Addr} {As rest : List Value} {g : JFrame}
    (S : CallFix p m c cc nL s args Ts own) (hM : vx_Met l y ws rm Pc Qc XC mc ms free) (cw : va_CN R s args own index y host bytes maxL none ws rm mc ms n ∧ y.name = "<init>" ∧ (Cond.instanceMethod y).before args s = true) (hp : PreS s H Pc (.ref b :: As))
    (hg : g.method = m) (hn : As.length = n) (hsize : g.locals.size = nL) (hstack : g.stack = As.reverse ++ .ref b :: rest) (hW : 2 * g.monitorRoom + (rest.map fun v => v.category).sum ≤ 8) (hdg : decode cc g.pc = .ok (.invokespecial index, 3)) (hf : cells + mc ≤ R.cells ∧ slots + ms ≤ R.slots) :
    vx_Run p l e R s m args below meth c H locs cells slots mc ms g rest (Qc (Value.ref b :: As).toArray) XC free := by
  obtain ⟨⟨⟨hrc, hrs, hfr, hlo, hws, hcw⟩, hcode, hini, hy, hlen, hl⟩, hx1, hx2⟩ := cw
  have hK : vx_Back l R p e below s args y 3 8 (PreOf R mc ms Pc) (PostOf Qc mc ms free) (vx_Post XC mc ms free) := vx_back (bytes := bytes) (maxL := maxL) (ret := none) hM hp.1 hrc hrs hfr hlo hws hcw (fun a' U hW => word_at hW (Or.inl (by first | rfl | simp [Cond.onTables, Cond.keeps, Cond.steady])) hini)
  obtain ⟨hx, hb, hml, ho, -⟩ := S
  have hPc := hp.2
  intro T hT X
  rcases vx_callIN X hx (bytes := bytes) (maxL := maxL) ho hx1 hl hx2 hcode hy hK hg (hsize.trans hml.symm) (a := b) (argsL := As) (rest := rest) (fun sig h => hn.trans (hlen sig h)) hstack hW (by rw [hb]; exact hdg)
    (fun vm₁ hW₁ => ⟨hf.1, hf.2, hPc (T.setVm vm₁) hT hW₁⟩) with ⟨v, vm₁, ⟨U', l2, c2, s2⟩, hW₁, X', ⟨g', mk, t, L, e1, e2, hq, h1, hL, h2, h3⟩, st⟩ | ⟨q, vm₁, ⟨U', l2, c2, s2⟩, hW₁, X', ⟨g', mk, t, L, E, ce, e1, e2, hq, hce, hcv, hcl, h1, hL, h2, h3⟩, st⟩
  · dsimp only [Pt.U, Pt.locs, Pt.cells, Pt.slots] at X' e1 e2 h1 h2 h3 st
    subst h1; subst h2; subst h3
    exact Or.inl ⟨v, (T.setVm vm₁).calling g' mk (Value.ref b :: As).toArray, t, U', L, hT, X', hL, e1, e2, hq, st⟩
  · dsimp only [Pt.U, Pt.locs, Pt.cells, Pt.slots] at X' e1 e2 h1 h2 h3 st hcl
    subst h1; subst h2; subst h3
    exact Or.inr ⟨q, (T.setVm vm₁).calling g' mk (Value.ref b :: As).toArray, t, U', L, E, ce, hT, X', hL, e1, e2, hq, hce, hcv, vx_cls hW₁ hcl, st⟩
end VXID
/-! ===== END ===== -/
/-! ===== BEGIN a method of a class above, found by the receiver, that may throw (follows va_callVU, va_runU of this kit) ===== -/
section
variable {p : Program} {l : Launch} {e : Env} {R : Room} {s : State} {m : MethodId} {args : Array Value} {below : List Frame} {meth : Method} {c : Code} {H : Heap} {locs : List Loc} {cells slots : Nat}
theorem vx_callVU {T : State} {locs : List Loc} {cells slots : Nat} (X : Stand p l e R s m args below meth c T locs cells slots) (hexec : p.tables.exec = Jvm.exec) {own C owner : String} {index : Nat} {x y : MethodName} {bytes : ByteArray} {maxL : Nat} {ret : Option FieldType}
    (hown : s.vm.findClass own = some m.cls) (hlink : (Cond.methodLink own index x).before args s = true) (hsame : (Cond.sameMethod x.cls owner x.name x.desc).before args s = true)
    (hd0 : va_Decl s ⟨owner, x.name, x.desc⟩) (howner : owner ≠ "java/lang/invoke/MethodHandle" ∧ owner ≠ "java/lang/invoke/VarHandle")
    (hsel : (Cond.selects C x y).before args s = true) (hinst : (Cond.instanceMethod y).before args s = true) (hcode : (Cond.code y bytes maxL ret).before args s = true)
    {W : Nat} {Pre : Pt → Array Value → Prop} {Post : Pt → Array Value → Option Value → Pt → Prop} {PostX : Pt → Array Value → Addr → Pt → Prop} (hK : vx_Back l R p e below s args y 3 W Pre Post PostX)
    {b : Addr} {cellB : Cell} (hcell : T.heap[b]? = some cellB) (hobj : cellB.vm.isStatics = false) (hcls : s.vm.findClass C = some cellB.cls)
    {g : JFrame} (hg : g.method = m) (hsize : g.locals.size = c.maxLocals) {argsL rest : List Value} (hlen : ∀ sig, parseMethodDescriptor x.desc = some sig → argsL.length = sig.parameters.length)
    (hstack : g.stack = argsL.reverse ++ .ref b :: rest) (hW : 2 * g.monitorRoom + (rest.map fun v => v.category).sum ≤ W) (hdg : decode c.code g.pc = .ok (.invokevirtual index, 3))
    (hpre : ∀ vm₁, s.WarmedH vm₁ → Pre ⟨T.setVm vm₁, locs, cells, slots⟩ (Value.ref b :: argsL).toArray) :
    (∃ (v : Option Value) (vm₁ : Vm) (B : Pt), s.WarmedH vm₁ ∧ Stand p l e R s m args below meth c B.U B.locs B.cells B.slots ∧ Post ⟨T.setVm vm₁, locs, cells, slots⟩ (Value.ref b :: argsL).toArray v B ∧
      ∀ target, Steps p.tables e below (B.U.setTop { g with pc := g.pc + 3, stack := v.toList ++ rest }) target → Steps p.tables e below (T.setTop g) target) ∨
    (∃ (q : Addr) (vm₁ : Vm) (B : Pt), s.WarmedH vm₁ ∧ Stand p l e R s m args below meth c B.U B.locs B.cells B.slots ∧ PostX ⟨T.setVm vm₁, locs, cells, slots⟩ (Value.ref b :: argsL).toArray q B ∧
      Steps p.tables e below (T.setTop g) ((B.U.setTop { g with stack := rest }).pushFrame (.throwing q))) := by
  obtain ⟨r0, r, hn, hrm, hstR, hsigR⟩ := hd0
  obtain ⟨cn, ck, r1, hcn, hck, hni, hf, hn1⟩ := Cond.sameMethod_found hsame
  cases hn.symm.trans hn1
  obtain ⟨mk, methM, hnamed, hmethM, -, habM⟩ := Cond.instanceMethod_spec hinst
  obtain ⟨c2, r2, m2, q1, q2, q3, q4, kP, hkP, hkPi⟩ := Cond.selects_spec hsel
  cases hcls.symm.trans q1
  cases hf.symm.trans q2
  cases hnamed.symm.trans q3
  have hselP : selectMethod e.platform s.vm cellB.cls r0 = .method mk := by rw [Launch.admits_selectMethod X.admits]; exact q4
  obtain ⟨vm₁, X₁, hstep₁⟩ := X.invokevirtualUp hexec hown hlink hsame howner hn hrm hstR (a := b) (cell := cellB) hcell
    (fun z h => by rw [h] at hobj; cases hobj) hselP hmethM habM hkP hkPi (g := g) hg (argsL := argsL) (rest := rest) (hlen _ hsigR) hstack hdg
  rcases hK m meth c ⟨T.setVm vm₁, locs, cells, slots⟩ { g with stack := rest } (.invokevirtual index) mk (Value.ref b :: argsL).toArray X₁ hg hsize hdg hW (X₁.named hnamed) (hpre vm₁ X₁.warmed) with ⟨v, B, X', hpost, hsteps⟩ | ⟨q, B, X', hpost, hsteps⟩
  · exact Or.inl ⟨v, vm₁, B, X₁.warmed, X', hpost, fun target h => hstep₁ _ fun acts => by rw [doInvoke_state]; exact hsteps.trans h⟩
  · exact Or.inr ⟨q, vm₁, B, X₁.warmed, X', hpost, hstep₁ _ fun acts => by rw [doInvoke_state]; exact hsteps⟩
theorem vx_runU {x y : MethodName} {bytes cc : ByteArray} {maxL nL mc ms n index : Nat} {ret : Option FieldType} {ws : List Cond} {rm : Room} {Pc : Array Value → State → Prop} {Qc : Array Value → State → Outcome → State → Prop} {XC : String → State → State → Prop} {free : Addr → Prop} {Ts : List Cond} {own C owner : String} {b : Addr} {As rest : List Value} {g : JFrame}
    (S : CallFix p m c cc nL s args Ts own) (hM : vx_Met l y ws rm Pc Qc XC mc ms free) (cw : va_CU R s args own C owner index x y bytes maxL ret ws rm mc ms n) (hp : PreV s H C b Pc As)
    (hg : g.method = m) (hn : As.length = n) (hsize : g.locals.size = nL) (hstack : g.stack = As.reverse ++ .ref b :: rest) (hW : 2 * g.monitorRoom + (rest.map fun v => v.category).sum ≤ 8) (hdg : decode cc g.pc = .ok (.invokevirtual index, 3)) (hf : cells + mc ≤ R.cells ∧ slots + ms ≤ R.slots) :
    vx_Run p l e R s m args below meth c H locs cells slots mc ms g rest (Qc (Value.ref b :: As).toArray) XC free := by
  obtain ⟨hrc, hrs, hfr, hlo, hws, hcw⟩ := cw.back
  have hini := cw.init
  have hK : vx_Back l R p e below s args y 3 8 (PreOf R mc ms Pc) (PostOf Qc mc ms free) (vx_Post XC mc ms free) := vx_back (bytes := bytes) (maxL := maxL) (ret := ret) hM hp.1 hrc hrs hfr hlo hws hcw (fun a' U hW => word_at hW (Or.inl (by first | rfl | simp [Cond.onTables, Cond.keeps, Cond.steady])) hini)
  obtain ⟨hx, hb, hml, ho, -⟩ := S
  obtain ⟨-, ⟨cellB, hcB, hoB, hclB⟩, hPc⟩ := hp
  intro T hT X
  rcases vx_callVU X hx (C := C) (owner := owner) (bytes := bytes) (maxL := maxL) (ret := ret) ho cw.link cw.same cw.decl cw.notMH cw.sel cw.inst cw.code hK (by rw [hT]; exact hcB) hoB hclB hg (hsize.trans hml.symm) (argsL := As) (rest := rest) (fun sig h => hn.trans (cw.len sig h)) hstack hW (by rw [hb]; exact hdg)
    (fun vm₁ hW₁ => ⟨hf.1, hf.2, hPc (T.setVm vm₁) hT hW₁⟩) with ⟨v, vm₁, ⟨U', l2, c2, s2⟩, hW₁, X', ⟨g', mk, t, L, e1, e2, hq, h1, hL, h2, h3⟩, st⟩ | ⟨q, vm₁, ⟨U', l2, c2, s2⟩, hW₁, X', ⟨g', mk, t, L, E, ce, e1, e2, hq, hce, hcv, hcl, h1, hL, h2, h3⟩, st⟩
  · dsimp only [Pt.U, Pt.locs, Pt.cells, Pt.slots] at X' e1 e2 h1 h2 h3 st
    subst h1; subst h2; subst h3
    exact Or.inl ⟨v, (T.setVm vm₁).calling g' mk (Value.ref b :: As).toArray, t, U', L, hT, X', hL, e1, e2, hq, st⟩
  · dsimp only [Pt.U, Pt.locs, Pt.cells, Pt.slots] at X' e1 e2 h1 h2 h3 st hcl
    subst h1; subst h2; subst h3
    exact Or.inr ⟨q, (T.setVm vm₁).calling g' mk (Value.ref b :: As).toArray, t, U', L, E, ce, hT, X', hL, e1, e2, hq, hce, hcv, vx_cls hW₁ hcl, st⟩
end
/-! ===== END ===== -/
/-! ===== BEGIN super.m(..) that may throw (follows va_callSU, va_runSU) ===== -/
section
variable {p : Program} {l : Launch} {e : Env} {R : Room} {s : State} {m : MethodId} {args : Array Value} {below : List Frame} {meth : Method} {c : Code} {H : Heap} {locs : List Loc} {cells slots : Nat}
theorem vx_callSU {T : State} {locs : List Loc} {cells slots : Nat} (X : Stand p l e R s m args below meth c T locs cells slots) (hexec : p.tables.exec = Jvm.exec) {own : String} {index : Nat} {y : MethodName} {bytes : ByteArray} {maxL : Nat} {ret : Option FieldType}
    (hown : s.vm.findClass own = some m.cls) (hlink : (Cond.methodLink own index y).before args s = true) (hsame : (Cond.sameMethod y.cls y.cls y.name y.desc).before args s = true) (hsup : (Cond.superclass own y.cls).before args s = true)
    (hinst : (Cond.instanceMethod y).before args s = true) (hcode : (Cond.code y bytes maxL ret).before args s = true) (hno : y.name ≠ "<init>")
    {W : Nat} {Pre : Pt → Array Value → Prop} {Post : Pt → Array Value → Option Value → Pt → Prop} {PostX : Pt → Array Value → Addr → Pt → Prop} (hK : vx_Back l R p e below s args y 3 W Pre Post PostX)
    {b : Addr} {cellB : Cell} {kB : Class} (hcell : T.heap[b]? = some cellB) (hobj : cellB.vm.isStatics = false) (hkB : s.vm.classes[cellB.cls]? = some kB)
    {g : JFrame} (hg : g.method = m) (hsize : g.locals.size = c.maxLocals) {argsL rest : List Value} (hlen : ∀ sig, parseMethodDescriptor y.desc = some sig → argsL.length = sig.parameters.length)
    (hstack : g.stack = argsL.reverse ++ .ref b :: rest) (hW : 2 * g.monitorRoom + (rest.map fun v => v.category).sum ≤ W) (hdg : decode c.code g.pc = .ok (.invokespecial index, 3))
    (hpre : ∀ vm₁, s.WarmedH vm₁ → Pre ⟨T.setVm vm₁, locs, cells, slots⟩ (Value.ref b :: argsL).toArray) :
    (∃ (v : Option Value) (vm₁ : Vm) (B : Pt), s.WarmedH vm₁ ∧ Stand p l e R s m args below meth c B.U B.locs B.cells B.slots ∧ Post ⟨T.setVm vm₁, locs, cells, slots⟩ (Value.ref b :: argsL).toArray v B ∧
      ∀ target, Steps p.tables e below (B.U.setTop { g with pc := g.pc + 3, stack := v.toList ++ rest }) target → Steps p.tables e below (T.setTop g) target) ∨
    (∃ (q : Addr) (vm₁ : Vm) (B : Pt), s.WarmedH vm₁ ∧ Stand p l e R s m args below meth c B.U B.locs B.cells B.slots ∧ PostX ⟨T.setVm vm₁, locs, cells, slots⟩ (Value.ref b :: argsL).toArray q B ∧
      Steps p.tables e below (T.setTop g) ((B.U.setTop { g with stack := rest }).pushFrame (.throwing q))) := by
  obtain ⟨mk, methM, hnamed, hmethM, hstM, habM⟩ := Cond.instanceMethod_spec hinst
  obtain ⟨methM', cM, hmethM', -, -, -, -, -, -, hsigM⟩ := Cond.code_spec hnamed hcode
  cases hmethM.symm.trans hmethM'
  obtain ⟨ps, dk, kp, hps, hdk, hkp, hsuper, -, -, hnid⟩ := Cond.superclass_spec hown hsup
  have hn : s.methodNamed? ⟨y.cls, y.name, y.desc⟩ = some mk := hnamed
  have hpm : ps = mk.cls := Option.some.inj (hps.symm.trans (findClass_of_methodNamed hnamed))
  have hsub : s.vm.isSubclass ps mk.cls = true := by rw [hpm]; simp [Vm.isSubclass, Vm.isSubclassAux]
  obtain ⟨vm₁, X₁, hstep₁⟩ := X.invokespecialUp hexec hown hlink hsame hn hmethM hstM habM hno hdk hnid hps hsuper hsub (a := b) (cell := cellB) hcell
    (fun z h => by rw [h] at hobj; cases hobj) hkB (g := g) hg (argsL := argsL) (rest := rest) (hlen _ hsigM) hstack hdg
  rcases hK m meth c ⟨T.setVm vm₁, locs, cells, slots⟩ { g with stack := rest } (.invokespecial index) mk (Value.ref b :: argsL).toArray X₁ hg hsize hdg hW (X₁.named hnamed) (hpre vm₁ X₁.warmed) with ⟨v, B, X', hpost, hsteps⟩ | ⟨q, B, X', hpost, hsteps⟩
  · exact Or.inl ⟨v, vm₁, B, X₁.warmed, X', hpost, fun target h => hstep₁ _ (by rw [doInvoke_state]; exact hsteps.trans h)⟩
  · exact Or.inr ⟨q, vm₁, B, X₁.warmed, X', hpost, hstep₁ _ (by rw [doInvoke_state]; exact hsteps)⟩
theorem vx_runSU {y : MethodName} {bytes cc : ByteArray} {maxL nL mc ms n index : Nat} {ret : Option FieldType} {ws : List Cond} {rm : Room} {Pc : Array Value → State → Prop} {Qc : Array Value → State → Outcome → State → Prop} {XC : String → State → State → Prop} {free : Addr → Prop} {Ts : List Cond} {own C : String} {cC : ClassId} {b : Addr} {As rest : List Value} {g : JFrame}
    (hat : ClassAt s C cC) (S : CallFix p m c cc nL s args Ts own) (hM : vx_Met l y ws rm Pc Qc XC mc ms free) (cw : va_CS R s args own index y bytes maxL ret ws rm mc ms n) (hp : PreV s H C b Pc As)
    (hg : g.method = m) (hn : As.length = n) (hsize : g.locals.size = nL) (hstack : g.stack = As.reverse ++ .ref b :: rest) (hW : 2 * g.monitorRoom + (rest.map fun v => v.category).sum ≤ 8) (hdg : decode cc g.pc = .ok (.invokespecial index, 3)) (hf : cells + mc ≤ R.cells ∧ slots + ms ≤ R.slots) :
    vx_Run p l e R s m args below meth c H locs cells slots mc ms g rest (Qc (Value.ref b :: As).toArray) XC free := by
  obtain ⟨⟨hrc, hrs, hfr, hlo, hws, hcw⟩, hl1, hl2, hl3, hl4, hini, hcode, hno, hlen⟩ := cw
  have hK : vx_Back l R p e below s args y 3 8 (PreOf R mc ms Pc) (PostOf Qc mc ms free) (vx_Post XC mc ms free) := vx_back (bytes := bytes) (maxL := maxL) (ret := ret) hM hp.1 hrc hrs hfr hlo hws hcw (fun a' U hW => word_at hW (Or.inl (by first | rfl | simp [Cond.onTables, Cond.keeps, Cond.steady])) hini)
  obtain ⟨hx, hb, hml, ho, -⟩ := S
  obtain ⟨-, ⟨cellB, hcB, hoB, hclB⟩, hPc⟩ := hp
  obtain ⟨hfc, kB, hkB, -⟩ := hat
  cases hfc.symm.trans hclB
  intro T hT X
  rcases vx_callSU X hx (bytes := bytes) (maxL := maxL) (ret := ret) ho hl1 hl2 hl3 hl4 hcode hno hK (by rw [hT]; exact hcB) hoB hkB hg (hsize.trans hml.symm) (argsL := As) (rest := rest) (fun sig h => hn.trans (hlen sig h)) hstack hW (by rw [hb]; exact hdg)
    (fun vm₁ hW₁ => ⟨hf.1, hf.2, hPc (T.setVm vm₁) hT hW₁⟩) with ⟨v, vm₁, ⟨U', l2, c2, s2⟩, hW₁, X', ⟨g', mk, t, L, e1, e2, hq, h1, hL, h2, h3⟩, st⟩ | ⟨q, vm₁, ⟨U', l2, c2, s2⟩, hW₁, X', ⟨g', mk, t, L, E, ce, e1, e2, hq, hce, hcv, hcl, h1, hL, h2, h3⟩, st⟩
  · dsimp only [Pt.U, Pt.locs, Pt.cells, Pt.slots] at X' e1 e2 h1 h2 h3 st
    subst h1; subst h2; subst h3
    exact Or.inl ⟨v, (T.setVm vm₁).calling g' mk (Value.ref b :: As).toArray, t, U', L, hT, X', hL, e1, e2, hq, st⟩
  · dsimp only [Pt.U, Pt.locs, Pt.cells, Pt.slots] at X' e1 e2 h1 h2 h3 st hcl
    subst h1; subst h2; subst h3
    exact Or.inr ⟨q, (T.setVm vm₁).calling g' mk (Value.ref b :: As).toArray, t, U', L, E, ce, hT, X', hL, e1, e2, hq, hce, hcv, vx_cls hW₁ hcl, st⟩
end
/-! ===== END ===== -/
end
section
-- ===== PART A: goes FIRST, ahead of the names: the tables' words, and 'selects' of the private methods out of them =====
/-- a private method of a class that the tables say can be made, by its rows of tables_1 -/
def lw_okq (q : MethodName × Nat) : Prop := (q.1.cls ≠ "java/lang/invoke/MethodHandle" ∧ q.1.cls ≠ "java/lang/invoke/VarHandle") ∧ Cond.instantiable q.1.cls q.2 ∈ tables_1 ∧ Cond.privateMethod q.1 ∈ tables_1 ∧ Cond.instanceMethod q.1 ∈ tables_1
theorem lw_p0 : lw_okq (⟨"PseudoBoolean", "models", "()LPseudoBoolean$ModelSet;"⟩, 18) := ⟨⟨by decide +kernel, by decide +kernel⟩, List.mem_of_getElem? (i := 35) (by decide +kernel), List.mem_of_getElem? (i := 304) (by decide +kernel), List.mem_of_getElem? (i := 305) (by decide +kernel)⟩
theorem lw_p1 : lw_okq (⟨"PseudoBoolean", "decidedTrue", "()I"⟩, 18) := ⟨⟨by decide +kernel, by decide +kernel⟩, List.mem_of_getElem? (i := 35) (by decide +kernel), List.mem_of_getElem? (i := 308) (by decide +kernel), List.mem_of_getElem? (i := 309) (by decide +kernel)⟩
theorem lw_p2 : lw_okq (⟨"PseudoBoolean", "decidedFalse", "()I"⟩, 18) := ⟨⟨by decide +kernel, by decide +kernel⟩, List.mem_of_getElem? (i := 35) (by decide +kernel), List.mem_of_getElem? (i := 316) (by decide +kernel), List.mem_of_getElem? (i := 317) (by decide +kernel)⟩
theorem lw_p3 : lw_okq (⟨"PseudoBoolean$ModelSet", "matching", "(III)J"⟩, 1) := ⟨⟨by decide +kernel, by decide +kernel⟩, List.mem_of_getElem? (i := 215) (by decide +kernel), List.mem_of_getElem? (i := 327) (by decide +kernel), List.mem_of_getElem? (i := 328) (by decide +kernel)⟩
theorem lw_p4 : lw_okq (⟨"java/lang/Throwable", "fillInStackTrace", "(I)Ljava/lang/Throwable;"⟩, 6) := ⟨⟨by decide +kernel, by decide +kernel⟩, List.mem_of_getElem? (i := 408) (by decide +kernel), List.mem_of_getElem? (i := 406) (by decide +kernel), List.mem_of_getElem? (i := 407) (by decide +kernel)⟩
theorem lw_p5 : lw_okq (⟨"PseudoBoolean$Reader", "nextToken", "()V"⟩, 9) := ⟨⟨by decide +kernel, by decide +kernel⟩, List.mem_of_getElem? (i := 58) (by decide +kernel), List.mem_of_getElem? (i := 477) (by decide +kernel), List.mem_of_getElem? (i := 478) (by decide +kernel)⟩
theorem lw_p6 : lw_okq (⟨"PseudoBoolean$Reader", "takeNumber", "()V"⟩, 9) := ⟨⟨by decide +kernel, by decide +kernel⟩, List.mem_of_getElem? (i := 58) (by decide +kernel), List.mem_of_getElem? (i := 488) (by decide +kernel), List.mem_of_getElem? (i := 489) (by decide +kernel)⟩
theorem lw_p7 : lw_okq (⟨"PseudoBoolean$Reader", "take", "(II)V"⟩, 9) := ⟨⟨by decide +kernel, by decide +kernel⟩, List.mem_of_getElem? (i := 58) (by decide +kernel), List.mem_of_getElem? (i := 492) (by decide +kernel), List.mem_of_getElem? (i := 493) (by decide +kernel)⟩
theorem lw_p8 : lw_okq (⟨"PseudoBoolean$Reader", "takeSymbol", "(I)V"⟩, 9) := ⟨⟨by decide +kernel, by decide +kernel⟩, List.mem_of_getElem? (i := 58) (by decide +kernel), List.mem_of_getElem? (i := 496) (by decide +kernel), List.mem_of_getElem? (i := 497) (by decide +kernel)⟩
theorem lw_p9 : lw_okq (⟨"PseudoBoolean$Reader", "readSum", "()Z"⟩, 9) := ⟨⟨by decide +kernel, by decide +kernel⟩, List.mem_of_getElem? (i := 58) (by decide +kernel), List.mem_of_getElem? (i := 500) (by decide +kernel), List.mem_of_getElem? (i := 501) (by decide +kernel)⟩
theorem lw_p10 : lw_okq (⟨"PseudoBoolean$Reader", "skipMinus", "()Z"⟩, 9) := ⟨⟨by decide +kernel, by decide +kernel⟩, List.mem_of_getElem? (i := 58) (by decide +kernel), List.mem_of_getElem? (i := 504) (by decide +kernel), List.mem_of_getElem? (i := 505) (by decide +kernel)⟩
theorem lw_p11 : lw_okq (⟨"PseudoBoolean$Reader", "readTerm", "(Z)Z"⟩, 9) := ⟨⟨by decide +kernel, by decide +kernel⟩, List.mem_of_getElem? (i := 58) (by decide +kernel), List.mem_of_getElem? (i := 508) (by decide +kernel), List.mem_of_getElem? (i := 509) (by decide +kernel)⟩
theorem lw_p12 : lw_okq (⟨"PseudoBoolean$Reader", "readRelation", "()Z"⟩, 9) := ⟨⟨by decide +kernel, by decide +kernel⟩, List.mem_of_getElem? (i := 58) (by decide +kernel), List.mem_of_getElem? (i := 512) (by decide +kernel), List.mem_of_getElem? (i := 513) (by decide +kernel)⟩
theorem lw_p13 : lw_okq (⟨"PseudoBoolean$Reader", "readBound", "()Z"⟩, 9) := ⟨⟨by decide +kernel, by decide +kernel⟩, List.mem_of_getElem? (i := 58) (by decide +kernel), List.mem_of_getElem? (i := 516) (by decide +kernel), List.mem_of_getElem? (i := 517) (by decide +kernel)⟩
theorem lw_p14 : lw_okq (⟨"PseudoBoolean", "closeText", "(Z)V"⟩, 18) := ⟨⟨by decide +kernel, by decide +kernel⟩, List.mem_of_getElem? (i := 35) (by decide +kernel), List.mem_of_getElem? (i := 520) (by decide +kernel), List.mem_of_getElem? (i := 521) (by decide +kernel)⟩
theorem lw_p15 : lw_okq (⟨"PseudoBoolean", "requireRoom", "(I)V"⟩, 18) := ⟨⟨by decide +kernel, by decide +kernel⟩, List.mem_of_getElem? (i := 35) (by decide +kernel), List.mem_of_getElem? (i := 529) (by decide +kernel), List.mem_of_getElem? (i := 530) (by decide +kernel)⟩
def lw_privs_1 : List (MethodName × Nat) := [(⟨"PseudoBoolean", "models", "()LPseudoBoolean$ModelSet;"⟩, 18), (⟨"PseudoBoolean", "decidedTrue", "()I"⟩, 18), (⟨"PseudoBoolean", "decidedFalse", "()I"⟩, 18), (⟨"PseudoBoolean$ModelSet", "matching", "(III)J"⟩, 1), (⟨"java/lang/Throwable", "fillInStackTrace", "(I)Ljava/lang/Throwable;"⟩, 6), (⟨"PseudoBoolean$Reader", "nextToken", "()V"⟩, 9), (⟨"PseudoBoolean$Reader", "takeNumber", "()V"⟩, 9), (⟨"PseudoBoolean$Reader", "take", "(II)V"⟩, 9), (⟨"PseudoBoolean$Reader", "takeSymbol", "(I)V"⟩, 9), (⟨"PseudoBoolean$Reader", "readSum", "()Z"⟩, 9), (⟨"PseudoBoolean$Reader", "skipMinus", "()Z"⟩, 9), (⟨"PseudoBoolean$Reader", "readTerm", "(Z)Z"⟩, 9), (⟨"PseudoBoolean$Reader", "readRelation", "()Z"⟩, 9), (⟨"PseudoBoolean$Reader", "readBound", "()Z"⟩, 9), (⟨"PseudoBoolean", "closeText", "(Z)V"⟩, 18), (⟨"PseudoBoolean", "requireRoom", "(I)V"⟩, 18)]
theorem lw_r1 : ∀ q ∈ lw_privs_1, lw_okq q := List.forall_mem_cons.mpr ⟨lw_p0, List.forall_mem_cons.mpr ⟨lw_p1, List.forall_mem_cons.mpr ⟨lw_p2, List.forall_mem_cons.mpr ⟨lw_p3, List.forall_mem_cons.mpr ⟨lw_p4, List.forall_mem_cons.mpr ⟨lw_p5, List.forall_mem_cons.mpr ⟨lw_p6, List.forall_mem_cons.mpr ⟨lw_p7, List.forall_mem_cons.mpr ⟨lw_p8, List.forall_mem_cons.mpr ⟨lw_p9, List.forall_mem_cons.mpr ⟨lw_p10, List.forall_mem_cons.mpr ⟨lw_p11, List.forall_mem_cons.mpr ⟨lw_p12, List.forall_mem_cons.mpr ⟨lw_p13, List.forall_mem_cons.mpr ⟨lw_p14, List.forall_mem_cons.mpr ⟨lw_p15, fun _ h => absurd h List.not_mem_nil⟩⟩⟩⟩⟩⟩⟩⟩⟩⟩⟩⟩⟩⟩⟩⟩
theorem lw_p16 : lw_okq (⟨"PseudoBoolean$Reader", "draftTimes", "(LPseudoBoolean$Draft;I)V"⟩, 9) := ⟨⟨by decide +kernel, by decide +kernel⟩, List.mem_of_getElem? (i := 58) (by decide +kernel), List.mem_of_getElem? (i := 542) (by decide +kernel), List.mem_of_getElem? (i := 543) (by decide +kernel)⟩
theorem lw_p17 : lw_okq (⟨"PseudoBoolean", "addDraft", "()I"⟩, 18) := ⟨⟨by decide +kernel, by decide +kernel⟩, List.mem_of_getElem? (i := 35) (by decide +kernel), List.mem_of_getElem? (i := 555) (by decide +kernel), List.mem_of_getElem? (i := 556) (by decide +kernel)⟩
theorem lw_p18 : lw_okq (⟨"PseudoBoolean$MaskSums", "addVariable", "(IJJ)V"⟩, 2) := ⟨⟨by decide +kernel, by decide +kernel⟩, List.mem_of_getElem? (i := 166) (by decide +kernel), List.mem_of_getElem? (i := 577) (by decide +kernel), List.mem_of_getElem? (i := 578) (by decide +kernel)⟩
theorem lw_p19 : lw_okq (⟨"PseudoBoolean", "propagate", "()V"⟩, 18) := ⟨⟨by decide +kernel, by decide +kernel⟩, List.mem_of_getElem? (i := 35) (by decide +kernel), List.mem_of_getElem? (i := 589) (by decide +kernel), List.mem_of_getElem? (i := 590) (by decide +kernel)⟩
theorem lw_p20 : lw_okq (⟨"PseudoBoolean", "draftIsImplied", "()Z"⟩, 18) := ⟨⟨by decide +kernel, by decide +kernel⟩, List.mem_of_getElem? (i := 35) (by decide +kernel), List.mem_of_getElem? (i := 634) (by decide +kernel), List.mem_of_getElem? (i := 635) (by decide +kernel)⟩
theorem lw_p21 : lw_okq (⟨"PseudoBoolean", "requireConstraint", "(I)V"⟩, 18) := ⟨⟨by decide +kernel, by decide +kernel⟩, List.mem_of_getElem? (i := 35) (by decide +kernel), List.mem_of_getElem? (i := 673) (by decide +kernel), List.mem_of_getElem? (i := 674) (by decide +kernel)⟩
theorem lw_p22 : lw_okq (⟨"PseudoBoolean$Constraint", "appendTermTo", "(Ljava/lang/StringBuilder;I)V"⟩, 3) := ⟨⟨by decide +kernel, by decide +kernel⟩, List.mem_of_getElem? (i := 145) (by decide +kernel), List.mem_of_getElem? (i := 951) (by decide +kernel), List.mem_of_getElem? (i := 952) (by decide +kernel)⟩
theorem lw_p23 : lw_okq (⟨"PseudoBoolean$Constraint", "greatestOutside", "(I)I"⟩, 3) := ⟨⟨by decide +kernel, by decide +kernel⟩, List.mem_of_getElem? (i := 145) (by decide +kernel), List.mem_of_getElem? (i := 1046) (by decide +kernel), List.mem_of_getElem? (i := 1047) (by decide +kernel)⟩
theorem lw_p24 : lw_okq (⟨"PseudoBoolean", "addBoundedDraft", "()I"⟩, 18) := ⟨⟨by decide +kernel, by decide +kernel⟩, List.mem_of_getElem? (i := 35) (by decide +kernel), List.mem_of_getElem? (i := 1076) (by decide +kernel), List.mem_of_getElem? (i := 1077) (by decide +kernel)⟩
theorem lw_p25 : lw_okq (⟨"PseudoBoolean", "areExclusive", "(II)Z"⟩, 18) := ⟨⟨by decide +kernel, by decide +kernel⟩, List.mem_of_getElem? (i := 35) (by decide +kernel), List.mem_of_getElem? (i := 1171) (by decide +kernel), List.mem_of_getElem? (i := 1172) (by decide +kernel)⟩
theorem lw_p26 : lw_okq (⟨"PseudoBoolean", "excludesAll", "(II)Z"⟩, 18) := ⟨⟨by decide +kernel, by decide +kernel⟩, List.mem_of_getElem? (i := 35) (by decide +kernel), List.mem_of_getElem? (i := 1186) (by decide +kernel), List.mem_of_getElem? (i := 1187) (by decide +kernel)⟩
theorem lw_p27 : lw_okq (⟨"PseudoBoolean", "hasModelWith", "(II)Z"⟩, 18) := ⟨⟨by decide +kernel, by decide +kernel⟩, List.mem_of_getElem? (i := 35) (by decide +kernel), List.mem_of_getElem? (i := 1285) (by decide +kernel), List.mem_of_getElem? (i := 1286) (by decide +kernel)⟩
theorem lw_p28 : lw_okq (⟨"PseudoBoolean", "findCheapest", "()I"⟩, 18) := ⟨⟨by decide +kernel, by decide +kernel⟩, List.mem_of_getElem? (i := 35) (by decide +kernel), List.mem_of_getElem? (i := 1304) (by decide +kernel), List.mem_of_getElem? (i := 1305) (by decide +kernel)⟩
theorem lw_p29 : lw_okq (⟨"PseudoBooleanModel", "no", "(I)I"⟩, 32) := ⟨⟨by decide +kernel, by decide +kernel⟩, List.mem_of_getElem? (i := 1371) (by decide +kernel), List.mem_of_getElem? (i := 1483) (by decide +kernel), List.mem_of_getElem? (i := 1484) (by decide +kernel)⟩
theorem lw_p30 : lw_okq (⟨"PseudoBooleanModel", "parse", "()Z"⟩, 32) := ⟨⟨by decide +kernel, by decide +kernel⟩, List.mem_of_getElem? (i := 1371) (by decide +kernel), List.mem_of_getElem? (i := 1495) (by decide +kernel), List.mem_of_getElem? (i := 1496) (by decide +kernel)⟩
theorem lw_p31 : lw_okq (⟨"PseudoBooleanModel", "next", "()V"⟩, 32) := ⟨⟨by decide +kernel, by decide +kernel⟩, List.mem_of_getElem? (i := 1371) (by decide +kernel), List.mem_of_getElem? (i := 1499) (by decide +kernel), List.mem_of_getElem? (i := 1500) (by decide +kernel)⟩
def lw_privs_2 : List (MethodName × Nat) := [(⟨"PseudoBoolean$Reader", "draftTimes", "(LPseudoBoolean$Draft;I)V"⟩, 9), (⟨"PseudoBoolean", "addDraft", "()I"⟩, 18), (⟨"PseudoBoolean$MaskSums", "addVariable", "(IJJ)V"⟩, 2), (⟨"PseudoBoolean", "propagate", "()V"⟩, 18), (⟨"PseudoBoolean", "draftIsImplied", "()Z"⟩, 18), (⟨"PseudoBoolean", "requireConstraint", "(I)V"⟩, 18), (⟨"PseudoBoolean$Constraint", "appendTermTo", "(Ljava/lang/StringBuilder;I)V"⟩, 3), (⟨"PseudoBoolean$Constraint", "greatestOutside", "(I)I"⟩, 3), (⟨"PseudoBoolean", "addBoundedDraft", "()I"⟩, 18), (⟨"PseudoBoolean", "areExclusive", "(II)Z"⟩, 18), (⟨"PseudoBoolean", "excludesAll", "(II)Z"⟩, 18), (⟨"PseudoBoolean", "hasModelWith", "(II)Z"⟩, 18), (⟨"PseudoBoolean", "findCheapest", "()I"⟩, 18), (⟨"PseudoBooleanModel", "no", "(I)I"⟩, 32), (⟨"PseudoBooleanModel", "parse", "()Z"⟩, 32), (⟨"PseudoBooleanModel", "next", "()V"⟩, 32)]
theorem lw_r2 : ∀ q ∈ lw_privs_2, lw_okq q := List.forall_mem_cons.mpr ⟨lw_p16, List.forall_mem_cons.mpr ⟨lw_p17, List.forall_mem_cons.mpr ⟨lw_p18, List.forall_mem_cons.mpr ⟨lw_p19, List.forall_mem_cons.mpr ⟨lw_p20, List.forall_mem_cons.mpr ⟨lw_p21, List.forall_mem_cons.mpr ⟨lw_p22, List.forall_mem_cons.mpr ⟨lw_p23, List.forall_mem_cons.mpr ⟨lw_p24, List.forall_mem_cons.mpr ⟨lw_p25, List.forall_mem_cons.mpr ⟨lw_p26, List.forall_mem_cons.mpr ⟨lw_p27, List.forall_mem_cons.mpr ⟨lw_p28, List.forall_mem_cons.mpr ⟨lw_p29, List.forall_mem_cons.mpr ⟨lw_p30, List.forall_mem_cons.mpr ⟨lw_p31, fun _ h => absurd h List.not_mem_nil⟩⟩⟩⟩⟩⟩⟩⟩⟩⟩⟩⟩⟩⟩⟩⟩
theorem lw_p32 : lw_okq (⟨"PseudoBooleanModel", "peek", "(I)I"⟩, 32) := ⟨⟨by decide +kernel, by decide +kernel⟩, List.mem_of_getElem? (i := 1371) (by decide +kernel), List.mem_of_getElem? (i := 1503) (by decide +kernel), List.mem_of_getElem? (i := 1504) (by decide +kernel)⟩
theorem lw_p33 : lw_okq (⟨"PseudoBooleanModel", "term", "(Z)V"⟩, 32) := ⟨⟨by decide +kernel, by decide +kernel⟩, List.mem_of_getElem? (i := 1371) (by decide +kernel), List.mem_of_getElem? (i := 1510) (by decide +kernel), List.mem_of_getElem? (i := 1511) (by decide +kernel)⟩
theorem lw_p34 : lw_okq (⟨"PseudoBooleanModel", "numberRead", "()J"⟩, 32) := ⟨⟨by decide +kernel, by decide +kernel⟩, List.mem_of_getElem? (i := 1371) (by decide +kernel), List.mem_of_getElem? (i := 1514) (by decide +kernel), List.mem_of_getElem? (i := 1515) (by decide +kernel)⟩
theorem lw_p35 : lw_okq (⟨"PseudoBooleanModel", "wrong", "()V"⟩, 32) := ⟨⟨by decide +kernel, by decide +kernel⟩, List.mem_of_getElem? (i := 1371) (by decide +kernel), List.mem_of_getElem? (i := 1518) (by decide +kernel), List.mem_of_getElem? (i := 1519) (by decide +kernel)⟩
theorem lw_p36 : lw_okq (⟨"PseudoBooleanModel", "isWell", "()Z"⟩, 32) := ⟨⟨by decide +kernel, by decide +kernel⟩, List.mem_of_getElem? (i := 1371) (by decide +kernel), List.mem_of_getElem? (i := 1524) (by decide +kernel), List.mem_of_getElem? (i := 1525) (by decide +kernel)⟩
theorem lw_p37 : lw_okq (⟨"PseudoBooleanModel", "isLow", "()Z"⟩, 32) := ⟨⟨by decide +kernel, by decide +kernel⟩, List.mem_of_getElem? (i := 1371) (by decide +kernel), List.mem_of_getElem? (i := 1528) (by decide +kernel), List.mem_of_getElem? (i := 1529) (by decide +kernel)⟩
theorem lw_p38 : lw_okq (⟨"PseudoBooleanModel", "make", "(Z)V"⟩, 32) := ⟨⟨by decide +kernel, by decide +kernel⟩, List.mem_of_getElem? (i := 1371) (by decide +kernel), List.mem_of_getElem? (i := 1532) (by decide +kernel), List.mem_of_getElem? (i := 1533) (by decide +kernel)⟩
theorem lw_p39 : lw_okq (⟨"PseudoBooleanModel", "clear", "()V"⟩, 32) := ⟨⟨by decide +kernel, by decide +kernel⟩, List.mem_of_getElem? (i := 1371) (by decide +kernel), List.mem_of_getElem? (i := 1536) (by decide +kernel), List.mem_of_getElem? (i := 1537) (by decide +kernel)⟩
theorem lw_p40 : lw_okq (⟨"PseudoBooleanModel", "addTerm", "(JI)V"⟩, 32) := ⟨⟨by decide +kernel, by decide +kernel⟩, List.mem_of_getElem? (i := 1371) (by decide +kernel), List.mem_of_getElem? (i := 1540) (by decide +kernel), List.mem_of_getElem? (i := 1541) (by decide +kernel)⟩
theorem lw_p41 : lw_okq (⟨"PseudoBooleanModel", "normalize", "()V"⟩, 32) := ⟨⟨by decide +kernel, by decide +kernel⟩, List.mem_of_getElem? (i := 1371) (by decide +kernel), List.mem_of_getElem? (i := 1544) (by decide +kernel), List.mem_of_getElem? (i := 1545) (by decide +kernel)⟩
theorem lw_p42 : lw_okq (⟨"PseudoBooleanModel", "add", "()I"⟩, 32) := ⟨⟨by decide +kernel, by decide +kernel⟩, List.mem_of_getElem? (i := 1371) (by decide +kernel), List.mem_of_getElem? (i := 1550) (by decide +kernel), List.mem_of_getElem? (i := 1551) (by decide +kernel)⟩
theorem lw_p43 : lw_okq (⟨"PseudoBooleanModel", "propagate", "()V"⟩, 32) := ⟨⟨by decide +kernel, by decide +kernel⟩, List.mem_of_getElem? (i := 1371) (by decide +kernel), List.mem_of_getElem? (i := 1554) (by decide +kernel), List.mem_of_getElem? (i := 1555) (by decide +kernel)⟩
theorem lw_p44 : lw_okq (⟨"PseudoBooleanModel", "slackOf", "(I[I)J"⟩, 32) := ⟨⟨by decide +kernel, by decide +kernel⟩, List.mem_of_getElem? (i := 1371) (by decide +kernel), List.mem_of_getElem? (i := 1558) (by decide +kernel), List.mem_of_getElem? (i := 1559) (by decide +kernel)⟩
theorem lw_p45 : lw_okq (⟨"PseudoBooleanModel", "of", "(II)J"⟩, 32) := ⟨⟨by decide +kernel, by decide +kernel⟩, List.mem_of_getElem? (i := 1371) (by decide +kernel), List.mem_of_getElem? (i := 1562) (by decide +kernel), List.mem_of_getElem? (i := 1563) (by decide +kernel)⟩
theorem lw_p46 : lw_okq (⟨"PseudoBooleanModel", "fill", "(I)Z"⟩, 32) := ⟨⟨by decide +kernel, by decide +kernel⟩, List.mem_of_getElem? (i := 1371) (by decide +kernel), List.mem_of_getElem? (i := 1566) (by decide +kernel), List.mem_of_getElem? (i := 1567) (by decide +kernel)⟩
theorem lw_p47 : lw_okq (⟨"PseudoBooleanModel", "isHigh", "()Z"⟩, 32) := ⟨⟨by decide +kernel, by decide +kernel⟩, List.mem_of_getElem? (i := 1371) (by decide +kernel), List.mem_of_getElem? (i := 1570) (by decide +kernel), List.mem_of_getElem? (i := 1571) (by decide +kernel)⟩
def lw_privs_3 : List (MethodName × Nat) := [(⟨"PseudoBooleanModel", "peek", "(I)I"⟩, 32), (⟨"PseudoBooleanModel", "term", "(Z)V"⟩, 32), (⟨"PseudoBooleanModel", "numberRead", "()J"⟩, 32), (⟨"PseudoBooleanModel", "wrong", "()V"⟩, 32), (⟨"PseudoBooleanModel", "isWell", "()Z"⟩, 32), (⟨"PseudoBooleanModel", "isLow", "()Z"⟩, 32), (⟨"PseudoBooleanModel", "make", "(Z)V"⟩, 32), (⟨"PseudoBooleanModel", "clear", "()V"⟩, 32), (⟨"PseudoBooleanModel", "addTerm", "(JI)V"⟩, 32), (⟨"PseudoBooleanModel", "normalize", "()V"⟩, 32), (⟨"PseudoBooleanModel", "add", "()I"⟩, 32), (⟨"PseudoBooleanModel", "propagate", "()V"⟩, 32), (⟨"PseudoBooleanModel", "slackOf", "(I[I)J"⟩, 32), (⟨"PseudoBooleanModel", "of", "(II)J"⟩, 32), (⟨"PseudoBooleanModel", "fill", "(I)Z"⟩, 32), (⟨"PseudoBooleanModel", "isHigh", "()Z"⟩, 32)]
theorem lw_r3 : ∀ q ∈ lw_privs_3, lw_okq q := List.forall_mem_cons.mpr ⟨lw_p32, List.forall_mem_cons.mpr ⟨lw_p33, List.forall_mem_cons.mpr ⟨lw_p34, List.forall_mem_cons.mpr ⟨lw_p35, List.forall_mem_cons.mpr ⟨lw_p36, List.forall_mem_cons.mpr ⟨lw_p37, List.forall_mem_cons.mpr ⟨lw_p38, List.forall_mem_cons.mpr ⟨lw_p39, List.forall_mem_cons.mpr ⟨lw_p40, List.forall_mem_cons.mpr ⟨lw_p41, List.forall_mem_cons.mpr ⟨lw_p42, List.forall_mem_cons.mpr ⟨lw_p43, List.forall_mem_cons.mpr ⟨lw_p44, List.forall_mem_cons.mpr ⟨lw_p45, List.forall_mem_cons.mpr ⟨lw_p46, List.forall_mem_cons.mpr ⟨lw_p47, fun _ h => absurd h List.not_mem_nil⟩⟩⟩⟩⟩⟩⟩⟩⟩⟩⟩⟩⟩⟩⟩⟩
theorem lw_p48 : lw_okq (⟨"PseudoBooleanModel", "isMadeImplied", "()Z"⟩, 32) := ⟨⟨by decide +kernel, by decide +kernel⟩, List.mem_of_getElem? (i := 1371) (by decide +kernel), List.mem_of_getElem? (i := 1578) (by decide +kernel), List.mem_of_getElem? (i := 1579) (by decide +kernel)⟩
theorem lw_p49 : lw_okq (⟨"PseudoBooleanModel", "isModel", "(I)Z"⟩, 32) := ⟨⟨by decide +kernel, by decide +kernel⟩, List.mem_of_getElem? (i := 1371) (by decide +kernel), List.mem_of_getElem? (i := 1582) (by decide +kernel), List.mem_of_getElem? (i := 1583) (by decide +kernel)⟩
theorem lw_p50 : lw_okq (⟨"PseudoBooleanModel", "isMadeTrue", "(I)Z"⟩, 32) := ⟨⟨by decide +kernel, by decide +kernel⟩, List.mem_of_getElem? (i := 1371) (by decide +kernel), List.mem_of_getElem? (i := 1589) (by decide +kernel), List.mem_of_getElem? (i := 1590) (by decide +kernel)⟩
theorem lw_p51 : lw_okq (⟨"PseudoBooleanModel", "isConstraint", "(I)Z"⟩, 32) := ⟨⟨by decide +kernel, by decide +kernel⟩, List.mem_of_getElem? (i := 1371) (by decide +kernel), List.mem_of_getElem? (i := 1601) (by decide +kernel), List.mem_of_getElem? (i := 1602) (by decide +kernel)⟩
theorem lw_p52 : lw_okq (⟨"PseudoBooleanModel", "put", "(I)V"⟩, 32) := ⟨⟨by decide +kernel, by decide +kernel⟩, List.mem_of_getElem? (i := 1371) (by decide +kernel), List.mem_of_getElem? (i := 1605) (by decide +kernel), List.mem_of_getElem? (i := 1606) (by decide +kernel)⟩
theorem lw_p53 : lw_okq (⟨"PseudoBooleanModel", "putNumber", "(J)V"⟩, 32) := ⟨⟨by decide +kernel, by decide +kernel⟩, List.mem_of_getElem? (i := 1371) (by decide +kernel), List.mem_of_getElem? (i := 1609) (by decide +kernel), List.mem_of_getElem? (i := 1610) (by decide +kernel)⟩
theorem lw_p54 : lw_okq (⟨"PseudoBooleanModel", "terms", "(I)I"⟩, 32) := ⟨⟨by decide +kernel, by decide +kernel⟩, List.mem_of_getElem? (i := 1371) (by decide +kernel), List.mem_of_getElem? (i := 1626) (by decide +kernel), List.mem_of_getElem? (i := 1627) (by decide +kernel)⟩
theorem lw_p55 : lw_okq (⟨"PseudoBooleanModel", "least", "(I)I"⟩, 32) := ⟨⟨by decide +kernel, by decide +kernel⟩, List.mem_of_getElem? (i := 1371) (by decide +kernel), List.mem_of_getElem? (i := 1649) (by decide +kernel), List.mem_of_getElem? (i := 1650) (by decide +kernel)⟩
theorem lw_p56 : lw_okq (⟨"PseudoBooleanModel", "addTimes", "(IJ)V"⟩, 32) := ⟨⟨by decide +kernel, by decide +kernel⟩, List.mem_of_getElem? (i := 1371) (by decide +kernel), List.mem_of_getElem? (i := 1657) (by decide +kernel), List.mem_of_getElem? (i := 1658) (by decide +kernel)⟩
theorem lw_p57 : lw_okq (⟨"PseudoBooleanModel", "keep", "(I)I"⟩, 32) := ⟨⟨by decide +kernel, by decide +kernel⟩, List.mem_of_getElem? (i := 1371) (by decide +kernel), List.mem_of_getElem? (i := 1661) (by decide +kernel), List.mem_of_getElem? (i := 1662) (by decide +kernel)⟩
theorem lw_p58 : lw_okq (⟨"PseudoBooleanModel", "isSmall", "()Z"⟩, 32) := ⟨⟨by decide +kernel, by decide +kernel⟩, List.mem_of_getElem? (i := 1371) (by decide +kernel), List.mem_of_getElem? (i := 1665) (by decide +kernel), List.mem_of_getElem? (i := 1666) (by decide +kernel)⟩
theorem lw_p59 : lw_okq (⟨"PseudoBooleanModel", "areApart", "(II)Z"⟩, 32) := ⟨⟨by decide +kernel, by decide +kernel⟩, List.mem_of_getElem? (i := 1371) (by decide +kernel), List.mem_of_getElem? (i := 1707) (by decide +kernel), List.mem_of_getElem? (i := 1708) (by decide +kernel)⟩
theorem lw_p60 : lw_okq (⟨"PseudoBooleanModel", "valued", "()I"⟩, 32) := ⟨⟨by decide +kernel, by decide +kernel⟩, List.mem_of_getElem? (i := 1371) (by decide +kernel), List.mem_of_getElem? (i := 1733) (by decide +kernel), List.mem_of_getElem? (i := 1734) (by decide +kernel)⟩
theorem lw_p61 : lw_okq (⟨"PseudoBooleanModel", "modelFrom", "(I)I"⟩, 32) := ⟨⟨by decide +kernel, by decide +kernel⟩, List.mem_of_getElem? (i := 1371) (by decide +kernel), List.mem_of_getElem? (i := 1757) (by decide +kernel), List.mem_of_getElem? (i := 1758) (by decide +kernel)⟩
theorem lw_p62 : lw_okq (⟨"PseudoBooleanModel", "isOurs", "(I)Z"⟩, 32) := ⟨⟨by decide +kernel, by decide +kernel⟩, List.mem_of_getElem? (i := 1371) (by decide +kernel), List.mem_of_getElem? (i := 1761) (by decide +kernel), List.mem_of_getElem? (i := 1762) (by decide +kernel)⟩
theorem lw_p63 : lw_okq (⟨"PseudoBooleanModel", "cheapest", "()I"⟩, 32) := ⟨⟨by decide +kernel, by decide +kernel⟩, List.mem_of_getElem? (i := 1371) (by decide +kernel), List.mem_of_getElem? (i := 1788) (by decide +kernel), List.mem_of_getElem? (i := 1789) (by decide +kernel)⟩
def lw_privs_4 : List (MethodName × Nat) := [(⟨"PseudoBooleanModel", "isMadeImplied", "()Z"⟩, 32), (⟨"PseudoBooleanModel", "isModel", "(I)Z"⟩, 32), (⟨"PseudoBooleanModel", "isMadeTrue", "(I)Z"⟩, 32), (⟨"PseudoBooleanModel", "isConstraint", "(I)Z"⟩, 32), (⟨"PseudoBooleanModel", "put", "(I)V"⟩, 32), (⟨"PseudoBooleanModel", "putNumber", "(J)V"⟩, 32), (⟨"PseudoBooleanModel", "terms", "(I)I"⟩, 32), (⟨"PseudoBooleanModel", "least", "(I)I"⟩, 32), (⟨"PseudoBooleanModel", "addTimes", "(IJ)V"⟩, 32), (⟨"PseudoBooleanModel", "keep", "(I)I"⟩, 32), (⟨"PseudoBooleanModel", "isSmall", "()Z"⟩, 32), (⟨"PseudoBooleanModel", "areApart", "(II)Z"⟩, 32), (⟨"PseudoBooleanModel", "valued", "()I"⟩, 32), (⟨"PseudoBooleanModel", "modelFrom", "(I)I"⟩, 32), (⟨"PseudoBooleanModel", "isOurs", "(I)Z"⟩, 32), (⟨"PseudoBooleanModel", "cheapest", "()I"⟩, 32)]
theorem lw_r4 : ∀ q ∈ lw_privs_4, lw_okq q := List.forall_mem_cons.mpr ⟨lw_p48, List.forall_mem_cons.mpr ⟨lw_p49, List.forall_mem_cons.mpr ⟨lw_p50, List.forall_mem_cons.mpr ⟨lw_p51, List.forall_mem_cons.mpr ⟨lw_p52, List.forall_mem_cons.mpr ⟨lw_p53, List.forall_mem_cons.mpr ⟨lw_p54, List.forall_mem_cons.mpr ⟨lw_p55, List.forall_mem_cons.mpr ⟨lw_p56, List.forall_mem_cons.mpr ⟨lw_p57, List.forall_mem_cons.mpr ⟨lw_p58, List.forall_mem_cons.mpr ⟨lw_p59, List.forall_mem_cons.mpr ⟨lw_p60, List.forall_mem_cons.mpr ⟨lw_p61, List.forall_mem_cons.mpr ⟨lw_p62, List.forall_mem_cons.mpr ⟨lw_p63, fun _ h => absurd h List.not_mem_nil⟩⟩⟩⟩⟩⟩⟩⟩⟩⟩⟩⟩⟩⟩⟩⟩
theorem lw_p64 : lw_okq (⟨"PseudoBooleanModel", "costOf", "(I)I"⟩, 32) := ⟨⟨by decide +kernel, by decide +kernel⟩, List.mem_of_getElem? (i := 1371) (by decide +kernel), List.mem_of_getElem? (i := 1792) (by decide +kernel), List.mem_of_getElem? (i := 1793) (by decide +kernel)⟩
theorem lw_p65 : lw_okq (⟨"PseudoBooleanModel", "hasModel", "([Z)Z"⟩, 32) := ⟨⟨by decide +kernel, by decide +kernel⟩, List.mem_of_getElem? (i := 1371) (by decide +kernel), List.mem_of_getElem? (i := 1804) (by decide +kernel), List.mem_of_getElem? (i := 1805) (by decide +kernel)⟩
def lw_privs_5 : List (MethodName × Nat) := [(⟨"PseudoBooleanModel", "costOf", "(I)I"⟩, 32), (⟨"PseudoBooleanModel", "hasModel", "([Z)Z"⟩, 32)]
theorem lw_r5 : ∀ q ∈ lw_privs_5, lw_okq q := List.forall_mem_cons.mpr ⟨lw_p64, List.forall_mem_cons.mpr ⟨lw_p65, fun _ h => absurd h List.not_mem_nil⟩⟩
def lw_privs : List (MethodName × Nat) := lw_privs_1 ++ (lw_privs_2 ++ (lw_privs_3 ++ (lw_privs_4 ++ (lw_privs_5))))
def lw_tbl : List Cond := k2_sels lw_privs ++ tables_1
theorem lw_privs_ok : ∀ q ∈ lw_privs, lw_okq q := by
  show ∀ q ∈ lw_privs_1 ++ (lw_privs_2 ++ (lw_privs_3 ++ (lw_privs_4 ++ (lw_privs_5)))), lw_okq q
  exact List.forall_mem_append.mpr ⟨lw_r1, List.forall_mem_append.mpr ⟨lw_r2, List.forall_mem_append.mpr ⟨lw_r3, List.forall_mem_append.mpr ⟨lw_r4, lw_r5⟩⟩⟩⟩
-- ===== end of PART A; then your names; then what follows =====
def RX0 : String := "PseudoBoolean$Assignment"
def TX0 : u_T := fun k => match k with
  | 0 => ("PseudoBoolean$Assignment", "valueOf", "[I", true)
  | _ => ("PseudoBoolean$Assignment", "conflict", "Z", false)
def tyX0 : Nat → FieldType := fun k => match k with
  | 0 => .array .int
  | _ => .boolean
abbrev wsX00 : List Cond := u_ws RX0 TX0 2
theorem nmX0 : ∀ a, a < 2 → ∀ b, b < 2 → a ≠ b → (TX0 a).2.1 ≠ (TX0 b).2.1 := by decide +kernel
theorem tyX0_ok : ∀ k, k < 2 → parseFieldDescriptor (TX0 k).2.2.1 = some (tyX0 k) := by decide +kernel
abbrev cX0_init : ByteArray := prog_2_method_1_code
def yX0_init : MethodName := ⟨RX0, "<init>", "()V"⟩
abbrev cX0_clear : ByteArray := prog_2_method_2_code
def yX0_clear : MethodName := ⟨RX0, "clear", "()V"⟩
abbrev cX0_hasValue : ByteArray := prog_2_method_3_code
def yX0_hasValue : MethodName := ⟨RX0, "hasValue", "(I)Z"⟩
abbrev cX0_isFalse : ByteArray := prog_2_method_4_code
def yX0_isFalse : MethodName := ⟨RX0, "isFalse", "(I)Z"⟩
abbrev cX0_makeTrue : ByteArray := prog_2_method_5_code
def yX0_makeTrue : MethodName := ⟨RX0, "makeTrue", "(I)V"⟩
abbrev cX0_countValues : ByteArray := prog_2_method_6_code
def yX0_countValues : MethodName := ⟨RX0, "countValues", "()I"⟩
def RX1 : String := "PseudoBoolean$Constraint"
def TX1 : u_T := fun k => match k with
  | 0 => ("PseudoBoolean$Constraint", "coefficients", "[I", true)
  | 1 => ("PseudoBoolean$Constraint", "degree", "I", false)
  | _ => ("PseudoBoolean$Constraint", "total", "J", false)
def tyX1 : Nat → FieldType := fun k => match k with
  | 0 => .array .int
  | 1 => .int
  | _ => .long
abbrev wsX10 : List Cond := u_ws RX1 TX1 3
theorem nmX1 : ∀ a, a < 3 → ∀ b, b < 3 → a ≠ b → (TX1 a).2.1 ≠ (TX1 b).2.1 := by decide +kernel
theorem tyX1_ok : ∀ k, k < 3 → parseFieldDescriptor (TX1 k).2.2.1 = some (tyX1 k) := by decide +kernel
abbrev cX1_init : ByteArray := prog_3_method_1_code
def yX1_init : MethodName := ⟨RX1, "<init>", "()V"⟩
abbrev cX1_setTo : ByteArray := prog_3_method_2_code
def yX1_setTo : MethodName := ⟨RX1, "setTo", "(LPseudoBoolean$Draft;)V"⟩
abbrev cX1_countTerms : ByteArray := prog_3_method_3_code
def yX1_countTerms : MethodName := ⟨RX1, "countTerms", "()I"⟩
abbrev cX1_literalOf : ByteArray := prog_3_method_4_code
def yX1_literalOf : MethodName := ⟨RX1, "literalOf", "(I)I"⟩
abbrev cX1_hasVariable : ByteArray := prog_3_method_5_code
def yX1_hasVariable : MethodName := ⟨RX1, "hasVariable", "(I)Z"⟩
abbrev cX1_slackWith : ByteArray := prog_3_method_6_code
def yX1_slackWith : MethodName := ⟨RX1, "slackWith", "(LPseudoBoolean$Assignment;)J"⟩
abbrev cX1_forbids : ByteArray := prog_3_method_7_code
def yX1_forbids : MethodName := ⟨RX1, "forbids", "(II)Z"⟩
abbrev cX1_propagateTo : ByteArray := prog_3_method_8_code
def yX1_propagateTo : MethodName := ⟨RX1, "propagateTo", "(LPseudoBoolean$Assignment;)Z"⟩
abbrev cX1_leastTrueLiterals : ByteArray := prog_3_method_9_code
def yX1_leastTrueLiterals : MethodName := ⟨RX1, "leastTrueLiterals", "()I"⟩
abbrev cX1_greatestOutside : ByteArray := prog_3_method_10_code
def yX1_greatestOutside : MethodName := ⟨RX1, "greatestOutside", "(I)I"⟩
abbrev cX1_appendTo : ByteArray := prog_3_method_11_code
def yX1_appendTo : MethodName := ⟨RX1, "appendTo", "(Ljava/lang/StringBuilder;)V"⟩
abbrev cX1_appendTermTo : ByteArray := prog_3_method_12_code
def yX1_appendTermTo : MethodName := ⟨RX1, "appendTermTo", "(Ljava/lang/StringBuilder;I)V"⟩
abbrev cX1_extendDigest : ByteArray := prog_3_method_13_code
def yX1_extendDigest : MethodName := ⟨RX1, "extendDigest", "(J)J"⟩
def RX2 : String := "PseudoBoolean$Draft"
def TX2 : u_T := fun k => match k with
  | 0 => ("PseudoBoolean$Draft", "coefficients", "[J", true)
  | _ => ("PseudoBoolean$Draft", "degree", "J", false)
def tyX2 : Nat → FieldType := fun k => match k with
  | 0 => .array .long
  | _ => .long
abbrev wsX20 : List Cond := u_ws RX2 TX2 2
theorem nmX2 : ∀ a, a < 2 → ∀ b, b < 2 → a ≠ b → (TX2 a).2.1 ≠ (TX2 b).2.1 := by decide +kernel
theorem tyX2_ok : ∀ k, k < 2 → parseFieldDescriptor (TX2 k).2.2.1 = some (tyX2 k) := by decide +kernel
abbrev cX2_init : ByteArray := prog_4_method_1_code
def yX2_init : MethodName := ⟨RX2, "<init>", "()V"⟩
abbrev cX2_clear : ByteArray := prog_4_method_2_code
def yX2_clear : MethodName := ⟨RX2, "clear", "()V"⟩
abbrev cX2_addTerm : ByteArray := prog_4_method_3_code
def yX2_addTerm : MethodName := ⟨RX2, "addTerm", "(IJ)V"⟩
abbrev cX2_addTimes : ByteArray := prog_4_method_4_code
def yX2_addTimes : MethodName := ⟨RX2, "addTimes", "(LPseudoBoolean$Constraint;J)V"⟩
abbrev cX2_divideRoundingUp : ByteArray := prog_4_method_5_code
def yX2_divideRoundingUp : MethodName := ⟨RX2, "divideRoundingUp", "(J)V"⟩
abbrev cX2_saturate : ByteArray := prog_4_method_6_code
def yX2_saturate : MethodName := ⟨RX2, "saturate", "()V"⟩
abbrev cX2_weaken : ByteArray := prog_4_method_7_code
def yX2_weaken : MethodName := ⟨RX2, "weaken", "(I)V"⟩
abbrev cX2_normalise : ByteArray := prog_4_method_8_code
def yX2_normalise : MethodName := ⟨RX2, "normalise", "()V"⟩
abbrev cX2_isInBounds : ByteArray := prog_4_method_9_code
def yX2_isInBounds : MethodName := ⟨RX2, "isInBounds", "()Z"⟩
def RX3 : String := "PseudoBoolean$LiteralList"
def TX3 : u_T := fun k => match k with
  | 0 => ("PseudoBoolean$LiteralList", "literals", "[I", true)
  | _ => ("PseudoBoolean$LiteralList", "count", "I", false)
def tyX3 : Nat → FieldType := fun k => match k with
  | 0 => .array .int
  | _ => .int
abbrev wsX30 : List Cond := u_ws RX3 TX3 2
theorem nmX3 : ∀ a, a < 2 → ∀ b, b < 2 → a ≠ b → (TX3 a).2.1 ≠ (TX3 b).2.1 := by decide +kernel
theorem tyX3_ok : ∀ k, k < 2 → parseFieldDescriptor (TX3 k).2.2.1 = some (tyX3 k) := by decide +kernel
abbrev cX3_init : ByteArray := prog_5_method_1_code
def yX3_init : MethodName := ⟨RX3, "<init>", "()V"⟩
abbrev cX3_add : ByteArray := prog_5_method_2_code
def yX3_add : MethodName := ⟨RX3, "add", "(I)V"⟩
abbrev cX3_removeLast : ByteArray := prog_5_method_3_code
def yX3_removeLast : MethodName := ⟨RX3, "removeLast", "()V"⟩
abbrev cX3_copyFrom : ByteArray := prog_5_method_4_code
def yX3_copyFrom : MethodName := ⟨RX3, "copyFrom", "(LPseudoBoolean$LiteralList;)V"⟩
abbrev cX3_setTo : ByteArray := prog_5_method_5_code
def yX3_setTo : MethodName := ⟨RX3, "setTo", "(I)V"⟩
abbrev cX3_variablesWithSign : ByteArray := prog_5_method_6_code
def yX3_variablesWithSign : MethodName := ⟨RX3, "variablesWithSign", "(I)I"⟩
def RX4 : String := "PseudoBoolean$MaskSums"
def TX4 : u_T := fun k => match k with
  | 0 => ("PseudoBoolean$MaskSums", "lower", "[J", true)
  | _ => ("PseudoBoolean$MaskSums", "upper", "[J", true)
def tyX4 : Nat → FieldType := fun k => match k with
  | 0 => .array .long
  | _ => .array .long
abbrev wsX40 : List Cond := u_ws RX4 TX4 2
theorem nmX4 : ∀ a, a < 2 → ∀ b, b < 2 → a ≠ b → (TX4 a).2.1 ≠ (TX4 b).2.1 := by decide +kernel
theorem tyX4_ok : ∀ k, k < 2 → parseFieldDescriptor (TX4 k).2.2.1 = some (tyX4 k) := by decide +kernel
abbrev cX4_init : ByteArray := prog_6_method_1_code
def yX4_init : MethodName := ⟨RX4, "<init>", "()V"⟩
abbrev cX4_ofMask : ByteArray := prog_6_method_2_code
def yX4_ofMask : MethodName := ⟨RX4, "ofMask", "(I)J"⟩
abbrev cX4_bitsReaching : ByteArray := prog_6_method_3_code
def yX4_bitsReaching : MethodName := ⟨RX4, "bitsReaching", "(IJ)J"⟩
abbrev cX4_setToFulfillment : ByteArray := prog_6_method_4_code
def yX4_setToFulfillment : MethodName := ⟨RX4, "setToFulfillment", "(LPseudoBoolean$Constraint;)V"⟩
abbrev cX4_setToCosts : ByteArray := prog_6_method_5_code
def yX4_setToCosts : MethodName := ⟨RX4, "setToCosts", "([I)V"⟩
abbrev cX4_addVariable : ByteArray := prog_6_method_6_code
def yX4_addVariable : MethodName := ⟨RX4, "addVariable", "(IJJ)V"⟩
def RX5 : String := "PseudoBoolean$ModelSet"
def TX5 : u_T := fun k => match k with
  | _ => ("PseudoBoolean$ModelSet", "words", "[J", true)
def tyX5 : Nat → FieldType := fun k => match k with
  | _ => .array .long
abbrev wsX50 : List Cond := u_ws RX5 TX5 1
theorem nmX5 : ∀ a, a < 1 → ∀ b, b < 1 → a ≠ b → (TX5 a).2.1 ≠ (TX5 b).2.1 := by decide +kernel
theorem tyX5_ok : ∀ k, k < 1 → parseFieldDescriptor (TX5 k).2.2.1 = some (tyX5 k) := by decide +kernel
abbrev cX5_init : ByteArray := prog_7_method_1_code
def yX5_init : MethodName := ⟨RX5, "<init>", "()V"⟩
abbrev cX5_copyFrom : ByteArray := prog_7_method_2_code
def yX5_copyFrom : MethodName := ⟨RX5, "copyFrom", "(LPseudoBoolean$ModelSet;)V"⟩
abbrev cX5_keepReaching : ByteArray := prog_7_method_3_code
def yX5_keepReaching : MethodName := ⟨RX5, "keepReaching", "(LPseudoBoolean$MaskSums;J)V"⟩
abbrev cX5_allReach : ByteArray := prog_7_method_4_code
def yX5_allReach : MethodName := ⟨RX5, "allReach", "(LPseudoBoolean$MaskSums;J)Z"⟩
abbrev cX5_leastFrom : ByteArray := prog_7_method_5_code
def yX5_leastFrom : MethodName := ⟨RX5, "leastFrom", "(III)I"⟩
abbrev cX5_countWith : ByteArray := prog_7_method_6_code
def yX5_countWith : MethodName := ⟨RX5, "countWith", "(II)I"⟩
abbrev cX5_cheapest : ByteArray := prog_7_method_7_code
def yX5_cheapest : MethodName := ⟨RX5, "cheapest", "(LPseudoBoolean$MaskSums;II)I"⟩
abbrev cX5_matching : ByteArray := prog_7_method_8_code
def yX5_matching : MethodName := ⟨RX5, "matching", "(III)J"⟩
def RX6 : String := "PseudoBoolean$Reader"
def TX6 : u_T := fun k => match k with
  | 0 => ("PseudoBoolean$Reader", "text", "LPseudoBoolean$Text;", true)
  | 1 => ("PseudoBoolean$Reader", "position", "I", false)
  | 2 => ("PseudoBoolean$Reader", "token", "I", false)
  | 3 => ("PseudoBoolean$Reader", "tokenStart", "I", false)
  | 4 => ("PseudoBoolean$Reader", "number", "I", false)
  | 5 => ("PseudoBoolean$Reader", "variable", "I", false)
  | 6 => ("PseudoBoolean$Reader", "coefficients", "[I", true)
  | 7 => ("PseudoBoolean$Reader", "relation", "I", false)
  | _ => ("PseudoBoolean$Reader", "bound", "I", false)
def tyX6 : Nat → FieldType := fun k => match k with
  | 0 => .object "PseudoBoolean$Text"
  | 1 => .int
  | 2 => .int
  | 3 => .int
  | 4 => .int
  | 5 => .int
  | 6 => .array .int
  | 7 => .int
  | _ => .int
abbrev wsX60 : List Cond := u_ws RX6 TX6 9
theorem nmX6 : ∀ a, a < 9 → ∀ b, b < 9 → a ≠ b → (TX6 a).2.1 ≠ (TX6 b).2.1 := by decide +kernel
theorem tyX6_ok : ∀ k, k < 9 → parseFieldDescriptor (TX6 k).2.2.1 = some (tyX6 k) := by decide +kernel
abbrev cX6_init : ByteArray := prog_8_method_1_code
def yX6_init : MethodName := ⟨RX6, "<init>", "(LPseudoBoolean$Text;)V"⟩
abbrev cX6_isEquation : ByteArray := prog_8_method_2_code
def yX6_isEquation : MethodName := ⟨RX6, "isEquation", "()Z"⟩
abbrev cX6_hasLowerBound : ByteArray := prog_8_method_3_code
def yX6_hasLowerBound : MethodName := ⟨RX6, "hasLowerBound", "()Z"⟩
abbrev cX6_hasUpperBound : ByteArray := prog_8_method_4_code
def yX6_hasUpperBound : MethodName := ⟨RX6, "hasUpperBound", "()Z"⟩
abbrev cX6_draftLowerBound : ByteArray := prog_8_method_5_code
def yX6_draftLowerBound : MethodName := ⟨RX6, "draftLowerBound", "(LPseudoBoolean$Draft;)V"⟩
abbrev cX6_draftUpperBound : ByteArray := prog_8_method_6_code
def yX6_draftUpperBound : MethodName := ⟨RX6, "draftUpperBound", "(LPseudoBoolean$Draft;)V"⟩
abbrev cX6_draftTimes : ByteArray := prog_8_method_7_code
def yX6_draftTimes : MethodName := ⟨RX6, "draftTimes", "(LPseudoBoolean$Draft;I)V"⟩
abbrev cX6_readConstraint : ByteArray := prog_8_method_8_code
def yX6_readConstraint : MethodName := ⟨RX6, "readConstraint", "()Z"⟩
abbrev cX6_readSum : ByteArray := prog_8_method_9_code
def yX6_readSum : MethodName := ⟨RX6, "readSum", "()Z"⟩
abbrev cX6_readTerm : ByteArray := prog_8_method_10_code
def yX6_readTerm : MethodName := ⟨RX6, "readTerm", "(Z)Z"⟩
abbrev cX6_readRelation : ByteArray := prog_8_method_11_code
def yX6_readRelation : MethodName := ⟨RX6, "readRelation", "()Z"⟩
abbrev cX6_readBound : ByteArray := prog_8_method_12_code
def yX6_readBound : MethodName := ⟨RX6, "readBound", "()Z"⟩
abbrev cX6_skipMinus : ByteArray := prog_8_method_13_code
def yX6_skipMinus : MethodName := ⟨RX6, "skipMinus", "()Z"⟩
abbrev cX6_nextToken : ByteArray := prog_8_method_14_code
def yX6_nextToken : MethodName := ⟨RX6, "nextToken", "()V"⟩
abbrev cX6_takeNumber : ByteArray := prog_8_method_15_code
def yX6_takeNumber : MethodName := ⟨RX6, "takeNumber", "()V"⟩
abbrev cX6_takeSymbol : ByteArray := prog_8_method_16_code
def yX6_takeSymbol : MethodName := ⟨RX6, "takeSymbol", "(I)V"⟩
abbrev cX6_take : ByteArray := prog_8_method_17_code
def yX6_take : MethodName := ⟨RX6, "take", "(II)V"⟩
abbrev cX6_isDigit : ByteArray := prog_8_method_18_code
def yX6_isDigit : MethodName := ⟨RX6, "isDigit", "(I)Z"⟩
def RX7 : String := "PseudoBoolean$Text"
def TX7 : u_T := fun k => match k with
  | 0 => ("PseudoBoolean$Text", "bytes", "[I", true)
  | _ => ("PseudoBoolean$Text", "length", "I", false)
def tyX7 : Nat → FieldType := fun k => match k with
  | 0 => .array .int
  | _ => .int
abbrev wsX70 : List Cond := u_ws RX7 TX7 2
theorem nmX7 : ∀ a, a < 2 → ∀ b, b < 2 → a ≠ b → (TX7 a).2.1 ≠ (TX7 b).2.1 := by decide +kernel
theorem tyX7_ok : ∀ k, k < 2 → parseFieldDescriptor (TX7 k).2.2.1 = some (tyX7 k) := by decide +kernel
abbrev cX7_init : ByteArray := prog_9_method_1_code
def yX7_init : MethodName := ⟨RX7, "<init>", "()V"⟩
abbrev cX7_appendFourBytes : ByteArray := prog_9_method_2_code
def yX7_appendFourBytes : MethodName := ⟨RX7, "appendFourBytes", "(I)V"⟩
abbrev cX7_byteAt : ByteArray := prog_9_method_3_code
def yX7_byteAt : MethodName := ⟨RX7, "byteAt", "(I)I"⟩
def RX8 : String := "PseudoBoolean"
def TX8 : u_T := fun k => match k with
  | 0 => ("PseudoBoolean", "text", "LPseudoBoolean$Text;", true)
  | 1 => ("PseudoBoolean", "reader", "LPseudoBoolean$Reader;", true)
  | 2 => ("PseudoBoolean", "positionOfError", "I", false)
  | 3 => ("PseudoBoolean", "output", "Ljava/lang/StringBuilder;", true)
  | 4 => ("PseudoBoolean", "constraints", "[LPseudoBoolean$Constraint;", true)
  | 5 => ("PseudoBoolean", "constraintsUsed", "I", false)
  | 6 => ("PseudoBoolean", "draft", "LPseudoBoolean$Draft;", true)
  | 7 => ("PseudoBoolean", "question", "LPseudoBoolean$Constraint;", true)
  | 8 => ("PseudoBoolean", "sums", "LPseudoBoolean$MaskSums;", true)
  | 9 => ("PseudoBoolean", "decisions", "LPseudoBoolean$LiteralList;", true)
  | 10 => ("PseudoBoolean", "assignment", "LPseudoBoolean$Assignment;", true)
  | 11 => ("PseudoBoolean", "keptGroup", "LPseudoBoolean$LiteralList;", true)
  | 12 => ("PseudoBoolean", "keptReason", "LPseudoBoolean$LiteralList;", true)
  | 13 => ("PseudoBoolean", "costs", "[I", true)
  | 14 => ("PseudoBoolean", "modelsOfLevel", "[LPseudoBoolean$ModelSet;", true)
  | 15 => ("PseudoBoolean", "constraintsBelow", "[I", true)
  | 16 => ("PseudoBoolean", "decisionsBelow", "[LPseudoBoolean$LiteralList;", true)
  | _ => ("PseudoBoolean", "levels", "I", false)
def tyX8 : Nat → FieldType := fun k => match k with
  | 0 => .object "PseudoBoolean$Text"
  | 1 => .object "PseudoBoolean$Reader"
  | 2 => .int
  | 3 => .object "java/lang/StringBuilder"
  | 4 => .array (.object "PseudoBoolean$Constraint")
  | 5 => .int
  | 6 => .object "PseudoBoolean$Draft"
  | 7 => .object "PseudoBoolean$Constraint"
  | 8 => .object "PseudoBoolean$MaskSums"
  | 9 => .object "PseudoBoolean$LiteralList"
  | 10 => .object "PseudoBoolean$Assignment"
  | 11 => .object "PseudoBoolean$LiteralList"
  | 12 => .object "PseudoBoolean$LiteralList"
  | 13 => .array .int
  | 14 => .array (.object "PseudoBoolean$ModelSet")
  | 15 => .array .int
  | 16 => .array (.object "PseudoBoolean$LiteralList")
  | _ => .int
abbrev wsX80 : List Cond := u_ws RX8 TX8 18
theorem nmX8 : ∀ a, a < 18 → ∀ b, b < 18 → a ≠ b → (TX8 a).2.1 ≠ (TX8 b).2.1 := by decide +kernel
theorem tyX8_ok : ∀ k, k < 18 → parseFieldDescriptor (TX8 k).2.2.1 = some (tyX8 k) := by decide +kernel
abbrev cX8_init : ByteArray := prog_1_method_1_code
def yX8_init : MethodName := ⟨RX8, "<init>", "()V"⟩
abbrev cX8_feed : ByteArray := prog_1_method_2_code
def yX8_feed : MethodName := ⟨RX8, "feed", "(IIIII)I"⟩
abbrev cX8_trim : ByteArray := prog_1_method_3_code
def yX8_trim : MethodName := ⟨RX8, "trim", "(I)I"⟩
abbrev cX8_post : ByteArray := prog_1_method_4_code
def yX8_post : MethodName := ⟨RX8, "post", "()I"⟩
abbrev cX8_isImplied : ByteArray := prog_1_method_5_code
def yX8_isImplied : MethodName := ⟨RX8, "isImplied", "()Z"⟩
abbrev cX8_errorPosition : ByteArray := prog_1_method_6_code
def yX8_errorPosition : MethodName := ⟨RX8, "errorPosition", "()I"⟩
abbrev cX8_write : ByteArray := prog_1_method_7_code
def yX8_write : MethodName := ⟨RX8, "write", "(I)I"⟩
abbrev cX8_outputByte : ByteArray := prog_1_method_8_code
def yX8_outputByte : MethodName := ⟨RX8, "outputByte", "(I)I"⟩
abbrev cX8_constraintCount : ByteArray := prog_1_method_9_code
def yX8_constraintCount : MethodName := ⟨RX8, "constraintCount", "()I"⟩
abbrev cX8_termCount : ByteArray := prog_1_method_10_code
def yX8_termCount : MethodName := ⟨RX8, "termCount", "(I)I"⟩
abbrev cX8_degree : ByteArray := prog_1_method_11_code
def yX8_degree : MethodName := ⟨RX8, "degree", "(I)I"⟩
abbrev cX8_coefficient : ByteArray := prog_1_method_12_code
def yX8_coefficient : MethodName := ⟨RX8, "coefficient", "(II)I"⟩
abbrev cX8_slack : ByteArray := prog_1_method_13_code
def yX8_slack : MethodName := ⟨RX8, "slack", "(I)J"⟩
abbrev cX8_cardinality : ByteArray := prog_1_method_14_code
def yX8_cardinality : MethodName := ⟨RX8, "cardinality", "(I)I"⟩
abbrev cX8_sum : ByteArray := prog_1_method_15_code
def yX8_sum : MethodName := ⟨RX8, "sum", "(II)I"⟩
abbrev cX8_multiple : ByteArray := prog_1_method_16_code
def yX8_multiple : MethodName := ⟨RX8, "multiple", "(II)I"⟩
abbrev cX8_quotient : ByteArray := prog_1_method_17_code
def yX8_quotient : MethodName := ⟨RX8, "quotient", "(II)I"⟩
abbrev cX8_saturation : ByteArray := prog_1_method_18_code
def yX8_saturation : MethodName := ⟨RX8, "saturation", "(I)I"⟩
abbrev cX8_weakening : ByteArray := prog_1_method_19_code
def yX8_weakening : MethodName := ⟨RX8, "weakening", "(II)I"⟩
abbrev cX8_resolvent : ByteArray := prog_1_method_20_code
def yX8_resolvent : MethodName := ⟨RX8, "resolvent", "(III)I"⟩
abbrev cX8_cardinalityConstraint : ByteArray := prog_1_method_21_code
def yX8_cardinalityConstraint : MethodName := ⟨RX8, "cardinalityConstraint", "(I)I"⟩
abbrev cX8_exclude : ByteArray := prog_1_method_22_code
def yX8_exclude : MethodName := ⟨RX8, "exclude", "(II)Z"⟩
abbrev cX8_group : ByteArray := prog_1_method_23_code
def yX8_group : MethodName := ⟨RX8, "group", "(I)I"⟩
abbrev cX8_groupLiteral : ByteArray := prog_1_method_24_code
def yX8_groupLiteral : MethodName := ⟨RX8, "groupLiteral", "(I)I"⟩
abbrev cX8_addGroup : ByteArray := prog_1_method_25_code
def yX8_addGroup : MethodName := ⟨RX8, "addGroup", "()I"⟩
abbrev cX8_decide : ByteArray := prog_1_method_26_code
def yX8_decide : MethodName := ⟨RX8, "decide", "(I)I"⟩
abbrev cX8_undo : ByteArray := prog_1_method_27_code
def yX8_undo : MethodName := ⟨RX8, "undo", "()I"⟩
abbrev cX8_decisionCount : ByteArray := prog_1_method_28_code
def yX8_decisionCount : MethodName := ⟨RX8, "decisionCount", "()I"⟩
abbrev cX8_isConflicting : ByteArray := prog_1_method_29_code
def yX8_isConflicting : MethodName := ⟨RX8, "isConflicting", "()Z"⟩
abbrev cX8_value : ByteArray := prog_1_method_30_code
def yX8_value : MethodName := ⟨RX8, "value", "(I)I"⟩
abbrev cX8_firstModel : ByteArray := prog_1_method_31_code
def yX8_firstModel : MethodName := ⟨RX8, "firstModel", "()I"⟩
abbrev cX8_nextModel : ByteArray := prog_1_method_32_code
def yX8_nextModel : MethodName := ⟨RX8, "nextModel", "(I)I"⟩
abbrev cX8_modelCount : ByteArray := prog_1_method_33_code
def yX8_modelCount : MethodName := ⟨RX8, "modelCount", "()I"⟩
abbrev cX8_isForced : ByteArray := prog_1_method_34_code
def yX8_isForced : MethodName := ⟨RX8, "isForced", "(I)Z"⟩
abbrev cX8_setCost : ByteArray := prog_1_method_35_code
def yX8_setCost : MethodName := ⟨RX8, "setCost", "(II)I"⟩
abbrev cX8_leastCost : ByteArray := prog_1_method_36_code
def yX8_leastCost : MethodName := ⟨RX8, "leastCost", "()I"⟩
abbrev cX8_cheapestModel : ByteArray := prog_1_method_37_code
def yX8_cheapestModel : MethodName := ⟨RX8, "cheapestModel", "()I"⟩
abbrev cX8_explain : ByteArray := prog_1_method_38_code
def yX8_explain : MethodName := ⟨RX8, "explain", "(II)I"⟩
abbrev cX8_reasonLiteral : ByteArray := prog_1_method_39_code
def yX8_reasonLiteral : MethodName := ⟨RX8, "reasonLiteral", "(I)I"⟩
abbrev cX8_push : ByteArray := prog_1_method_40_code
def yX8_push : MethodName := ⟨RX8, "push", "()I"⟩
abbrev cX8_pop : ByteArray := prog_1_method_41_code
def yX8_pop : MethodName := ⟨RX8, "pop", "()I"⟩
abbrev cX8_digest : ByteArray := prog_1_method_42_code
def yX8_digest : MethodName := ⟨RX8, "digest", "()J"⟩
abbrev cX8_requireConstraint : ByteArray := prog_1_method_43_code
def yX8_requireConstraint : MethodName := ⟨RX8, "requireConstraint", "(I)V"⟩
abbrev cX8_requireLiteral : ByteArray := prog_1_method_44_code
def yX8_requireLiteral : MethodName := ⟨RX8, "requireLiteral", "(I)V"⟩
abbrev cX8_requireVariable : ByteArray := prog_1_method_45_code
def yX8_requireVariable : MethodName := ⟨RX8, "requireVariable", "(I)V"⟩
abbrev cX8_requireIndex : ByteArray := prog_1_method_46_code
def yX8_requireIndex : MethodName := ⟨RX8, "requireIndex", "(ILPseudoBoolean$LiteralList;)V"⟩
abbrev cX8_requireRoom : ByteArray := prog_1_method_47_code
def yX8_requireRoom : MethodName := ⟨RX8, "requireRoom", "(I)V"⟩
abbrev cX8_isMask : ByteArray := prog_1_method_48_code
def yX8_isMask : MethodName := ⟨RX8, "isMask", "(I)Z"⟩
abbrev cX8_closeText : ByteArray := prog_1_method_49_code
def yX8_closeText : MethodName := ⟨RX8, "closeText", "(Z)V"⟩
abbrev cX8_addBoundedDraft : ByteArray := prog_1_method_50_code
def yX8_addBoundedDraft : MethodName := ⟨RX8, "addBoundedDraft", "()I"⟩
abbrev cX8_addDraft : ByteArray := prog_1_method_51_code
def yX8_addDraft : MethodName := ⟨RX8, "addDraft", "()I"⟩
abbrev cX8_draftIsImplied : ByteArray := prog_1_method_52_code
def yX8_draftIsImplied : MethodName := ⟨RX8, "draftIsImplied", "()Z"⟩
abbrev cX8_propagate : ByteArray := prog_1_method_53_code
def yX8_propagate : MethodName := ⟨RX8, "propagate", "()V"⟩
abbrev cX8_models : ByteArray := prog_1_method_54_code
def yX8_models : MethodName := ⟨RX8, "models", "()LPseudoBoolean$ModelSet;"⟩
abbrev cX8_decidedTrue : ByteArray := prog_1_method_55_code
def yX8_decidedTrue : MethodName := ⟨RX8, "decidedTrue", "()I"⟩
abbrev cX8_decidedFalse : ByteArray := prog_1_method_56_code
def yX8_decidedFalse : MethodName := ⟨RX8, "decidedFalse", "()I"⟩
abbrev cX8_hasModelWith : ByteArray := prog_1_method_57_code
def yX8_hasModelWith : MethodName := ⟨RX8, "hasModelWith", "(II)Z"⟩
abbrev cX8_findCheapest : ByteArray := prog_1_method_58_code
def yX8_findCheapest : MethodName := ⟨RX8, "findCheapest", "()I"⟩
abbrev cX8_areExclusive : ByteArray := prog_1_method_59_code
def yX8_areExclusive : MethodName := ⟨RX8, "areExclusive", "(II)Z"⟩
abbrev cX8_excludesAll : ByteArray := prog_1_method_60_code
def yX8_excludesAll : MethodName := ⟨RX8, "excludesAll", "(II)Z"⟩
abbrev cX8_greatestCommonDivisor : ByteArray := prog_1_method_61_code
def yX8_greatestCommonDivisor : MethodName := ⟨RX8, "greatestCommonDivisor", "(II)I"⟩
def RX9 : String := "PseudoBooleanModel"
def TX9 : u_T := fun k => match k with
  | 0 => ("PseudoBooleanModel", "thrown", "I", false)
  | 1 => ("PseudoBooleanModel", "constraints", "I", false)
  | 2 => ("PseudoBooleanModel", "coefficients", "[J", true)
  | 3 => ("PseudoBooleanModel", "degrees", "[J", true)
  | 4 => ("PseudoBooleanModel", "made", "[J", true)
  | 5 => ("PseudoBooleanModel", "madeDegree", "J", false)
  | 6 => ("PseudoBooleanModel", "text", "[I", true)
  | 7 => ("PseudoBooleanModel", "size", "I", false)
  | 8 => ("PseudoBooleanModel", "at", "I", false)
  | 9 => ("PseudoBooleanModel", "from", "I", false)
  | 10 => ("PseudoBooleanModel", "token", "I", false)
  | 11 => ("PseudoBooleanModel", "errorPosition", "I", false)
  | 12 => ("PseudoBooleanModel", "read", "[J", true)
  | 13 => ("PseudoBooleanModel", "readLiterals", "[I", true)
  | 14 => ("PseudoBooleanModel", "reads", "I", false)
  | 15 => ("PseudoBooleanModel", "relation", "I", false)
  | 16 => ("PseudoBooleanModel", "number", "J", false)
  | 17 => ("PseudoBooleanModel", "output", "[I", true)
  | 18 => ("PseudoBooleanModel", "written", "I", false)
  | 19 => ("PseudoBooleanModel", "hasGroup", "Z", false)
  | 20 => ("PseudoBooleanModel", "isInGroup", "[Z", true)
  | 21 => ("PseudoBooleanModel", "decisions", "I", false)
  | 22 => ("PseudoBooleanModel", "decided", "[I", true)
  | 23 => ("PseudoBooleanModel", "values", "[I", true)
  | 24 => ("PseudoBooleanModel", "isConflict", "Z", false)
  | 25 => ("PseudoBooleanModel", "costs", "[I", true)
  | 26 => ("PseudoBooleanModel", "hasReason", "Z", false)
  | 27 => ("PseudoBooleanModel", "isReason", "[Z", true)
  | 28 => ("PseudoBooleanModel", "levels", "I", false)
  | 29 => ("PseudoBooleanModel", "levelConstraints", "[I", true)
  | 30 => ("PseudoBooleanModel", "levelDecisions", "[I", true)
  | _ => ("PseudoBooleanModel", "levelDecided", "[I", true)
def tyX9 : Nat → FieldType := fun k => match k with
  | 0 => .int
  | 1 => .int
  | 2 => .array .long
  | 3 => .array .long
  | 4 => .array .long
  | 5 => .long
  | 6 => .array .int
  | 7 => .int
  | 8 => .int
  | 9 => .int
  | 10 => .int
  | 11 => .int
  | 12 => .array .long
  | 13 => .array .int
  | 14 => .int
  | 15 => .int
  | 16 => .long
  | 17 => .array .int
  | 18 => .int
  | 19 => .boolean
  | 20 => .array .boolean
  | 21 => .int
  | 22 => .array .int
  | 23 => .array .int
  | 24 => .boolean
  | 25 => .array .int
  | 26 => .boolean
  | 27 => .array .boolean
  | 28 => .int
  | 29 => .array .int
  | 30 => .array .int
  | _ => .array .int
abbrev wsX90 : List Cond := u_ws RX9 TX9 32
theorem nmX9 : ∀ a, a < 32 → ∀ b, b < 32 → a ≠ b → (TX9 a).2.1 ≠ (TX9 b).2.1 := by decide +kernel
theorem tyX9_ok : ∀ k, k < 32 → parseFieldDescriptor (TX9 k).2.2.1 = some (tyX9 k) := by decide +kernel
abbrev cX9_init : ByteArray := prog_11_method_1_code
def yX9_init : MethodName := ⟨RX9, "<init>", "()V"⟩
abbrev cX9_thrown : ByteArray := prog_11_method_2_code
def yX9_thrown : MethodName := ⟨RX9, "thrown", "()I"⟩
abbrev cX9_no : ByteArray := prog_11_method_3_code
def yX9_no : MethodName := ⟨RX9, "no", "(I)I"⟩
abbrev cX9_isConstraint : ByteArray := prog_11_method_4_code
def yX9_isConstraint : MethodName := ⟨RX9, "isConstraint", "(I)Z"⟩
abbrev cX9_isVariable : ByteArray := prog_11_method_5_code
def yX9_isVariable : MethodName := ⟨RX9, "isVariable", "(I)Z"⟩
abbrev cX9_isLiteral : ByteArray := prog_11_method_6_code
def yX9_isLiteral : MethodName := ⟨RX9, "isLiteral", "(I)Z"⟩
abbrev cX9_of : ByteArray := prog_11_method_7_code
def yX9_of : MethodName := ⟨RX9, "of", "(II)J"⟩
abbrev cX9_clear : ByteArray := prog_11_method_8_code
def yX9_clear : MethodName := ⟨RX9, "clear", "()V"⟩
abbrev cX9_addTerm : ByteArray := prog_11_method_9_code
def yX9_addTerm : MethodName := ⟨RX9, "addTerm", "(JI)V"⟩
abbrev cX9_addTimes : ByteArray := prog_11_method_10_code
def yX9_addTimes : MethodName := ⟨RX9, "addTimes", "(IJ)V"⟩
abbrev cX9_normalize : ByteArray := prog_11_method_11_code
def yX9_normalize : MethodName := ⟨RX9, "normalize", "()V"⟩
abbrev cX9_isSmall : ByteArray := prog_11_method_12_code
def yX9_isSmall : MethodName := ⟨RX9, "isSmall", "()Z"⟩
abbrev cX9_add : ByteArray := prog_11_method_13_code
def yX9_add : MethodName := ⟨RX9, "add", "()I"⟩
abbrev cX9_feed : ByteArray := prog_11_method_14_code
def yX9_feed : MethodName := ⟨RX9, "feed", "(IIIII)I"⟩
abbrev cX9_trim : ByteArray := prog_11_method_15_code
def yX9_trim : MethodName := ⟨RX9, "trim", "(I)I"⟩
abbrev cX9_peek : ByteArray := prog_11_method_16_code
def yX9_peek : MethodName := ⟨RX9, "peek", "(I)I"⟩
abbrev cX9_isDigit : ByteArray := prog_11_method_17_code
def yX9_isDigit : MethodName := ⟨RX9, "isDigit", "(I)Z"⟩
abbrev cX9_next : ByteArray := prog_11_method_18_code
def yX9_next : MethodName := ⟨RX9, "next", "()V"⟩
abbrev cX9_wrong : ByteArray := prog_11_method_19_code
def yX9_wrong : MethodName := ⟨RX9, "wrong", "()V"⟩
abbrev cX9_isWell : ByteArray := prog_11_method_20_code
def yX9_isWell : MethodName := ⟨RX9, "isWell", "()Z"⟩
abbrev cX9_numberRead : ByteArray := prog_11_method_21_code
def yX9_numberRead : MethodName := ⟨RX9, "numberRead", "()J"⟩
abbrev cX9_term : ByteArray := prog_11_method_22_code
def yX9_term : MethodName := ⟨RX9, "term", "(Z)V"⟩
abbrev cX9_parse : ByteArray := prog_11_method_23_code
def yX9_parse : MethodName := ⟨RX9, "parse", "()Z"⟩
abbrev cX9_make : ByteArray := prog_11_method_24_code
def yX9_make : MethodName := ⟨RX9, "make", "(Z)V"⟩
abbrev cX9_isLow : ByteArray := prog_11_method_25_code
def yX9_isLow : MethodName := ⟨RX9, "isLow", "()Z"⟩
abbrev cX9_isHigh : ByteArray := prog_11_method_26_code
def yX9_isHigh : MethodName := ⟨RX9, "isHigh", "()Z"⟩
abbrev cX9_post : ByteArray := prog_11_method_27_code
def yX9_post : MethodName := ⟨RX9, "post", "()I"⟩
abbrev cX9_isMadeTrue : ByteArray := prog_11_method_28_code
def yX9_isMadeTrue : MethodName := ⟨RX9, "isMadeTrue", "(I)Z"⟩
abbrev cX9_isMadeImplied : ByteArray := prog_11_method_29_code
def yX9_isMadeImplied : MethodName := ⟨RX9, "isMadeImplied", "()Z"⟩
abbrev cX9_isImplied : ByteArray := prog_11_method_30_code
def yX9_isImplied : MethodName := ⟨RX9, "isImplied", "()Z"⟩
abbrev cX9_errorPosition : ByteArray := prog_11_method_31_code
def yX9_errorPosition : MethodName := ⟨RX9, "errorPosition", "()I"⟩
abbrev cX9_put : ByteArray := prog_11_method_32_code
def yX9_put : MethodName := ⟨RX9, "put", "(I)V"⟩
abbrev cX9_putNumber : ByteArray := prog_11_method_33_code
def yX9_putNumber : MethodName := ⟨RX9, "putNumber", "(J)V"⟩
abbrev cX9_write : ByteArray := prog_11_method_34_code
def yX9_write : MethodName := ⟨RX9, "write", "(I)I"⟩
abbrev cX9_outputByte : ByteArray := prog_11_method_35_code
def yX9_outputByte : MethodName := ⟨RX9, "outputByte", "(I)I"⟩
abbrev cX9_constraintCount : ByteArray := prog_11_method_36_code
def yX9_constraintCount : MethodName := ⟨RX9, "constraintCount", "()I"⟩
abbrev cX9_terms : ByteArray := prog_11_method_37_code
def yX9_terms : MethodName := ⟨RX9, "terms", "(I)I"⟩
abbrev cX9_termCount : ByteArray := prog_11_method_38_code
def yX9_termCount : MethodName := ⟨RX9, "termCount", "(I)I"⟩
abbrev cX9_degree : ByteArray := prog_11_method_39_code
def yX9_degree : MethodName := ⟨RX9, "degree", "(I)I"⟩
abbrev cX9_coefficient : ByteArray := prog_11_method_40_code
def yX9_coefficient : MethodName := ⟨RX9, "coefficient", "(II)I"⟩
abbrev cX9_slackOf : ByteArray := prog_11_method_41_code
def yX9_slackOf : MethodName := ⟨RX9, "slackOf", "(I[I)J"⟩
abbrev cX9_slack : ByteArray := prog_11_method_42_code
def yX9_slack : MethodName := ⟨RX9, "slack", "(I)J"⟩
abbrev cX9_least : ByteArray := prog_11_method_43_code
def yX9_least : MethodName := ⟨RX9, "least", "(I)I"⟩
abbrev cX9_cardinality : ByteArray := prog_11_method_44_code
def yX9_cardinality : MethodName := ⟨RX9, "cardinality", "(I)I"⟩
abbrev cX9_keep : ByteArray := prog_11_method_45_code
def yX9_keep : MethodName := ⟨RX9, "keep", "(I)I"⟩
abbrev cX9_sum : ByteArray := prog_11_method_46_code
def yX9_sum : MethodName := ⟨RX9, "sum", "(II)I"⟩
abbrev cX9_multiple : ByteArray := prog_11_method_47_code
def yX9_multiple : MethodName := ⟨RX9, "multiple", "(II)I"⟩
abbrev cX9_up : ByteArray := prog_11_method_48_code
def yX9_up : MethodName := ⟨RX9, "up", "(JJ)J"⟩
abbrev cX9_quotient : ByteArray := prog_11_method_49_code
def yX9_quotient : MethodName := ⟨RX9, "quotient", "(II)I"⟩
abbrev cX9_saturation : ByteArray := prog_11_method_50_code
def yX9_saturation : MethodName := ⟨RX9, "saturation", "(I)I"⟩
abbrev cX9_weakening : ByteArray := prog_11_method_51_code
def yX9_weakening : MethodName := ⟨RX9, "weakening", "(II)I"⟩
abbrev cX9_divisorOf : ByteArray := prog_11_method_52_code
def yX9_divisorOf : MethodName := ⟨RX9, "divisorOf", "(JJ)J"⟩
abbrev cX9_resolvent : ByteArray := prog_11_method_53_code
def yX9_resolvent : MethodName := ⟨RX9, "resolvent", "(III)I"⟩
abbrev cX9_cardinalityConstraint : ByteArray := prog_11_method_54_code
def yX9_cardinalityConstraint : MethodName := ⟨RX9, "cardinalityConstraint", "(I)I"⟩
abbrev cX9_areApart : ByteArray := prog_11_method_55_code
def yX9_areApart : MethodName := ⟨RX9, "areApart", "(II)Z"⟩
abbrev cX9_exclude : ByteArray := prog_11_method_56_code
def yX9_exclude : MethodName := ⟨RX9, "exclude", "(II)Z"⟩
abbrev cX9_group : ByteArray := prog_11_method_57_code
def yX9_group : MethodName := ⟨RX9, "group", "(I)I"⟩
abbrev cX9_many : ByteArray := prog_11_method_58_code
def yX9_many : MethodName := ⟨RX9, "many", "([Z)I"⟩
abbrev cX9_at : ByteArray := prog_11_method_59_code
def yX9_at : MethodName := ⟨RX9, "at", "([ZI)I"⟩
abbrev cX9_groupLiteral : ByteArray := prog_11_method_60_code
def yX9_groupLiteral : MethodName := ⟨RX9, "groupLiteral", "(I)I"⟩
abbrev cX9_addGroup : ByteArray := prog_11_method_61_code
def yX9_addGroup : MethodName := ⟨RX9, "addGroup", "()I"⟩
abbrev cX9_propagate : ByteArray := prog_11_method_62_code
def yX9_propagate : MethodName := ⟨RX9, "propagate", "()V"⟩
abbrev cX9_fill : ByteArray := prog_11_method_63_code
def yX9_fill : MethodName := ⟨RX9, "fill", "(I)Z"⟩
abbrev cX9_valued : ByteArray := prog_11_method_64_code
def yX9_valued : MethodName := ⟨RX9, "valued", "()I"⟩
abbrev cX9_decide : ByteArray := prog_11_method_65_code
def yX9_decide : MethodName := ⟨RX9, "decide", "(I)I"⟩
abbrev cX9_undo : ByteArray := prog_11_method_66_code
def yX9_undo : MethodName := ⟨RX9, "undo", "()I"⟩
abbrev cX9_decisionCount : ByteArray := prog_11_method_67_code
def yX9_decisionCount : MethodName := ⟨RX9, "decisionCount", "()I"⟩
abbrev cX9_isConflicting : ByteArray := prog_11_method_68_code
def yX9_isConflicting : MethodName := ⟨RX9, "isConflicting", "()Z"⟩
abbrev cX9_value : ByteArray := prog_11_method_69_code
def yX9_value : MethodName := ⟨RX9, "value", "(I)I"⟩
abbrev cX9_isTrue : ByteArray := prog_11_method_70_code
def yX9_isTrue : MethodName := ⟨RX9, "isTrue", "(II)Z"⟩
abbrev cX9_isModel : ByteArray := prog_11_method_71_code
def yX9_isModel : MethodName := ⟨RX9, "isModel", "(I)Z"⟩
abbrev cX9_isOurs : ByteArray := prog_11_method_72_code
def yX9_isOurs : MethodName := ⟨RX9, "isOurs", "(I)Z"⟩
abbrev cX9_modelFrom : ByteArray := prog_11_method_73_code
def yX9_modelFrom : MethodName := ⟨RX9, "modelFrom", "(I)I"⟩
abbrev cX9_firstModel : ByteArray := prog_11_method_74_code
def yX9_firstModel : MethodName := ⟨RX9, "firstModel", "()I"⟩
abbrev cX9_isMask : ByteArray := prog_11_method_75_code
def yX9_isMask : MethodName := ⟨RX9, "isMask", "(I)Z"⟩
abbrev cX9_nextModel : ByteArray := prog_11_method_76_code
def yX9_nextModel : MethodName := ⟨RX9, "nextModel", "(I)I"⟩
abbrev cX9_modelCount : ByteArray := prog_11_method_77_code
def yX9_modelCount : MethodName := ⟨RX9, "modelCount", "()I"⟩
abbrev cX9_isForced : ByteArray := prog_11_method_78_code
def yX9_isForced : MethodName := ⟨RX9, "isForced", "(I)Z"⟩
abbrev cX9_setCost : ByteArray := prog_11_method_79_code
def yX9_setCost : MethodName := ⟨RX9, "setCost", "(II)I"⟩
abbrev cX9_costOf : ByteArray := prog_11_method_80_code
def yX9_costOf : MethodName := ⟨RX9, "costOf", "(I)I"⟩
abbrev cX9_cheapest : ByteArray := prog_11_method_81_code
def yX9_cheapest : MethodName := ⟨RX9, "cheapest", "()I"⟩
abbrev cX9_leastCost : ByteArray := prog_11_method_82_code
def yX9_leastCost : MethodName := ⟨RX9, "leastCost", "()I"⟩
abbrev cX9_cheapestModel : ByteArray := prog_11_method_83_code
def yX9_cheapestModel : MethodName := ⟨RX9, "cheapestModel", "()I"⟩
abbrev cX9_hasModel : ByteArray := prog_11_method_84_code
def yX9_hasModel : MethodName := ⟨RX9, "hasModel", "([Z)Z"⟩
abbrev cX9_explain : ByteArray := prog_11_method_85_code
def yX9_explain : MethodName := ⟨RX9, "explain", "(II)I"⟩
abbrev cX9_reasonLiteral : ByteArray := prog_11_method_86_code
def yX9_reasonLiteral : MethodName := ⟨RX9, "reasonLiteral", "(I)I"⟩
abbrev cX9_push : ByteArray := prog_11_method_87_code
def yX9_push : MethodName := ⟨RX9, "push", "()I"⟩
abbrev cX9_pop : ByteArray := prog_11_method_88_code
def yX9_pop : MethodName := ⟨RX9, "pop", "()I"⟩
abbrev cX9_digest : ByteArray := prog_11_method_89_code
def yX9_digest : MethodName := ⟨RX9, "digest", "()J"⟩
def RJx145de : String := "java/io/Serializable"
def TJx145de : u_T := fun k => match k with
  | _ => ("", "", "", false)
def tyJx145de : Nat → FieldType := fun k => match k with
  | _ => .int
abbrev wsJx145de0 : List Cond := u_ws RJx145de TJx145de 0
theorem nmJx145de : ∀ a, a < 0 → ∀ b, b < 0 → a ≠ b → (TJx145de a).2.1 ≠ (TJx145de b).2.1 := by decide +kernel
theorem tyJx145de_ok : ∀ k, k < 0 → parseFieldDescriptor (TJx145de k).2.2.1 = some (tyJx145de k) := by decide +kernel
def RJ5 : String := "java/lang/AbstractStringBuilder"
def TJ5 : u_T := fun k => match k with
  | _ => ("", "", "", false)
def tyJ5 : Nat → FieldType := fun k => match k with
  | _ => .int
abbrev wsJ50 : List Cond := u_ws RJ5 TJ5 0
theorem nmJ5 : ∀ a, a < 0 → ∀ b, b < 0 → a ≠ b → (TJ5 a).2.1 ≠ (TJ5 b).2.1 := by decide +kernel
theorem tyJ5_ok : ∀ k, k < 0 → parseFieldDescriptor (TJ5 k).2.2.1 = some (tyJ5 k) := by decide +kernel
abbrev cJ5_init_d00df : ByteArray := prog_13_method_2_code
def yJ5_init_d00df : MethodName := ⟨RJ5, "<init>", "(I)V"⟩
abbrev cJ5_length_8abf5 : ByteArray := prog_13_method_6_code
def yJ5_length_8abf5 : MethodName := ⟨RJ5, "length", "()I"⟩
abbrev cJ5_ensureCapacityInternal_d00df : ByteArray := prog_13_method_9_code
def yJ5_ensureCapacityInternal_d00df : MethodName := ⟨RJ5, "ensureCapacityInternal", "(I)V"⟩
abbrev cJ5_newCapacity_0f7a4 : ByteArray := prog_13_method_10_code
def yJ5_newCapacity_0f7a4 : MethodName := ⟨RJ5, "newCapacity", "(I)I"⟩
abbrev cJ5_inflate_da8c8 : ByteArray := prog_13_method_11_code
def yJ5_inflate_da8c8 : MethodName := ⟨RJ5, "inflate", "()V"⟩
abbrev cJ5_setLength_d00df : ByteArray := prog_13_method_13_code
def yJ5_setLength_d00df : MethodName := ⟨RJ5, "setLength", "(I)V"⟩
abbrev cJ5_charAt_5068e : ByteArray := prog_13_method_14_code
def yJ5_charAt_5068e : MethodName := ⟨RJ5, "charAt", "(I)C"⟩
abbrev cJ5_append_cf1ce : ByteArray := prog_13_method_22_code
def yJ5_append_cf1ce : MethodName := ⟨RJ5, "append", "(Ljava/lang/String;)Ljava/lang/AbstractStringBuilder;"⟩
abbrev cJ5_appendNull_278bc : ByteArray := prog_13_method_26_code
def yJ5_appendNull_278bc : MethodName := ⟨RJ5, "appendNull", "()Ljava/lang/AbstractStringBuilder;"⟩
abbrev cJ5_append_3fe6f : ByteArray := prog_13_method_31_code
def yJ5_append_3fe6f : MethodName := ⟨RJ5, "append", "(C)Ljava/lang/AbstractStringBuilder;"⟩
abbrev cJ5_append_c97b9 : ByteArray := prog_13_method_32_code
def yJ5_append_c97b9 : MethodName := ⟨RJ5, "append", "(I)Ljava/lang/AbstractStringBuilder;"⟩
abbrev cJ5_getValue_6d5f1 : ByteArray := prog_13_method_64_code
def yJ5_getValue_6d5f1 : MethodName := ⟨RJ5, "getValue", "()[B"⟩
abbrev cJ5_isLatin1_aae02 : ByteArray := prog_13_method_68_code
def yJ5_isLatin1_aae02 : MethodName := ⟨RJ5, "isLatin1", "()Z"⟩
abbrev cJ5_inflateIfNeededFor_a7421 : ByteArray := prog_13_method_71_code
def yJ5_inflateIfNeededFor_a7421 : MethodName := ⟨RJ5, "inflateIfNeededFor", "(Ljava/lang/String;)V"⟩
abbrev cJ5_putStringAt_47b60 : ByteArray := prog_13_method_73_code
def yJ5_putStringAt_47b60 : MethodName := ⟨RJ5, "putStringAt", "(ILjava/lang/String;)V"⟩
def RJx2cfe8 : String := "java/lang/Appendable"
def TJx2cfe8 : u_T := fun k => match k with
  | _ => ("", "", "", false)
def tyJx2cfe8 : Nat → FieldType := fun k => match k with
  | _ => .int
abbrev wsJx2cfe80 : List Cond := u_ws RJx2cfe8 TJx2cfe8 0
theorem nmJx2cfe8 : ∀ a, a < 0 → ∀ b, b < 0 → a ≠ b → (TJx2cfe8 a).2.1 ≠ (TJx2cfe8 b).2.1 := by decide +kernel
theorem tyJx2cfe8_ok : ∀ k, k < 0 → parseFieldDescriptor (TJx2cfe8 k).2.2.1 = some (tyJx2cfe8 k) := by decide +kernel
def RJx00060 : String := "java/lang/ArrayIndexOutOfBoundsException"
def TJx00060 : u_T := fun k => match k with
  | 0 => ("java/lang/Throwable", "backtrace", "Ljava/lang/Object;", false)
  | 1 => ("java/lang/Throwable", "detailMessage", "Ljava/lang/String;", false)
  | 2 => ("java/lang/Throwable", "cause", "Ljava/lang/Throwable;", false)
  | 3 => ("java/lang/Throwable", "stackTrace", "[Ljava/lang/StackTraceElement;", false)
  | 4 => ("java/lang/Throwable", "depth", "I", false)
  | _ => ("java/lang/Throwable", "suppressedExceptions", "Ljava/util/List;", false)
def tyJx00060 : Nat → FieldType := fun k => match k with
  | 0 => .object "java/lang/Object"
  | 1 => .object "java/lang/String"
  | 2 => .object "java/lang/Throwable"
  | 3 => .array (.object "java/lang/StackTraceElement")
  | 4 => .int
  | _ => .object "java/util/List"
abbrev wsJx000600 : List Cond := u_ws RJx00060 TJx00060 6
theorem nmJx00060 : ∀ a, a < 6 → ∀ b, b < 6 → a ≠ b → (TJx00060 a).2.1 ≠ (TJx00060 b).2.1 := by decide +kernel
theorem tyJx00060_ok : ∀ k, k < 6 → parseFieldDescriptor (TJx00060 k).2.2.1 = some (tyJx00060 k) := by decide +kernel
abbrev cJx00060_init_a7421 : ByteArray := prog_16_method_2_code
def yJx00060_init_a7421 : MethodName := ⟨RJx00060, "<init>", "(Ljava/lang/String;)V"⟩
abbrev cJx00060_init_d00df : ByteArray := prog_16_method_3_code
def yJx00060_init_d00df : MethodName := ⟨RJx00060, "<init>", "(I)V"⟩
def RJx9f9b0 : String := "java/lang/CharSequence"
def TJx9f9b0 : u_T := fun k => match k with
  | _ => ("", "", "", false)
def tyJx9f9b0 : Nat → FieldType := fun k => match k with
  | _ => .int
abbrev wsJx9f9b00 : List Cond := u_ws RJx9f9b0 TJx9f9b0 0
theorem nmJx9f9b0 : ∀ a, a < 0 → ∀ b, b < 0 → a ≠ b → (TJx9f9b0 a).2.1 ≠ (TJx9f9b0 b).2.1 := by decide +kernel
theorem tyJx9f9b0_ok : ∀ k, k < 0 → parseFieldDescriptor (TJx9f9b0 k).2.2.1 = some (tyJx9f9b0 k) := by decide +kernel
def RJx8e188 : String := "java/lang/Cloneable"
def TJx8e188 : u_T := fun k => match k with
  | _ => ("", "", "", false)
def tyJx8e188 : Nat → FieldType := fun k => match k with
  | _ => .int
abbrev wsJx8e1880 : List Cond := u_ws RJx8e188 TJx8e188 0
theorem nmJx8e188 : ∀ a, a < 0 → ∀ b, b < 0 → a ≠ b → (TJx8e188 a).2.1 ≠ (TJx8e188 b).2.1 := by decide +kernel
theorem tyJx8e188_ok : ∀ k, k < 0 → parseFieldDescriptor (TJx8e188 k).2.2.1 = some (tyJx8e188 k) := by decide +kernel
def RJxb160c : String := "java/lang/Comparable"
def TJxb160c : u_T := fun k => match k with
  | _ => ("", "", "", false)
def tyJxb160c : Nat → FieldType := fun k => match k with
  | _ => .int
abbrev wsJxb160c0 : List Cond := u_ws RJxb160c TJxb160c 0
theorem nmJxb160c : ∀ a, a < 0 → ∀ b, b < 0 → a ≠ b → (TJxb160c a).2.1 ≠ (TJxb160c b).2.1 := by decide +kernel
theorem tyJxb160c_ok : ∀ k, k < 0 → parseFieldDescriptor (TJxb160c k).2.2.1 = some (tyJxb160c k) := by decide +kernel
def RJ6 : String := "java/lang/Integer"
def TJ6 : u_T := fun k => match k with
  | _ => ("", "", "", false)
def tyJ6 : Nat → FieldType := fun k => match k with
  | _ => .int
abbrev wsJ60 : List Cond := u_ws RJ6 TJ6 0
theorem nmJ6 : ∀ a, a < 0 → ∀ b, b < 0 → a ≠ b → (TJ6 a).2.1 ≠ (TJ6 b).2.1 := by decide +kernel
theorem tyJ6_ok : ∀ k, k < 0 → parseFieldDescriptor (TJ6 k).2.2.1 = some (tyJ6 k) := by decide +kernel
abbrev cJ6_getChars_ba4f3 : ByteArray := prog_24_method_12_code
def yJ6_getChars_ba4f3 : MethodName := ⟨RJ6, "getChars", "(II[B)I"⟩
abbrev cJ6_stringSize_0f7a4 : ByteArray := prog_24_method_13_code
def yJ6_stringSize_0f7a4 : MethodName := ⟨RJ6, "stringSize", "(I)I"⟩
def RJ13 : String := "java/lang/Long"
def TJ13 : u_T := fun k => match k with
  | _ => ("", "", "", false)
def tyJ13 : Nat → FieldType := fun k => match k with
  | _ => .int
abbrev wsJ130 : List Cond := u_ws RJ13 TJ13 0
theorem nmJ13 : ∀ a, a < 0 → ∀ b, b < 0 → a ≠ b → (TJ13 a).2.1 ≠ (TJ13 b).2.1 := by decide +kernel
theorem tyJ13_ok : ∀ k, k < 0 → parseFieldDescriptor (TJ13 k).2.2.1 = some (tyJ13 k) := by decide +kernel
abbrev cJ13_bitCount_95d88 : ByteArray := prog_25_method_50_code
def yJ13_bitCount_95d88 : MethodName := ⟨RJ13, "bitCount", "(J)I"⟩
def RJ9 : String := "java/lang/Math"
def TJ9 : u_T := fun k => match k with
  | _ => ("", "", "", false)
def tyJ9 : Nat → FieldType := fun k => match k with
  | _ => .int
abbrev wsJ90 : List Cond := u_ws RJ9 TJ9 0
theorem nmJ9 : ∀ a, a < 0 → ∀ b, b < 0 → a ≠ b → (TJ9 a).2.1 ≠ (TJ9 b).2.1 := by decide +kernel
theorem tyJ9_ok : ∀ k, k < 0 → parseFieldDescriptor (TJ9 k).2.2.1 = some (tyJ9 k) := by decide +kernel
abbrev cJ9_max_7cf53 : ByteArray := prog_26_method_65_code
def yJ9_max_7cf53 : MethodName := ⟨RJ9, "max", "(II)I"⟩
abbrev cJ9_max_f86c9 : ByteArray := prog_26_method_66_code
def yJ9_max_f86c9 : MethodName := ⟨RJ9, "max", "(JJ)J"⟩
abbrev cJ9_min_7cf53 : ByteArray := prog_26_method_69_code
def yJ9_min_7cf53 : MethodName := ⟨RJ9, "min", "(II)I"⟩
abbrev cJ9_min_f86c9 : ByteArray := prog_26_method_70_code
def yJ9_min_f86c9 : MethodName := ⟨RJ9, "min", "(JJ)J"⟩
def RJxd2413 : String := "java/lang/Number"
def TJxd2413 : u_T := fun k => match k with
  | _ => ("", "", "", false)
def tyJxd2413 : Nat → FieldType := fun k => match k with
  | _ => .int
abbrev wsJxd24130 : List Cond := u_ws RJxd2413 TJxd2413 0
theorem nmJxd2413 : ∀ a, a < 0 → ∀ b, b < 0 → a ≠ b → (TJxd2413 a).2.1 ≠ (TJxd2413 b).2.1 := by decide +kernel
theorem tyJxd2413_ok : ∀ k, k < 0 → parseFieldDescriptor (TJxd2413 k).2.2.1 = some (tyJxd2413 k) := by decide +kernel
def RJ0 : String := "java/lang/String"
def TJ0 : u_T := fun k => match k with
  | 0 => ("java/lang/String", "value", "[B", true)
  | 1 => ("java/lang/String", "coder", "B", true)
  | 2 => ("java/lang/String", "hash", "I", false)
  | _ => ("java/lang/String", "hashIsZero", "Z", false)
def tyJ0 : Nat → FieldType := fun k => match k with
  | 0 => .array .byte
  | 1 => .byte
  | 2 => .int
  | _ => .boolean
abbrev wsJ00 : List Cond := u_ws RJ0 TJ0 4
theorem nmJ0 : ∀ a, a < 4 → ∀ b, b < 4 → a ≠ b → (TJ0 a).2.1 ≠ (TJ0 b).2.1 := by decide +kernel
theorem tyJ0_ok : ∀ k, k < 4 → parseFieldDescriptor (TJ0 k).2.2.1 = some (tyJ0 k) := by decide +kernel
abbrev cJ0_init_81219 : ByteArray := prog_29_method_53_code
def yJ0_init_81219 : MethodName := ⟨RJ0, "<init>", "(Ljava/lang/StringBuilder;)V"⟩
abbrev cJ0_length_8abf5 : ByteArray := prog_29_method_54_code
def yJ0_length_8abf5 : MethodName := ⟨RJ0, "length", "()I"⟩
abbrev cJ0_getBytes_840e7 : ByteArray := prog_29_method_147_code
def yJ0_getBytes_840e7 : MethodName := ⟨RJ0, "getBytes", "([BIB)V"⟩
abbrev cJ0_init_db425 : ByteArray := prog_29_method_150_code
def yJ0_init_db425 : MethodName := ⟨RJ0, "<init>", "(Ljava/lang/AbstractStringBuilder;Ljava/lang/Void;)V"⟩
abbrev cJ0_coder_7d493 : ByteArray := prog_29_method_152_code
def yJ0_coder_7d493 : MethodName := ⟨RJ0, "coder", "()B"⟩
abbrev cJ0_checkIndex_df160 : ByteArray := prog_29_method_155_code
def yJ0_checkIndex_df160 : MethodName := ⟨RJ0, "checkIndex", "(II)V"⟩
abbrev cJ0_checkBoundsOffCount_cabcc : ByteArray := prog_29_method_157_code
def yJ0_checkBoundsOffCount_cabcc : MethodName := ⟨RJ0, "checkBoundsOffCount", "(III)I"⟩
abbrev cJ0_checkBoundsBeginEnd_23922 : ByteArray := prog_29_method_158_code
def yJ0_checkBoundsBeginEnd_23922 : MethodName := ⟨RJ0, "checkBoundsBeginEnd", "(III)V"⟩
def RJ4 : String := "java/lang/StringBuilder"
def TJ4 : u_T := fun k => match k with
  | 0 => ("java/lang/AbstractStringBuilder", "value", "[B", false)
  | 1 => ("java/lang/AbstractStringBuilder", "coder", "B", false)
  | 2 => ("java/lang/AbstractStringBuilder", "maybeLatin1", "Z", false)
  | _ => ("java/lang/AbstractStringBuilder", "count", "I", false)
def tyJ4 : Nat → FieldType := fun k => match k with
  | 0 => .array .byte
  | 1 => .byte
  | 2 => .boolean
  | _ => .int
abbrev wsJ40 : List Cond := u_ws RJ4 TJ4 4
theorem nmJ4 : ∀ a, a < 4 → ∀ b, b < 4 → a ≠ b → (TJ4 a).2.1 ≠ (TJ4 b).2.1 := by decide +kernel
theorem tyJ4_ok : ∀ k, k < 4 → parseFieldDescriptor (TJ4 k).2.2.1 = some (tyJ4 k) := by decide +kernel
abbrev cJ4_init_da8c8 : ByteArray := prog_30_method_1_code
def yJ4_init_da8c8 : MethodName := ⟨RJ4, "<init>", "()V"⟩
abbrev cJ4_append_15ec4 : ByteArray := prog_30_method_7_code
def yJ4_append_15ec4 : MethodName := ⟨RJ4, "append", "(Ljava/lang/String;)Ljava/lang/StringBuilder;"⟩
abbrev cJ4_append_cf468 : ByteArray := prog_30_method_14_code
def yJ4_append_cf468 : MethodName := ⟨RJ4, "append", "(C)Ljava/lang/StringBuilder;"⟩
abbrev cJ4_append_bf812 : ByteArray := prog_30_method_15_code
def yJ4_append_bf812 : MethodName := ⟨RJ4, "append", "(I)Ljava/lang/StringBuilder;"⟩
abbrev cJ4_toString_0e30d : ByteArray := prog_30_method_42_code
def yJ4_toString_0e30d : MethodName := ⟨RJ4, "toString", "()Ljava/lang/String;"⟩
abbrev cJ4_charAt_5068e : ByteArray := prog_30_method_88_code
def yJ4_charAt_5068e : MethodName := ⟨RJ4, "charAt", "(I)C"⟩
abbrev cJ4_setLength_d00df : ByteArray := prog_30_method_89_code
def yJ4_setLength_d00df : MethodName := ⟨RJ4, "setLength", "(I)V"⟩
abbrev cJ4_length_8abf5 : ByteArray := prog_30_method_93_code
def yJ4_length_8abf5 : MethodName := ⟨RJ4, "length", "()I"⟩
def RJx7c733 : String := "java/lang/StringIndexOutOfBoundsException"
def TJx7c733 : u_T := fun k => match k with
  | 0 => ("java/lang/Throwable", "backtrace", "Ljava/lang/Object;", false)
  | 1 => ("java/lang/Throwable", "detailMessage", "Ljava/lang/String;", false)
  | 2 => ("java/lang/Throwable", "cause", "Ljava/lang/Throwable;", false)
  | 3 => ("java/lang/Throwable", "stackTrace", "[Ljava/lang/StackTraceElement;", false)
  | 4 => ("java/lang/Throwable", "depth", "I", false)
  | _ => ("java/lang/Throwable", "suppressedExceptions", "Ljava/util/List;", false)
def tyJx7c733 : Nat → FieldType := fun k => match k with
  | 0 => .object "java/lang/Object"
  | 1 => .object "java/lang/String"
  | 2 => .object "java/lang/Throwable"
  | 3 => .array (.object "java/lang/StackTraceElement")
  | 4 => .int
  | _ => .object "java/util/List"
abbrev wsJx7c7330 : List Cond := u_ws RJx7c733 TJx7c733 6
theorem nmJx7c733 : ∀ a, a < 6 → ∀ b, b < 6 → a ≠ b → (TJx7c733 a).2.1 ≠ (TJx7c733 b).2.1 := by decide +kernel
theorem tyJx7c733_ok : ∀ k, k < 6 → parseFieldDescriptor (TJx7c733 k).2.2.1 = some (tyJx7c733 k) := by decide +kernel
abbrev cJx7c733_init_d00df : ByteArray := prog_31_method_3_code
def yJx7c733_init_d00df : MethodName := ⟨RJx7c733, "<init>", "(I)V"⟩
def RJ1 : String := "java/lang/StringLatin1"
def TJ1 : u_T := fun k => match k with
  | _ => ("", "", "", false)
def tyJ1 : Nat → FieldType := fun k => match k with
  | _ => .int
abbrev wsJ10 : List Cond := u_ws RJ1 TJ1 0
theorem nmJ1 : ∀ a, a < 0 → ∀ b, b < 0 → a ≠ b → (TJ1 a).2.1 ≠ (TJ1 b).2.1 := by decide +kernel
theorem tyJ1_ok : ∀ k, k < 0 → parseFieldDescriptor (TJ1 k).2.2.1 = some (tyJ1 k) := by decide +kernel
abbrev cJ1_canEncode_fc78d : ByteArray := prog_32_method_3_code
def yJ1_canEncode_fc78d : MethodName := ⟨RJ1, "canEncode", "(C)Z"⟩
abbrev cJ1_fillNull_b72d1 : ByteArray := prog_32_method_48_code
def yJ1_fillNull_b72d1 : MethodName := ⟨RJ1, "fillNull", "([BII)V"⟩
abbrev cJ1_inflate_0e8fd : ByteArray := prog_32_method_50_code
def yJ1_inflate_0e8fd : MethodName := ⟨RJ1, "inflate", "([BI[BII)V"⟩
def RJ2 : String := "java/lang/StringUTF16"
def TJ2 : u_T := fun k => match k with
  | _ => ("", "", "", false)
def tyJ2 : Nat → FieldType := fun k => match k with
  | _ => .int
abbrev wsJ20 : List Cond := u_ws RJ2 TJ2 0
theorem nmJ2 : ∀ a, a < 0 → ∀ b, b < 0 → a ≠ b → (TJ2 a).2.1 ≠ (TJ2 b).2.1 := by decide +kernel
theorem tyJ2_ok : ∀ k, k < 0 → parseFieldDescriptor (TJ2 k).2.2.1 = some (tyJ2 k) := by decide +kernel
abbrev cJ2_newBytesFor_77867 : ByteArray := prog_33_method_2_code
def yJ2_newBytesFor_77867 : MethodName := ⟨RJ2, "newBytesFor", "(I)[B"⟩
abbrev cJ2_newBytesLength_0f7a4 : ByteArray := prog_33_method_3_code
def yJ2_newBytesLength_0f7a4 : MethodName := ⟨RJ2, "newBytesLength", "(I)I"⟩
abbrev cJ2_putChar_b72d1 : ByteArray := prog_33_method_4_code
def yJ2_putChar_b72d1 : MethodName := ⟨RJ2, "putChar", "([BII)V"⟩
abbrev cJ2_getChar_3b067 : ByteArray := prog_33_method_5_code
def yJ2_getChar_3b067 : MethodName := ⟨RJ2, "getChar", "([BI)C"⟩
abbrev cJ2_length_9d52b : ByteArray := prog_33_method_6_code
def yJ2_length_9d52b : MethodName := ⟨RJ2, "length", "([B)I"⟩
abbrev cJ2_coderFromArrayLen_85cad : ByteArray := prog_33_method_15_code
def yJ2_coderFromArrayLen_85cad : MethodName := ⟨RJ2, "coderFromArrayLen", "([BI)B"⟩
abbrev cJ2_compress_39247 : ByteArray := prog_33_method_17_code
def yJ2_compress_39247 : MethodName := ⟨RJ2, "compress", "([BII)[B"⟩
abbrev cJ2_compress_5af95 : ByteArray := prog_33_method_22_code
def yJ2_compress_5af95 : MethodName := ⟨RJ2, "compress", "([BI[BII)I"⟩
abbrev cJ2_fillNull_b72d1 : ByteArray := prog_33_method_70_code
def yJ2_fillNull_b72d1 : MethodName := ⟨RJ2, "fillNull", "([BII)V"⟩
abbrev cJ2_putCharSB_b72d1 : ByteArray := prog_33_method_71_code
def yJ2_putCharSB_b72d1 : MethodName := ⟨RJ2, "putCharSB", "([BII)V"⟩
abbrev cJ2_getChars_46870 : ByteArray := prog_33_method_77_code
def yJ2_getChars_46870 : MethodName := ⟨RJ2, "getChars", "(III[B)I"⟩
abbrev cJ2_putCharsAt_cd4e5 : ByteArray := prog_33_method_81_code
def yJ2_putCharsAt_cd4e5 : MethodName := ⟨RJ2, "putCharsAt", "([BICCCC)I"⟩
abbrev cJ2_inflate_0e8fd : ByteArray := prog_33_method_86_code
def yJ2_inflate_0e8fd : MethodName := ⟨RJ2, "inflate", "([BI[BII)V"⟩
abbrev cJ2_getChars_ba4f3 : ByteArray := prog_33_method_89_code
def yJ2_getChars_ba4f3 : MethodName := ⟨RJ2, "getChars", "(II[B)I"⟩
abbrev cJ2_checkIndex_2214a : ByteArray := prog_33_method_91_code
def yJ2_checkIndex_2214a : MethodName := ⟨RJ2, "checkIndex", "(I[B)V"⟩
abbrev cJ2_checkBoundsBeginEnd_d044e : ByteArray := prog_33_method_93_code
def yJ2_checkBoundsBeginEnd_d044e : MethodName := ⟨RJ2, "checkBoundsBeginEnd", "(II[B)V"⟩
abbrev cJ2_checkBoundsOffCount_d044e : ByteArray := prog_33_method_94_code
def yJ2_checkBoundsOffCount_d044e : MethodName := ⟨RJ2, "checkBoundsOffCount", "(II[B)V"⟩
def RJ10 : String := "java/lang/System"
def TJ10 : u_T := fun k => match k with
  | _ => ("", "", "", false)
def tyJ10 : Nat → FieldType := fun k => match k with
  | _ => .int
abbrev wsJ100 : List Cond := u_ws RJ10 TJ10 0
theorem nmJ10 : ∀ a, a < 0 → ∀ b, b < 0 → a ≠ b → (TJ10 a).2.1 ≠ (TJ10 b).2.1 := by decide +kernel
theorem tyJ10_ok : ∀ k, k < 0 → parseFieldDescriptor (TJ10 k).2.2.1 = some (tyJ10 k) := by decide +kernel
def RJxfd54e : String := "java/lang/constant/Constable"
def TJxfd54e : u_T := fun k => match k with
  | _ => ("", "", "", false)
def tyJxfd54e : Nat → FieldType := fun k => match k with
  | _ => .int
abbrev wsJxfd54e0 : List Cond := u_ws RJxfd54e TJxfd54e 0
theorem nmJxfd54e : ∀ a, a < 0 → ∀ b, b < 0 → a ≠ b → (TJxfd54e a).2.1 ≠ (TJxfd54e b).2.1 := by decide +kernel
theorem tyJxfd54e_ok : ∀ k, k < 0 → parseFieldDescriptor (TJxfd54e k).2.2.1 = some (tyJxfd54e k) := by decide +kernel
def RJx3cf43 : String := "java/lang/constant/ConstantDesc"
def TJx3cf43 : u_T := fun k => match k with
  | _ => ("", "", "", false)
def tyJx3cf43 : Nat → FieldType := fun k => match k with
  | _ => .int
abbrev wsJx3cf430 : List Cond := u_ws RJx3cf43 TJx3cf43 0
theorem nmJx3cf43 : ∀ a, a < 0 → ∀ b, b < 0 → a ≠ b → (TJx3cf43 a).2.1 ≠ (TJx3cf43 b).2.1 := by decide +kernel
theorem tyJx3cf43_ok : ∀ k, k < 0 → parseFieldDescriptor (TJx3cf43 k).2.2.1 = some (tyJx3cf43 k) := by decide +kernel
def RJ7 : String := "java/util/Arrays"
def TJ7 : u_T := fun k => match k with
  | _ => ("", "", "", false)
def tyJ7 : Nat → FieldType := fun k => match k with
  | _ => .int
abbrev wsJ70 : List Cond := u_ws RJ7 TJ7 0
theorem nmJ7 : ∀ a, a < 0 → ∀ b, b < 0 → a ≠ b → (TJ7 a).2.1 ≠ (TJ7 b).2.1 := by decide +kernel
theorem tyJ7_ok : ∀ k, k < 0 → parseFieldDescriptor (TJ7 k).2.2.1 = some (tyJ7 k) := by decide +kernel
abbrev cJ7_rangeCheck_23922 : ByteArray := prog_38_method_30_code
def yJ7_rangeCheck_23922 : MethodName := ⟨RJ7, "rangeCheck", "(III)V"⟩
abbrev cJ7_fill_d0a16 : ByteArray := prog_38_method_101_code
def yJ7_fill_d0a16 : MethodName := ⟨RJ7, "fill", "([JJ)V"⟩
abbrev cJ7_fill_53178 : ByteArray := prog_38_method_103_code
def yJ7_fill_53178 : MethodName := ⟨RJ7, "fill", "([II)V"⟩
abbrev cJ7_fill_eb02e : ByteArray := prog_38_method_110_code
def yJ7_fill_eb02e : MethodName := ⟨RJ7, "fill", "([BIIB)V"⟩
abbrev cJ7_copyOf_9075b : ByteArray := prog_38_method_121_code
def yJ7_copyOf_9075b : MethodName := ⟨RJ7, "copyOf", "([BI)[B"⟩
abbrev cJ7_checkLength_df160 : ByteArray := prog_38_method_131_code
def yJ7_checkLength_df160 : MethodName := ⟨RJ7, "checkLength", "(II)V"⟩
abbrev cJ7_copyOfRange_39247 : ByteArray := prog_38_method_132_code
def yJ7_copyOfRange_39247 : MethodName := ⟨RJ7, "copyOfRange", "([BII)[B"⟩
abbrev cJ7_copyOfRangeByte_39247 : ByteArray := prog_38_method_133_code
def yJ7_copyOfRangeByte_39247 : MethodName := ⟨RJ7, "copyOfRangeByte", "([BII)[B"⟩
def RJ8 : String := "jdk/internal/util/ArraysSupport"
def TJ8 : u_T := fun k => match k with
  | _ => ("", "", "", false)
def tyJ8 : Nat → FieldType := fun k => match k with
  | _ => .int
abbrev wsJ80 : List Cond := u_ws RJ8 TJ8 0
theorem nmJ8 : ∀ a, a < 0 → ∀ b, b < 0 → a ≠ b → (TJ8 a).2.1 ≠ (TJ8 b).2.1 := by decide +kernel
theorem tyJ8_ok : ∀ k, k < 0 → parseFieldDescriptor (TJ8 k).2.2.1 = some (tyJ8 k) := by decide +kernel
abbrev cJ8_newLength_cabcc : ByteArray := prog_40_method_27_code
def yJ8_newLength_cabcc : MethodName := ⟨RJ8, "newLength", "(III)I"⟩
abbrev cJ8_hugeLength_7cf53 : ByteArray := prog_40_method_28_code
def yJ8_hugeLength_7cf53 : MethodName := ⟨RJ8, "hugeLength", "(II)I"⟩
def RJ3 : String := "jdk/internal/util/Preconditions"
def TJ3 : u_T := fun k => match k with
  | _ => ("", "", "", false)
def tyJ3 : Nat → FieldType := fun k => match k with
  | _ => .int
abbrev wsJ30 : List Cond := u_ws RJ3 TJ3 0
theorem nmJ3 : ∀ a, a < 0 → ∀ b, b < 0 → a ≠ b → (TJ3 a).2.1 ≠ (TJ3 b).2.1 := by decide +kernel
theorem tyJ3_ok : ∀ k, k < 0 → parseFieldDescriptor (TJ3 k).2.2.1 = some (tyJ3 k) := by decide +kernel
abbrev cJ3_checkIndex_8e157 : ByteArray := prog_41_method_11_code
def yJ3_checkIndex_8e157 : MethodName := ⟨RJ3, "checkIndex", "(IILjava/util/function/BiFunction;)I"⟩
abbrev cJ3_checkFromToIndex_8c36e : ByteArray := prog_41_method_12_code
def yJ3_checkFromToIndex_8c36e : MethodName := ⟨RJ3, "checkFromToIndex", "(IIILjava/util/function/BiFunction;)I"⟩
abbrev cJ3_checkFromIndexSize_8c36e : ByteArray := prog_41_method_13_code
def yJ3_checkFromIndexSize_8c36e : MethodName := ⟨RJ3, "checkFromIndexSize", "(IIILjava/util/function/BiFunction;)I"⟩
def RL : String := "PseudoBooleanLaw"
abbrev cL_feed : ByteArray := method_3_code
def yL_feed : MethodName := ⟨RL, "feed", "(LPseudoBoolean;IIIII[J)I"⟩
abbrev cL_trim : ByteArray := method_4_code
def yL_trim : MethodName := ⟨RL, "trim", "(LPseudoBoolean;I[J)I"⟩
abbrev cL_post : ByteArray := method_5_code
def yL_post : MethodName := ⟨RL, "post", "(LPseudoBoolean;[J)I"⟩
abbrev cL_isImplied : ByteArray := method_6_code
def yL_isImplied : MethodName := ⟨RL, "isImplied", "(LPseudoBoolean;[J)I"⟩
abbrev cL_write : ByteArray := method_7_code
def yL_write : MethodName := ⟨RL, "write", "(LPseudoBoolean;I[J)I"⟩
abbrev cL_outputByte : ByteArray := method_8_code
def yL_outputByte : MethodName := ⟨RL, "outputByte", "(LPseudoBoolean;I[J)I"⟩
abbrev cL_termCount : ByteArray := method_9_code
def yL_termCount : MethodName := ⟨RL, "termCount", "(LPseudoBoolean;I[J)I"⟩
abbrev cL_degree : ByteArray := method_10_code
def yL_degree : MethodName := ⟨RL, "degree", "(LPseudoBoolean;I[J)I"⟩
abbrev cL_coefficient : ByteArray := method_11_code
def yL_coefficient : MethodName := ⟨RL, "coefficient", "(LPseudoBoolean;II[J)I"⟩
abbrev cL_slack : ByteArray := method_12_code
def yL_slack : MethodName := ⟨RL, "slack", "(LPseudoBoolean;I[J)I"⟩
abbrev cL_cardinality : ByteArray := method_13_code
def yL_cardinality : MethodName := ⟨RL, "cardinality", "(LPseudoBoolean;I[J)I"⟩
abbrev cL_sum : ByteArray := method_14_code
def yL_sum : MethodName := ⟨RL, "sum", "(LPseudoBoolean;II[J)I"⟩
abbrev cL_multiple : ByteArray := method_15_code
def yL_multiple : MethodName := ⟨RL, "multiple", "(LPseudoBoolean;II[J)I"⟩
abbrev cL_quotient : ByteArray := method_16_code
def yL_quotient : MethodName := ⟨RL, "quotient", "(LPseudoBoolean;II[J)I"⟩
abbrev cL_saturation : ByteArray := method_17_code
def yL_saturation : MethodName := ⟨RL, "saturation", "(LPseudoBoolean;I[J)I"⟩
abbrev cL_weakening : ByteArray := method_18_code
def yL_weakening : MethodName := ⟨RL, "weakening", "(LPseudoBoolean;II[J)I"⟩
abbrev cL_resolvent : ByteArray := method_19_code
def yL_resolvent : MethodName := ⟨RL, "resolvent", "(LPseudoBoolean;III[J)I"⟩
abbrev cL_cardinalityConstraint : ByteArray := method_20_code
def yL_cardinalityConstraint : MethodName := ⟨RL, "cardinalityConstraint", "(LPseudoBoolean;I[J)I"⟩
abbrev cL_exclude : ByteArray := method_21_code
def yL_exclude : MethodName := ⟨RL, "exclude", "(LPseudoBoolean;II[J)I"⟩
abbrev cL_group : ByteArray := method_22_code
def yL_group : MethodName := ⟨RL, "group", "(LPseudoBoolean;I[J)I"⟩
abbrev cL_groupLiteral : ByteArray := method_23_code
def yL_groupLiteral : MethodName := ⟨RL, "groupLiteral", "(LPseudoBoolean;I[J)I"⟩
abbrev cL_addGroup : ByteArray := method_24_code
def yL_addGroup : MethodName := ⟨RL, "addGroup", "(LPseudoBoolean;[J)I"⟩
abbrev cL_decide : ByteArray := method_25_code
def yL_decide : MethodName := ⟨RL, "decide", "(LPseudoBoolean;I[J)I"⟩
abbrev cL_undo : ByteArray := method_26_code
def yL_undo : MethodName := ⟨RL, "undo", "(LPseudoBoolean;[J)I"⟩
abbrev cL_value : ByteArray := method_27_code
def yL_value : MethodName := ⟨RL, "value", "(LPseudoBoolean;I[J)I"⟩
abbrev cL_nextModel : ByteArray := method_28_code
def yL_nextModel : MethodName := ⟨RL, "nextModel", "(LPseudoBoolean;I[J)I"⟩
abbrev cL_isForced : ByteArray := method_29_code
def yL_isForced : MethodName := ⟨RL, "isForced", "(LPseudoBoolean;I[J)I"⟩
abbrev cL_setCost : ByteArray := method_30_code
def yL_setCost : MethodName := ⟨RL, "setCost", "(LPseudoBoolean;II[J)I"⟩
abbrev cL_leastCost : ByteArray := method_31_code
def yL_leastCost : MethodName := ⟨RL, "leastCost", "(LPseudoBoolean;[J)I"⟩
abbrev cL_cheapestModel : ByteArray := method_32_code
def yL_cheapestModel : MethodName := ⟨RL, "cheapestModel", "(LPseudoBoolean;[J)I"⟩
abbrev cL_explain : ByteArray := method_33_code
def yL_explain : MethodName := ⟨RL, "explain", "(LPseudoBoolean;II[J)I"⟩
abbrev cL_reasonLiteral : ByteArray := method_34_code
def yL_reasonLiteral : MethodName := ⟨RL, "reasonLiteral", "(LPseudoBoolean;I[J)I"⟩
abbrev cL_push : ByteArray := method_35_code
def yL_push : MethodName := ⟨RL, "push", "(LPseudoBoolean;[J)I"⟩
abbrev cL_pop : ByteArray := method_36_code
def yL_pop : MethodName := ⟨RL, "pop", "(LPseudoBoolean;[J)I"⟩
abbrev cL_law : ByteArray := code
def yL_law : MethodName := ⟨RL, "law", "([I)Z"⟩
end
section
/-! WHAT THE TABLES OF THE CODE ARE MADE OF -/
abbrev ax_H : Type := List (Nat × List Value)
abbrev ax_M : Type := MethodName × ByteArray × Nat × Option FieldType × List (Nat × Nat × Nat × Nat)
def ax_hd (k : ax_M) : Cond := match k.2.2.2.2 with
  | [] => .code k.1 k.2.1 k.2.2.1 k.2.2.2.1
  | hh => .codeWith k.1 k.2.1 k.2.2.1 k.2.2.2.1 hh
def ax_tb : List Cond := lw_tbl.filter goodWord
theorem ax_mem {w : Cond} (i : Nat) (h : lw_tbl[i]? = some w) (g : goodWord w = true) : w ∈ ax_tb := List.mem_filter.mpr ⟨List.mem_of_getElem? h, g⟩
theorem ax_good : GoodIn ax_tb ax_tb := fun w h => ⟨h, good_of_word (List.mem_filter.mp h).2⟩
abbrev ax_Cl : Type := String × u_T × Nat × (Nat → FieldType)
def ax_cls : List ax_Cl := [(RX0, TX0, 2, tyX0), (RX1, TX1, 3, tyX1), (RX2, TX2, 2, tyX2), (RX3, TX3, 2, tyX3), (RX4, TX4, 2, tyX4), (RX5, TX5, 1, tyX5), (RX6, TX6, 9, tyX6), (RX7, TX7, 2, tyX7), (RX8, TX8, 18, tyX8), (RX9, TX9, 32, tyX9), (RJ4, TJ4, 4, tyJ4)]
def ax_tys : List FieldType := [.int, .long, .boolean, .byte, .object RX1, .object RX5, .object RX3]
/-- static fields that nobody writes -/
def ax_stat : List (String × String × String × Value) := [("PseudoBoolean$ModelSet", "BITS_WITH_VARIABLE", "[J", .ref 1000000000), ("java/lang/String", "COMPACT_STRINGS", "Z", .int 1)]
/-- words that hold but aren't kept by themselves; the texts -/
abbrev ax_NS : Type := List Cond × List (String × Nat × String)
end
section
/-! THE METHODS AND THEIR CODE, linked, as data (by program out of the names and the tables' words) -/
abbrev ax_q0 : ax_M := (yX0_init, cX0_init, 1, none, [])
abbrev ax_q1 : ax_M := (yX0_clear, cX0_clear, 1, none, [])
abbrev ax_q2 : ax_M := (yX0_hasValue, cX0_hasValue, 2, (some .boolean), [])
abbrev ax_q3 : ax_M := (yX0_isFalse, cX0_isFalse, 2, (some .boolean), [])
abbrev ax_q4 : ax_M := (yX0_makeTrue, cX0_makeTrue, 2, none, [])
abbrev ax_q5 : ax_M := (yX0_countValues, cX0_countValues, 3, (some .int), [])
abbrev ax_q6 : ax_M := (yX1_init, cX1_init, 1, none, [])
abbrev ax_q7 : ax_M := (yX1_setTo, cX1_setTo, 3, none, [])
abbrev ax_q8 : ax_M := (yX1_countTerms, cX1_countTerms, 3, (some .int), [])
abbrev ax_q9 : ax_M := (yX1_literalOf, cX1_literalOf, 3, (some .int), [])
abbrev ax_q10 : ax_M := (yX1_hasVariable, cX1_hasVariable, 2, (some .boolean), [])
abbrev ax_q11 : ax_M := (yX1_slackWith, cX1_slackWith, 5, (some .long), [])
abbrev ax_q12 : ax_M := (yX1_forbids, cX1_forbids, 3, (some .boolean), [])
abbrev ax_q13 : ax_M := (yX1_propagateTo, cX1_propagateTo, 6, (some .boolean), [])
abbrev ax_q14 : ax_M := (yX1_leastTrueLiterals, cX1_leastTrueLiterals, 7, (some .int), [])
abbrev ax_q15 : ax_M := (yX1_greatestOutside, cX1_greatestOutside, 5, (some .int), [])
abbrev ax_q16 : ax_M := (yX1_appendTo, cX1_appendTo, 4, none, [])
abbrev ax_q17 : ax_M := (yX1_appendTermTo, cX1_appendTermTo, 3, none, [])
abbrev ax_q18 : ax_M := (yX1_extendDigest, cX1_extendDigest, 6, (some .long), [])
abbrev ax_q19 : ax_M := (yX2_init, cX2_init, 1, none, [])
abbrev ax_q20 : ax_M := (yX2_clear, cX2_clear, 1, none, [])
abbrev ax_q21 : ax_M := (yX2_addTerm, cX2_addTerm, 4, none, [])
abbrev ax_q22 : ax_M := (yX2_addTimes, cX2_addTimes, 5, none, [])
abbrev ax_q23 : ax_M := (yX2_divideRoundingUp, cX2_divideRoundingUp, 6, none, [])
abbrev ax_q24 : ax_M := (yX2_saturate, cX2_saturate, 2, none, [])
abbrev ax_q25 : ax_M := (yX2_weaken, cX2_weaken, 2, none, [])
abbrev ax_q26 : ax_M := (yX2_normalise, cX2_normalise, 4, none, [])
abbrev ax_q27 : ax_M := (yX2_isInBounds, cX2_isInBounds, 2, (some .boolean), [])
abbrev ax_q28 : ax_M := (yX3_init, cX3_init, 1, none, [])
abbrev ax_q29 : ax_M := (yX3_add, cX3_add, 2, none, [])
abbrev ax_q30 : ax_M := (yX3_removeLast, cX3_removeLast, 1, none, [])
abbrev ax_q31 : ax_M := (yX3_copyFrom, cX3_copyFrom, 2, none, [])
abbrev ax_q32 : ax_M := (yX3_setTo, cX3_setTo, 3, none, [])
abbrev ax_q33 : ax_M := (yX3_variablesWithSign, cX3_variablesWithSign, 4, (some .int), [])
abbrev ax_q34 : ax_M := (yX4_init, cX4_init, 1, none, [])
abbrev ax_q35 : ax_M := (yX4_ofMask, cX4_ofMask, 2, (some .long), [])
abbrev ax_q36 : ax_M := (yX4_bitsReaching, cX4_bitsReaching, 9, (some .long), [])
abbrev ax_q37 : ax_M := (yX4_setToFulfillment, cX4_setToFulfillment, 7, none, [])
abbrev ax_q38 : ax_M := (yX4_setToCosts, cX4_setToCosts, 3, none, [])
abbrev ax_q39 : ax_M := (yX4_addVariable, cX4_addVariable, 9, none, [])
abbrev ax_q40 : ax_M := (yX5_init, cX5_init, 1, none, [])
abbrev ax_q41 : ax_M := (yX5_copyFrom, cX5_copyFrom, 2, none, [])
abbrev ax_q42 : ax_M := (yX5_keepReaching, cX5_keepReaching, 5, none, [])
abbrev ax_q43 : ax_M := (yX5_allReach, cX5_allReach, 5, (some .boolean), [])
abbrev ax_q44 : ax_M := (yX5_leastFrom, cX5_leastFrom, 9, (some .int), [])
abbrev ax_q45 : ax_M := (yX5_countWith, cX5_countWith, 5, (some .int), [])
abbrev ax_q46 : ax_M := (yX5_cheapest, cX5_cheapest, 13, (some .int), [])
abbrev ax_q47 : ax_M := (yX5_matching, cX5_matching, 7, (some .long), [])
abbrev ax_q48 : ax_M := (yX6_init, cX6_init, 2, none, [])
abbrev ax_q49 : ax_M := (yX6_isEquation, cX6_isEquation, 1, (some .boolean), [])
abbrev ax_q50 : ax_M := (yX6_hasLowerBound, cX6_hasLowerBound, 1, (some .boolean), [])
abbrev ax_q51 : ax_M := (yX6_hasUpperBound, cX6_hasUpperBound, 1, (some .boolean), [])
abbrev ax_q52 : ax_M := (yX6_draftLowerBound, cX6_draftLowerBound, 2, none, [])
abbrev ax_q53 : ax_M := (yX6_draftUpperBound, cX6_draftUpperBound, 2, none, [])
abbrev ax_q54 : ax_M := (yX6_draftTimes, cX6_draftTimes, 4, none, [])
abbrev ax_q55 : ax_M := (yX6_readConstraint, cX6_readConstraint, 1, (some .boolean), [])
abbrev ax_q56 : ax_M := (yX6_readSum, cX6_readSum, 4, (some .boolean), [])
abbrev ax_q57 : ax_M := (yX6_readTerm, cX6_readTerm, 4, (some .boolean), [])
abbrev ax_q58 : ax_M := (yX6_readRelation, cX6_readRelation, 1, (some .boolean), [])
abbrev ax_q59 : ax_M := (yX6_readBound, cX6_readBound, 2, (some .boolean), [])
abbrev ax_q60 : ax_M := (yX6_skipMinus, cX6_skipMinus, 1, (some .boolean), [])
abbrev ax_q61 : ax_M := (yX6_nextToken, cX6_nextToken, 2, none, [])
abbrev ax_q62 : ax_M := (yX6_takeNumber, cX6_takeNumber, 2, none, [])
abbrev ax_q63 : ax_M := (yX6_takeSymbol, cX6_takeSymbol, 3, none, [])
abbrev ax_q64 : ax_M := (yX6_take, cX6_take, 3, none, [])
abbrev ax_q65 : ax_M := (yX6_isDigit, cX6_isDigit, 1, (some .boolean), [])
abbrev ax_q66 : ax_M := (yX7_init, cX7_init, 1, none, [])
abbrev ax_q67 : ax_M := (yX7_appendFourBytes, cX7_appendFourBytes, 3, none, [])
abbrev ax_q68 : ax_M := (yX7_byteAt, cX7_byteAt, 2, (some .int), [])
abbrev ax_q69 : ax_M := (yX8_init, cX8_init, 2, none, [])
abbrev ax_q70 : ax_M := (yX8_feed, cX8_feed, 6, (some .int), [])
abbrev ax_q71 : ax_M := (yX8_trim, cX8_trim, 2, (some .int), [])
abbrev ax_q72 : ax_M := (yX8_post, cX8_post, 2, (some .int), [])
abbrev ax_q73 : ax_M := (yX8_isImplied, cX8_isImplied, 2, (some .boolean), [])
abbrev ax_q74 : ax_M := (yX8_errorPosition, cX8_errorPosition, 1, (some .int), [])
abbrev ax_q75 : ax_M := (yX8_write, cX8_write, 2, (some .int), [])
abbrev ax_q76 : ax_M := (yX8_outputByte, cX8_outputByte, 2, (some .int), [])
abbrev ax_q77 : ax_M := (yX8_constraintCount, cX8_constraintCount, 1, (some .int), [])
abbrev ax_q78 : ax_M := (yX8_termCount, cX8_termCount, 2, (some .int), [])
abbrev ax_q79 : ax_M := (yX8_degree, cX8_degree, 2, (some .int), [])
abbrev ax_q80 : ax_M := (yX8_coefficient, cX8_coefficient, 3, (some .int), [])
abbrev ax_q81 : ax_M := (yX8_slack, cX8_slack, 2, (some .long), [])
abbrev ax_q82 : ax_M := (yX8_cardinality, cX8_cardinality, 2, (some .int), [])
abbrev ax_q83 : ax_M := (yX8_sum, cX8_sum, 3, (some .int), [])
abbrev ax_q84 : ax_M := (yX8_multiple, cX8_multiple, 3, (some .int), [])
abbrev ax_q85 : ax_M := (yX8_quotient, cX8_quotient, 3, (some .int), [])
abbrev ax_q86 : ax_M := (yX8_saturation, cX8_saturation, 2, (some .int), [])
abbrev ax_q87 : ax_M := (yX8_weakening, cX8_weakening, 3, (some .int), [])
abbrev ax_q88 : ax_M := (yX8_resolvent, cX8_resolvent, 8, (some .int), [])
abbrev ax_q89 : ax_M := (yX8_cardinalityConstraint, cX8_cardinalityConstraint, 3, (some .int), [])
abbrev ax_q90 : ax_M := (yX8_exclude, cX8_exclude, 3, (some .boolean), [])
abbrev ax_q91 : ax_M := (yX8_group, cX8_group, 4, (some .int), [])
abbrev ax_q92 : ax_M := (yX8_groupLiteral, cX8_groupLiteral, 2, (some .int), [])
abbrev ax_q93 : ax_M := (yX8_addGroup, cX8_addGroup, 2, (some .int), [])
abbrev ax_q94 : ax_M := (yX8_decide, cX8_decide, 2, (some .int), [])
abbrev ax_q95 : ax_M := (yX8_undo, cX8_undo, 1, (some .int), [])
abbrev ax_q96 : ax_M := (yX8_decisionCount, cX8_decisionCount, 1, (some .int), [])
abbrev ax_q97 : ax_M := (yX8_isConflicting, cX8_isConflicting, 1, (some .boolean), [])
abbrev ax_q98 : ax_M := (yX8_value, cX8_value, 2, (some .int), [])
abbrev ax_q99 : ax_M := (yX8_firstModel, cX8_firstModel, 1, (some .int), [])
abbrev ax_q100 : ax_M := (yX8_nextModel, cX8_nextModel, 2, (some .int), [])
abbrev ax_q101 : ax_M := (yX8_modelCount, cX8_modelCount, 1, (some .int), [])
abbrev ax_q102 : ax_M := (yX8_isForced, cX8_isForced, 4, (some .boolean), [])
abbrev ax_q103 : ax_M := (yX8_setCost, cX8_setCost, 4, (some .int), [])
abbrev ax_q104 : ax_M := (yX8_leastCost, cX8_leastCost, 2, (some .int), [])
abbrev ax_q105 : ax_M := (yX8_cheapestModel, cX8_cheapestModel, 1, (some .int), [])
abbrev ax_q106 : ax_M := (yX8_explain, cX8_explain, 8, (some .int), [])
abbrev ax_q107 : ax_M := (yX8_reasonLiteral, cX8_reasonLiteral, 2, (some .int), [])
abbrev ax_q108 : ax_M := (yX8_push, cX8_push, 1, (some .int), [])
abbrev ax_q109 : ax_M := (yX8_pop, cX8_pop, 1, (some .int), [])
abbrev ax_q110 : ax_M := (yX8_digest, cX8_digest, 4, (some .long), [])
abbrev ax_q111 : ax_M := (yX8_requireConstraint, cX8_requireConstraint, 2, none, [])
abbrev ax_q112 : ax_M := (yX8_requireLiteral, cX8_requireLiteral, 1, none, [])
abbrev ax_q113 : ax_M := (yX8_requireVariable, cX8_requireVariable, 1, none, [])
abbrev ax_q114 : ax_M := (yX8_requireIndex, cX8_requireIndex, 2, none, [])
abbrev ax_q115 : ax_M := (yX8_requireRoom, cX8_requireRoom, 2, none, [])
abbrev ax_q116 : ax_M := (yX8_isMask, cX8_isMask, 1, (some .boolean), [])
abbrev ax_q117 : ax_M := (yX8_closeText, cX8_closeText, 2, none, [])
abbrev ax_q118 : ax_M := (yX8_addBoundedDraft, cX8_addBoundedDraft, 1, (some .int), [])
abbrev ax_q119 : ax_M := (yX8_addDraft, cX8_addDraft, 2, (some .int), [])
abbrev ax_q120 : ax_M := (yX8_draftIsImplied, cX8_draftIsImplied, 1, (some .boolean), [])
abbrev ax_q121 : ax_M := (yX8_propagate, cX8_propagate, 4, none, [])
abbrev ax_q122 : ax_M := (yX8_models, cX8_models, 1, (some (.object "PseudoBoolean$ModelSet")), [])
abbrev ax_q123 : ax_M := (yX8_decidedTrue, cX8_decidedTrue, 1, (some .int), [])
abbrev ax_q124 : ax_M := (yX8_decidedFalse, cX8_decidedFalse, 1, (some .int), [])
abbrev ax_q125 : ax_M := (yX8_hasModelWith, cX8_hasModelWith, 3, (some .boolean), [])
abbrev ax_q126 : ax_M := (yX8_findCheapest, cX8_findCheapest, 2, (some .int), [])
abbrev ax_q127 : ax_M := (yX8_areExclusive, cX8_areExclusive, 4, (some .boolean), [])
abbrev ax_q128 : ax_M := (yX8_excludesAll, cX8_excludesAll, 4, (some .boolean), [])
abbrev ax_q129 : ax_M := (yX8_greatestCommonDivisor, cX8_greatestCommonDivisor, 6, (some .int), [])
abbrev ax_q130 : ax_M := (yX9_init, cX9_init, 1, none, [])
abbrev ax_q131 : ax_M := (yX9_thrown, cX9_thrown, 1, (some .int), [])
abbrev ax_q132 : ax_M := (yX9_no, cX9_no, 2, (some .int), [])
abbrev ax_q133 : ax_M := (yX9_isConstraint, cX9_isConstraint, 2, (some .boolean), [])
abbrev ax_q134 : ax_M := (yX9_isVariable, cX9_isVariable, 1, (some .boolean), [])
abbrev ax_q135 : ax_M := (yX9_isLiteral, cX9_isLiteral, 1, (some .boolean), [])
abbrev ax_q136 : ax_M := (yX9_of, cX9_of, 3, (some .long), [])
abbrev ax_q137 : ax_M := (yX9_clear, cX9_clear, 2, none, [])
abbrev ax_q138 : ax_M := (yX9_addTerm, cX9_addTerm, 4, none, [])
abbrev ax_q139 : ax_M := (yX9_addTimes, cX9_addTimes, 5, none, [])
abbrev ax_q140 : ax_M := (yX9_normalize, cX9_normalize, 4, none, [])
abbrev ax_q141 : ax_M := (yX9_isSmall, cX9_isSmall, 3, (some .boolean), [])
abbrev ax_q142 : ax_M := (yX9_add, cX9_add, 2, (some .int), [])
abbrev ax_q143 : ax_M := (yX9_feed, cX9_feed, 12, (some .int), [])
abbrev ax_q144 : ax_M := (yX9_trim, cX9_trim, 2, (some .int), [])
abbrev ax_q145 : ax_M := (yX9_peek, cX9_peek, 2, (some .int), [])
abbrev ax_q146 : ax_M := (yX9_isDigit, cX9_isDigit, 1, (some .boolean), [])
abbrev ax_q147 : ax_M := (yX9_next, cX9_next, 2, none, [])
abbrev ax_q148 : ax_M := (yX9_wrong, cX9_wrong, 1, none, [])
abbrev ax_q149 : ax_M := (yX9_isWell, cX9_isWell, 1, (some .boolean), [])
abbrev ax_q150 : ax_M := (yX9_numberRead, cX9_numberRead, 4, (some .long), [])
abbrev ax_q151 : ax_M := (yX9_term, cX9_term, 5, none, [])
abbrev ax_q152 : ax_M := (yX9_parse, cX9_parse, 2, (some .boolean), [])
abbrev ax_q153 : ax_M := (yX9_make, cX9_make, 3, none, [])
abbrev ax_q154 : ax_M := (yX9_isLow, cX9_isLow, 1, (some .boolean), [])
abbrev ax_q155 : ax_M := (yX9_isHigh, cX9_isHigh, 1, (some .boolean), [])
abbrev ax_q156 : ax_M := (yX9_post, cX9_post, 2, (some .int), [])
abbrev ax_q157 : ax_M := (yX9_isMadeTrue, cX9_isMadeTrue, 5, (some .boolean), [])
abbrev ax_q158 : ax_M := (yX9_isMadeImplied, cX9_isMadeImplied, 3, (some .boolean), [])
abbrev ax_q159 : ax_M := (yX9_isImplied, cX9_isImplied, 2, (some .boolean), [])
abbrev ax_q160 : ax_M := (yX9_errorPosition, cX9_errorPosition, 1, (some .int), [])
abbrev ax_q161 : ax_M := (yX9_put, cX9_put, 2, none, [])
abbrev ax_q162 : ax_M := (yX9_putNumber, cX9_putNumber, 3, none, [])
abbrev ax_q163 : ax_M := (yX9_write, cX9_write, 3, (some .int), [])
abbrev ax_q164 : ax_M := (yX9_outputByte, cX9_outputByte, 2, (some .int), [])
abbrev ax_q165 : ax_M := (yX9_constraintCount, cX9_constraintCount, 1, (some .int), [])
abbrev ax_q166 : ax_M := (yX9_terms, cX9_terms, 4, (some .int), [])
abbrev ax_q167 : ax_M := (yX9_termCount, cX9_termCount, 2, (some .int), [])
abbrev ax_q168 : ax_M := (yX9_degree, cX9_degree, 2, (some .int), [])
abbrev ax_q169 : ax_M := (yX9_coefficient, cX9_coefficient, 3, (some .int), [])
abbrev ax_q170 : ax_M := (yX9_slackOf, cX9_slackOf, 6, (some .long), [])
abbrev ax_q171 : ax_M := (yX9_slack, cX9_slack, 2, (some .long), [])
abbrev ax_q172 : ax_M := (yX9_least, cX9_least, 9, (some .int), [])
abbrev ax_q173 : ax_M := (yX9_cardinality, cX9_cardinality, 2, (some .int), [])
abbrev ax_q174 : ax_M := (yX9_keep, cX9_keep, 2, (some .int), [])
abbrev ax_q175 : ax_M := (yX9_sum, cX9_sum, 3, (some .int), [])
abbrev ax_q176 : ax_M := (yX9_multiple, cX9_multiple, 3, (some .int), [])
abbrev ax_q177 : ax_M := (yX9_up, cX9_up, 4, (some .long), [])
abbrev ax_q178 : ax_M := (yX9_quotient, cX9_quotient, 4, (some .int), [])
abbrev ax_q179 : ax_M := (yX9_saturation, cX9_saturation, 3, (some .int), [])
abbrev ax_q180 : ax_M := (yX9_weakening, cX9_weakening, 5, (some .int), [])
abbrev ax_q181 : ax_M := (yX9_divisorOf, cX9_divisorOf, 10, (some .long), [])
abbrev ax_q182 : ax_M := (yX9_resolvent, cX9_resolvent, 11, (some .int), [])
abbrev ax_q183 : ax_M := (yX9_cardinalityConstraint, cX9_cardinalityConstraint, 3, (some .int), [])
abbrev ax_q184 : ax_M := (yX9_areApart, cX9_areApart, 6, (some .boolean), [])
abbrev ax_q185 : ax_M := (yX9_exclude, cX9_exclude, 3, (some .boolean), [])
abbrev ax_q186 : ax_M := (yX9_group, cX9_group, 5, (some .int), [])
abbrev ax_q187 : ax_M := (yX9_many, cX9_many, 6, (some .int), [])
abbrev ax_q188 : ax_M := (yX9_at, cX9_at, 4, (some .int), [])
abbrev ax_q189 : ax_M := (yX9_groupLiteral, cX9_groupLiteral, 3, (some .int), [])
abbrev ax_q190 : ax_M := (yX9_addGroup, cX9_addGroup, 2, (some .int), [])
abbrev ax_q191 : ax_M := (yX9_propagate, cX9_propagate, 3, none, [])
abbrev ax_q192 : ax_M := (yX9_fill, cX9_fill, 6, (some .boolean), [])
abbrev ax_q193 : ax_M := (yX9_valued, cX9_valued, 3, (some .int), [])
abbrev ax_q194 : ax_M := (yX9_decide, cX9_decide, 2, (some .int), [])
abbrev ax_q195 : ax_M := (yX9_undo, cX9_undo, 1, (some .int), [])
abbrev ax_q196 : ax_M := (yX9_decisionCount, cX9_decisionCount, 1, (some .int), [])
abbrev ax_q197 : ax_M := (yX9_isConflicting, cX9_isConflicting, 1, (some .boolean), [])
abbrev ax_q198 : ax_M := (yX9_value, cX9_value, 2, (some .int), [])
abbrev ax_q199 : ax_M := (yX9_isTrue, cX9_isTrue, 2, (some .boolean), [])
abbrev ax_q200 : ax_M := (yX9_isModel, cX9_isModel, 6, (some .boolean), [])
abbrev ax_q201 : ax_M := (yX9_isOurs, cX9_isOurs, 4, (some .boolean), [])
abbrev ax_q202 : ax_M := (yX9_modelFrom, cX9_modelFrom, 3, (some .int), [])
abbrev ax_q203 : ax_M := (yX9_firstModel, cX9_firstModel, 1, (some .int), [])
abbrev ax_q204 : ax_M := (yX9_isMask, cX9_isMask, 1, (some .boolean), [])
abbrev ax_q205 : ax_M := (yX9_nextModel, cX9_nextModel, 2, (some .int), [])
abbrev ax_q206 : ax_M := (yX9_modelCount, cX9_modelCount, 3, (some .int), [])
abbrev ax_q207 : ax_M := (yX9_isForced, cX9_isForced, 4, (some .boolean), [])
abbrev ax_q208 : ax_M := (yX9_setCost, cX9_setCost, 4, (some .int), [])
abbrev ax_q209 : ax_M := (yX9_costOf, cX9_costOf, 4, (some .int), [])
abbrev ax_q210 : ax_M := (yX9_cheapest, cX9_cheapest, 3, (some .int), [])
abbrev ax_q211 : ax_M := (yX9_leastCost, cX9_leastCost, 2, (some .int), [])
abbrev ax_q212 : ax_M := (yX9_cheapestModel, cX9_cheapestModel, 2, (some .int), [])
abbrev ax_q213 : ax_M := (yX9_hasModel, cX9_hasModel, 5, (some .boolean), [])
abbrev ax_q214 : ax_M := (yX9_explain, cX9_explain, 5, (some .int), [])
abbrev ax_q215 : ax_M := (yX9_reasonLiteral, cX9_reasonLiteral, 3, (some .int), [])
abbrev ax_q216 : ax_M := (yX9_push, cX9_push, 2, (some .int), [])
abbrev ax_q217 : ax_M := (yX9_pop, cX9_pop, 2, (some .int), [])
abbrev ax_q218 : ax_M := (yX9_digest, cX9_digest, 5, (some .long), [])
abbrev ax_q219 : ax_M := (yL_feed, cL_feed, 8, (some .int), [(0, 16, 19, 13)])
abbrev ax_q220 : ax_M := (yL_trim, cL_trim, 4, (some .int), [(0, 9, 12, 19)])
abbrev ax_q221 : ax_M := (yL_post, cL_post, 3, (some .int), [(0, 8, 11, 19), (0, 8, 14, 13)])
abbrev ax_q222 : ax_M := (yL_isImplied, cL_isImplied, 3, (some .int), [(0, 15, 18, 19)])
abbrev ax_q223 : ax_M := (yL_write, cL_write, 4, (some .int), [(0, 9, 12, 32)])
abbrev ax_q224 : ax_M := (yL_outputByte, cL_outputByte, 4, (some .int), [(0, 9, 12, 32)])
abbrev ax_q225 : ax_M := (yL_termCount, cL_termCount, 4, (some .int), [(0, 9, 12, 32)])
abbrev ax_q226 : ax_M := (yL_degree, cL_degree, 4, (some .int), [(0, 9, 12, 32)])
abbrev ax_q227 : ax_M := (yL_coefficient, cL_coefficient, 5, (some .int), [(0, 10, 13, 32)])
abbrev ax_q228 : ax_M := (yL_slack, cL_slack, 4, (some .int), [(0, 8, 11, 32)])
abbrev ax_q229 : ax_M := (yL_cardinality, cL_cardinality, 4, (some .int), [(0, 9, 12, 32)])
abbrev ax_q230 : ax_M := (yL_sum, cL_sum, 5, (some .int), [(0, 10, 13, 32), (0, 10, 17, 13), (0, 10, 21, 57)])
abbrev ax_q231 : ax_M := (yL_multiple, cL_multiple, 5, (some .int), [(0, 10, 13, 32), (0, 10, 17, 19), (0, 10, 21, 13), (0, 10, 25, 57)])
abbrev ax_q232 : ax_M := (yL_quotient, cL_quotient, 5, (some .int), [(0, 10, 13, 32), (0, 10, 17, 19), (0, 10, 21, 13)])
abbrev ax_q233 : ax_M := (yL_saturation, cL_saturation, 4, (some .int), [(0, 9, 12, 32), (0, 9, 15, 13)])
abbrev ax_q234 : ax_M := (yL_weakening, cL_weakening, 5, (some .int), [(0, 10, 13, 32), (0, 10, 17, 19), (0, 10, 21, 13)])
abbrev ax_q235 : ax_M := (yL_resolvent, cL_resolvent, 6, (some .int), [(0, 12, 15, 32), (0, 12, 19, 19), (0, 12, 23, 13), (0, 12, 27, 57)])
abbrev ax_q236 : ax_M := (yL_cardinalityConstraint, cL_cardinalityConstraint, 4, (some .int), [(0, 9, 12, 32), (0, 9, 15, 13)])
abbrev ax_q237 : ax_M := (yL_exclude, cL_exclude, 5, (some .int), [(0, 17, 20, 32)])
abbrev ax_q238 : ax_M := (yL_group, cL_group, 4, (some .int), [(0, 9, 12, 32)])
abbrev ax_q239 : ax_M := (yL_groupLiteral, cL_groupLiteral, 4, (some .int), [(0, 9, 12, 32)])
abbrev ax_q240 : ax_M := (yL_addGroup, cL_addGroup, 3, (some .int), [(0, 8, 11, 91), (0, 8, 14, 13)])
abbrev ax_q241 : ax_M := (yL_decide, cL_decide, 4, (some .int), [(0, 9, 12, 32), (0, 9, 15, 13)])
abbrev ax_q242 : ax_M := (yL_undo, cL_undo, 3, (some .int), [(0, 8, 11, 13)])
abbrev ax_q243 : ax_M := (yL_value, cL_value, 4, (some .int), [(0, 9, 12, 32)])
abbrev ax_q244 : ax_M := (yL_nextModel, cL_nextModel, 4, (some .int), [(0, 9, 12, 19)])
abbrev ax_q245 : ax_M := (yL_isForced, cL_isForced, 4, (some .int), [(0, 16, 19, 32)])
abbrev ax_q246 : ax_M := (yL_setCost, cL_setCost, 5, (some .int), [(0, 10, 13, 32), (0, 10, 17, 19)])
abbrev ax_q247 : ax_M := (yL_leastCost, cL_leastCost, 3, (some .int), [(0, 8, 11, 91)])
abbrev ax_q248 : ax_M := (yL_cheapestModel, cL_cheapestModel, 3, (some .int), [(0, 8, 11, 91)])
abbrev ax_q249 : ax_M := (yL_explain, cL_explain, 5, (some .int), [(0, 10, 13, 19), (0, 10, 17, 91)])
abbrev ax_q250 : ax_M := (yL_reasonLiteral, cL_reasonLiteral, 4, (some .int), [(0, 9, 12, 32)])
abbrev ax_q251 : ax_M := (yL_push, cL_push, 3, (some .int), [(0, 8, 11, 13)])
abbrev ax_q252 : ax_M := (yL_pop, cL_pop, 3, (some .int), [(0, 8, 11, 13)])
abbrev ax_q253 : ax_M := (yJ7_fill_53178, cJ7_fill_53178, 4, none, [])
abbrev ax_q254 : ax_M := (yJ7_fill_d0a16, cJ7_fill_d0a16, 5, none, [])
abbrev ax_q255 : ax_M := (yJ13_bitCount_95d88, cJ13_bitCount_95d88, 2, (some .int), [])
abbrev ax_q256 : ax_M := (yJ4_init_da8c8, cJ4_init_da8c8, 1, none, [])
abbrev ax_q257 : ax_M := (yJ5_init_d00df, cJ5_init_d00df, 2, none, [])
abbrev ax_q258 : ax_M := (yL_law, cL_law, 8, (some .boolean), [])
noncomputable def ax_if {α : Type} (c : Bool) (a b : α) : α := @Bool.rec (fun _ => α) b a c
noncomputable def ax_f1 {α : Type} (l : List (Nat × α)) (x : Nat) : Option α := @List.rec (Nat × α) (fun _ => Option α) none (fun q _ ih => ax_if (Nat.beq q.1 x) (some q.2) ih) l
noncomputable def ax_f2 {α : Type} (l : List (Nat × List (Nat × α))) (x : Nat) : Option α := @List.rec (Nat × List (Nat × α)) (fun _ => Option α) none (fun q _ ih => ax_if (Nat.ble x q.1) (ax_f1 q.2 x) ih) l
theorem ax_f1_ok {α : Type} : ∀ {l : List (Nat × α)} {x : Nat} {v : α}, ax_f1 l x = some v → (x, v) ∈ l
  | [], _, _, h => by cases h
  | q :: t, x, v, h => by
    have h : ax_if (Nat.beq q.1 x) (some q.2) (ax_f1 t x) = some v := h
    cases h1 : Nat.beq q.1 x with
    | true =>
      rw [h1] at h
      have h : some q.2 = some v := h
      cases h
      have := Nat.eq_of_beq_eq_true h1
      subst this
      exact List.mem_cons_self
    | false =>
      rw [h1] at h
      exact List.mem_cons_of_mem _ (ax_f1_ok (show ax_f1 t x = some v from h))
theorem ax_o1 {α : Type} {p : Nat → α → Bool} {l : List (Nat × α)} (h : l.all (fun z => p z.1 z.2) = true) : ∀ z ∈ l, p z.1 z.2 = true := fun z hz => List.all_eq_true.mp h z hz
def ax_All {α : Type} (P : Nat → α → Prop) (l : List (Nat × List (Nat × α))) : Prop := ∀ q ∈ l, ∀ z ∈ q.2, P z.1 z.2
theorem ax_f2_ok {α : Type} {P : Nat → α → Prop} : ∀ {l : List (Nat × List (Nat × α))} {x : Nat} {v : α}, ax_All P l → ax_f2 l x = some v → P x v
  | [], _, _, _, h => by cases h
  | q :: t, x, v, ha, h => by
    have h : ax_if (Nat.ble x q.1) (ax_f1 q.2 x) (ax_f2 t x) = some v := h
    cases h1 : Nat.ble x q.1 with
    | true =>
      rw [h1] at h
      exact ha q List.mem_cons_self _ (ax_f1_ok (show ax_f1 q.2 x = some v from h))
    | false =>
      rw [h1] at h
      exact ax_f2_ok (fun z hz => ha z (List.mem_cons_of_mem _ hz)) (show ax_f2 t x = some v from h)
theorem ax_All.c1 {α : Type} {P : Nat → α → Prop} {x : Nat} {v : α} {l : List (Nat × α)} (h1 : P x v) (h2 : ∀ z ∈ l, P z.1 z.2) : ∀ z ∈ (x, v) :: l, P z.1 z.2 := by
  intro z hz
  rcases List.mem_cons.mp hz with rfl | hz
  · exact h1
  · exact h2 z hz
theorem ax_All.n1 {α : Type} {P : Nat → α → Prop} : ∀ z ∈ ([] : List (Nat × α)), P z.1 z.2 := fun _ h => absurd h List.not_mem_nil
theorem ax_All.c2 {α : Type} {P : Nat → α → Prop} {k : Nat} {c : List (Nat × α)} {l : List (Nat × List (Nat × α))} (h1 : ∀ z ∈ c, P z.1 z.2) (h2 : ax_All P l) : ax_All P ((k, c) :: l) := by
  intro q hq
  rcases List.mem_cons.mp hq with rfl | hq
  · exact h1
  · exact h2 q hq
theorem ax_All.n2 {α : Type} {P : Nat → α → Prop} : ax_All P [] := fun _ h => absurd h List.not_mem_nil
theorem ax_All.of {α : Type} {p : Nat → α → Bool} {l : List (Nat × List (Nat × α))} (h : l.all (fun q => q.2.all (fun z => p z.1 z.2)) = true) : ax_All (fun k v => p k v = true) l := fun q hq z hz => List.all_eq_true.mp (List.all_eq_true.mp h q hq) z hz
abbrev ax_E2 : Type := Instr × (Nat × Nat × Nat) × Value × List Nat
def ax_t0 : List (Nat × List (Nat × ax_E2)) := [(5, [(0, (.aload_n 0, (0, 0, 0), .null, [])), (1, (.invokespecial 3, (0, 0, 2), .null, [1198])), (4, (.aload_n 0, (0, 0, 0), .null, [])), (5, (.bipush 12, (0, 0, 0), .null, []))]), (13, [(7, (.newarray .int, (0, 0, 0), .null, [1056])), (9, (.putfield 9, (0, 0, 0), .null, [1202])), (12, (.aload_n 0, (0, 0, 0), .null, [])), (13, (.iconst 0, (0, 0, 0), .null, []))]), (21, [(14, (.putfield 15, (0, 1, 0), .null, [1204])), (17, (.aload_n 0, (0, 0, 0), .null, [])), (18, (.getfield 9, (0, 0, 0), .null, [1202])), (21, (.iconst (-1), (0, 0, 0), .null, []))]), (25, [(22, (.invokestatic 19, (253, 2, 0), .null, [1199])), (25, (.return_, (0, 0, 0), .null, []))])]
def ax_t1 : List (Nat × List (Nat × ax_E2)) := [(5, [(0, (.aload_n 0, (0, 0, 0), .null, [])), (1, (.getfield 9, (0, 0, 0), .null, [1202])), (4, (.iconst (-1), (0, 0, 0), .null, [])), (5, (.invokestatic 19, (253, 2, 0), .null, [1199]))]), (13, [(8, (.aload_n 0, (0, 0, 0), .null, [])), (9, (.iconst 0, (0, 0, 0), .null, [])), (10, (.putfield 15, (0, 1, 0), .null, [1204])), (13, (.return_, (0, 0, 0), .null, []))])]
def ax_t2 : List (Nat × List (Nat × ax_E2)) := [(5, [(0, (.aload_n 0, (0, 0, 0), .null, [])), (1, (.getfield 9, (0, 0, 0), .null, [1202])), (4, (.iload_n 1, (0, 0, 0), .null, [])), (5, (.iaload, (0, 0, 0), .null, []))]), (13, [(6, (.ifCond .lt 7, (0, 0, 0), .null, [])), (9, (.iconst 1, (0, 0, 0), .null, [])), (10, (.goto 4, (0, 0, 0), .null, [])), (13, (.iconst 0, (0, 0, 0), .null, []))]), (14, [(14, (.ireturn, (0, 0, 0), .null, []))])]
def ax_t3 : List (Nat × List (Nat × ax_E2)) := [(5, [(0, (.aload_n 0, (0, 0, 0), .null, [])), (1, (.getfield 9, (0, 0, 0), .null, [1202])), (4, (.iload_n 1, (0, 0, 0), .null, [])), (5, (.iconst 1, (0, 0, 0), .null, []))]), (9, [(6, (.ishr, (0, 0, 0), .null, [])), (7, (.iaload, (0, 0, 0), .null, [])), (8, (.iload_n 1, (0, 0, 0), .null, [])), (9, (.iconst 1, (0, 0, 0), .null, []))]), (15, [(10, (.iand, (0, 0, 0), .null, [])), (11, (.if_icmp .ne 7, (0, 0, 0), .null, [])), (14, (.iconst 1, (0, 0, 0), .null, [])), (15, (.goto 4, (0, 0, 0), .null, []))]), (19, [(18, (.iconst 0, (0, 0, 0), .null, [])), (19, (.ireturn, (0, 0, 0), .null, []))])]
def ax_t4 : List (Nat × List (Nat × ax_E2)) := [(5, [(0, (.aload_n 0, (0, 0, 0), .null, [])), (1, (.getfield 9, (0, 0, 0), .null, [1202])), (4, (.iload_n 1, (0, 0, 0), .null, [])), (5, (.iconst 1, (0, 0, 0), .null, []))]), (9, [(6, (.ishr, (0, 0, 0), .null, [])), (7, (.iconst 1, (0, 0, 0), .null, [])), (8, (.iload_n 1, (0, 0, 0), .null, [])), (9, (.iconst 1, (0, 0, 0), .null, []))]), (13, [(10, (.iand, (0, 0, 0), .null, [])), (11, (.isub, (0, 0, 0), .null, [])), (12, (.iastore, (0, 0, 0), .null, [])), (13, (.return_, (0, 0, 0), .null, []))])]
def ax_t5 : List (Nat × List (Nat × ax_E2)) := [(3, [(0, (.iconst 0, (0, 0, 0), .null, [])), (1, (.istore_n 1, (0, 0, 0), .null, [])), (2, (.iconst 0, (0, 0, 0), .null, [])), (3, (.istore_n 2, (0, 0, 0), .null, []))]), (10, [(4, (.iload_n 2, (0, 0, 0), .null, [])), (5, (.bipush 12, (0, 0, 0), .null, [])), (7, (.if_icmp .ge 20, (0, 0, 0), .null, [])), (10, (.aload_n 0, (0, 0, 0), .null, []))]), (18, [(11, (.iload_n 2, (0, 0, 0), .null, [])), (12, (.invokevirtual 25, (2, 1, 0), .null, [6050, 3135])), (15, (.ifCond .eq 6, (0, 0, 0), .null, [])), (18, (.iinc 1 1, (0, 0, 0), .null, []))]), (28, [(21, (.iinc 2 1, (0, 0, 0), .null, [])), (24, (.goto (-20), (0, 0, 0), .null, [])), (27, (.iload_n 1, (0, 0, 0), .null, [])), (28, (.ireturn, (0, 0, 0), .null, []))])]
def ax_t6 : List (Nat × List (Nat × ax_E2)) := [(5, [(0, (.aload_n 0, (0, 0, 0), .null, [])), (1, (.invokespecial 3, (0, 0, 2), .null, [1149])), (4, (.aload_n 0, (0, 0, 0), .null, [])), (5, (.bipush 24, (0, 0, 0), .null, []))]), (13, [(7, (.newarray .int, (0, 0, 0), .null, [1056])), (9, (.putfield 9, (1, 0, 0), .null, [1150])), (12, (.aload_n 0, (0, 0, 0), .null, [])), (13, (.iconst 0, (0, 0, 0), .null, []))]), (19, [(14, (.putfield 15, (1, 1, 0), .null, [1154])), (17, (.aload_n 0, (0, 0, 0), .null, [])), (18, (.lconst 0, (0, 0, 0), .null, [])), (19, (.putfield 19, (1, 2, 0), .null, [1157]))]), (22, [(22, (.return_, (0, 0, 0), .null, []))])]
def ax_t7 : List (Nat × List (Nat × ax_E2)) := [(7, [(0, (.aload_n 0, (0, 0, 0), .null, [])), (1, (.lconst 0, (0, 0, 0), .null, [])), (2, (.putfield 19, (1, 2, 0), .null, [1157])), (5, (.iconst 0, (0, 0, 0), .null, [])), (6, (.istore_n 2, (0, 0, 0), .null, [])), (7, (.iload_n 2, (0, 0, 0), .null, []))]), (18, [(8, (.bipush 24, (0, 0, 0), .null, [])), (10, (.if_icmp .ge 38, (0, 0, 0), .null, [])), (13, (.aload_n 0, (0, 0, 0), .null, [])), (14, (.getfield 9, (1, 0, 0), .null, [1150])), (17, (.iload_n 2, (0, 0, 0), .null, [])), (18, (.aload_n 1, (0, 0, 0), .null, []))]), (26, [(19, (.getfield 23, (2, 0, 0), .null, [1134])), (22, (.iload_n 2, (0, 0, 0), .null, [])), (23, (.laload, (0, 0, 0), .null, [])), (24, (.l2i, (0, 0, 0), .null, [])), (25, (.iastore, (0, 0, 0), .null, [])), (26, (.aload_n 0, (0, 0, 0), .null, []))]), (36, [(27, (.dup, (0, 0, 0), .null, [])), (28, (.getfield 19, (1, 2, 0), .null, [1157])), (31, (.aload_n 0, (0, 0, 0), .null, [])), (32, (.getfield 9, (1, 0, 0), .null, [1150])), (35, (.iload_n 2, (0, 0, 0), .null, [])), (36, (.iaload, (0, 0, 0), .null, []))]), (48, [(37, (.i2l, (0, 0, 0), .null, [])), (38, (.ladd, (0, 0, 0), .null, [])), (39, (.putfield 19, (1, 2, 0), .null, [1157])), (42, (.iinc 2 1, (0, 0, 0), .null, [])), (45, (.goto (-38), (0, 0, 0), .null, [])), (48, (.aload_n 0, (0, 0, 0), .null, []))]), (57, [(49, (.aload_n 1, (0, 0, 0), .null, [])), (50, (.getfield 28, (2, 1, 0), .null, [1136])), (53, (.l2i, (0, 0, 0), .null, [])), (54, (.putfield 15, (1, 1, 0), .null, [1154])), (57, (.return_, (0, 0, 0), .null, []))])]
def ax_t8 : List (Nat × List (Nat × ax_E2)) := [(3, [(0, (.iconst 0, (0, 0, 0), .null, [])), (1, (.istore_n 1, (0, 0, 0), .null, [])), (2, (.iconst 0, (0, 0, 0), .null, [])), (3, (.istore_n 2, (0, 0, 0), .null, []))]), (10, [(4, (.iload_n 2, (0, 0, 0), .null, [])), (5, (.bipush 24, (0, 0, 0), .null, [])), (7, (.if_icmp .ge 21, (0, 0, 0), .null, [])), (10, (.aload_n 0, (0, 0, 0), .null, []))]), (16, [(11, (.getfield 9, (1, 0, 0), .null, [1150])), (14, (.iload_n 2, (0, 0, 0), .null, [])), (15, (.iaload, (0, 0, 0), .null, [])), (16, (.ifCond .le 6, (0, 0, 0), .null, []))]), (28, [(19, (.iinc 1 1, (0, 0, 0), .null, [])), (22, (.iinc 2 1, (0, 0, 0), .null, [])), (25, (.goto (-21), (0, 0, 0), .null, [])), (28, (.iload_n 1, (0, 0, 0), .null, []))]), (29, [(29, (.ireturn, (0, 0, 0), .null, []))])]
def ax_t9 : List (Nat × List (Nat × ax_E2)) := [(4, [(0, (.iconst 2, (0, 0, 0), .null, [])), (1, (.iload_n 1, (0, 0, 0), .null, [])), (2, (.imul, (0, 0, 0), .null, [])), (3, (.istore_n 2, (0, 0, 0), .null, [])), (4, (.aload_n 0, (0, 0, 0), .null, []))]), (13, [(5, (.getfield 9, (1, 0, 0), .null, [1150])), (8, (.iload_n 2, (0, 0, 0), .null, [])), (9, (.iaload, (0, 0, 0), .null, [])), (10, (.ifCond .le 5, (0, 0, 0), .null, [])), (13, (.iload_n 2, (0, 0, 0), .null, []))]), (20, [(14, (.ireturn, (0, 0, 0), .null, [])), (15, (.aload_n 0, (0, 0, 0), .null, [])), (16, (.getfield 9, (1, 0, 0), .null, [1150])), (19, (.iload_n 2, (0, 0, 0), .null, [])), (20, (.iconst 1, (0, 0, 0), .null, []))]), (27, [(21, (.iadd, (0, 0, 0), .null, [])), (22, (.iaload, (0, 0, 0), .null, [])), (23, (.ifCond .le 9, (0, 0, 0), .null, [])), (26, (.iload_n 2, (0, 0, 0), .null, [])), (27, (.iconst 1, (0, 0, 0), .null, []))]), (33, [(28, (.iadd, (0, 0, 0), .null, [])), (29, (.goto 4, (0, 0, 0), .null, [])), (32, (.iconst (-1), (0, 0, 0), .null, [])), (33, (.ireturn, (0, 0, 0), .null, []))])]
def ax_t10 : List (Nat × List (Nat × ax_E2)) := [(5, [(0, (.aload_n 0, (0, 0, 0), .null, [])), (1, (.iload_n 1, (0, 0, 0), .null, [])), (2, (.invokevirtual 30, (9, 1, 1), .null, [5173, 5175])), (5, (.ifCond .lt 7, (0, 0, 0), .null, []))]), (13, [(8, (.iconst 1, (0, 0, 0), .null, [])), (9, (.goto 4, (0, 0, 0), .null, [])), (12, (.iconst 0, (0, 0, 0), .null, [])), (13, (.ireturn, (0, 0, 0), .null, []))])]
def ax_t11 : List (Nat × List (Nat × ax_E2)) := [(6, [(0, (.aload_n 0, (0, 0, 0), .null, [])), (1, (.getfield 19, (1, 2, 0), .null, [1157])), (4, (.lstore_n 2, (0, 0, 0), .null, [])), (5, (.iconst 0, (0, 0, 0), .null, [])), (6, (.istore 4, (0, 0, 0), .null, []))]), (16, [(8, (.iload 4, (0, 0, 0), .null, [])), (10, (.bipush 24, (0, 0, 0), .null, [])), (12, (.if_icmp .ge 29, (0, 0, 0), .null, [])), (15, (.aload_n 1, (0, 0, 0), .null, [])), (16, (.iload 4, (0, 0, 0), .null, []))]), (26, [(18, (.invokevirtual 34, (3, 1, 0), .null, [3128, 3130])), (21, (.ifCond .eq 14, (0, 0, 0), .null, [])), (24, (.lload_n 2, (0, 0, 0), .null, [])), (25, (.aload_n 0, (0, 0, 0), .null, [])), (26, (.getfield 9, (1, 0, 0), .null, [1150]))]), (34, [(29, (.iload 4, (0, 0, 0), .null, [])), (31, (.iaload, (0, 0, 0), .null, [])), (32, (.i2l, (0, 0, 0), .null, [])), (33, (.lsub, (0, 0, 0), .null, [])), (34, (.lstore_n 2, (0, 0, 0), .null, []))]), (43, [(35, (.iinc 4 1, (0, 0, 0), .null, [])), (38, (.goto (-30), (0, 0, 0), .null, [])), (41, (.lload_n 2, (0, 0, 0), .null, [])), (42, (.aload_n 0, (0, 0, 0), .null, [])), (43, (.getfield 15, (1, 1, 0), .null, [1154]))]), (48, [(46, (.i2l, (0, 0, 0), .null, [])), (47, (.lsub, (0, 0, 0), .null, [])), (48, (.lreturn, (0, 0, 0), .null, []))])]
def ax_t12 : List (Nat × List (Nat × ax_E2)) := [(8, [(0, (.aload_n 0, (0, 0, 0), .null, [])), (1, (.getfield 19, (1, 2, 0), .null, [1157])), (4, (.aload_n 0, (0, 0, 0), .null, [])), (5, (.getfield 9, (1, 0, 0), .null, [1150])), (8, (.iload_n 1, (0, 0, 0), .null, []))]), (13, [(9, (.iconst 1, (0, 0, 0), .null, [])), (10, (.ixor, (0, 0, 0), .null, [])), (11, (.iaload, (0, 0, 0), .null, [])), (12, (.i2l, (0, 0, 0), .null, [])), (13, (.lsub, (0, 0, 0), .null, []))]), (20, [(14, (.aload_n 0, (0, 0, 0), .null, [])), (15, (.getfield 9, (1, 0, 0), .null, [1150])), (18, (.iload_n 2, (0, 0, 0), .null, [])), (19, (.iconst 1, (0, 0, 0), .null, [])), (20, (.ixor, (0, 0, 0), .null, []))]), (25, [(21, (.iaload, (0, 0, 0), .null, [])), (22, (.i2l, (0, 0, 0), .null, [])), (23, (.lsub, (0, 0, 0), .null, [])), (24, (.aload_n 0, (0, 0, 0), .null, [])), (25, (.getfield 15, (1, 1, 0), .null, [1154]))]), (34, [(28, (.i2l, (0, 0, 0), .null, [])), (29, (.lcmp, (0, 0, 0), .null, [])), (30, (.ifCond .ge 7, (0, 0, 0), .null, [])), (33, (.iconst 1, (0, 0, 0), .null, [])), (34, (.goto 4, (0, 0, 0), .null, []))]), (38, [(37, (.iconst 0, (0, 0, 0), .null, [])), (38, (.ireturn, (0, 0, 0), .null, []))])]
def ax_t13 : List (Nat × List (Nat × ax_E2)) := [(8, [(0, (.aload_n 0, (0, 0, 0), .null, [])), (1, (.aload_n 1, (0, 0, 0), .null, [])), (2, (.invokevirtual 40, (11, 1, 1), .null, [3124, 3126])), (5, (.lstore_n 2, (0, 0, 0), .null, [])), (6, (.lload_n 2, (0, 0, 0), .null, [])), (7, (.lconst 0, (0, 0, 0), .null, [])), (8, (.lcmp, (0, 0, 0), .null, []))]), (21, [(9, (.ifCond .ge 14, (0, 0, 0), .null, [])), (12, (.aload_n 1, (0, 0, 0), .null, [])), (13, (.invokevirtual 44, (1, 0, 0), .null, [3132, 3114])), (16, (.aload_n 1, (0, 0, 0), .null, [])), (17, (.iconst 1, (0, 0, 0), .null, [])), (18, (.putfield 47, (0, 1, 0), .null, [1205])), (21, (.iconst 0, (0, 0, 0), .null, []))]), (31, [(22, (.ireturn, (0, 0, 0), .null, [])), (23, (.iconst 0, (0, 0, 0), .null, [])), (24, (.istore 4, (0, 0, 0), .null, [])), (26, (.iconst 0, (0, 0, 0), .null, [])), (27, (.istore 5, (0, 0, 0), .null, [])), (29, (.iload 5, (0, 0, 0), .null, [])), (31, (.bipush 24, (0, 0, 0), .null, []))]), (44, [(33, (.if_icmp .ge 42, (0, 0, 0), .null, [])), (36, (.aload_n 0, (0, 0, 0), .null, [])), (37, (.getfield 9, (1, 0, 0), .null, [1150])), (40, (.iload 5, (0, 0, 0), .null, [])), (42, (.iaload, (0, 0, 0), .null, [])), (43, (.i2l, (0, 0, 0), .null, [])), (44, (.lload_n 2, (0, 0, 0), .null, []))]), (54, [(45, (.lcmp, (0, 0, 0), .null, [])), (46, (.ifCond .le 23, (0, 0, 0), .null, [])), (49, (.aload_n 1, (0, 0, 0), .null, [])), (50, (.iload 5, (0, 0, 0), .null, [])), (52, (.iconst 1, (0, 0, 0), .null, [])), (53, (.ishr, (0, 0, 0), .null, [])), (54, (.invokevirtual 51, (2, 1, 0), .null, [3133, 3135]))]), (69, [(57, (.ifCond .ne 12, (0, 0, 0), .null, [])), (60, (.aload_n 1, (0, 0, 0), .null, [])), (61, (.iload 5, (0, 0, 0), .null, [])), (63, (.invokevirtual 54, (4, 1, 0), .null, [3137, 3118])), (66, (.iconst 1, (0, 0, 0), .null, [])), (67, (.istore 4, (0, 0, 0), .null, [])), (69, (.iinc 5 1, (0, 0, 0), .null, []))]), (77, [(72, (.goto (-43), (0, 0, 0), .null, [])), (75, (.iload 4, (0, 0, 0), .null, [])), (77, (.ireturn, (0, 0, 0), .null, []))])]
def ax_t14 : List (Nat × List (Nat × ax_E2)) := [(8, [(0, (.aload_n 0, (0, 0, 0), .null, [])), (1, (.getfield 15, (1, 1, 0), .null, [1154])), (4, (.i2l, (0, 0, 0), .null, [])), (5, (.lstore_n 1, (0, 0, 0), .null, [])), (6, (.iconst 0, (0, 0, 0), .null, [])), (7, (.istore_n 3, (0, 0, 0), .null, [])), (8, (.iconst 0, (0, 0, 0), .null, []))]), (21, [(9, (.istore 4, (0, 0, 0), .null, [])), (11, (.iconst 0, (0, 0, 0), .null, [])), (12, (.istore 5, (0, 0, 0), .null, [])), (14, (.iload 5, (0, 0, 0), .null, [])), (16, (.bipush 24, (0, 0, 0), .null, [])), (18, (.if_icmp .ge 53, (0, 0, 0), .null, [])), (21, (.lload_n 1, (0, 0, 0), .null, []))]), (32, [(22, (.lconst 0, (0, 0, 0), .null, [])), (23, (.lcmp, (0, 0, 0), .null, [])), (24, (.ifCond .le 47, (0, 0, 0), .null, [])), (27, (.aload_n 0, (0, 0, 0), .null, [])), (28, (.iload_n 3, (0, 0, 0), .null, [])), (29, (.invokevirtual 58, (15, 1, 1), .null, [5085, 23])), (32, (.istore 6, (0, 0, 0), .null, []))]), (44, [(34, (.iload 6, (0, 0, 0), .null, [])), (36, (.ifCond .ge 8, (0, 0, 0), .null, [])), (39, (.iload 4, (0, 0, 0), .null, [])), (41, (.iconst 1, (0, 0, 0), .null, [])), (42, (.iadd, (0, 0, 0), .null, [])), (43, (.ireturn, (0, 0, 0), .null, [])), (44, (.lload_n 1, (0, 0, 0), .null, []))]), (54, [(45, (.aload_n 0, (0, 0, 0), .null, [])), (46, (.getfield 9, (1, 0, 0), .null, [1150])), (49, (.iload 6, (0, 0, 0), .null, [])), (51, (.iaload, (0, 0, 0), .null, [])), (52, (.i2l, (0, 0, 0), .null, [])), (53, (.lsub, (0, 0, 0), .null, [])), (54, (.lstore_n 1, (0, 0, 0), .null, []))]), (62, [(55, (.iload_n 3, (0, 0, 0), .null, [])), (56, (.iconst 1, (0, 0, 0), .null, [])), (57, (.iload 6, (0, 0, 0), .null, [])), (59, (.ishl, (0, 0, 0), .null, [])), (60, (.ior, (0, 0, 0), .null, [])), (61, (.istore_n 3, (0, 0, 0), .null, [])), (62, (.iinc 4 1, (0, 0, 0), .null, []))]), (73, [(65, (.iinc 5 1, (0, 0, 0), .null, [])), (68, (.goto (-54), (0, 0, 0), .null, [])), (71, (.iload 4, (0, 0, 0), .null, [])), (73, (.ireturn, (0, 0, 0), .null, []))])]
def ax_t15 : List (Nat × List (Nat × ax_E2)) := [(5, [(0, (.iconst (-1), (0, 0, 0), .null, [])), (1, (.istore_n 2, (0, 0, 0), .null, [])), (2, (.iconst 0, (0, 0, 0), .null, [])), (3, (.istore_n 3, (0, 0, 0), .null, [])), (4, (.iconst 0, (0, 0, 0), .null, [])), (5, (.istore 4, (0, 0, 0), .null, []))]), (17, [(7, (.iload 4, (0, 0, 0), .null, [])), (9, (.bipush 24, (0, 0, 0), .null, [])), (11, (.if_icmp .ge 40, (0, 0, 0), .null, [])), (14, (.iload_n 1, (0, 0, 0), .null, [])), (15, (.iload 4, (0, 0, 0), .null, [])), (17, (.ishr, (0, 0, 0), .null, []))]), (27, [(18, (.iconst 1, (0, 0, 0), .null, [])), (19, (.iand, (0, 0, 0), .null, [])), (20, (.ifCond .ne 25, (0, 0, 0), .null, [])), (23, (.aload_n 0, (0, 0, 0), .null, [])), (24, (.getfield 9, (1, 0, 0), .null, [1150])), (27, (.iload 4, (0, 0, 0), .null, []))]), (37, [(29, (.iaload, (0, 0, 0), .null, [])), (30, (.iload_n 3, (0, 0, 0), .null, [])), (31, (.if_icmp .le 14, (0, 0, 0), .null, [])), (34, (.iload 4, (0, 0, 0), .null, [])), (36, (.istore_n 2, (0, 0, 0), .null, [])), (37, (.aload_n 0, (0, 0, 0), .null, []))]), (48, [(38, (.getfield 9, (1, 0, 0), .null, [1150])), (41, (.iload 4, (0, 0, 0), .null, [])), (43, (.iaload, (0, 0, 0), .null, [])), (44, (.istore_n 3, (0, 0, 0), .null, [])), (45, (.iinc 4 1, (0, 0, 0), .null, [])), (48, (.goto (-41), (0, 0, 0), .null, []))]), (52, [(51, (.iload_n 2, (0, 0, 0), .null, [])), (52, (.ireturn, (0, 0, 0), .null, []))])]
def ax_t16 : List (Nat × List (Nat × ax_E2)) := [(5, [(0, (.iconst 0, (0, 0, 0), .null, [])), (1, (.istore_n 2, (0, 0, 0), .null, [])), (2, (.iconst 0, (0, 0, 0), .null, [])), (3, (.istore_n 3, (0, 0, 0), .null, [])), (4, (.iload_n 3, (0, 0, 0), .null, [])), (5, (.bipush 24, (0, 0, 0), .null, []))]), (16, [(7, (.if_icmp .ge 38, (0, 0, 0), .null, [])), (10, (.aload_n 0, (0, 0, 0), .null, [])), (11, (.getfield 9, (1, 0, 0), .null, [1150])), (14, (.iload_n 3, (0, 0, 0), .null, [])), (15, (.iaload, (0, 0, 0), .null, [])), (16, (.ifCond .le 23, (0, 0, 0), .null, []))]), (29, [(19, (.iload_n 2, (0, 0, 0), .null, [])), (20, (.ifCond .le 10, (0, 0, 0), .null, [])), (23, (.aload_n 1, (0, 0, 0), .null, [])), (24, (.ldc 61, (900, 0, 0), .null, [])), (26, (.invokevirtual 63, (900, 0, 0), .null, [])), (29, (.pop, (0, 0, 0), .null, []))]), (39, [(30, (.aload_n 0, (0, 0, 0), .null, [])), (31, (.aload_n 1, (0, 0, 0), .null, [])), (32, (.iload_n 3, (0, 0, 0), .null, [])), (33, (.invokevirtual 69, (17, 2, 1), .null, [4230, 22])), (36, (.iinc 2 1, (0, 0, 0), .null, [])), (39, (.iinc 3 1, (0, 0, 0), .null, []))]), (52, [(42, (.goto (-38), (0, 0, 0), .null, [])), (45, (.iload_n 2, (0, 0, 0), .null, [])), (46, (.ifCond .ne 10, (0, 0, 0), .null, [])), (49, (.aload_n 1, (0, 0, 0), .null, [])), (50, (.bipush 48, (0, 0, 0), .null, [])), (52, (.invokevirtual 73, (900, 0, 0), .null, []))]), (63, [(55, (.pop, (0, 0, 0), .null, [])), (56, (.aload_n 1, (0, 0, 0), .null, [])), (57, (.ldc 76, (900, 0, 0), .null, [])), (59, (.invokevirtual 63, (900, 0, 0), .null, [])), (62, (.pop, (0, 0, 0), .null, [])), (63, (.aload_n 1, (0, 0, 0), .null, []))]), (72, [(64, (.aload_n 0, (0, 0, 0), .null, [])), (65, (.getfield 15, (1, 1, 0), .null, [1154])), (68, (.invokevirtual 78, (900, 0, 0), .null, [])), (71, (.pop, (0, 0, 0), .null, [])), (72, (.return_, (0, 0, 0), .null, []))])]
def ax_t17 : List (Nat × List (Nat × ax_E2)) := [(7, [(0, (.aload_n 0, (0, 0, 0), .null, [])), (1, (.getfield 9, (1, 0, 0), .null, [1150])), (4, (.iload_n 2, (0, 0, 0), .null, [])), (5, (.iaload, (0, 0, 0), .null, [])), (6, (.iconst 1, (0, 0, 0), .null, [])), (7, (.if_icmp .eq 14, (0, 0, 0), .null, []))]), (17, [(10, (.aload_n 1, (0, 0, 0), .null, [])), (11, (.aload_n 0, (0, 0, 0), .null, [])), (12, (.getfield 9, (1, 0, 0), .null, [1150])), (15, (.iload_n 2, (0, 0, 0), .null, [])), (16, (.iaload, (0, 0, 0), .null, [])), (17, (.invokevirtual 78, (900, 0, 0), .null, []))]), (25, [(20, (.pop, (0, 0, 0), .null, [])), (21, (.iload_n 2, (0, 0, 0), .null, [])), (22, (.iconst 1, (0, 0, 0), .null, [])), (23, (.iand, (0, 0, 0), .null, [])), (24, (.iconst 1, (0, 0, 0), .null, [])), (25, (.if_icmp .ne 10, (0, 0, 0), .null, []))]), (36, [(28, (.aload_n 1, (0, 0, 0), .null, [])), (29, (.bipush 126, (0, 0, 0), .null, [])), (31, (.invokevirtual 73, (900, 0, 0), .null, [])), (34, (.pop, (0, 0, 0), .null, [])), (35, (.aload_n 1, (0, 0, 0), .null, [])), (36, (.bipush 97, (0, 0, 0), .null, []))]), (43, [(38, (.iload_n 2, (0, 0, 0), .null, [])), (39, (.iconst 1, (0, 0, 0), .null, [])), (40, (.ishr, (0, 0, 0), .null, [])), (41, (.iadd, (0, 0, 0), .null, [])), (42, (.i2c, (0, 0, 0), .null, [])), (43, (.invokevirtual 73, (900, 0, 0), .null, []))]), (47, [(46, (.pop, (0, 0, 0), .null, [])), (47, (.return_, (0, 0, 0), .null, []))])]
def ax_t18 : List (Nat × List (Nat × ax_E2)) := [(9, [(0, (.lload_n 1, (0, 0, 0), .null, [])), (1, (.ldc2_w 81, (0, 0, 0), .long (31), [2116])), (4, (.lmul, (0, 0, 0), .null, [])), (5, (.aload_n 0, (0, 0, 0), .null, [])), (6, (.getfield 15, (1, 1, 0), .null, [1154])), (9, (.i2l, (0, 0, 0), .null, []))]), (17, [(10, (.ladd, (0, 0, 0), .null, [])), (11, (.lstore_n 3, (0, 0, 0), .null, [])), (12, (.iconst 0, (0, 0, 0), .null, [])), (13, (.istore 5, (0, 0, 0), .null, [])), (15, (.iload 5, (0, 0, 0), .null, [])), (17, (.bipush 24, (0, 0, 0), .null, []))]), (29, [(19, (.if_icmp .ge 44, (0, 0, 0), .null, [])), (22, (.aload_n 0, (0, 0, 0), .null, [])), (23, (.getfield 9, (1, 0, 0), .null, [1150])), (26, (.iload 5, (0, 0, 0), .null, [])), (28, (.iaload, (0, 0, 0), .null, [])), (29, (.ifCond .le 28, (0, 0, 0), .null, []))]), (40, [(32, (.lload_n 3, (0, 0, 0), .null, [])), (33, (.ldc2_w 81, (0, 0, 0), .long (31), [2116])), (36, (.lmul, (0, 0, 0), .null, [])), (37, (.iload 5, (0, 0, 0), .null, [])), (39, (.i2l, (0, 0, 0), .null, [])), (40, (.ladd, (0, 0, 0), .null, []))]), (48, [(41, (.lstore_n 3, (0, 0, 0), .null, [])), (42, (.lload_n 3, (0, 0, 0), .null, [])), (43, (.ldc2_w 81, (0, 0, 0), .long (31), [2116])), (46, (.lmul, (0, 0, 0), .null, [])), (47, (.aload_n 0, (0, 0, 0), .null, [])), (48, (.getfield 9, (1, 0, 0), .null, [1150]))]), (57, [(51, (.iload 5, (0, 0, 0), .null, [])), (53, (.iaload, (0, 0, 0), .null, [])), (54, (.i2l, (0, 0, 0), .null, [])), (55, (.ladd, (0, 0, 0), .null, [])), (56, (.lstore_n 3, (0, 0, 0), .null, [])), (57, (.iinc 5 1, (0, 0, 0), .null, []))]), (64, [(60, (.goto (-45), (0, 0, 0), .null, [])), (63, (.lload_n 3, (0, 0, 0), .null, [])), (64, (.lreturn, (0, 0, 0), .null, []))])]
def ax_t19 : List (Nat × List (Nat × ax_E2)) := [(5, [(0, (.aload_n 0, (0, 0, 0), .null, [])), (1, (.invokespecial 3, (0, 0, 2), .null, [1132])), (4, (.aload_n 0, (0, 0, 0), .null, [])), (5, (.bipush 24, (0, 0, 0), .null, []))]), (13, [(7, (.newarray .long, (1, 0, 0), .null, [1144])), (9, (.putfield 9, (2, 0, 0), .null, [1133])), (12, (.aload_n 0, (0, 0, 0), .null, [])), (13, (.lconst 0, (0, 0, 0), .null, []))]), (17, [(14, (.putfield 15, (2, 1, 0), .null, [1135])), (17, (.return_, (0, 0, 0), .null, []))])]
def ax_t20 : List (Nat × List (Nat × ax_E2)) := [(5, [(0, (.aload_n 0, (0, 0, 0), .null, [])), (1, (.getfield 9, (2, 0, 0), .null, [1133])), (4, (.lconst 0, (0, 0, 0), .null, [])), (5, (.invokestatic 19, (254, 2, 0), .null, [3069]))]), (13, [(8, (.aload_n 0, (0, 0, 0), .null, [])), (9, (.lconst 0, (0, 0, 0), .null, [])), (10, (.putfield 15, (2, 1, 0), .null, [1135])), (13, (.return_, (0, 0, 0), .null, []))])]
def ax_t21 : List (Nat × List (Nat × ax_E2)) := [(6, [(0, (.lload_n 2, (0, 0, 0), .null, [])), (1, (.lconst 0, (0, 0, 0), .null, [])), (2, (.lcmp, (0, 0, 0), .null, [])), (3, (.ifCond .ge 28, (0, 0, 0), .null, [])), (6, (.aload_n 0, (0, 0, 0), .null, []))]), (13, [(7, (.getfield 9, (2, 0, 0), .null, [1133])), (10, (.iload_n 1, (0, 0, 0), .null, [])), (11, (.iconst 1, (0, 0, 0), .null, [])), (12, (.ixor, (0, 0, 0), .null, [])), (13, (.dup2, (0, 0, 0), .null, []))]), (18, [(14, (.laload, (0, 0, 0), .null, [])), (15, (.lload_n 2, (0, 0, 0), .null, [])), (16, (.lsub, (0, 0, 0), .null, [])), (17, (.lastore, (0, 0, 0), .null, [])), (18, (.aload_n 0, (0, 0, 0), .null, []))]), (25, [(19, (.dup, (0, 0, 0), .null, [])), (20, (.getfield 15, (2, 1, 0), .null, [1135])), (23, (.lload_n 2, (0, 0, 0), .null, [])), (24, (.lsub, (0, 0, 0), .null, [])), (25, (.putfield 15, (2, 1, 0), .null, [1135]))]), (36, [(28, (.goto 13, (0, 0, 0), .null, [])), (31, (.aload_n 0, (0, 0, 0), .null, [])), (32, (.getfield 9, (2, 0, 0), .null, [1133])), (35, (.iload_n 1, (0, 0, 0), .null, [])), (36, (.dup2, (0, 0, 0), .null, []))]), (41, [(37, (.laload, (0, 0, 0), .null, [])), (38, (.lload_n 2, (0, 0, 0), .null, [])), (39, (.ladd, (0, 0, 0), .null, [])), (40, (.lastore, (0, 0, 0), .null, [])), (41, (.return_, (0, 0, 0), .null, []))])]
def ax_t22 : List (Nat × List (Nat × ax_E2)) := [(10, [(0, (.iconst 0, (0, 0, 0), .null, [])), (1, (.istore 4, (0, 0, 0), .null, [])), (3, (.iload 4, (0, 0, 0), .null, [])), (5, (.bipush 24, (0, 0, 0), .null, [])), (7, (.if_icmp .ge 29, (0, 0, 0), .null, [])), (10, (.aload_n 0, (0, 0, 0), .null, []))]), (19, [(11, (.getfield 9, (2, 0, 0), .null, [1133])), (14, (.iload 4, (0, 0, 0), .null, [])), (16, (.dup2, (0, 0, 0), .null, [])), (17, (.laload, (0, 0, 0), .null, [])), (18, (.aload_n 1, (0, 0, 0), .null, [])), (19, (.getfield 25, (1, 0, 0), .null, [1151]))]), (28, [(22, (.iload 4, (0, 0, 0), .null, [])), (24, (.iaload, (0, 0, 0), .null, [])), (25, (.i2l, (0, 0, 0), .null, [])), (26, (.lload_n 2, (0, 0, 0), .null, [])), (27, (.lmul, (0, 0, 0), .null, [])), (28, (.ladd, (0, 0, 0), .null, []))]), (38, [(29, (.lastore, (0, 0, 0), .null, [])), (30, (.iinc 4 1, (0, 0, 0), .null, [])), (33, (.goto (-30), (0, 0, 0), .null, [])), (36, (.aload_n 0, (0, 0, 0), .null, [])), (37, (.dup, (0, 0, 0), .null, [])), (38, (.getfield 15, (2, 1, 0), .null, [1135]))]), (48, [(41, (.aload_n 1, (0, 0, 0), .null, [])), (42, (.getfield 30, (1, 1, 0), .null, [1155])), (45, (.i2l, (0, 0, 0), .null, [])), (46, (.lload_n 2, (0, 0, 0), .null, [])), (47, (.lmul, (0, 0, 0), .null, [])), (48, (.ladd, (0, 0, 0), .null, []))]), (52, [(49, (.putfield 15, (2, 1, 0), .null, [1135])), (52, (.return_, (0, 0, 0), .null, []))])]
def ax_t23 : List (Nat × List (Nat × ax_E2)) := [(7, [(0, (.lconst 1, (0, 0, 0), .null, [])), (1, (.lload_n 1, (0, 0, 0), .null, [])), (2, (.invokestatic 33, (701, 2, 0), .null, [3085])), (5, (.lstore_n 3, (0, 0, 0), .null, [])), (6, (.iconst 0, (0, 0, 0), .null, [])), (7, (.istore 5, (0, 0, 0), .null, []))]), (20, [(9, (.iload 5, (0, 0, 0), .null, [])), (11, (.bipush 24, (0, 0, 0), .null, [])), (13, (.if_icmp .ge 29, (0, 0, 0), .null, [])), (16, (.aload_n 0, (0, 0, 0), .null, [])), (17, (.getfield 9, (2, 0, 0), .null, [1133])), (20, (.iload 5, (0, 0, 0), .null, []))]), (30, [(22, (.aload_n 0, (0, 0, 0), .null, [])), (23, (.getfield 9, (2, 0, 0), .null, [1133])), (26, (.iload 5, (0, 0, 0), .null, [])), (28, (.laload, (0, 0, 0), .null, [])), (29, (.lload_n 3, (0, 0, 0), .null, [])), (30, (.ladd, (0, 0, 0), .null, []))]), (36, [(31, (.lconst 1, (0, 0, 0), .null, [])), (32, (.lsub, (0, 0, 0), .null, [])), (33, (.lload_n 3, (0, 0, 0), .null, [])), (34, (.ldiv, (0, 0, 0), .null, [])), (35, (.lastore, (0, 0, 0), .null, [])), (36, (.iinc 5 1, (0, 0, 0), .null, []))]), (48, [(39, (.goto (-30), (0, 0, 0), .null, [])), (42, (.aload_n 0, (0, 0, 0), .null, [])), (43, (.aload_n 0, (0, 0, 0), .null, [])), (44, (.getfield 15, (2, 1, 0), .null, [1135])), (47, (.lload_n 3, (0, 0, 0), .null, [])), (48, (.ladd, (0, 0, 0), .null, []))]), (56, [(49, (.lconst 1, (0, 0, 0), .null, [])), (50, (.lsub, (0, 0, 0), .null, [])), (51, (.lload_n 3, (0, 0, 0), .null, [])), (52, (.ldiv, (0, 0, 0), .null, [])), (53, (.putfield 15, (2, 1, 0), .null, [1135])), (56, (.return_, (0, 0, 0), .null, []))])]
def ax_t24 : List (Nat × List (Nat × ax_E2)) := [(3, [(0, (.iconst 0, (0, 0, 0), .null, [])), (1, (.istore_n 1, (0, 0, 0), .null, [])), (2, (.iload_n 1, (0, 0, 0), .null, [])), (3, (.bipush 24, (0, 0, 0), .null, []))]), (12, [(5, (.if_icmp .ge 28, (0, 0, 0), .null, [])), (8, (.aload_n 0, (0, 0, 0), .null, [])), (9, (.getfield 9, (2, 0, 0), .null, [1133])), (12, (.iload_n 1, (0, 0, 0), .null, []))]), (18, [(13, (.aload_n 0, (0, 0, 0), .null, [])), (14, (.getfield 9, (2, 0, 0), .null, [1133])), (17, (.iload_n 1, (0, 0, 0), .null, [])), (18, (.laload, (0, 0, 0), .null, []))]), (26, [(19, (.aload_n 0, (0, 0, 0), .null, [])), (20, (.getfield 15, (2, 1, 0), .null, [1135])), (23, (.invokestatic 39, (700, 2, 0), .null, [3082])), (26, (.lastore, (0, 0, 0), .null, []))]), (33, [(27, (.iinc 1 1, (0, 0, 0), .null, [])), (30, (.goto (-28), (0, 0, 0), .null, [])), (33, (.return_, (0, 0, 0), .null, []))])]
def ax_t25 : List (Nat × List (Nat × ax_E2)) := [(9, [(0, (.aload_n 0, (0, 0, 0), .null, [])), (1, (.dup, (0, 0, 0), .null, [])), (2, (.getfield 15, (2, 1, 0), .null, [1135])), (5, (.aload_n 0, (0, 0, 0), .null, [])), (6, (.getfield 9, (2, 0, 0), .null, [1133])), (9, (.iconst 2, (0, 0, 0), .null, []))]), (17, [(10, (.iload_n 1, (0, 0, 0), .null, [])), (11, (.imul, (0, 0, 0), .null, [])), (12, (.laload, (0, 0, 0), .null, [])), (13, (.aload_n 0, (0, 0, 0), .null, [])), (14, (.getfield 9, (2, 0, 0), .null, [1133])), (17, (.iconst 2, (0, 0, 0), .null, []))]), (23, [(18, (.iload_n 1, (0, 0, 0), .null, [])), (19, (.imul, (0, 0, 0), .null, [])), (20, (.iconst 1, (0, 0, 0), .null, [])), (21, (.iadd, (0, 0, 0), .null, [])), (22, (.laload, (0, 0, 0), .null, [])), (23, (.ladd, (0, 0, 0), .null, []))]), (33, [(24, (.lsub, (0, 0, 0), .null, [])), (25, (.putfield 15, (2, 1, 0), .null, [1135])), (28, (.aload_n 0, (0, 0, 0), .null, [])), (29, (.getfield 9, (2, 0, 0), .null, [1133])), (32, (.iconst 2, (0, 0, 0), .null, [])), (33, (.iload_n 1, (0, 0, 0), .null, []))]), (41, [(34, (.imul, (0, 0, 0), .null, [])), (35, (.lconst 0, (0, 0, 0), .null, [])), (36, (.lastore, (0, 0, 0), .null, [])), (37, (.aload_n 0, (0, 0, 0), .null, [])), (38, (.getfield 9, (2, 0, 0), .null, [1133])), (41, (.iconst 2, (0, 0, 0), .null, []))]), (47, [(42, (.iload_n 1, (0, 0, 0), .null, [])), (43, (.imul, (0, 0, 0), .null, [])), (44, (.iconst 1, (0, 0, 0), .null, [])), (45, (.iadd, (0, 0, 0), .null, [])), (46, (.lconst 0, (0, 0, 0), .null, [])), (47, (.lastore, (0, 0, 0), .null, []))]), (48, [(48, (.return_, (0, 0, 0), .null, []))])]
def ax_t26 : List (Nat × List (Nat × ax_E2)) := [(9, [(0, (.iconst 0, (0, 0, 0), .null, [])), (1, (.istore_n 1, (0, 0, 0), .null, [])), (2, (.iload_n 1, (0, 0, 0), .null, [])), (3, (.bipush 24, (0, 0, 0), .null, [])), (5, (.if_icmp .ge 63, (0, 0, 0), .null, [])), (8, (.aload_n 0, (0, 0, 0), .null, [])), (9, (.getfield 9, (2, 0, 0), .null, [1133]))]), (20, [(12, (.iload_n 1, (0, 0, 0), .null, [])), (13, (.laload, (0, 0, 0), .null, [])), (14, (.aload_n 0, (0, 0, 0), .null, [])), (15, (.getfield 9, (2, 0, 0), .null, [1133])), (18, (.iload_n 1, (0, 0, 0), .null, [])), (19, (.iconst 1, (0, 0, 0), .null, [])), (20, (.iadd, (0, 0, 0), .null, []))]), (31, [(21, (.laload, (0, 0, 0), .null, [])), (22, (.invokestatic 39, (700, 2, 0), .null, [3082])), (25, (.lstore_n 2, (0, 0, 0), .null, [])), (26, (.aload_n 0, (0, 0, 0), .null, [])), (27, (.getfield 9, (2, 0, 0), .null, [1133])), (30, (.iload_n 1, (0, 0, 0), .null, [])), (31, (.dup2, (0, 0, 0), .null, []))]), (40, [(32, (.laload, (0, 0, 0), .null, [])), (33, (.lload_n 2, (0, 0, 0), .null, [])), (34, (.lsub, (0, 0, 0), .null, [])), (35, (.lastore, (0, 0, 0), .null, [])), (36, (.aload_n 0, (0, 0, 0), .null, [])), (37, (.getfield 9, (2, 0, 0), .null, [1133])), (40, (.iload_n 1, (0, 0, 0), .null, []))]), (47, [(41, (.iconst 1, (0, 0, 0), .null, [])), (42, (.iadd, (0, 0, 0), .null, [])), (43, (.dup2, (0, 0, 0), .null, [])), (44, (.laload, (0, 0, 0), .null, [])), (45, (.lload_n 2, (0, 0, 0), .null, [])), (46, (.lsub, (0, 0, 0), .null, [])), (47, (.lastore, (0, 0, 0), .null, []))]), (56, [(48, (.aload_n 0, (0, 0, 0), .null, [])), (49, (.lconst 0, (0, 0, 0), .null, [])), (50, (.aload_n 0, (0, 0, 0), .null, [])), (51, (.getfield 15, (2, 1, 0), .null, [1135])), (54, (.lload_n 2, (0, 0, 0), .null, [])), (55, (.lsub, (0, 0, 0), .null, [])), (56, (.invokestatic 33, (701, 2, 0), .null, [3085]))]), (68, [(59, (.putfield 15, (2, 1, 0), .null, [1135])), (62, (.iinc 1 2, (0, 0, 0), .null, [])), (65, (.goto (-63), (0, 0, 0), .null, [])), (68, (.return_, (0, 0, 0), .null, []))])]
def ax_t27 : List (Nat × List (Nat × ax_E2)) := [(5, [(0, (.iconst 0, (0, 0, 0), .null, [])), (1, (.istore_n 1, (0, 0, 0), .null, [])), (2, (.iload_n 1, (0, 0, 0), .null, [])), (3, (.bipush 24, (0, 0, 0), .null, [])), (5, (.if_icmp .ge 24, (0, 0, 0), .null, []))]), (14, [(8, (.aload_n 0, (0, 0, 0), .null, [])), (9, (.getfield 9, (2, 0, 0), .null, [1133])), (12, (.iload_n 1, (0, 0, 0), .null, [])), (13, (.laload, (0, 0, 0), .null, [])), (14, (.ldc2_w 42, (0, 0, 0), .long (1000000000), [5123]))]), (23, [(17, (.lcmp, (0, 0, 0), .null, [])), (18, (.ifCond .le 5, (0, 0, 0), .null, [])), (21, (.iconst 0, (0, 0, 0), .null, [])), (22, (.ireturn, (0, 0, 0), .null, [])), (23, (.iinc 1 1, (0, 0, 0), .null, []))]), (36, [(26, (.goto (-24), (0, 0, 0), .null, [])), (29, (.aload_n 0, (0, 0, 0), .null, [])), (30, (.getfield 15, (2, 1, 0), .null, [1135])), (33, (.ldc2_w 42, (0, 0, 0), .long (1000000000), [5123])), (36, (.lcmp, (0, 0, 0), .null, []))]), (45, [(37, (.ifCond .gt 7, (0, 0, 0), .null, [])), (40, (.iconst 1, (0, 0, 0), .null, [])), (41, (.goto 4, (0, 0, 0), .null, [])), (44, (.iconst 0, (0, 0, 0), .null, [])), (45, (.ireturn, (0, 0, 0), .null, []))])]
def ax_t28 : List (Nat × List (Nat × ax_E2)) := [(5, [(0, (.aload_n 0, (0, 0, 0), .null, [])), (1, (.invokespecial 3, (0, 0, 2), .null, [1183])), (4, (.aload_n 0, (0, 0, 0), .null, [])), (5, (.bipush 24, (0, 0, 0), .null, []))]), (13, [(7, (.newarray .int, (0, 0, 0), .null, [1056])), (9, (.putfield 9, (3, 0, 0), .null, [1184])), (12, (.aload_n 0, (0, 0, 0), .null, [])), (13, (.iconst 0, (0, 0, 0), .null, []))]), (17, [(14, (.putfield 15, (3, 1, 0), .null, [1186])), (17, (.return_, (0, 0, 0), .null, []))])]
def ax_t29 : List (Nat × List (Nat × ax_E2)) := [(6, [(0, (.aload_n 0, (0, 0, 0), .null, [])), (1, (.getfield 15, (3, 1, 0), .null, [1186])), (4, (.bipush 24, (0, 0, 0), .null, [])), (6, (.if_icmp .ge 23, (0, 0, 0), .null, []))]), (14, [(9, (.aload_n 0, (0, 0, 0), .null, [])), (10, (.getfield 9, (3, 0, 0), .null, [1184])), (13, (.aload_n 0, (0, 0, 0), .null, [])), (14, (.getfield 15, (3, 1, 0), .null, [1186]))]), (20, [(17, (.iload_n 1, (0, 0, 0), .null, [])), (18, (.iastore, (0, 0, 0), .null, [])), (19, (.aload_n 0, (0, 0, 0), .null, [])), (20, (.dup, (0, 0, 0), .null, []))]), (26, [(21, (.getfield 15, (3, 1, 0), .null, [1186])), (24, (.iconst 1, (0, 0, 0), .null, [])), (25, (.iadd, (0, 0, 0), .null, [])), (26, (.putfield 15, (3, 1, 0), .null, [1186]))]), (29, [(29, (.return_, (0, 0, 0), .null, []))])]
def ax_t30 : List (Nat × List (Nat × ax_E2)) := [(7, [(0, (.aload_n 0, (0, 0, 0), .null, [])), (1, (.getfield 15, (3, 1, 0), .null, [1186])), (4, (.ifCond .le 13, (0, 0, 0), .null, [])), (7, (.aload_n 0, (0, 0, 0), .null, []))]), (13, [(8, (.dup, (0, 0, 0), .null, [])), (9, (.getfield 15, (3, 1, 0), .null, [1186])), (12, (.iconst 1, (0, 0, 0), .null, [])), (13, (.isub, (0, 0, 0), .null, []))]), (17, [(14, (.putfield 15, (3, 1, 0), .null, [1186])), (17, (.return_, (0, 0, 0), .null, []))])]
def ax_t31 : List (Nat × List (Nat × ax_E2)) := [(5, [(0, (.aload_n 1, (0, 0, 0), .null, [])), (1, (.getfield 9, (3, 0, 0), .null, [1184])), (4, (.iconst 0, (0, 0, 0), .null, [])), (5, (.aload_n 0, (0, 0, 0), .null, []))]), (12, [(6, (.getfield 9, (3, 0, 0), .null, [1184])), (9, (.iconst 0, (0, 0, 0), .null, [])), (10, (.bipush 24, (0, 0, 0), .null, [])), (12, (.invokestatic 19, (900, 0, 0), .null, []))]), (20, [(15, (.aload_n 0, (0, 0, 0), .null, [])), (16, (.aload_n 1, (0, 0, 0), .null, [])), (17, (.getfield 15, (3, 1, 0), .null, [1186])), (20, (.putfield 15, (3, 1, 0), .null, [1186]))]), (23, [(23, (.return_, (0, 0, 0), .null, []))])]
def ax_t32 : List (Nat × List (Nat × ax_E2)) := [(6, [(0, (.aload_n 0, (0, 0, 0), .null, [])), (1, (.iconst 0, (0, 0, 0), .null, [])), (2, (.putfield 15, (3, 1, 0), .null, [1186])), (5, (.iconst 0, (0, 0, 0), .null, [])), (6, (.istore_n 2, (0, 0, 0), .null, []))]), (14, [(7, (.iload_n 2, (0, 0, 0), .null, [])), (8, (.bipush 24, (0, 0, 0), .null, [])), (10, (.if_icmp .ge 23, (0, 0, 0), .null, [])), (13, (.iload_n 1, (0, 0, 0), .null, [])), (14, (.iload_n 2, (0, 0, 0), .null, []))]), (19, [(15, (.ishr, (0, 0, 0), .null, [])), (16, (.iconst 1, (0, 0, 0), .null, [])), (17, (.iand, (0, 0, 0), .null, [])), (18, (.iconst 1, (0, 0, 0), .null, [])), (19, (.if_icmp .ne 8, (0, 0, 0), .null, []))]), (30, [(22, (.aload_n 0, (0, 0, 0), .null, [])), (23, (.iload_n 2, (0, 0, 0), .null, [])), (24, (.invokevirtual 25, (29, 1, 3), .null, [5233, 5235])), (27, (.iinc 2 1, (0, 0, 0), .null, [])), (30, (.goto (-23), (0, 0, 0), .null, []))]), (33, [(33, (.return_, (0, 0, 0), .null, []))])]
def ax_t33 : List (Nat × List (Nat × ax_E2)) := [(5, [(0, (.iconst 0, (0, 0, 0), .null, [])), (1, (.istore_n 2, (0, 0, 0), .null, [])), (2, (.iconst 0, (0, 0, 0), .null, [])), (3, (.istore_n 3, (0, 0, 0), .null, [])), (4, (.iload_n 3, (0, 0, 0), .null, [])), (5, (.aload_n 0, (0, 0, 0), .null, []))]), (17, [(6, (.getfield 15, (3, 1, 0), .null, [1186])), (9, (.if_icmp .ge 34, (0, 0, 0), .null, [])), (12, (.aload_n 0, (0, 0, 0), .null, [])), (13, (.getfield 9, (3, 0, 0), .null, [1184])), (16, (.iload_n 3, (0, 0, 0), .null, [])), (17, (.iaload, (0, 0, 0), .null, []))]), (25, [(18, (.iconst 1, (0, 0, 0), .null, [])), (19, (.iand, (0, 0, 0), .null, [])), (20, (.iload_n 1, (0, 0, 0), .null, [])), (21, (.if_icmp .ne 16, (0, 0, 0), .null, [])), (24, (.iload_n 2, (0, 0, 0), .null, [])), (25, (.iconst 1, (0, 0, 0), .null, []))]), (33, [(26, (.aload_n 0, (0, 0, 0), .null, [])), (27, (.getfield 9, (3, 0, 0), .null, [1184])), (30, (.iload_n 3, (0, 0, 0), .null, [])), (31, (.iaload, (0, 0, 0), .null, [])), (32, (.iconst 1, (0, 0, 0), .null, [])), (33, (.ishr, (0, 0, 0), .null, []))]), (43, [(34, (.ishl, (0, 0, 0), .null, [])), (35, (.ior, (0, 0, 0), .null, [])), (36, (.istore_n 2, (0, 0, 0), .null, [])), (37, (.iinc 3 1, (0, 0, 0), .null, [])), (40, (.goto (-36), (0, 0, 0), .null, [])), (43, (.iload_n 2, (0, 0, 0), .null, []))]), (44, [(44, (.ireturn, (0, 0, 0), .null, []))])]
def ax_t34 : List (Nat × List (Nat × ax_E2)) := [(5, [(0, (.aload_n 0, (0, 0, 0), .null, [])), (1, (.invokespecial 3, (0, 0, 2), .null, [1170])), (4, (.aload_n 0, (0, 0, 0), .null, [])), (5, (.bipush 64, (0, 0, 0), .null, []))]), (13, [(7, (.newarray .long, (1, 0, 0), .null, [1144])), (9, (.putfield 11, (4, 0, 0), .null, [1171])), (12, (.aload_n 0, (0, 0, 0), .null, [])), (13, (.bipush 64, (0, 0, 0), .null, []))]), (20, [(15, (.newarray .long, (1, 0, 0), .null, [1144])), (17, (.putfield 15, (4, 1, 0), .null, [1172])), (20, (.return_, (0, 0, 0), .null, []))])]
def ax_t35 : List (Nat × List (Nat × ax_E2)) := [(5, [(0, (.aload_n 0, (0, 0, 0), .null, [])), (1, (.getfield 11, (4, 0, 0), .null, [1171])), (4, (.iload_n 1, (0, 0, 0), .null, [])), (5, (.bipush 63, (0, 0, 0), .null, []))]), (10, [(7, (.iand, (0, 0, 0), .null, [])), (8, (.laload, (0, 0, 0), .null, [])), (9, (.aload_n 0, (0, 0, 0), .null, [])), (10, (.getfield 15, (4, 1, 0), .null, [1172]))]), (17, [(13, (.iload_n 1, (0, 0, 0), .null, [])), (14, (.bipush 6, (0, 0, 0), .null, [])), (16, (.ishr, (0, 0, 0), .null, [])), (17, (.bipush 63, (0, 0, 0), .null, []))]), (22, [(19, (.iand, (0, 0, 0), .null, [])), (20, (.laload, (0, 0, 0), .null, [])), (21, (.ladd, (0, 0, 0), .null, [])), (22, (.lreturn, (0, 0, 0), .null, []))])]
def ax_t36 : List (Nat × List (Nat × ax_E2)) := [(8, [(0, (.lload_n 2, (0, 0, 0), .null, [])), (1, (.aload_n 0, (0, 0, 0), .null, [])), (2, (.getfield 15, (4, 1, 0), .null, [1172])), (5, (.iload_n 1, (0, 0, 0), .null, [])), (6, (.bipush 63, (0, 0, 0), .null, [])), (8, (.iand, (0, 0, 0), .null, []))]), (16, [(9, (.laload, (0, 0, 0), .null, [])), (10, (.lsub, (0, 0, 0), .null, [])), (11, (.lstore 4, (0, 0, 0), .null, [])), (13, (.lconst 0, (0, 0, 0), .null, [])), (14, (.lstore 6, (0, 0, 0), .null, [])), (16, (.iconst 0, (0, 0, 0), .null, []))]), (27, [(17, (.istore 8, (0, 0, 0), .null, [])), (19, (.iload 8, (0, 0, 0), .null, [])), (21, (.bipush 64, (0, 0, 0), .null, [])), (23, (.if_icmp .ge 31, (0, 0, 0), .null, [])), (26, (.aload_n 0, (0, 0, 0), .null, [])), (27, (.getfield 11, (4, 0, 0), .null, [1171]))]), (39, [(30, (.iload 8, (0, 0, 0), .null, [])), (32, (.laload, (0, 0, 0), .null, [])), (33, (.lload 4, (0, 0, 0), .null, [])), (35, (.lcmp, (0, 0, 0), .null, [])), (36, (.ifCond .lt 12, (0, 0, 0), .null, [])), (39, (.lload 6, (0, 0, 0), .null, []))]), (48, [(41, (.lconst 1, (0, 0, 0), .null, [])), (42, (.iload 8, (0, 0, 0), .null, [])), (44, (.lshl, (0, 0, 0), .null, [])), (45, (.lor, (0, 0, 0), .null, [])), (46, (.lstore 6, (0, 0, 0), .null, [])), (48, (.iinc 8 1, (0, 0, 0), .null, []))]), (56, [(51, (.goto (-32), (0, 0, 0), .null, [])), (54, (.lload 6, (0, 0, 0), .null, [])), (56, (.lreturn, (0, 0, 0), .null, []))])]
def ax_t37 : List (Nat × List (Nat × ax_E2)) := [(7, [(0, (.aload_n 0, (0, 0, 0), .null, [])), (1, (.getfield 11, (4, 0, 0), .null, [1171])), (4, (.iconst 0, (0, 0, 0), .null, [])), (5, (.lconst 0, (0, 0, 0), .null, [])), (6, (.lastore, (0, 0, 0), .null, [])), (7, (.aload_n 0, (0, 0, 0), .null, []))]), (15, [(8, (.getfield 15, (4, 1, 0), .null, [1172])), (11, (.iconst 0, (0, 0, 0), .null, [])), (12, (.lconst 0, (0, 0, 0), .null, [])), (13, (.lastore, (0, 0, 0), .null, [])), (14, (.iconst 0, (0, 0, 0), .null, [])), (15, (.istore_n 2, (0, 0, 0), .null, []))]), (26, [(16, (.iload_n 2, (0, 0, 0), .null, [])), (17, (.bipush 12, (0, 0, 0), .null, [])), (19, (.if_icmp .ge 40, (0, 0, 0), .null, [])), (22, (.aload_n 1, (0, 0, 0), .null, [])), (23, (.getfield 18, (1, 0, 0), .null, [1152])), (26, (.iconst 2, (0, 0, 0), .null, []))]), (32, [(27, (.iload_n 2, (0, 0, 0), .null, [])), (28, (.imul, (0, 0, 0), .null, [])), (29, (.iaload, (0, 0, 0), .null, [])), (30, (.i2l, (0, 0, 0), .null, [])), (31, (.lstore_n 3, (0, 0, 0), .null, [])), (32, (.aload_n 1, (0, 0, 0), .null, []))]), (40, [(33, (.getfield 18, (1, 0, 0), .null, [1152])), (36, (.iconst 2, (0, 0, 0), .null, [])), (37, (.iload_n 2, (0, 0, 0), .null, [])), (38, (.imul, (0, 0, 0), .null, [])), (39, (.iconst 1, (0, 0, 0), .null, [])), (40, (.iadd, (0, 0, 0), .null, []))]), (47, [(41, (.iaload, (0, 0, 0), .null, [])), (42, (.i2l, (0, 0, 0), .null, [])), (43, (.lstore 5, (0, 0, 0), .null, [])), (45, (.aload_n 0, (0, 0, 0), .null, [])), (46, (.iload_n 2, (0, 0, 0), .null, [])), (47, (.lload_n 3, (0, 0, 0), .null, []))]), (59, [(48, (.lload 5, (0, 0, 0), .null, [])), (50, (.invokevirtual 24, (39, 3, 4), .null, [3096, 18])), (53, (.iinc 2 1, (0, 0, 0), .null, [])), (56, (.goto (-40), (0, 0, 0), .null, [])), (59, (.return_, (0, 0, 0), .null, []))])]
def ax_t38 : List (Nat × List (Nat × ax_E2)) := [(6, [(0, (.aload_n 0, (0, 0, 0), .null, [])), (1, (.getfield 11, (4, 0, 0), .null, [1171])), (4, (.iconst 0, (0, 0, 0), .null, [])), (5, (.lconst 0, (0, 0, 0), .null, [])), (6, (.lastore, (0, 0, 0), .null, []))]), (13, [(7, (.aload_n 0, (0, 0, 0), .null, [])), (8, (.getfield 15, (4, 1, 0), .null, [1172])), (11, (.iconst 0, (0, 0, 0), .null, [])), (12, (.lconst 0, (0, 0, 0), .null, [])), (13, (.lastore, (0, 0, 0), .null, []))]), (19, [(14, (.iconst 0, (0, 0, 0), .null, [])), (15, (.istore_n 2, (0, 0, 0), .null, [])), (16, (.iload_n 2, (0, 0, 0), .null, [])), (17, (.bipush 12, (0, 0, 0), .null, [])), (19, (.if_icmp .ge 25, (0, 0, 0), .null, []))]), (28, [(22, (.iload_n 2, (0, 0, 0), .null, [])), (23, (.aload_n 1, (0, 0, 0), .null, [])), (24, (.arraylength, (0, 0, 0), .null, [])), (25, (.if_icmp .ge 19, (0, 0, 0), .null, [])), (28, (.aload_n 0, (0, 0, 0), .null, []))]), (33, [(29, (.iload_n 2, (0, 0, 0), .null, [])), (30, (.aload_n 1, (0, 0, 0), .null, [])), (31, (.iload_n 2, (0, 0, 0), .null, [])), (32, (.iaload, (0, 0, 0), .null, [])), (33, (.i2l, (0, 0, 0), .null, []))]), (44, [(34, (.lconst 0, (0, 0, 0), .null, [])), (35, (.invokevirtual 24, (39, 3, 4), .null, [3096, 18])), (38, (.iinc 2 1, (0, 0, 0), .null, [])), (41, (.goto (-25), (0, 0, 0), .null, [])), (44, (.return_, (0, 0, 0), .null, []))])]
def ax_t39 : List (Nat × List (Nat × ax_E2)) := [(10, [(0, (.iload_n 1, (0, 0, 0), .null, [])), (1, (.bipush 6, (0, 0, 0), .null, [])), (3, (.if_icmp .ge 10, (0, 0, 0), .null, [])), (6, (.aload_n 0, (0, 0, 0), .null, [])), (7, (.getfield 11, (4, 0, 0), .null, [1171])), (10, (.goto 7, (0, 0, 0), .null, []))]), (21, [(13, (.aload_n 0, (0, 0, 0), .null, [])), (14, (.getfield 15, (4, 1, 0), .null, [1172])), (17, (.astore 6, (0, 0, 0), .null, [])), (19, (.iconst 1, (0, 0, 0), .null, [])), (20, (.iload_n 1, (0, 0, 0), .null, [])), (21, (.bipush 6, (0, 0, 0), .null, []))]), (30, [(23, (.irem, (0, 0, 0), .null, [])), (24, (.ishl, (0, 0, 0), .null, [])), (25, (.istore 7, (0, 0, 0), .null, [])), (27, (.iconst 0, (0, 0, 0), .null, [])), (28, (.istore 8, (0, 0, 0), .null, [])), (30, (.iload 8, (0, 0, 0), .null, []))]), (43, [(32, (.iload 7, (0, 0, 0), .null, [])), (34, (.if_icmp .ge 34, (0, 0, 0), .null, [])), (37, (.aload 6, (0, 0, 0), .null, [])), (39, (.iload 8, (0, 0, 0), .null, [])), (41, (.iload 7, (0, 0, 0), .null, [])), (43, (.iadd, (0, 0, 0), .null, []))]), (51, [(44, (.aload 6, (0, 0, 0), .null, [])), (46, (.iload 8, (0, 0, 0), .null, [])), (48, (.laload, (0, 0, 0), .null, [])), (49, (.lload_n 2, (0, 0, 0), .null, [])), (50, (.ladd, (0, 0, 0), .null, [])), (51, (.lastore, (0, 0, 0), .null, []))]), (60, [(52, (.aload 6, (0, 0, 0), .null, [])), (54, (.iload 8, (0, 0, 0), .null, [])), (56, (.dup2, (0, 0, 0), .null, [])), (57, (.laload, (0, 0, 0), .null, [])), (58, (.lload 4, (0, 0, 0), .null, [])), (60, (.ladd, (0, 0, 0), .null, []))]), (68, [(61, (.lastore, (0, 0, 0), .null, [])), (62, (.iinc 8 1, (0, 0, 0), .null, [])), (65, (.goto (-35), (0, 0, 0), .null, [])), (68, (.return_, (0, 0, 0), .null, []))])]
def ax_t40 : List (Nat × List (Nat × ax_E2)) := [(5, [(0, (.aload_n 0, (0, 0, 0), .null, [])), (1, (.invokespecial 1, (0, 0, 2), .null, [1219])), (4, (.aload_n 0, (0, 0, 0), .null, [])), (5, (.bipush 64, (0, 0, 0), .null, []))]), (13, [(7, (.newarray .long, (1, 0, 0), .null, [1144])), (9, (.putfield 9, (5, 0, 0), .null, [1224])), (12, (.aload_n 0, (0, 0, 0), .null, [])), (13, (.getfield 9, (5, 0, 0), .null, [1224]))]), (22, [(16, (.ldc2_w 13, (0, 0, 0), .long (-1), [1220])), (19, (.invokestatic 15, (254, 2, 0), .null, [1221])), (22, (.return_, (0, 0, 0), .null, []))])]
def ax_t41 : List (Nat × List (Nat × ax_E2)) := [(5, [(0, (.aload_n 1, (0, 0, 0), .null, [])), (1, (.getfield 9, (5, 0, 0), .null, [1224])), (4, (.iconst 0, (0, 0, 0), .null, [])), (5, (.aload_n 0, (0, 0, 0), .null, []))]), (12, [(6, (.getfield 9, (5, 0, 0), .null, [1224])), (9, (.iconst 0, (0, 0, 0), .null, [])), (10, (.bipush 64, (0, 0, 0), .null, [])), (12, (.invokestatic 21, (900, 0, 0), .null, []))]), (15, [(15, (.return_, (0, 0, 0), .null, []))])]
def ax_t42 : List (Nat × List (Nat × ax_E2)) := [(5, [(0, (.iconst 0, (0, 0, 0), .null, [])), (1, (.istore 4, (0, 0, 0), .null, [])), (3, (.iload 4, (0, 0, 0), .null, [])), (5, (.bipush 64, (0, 0, 0), .null, []))]), (14, [(7, (.if_icmp .ge 26, (0, 0, 0), .null, [])), (10, (.aload_n 0, (0, 0, 0), .null, [])), (11, (.getfield 9, (5, 0, 0), .null, [1224])), (14, (.iload 4, (0, 0, 0), .null, []))]), (19, [(16, (.dup2, (0, 0, 0), .null, [])), (17, (.laload, (0, 0, 0), .null, [])), (18, (.aload_n 1, (0, 0, 0), .null, [])), (19, (.iload 4, (0, 0, 0), .null, []))]), (26, [(21, (.lload_n 2, (0, 0, 0), .null, [])), (22, (.invokevirtual 27, (36, 2, 4), .null, [3104, 3106])), (25, (.land, (0, 0, 0), .null, [])), (26, (.lastore, (0, 0, 0), .null, []))]), (33, [(27, (.iinc 4 1, (0, 0, 0), .null, [])), (30, (.goto (-27), (0, 0, 0), .null, [])), (33, (.return_, (0, 0, 0), .null, []))])]
def ax_t43 : List (Nat × List (Nat × ax_E2)) := [(7, [(0, (.iconst 0, (0, 0, 0), .null, [])), (1, (.istore 4, (0, 0, 0), .null, [])), (3, (.iload 4, (0, 0, 0), .null, [])), (5, (.bipush 64, (0, 0, 0), .null, [])), (7, (.if_icmp .ge 35, (0, 0, 0), .null, []))]), (17, [(10, (.aload_n 0, (0, 0, 0), .null, [])), (11, (.getfield 9, (5, 0, 0), .null, [1224])), (14, (.iload 4, (0, 0, 0), .null, [])), (16, (.laload, (0, 0, 0), .null, [])), (17, (.aload_n 1, (0, 0, 0), .null, []))]), (27, [(18, (.iload 4, (0, 0, 0), .null, [])), (20, (.lload_n 2, (0, 0, 0), .null, [])), (21, (.invokevirtual 27, (36, 2, 4), .null, [3104, 3106])), (24, (.ldc2_w 13, (0, 0, 0), .long (-1), [1220])), (27, (.lxor, (0, 0, 0), .null, []))]), (34, [(28, (.land, (0, 0, 0), .null, [])), (29, (.lconst 0, (0, 0, 0), .null, [])), (30, (.lcmp, (0, 0, 0), .null, [])), (31, (.ifCond .eq 5, (0, 0, 0), .null, [])), (34, (.iconst 0, (0, 0, 0), .null, []))]), (43, [(35, (.ireturn, (0, 0, 0), .null, [])), (36, (.iinc 4 1, (0, 0, 0), .null, [])), (39, (.goto (-36), (0, 0, 0), .null, [])), (42, (.iconst 1, (0, 0, 0), .null, [])), (43, (.ireturn, (0, 0, 0), .null, []))])]
def ax_t44 : List (Nat × List (Nat × ax_E2)) := [(10, [(0, (.iconst 0, (0, 0, 0), .null, [])), (1, (.iload_n 1, (0, 0, 0), .null, [])), (2, (.bipush 64, (0, 0, 0), .null, [])), (4, (.idiv, (0, 0, 0), .null, [])), (5, (.invokestatic 33, (702, 2, 0), .null, [2083])), (8, (.istore 4, (0, 0, 0), .null, [])), (10, (.iload 4, (0, 0, 0), .null, []))]), (22, [(12, (.bipush 64, (0, 0, 0), .null, [])), (14, (.if_icmp .ge 70, (0, 0, 0), .null, [])), (17, (.aload_n 0, (0, 0, 0), .null, [])), (18, (.iload 4, (0, 0, 0), .null, [])), (20, (.iload_n 2, (0, 0, 0), .null, [])), (21, (.iload_n 3, (0, 0, 0), .null, [])), (22, (.invokevirtual 39, (47, 3, 5), .null, [2086, 3]))]), (36, [(25, (.lstore 5, (0, 0, 0), .null, [])), (27, (.iload 4, (0, 0, 0), .null, [])), (29, (.iload_n 1, (0, 0, 0), .null, [])), (30, (.bipush 64, (0, 0, 0), .null, [])), (32, (.idiv, (0, 0, 0), .null, [])), (33, (.if_icmp .ne 16, (0, 0, 0), .null, [])), (36, (.lload 5, (0, 0, 0), .null, []))]), (47, [(38, (.ldc2_w 13, (0, 0, 0), .long (-1), [1220])), (41, (.iload_n 1, (0, 0, 0), .null, [])), (42, (.bipush 64, (0, 0, 0), .null, [])), (44, (.irem, (0, 0, 0), .null, [])), (45, (.lshl, (0, 0, 0), .null, [])), (46, (.land, (0, 0, 0), .null, [])), (47, (.lstore 5, (0, 0, 0), .null, []))]), (60, [(49, (.lload 5, (0, 0, 0), .null, [])), (51, (.lconst 0, (0, 0, 0), .null, [])), (52, (.lcmp, (0, 0, 0), .null, [])), (53, (.ifCond .eq 25, (0, 0, 0), .null, [])), (56, (.lload 5, (0, 0, 0), .null, [])), (58, (.lload 5, (0, 0, 0), .null, [])), (60, (.lneg, (0, 0, 0), .null, []))]), (71, [(61, (.land, (0, 0, 0), .null, [])), (62, (.lstore 7, (0, 0, 0), .null, [])), (64, (.iload 4, (0, 0, 0), .null, [])), (66, (.bipush 64, (0, 0, 0), .null, [])), (68, (.imul, (0, 0, 0), .null, [])), (69, (.lload 7, (0, 0, 0), .null, [])), (71, (.lconst 1, (0, 0, 0), .null, []))]), (84, [(72, (.lsub, (0, 0, 0), .null, [])), (73, (.invokestatic 43, (255, 1, 0), .null, [2092])), (76, (.iadd, (0, 0, 0), .null, [])), (77, (.ireturn, (0, 0, 0), .null, [])), (78, (.iinc 4 1, (0, 0, 0), .null, [])), (81, (.goto (-71), (0, 0, 0), .null, [])), (84, (.iconst (-1), (0, 0, 0), .null, []))]), (85, [(85, (.ireturn, (0, 0, 0), .null, []))])]
def ax_t45 : List (Nat × List (Nat × ax_E2)) := [(3, [(0, (.iconst 0, (0, 0, 0), .null, [])), (1, (.istore_n 3, (0, 0, 0), .null, [])), (2, (.iconst 0, (0, 0, 0), .null, [])), (3, (.istore 4, (0, 0, 0), .null, []))]), (12, [(5, (.iload 4, (0, 0, 0), .null, [])), (7, (.bipush 64, (0, 0, 0), .null, [])), (9, (.if_icmp .ge 23, (0, 0, 0), .null, [])), (12, (.iload_n 3, (0, 0, 0), .null, []))]), (17, [(13, (.aload_n 0, (0, 0, 0), .null, [])), (14, (.iload 4, (0, 0, 0), .null, [])), (16, (.iload_n 1, (0, 0, 0), .null, [])), (17, (.iload_n 2, (0, 0, 0), .null, []))]), (25, [(18, (.invokevirtual 39, (47, 3, 5), .null, [2086, 3])), (21, (.invokestatic 43, (255, 1, 0), .null, [2092])), (24, (.iadd, (0, 0, 0), .null, [])), (25, (.istore_n 3, (0, 0, 0), .null, []))]), (33, [(26, (.iinc 4 1, (0, 0, 0), .null, [])), (29, (.goto (-24), (0, 0, 0), .null, [])), (32, (.iload_n 3, (0, 0, 0), .null, [])), (33, (.ireturn, (0, 0, 0), .null, []))])]
def ax_t46 : List (Nat × List (Nat × ax_E2)) := [(11, [(0, (.iconst (-1), (0, 0, 0), .null, [])), (1, (.istore 4, (0, 0, 0), .null, [])), (3, (.lconst 0, (0, 0, 0), .null, [])), (4, (.lstore 5, (0, 0, 0), .null, [])), (6, (.iconst 0, (0, 0, 0), .null, [])), (7, (.istore 7, (0, 0, 0), .null, [])), (9, (.iload 7, (0, 0, 0), .null, [])), (11, (.bipush 64, (0, 0, 0), .null, []))]), (26, [(13, (.if_icmp .ge 95, (0, 0, 0), .null, [])), (16, (.aload_n 0, (0, 0, 0), .null, [])), (17, (.iload 7, (0, 0, 0), .null, [])), (19, (.iload_n 2, (0, 0, 0), .null, [])), (20, (.iload_n 3, (0, 0, 0), .null, [])), (21, (.invokevirtual 39, (47, 3, 5), .null, [2086, 3])), (24, (.lstore 8, (0, 0, 0), .null, [])), (26, (.iconst 0, (0, 0, 0), .null, []))]), (40, [(27, (.istore 10, (0, 0, 0), .null, [])), (29, (.iload 10, (0, 0, 0), .null, [])), (31, (.bipush 64, (0, 0, 0), .null, [])), (33, (.if_icmp .ge 69, (0, 0, 0), .null, [])), (36, (.lload 8, (0, 0, 0), .null, [])), (38, (.lconst 0, (0, 0, 0), .null, [])), (39, (.lcmp, (0, 0, 0), .null, [])), (40, (.ifCond .eq 62, (0, 0, 0), .null, []))]), (55, [(43, (.aload_n 1, (0, 0, 0), .null, [])), (44, (.iload 7, (0, 0, 0), .null, [])), (46, (.bipush 64, (0, 0, 0), .null, [])), (48, (.imul, (0, 0, 0), .null, [])), (49, (.iload 10, (0, 0, 0), .null, [])), (51, (.iadd, (0, 0, 0), .null, [])), (52, (.invokevirtual 49, (35, 1, 4), .null, [6115, 6117])), (55, (.lstore 11, (0, 0, 0), .null, []))]), (66, [(57, (.lload 8, (0, 0, 0), .null, [])), (59, (.iload 10, (0, 0, 0), .null, [])), (61, (.lshr, (0, 0, 0), .null, [])), (62, (.lconst 1, (0, 0, 0), .null, [])), (63, (.land, (0, 0, 0), .null, [])), (64, (.lconst 1, (0, 0, 0), .null, [])), (65, (.lcmp, (0, 0, 0), .null, [])), (66, (.ifCond .ne 30, (0, 0, 0), .null, []))]), (84, [(69, (.iload 4, (0, 0, 0), .null, [])), (71, (.ifCond .lt 11, (0, 0, 0), .null, [])), (74, (.lload 11, (0, 0, 0), .null, [])), (76, (.lload 5, (0, 0, 0), .null, [])), (78, (.lcmp, (0, 0, 0), .null, [])), (79, (.ifCond .ge 17, (0, 0, 0), .null, [])), (82, (.iload 7, (0, 0, 0), .null, [])), (84, (.bipush 64, (0, 0, 0), .null, []))]), (99, [(86, (.imul, (0, 0, 0), .null, [])), (87, (.iload 10, (0, 0, 0), .null, [])), (89, (.iadd, (0, 0, 0), .null, [])), (90, (.istore 4, (0, 0, 0), .null, [])), (92, (.lload 11, (0, 0, 0), .null, [])), (94, (.lstore 5, (0, 0, 0), .null, [])), (96, (.iinc 10 1, (0, 0, 0), .null, [])), (99, (.goto (-70), (0, 0, 0), .null, []))]), (110, [(102, (.iinc 7 1, (0, 0, 0), .null, [])), (105, (.goto (-96), (0, 0, 0), .null, [])), (108, (.iload 4, (0, 0, 0), .null, [])), (110, (.ireturn, (0, 0, 0), .null, []))])]
def ax_t47 : List (Nat × List (Nat × ax_E2)) := [(9, [(0, (.iload_n 1, (0, 0, 0), .null, [])), (1, (.iload_n 2, (0, 0, 0), .null, [])), (2, (.bipush 6, (0, 0, 0), .null, [])), (4, (.ishr, (0, 0, 0), .null, [])), (5, (.iand, (0, 0, 0), .null, [])), (6, (.iload_n 2, (0, 0, 0), .null, [])), (7, (.bipush 6, (0, 0, 0), .null, [])), (9, (.ishr, (0, 0, 0), .null, []))]), (22, [(10, (.if_icmp .ne 12, (0, 0, 0), .null, [])), (13, (.iload_n 1, (0, 0, 0), .null, [])), (14, (.iload_n 3, (0, 0, 0), .null, [])), (15, (.bipush 6, (0, 0, 0), .null, [])), (17, (.ishr, (0, 0, 0), .null, [])), (18, (.iand, (0, 0, 0), .null, [])), (19, (.ifCond .eq 5, (0, 0, 0), .null, [])), (22, (.lconst 0, (0, 0, 0), .null, []))]), (33, [(23, (.lreturn, (0, 0, 0), .null, [])), (24, (.aload_n 0, (0, 0, 0), .null, [])), (25, (.getfield 9, (5, 0, 0), .null, [1224])), (28, (.iload_n 1, (0, 0, 0), .null, [])), (29, (.laload, (0, 0, 0), .null, [])), (30, (.lstore 4, (0, 0, 0), .null, [])), (32, (.iconst 0, (0, 0, 0), .null, [])), (33, (.istore 6, (0, 0, 0), .null, []))]), (47, [(35, (.iload 6, (0, 0, 0), .null, [])), (37, (.bipush 6, (0, 0, 0), .null, [])), (39, (.if_icmp .ge 55, (0, 0, 0), .null, [])), (42, (.iload_n 2, (0, 0, 0), .null, [])), (43, (.iload 6, (0, 0, 0), .null, [])), (45, (.ishr, (0, 0, 0), .null, [])), (46, (.iconst 1, (0, 0, 0), .null, [])), (47, (.iand, (0, 0, 0), .null, []))]), (61, [(48, (.iconst 1, (0, 0, 0), .null, [])), (49, (.if_icmp .ne 14, (0, 0, 0), .null, [])), (52, (.lload 4, (0, 0, 0), .null, [])), (54, (.getstatic 53, (0, 0, 0), .null, [2090])), (57, (.iload 6, (0, 0, 0), .null, [])), (59, (.laload, (0, 0, 0), .null, [])), (60, (.land, (0, 0, 0), .null, [])), (61, (.lstore 4, (0, 0, 0), .null, []))]), (73, [(63, (.iload_n 3, (0, 0, 0), .null, [])), (64, (.iload 6, (0, 0, 0), .null, [])), (66, (.ishr, (0, 0, 0), .null, [])), (67, (.iconst 1, (0, 0, 0), .null, [])), (68, (.iand, (0, 0, 0), .null, [])), (69, (.iconst 1, (0, 0, 0), .null, [])), (70, (.if_icmp .ne 18, (0, 0, 0), .null, [])), (73, (.lload 4, (0, 0, 0), .null, []))]), (88, [(75, (.getstatic 53, (0, 0, 0), .null, [2090])), (78, (.iload 6, (0, 0, 0), .null, [])), (80, (.laload, (0, 0, 0), .null, [])), (81, (.ldc2_w 13, (0, 0, 0), .long (-1), [1220])), (84, (.lxor, (0, 0, 0), .null, [])), (85, (.land, (0, 0, 0), .null, [])), (86, (.lstore 4, (0, 0, 0), .null, [])), (88, (.iinc 6 1, (0, 0, 0), .null, []))]), (96, [(91, (.goto (-56), (0, 0, 0), .null, [])), (94, (.lload 4, (0, 0, 0), .null, [])), (96, (.lreturn, (0, 0, 0), .null, []))])]
def ax_t48 : List (Nat × List (Nat × ax_E2)) := [(5, [(0, (.aload_n 0, (0, 0, 0), .null, [])), (1, (.invokespecial 3, (0, 0, 2), .null, [1062])), (4, (.aload_n 0, (0, 0, 0), .null, [])), (5, (.bipush 24, (0, 0, 0), .null, []))]), (13, [(7, (.newarray .int, (0, 0, 0), .null, [1056])), (9, (.putfield 9, (6, 6, 0), .null, [1070])), (12, (.aload_n 0, (0, 0, 0), .null, [])), (13, (.aload_n 1, (0, 0, 0), .null, []))]), (17, [(14, (.putfield 15, (6, 0, 0), .null, [1063])), (17, (.return_, (0, 0, 0), .null, []))])]
def ax_t49 : List (Nat × List (Nat × ax_E2)) := [(6, [(0, (.aload_n 0, (0, 0, 0), .null, [])), (1, (.getfield 19, (6, 7, 0), .null, [1071])), (4, (.bipush 9, (0, 0, 0), .null, [])), (6, (.if_icmp .ne 7, (0, 0, 0), .null, []))]), (14, [(9, (.iconst 1, (0, 0, 0), .null, [])), (10, (.goto 4, (0, 0, 0), .null, [])), (13, (.iconst 0, (0, 0, 0), .null, [])), (14, (.ireturn, (0, 0, 0), .null, []))])]
def ax_t50 : List (Nat × List (Nat × ax_E2)) := [(6, [(0, (.aload_n 0, (0, 0, 0), .null, [])), (1, (.getfield 19, (6, 7, 0), .null, [1071])), (4, (.bipush 8, (0, 0, 0), .null, [])), (6, (.if_icmp .eq 7, (0, 0, 0), .null, []))]), (14, [(9, (.iconst 1, (0, 0, 0), .null, [])), (10, (.goto 4, (0, 0, 0), .null, [])), (13, (.iconst 0, (0, 0, 0), .null, [])), (14, (.ireturn, (0, 0, 0), .null, []))])]
def ax_t51 : List (Nat × List (Nat × ax_E2)) := [(6, [(0, (.aload_n 0, (0, 0, 0), .null, [])), (1, (.getfield 19, (6, 7, 0), .null, [1071])), (4, (.bipush 7, (0, 0, 0), .null, [])), (6, (.if_icmp .eq 7, (0, 0, 0), .null, []))]), (14, [(9, (.iconst 1, (0, 0, 0), .null, [])), (10, (.goto 4, (0, 0, 0), .null, [])), (13, (.iconst 0, (0, 0, 0), .null, [])), (14, (.ireturn, (0, 0, 0), .null, []))])]
def ax_t52 : List (Nat × List (Nat × ax_E2)) := [(3, [(0, (.aload_n 0, (0, 0, 0), .null, [])), (1, (.aload_n 1, (0, 0, 0), .null, [])), (2, (.iconst 1, (0, 0, 0), .null, [])), (3, (.invokevirtual 23, (54, 2, 6), .null, [3061, 16]))]), (6, [(6, (.return_, (0, 0, 0), .null, []))])]
def ax_t53 : List (Nat × List (Nat × ax_E2)) := [(3, [(0, (.aload_n 0, (0, 0, 0), .null, [])), (1, (.aload_n 1, (0, 0, 0), .null, [])), (2, (.iconst (-1), (0, 0, 0), .null, [])), (3, (.invokevirtual 23, (54, 2, 6), .null, [3061, 16]))]), (6, [(6, (.return_, (0, 0, 0), .null, []))])]
def ax_t54 : List (Nat × List (Nat × ax_E2)) := [(6, [(0, (.aload_n 1, (0, 0, 0), .null, [])), (1, (.invokevirtual 27, (20, 0, 2), .null, [3065, 3067])), (4, (.aload_n 1, (0, 0, 0), .null, [])), (5, (.iload_n 2, (0, 0, 0), .null, [])), (6, (.aload_n 0, (0, 0, 0), .null, []))]), (15, [(7, (.getfield 32, (6, 8, 0), .null, [1072])), (10, (.imul, (0, 0, 0), .null, [])), (11, (.i2l, (0, 0, 0), .null, [])), (12, (.putfield 35, (2, 1, 0), .null, [1137])), (15, (.iconst 0, (0, 0, 0), .null, []))]), (23, [(16, (.istore_n 3, (0, 0, 0), .null, [])), (17, (.iload_n 3, (0, 0, 0), .null, [])), (18, (.bipush 24, (0, 0, 0), .null, [])), (20, (.if_icmp .ge 23, (0, 0, 0), .null, [])), (23, (.aload_n 1, (0, 0, 0), .null, []))]), (30, [(24, (.iload_n 3, (0, 0, 0), .null, [])), (25, (.iload_n 2, (0, 0, 0), .null, [])), (26, (.aload_n 0, (0, 0, 0), .null, [])), (27, (.getfield 9, (6, 6, 0), .null, [1070])), (30, (.iload_n 3, (0, 0, 0), .null, []))]), (37, [(31, (.iaload, (0, 0, 0), .null, [])), (32, (.imul, (0, 0, 0), .null, [])), (33, (.i2l, (0, 0, 0), .null, [])), (34, (.invokevirtual 39, (21, 2, 2), .null, [3070, 3072])), (37, (.iinc 3 1, (0, 0, 0), .null, []))]), (43, [(40, (.goto (-23), (0, 0, 0), .null, [])), (43, (.return_, (0, 0, 0), .null, []))])]
def ax_t55 : List (Nat × List (Nat × ax_E2)) := [(8, [(0, (.aload_n 0, (0, 0, 0), .null, [])), (1, (.getfield 9, (6, 6, 0), .null, [1070])), (4, (.iconst 0, (0, 0, 0), .null, [])), (5, (.invokestatic 43, (253, 2, 0), .null, [2235])), (8, (.aload_n 0, (0, 0, 0), .null, []))]), (17, [(9, (.iconst 0, (0, 0, 0), .null, [])), (10, (.putfield 49, (6, 1, 0), .null, [1064])), (13, (.aload_n 0, (0, 0, 0), .null, [])), (14, (.invokevirtual 52, (61, 0, 6), .null, [2236, 5])), (17, (.aload_n 0, (0, 0, 0), .null, []))]), (28, [(18, (.invokevirtual 55, (56, 0, 6), .null, [3019, 9])), (21, (.ifCond .eq 28, (0, 0, 0), .null, [])), (24, (.aload_n 0, (0, 0, 0), .null, [])), (25, (.invokevirtual 59, (58, 0, 6), .null, [3031, 12])), (28, (.ifCond .eq 21, (0, 0, 0), .null, []))]), (39, [(31, (.aload_n 0, (0, 0, 0), .null, [])), (32, (.invokevirtual 62, (59, 0, 6), .null, [3035, 13])), (35, (.ifCond .eq 14, (0, 0, 0), .null, [])), (38, (.aload_n 0, (0, 0, 0), .null, [])), (39, (.getfield 65, (6, 2, 0), .null, [1065]))]), (50, [(42, (.ifCond .ne 7, (0, 0, 0), .null, [])), (45, (.iconst 1, (0, 0, 0), .null, [])), (46, (.goto 4, (0, 0, 0), .null, [])), (49, (.iconst 0, (0, 0, 0), .null, [])), (50, (.ireturn, (0, 0, 0), .null, []))])]
def ax_t56 : List (Nat × List (Nat × ax_E2)) := [(9, [(0, (.aload_n 0, (0, 0, 0), .null, [])), (1, (.aload_n 0, (0, 0, 0), .null, [])), (2, (.invokevirtual 68, (60, 0, 6), .null, [3023, 10])), (5, (.invokevirtual 71, (57, 1, 6), .null, [3027, 11])), (8, (.istore_n 1, (0, 0, 0), .null, [])), (9, (.iconst 0, (0, 0, 0), .null, []))]), (19, [(10, (.istore_n 2, (0, 0, 0), .null, [])), (11, (.iload_n 2, (0, 0, 0), .null, [])), (12, (.sipush 200, (0, 0, 0), .null, [])), (15, (.if_icmp .ge 55, (0, 0, 0), .null, [])), (18, (.iload_n 1, (0, 0, 0), .null, [])), (19, (.ifCond .eq 51, (0, 0, 0), .null, []))]), (31, [(22, (.aload_n 0, (0, 0, 0), .null, [])), (23, (.getfield 65, (6, 2, 0), .null, [1065])), (26, (.iconst 4, (0, 0, 0), .null, [])), (27, (.if_icmp .eq 13, (0, 0, 0), .null, [])), (30, (.aload_n 0, (0, 0, 0), .null, [])), (31, (.getfield 65, (6, 2, 0), .null, [1065]))]), (41, [(34, (.iconst 5, (0, 0, 0), .null, [])), (35, (.if_icmp .eq 5, (0, 0, 0), .null, [])), (38, (.iconst 1, (0, 0, 0), .null, [])), (39, (.ireturn, (0, 0, 0), .null, [])), (40, (.aload_n 0, (0, 0, 0), .null, [])), (41, (.getfield 65, (6, 2, 0), .null, [1065]))]), (53, [(44, (.iconst 5, (0, 0, 0), .null, [])), (45, (.if_icmp .ne 7, (0, 0, 0), .null, [])), (48, (.iconst 1, (0, 0, 0), .null, [])), (49, (.goto 4, (0, 0, 0), .null, [])), (52, (.iconst 0, (0, 0, 0), .null, [])), (53, (.istore_n 3, (0, 0, 0), .null, []))]), (63, [(54, (.aload_n 0, (0, 0, 0), .null, [])), (55, (.invokevirtual 52, (61, 0, 6), .null, [2236, 5])), (58, (.aload_n 0, (0, 0, 0), .null, [])), (59, (.iload_n 3, (0, 0, 0), .null, [])), (60, (.invokevirtual 71, (57, 1, 6), .null, [3027, 11])), (63, (.istore_n 1, (0, 0, 0), .null, []))]), (71, [(64, (.iinc 2 1, (0, 0, 0), .null, [])), (67, (.goto (-56), (0, 0, 0), .null, [])), (70, (.iload_n 1, (0, 0, 0), .null, [])), (71, (.ireturn, (0, 0, 0), .null, []))])]
def ax_t57 : List (Nat × List (Nat × ax_E2)) := [(10, [(0, (.iconst 1, (0, 0, 0), .null, [])), (1, (.istore_n 2, (0, 0, 0), .null, [])), (2, (.aload_n 0, (0, 0, 0), .null, [])), (3, (.getfield 65, (6, 2, 0), .null, [1065])), (6, (.iconst 2, (0, 0, 0), .null, [])), (7, (.if_icmp .ne 12, (0, 0, 0), .null, [])), (10, (.aload_n 0, (0, 0, 0), .null, []))]), (21, [(11, (.getfield 77, (6, 4, 0), .null, [1068])), (14, (.istore_n 2, (0, 0, 0), .null, [])), (15, (.aload_n 0, (0, 0, 0), .null, [])), (16, (.invokevirtual 52, (61, 0, 6), .null, [2236, 5])), (19, (.iconst 0, (0, 0, 0), .null, [])), (20, (.istore_n 3, (0, 0, 0), .null, [])), (21, (.aload_n 0, (0, 0, 0), .null, []))]), (33, [(22, (.getfield 65, (6, 2, 0), .null, [1065])), (25, (.bipush 6, (0, 0, 0), .null, [])), (27, (.if_icmp .ne 9, (0, 0, 0), .null, [])), (30, (.iconst 1, (0, 0, 0), .null, [])), (31, (.istore_n 3, (0, 0, 0), .null, [])), (32, (.aload_n 0, (0, 0, 0), .null, [])), (33, (.invokevirtual 52, (61, 0, 6), .null, [2236, 5]))]), (46, [(36, (.aload_n 0, (0, 0, 0), .null, [])), (37, (.getfield 65, (6, 2, 0), .null, [1065])), (40, (.iconst 3, (0, 0, 0), .null, [])), (41, (.if_icmp .eq 5, (0, 0, 0), .null, [])), (44, (.iconst 0, (0, 0, 0), .null, [])), (45, (.ireturn, (0, 0, 0), .null, [])), (46, (.aload_n 0, (0, 0, 0), .null, []))]), (57, [(47, (.getfield 9, (6, 6, 0), .null, [1070])), (50, (.iconst 2, (0, 0, 0), .null, [])), (51, (.aload_n 0, (0, 0, 0), .null, [])), (52, (.getfield 80, (6, 5, 0), .null, [1069])), (55, (.imul, (0, 0, 0), .null, [])), (56, (.iload_n 3, (0, 0, 0), .null, [])), (57, (.iadd, (0, 0, 0), .null, []))]), (66, [(58, (.dup2, (0, 0, 0), .null, [])), (59, (.iaload, (0, 0, 0), .null, [])), (60, (.iload_n 1, (0, 0, 0), .null, [])), (61, (.ifCond .eq 8, (0, 0, 0), .null, [])), (64, (.iload_n 2, (0, 0, 0), .null, [])), (65, (.ineg, (0, 0, 0), .null, [])), (66, (.goto 4, (0, 0, 0), .null, []))]), (77, [(69, (.iload_n 2, (0, 0, 0), .null, [])), (70, (.iadd, (0, 0, 0), .null, [])), (71, (.iastore, (0, 0, 0), .null, [])), (72, (.aload_n 0, (0, 0, 0), .null, [])), (73, (.invokevirtual 52, (61, 0, 6), .null, [2236, 5])), (76, (.iconst 1, (0, 0, 0), .null, [])), (77, (.ireturn, (0, 0, 0), .null, []))])]
def ax_t58 : List (Nat × List (Nat × ax_E2)) := [(9, [(0, (.aload_n 0, (0, 0, 0), .null, [])), (1, (.getfield 65, (6, 2, 0), .null, [1065])), (4, (.bipush 7, (0, 0, 0), .null, [])), (6, (.if_icmp .eq 23, (0, 0, 0), .null, [])), (9, (.aload_n 0, (0, 0, 0), .null, []))]), (19, [(10, (.getfield 65, (6, 2, 0), .null, [1065])), (13, (.bipush 8, (0, 0, 0), .null, [])), (15, (.if_icmp .eq 14, (0, 0, 0), .null, [])), (18, (.aload_n 0, (0, 0, 0), .null, [])), (19, (.getfield 65, (6, 2, 0), .null, [1065]))]), (29, [(22, (.bipush 9, (0, 0, 0), .null, [])), (24, (.if_icmp .eq 5, (0, 0, 0), .null, [])), (27, (.iconst 0, (0, 0, 0), .null, [])), (28, (.ireturn, (0, 0, 0), .null, [])), (29, (.aload_n 0, (0, 0, 0), .null, []))]), (38, [(30, (.aload_n 0, (0, 0, 0), .null, [])), (31, (.getfield 65, (6, 2, 0), .null, [1065])), (34, (.putfield 19, (6, 7, 0), .null, [1071])), (37, (.aload_n 0, (0, 0, 0), .null, [])), (38, (.invokevirtual 52, (61, 0, 6), .null, [2236, 5]))]), (42, [(41, (.iconst 1, (0, 0, 0), .null, [])), (42, (.ireturn, (0, 0, 0), .null, []))])]
def ax_t59 : List (Nat × List (Nat × ax_E2)) := [(6, [(0, (.aload_n 0, (0, 0, 0), .null, [])), (1, (.invokevirtual 68, (60, 0, 6), .null, [3023, 10])), (4, (.istore_n 1, (0, 0, 0), .null, [])), (5, (.aload_n 0, (0, 0, 0), .null, [])), (6, (.getfield 65, (6, 2, 0), .null, [1065]))]), (15, [(9, (.iconst 2, (0, 0, 0), .null, [])), (10, (.if_icmp .eq 5, (0, 0, 0), .null, [])), (13, (.iconst 0, (0, 0, 0), .null, [])), (14, (.ireturn, (0, 0, 0), .null, [])), (15, (.aload_n 0, (0, 0, 0), .null, []))]), (24, [(16, (.iload_n 1, (0, 0, 0), .null, [])), (17, (.ifCond .eq 11, (0, 0, 0), .null, [])), (20, (.aload_n 0, (0, 0, 0), .null, [])), (21, (.getfield 77, (6, 4, 0), .null, [1068])), (24, (.ineg, (0, 0, 0), .null, []))]), (35, [(25, (.goto 7, (0, 0, 0), .null, [])), (28, (.aload_n 0, (0, 0, 0), .null, [])), (29, (.getfield 77, (6, 4, 0), .null, [1068])), (32, (.putfield 32, (6, 8, 0), .null, [1072])), (35, (.aload_n 0, (0, 0, 0), .null, []))]), (40, [(36, (.invokevirtual 52, (61, 0, 6), .null, [2236, 5])), (39, (.iconst 1, (0, 0, 0), .null, [])), (40, (.ireturn, (0, 0, 0), .null, []))])]
def ax_t60 : List (Nat × List (Nat × ax_E2)) := [(5, [(0, (.aload_n 0, (0, 0, 0), .null, [])), (1, (.getfield 65, (6, 2, 0), .null, [1065])), (4, (.iconst 5, (0, 0, 0), .null, [])), (5, (.if_icmp .eq 5, (0, 0, 0), .null, []))]), (11, [(8, (.iconst 0, (0, 0, 0), .null, [])), (9, (.ireturn, (0, 0, 0), .null, [])), (10, (.aload_n 0, (0, 0, 0), .null, [])), (11, (.invokevirtual 52, (61, 0, 6), .null, [2236, 5]))]), (15, [(14, (.iconst 1, (0, 0, 0), .null, [])), (15, (.ireturn, (0, 0, 0), .null, []))])]
def ax_t61 : List (Nat × List (Nat × ax_E2)) := [(14, [(0, (.aload_n 0, (0, 0, 0), .null, [])), (1, (.getfield 49, (6, 1, 0), .null, [1064])), (4, (.sipush 200, (0, 0, 0), .null, [])), (7, (.if_icmp .ge 32, (0, 0, 0), .null, [])), (10, (.aload_n 0, (0, 0, 0), .null, [])), (11, (.getfield 15, (6, 0, 0), .null, [1063])), (14, (.aload_n 0, (0, 0, 0), .null, []))]), (28, [(15, (.getfield 49, (6, 1, 0), .null, [1064])), (18, (.invokevirtual 83, (68, 1, 7), .null, [3000, 3002])), (21, (.bipush 32, (0, 0, 0), .null, [])), (23, (.if_icmp .ne 16, (0, 0, 0), .null, [])), (26, (.aload_n 0, (0, 0, 0), .null, [])), (27, (.dup, (0, 0, 0), .null, [])), (28, (.getfield 49, (6, 1, 0), .null, [1064]))]), (41, [(31, (.iconst 1, (0, 0, 0), .null, [])), (32, (.iadd, (0, 0, 0), .null, [])), (33, (.putfield 49, (6, 1, 0), .null, [1064])), (36, (.goto (-36), (0, 0, 0), .null, [])), (39, (.aload_n 0, (0, 0, 0), .null, [])), (40, (.aload_n 0, (0, 0, 0), .null, [])), (41, (.getfield 49, (6, 1, 0), .null, [1064]))]), (58, [(44, (.putfield 87, (6, 3, 0), .null, [1066])), (47, (.aload_n 0, (0, 0, 0), .null, [])), (48, (.getfield 15, (6, 0, 0), .null, [1063])), (51, (.aload_n 0, (0, 0, 0), .null, [])), (52, (.getfield 49, (6, 1, 0), .null, [1064])), (55, (.invokevirtual 83, (68, 1, 7), .null, [3000, 3002])), (58, (.istore_n 1, (0, 0, 0), .null, []))]), (73, [(59, (.iload_n 1, (0, 0, 0), .null, [])), (60, (.invokestatic 90, (65, 1, 0), .null, [3004])), (63, (.ifCond .eq 10, (0, 0, 0), .null, [])), (66, (.aload_n 0, (0, 0, 0), .null, [])), (67, (.invokevirtual 94, (62, 0, 6), .null, [3007, 6])), (70, (.goto 37, (0, 0, 0), .null, [])), (73, (.iload_n 1, (0, 0, 0), .null, []))]), (86, [(74, (.bipush 97, (0, 0, 0), .null, [])), (76, (.if_icmp .lt 26, (0, 0, 0), .null, [])), (79, (.iload_n 1, (0, 0, 0), .null, [])), (80, (.bipush 108, (0, 0, 0), .null, [])), (82, (.if_icmp .gt 20, (0, 0, 0), .null, [])), (85, (.aload_n 0, (0, 0, 0), .null, [])), (86, (.iload_n 1, (0, 0, 0), .null, []))]), (96, [(87, (.bipush 97, (0, 0, 0), .null, [])), (89, (.isub, (0, 0, 0), .null, [])), (90, (.putfield 80, (6, 5, 0), .null, [1069])), (93, (.aload_n 0, (0, 0, 0), .null, [])), (94, (.iconst 3, (0, 0, 0), .null, [])), (95, (.iconst 1, (0, 0, 0), .null, [])), (96, (.invokevirtual 97, (64, 2, 6), .null, [3011, 7]))]), (107, [(99, (.goto 8, (0, 0, 0), .null, [])), (102, (.aload_n 0, (0, 0, 0), .null, [])), (103, (.iload_n 1, (0, 0, 0), .null, [])), (104, (.invokevirtual 101, (63, 1, 6), .null, [3015, 8])), (107, (.return_, (0, 0, 0), .null, []))])]
def ax_t62 : List (Nat × List (Nat × ax_E2)) := [(8, [(0, (.iconst 0, (0, 0, 0), .null, [])), (1, (.istore_n 1, (0, 0, 0), .null, [])), (2, (.aload_n 0, (0, 0, 0), .null, [])), (3, (.iconst 0, (0, 0, 0), .null, [])), (4, (.putfield 77, (6, 4, 0), .null, [1068])), (7, (.aload_n 0, (0, 0, 0), .null, [])), (8, (.getfield 49, (6, 1, 0), .null, [1064]))]), (25, [(11, (.sipush 200, (0, 0, 0), .null, [])), (14, (.if_icmp .ge 68, (0, 0, 0), .null, [])), (17, (.aload_n 0, (0, 0, 0), .null, [])), (18, (.getfield 15, (6, 0, 0), .null, [1063])), (21, (.aload_n 0, (0, 0, 0), .null, [])), (22, (.getfield 49, (6, 1, 0), .null, [1064])), (25, (.invokevirtual 83, (68, 1, 7), .null, [3000, 3002]))]), (41, [(28, (.invokestatic 90, (65, 1, 0), .null, [3004])), (31, (.ifCond .eq 51, (0, 0, 0), .null, [])), (34, (.iload_n 1, (0, 0, 0), .null, [])), (35, (.bipush 6, (0, 0, 0), .null, [])), (37, (.if_icmp .ge 29, (0, 0, 0), .null, [])), (40, (.aload_n 0, (0, 0, 0), .null, [])), (41, (.aload_n 0, (0, 0, 0), .null, []))]), (53, [(42, (.getfield 77, (6, 4, 0), .null, [1068])), (45, (.bipush 10, (0, 0, 0), .null, [])), (47, (.imul, (0, 0, 0), .null, [])), (48, (.aload_n 0, (0, 0, 0), .null, [])), (49, (.getfield 15, (6, 0, 0), .null, [1063])), (52, (.aload_n 0, (0, 0, 0), .null, [])), (53, (.getfield 49, (6, 1, 0), .null, [1064]))]), (69, [(56, (.invokevirtual 83, (68, 1, 7), .null, [3000, 3002])), (59, (.iadd, (0, 0, 0), .null, [])), (60, (.bipush 48, (0, 0, 0), .null, [])), (62, (.isub, (0, 0, 0), .null, [])), (63, (.putfield 77, (6, 4, 0), .null, [1068])), (66, (.iinc 1 1, (0, 0, 0), .null, [])), (69, (.aload_n 0, (0, 0, 0), .null, []))]), (82, [(70, (.dup, (0, 0, 0), .null, [])), (71, (.getfield 49, (6, 1, 0), .null, [1064])), (74, (.iconst 1, (0, 0, 0), .null, [])), (75, (.iadd, (0, 0, 0), .null, [])), (76, (.putfield 49, (6, 1, 0), .null, [1064])), (79, (.goto (-72), (0, 0, 0), .null, [])), (82, (.aload_n 0, (0, 0, 0), .null, []))]), (94, [(83, (.iload_n 1, (0, 0, 0), .null, [])), (84, (.bipush 6, (0, 0, 0), .null, [])), (86, (.if_icmp .gt 7, (0, 0, 0), .null, [])), (89, (.iconst 2, (0, 0, 0), .null, [])), (90, (.goto 4, (0, 0, 0), .null, [])), (93, (.iconst 1, (0, 0, 0), .null, [])), (94, (.putfield 65, (6, 2, 0), .null, [1065]))]), (97, [(97, (.return_, (0, 0, 0), .null, []))])]
def ax_t63 : List (Nat × List (Nat × ax_E2)) := [(15, [(0, (.aload_n 0, (0, 0, 0), .null, [])), (1, (.getfield 15, (6, 0, 0), .null, [1063])), (4, (.aload_n 0, (0, 0, 0), .null, [])), (5, (.getfield 49, (6, 1, 0), .null, [1064])), (8, (.iconst 1, (0, 0, 0), .null, [])), (9, (.iadd, (0, 0, 0), .null, [])), (10, (.invokevirtual 83, (68, 1, 7), .null, [3000, 3002])), (13, (.bipush 61, (0, 0, 0), .null, [])), (15, (.if_icmp .ne 7, (0, 0, 0), .null, []))]), (30, [(18, (.iconst 1, (0, 0, 0), .null, [])), (19, (.goto 4, (0, 0, 0), .null, [])), (22, (.iconst 0, (0, 0, 0), .null, [])), (23, (.istore_n 2, (0, 0, 0), .null, [])), (24, (.iload_n 1, (0, 0, 0), .null, [])), (25, (.ifCond .ge 12, (0, 0, 0), .null, [])), (28, (.aload_n 0, (0, 0, 0), .null, [])), (29, (.iconst 0, (0, 0, 0), .null, [])), (30, (.iconst 0, (0, 0, 0), .null, []))]), (46, [(31, (.invokevirtual 97, (64, 2, 6), .null, [3011, 7])), (34, (.goto 111, (0, 0, 0), .null, [])), (37, (.iload_n 1, (0, 0, 0), .null, [])), (38, (.bipush 43, (0, 0, 0), .null, [])), (40, (.if_icmp .ne 12, (0, 0, 0), .null, [])), (43, (.aload_n 0, (0, 0, 0), .null, [])), (44, (.iconst 4, (0, 0, 0), .null, [])), (45, (.iconst 1, (0, 0, 0), .null, [])), (46, (.invokevirtual 97, (64, 2, 6), .null, [3011, 7]))]), (64, [(49, (.goto 96, (0, 0, 0), .null, [])), (52, (.iload_n 1, (0, 0, 0), .null, [])), (53, (.bipush 45, (0, 0, 0), .null, [])), (55, (.if_icmp .ne 12, (0, 0, 0), .null, [])), (58, (.aload_n 0, (0, 0, 0), .null, [])), (59, (.iconst 5, (0, 0, 0), .null, [])), (60, (.iconst 1, (0, 0, 0), .null, [])), (61, (.invokevirtual 97, (64, 2, 6), .null, [3011, 7])), (64, (.goto 81, (0, 0, 0), .null, []))]), (83, [(67, (.iload_n 1, (0, 0, 0), .null, [])), (68, (.bipush 126, (0, 0, 0), .null, [])), (70, (.if_icmp .ne 13, (0, 0, 0), .null, [])), (73, (.aload_n 0, (0, 0, 0), .null, [])), (74, (.bipush 6, (0, 0, 0), .null, [])), (76, (.iconst 1, (0, 0, 0), .null, [])), (77, (.invokevirtual 97, (64, 2, 6), .null, [3011, 7])), (80, (.goto 65, (0, 0, 0), .null, [])), (83, (.iload_n 1, (0, 0, 0), .null, []))]), (100, [(84, (.bipush 61, (0, 0, 0), .null, [])), (86, (.if_icmp .ne 13, (0, 0, 0), .null, [])), (89, (.aload_n 0, (0, 0, 0), .null, [])), (90, (.bipush 9, (0, 0, 0), .null, [])), (92, (.iconst 1, (0, 0, 0), .null, [])), (93, (.invokevirtual 97, (64, 2, 6), .null, [3011, 7])), (96, (.goto 49, (0, 0, 0), .null, [])), (99, (.iload_n 1, (0, 0, 0), .null, [])), (100, (.bipush 62, (0, 0, 0), .null, []))]), (119, [(102, (.if_icmp .ne 17, (0, 0, 0), .null, [])), (105, (.iload_n 2, (0, 0, 0), .null, [])), (106, (.ifCond .eq 13, (0, 0, 0), .null, [])), (109, (.aload_n 0, (0, 0, 0), .null, [])), (110, (.bipush 7, (0, 0, 0), .null, [])), (112, (.iconst 2, (0, 0, 0), .null, [])), (113, (.invokevirtual 97, (64, 2, 6), .null, [3011, 7])), (116, (.goto 29, (0, 0, 0), .null, [])), (119, (.iload_n 1, (0, 0, 0), .null, []))]), (136, [(120, (.bipush 60, (0, 0, 0), .null, [])), (122, (.if_icmp .ne 17, (0, 0, 0), .null, [])), (125, (.iload_n 2, (0, 0, 0), .null, [])), (126, (.ifCond .eq 13, (0, 0, 0), .null, [])), (129, (.aload_n 0, (0, 0, 0), .null, [])), (130, (.bipush 8, (0, 0, 0), .null, [])), (132, (.iconst 2, (0, 0, 0), .null, [])), (133, (.invokevirtual 97, (64, 2, 6), .null, [3011, 7])), (136, (.goto 9, (0, 0, 0), .null, []))]), (145, [(139, (.aload_n 0, (0, 0, 0), .null, [])), (140, (.iconst 1, (0, 0, 0), .null, [])), (141, (.iconst 0, (0, 0, 0), .null, [])), (142, (.invokevirtual 97, (64, 2, 6), .null, [3011, 7])), (145, (.return_, (0, 0, 0), .null, []))])]
def ax_t64 : List (Nat × List (Nat × ax_E2)) := [(5, [(0, (.aload_n 0, (0, 0, 0), .null, [])), (1, (.iload_n 1, (0, 0, 0), .null, [])), (2, (.putfield 65, (6, 2, 0), .null, [1065])), (5, (.aload_n 0, (0, 0, 0), .null, []))]), (11, [(6, (.dup, (0, 0, 0), .null, [])), (7, (.getfield 49, (6, 1, 0), .null, [1064])), (10, (.iload_n 2, (0, 0, 0), .null, [])), (11, (.iadd, (0, 0, 0), .null, []))]), (15, [(12, (.putfield 49, (6, 1, 0), .null, [1064])), (15, (.return_, (0, 0, 0), .null, []))])]
def ax_t65 : List (Nat × List (Nat × ax_E2)) := [(6, [(0, (.iload_n 0, (0, 0, 0), .null, [])), (1, (.bipush 48, (0, 0, 0), .null, [])), (3, (.if_icmp .lt 13, (0, 0, 0), .null, [])), (6, (.iload_n 0, (0, 0, 0), .null, []))]), (13, [(7, (.bipush 57, (0, 0, 0), .null, [])), (9, (.if_icmp .gt 7, (0, 0, 0), .null, [])), (12, (.iconst 1, (0, 0, 0), .null, [])), (13, (.goto 4, (0, 0, 0), .null, []))]), (17, [(16, (.iconst 0, (0, 0, 0), .null, [])), (17, (.ireturn, (0, 0, 0), .null, []))])]
def ax_t66 : List (Nat × List (Nat × ax_E2)) := [(5, [(0, (.aload_n 0, (0, 0, 0), .null, [])), (1, (.invokespecial 1, (0, 0, 2), .null, [1047])), (4, (.aload_n 0, (0, 0, 0), .null, [])), (5, (.sipush 200, (0, 0, 0), .null, []))]), (14, [(8, (.newarray .int, (0, 0, 0), .null, [1056])), (10, (.putfield 9, (7, 0, 0), .null, [1048])), (13, (.aload_n 0, (0, 0, 0), .null, [])), (14, (.iconst 0, (0, 0, 0), .null, []))]), (18, [(15, (.putfield 13, (7, 1, 0), .null, [1049])), (18, (.return_, (0, 0, 0), .null, []))])]
def ax_t67 : List (Nat × List (Nat × ax_E2)) := [(7, [(0, (.bipush 24, (0, 0, 0), .null, [])), (2, (.istore_n 2, (0, 0, 0), .null, [])), (3, (.iload_n 2, (0, 0, 0), .null, [])), (4, (.ifCond .lt 45, (0, 0, 0), .null, [])), (7, (.aload_n 0, (0, 0, 0), .null, []))]), (18, [(8, (.getfield 13, (7, 1, 0), .null, [1049])), (11, (.sipush 200, (0, 0, 0), .null, [])), (14, (.if_icmp .ge 35, (0, 0, 0), .null, [])), (17, (.aload_n 0, (0, 0, 0), .null, [])), (18, (.getfield 9, (7, 0, 0), .null, [1048]))]), (27, [(21, (.aload_n 0, (0, 0, 0), .null, [])), (22, (.getfield 13, (7, 1, 0), .null, [1049])), (25, (.iload_n 1, (0, 0, 0), .null, [])), (26, (.iload_n 2, (0, 0, 0), .null, [])), (27, (.ishr, (0, 0, 0), .null, []))]), (34, [(28, (.sipush 255, (0, 0, 0), .null, [])), (31, (.iand, (0, 0, 0), .null, [])), (32, (.iastore, (0, 0, 0), .null, [])), (33, (.aload_n 0, (0, 0, 0), .null, [])), (34, (.dup, (0, 0, 0), .null, []))]), (43, [(35, (.getfield 13, (7, 1, 0), .null, [1049])), (38, (.iconst 1, (0, 0, 0), .null, [])), (39, (.iadd, (0, 0, 0), .null, [])), (40, (.putfield 13, (7, 1, 0), .null, [1049])), (43, (.iinc 2 (-8), (0, 0, 0), .null, []))]), (49, [(46, (.goto (-43), (0, 0, 0), .null, [])), (49, (.return_, (0, 0, 0), .null, []))])]
def ax_t68 : List (Nat × List (Nat × ax_E2)) := [(5, [(0, (.iload_n 1, (0, 0, 0), .null, [])), (1, (.ifCond .lt 20, (0, 0, 0), .null, [])), (4, (.iload_n 1, (0, 0, 0), .null, [])), (5, (.aload_n 0, (0, 0, 0), .null, []))]), (13, [(6, (.getfield 13, (7, 1, 0), .null, [1049])), (9, (.if_icmp .ge 12, (0, 0, 0), .null, [])), (12, (.aload_n 0, (0, 0, 0), .null, [])), (13, (.getfield 9, (7, 0, 0), .null, [1048]))]), (21, [(16, (.iload_n 1, (0, 0, 0), .null, [])), (17, (.iaload, (0, 0, 0), .null, [])), (18, (.goto 4, (0, 0, 0), .null, [])), (21, (.iconst (-1), (0, 0, 0), .null, []))]), (22, [(22, (.ireturn, (0, 0, 0), .null, []))])]
def ax_t69 : List (Nat × List (Nat × ax_E2)) := [(20, [(0, (.aload_n 0, (0, 0, 0), .null, [])), (1, (.invokespecial 1, (0, 0, 2), .null, [1039])), (4, (.aload_n 0, (0, 0, 0), .null, [])), (5, (.new 7, (7, 0, 0), .null, [1042, 1043, 1002])), (8, (.dup, (0, 0, 0), .null, [])), (9, (.invokespecial 9, (66, 0, 1), .null, [])), (12, (.putfield 10, (8, 0, 0), .null, [1228])), (15, (.aload_n 0, (0, 0, 0), .null, [])), (16, (.new 16, (6, 0, 0), .null, [1057, 1058, 1003])), (19, (.dup, (0, 0, 0), .null, [])), (20, (.aload_n 0, (0, 0, 0), .null, []))]), (43, [(21, (.getfield 10, (8, 0, 0), .null, [1228])), (24, (.invokespecial 18, (48, 1, 0), .null, [1059])), (27, (.putfield 21, (8, 1, 0), .null, [1229])), (30, (.aload_n 0, (0, 0, 0), .null, [])), (31, (.iconst (-1), (0, 0, 0), .null, [])), (32, (.putfield 25, (8, 2, 0), .null, [1230])), (35, (.aload_n 0, (0, 0, 0), .null, [])), (36, (.new 29, (10, 0, 0), .null, [1092, 1093, 1005])), (39, (.dup, (0, 0, 0), .null, [])), (40, (.invokespecial 31, (256, 0, 0), .null, [1094])), (43, (.putfield 32, (8, 3, 0), .null, [1231]))]), (65, [(46, (.aload_n 0, (0, 0, 0), .null, [])), (47, (.bipush 60, (0, 0, 0), .null, [])), (49, (.anewarray 36, (4, 0, 0), .null, [1125])), (52, (.putfield 38, (8, 4, 0), .null, [1232])), (55, (.aload_n 0, (0, 0, 0), .null, [])), (56, (.iconst 0, (0, 0, 0), .null, [])), (57, (.putfield 42, (8, 5, 0), .null, [1233])), (60, (.aload_n 0, (0, 0, 0), .null, [])), (61, (.new 45, (2, 0, 0), .null, [1127, 1128, 1008])), (64, (.dup, (0, 0, 0), .null, [])), (65, (.invokespecial 47, (19, 0, 1), .null, []))]), (90, [(68, (.putfield 48, (8, 6, 0), .null, [1234])), (71, (.aload_n 0, (0, 0, 0), .null, [])), (72, (.new 36, (1, 0, 0), .null, [1125, 1145, 1009])), (75, (.dup, (0, 0, 0), .null, [])), (76, (.invokespecial 52, (6, 0, 1), .null, [])), (79, (.putfield 53, (8, 7, 0), .null, [1235])), (82, (.aload_n 0, (0, 0, 0), .null, [])), (83, (.new 57, (4, 0, 0), .null, [1165, 1166, 1010])), (86, (.dup, (0, 0, 0), .null, [])), (87, (.invokespecial 59, (34, 0, 1), .null, [])), (90, (.putfield 60, (8, 8, 0), .null, [1236]))]), (115, [(93, (.aload_n 0, (0, 0, 0), .null, [])), (94, (.new 64, (3, 0, 0), .null, [1178, 1179, 1011])), (97, (.dup, (0, 0, 0), .null, [])), (98, (.invokespecial 66, (28, 0, 1), .null, [])), (101, (.putfield 67, (8, 9, 0), .null, [1237])), (104, (.aload_n 0, (0, 0, 0), .null, [])), (105, (.new 71, (0, 0, 0), .null, [1193, 1194, 1012])), (108, (.dup, (0, 0, 0), .null, [])), (109, (.invokespecial 73, (0, 0, 0), .null, [1195])), (112, (.putfield 74, (8, 10, 0), .null, [1238])), (115, (.aload_n 0, (0, 0, 0), .null, []))]), (138, [(116, (.new 64, (3, 0, 0), .null, [1178, 1179, 1011])), (119, (.dup, (0, 0, 0), .null, [])), (120, (.invokespecial 66, (28, 0, 1), .null, [])), (123, (.putfield 78, (8, 11, 0), .null, [1239])), (126, (.aload_n 0, (0, 0, 0), .null, [])), (127, (.new 64, (3, 0, 0), .null, [1178, 1179, 1011])), (130, (.dup, (0, 0, 0), .null, [])), (131, (.invokespecial 66, (28, 0, 1), .null, [])), (134, (.putfield 81, (8, 12, 0), .null, [2000])), (137, (.aload_n 0, (0, 0, 0), .null, [])), (138, (.bipush 12, (0, 0, 0), .null, []))]), (162, [(140, (.newarray .int, (0, 0, 0), .null, [1056])), (142, (.putfield 84, (8, 13, 0), .null, [2001])), (145, (.aload_n 0, (0, 0, 0), .null, [])), (146, (.bipush 9, (0, 0, 0), .null, [])), (148, (.anewarray 88, (5, 0, 0), .null, [1212])), (151, (.putfield 90, (8, 14, 0), .null, [2002])), (154, (.aload_n 0, (0, 0, 0), .null, [])), (155, (.bipush 8, (0, 0, 0), .null, [])), (157, (.newarray .int, (0, 0, 0), .null, [1056])), (159, (.putfield 94, (8, 15, 0), .null, [2003])), (162, (.aload_n 0, (0, 0, 0), .null, []))]), (181, [(163, (.bipush 8, (0, 0, 0), .null, [])), (165, (.anewarray 64, (6, 0, 0), .null, [1178])), (168, (.putfield 97, (8, 16, 0), .null, [2004])), (171, (.aload_n 0, (0, 0, 0), .null, [])), (172, (.iconst 0, (0, 0, 0), .null, [])), (173, (.putfield 101, (8, 17, 0), .null, [2005])), (176, (.iconst 0, (0, 0, 0), .null, [])), (177, (.istore_n 1, (0, 0, 0), .null, [])), (178, (.iload_n 1, (0, 0, 0), .null, [])), (179, (.bipush 60, (0, 0, 0), .null, [])), (181, (.if_icmp .ge 22, (0, 0, 0), .null, []))]), (204, [(184, (.aload_n 0, (0, 0, 0), .null, [])), (185, (.getfield 38, (8, 4, 0), .null, [1232])), (188, (.iload_n 1, (0, 0, 0), .null, [])), (189, (.new 36, (1, 0, 0), .null, [1125, 1145, 1009])), (192, (.dup, (0, 0, 0), .null, [])), (193, (.invokespecial 52, (6, 0, 1), .null, [])), (196, (.aastore, (0, 0, 0), .null, [])), (197, (.iinc 1 1, (0, 0, 0), .null, [])), (200, (.goto (-22), (0, 0, 0), .null, [])), (203, (.iconst 0, (0, 0, 0), .null, [])), (204, (.istore_n 1, (0, 0, 0), .null, []))]), (224, [(205, (.iload_n 1, (0, 0, 0), .null, [])), (206, (.bipush 8, (0, 0, 0), .null, [])), (208, (.if_icmp .gt 22, (0, 0, 0), .null, [])), (211, (.aload_n 0, (0, 0, 0), .null, [])), (212, (.getfield 90, (8, 14, 0), .null, [2002])), (215, (.iload_n 1, (0, 0, 0), .null, [])), (216, (.new 88, (5, 0, 0), .null, [1212, 1215, 1014])), (219, (.dup, (0, 0, 0), .null, [])), (220, (.invokespecial 104, (40, 0, 0), .null, [1216])), (223, (.aastore, (0, 0, 0), .null, [])), (224, (.iinc 1 1, (0, 0, 0), .null, []))]), (246, [(227, (.goto (-22), (0, 0, 0), .null, [])), (230, (.iconst 0, (0, 0, 0), .null, [])), (231, (.istore_n 1, (0, 0, 0), .null, [])), (232, (.iload_n 1, (0, 0, 0), .null, [])), (233, (.bipush 8, (0, 0, 0), .null, [])), (235, (.if_icmp .ge 22, (0, 0, 0), .null, [])), (238, (.aload_n 0, (0, 0, 0), .null, [])), (239, (.getfield 97, (8, 16, 0), .null, [2004])), (242, (.iload_n 1, (0, 0, 0), .null, [])), (243, (.new 64, (3, 0, 0), .null, [1178, 1179, 1011])), (246, (.dup, (0, 0, 0), .null, []))]), (257, [(247, (.invokespecial 66, (28, 0, 1), .null, [])), (250, (.aastore, (0, 0, 0), .null, [])), (251, (.iinc 1 1, (0, 0, 0), .null, [])), (254, (.goto (-22), (0, 0, 0), .null, [])), (257, (.return_, (0, 0, 0), .null, []))])]
def ax_t70 : List (Nat × List (Nat × ax_E2)) := [(10, [(0, (.aload_n 0, (0, 0, 0), .null, [])), (1, (.getfield 10, (8, 0, 0), .null, [1228])), (4, (.getfield 105, (7, 1, 0), .null, [1050])), (7, (.bipush 20, (0, 0, 0), .null, [])), (9, (.iadd, (0, 0, 0), .null, [])), (10, (.sipush 200, (0, 0, 0), .null, []))]), (25, [(13, (.if_icmp .le 13, (0, 0, 0), .null, [])), (16, (.new 108, (800, 0, 0), .null, [])), (19, (.dup, (0, 0, 0), .null, [])), (20, (.ldc 110, (900, 0, 0), .null, [])), (22, (.invokespecial 112, (900, 0, 0), .null, [])), (25, (.athrow, (0, 0, 0), .null, []))]), (35, [(26, (.aload_n 0, (0, 0, 0), .null, [])), (27, (.getfield 10, (8, 0, 0), .null, [1228])), (30, (.iload_n 1, (0, 0, 0), .null, [])), (31, (.invokevirtual 115, (67, 1, 7), .null, [2196, 2198])), (34, (.aload_n 0, (0, 0, 0), .null, [])), (35, (.getfield 10, (8, 0, 0), .null, [1228]))]), (47, [(38, (.iload_n 2, (0, 0, 0), .null, [])), (39, (.invokevirtual 115, (67, 1, 7), .null, [2196, 2198])), (42, (.aload_n 0, (0, 0, 0), .null, [])), (43, (.getfield 10, (8, 0, 0), .null, [1228])), (46, (.iload_n 3, (0, 0, 0), .null, [])), (47, (.invokevirtual 115, (67, 1, 7), .null, [2196, 2198]))]), (60, [(50, (.aload_n 0, (0, 0, 0), .null, [])), (51, (.getfield 10, (8, 0, 0), .null, [1228])), (54, (.iload 4, (0, 0, 0), .null, [])), (56, (.invokevirtual 115, (67, 1, 7), .null, [2196, 2198])), (59, (.aload_n 0, (0, 0, 0), .null, [])), (60, (.getfield 10, (8, 0, 0), .null, [1228]))]), (75, [(63, (.iload 5, (0, 0, 0), .null, [])), (65, (.invokevirtual 115, (67, 1, 7), .null, [2196, 2198])), (68, (.aload_n 0, (0, 0, 0), .null, [])), (69, (.getfield 10, (8, 0, 0), .null, [1228])), (72, (.getfield 105, (7, 1, 0), .null, [1050])), (75, (.ireturn, (0, 0, 0), .null, []))])]
def ax_t71 : List (Nat × List (Nat × ax_E2)) := [(5, [(0, (.iload_n 1, (0, 0, 0), .null, [])), (1, (.ifCond .lt 14, (0, 0, 0), .null, [])), (4, (.iload_n 1, (0, 0, 0), .null, [])), (5, (.aload_n 0, (0, 0, 0), .null, []))]), (15, [(6, (.getfield 10, (8, 0, 0), .null, [1228])), (9, (.getfield 105, (7, 1, 0), .null, [1050])), (12, (.if_icmp .le 13, (0, 0, 0), .null, [])), (15, (.new 119, (801, 0, 0), .null, []))]), (24, [(18, (.dup, (0, 0, 0), .null, [])), (19, (.ldc 121, (900, 0, 0), .null, [])), (21, (.invokespecial 123, (900, 0, 0), .null, [])), (24, (.athrow, (0, 0, 0), .null, []))]), (30, [(25, (.aload_n 0, (0, 0, 0), .null, [])), (26, (.getfield 10, (8, 0, 0), .null, [1228])), (29, (.iload_n 1, (0, 0, 0), .null, [])), (30, (.putfield 105, (7, 1, 0), .null, [1050]))]), (34, [(33, (.iload_n 1, (0, 0, 0), .null, [])), (34, (.ireturn, (0, 0, 0), .null, []))])]
def ax_t72 : List (Nat × List (Nat × ax_E2)) := [(12, [(0, (.aload_n 0, (0, 0, 0), .null, [])), (1, (.aload_n 0, (0, 0, 0), .null, [])), (2, (.getfield 21, (8, 1, 0), .null, [1229])), (5, (.invokevirtual 124, (55, 0, 6), .null, [2231, 2233])), (8, (.invokevirtual 128, (117, 1, 8), .null, [3039, 14])), (11, (.aload_n 0, (0, 0, 0), .null, [])), (12, (.aload_n 0, (0, 0, 0), .null, []))]), (27, [(13, (.getfield 21, (8, 1, 0), .null, [1229])), (16, (.invokevirtual 132, (49, 0, 6), .null, [3044, 3046])), (19, (.ifCond .eq 7, (0, 0, 0), .null, [])), (22, (.iconst 2, (0, 0, 0), .null, [])), (23, (.goto 4, (0, 0, 0), .null, [])), (26, (.iconst 1, (0, 0, 0), .null, [])), (27, (.invokevirtual 135, (115, 1, 8), .null, [3048, 15]))]), (42, [(30, (.aload_n 0, (0, 0, 0), .null, [])), (31, (.getfield 42, (8, 5, 0), .null, [1233])), (34, (.istore_n 1, (0, 0, 0), .null, [])), (35, (.aload_n 0, (0, 0, 0), .null, [])), (36, (.getfield 21, (8, 1, 0), .null, [1229])), (39, (.invokevirtual 138, (50, 0, 6), .null, [3053, 3055])), (42, (.ifCond .eq 19, (0, 0, 0), .null, []))]), (57, [(45, (.aload_n 0, (0, 0, 0), .null, [])), (46, (.getfield 21, (8, 1, 0), .null, [1229])), (49, (.aload_n 0, (0, 0, 0), .null, [])), (50, (.getfield 48, (8, 6, 0), .null, [1234])), (53, (.invokevirtual 141, (52, 1, 6), .null, [3057, 3059])), (56, (.aload_n 0, (0, 0, 0), .null, [])), (57, (.invokevirtual 145, (119, 0, 8), .null, [3074, 17]))]), (72, [(60, (.pop, (0, 0, 0), .null, [])), (61, (.aload_n 0, (0, 0, 0), .null, [])), (62, (.getfield 21, (8, 1, 0), .null, [1229])), (65, (.invokevirtual 149, (51, 0, 6), .null, [3138, 3140])), (68, (.ifCond .eq 19, (0, 0, 0), .null, [])), (71, (.aload_n 0, (0, 0, 0), .null, [])), (72, (.getfield 21, (8, 1, 0), .null, [1229]))]), (87, [(75, (.aload_n 0, (0, 0, 0), .null, [])), (76, (.getfield 48, (8, 6, 0), .null, [1234])), (79, (.invokevirtual 152, (53, 1, 6), .null, [3142, 3144])), (82, (.aload_n 0, (0, 0, 0), .null, [])), (83, (.invokevirtual 145, (119, 0, 8), .null, [3074, 17])), (86, (.pop, (0, 0, 0), .null, [])), (87, (.iload_n 1, (0, 0, 0), .null, []))]), (88, [(88, (.ireturn, (0, 0, 0), .null, []))])]
def ax_t73 : List (Nat × List (Nat × ax_E2)) := [(11, [(0, (.aload_n 0, (0, 0, 0), .null, [])), (1, (.aload_n 0, (0, 0, 0), .null, [])), (2, (.getfield 21, (8, 1, 0), .null, [1229])), (5, (.invokevirtual 124, (55, 0, 6), .null, [2231, 2233])), (8, (.invokevirtual 128, (117, 1, 8), .null, [3039, 14])), (11, (.iconst 1, (0, 0, 0), .null, []))]), (23, [(12, (.istore_n 1, (0, 0, 0), .null, [])), (13, (.aload_n 0, (0, 0, 0), .null, [])), (14, (.getfield 21, (8, 1, 0), .null, [1229])), (17, (.invokevirtual 138, (50, 0, 6), .null, [3053, 3055])), (20, (.ifCond .eq 19, (0, 0, 0), .null, [])), (23, (.aload_n 0, (0, 0, 0), .null, []))]), (35, [(24, (.getfield 21, (8, 1, 0), .null, [1229])), (27, (.aload_n 0, (0, 0, 0), .null, [])), (28, (.getfield 48, (8, 6, 0), .null, [1234])), (31, (.invokevirtual 141, (52, 1, 6), .null, [3057, 3059])), (34, (.aload_n 0, (0, 0, 0), .null, [])), (35, (.invokevirtual 155, (120, 0, 8), .null, [3153, 20]))]), (47, [(38, (.istore_n 1, (0, 0, 0), .null, [])), (39, (.iload_n 1, (0, 0, 0), .null, [])), (40, (.ifCond .eq 29, (0, 0, 0), .null, [])), (43, (.aload_n 0, (0, 0, 0), .null, [])), (44, (.getfield 21, (8, 1, 0), .null, [1229])), (47, (.invokevirtual 149, (51, 0, 6), .null, [3138, 3140]))]), (61, [(50, (.ifCond .eq 19, (0, 0, 0), .null, [])), (53, (.aload_n 0, (0, 0, 0), .null, [])), (54, (.getfield 21, (8, 1, 0), .null, [1229])), (57, (.aload_n 0, (0, 0, 0), .null, [])), (58, (.getfield 48, (8, 6, 0), .null, [1234])), (61, (.invokevirtual 152, (53, 1, 6), .null, [3142, 3144]))]), (70, [(64, (.aload_n 0, (0, 0, 0), .null, [])), (65, (.invokevirtual 155, (120, 0, 8), .null, [3153, 20])), (68, (.istore_n 1, (0, 0, 0), .null, [])), (69, (.iload_n 1, (0, 0, 0), .null, [])), (70, (.ireturn, (0, 0, 0), .null, []))])]
def ax_t74 : List (Nat × List (Nat × ax_E2)) := [(4, [(0, (.aload_n 0, (0, 0, 0), .null, [])), (1, (.getfield 25, (8, 2, 0), .null, [1230])), (4, (.ireturn, (0, 0, 0), .null, []))])]
def ax_t75 : List (Nat × List (Nat × ax_E2)) := [(5, [(0, (.aload_n 0, (0, 0, 0), .null, [])), (1, (.iload_n 1, (0, 0, 0), .null, [])), (2, (.invokevirtual 158, (111, 1, 8), .null, [3192, 21])), (5, (.aload_n 0, (0, 0, 0), .null, []))]), (13, [(6, (.getfield 32, (8, 3, 0), .null, [1231])), (9, (.iconst 0, (0, 0, 0), .null, [])), (10, (.invokevirtual 161, (900, 0, 0), .null, [])), (13, (.aload_n 0, (0, 0, 0), .null, []))]), (19, [(14, (.getfield 38, (8, 4, 0), .null, [1232])), (17, (.iload_n 1, (0, 0, 0), .null, [])), (18, (.aaload, (0, 0, 0), .null, [])), (19, (.aload_n 0, (0, 0, 0), .null, []))]), (27, [(20, (.getfield 32, (8, 3, 0), .null, [1231])), (23, (.invokevirtual 164, (16, 1, 1), .null, [4224, 4226])), (26, (.aload_n 0, (0, 0, 0), .null, [])), (27, (.getfield 32, (8, 3, 0), .null, [1231]))]), (33, [(30, (.invokevirtual 168, (900, 0, 0), .null, [])), (33, (.ireturn, (0, 0, 0), .null, []))])]
def ax_t76 : List (Nat × List (Nat × ax_E2)) := [(5, [(0, (.iload_n 1, (0, 0, 0), .null, [])), (1, (.ifCond .lt 14, (0, 0, 0), .null, [])), (4, (.iload_n 1, (0, 0, 0), .null, [])), (5, (.aload_n 0, (0, 0, 0), .null, []))]), (15, [(6, (.getfield 32, (8, 3, 0), .null, [1231])), (9, (.invokevirtual 168, (900, 0, 0), .null, [])), (12, (.if_icmp .lt 13, (0, 0, 0), .null, [])), (15, (.new 170, (802, 0, 0), .null, []))]), (24, [(18, (.dup, (0, 0, 0), .null, [])), (19, (.ldc 172, (900, 0, 0), .null, [])), (21, (.invokespecial 174, (900, 0, 0), .null, [])), (24, (.athrow, (0, 0, 0), .null, []))]), (30, [(25, (.aload_n 0, (0, 0, 0), .null, [])), (26, (.getfield 32, (8, 3, 0), .null, [1231])), (29, (.iload_n 1, (0, 0, 0), .null, [])), (30, (.invokevirtual 175, (900, 0, 0), .null, []))]), (33, [(33, (.ireturn, (0, 0, 0), .null, []))])]
def ax_t77 : List (Nat × List (Nat × ax_E2)) := [(4, [(0, (.aload_n 0, (0, 0, 0), .null, [])), (1, (.getfield 42, (8, 5, 0), .null, [1233])), (4, (.ireturn, (0, 0, 0), .null, []))])]
def ax_t78 : List (Nat × List (Nat × ax_E2)) := [(5, [(0, (.aload_n 0, (0, 0, 0), .null, [])), (1, (.iload_n 1, (0, 0, 0), .null, [])), (2, (.invokevirtual 158, (111, 1, 8), .null, [3192, 21])), (5, (.aload_n 0, (0, 0, 0), .null, []))]), (11, [(6, (.getfield 38, (8, 4, 0), .null, [1232])), (9, (.iload_n 1, (0, 0, 0), .null, [])), (10, (.aaload, (0, 0, 0), .null, [])), (11, (.invokevirtual 179, (8, 0, 1), .null, [5044, 5046]))]), (14, [(14, (.ireturn, (0, 0, 0), .null, []))])]
def ax_t79 : List (Nat × List (Nat × ax_E2)) := [(5, [(0, (.aload_n 0, (0, 0, 0), .null, [])), (1, (.iload_n 1, (0, 0, 0), .null, [])), (2, (.invokevirtual 158, (111, 1, 8), .null, [3192, 21])), (5, (.aload_n 0, (0, 0, 0), .null, []))]), (11, [(6, (.getfield 38, (8, 4, 0), .null, [1232])), (9, (.iload_n 1, (0, 0, 0), .null, [])), (10, (.aaload, (0, 0, 0), .null, [])), (11, (.getfield 182, (1, 1, 0), .null, [1156]))]), (14, [(14, (.ireturn, (0, 0, 0), .null, []))])]
def ax_t80 : List (Nat × List (Nat × ax_E2)) := [(5, [(0, (.aload_n 0, (0, 0, 0), .null, [])), (1, (.iload_n 1, (0, 0, 0), .null, [])), (2, (.invokevirtual 158, (111, 1, 8), .null, [3192, 21])), (5, (.iload_n 2, (0, 0, 0), .null, []))]), (13, [(6, (.invokestatic 185, (112, 1, 0), .null, [5062])), (9, (.aload_n 0, (0, 0, 0), .null, [])), (10, (.getfield 38, (8, 4, 0), .null, [1232])), (13, (.iload_n 1, (0, 0, 0), .null, []))]), (19, [(14, (.aaload, (0, 0, 0), .null, [])), (15, (.getfield 188, (1, 0, 0), .null, [1153])), (18, (.iload_n 2, (0, 0, 0), .null, [])), (19, (.iaload, (0, 0, 0), .null, []))]), (20, [(20, (.ireturn, (0, 0, 0), .null, []))])]
def ax_t81 : List (Nat × List (Nat × ax_E2)) := [(5, [(0, (.aload_n 0, (0, 0, 0), .null, [])), (1, (.iload_n 1, (0, 0, 0), .null, [])), (2, (.invokevirtual 158, (111, 1, 8), .null, [3192, 21])), (5, (.aload_n 0, (0, 0, 0), .null, []))]), (11, [(6, (.getfield 38, (8, 4, 0), .null, [1232])), (9, (.iload_n 1, (0, 0, 0), .null, [])), (10, (.aaload, (0, 0, 0), .null, [])), (11, (.aload_n 0, (0, 0, 0), .null, []))]), (18, [(12, (.getfield 74, (8, 10, 0), .null, [1238])), (15, (.invokevirtual 191, (11, 1, 1), .null, [5073, 3126])), (18, (.lreturn, (0, 0, 0), .null, []))])]
def ax_t82 : List (Nat × List (Nat × ax_E2)) := [(5, [(0, (.aload_n 0, (0, 0, 0), .null, [])), (1, (.iload_n 1, (0, 0, 0), .null, [])), (2, (.invokevirtual 158, (111, 1, 8), .null, [3192, 21])), (5, (.aload_n 0, (0, 0, 0), .null, []))]), (11, [(6, (.getfield 38, (8, 4, 0), .null, [1232])), (9, (.iload_n 1, (0, 0, 0), .null, [])), (10, (.aaload, (0, 0, 0), .null, [])), (11, (.invokevirtual 195, (14, 0, 1), .null, [5081, 5083]))]), (14, [(14, (.ireturn, (0, 0, 0), .null, []))])]
def ax_t83 : List (Nat × List (Nat × ax_E2)) := [(7, [(0, (.aload_n 0, (0, 0, 0), .null, [])), (1, (.iload_n 1, (0, 0, 0), .null, [])), (2, (.invokevirtual 158, (111, 1, 8), .null, [3192, 21])), (5, (.aload_n 0, (0, 0, 0), .null, [])), (6, (.iload_n 2, (0, 0, 0), .null, [])), (7, (.invokevirtual 158, (111, 1, 8), .null, [3192, 21]))]), (19, [(10, (.aload_n 0, (0, 0, 0), .null, [])), (11, (.iconst 1, (0, 0, 0), .null, [])), (12, (.invokevirtual 135, (115, 1, 8), .null, [3048, 15])), (15, (.aload_n 0, (0, 0, 0), .null, [])), (16, (.getfield 48, (8, 6, 0), .null, [1234])), (19, (.invokevirtual 198, (20, 0, 2), .null, [5110, 3067]))]), (31, [(22, (.aload_n 0, (0, 0, 0), .null, [])), (23, (.getfield 48, (8, 6, 0), .null, [1234])), (26, (.aload_n 0, (0, 0, 0), .null, [])), (27, (.getfield 38, (8, 4, 0), .null, [1232])), (30, (.iload_n 1, (0, 0, 0), .null, [])), (31, (.aaload, (0, 0, 0), .null, []))]), (41, [(32, (.lconst 1, (0, 0, 0), .null, [])), (33, (.invokevirtual 201, (22, 2, 2), .null, [5111, 5113])), (36, (.aload_n 0, (0, 0, 0), .null, [])), (37, (.getfield 48, (8, 6, 0), .null, [1234])), (40, (.aload_n 0, (0, 0, 0), .null, [])), (41, (.getfield 38, (8, 4, 0), .null, [1232]))]), (51, [(44, (.iload_n 2, (0, 0, 0), .null, [])), (45, (.aaload, (0, 0, 0), .null, [])), (46, (.lconst 1, (0, 0, 0), .null, [])), (47, (.invokevirtual 201, (22, 2, 2), .null, [5111, 5113])), (50, (.aload_n 0, (0, 0, 0), .null, [])), (51, (.invokevirtual 205, (118, 0, 8), .null, [5115, 24]))]), (54, [(54, (.ireturn, (0, 0, 0), .null, []))])]
def ax_t84 : List (Nat × List (Nat × ax_E2)) := [(7, [(0, (.aload_n 0, (0, 0, 0), .null, [])), (1, (.iload_n 1, (0, 0, 0), .null, [])), (2, (.invokevirtual 158, (111, 1, 8), .null, [3192, 21])), (5, (.iload_n 2, (0, 0, 0), .null, [])), (6, (.iconst 1, (0, 0, 0), .null, [])), (7, (.if_icmp .lt 10, (0, 0, 0), .null, []))]), (21, [(10, (.iload_n 2, (0, 0, 0), .null, [])), (11, (.sipush 1000, (0, 0, 0), .null, [])), (14, (.if_icmp .le 13, (0, 0, 0), .null, [])), (17, (.new 119, (801, 0, 0), .null, [])), (20, (.dup, (0, 0, 0), .null, [])), (21, (.ldc 208, (900, 0, 0), .null, []))]), (32, [(23, (.invokespecial 123, (900, 0, 0), .null, [])), (26, (.athrow, (0, 0, 0), .null, [])), (27, (.aload_n 0, (0, 0, 0), .null, [])), (28, (.iconst 1, (0, 0, 0), .null, [])), (29, (.invokevirtual 135, (115, 1, 8), .null, [3048, 15])), (32, (.aload_n 0, (0, 0, 0), .null, []))]), (44, [(33, (.getfield 48, (8, 6, 0), .null, [1234])), (36, (.invokevirtual 198, (20, 0, 2), .null, [5110, 3067])), (39, (.aload_n 0, (0, 0, 0), .null, [])), (40, (.getfield 48, (8, 6, 0), .null, [1234])), (43, (.aload_n 0, (0, 0, 0), .null, [])), (44, (.getfield 38, (8, 4, 0), .null, [1232]))]), (54, [(47, (.iload_n 1, (0, 0, 0), .null, [])), (48, (.aaload, (0, 0, 0), .null, [])), (49, (.iload_n 2, (0, 0, 0), .null, [])), (50, (.i2l, (0, 0, 0), .null, [])), (51, (.invokevirtual 201, (22, 2, 2), .null, [5111, 5113])), (54, (.aload_n 0, (0, 0, 0), .null, []))]), (58, [(55, (.invokevirtual 205, (118, 0, 8), .null, [5115, 24])), (58, (.ireturn, (0, 0, 0), .null, []))])]
def ax_t85 : List (Nat × List (Nat × ax_E2)) := [(7, [(0, (.aload_n 0, (0, 0, 0), .null, [])), (1, (.iload_n 1, (0, 0, 0), .null, [])), (2, (.invokevirtual 158, (111, 1, 8), .null, [3192, 21])), (5, (.iload_n 2, (0, 0, 0), .null, [])), (6, (.iconst 1, (0, 0, 0), .null, [])), (7, (.if_icmp .ge 13, (0, 0, 0), .null, []))]), (20, [(10, (.new 119, (801, 0, 0), .null, [])), (13, (.dup, (0, 0, 0), .null, [])), (14, (.ldc 210, (900, 0, 0), .null, [])), (16, (.invokespecial 123, (900, 0, 0), .null, [])), (19, (.athrow, (0, 0, 0), .null, [])), (20, (.aload_n 0, (0, 0, 0), .null, []))]), (32, [(21, (.iconst 1, (0, 0, 0), .null, [])), (22, (.invokevirtual 135, (115, 1, 8), .null, [3048, 15])), (25, (.aload_n 0, (0, 0, 0), .null, [])), (26, (.getfield 48, (8, 6, 0), .null, [1234])), (29, (.invokevirtual 198, (20, 0, 2), .null, [5110, 3067])), (32, (.aload_n 0, (0, 0, 0), .null, []))]), (42, [(33, (.getfield 48, (8, 6, 0), .null, [1234])), (36, (.aload_n 0, (0, 0, 0), .null, [])), (37, (.getfield 38, (8, 4, 0), .null, [1232])), (40, (.iload_n 1, (0, 0, 0), .null, [])), (41, (.aaload, (0, 0, 0), .null, [])), (42, (.lconst 1, (0, 0, 0), .null, []))]), (52, [(43, (.invokevirtual 201, (22, 2, 2), .null, [5111, 5113])), (46, (.aload_n 0, (0, 0, 0), .null, [])), (47, (.getfield 48, (8, 6, 0), .null, [1234])), (50, (.iload_n 2, (0, 0, 0), .null, [])), (51, (.i2l, (0, 0, 0), .null, [])), (52, (.invokevirtual 212, (23, 1, 2), .null, [5143, 5145]))]), (59, [(55, (.aload_n 0, (0, 0, 0), .null, [])), (56, (.invokevirtual 145, (119, 0, 8), .null, [3074, 17])), (59, (.ireturn, (0, 0, 0), .null, []))])]
def ax_t86 : List (Nat × List (Nat × ax_E2)) := [(6, [(0, (.aload_n 0, (0, 0, 0), .null, [])), (1, (.iload_n 1, (0, 0, 0), .null, [])), (2, (.invokevirtual 158, (111, 1, 8), .null, [3192, 21])), (5, (.aload_n 0, (0, 0, 0), .null, [])), (6, (.iconst 1, (0, 0, 0), .null, []))]), (17, [(7, (.invokevirtual 135, (115, 1, 8), .null, [3048, 15])), (10, (.aload_n 0, (0, 0, 0), .null, [])), (11, (.getfield 48, (8, 6, 0), .null, [1234])), (14, (.invokevirtual 198, (20, 0, 2), .null, [5110, 3067])), (17, (.aload_n 0, (0, 0, 0), .null, []))]), (26, [(18, (.getfield 48, (8, 6, 0), .null, [1234])), (21, (.aload_n 0, (0, 0, 0), .null, [])), (22, (.getfield 38, (8, 4, 0), .null, [1232])), (25, (.iload_n 1, (0, 0, 0), .null, [])), (26, (.aaload, (0, 0, 0), .null, []))]), (35, [(27, (.lconst 1, (0, 0, 0), .null, [])), (28, (.invokevirtual 201, (22, 2, 2), .null, [5111, 5113])), (31, (.aload_n 0, (0, 0, 0), .null, [])), (32, (.getfield 48, (8, 6, 0), .null, [1234])), (35, (.invokevirtual 216, (24, 0, 2), .null, [5154, 5156]))]), (42, [(38, (.aload_n 0, (0, 0, 0), .null, [])), (39, (.invokevirtual 145, (119, 0, 8), .null, [3074, 17])), (42, (.ireturn, (0, 0, 0), .null, []))])]
def ax_t87 : List (Nat × List (Nat × ax_E2)) := [(9, [(0, (.aload_n 0, (0, 0, 0), .null, [])), (1, (.iload_n 1, (0, 0, 0), .null, [])), (2, (.invokevirtual 158, (111, 1, 8), .null, [3192, 21])), (5, (.iload_n 2, (0, 0, 0), .null, [])), (6, (.invokestatic 219, (113, 1, 0), .null, [5165])), (9, (.aload_n 0, (0, 0, 0), .null, []))]), (19, [(10, (.getfield 38, (8, 4, 0), .null, [1232])), (13, (.iload_n 1, (0, 0, 0), .null, [])), (14, (.aaload, (0, 0, 0), .null, [])), (15, (.iload_n 2, (0, 0, 0), .null, [])), (16, (.invokevirtual 222, (10, 1, 1), .null, [5169, 5171])), (19, (.ifCond .ne 13, (0, 0, 0), .null, []))]), (32, [(22, (.new 119, (801, 0, 0), .null, [])), (25, (.dup, (0, 0, 0), .null, [])), (26, (.ldc 226, (900, 0, 0), .null, [])), (28, (.invokespecial 123, (900, 0, 0), .null, [])), (31, (.athrow, (0, 0, 0), .null, [])), (32, (.aload_n 0, (0, 0, 0), .null, []))]), (44, [(33, (.iconst 1, (0, 0, 0), .null, [])), (34, (.invokevirtual 135, (115, 1, 8), .null, [3048, 15])), (37, (.aload_n 0, (0, 0, 0), .null, [])), (38, (.getfield 48, (8, 6, 0), .null, [1234])), (41, (.invokevirtual 198, (20, 0, 2), .null, [5110, 3067])), (44, (.aload_n 0, (0, 0, 0), .null, []))]), (54, [(45, (.getfield 48, (8, 6, 0), .null, [1234])), (48, (.aload_n 0, (0, 0, 0), .null, [])), (49, (.getfield 38, (8, 4, 0), .null, [1232])), (52, (.iload_n 1, (0, 0, 0), .null, [])), (53, (.aaload, (0, 0, 0), .null, [])), (54, (.lconst 1, (0, 0, 0), .null, []))]), (66, [(55, (.invokevirtual 201, (22, 2, 2), .null, [5111, 5113])), (58, (.aload_n 0, (0, 0, 0), .null, [])), (59, (.getfield 48, (8, 6, 0), .null, [1234])), (62, (.iload_n 2, (0, 0, 0), .null, [])), (63, (.invokevirtual 228, (25, 1, 2), .null, [5178, 5180])), (66, (.aload_n 0, (0, 0, 0), .null, []))]), (70, [(67, (.invokevirtual 145, (119, 0, 8), .null, [3074, 17])), (70, (.ireturn, (0, 0, 0), .null, []))])]
def ax_t88 : List (Nat × List (Nat × ax_E2)) := [(14, [(0, (.aload_n 0, (0, 0, 0), .null, [])), (1, (.iload_n 1, (0, 0, 0), .null, [])), (2, (.invokevirtual 158, (111, 1, 8), .null, [3192, 21])), (5, (.aload_n 0, (0, 0, 0), .null, [])), (6, (.iload_n 2, (0, 0, 0), .null, [])), (7, (.invokevirtual 158, (111, 1, 8), .null, [3192, 21])), (10, (.iload_n 3, (0, 0, 0), .null, [])), (11, (.invokestatic 219, (113, 1, 0), .null, [5165])), (14, (.aload_n 0, (0, 0, 0), .null, []))]), (31, [(15, (.getfield 38, (8, 4, 0), .null, [1232])), (18, (.iload_n 1, (0, 0, 0), .null, [])), (19, (.aaload, (0, 0, 0), .null, [])), (20, (.iload_n 3, (0, 0, 0), .null, [])), (21, (.invokevirtual 231, (9, 1, 1), .null, [5189, 5175])), (24, (.istore 4, (0, 0, 0), .null, [])), (26, (.iload 4, (0, 0, 0), .null, [])), (28, (.ifCond .lt 20, (0, 0, 0), .null, [])), (31, (.aload_n 0, (0, 0, 0), .null, []))]), (45, [(32, (.getfield 38, (8, 4, 0), .null, [1232])), (35, (.iload_n 2, (0, 0, 0), .null, [])), (36, (.aaload, (0, 0, 0), .null, [])), (37, (.getfield 188, (1, 0, 0), .null, [1153])), (40, (.iload 4, (0, 0, 0), .null, [])), (42, (.iconst 1, (0, 0, 0), .null, [])), (43, (.ixor, (0, 0, 0), .null, [])), (44, (.iaload, (0, 0, 0), .null, [])), (45, (.ifCond .ne 13, (0, 0, 0), .null, []))]), (63, [(48, (.new 119, (801, 0, 0), .null, [])), (51, (.dup, (0, 0, 0), .null, [])), (52, (.ldc 235, (900, 0, 0), .null, [])), (54, (.invokespecial 123, (900, 0, 0), .null, [])), (57, (.athrow, (0, 0, 0), .null, [])), (58, (.aload_n 0, (0, 0, 0), .null, [])), (59, (.iconst 1, (0, 0, 0), .null, [])), (60, (.invokevirtual 135, (115, 1, 8), .null, [3048, 15])), (63, (.aload_n 0, (0, 0, 0), .null, []))]), (78, [(64, (.getfield 38, (8, 4, 0), .null, [1232])), (67, (.iload_n 1, (0, 0, 0), .null, [])), (68, (.aaload, (0, 0, 0), .null, [])), (69, (.getfield 188, (1, 0, 0), .null, [1153])), (72, (.iload 4, (0, 0, 0), .null, [])), (74, (.iaload, (0, 0, 0), .null, [])), (75, (.istore 5, (0, 0, 0), .null, [])), (77, (.aload_n 0, (0, 0, 0), .null, [])), (78, (.getfield 38, (8, 4, 0), .null, [1232]))]), (93, [(81, (.iload_n 2, (0, 0, 0), .null, [])), (82, (.aaload, (0, 0, 0), .null, [])), (83, (.getfield 188, (1, 0, 0), .null, [1153])), (86, (.iload 4, (0, 0, 0), .null, [])), (88, (.iconst 1, (0, 0, 0), .null, [])), (89, (.ixor, (0, 0, 0), .null, [])), (90, (.iaload, (0, 0, 0), .null, [])), (91, (.istore 6, (0, 0, 0), .null, [])), (93, (.iload 5, (0, 0, 0), .null, []))]), (113, [(95, (.iload 6, (0, 0, 0), .null, [])), (97, (.invokestatic 237, (129, 2, 0), .null, [5191])), (100, (.istore 7, (0, 0, 0), .null, [])), (102, (.aload_n 0, (0, 0, 0), .null, [])), (103, (.getfield 48, (8, 6, 0), .null, [1234])), (106, (.invokevirtual 198, (20, 0, 2), .null, [5110, 3067])), (109, (.aload_n 0, (0, 0, 0), .null, [])), (110, (.getfield 48, (8, 6, 0), .null, [1234])), (113, (.aload_n 0, (0, 0, 0), .null, []))]), (128, [(114, (.getfield 38, (8, 4, 0), .null, [1232])), (117, (.iload_n 1, (0, 0, 0), .null, [])), (118, (.aaload, (0, 0, 0), .null, [])), (119, (.iload 6, (0, 0, 0), .null, [])), (121, (.iload 7, (0, 0, 0), .null, [])), (123, (.idiv, (0, 0, 0), .null, [])), (124, (.i2l, (0, 0, 0), .null, [])), (125, (.invokevirtual 201, (22, 2, 2), .null, [5111, 5113])), (128, (.aload_n 0, (0, 0, 0), .null, []))]), (143, [(129, (.getfield 48, (8, 6, 0), .null, [1234])), (132, (.aload_n 0, (0, 0, 0), .null, [])), (133, (.getfield 38, (8, 4, 0), .null, [1232])), (136, (.iload_n 2, (0, 0, 0), .null, [])), (137, (.aaload, (0, 0, 0), .null, [])), (138, (.iload 5, (0, 0, 0), .null, [])), (140, (.iload 7, (0, 0, 0), .null, [])), (142, (.idiv, (0, 0, 0), .null, [])), (143, (.i2l, (0, 0, 0), .null, []))]), (151, [(144, (.invokevirtual 201, (22, 2, 2), .null, [5111, 5113])), (147, (.aload_n 0, (0, 0, 0), .null, [])), (148, (.invokevirtual 205, (118, 0, 8), .null, [5115, 24])), (151, (.ireturn, (0, 0, 0), .null, []))])]
def ax_t89 : List (Nat × List (Nat × ax_E2)) := [(7, [(0, (.aload_n 0, (0, 0, 0), .null, [])), (1, (.iload_n 1, (0, 0, 0), .null, [])), (2, (.invokevirtual 158, (111, 1, 8), .null, [3192, 21])), (5, (.aload_n 0, (0, 0, 0), .null, [])), (6, (.iconst 1, (0, 0, 0), .null, [])), (7, (.invokevirtual 135, (115, 1, 8), .null, [3048, 15]))]), (19, [(10, (.aload_n 0, (0, 0, 0), .null, [])), (11, (.getfield 48, (8, 6, 0), .null, [1234])), (14, (.invokevirtual 198, (20, 0, 2), .null, [5110, 3067])), (17, (.iconst 0, (0, 0, 0), .null, [])), (18, (.istore_n 2, (0, 0, 0), .null, [])), (19, (.iload_n 2, (0, 0, 0), .null, []))]), (30, [(20, (.bipush 24, (0, 0, 0), .null, [])), (22, (.if_icmp .ge 32, (0, 0, 0), .null, [])), (25, (.aload_n 0, (0, 0, 0), .null, [])), (26, (.getfield 38, (8, 4, 0), .null, [1232])), (29, (.iload_n 1, (0, 0, 0), .null, [])), (30, (.aaload, (0, 0, 0), .null, []))]), (40, [(31, (.getfield 188, (1, 0, 0), .null, [1153])), (34, (.iload_n 2, (0, 0, 0), .null, [])), (35, (.iaload, (0, 0, 0), .null, [])), (36, (.ifCond .le 12, (0, 0, 0), .null, [])), (39, (.aload_n 0, (0, 0, 0), .null, [])), (40, (.getfield 48, (8, 6, 0), .null, [1234]))]), (54, [(43, (.iload_n 2, (0, 0, 0), .null, [])), (44, (.lconst 1, (0, 0, 0), .null, [])), (45, (.invokevirtual 241, (21, 2, 2), .null, [5202, 3072])), (48, (.iinc 2 1, (0, 0, 0), .null, [])), (51, (.goto (-32), (0, 0, 0), .null, [])), (54, (.aload_n 0, (0, 0, 0), .null, []))]), (64, [(55, (.getfield 48, (8, 6, 0), .null, [1234])), (58, (.aload_n 0, (0, 0, 0), .null, [])), (59, (.getfield 38, (8, 4, 0), .null, [1232])), (62, (.iload_n 1, (0, 0, 0), .null, [])), (63, (.aaload, (0, 0, 0), .null, [])), (64, (.invokevirtual 195, (14, 0, 1), .null, [5081, 5083]))]), (75, [(67, (.i2l, (0, 0, 0), .null, [])), (68, (.putfield 245, (2, 1, 0), .null, [1138])), (71, (.aload_n 0, (0, 0, 0), .null, [])), (72, (.invokevirtual 145, (119, 0, 8), .null, [3074, 17])), (75, (.ireturn, (0, 0, 0), .null, []))])]
def ax_t90 : List (Nat × List (Nat × ax_E2)) := [(5, [(0, (.iload_n 1, (0, 0, 0), .null, [])), (1, (.invokestatic 185, (112, 1, 0), .null, [5062])), (4, (.iload_n 2, (0, 0, 0), .null, [])), (5, (.invokestatic 185, (112, 1, 0), .null, [5062]))]), (11, [(8, (.aload_n 0, (0, 0, 0), .null, [])), (9, (.iload_n 1, (0, 0, 0), .null, [])), (10, (.iload_n 2, (0, 0, 0), .null, [])), (11, (.invokevirtual 248, (127, 2, 8), .null, [5210, 25]))]), (14, [(14, (.ireturn, (0, 0, 0), .null, []))])]
def ax_t91 : List (Nat × List (Nat × ax_E2)) := [(7, [(0, (.iload_n 1, (0, 0, 0), .null, [])), (1, (.invokestatic 185, (112, 1, 0), .null, [5062])), (4, (.iconst 1, (0, 0, 0), .null, [])), (5, (.iload_n 1, (0, 0, 0), .null, [])), (6, (.ishl, (0, 0, 0), .null, [])), (7, (.istore_n 2, (0, 0, 0), .null, []))]), (16, [(8, (.iconst 0, (0, 0, 0), .null, [])), (9, (.istore_n 3, (0, 0, 0), .null, [])), (10, (.iload_n 3, (0, 0, 0), .null, [])), (11, (.bipush 24, (0, 0, 0), .null, [])), (13, (.if_icmp .ge 24, (0, 0, 0), .null, [])), (16, (.aload_n 0, (0, 0, 0), .null, []))]), (26, [(17, (.iload_n 3, (0, 0, 0), .null, [])), (18, (.iload_n 2, (0, 0, 0), .null, [])), (19, (.invokevirtual 252, (128, 2, 8), .null, [5225, 26])), (22, (.ifCond .eq 9, (0, 0, 0), .null, [])), (25, (.iload_n 2, (0, 0, 0), .null, [])), (26, (.iconst 1, (0, 0, 0), .null, []))]), (34, [(27, (.iload_n 3, (0, 0, 0), .null, [])), (28, (.ishl, (0, 0, 0), .null, [])), (29, (.ior, (0, 0, 0), .null, [])), (30, (.istore_n 2, (0, 0, 0), .null, [])), (31, (.iinc 3 1, (0, 0, 0), .null, [])), (34, (.goto (-24), (0, 0, 0), .null, []))]), (46, [(37, (.aload_n 0, (0, 0, 0), .null, [])), (38, (.getfield 78, (8, 11, 0), .null, [1239])), (41, (.iload_n 2, (0, 0, 0), .null, [])), (42, (.invokevirtual 255, (32, 1, 3), .null, [5229, 5231])), (45, (.aload_n 0, (0, 0, 0), .null, [])), (46, (.getfield 78, (8, 11, 0), .null, [1239]))]), (52, [(49, (.getfield 258, (3, 1, 0), .null, [1187])), (52, (.ireturn, (0, 0, 0), .null, []))])]
def ax_t92 : List (Nat × List (Nat × ax_E2)) := [(5, [(0, (.iload_n 1, (0, 0, 0), .null, [])), (1, (.aload_n 0, (0, 0, 0), .null, [])), (2, (.getfield 78, (8, 11, 0), .null, [1239])), (5, (.invokestatic 261, (114, 2, 0), .null, [6004]))]), (15, [(8, (.aload_n 0, (0, 0, 0), .null, [])), (9, (.getfield 78, (8, 11, 0), .null, [1239])), (12, (.getfield 265, (3, 0, 0), .null, [1185])), (15, (.iload_n 1, (0, 0, 0), .null, []))]), (17, [(16, (.iaload, (0, 0, 0), .null, [])), (17, (.ireturn, (0, 0, 0), .null, []))])]
def ax_t93 : List (Nat × List (Nat × ax_E2)) := [(14, [(0, (.aload_n 0, (0, 0, 0), .null, [])), (1, (.getfield 78, (8, 11, 0), .null, [1239])), (4, (.getfield 258, (3, 1, 0), .null, [1187])), (7, (.ifCond .ne 14, (0, 0, 0), .null, [])), (10, (.new 268, (804, 0, 0), .null, [])), (13, (.dup, (0, 0, 0), .null, [])), (14, (.ldc_w 270, (900, 0, 0), .null, []))]), (27, [(17, (.invokespecial 272, (900, 0, 0), .null, [])), (20, (.athrow, (0, 0, 0), .null, [])), (21, (.aload_n 0, (0, 0, 0), .null, [])), (22, (.iconst 1, (0, 0, 0), .null, [])), (23, (.invokevirtual 135, (115, 1, 8), .null, [3048, 15])), (26, (.aload_n 0, (0, 0, 0), .null, [])), (27, (.getfield 48, (8, 6, 0), .null, [1234]))]), (40, [(30, (.invokevirtual 198, (20, 0, 2), .null, [5110, 3067])), (33, (.iconst 0, (0, 0, 0), .null, [])), (34, (.istore_n 1, (0, 0, 0), .null, [])), (35, (.iload_n 1, (0, 0, 0), .null, [])), (36, (.aload_n 0, (0, 0, 0), .null, [])), (37, (.getfield 78, (8, 11, 0), .null, [1239])), (40, (.getfield 258, (3, 1, 0), .null, [1187]))]), (57, [(43, (.if_icmp .ge 28, (0, 0, 0), .null, [])), (46, (.aload_n 0, (0, 0, 0), .null, [])), (47, (.getfield 48, (8, 6, 0), .null, [1234])), (50, (.aload_n 0, (0, 0, 0), .null, [])), (51, (.getfield 78, (8, 11, 0), .null, [1239])), (54, (.getfield 265, (3, 0, 0), .null, [1185])), (57, (.iload_n 1, (0, 0, 0), .null, []))]), (68, [(58, (.iaload, (0, 0, 0), .null, [])), (59, (.iconst 1, (0, 0, 0), .null, [])), (60, (.ixor, (0, 0, 0), .null, [])), (61, (.lconst 1, (0, 0, 0), .null, [])), (62, (.invokevirtual 241, (21, 2, 2), .null, [5202, 3072])), (65, (.iinc 1 1, (0, 0, 0), .null, [])), (68, (.goto (-33), (0, 0, 0), .null, []))]), (83, [(71, (.aload_n 0, (0, 0, 0), .null, [])), (72, (.getfield 48, (8, 6, 0), .null, [1234])), (75, (.aload_n 0, (0, 0, 0), .null, [])), (76, (.getfield 78, (8, 11, 0), .null, [1239])), (79, (.getfield 258, (3, 1, 0), .null, [1187])), (82, (.iconst 1, (0, 0, 0), .null, [])), (83, (.isub, (0, 0, 0), .null, []))]), (92, [(84, (.i2l, (0, 0, 0), .null, [])), (85, (.putfield 245, (2, 1, 0), .null, [1138])), (88, (.aload_n 0, (0, 0, 0), .null, [])), (89, (.invokevirtual 145, (119, 0, 8), .null, [3074, 17])), (92, (.ireturn, (0, 0, 0), .null, []))])]
def ax_t94 : List (Nat × List (Nat × ax_E2)) := [(11, [(0, (.iload_n 1, (0, 0, 0), .null, [])), (1, (.invokestatic 185, (112, 1, 0), .null, [5062])), (4, (.aload_n 0, (0, 0, 0), .null, [])), (5, (.getfield 74, (8, 10, 0), .null, [1238])), (8, (.getfield 273, (0, 1, 0), .null, [1206])), (11, (.ifCond .ne 16, (0, 0, 0), .null, []))]), (21, [(14, (.aload_n 0, (0, 0, 0), .null, [])), (15, (.getfield 74, (8, 10, 0), .null, [1238])), (18, (.iload_n 1, (0, 0, 0), .null, [])), (19, (.iconst 1, (0, 0, 0), .null, [])), (20, (.ishr, (0, 0, 0), .null, [])), (21, (.invokevirtual 277, (2, 1, 0), .null, [6039, 3135]))]), (37, [(24, (.ifCond .eq 14, (0, 0, 0), .null, [])), (27, (.new 108, (800, 0, 0), .null, [])), (30, (.dup, (0, 0, 0), .null, [])), (31, (.ldc_w 280, (900, 0, 0), .null, [])), (34, (.invokespecial 112, (900, 0, 0), .null, [])), (37, (.athrow, (0, 0, 0), .null, []))]), (47, [(38, (.aload_n 0, (0, 0, 0), .null, [])), (39, (.getfield 67, (8, 9, 0), .null, [1237])), (42, (.iload_n 1, (0, 0, 0), .null, [])), (43, (.invokevirtual 282, (29, 1, 3), .null, [6041, 5235])), (46, (.aload_n 0, (0, 0, 0), .null, [])), (47, (.invokevirtual 285, (121, 0, 8), .null, [3108, 19]))]), (61, [(50, (.aload_n 0, (0, 0, 0), .null, [])), (51, (.getfield 74, (8, 10, 0), .null, [1238])), (54, (.getfield 273, (0, 1, 0), .null, [1206])), (57, (.ifCond .eq 16, (0, 0, 0), .null, [])), (60, (.aload_n 0, (0, 0, 0), .null, [])), (61, (.getfield 67, (8, 9, 0), .null, [1237]))]), (73, [(64, (.invokevirtual 288, (30, 0, 3), .null, [6042, 6044])), (67, (.aload_n 0, (0, 0, 0), .null, [])), (68, (.invokevirtual 285, (121, 0, 8), .null, [3108, 19])), (71, (.iconst (-1), (0, 0, 0), .null, [])), (72, (.ireturn, (0, 0, 0), .null, [])), (73, (.aload_n 0, (0, 0, 0), .null, []))]), (80, [(74, (.getfield 74, (8, 10, 0), .null, [1238])), (77, (.invokevirtual 291, (5, 0, 0), .null, [6046, 6048])), (80, (.ireturn, (0, 0, 0), .null, []))])]
def ax_t95 : List (Nat × List (Nat × ax_E2)) := [(7, [(0, (.aload_n 0, (0, 0, 0), .null, [])), (1, (.getfield 67, (8, 9, 0), .null, [1237])), (4, (.getfield 258, (3, 1, 0), .null, [1187])), (7, (.ifCond .ne 14, (0, 0, 0), .null, []))]), (17, [(10, (.new 108, (800, 0, 0), .null, [])), (13, (.dup, (0, 0, 0), .null, [])), (14, (.ldc_w 294, (900, 0, 0), .null, [])), (17, (.invokespecial 112, (900, 0, 0), .null, []))]), (25, [(20, (.athrow, (0, 0, 0), .null, [])), (21, (.aload_n 0, (0, 0, 0), .null, [])), (22, (.getfield 67, (8, 9, 0), .null, [1237])), (25, (.invokevirtual 288, (30, 0, 3), .null, [6042, 6044]))]), (33, [(28, (.aload_n 0, (0, 0, 0), .null, [])), (29, (.invokevirtual 285, (121, 0, 8), .null, [3108, 19])), (32, (.aload_n 0, (0, 0, 0), .null, [])), (33, (.getfield 67, (8, 9, 0), .null, [1237]))]), (39, [(36, (.getfield 258, (3, 1, 0), .null, [1187])), (39, (.ireturn, (0, 0, 0), .null, []))])]
def ax_t96 : List (Nat × List (Nat × ax_E2)) := [(7, [(0, (.aload_n 0, (0, 0, 0), .null, [])), (1, (.getfield 67, (8, 9, 0), .null, [1237])), (4, (.getfield 258, (3, 1, 0), .null, [1187])), (7, (.ireturn, (0, 0, 0), .null, []))])]
def ax_t97 : List (Nat × List (Nat × ax_E2)) := [(7, [(0, (.aload_n 0, (0, 0, 0), .null, [])), (1, (.getfield 74, (8, 10, 0), .null, [1238])), (4, (.getfield 273, (0, 1, 0), .null, [1206])), (7, (.ireturn, (0, 0, 0), .null, []))])]
def ax_t98 : List (Nat × List (Nat × ax_E2)) := [(5, [(0, (.iload_n 1, (0, 0, 0), .null, [])), (1, (.invokestatic 219, (113, 1, 0), .null, [5165])), (4, (.aload_n 0, (0, 0, 0), .null, [])), (5, (.getfield 74, (8, 10, 0), .null, [1238]))]), (13, [(8, (.getfield 296, (0, 0, 0), .null, [1203])), (11, (.iload_n 1, (0, 0, 0), .null, [])), (12, (.iaload, (0, 0, 0), .null, [])), (13, (.ireturn, (0, 0, 0), .null, []))])]
def ax_t99 : List (Nat × List (Nat × ax_E2)) := [(5, [(0, (.aload_n 0, (0, 0, 0), .null, [])), (1, (.invokevirtual 299, (122, 0, 8), .null, [2063, 0])), (4, (.iconst 0, (0, 0, 0), .null, [])), (5, (.aload_n 0, (0, 0, 0), .null, []))]), (13, [(6, (.invokevirtual 303, (123, 0, 8), .null, [2067, 1])), (9, (.aload_n 0, (0, 0, 0), .null, [])), (10, (.invokevirtual 306, (124, 0, 8), .null, [2075, 2])), (13, (.invokevirtual 309, (44, 3, 5), .null, [2079, 2081]))]), (16, [(16, (.ireturn, (0, 0, 0), .null, []))])]
def ax_t100 : List (Nat × List (Nat × ax_E2)) := [(7, [(0, (.iload_n 1, (0, 0, 0), .null, [])), (1, (.invokestatic 313, (116, 1, 0), .null, [6073])), (4, (.ifCond .ne 14, (0, 0, 0), .null, [])), (7, (.new 119, (801, 0, 0), .null, []))]), (17, [(10, (.dup, (0, 0, 0), .null, [])), (11, (.ldc_w 316, (900, 0, 0), .null, [])), (14, (.invokespecial 123, (900, 0, 0), .null, [])), (17, (.athrow, (0, 0, 0), .null, []))]), (23, [(18, (.aload_n 0, (0, 0, 0), .null, [])), (19, (.invokevirtual 299, (122, 0, 8), .null, [2063, 0])), (22, (.iload_n 1, (0, 0, 0), .null, [])), (23, (.iconst 1, (0, 0, 0), .null, []))]), (29, [(24, (.iadd, (0, 0, 0), .null, [])), (25, (.aload_n 0, (0, 0, 0), .null, [])), (26, (.invokevirtual 303, (123, 0, 8), .null, [2067, 1])), (29, (.aload_n 0, (0, 0, 0), .null, []))]), (36, [(30, (.invokevirtual 306, (124, 0, 8), .null, [2075, 2])), (33, (.invokevirtual 309, (44, 3, 5), .null, [2079, 2081])), (36, (.ireturn, (0, 0, 0), .null, []))])]
def ax_t101 : List (Nat × List (Nat × ax_E2)) := [(5, [(0, (.aload_n 0, (0, 0, 0), .null, [])), (1, (.invokevirtual 299, (122, 0, 8), .null, [2063, 0])), (4, (.aload_n 0, (0, 0, 0), .null, [])), (5, (.invokevirtual 303, (123, 0, 8), .null, [2067, 1]))]), (15, [(8, (.aload_n 0, (0, 0, 0), .null, [])), (9, (.invokevirtual 306, (124, 0, 8), .null, [2075, 2])), (12, (.invokevirtual 318, (45, 2, 5), .null, [2102, 2104])), (15, (.ireturn, (0, 0, 0), .null, []))])]
def ax_t102 : List (Nat × List (Nat × ax_E2)) := [(7, [(0, (.iload_n 1, (0, 0, 0), .null, [])), (1, (.invokestatic 185, (112, 1, 0), .null, [5062])), (4, (.iconst 1, (0, 0, 0), .null, [])), (5, (.iload_n 1, (0, 0, 0), .null, [])), (6, (.iconst 1, (0, 0, 0), .null, [])), (7, (.ishr, (0, 0, 0), .null, []))]), (13, [(8, (.ishl, (0, 0, 0), .null, [])), (9, (.istore_n 2, (0, 0, 0), .null, [])), (10, (.iload_n 1, (0, 0, 0), .null, [])), (11, (.iconst 1, (0, 0, 0), .null, [])), (12, (.iand, (0, 0, 0), .null, [])), (13, (.iconst 1, (0, 0, 0), .null, []))]), (23, [(14, (.if_icmp .ne 7, (0, 0, 0), .null, [])), (17, (.iconst 1, (0, 0, 0), .null, [])), (18, (.goto 4, (0, 0, 0), .null, [])), (21, (.iconst 0, (0, 0, 0), .null, [])), (22, (.istore_n 3, (0, 0, 0), .null, [])), (23, (.aload_n 0, (0, 0, 0), .null, []))]), (33, [(24, (.iload_n 3, (0, 0, 0), .null, [])), (25, (.ifCond .eq 7, (0, 0, 0), .null, [])), (28, (.iload_n 2, (0, 0, 0), .null, [])), (29, (.goto 4, (0, 0, 0), .null, [])), (32, (.iconst 0, (0, 0, 0), .null, [])), (33, (.iload_n 3, (0, 0, 0), .null, []))]), (45, [(34, (.ifCond .eq 7, (0, 0, 0), .null, [])), (37, (.iconst 0, (0, 0, 0), .null, [])), (38, (.goto 4, (0, 0, 0), .null, [])), (41, (.iload_n 2, (0, 0, 0), .null, [])), (42, (.invokevirtual 321, (125, 2, 8), .null, [6084, 27])), (45, (.ifCond .ne 7, (0, 0, 0), .null, []))]), (53, [(48, (.iconst 1, (0, 0, 0), .null, [])), (49, (.goto 4, (0, 0, 0), .null, [])), (52, (.iconst 0, (0, 0, 0), .null, [])), (53, (.ireturn, (0, 0, 0), .null, []))])]
def ax_t103 : List (Nat × List (Nat × ax_E2)) := [(8, [(0, (.iload_n 1, (0, 0, 0), .null, [])), (1, (.invokestatic 219, (113, 1, 0), .null, [5165])), (4, (.iload_n 2, (0, 0, 0), .null, [])), (5, (.sipush (-1000), (0, 0, 0), .null, [])), (8, (.if_icmp .lt 10, (0, 0, 0), .null, []))]), (21, [(11, (.iload_n 2, (0, 0, 0), .null, [])), (12, (.sipush 1000, (0, 0, 0), .null, [])), (15, (.if_icmp .le 14, (0, 0, 0), .null, [])), (18, (.new 119, (801, 0, 0), .null, [])), (21, (.dup, (0, 0, 0), .null, []))]), (30, [(22, (.ldc_w 324, (900, 0, 0), .null, [])), (25, (.invokespecial 123, (900, 0, 0), .null, [])), (28, (.athrow, (0, 0, 0), .null, [])), (29, (.aload_n 0, (0, 0, 0), .null, [])), (30, (.getfield 84, (8, 13, 0), .null, [2001]))]), (37, [(33, (.iload_n 1, (0, 0, 0), .null, [])), (34, (.iaload, (0, 0, 0), .null, [])), (35, (.istore_n 3, (0, 0, 0), .null, [])), (36, (.aload_n 0, (0, 0, 0), .null, [])), (37, (.getfield 84, (8, 13, 0), .null, [2001]))]), (44, [(40, (.iload_n 1, (0, 0, 0), .null, [])), (41, (.iload_n 2, (0, 0, 0), .null, [])), (42, (.iastore, (0, 0, 0), .null, [])), (43, (.iload_n 3, (0, 0, 0), .null, [])), (44, (.ireturn, (0, 0, 0), .null, []))])]
def ax_t104 : List (Nat × List (Nat × ax_E2)) := [(5, [(0, (.aload_n 0, (0, 0, 0), .null, [])), (1, (.invokevirtual 326, (126, 0, 8), .null, [6103, 28])), (4, (.istore_n 1, (0, 0, 0), .null, [])), (5, (.aload_n 0, (0, 0, 0), .null, []))]), (13, [(6, (.getfield 60, (8, 8, 0), .null, [1236])), (9, (.iload_n 1, (0, 0, 0), .null, [])), (10, (.invokevirtual 329, (35, 1, 4), .null, [6120, 6117])), (13, (.l2i, (0, 0, 0), .null, []))]), (14, [(14, (.ireturn, (0, 0, 0), .null, []))])]
def ax_t105 : List (Nat × List (Nat × ax_E2)) := [(4, [(0, (.aload_n 0, (0, 0, 0), .null, [])), (1, (.invokevirtual 326, (126, 0, 8), .null, [6103, 28])), (4, (.ireturn, (0, 0, 0), .null, []))])]
def ax_t106 : List (Nat × List (Nat × ax_E2)) := [(16, [(0, (.iload_n 1, (0, 0, 0), .null, [])), (1, (.invokestatic 313, (116, 1, 0), .null, [6073])), (4, (.ifCond .eq 16, (0, 0, 0), .null, [])), (7, (.iload_n 2, (0, 0, 0), .null, [])), (8, (.invokestatic 313, (116, 1, 0), .null, [6073])), (11, (.ifCond .eq 9, (0, 0, 0), .null, [])), (14, (.iload_n 1, (0, 0, 0), .null, [])), (15, (.iload_n 2, (0, 0, 0), .null, [])), (16, (.iand, (0, 0, 0), .null, []))]), (33, [(17, (.ifCond .eq 14, (0, 0, 0), .null, [])), (20, (.new 119, (801, 0, 0), .null, [])), (23, (.dup, (0, 0, 0), .null, [])), (24, (.ldc_w 333, (900, 0, 0), .null, [])), (27, (.invokespecial 123, (900, 0, 0), .null, [])), (30, (.athrow, (0, 0, 0), .null, [])), (31, (.aload_n 0, (0, 0, 0), .null, [])), (32, (.iload_n 1, (0, 0, 0), .null, [])), (33, (.iload_n 2, (0, 0, 0), .null, []))]), (52, [(34, (.invokevirtual 321, (125, 2, 8), .null, [6084, 27])), (37, (.ifCond .eq 14, (0, 0, 0), .null, [])), (40, (.new 268, (804, 0, 0), .null, [])), (43, (.dup, (0, 0, 0), .null, [])), (44, (.ldc_w 335, (900, 0, 0), .null, [])), (47, (.invokespecial 272, (900, 0, 0), .null, [])), (50, (.athrow, (0, 0, 0), .null, [])), (51, (.iload_n 1, (0, 0, 0), .null, [])), (52, (.iload_n 2, (0, 0, 0), .null, []))]), (65, [(53, (.ior, (0, 0, 0), .null, [])), (54, (.istore_n 3, (0, 0, 0), .null, [])), (55, (.iconst 0, (0, 0, 0), .null, [])), (56, (.istore 4, (0, 0, 0), .null, [])), (58, (.iconst 0, (0, 0, 0), .null, [])), (59, (.istore 5, (0, 0, 0), .null, [])), (61, (.iload 5, (0, 0, 0), .null, [])), (63, (.bipush 12, (0, 0, 0), .null, [])), (65, (.if_icmp .ge 78, (0, 0, 0), .null, []))]), (81, [(68, (.iconst 1, (0, 0, 0), .null, [])), (69, (.iload 5, (0, 0, 0), .null, [])), (71, (.ishl, (0, 0, 0), .null, [])), (72, (.istore 6, (0, 0, 0), .null, [])), (74, (.iload_n 3, (0, 0, 0), .null, [])), (75, (.iload 6, (0, 0, 0), .null, [])), (77, (.iand, (0, 0, 0), .null, [])), (78, (.ifCond .ne 6, (0, 0, 0), .null, [])), (81, (.goto 56, (0, 0, 0), .null, []))]), (94, [(84, (.iload_n 3, (0, 0, 0), .null, [])), (85, (.iload 6, (0, 0, 0), .null, [])), (87, (.iconst (-1), (0, 0, 0), .null, [])), (88, (.ixor, (0, 0, 0), .null, [])), (89, (.iand, (0, 0, 0), .null, [])), (90, (.istore 7, (0, 0, 0), .null, [])), (92, (.aload_n 0, (0, 0, 0), .null, [])), (93, (.iload_n 1, (0, 0, 0), .null, [])), (94, (.iload 7, (0, 0, 0), .null, []))]), (110, [(96, (.iand, (0, 0, 0), .null, [])), (97, (.iload_n 2, (0, 0, 0), .null, [])), (98, (.iload 7, (0, 0, 0), .null, [])), (100, (.iand, (0, 0, 0), .null, [])), (101, (.invokevirtual 321, (125, 2, 8), .null, [6084, 27])), (104, (.ifCond .eq 30, (0, 0, 0), .null, [])), (107, (.iload 4, (0, 0, 0), .null, [])), (109, (.iconst 1, (0, 0, 0), .null, [])), (110, (.iconst 2, (0, 0, 0), .null, []))]), (125, [(111, (.iload 5, (0, 0, 0), .null, [])), (113, (.imul, (0, 0, 0), .null, [])), (114, (.iload_n 2, (0, 0, 0), .null, [])), (115, (.iload 6, (0, 0, 0), .null, [])), (117, (.iand, (0, 0, 0), .null, [])), (118, (.ifCond .ne 7, (0, 0, 0), .null, [])), (121, (.iconst 0, (0, 0, 0), .null, [])), (122, (.goto 4, (0, 0, 0), .null, [])), (125, (.iconst 1, (0, 0, 0), .null, []))]), (140, [(126, (.iadd, (0, 0, 0), .null, [])), (127, (.ishl, (0, 0, 0), .null, [])), (128, (.ior, (0, 0, 0), .null, [])), (129, (.istore 4, (0, 0, 0), .null, [])), (131, (.goto 6, (0, 0, 0), .null, [])), (134, (.iload 7, (0, 0, 0), .null, [])), (136, (.istore_n 3, (0, 0, 0), .null, [])), (137, (.iinc 5 1, (0, 0, 0), .null, [])), (140, (.goto (-79), (0, 0, 0), .null, []))]), (159, [(143, (.aload_n 0, (0, 0, 0), .null, [])), (144, (.getfield 81, (8, 12, 0), .null, [2000])), (147, (.iload 4, (0, 0, 0), .null, [])), (149, (.invokevirtual 255, (32, 1, 3), .null, [5229, 5231])), (152, (.aload_n 0, (0, 0, 0), .null, [])), (153, (.getfield 81, (8, 12, 0), .null, [2000])), (156, (.getfield 258, (3, 1, 0), .null, [1187])), (159, (.ireturn, (0, 0, 0), .null, []))])]
def ax_t107 : List (Nat × List (Nat × ax_E2)) := [(5, [(0, (.iload_n 1, (0, 0, 0), .null, [])), (1, (.aload_n 0, (0, 0, 0), .null, [])), (2, (.getfield 81, (8, 12, 0), .null, [2000])), (5, (.invokestatic 261, (114, 2, 0), .null, [6004]))]), (15, [(8, (.aload_n 0, (0, 0, 0), .null, [])), (9, (.getfield 81, (8, 12, 0), .null, [2000])), (12, (.getfield 265, (3, 0, 0), .null, [1185])), (15, (.iload_n 1, (0, 0, 0), .null, []))]), (17, [(16, (.iaload, (0, 0, 0), .null, [])), (17, (.ireturn, (0, 0, 0), .null, []))])]
def ax_t108 : List (Nat × List (Nat × ax_E2)) := [(13, [(0, (.aload_n 0, (0, 0, 0), .null, [])), (1, (.getfield 101, (8, 17, 0), .null, [2005])), (4, (.bipush 8, (0, 0, 0), .null, [])), (6, (.if_icmp .lt 14, (0, 0, 0), .null, [])), (9, (.new 108, (800, 0, 0), .null, [])), (12, (.dup, (0, 0, 0), .null, [])), (13, (.ldc_w 337, (900, 0, 0), .null, []))]), (28, [(16, (.invokespecial 112, (900, 0, 0), .null, [])), (19, (.athrow, (0, 0, 0), .null, [])), (20, (.aload_n 0, (0, 0, 0), .null, [])), (21, (.getfield 94, (8, 15, 0), .null, [2003])), (24, (.aload_n 0, (0, 0, 0), .null, [])), (25, (.getfield 101, (8, 17, 0), .null, [2005])), (28, (.aload_n 0, (0, 0, 0), .null, []))]), (41, [(29, (.getfield 42, (8, 5, 0), .null, [1233])), (32, (.iastore, (0, 0, 0), .null, [])), (33, (.aload_n 0, (0, 0, 0), .null, [])), (34, (.getfield 97, (8, 16, 0), .null, [2004])), (37, (.aload_n 0, (0, 0, 0), .null, [])), (38, (.getfield 101, (8, 17, 0), .null, [2005])), (41, (.aaload, (0, 0, 0), .null, []))]), (54, [(42, (.aload_n 0, (0, 0, 0), .null, [])), (43, (.getfield 67, (8, 9, 0), .null, [1237])), (46, (.invokevirtual 339, (31, 1, 3), .null, [6152, 6154])), (49, (.aload_n 0, (0, 0, 0), .null, [])), (50, (.getfield 90, (8, 14, 0), .null, [2002])), (53, (.aload_n 0, (0, 0, 0), .null, [])), (54, (.getfield 101, (8, 17, 0), .null, [2005]))]), (65, [(57, (.iconst 1, (0, 0, 0), .null, [])), (58, (.iadd, (0, 0, 0), .null, [])), (59, (.aaload, (0, 0, 0), .null, [])), (60, (.aload_n 0, (0, 0, 0), .null, [])), (61, (.getfield 90, (8, 14, 0), .null, [2002])), (64, (.aload_n 0, (0, 0, 0), .null, [])), (65, (.getfield 101, (8, 17, 0), .null, [2005]))]), (78, [(68, (.aaload, (0, 0, 0), .null, [])), (69, (.invokevirtual 343, (41, 1, 5), .null, [6157, 6159])), (72, (.aload_n 0, (0, 0, 0), .null, [])), (73, (.dup, (0, 0, 0), .null, [])), (74, (.getfield 101, (8, 17, 0), .null, [2005])), (77, (.iconst 1, (0, 0, 0), .null, [])), (78, (.iadd, (0, 0, 0), .null, []))]), (86, [(79, (.putfield 101, (8, 17, 0), .null, [2005])), (82, (.aload_n 0, (0, 0, 0), .null, [])), (83, (.getfield 101, (8, 17, 0), .null, [2005])), (86, (.ireturn, (0, 0, 0), .null, []))])]
def ax_t109 : List (Nat × List (Nat × ax_E2)) := [(11, [(0, (.aload_n 0, (0, 0, 0), .null, [])), (1, (.getfield 101, (8, 17, 0), .null, [2005])), (4, (.ifCond .gt 14, (0, 0, 0), .null, [])), (7, (.new 108, (800, 0, 0), .null, [])), (10, (.dup, (0, 0, 0), .null, [])), (11, (.ldc_w 346, (900, 0, 0), .null, []))]), (23, [(14, (.invokespecial 112, (900, 0, 0), .null, [])), (17, (.athrow, (0, 0, 0), .null, [])), (18, (.aload_n 0, (0, 0, 0), .null, [])), (19, (.dup, (0, 0, 0), .null, [])), (20, (.getfield 101, (8, 17, 0), .null, [2005])), (23, (.iconst 1, (0, 0, 0), .null, []))]), (33, [(24, (.isub, (0, 0, 0), .null, [])), (25, (.putfield 101, (8, 17, 0), .null, [2005])), (28, (.aload_n 0, (0, 0, 0), .null, [])), (29, (.aload_n 0, (0, 0, 0), .null, [])), (30, (.getfield 94, (8, 15, 0), .null, [2003])), (33, (.aload_n 0, (0, 0, 0), .null, []))]), (45, [(34, (.getfield 101, (8, 17, 0), .null, [2005])), (37, (.iaload, (0, 0, 0), .null, [])), (38, (.putfield 42, (8, 5, 0), .null, [1233])), (41, (.aload_n 0, (0, 0, 0), .null, [])), (42, (.getfield 67, (8, 9, 0), .null, [1237])), (45, (.aload_n 0, (0, 0, 0), .null, []))]), (57, [(46, (.getfield 97, (8, 16, 0), .null, [2004])), (49, (.aload_n 0, (0, 0, 0), .null, [])), (50, (.getfield 101, (8, 17, 0), .null, [2005])), (53, (.aaload, (0, 0, 0), .null, [])), (54, (.invokevirtual 339, (31, 1, 3), .null, [6152, 6154])), (57, (.aload_n 0, (0, 0, 0), .null, []))]), (65, [(58, (.invokevirtual 285, (121, 0, 8), .null, [3108, 19])), (61, (.aload_n 0, (0, 0, 0), .null, [])), (62, (.getfield 101, (8, 17, 0), .null, [2005])), (65, (.ireturn, (0, 0, 0), .null, []))])]
def ax_t110 : List (Nat × List (Nat × ax_E2)) := [(13, [(0, (.ldc2_w 348, (0, 0, 0), .long (41), [2110])), (3, (.lstore_n 1, (0, 0, 0), .null, [])), (4, (.lload_n 1, (0, 0, 0), .null, [])), (5, (.ldc2_w 350, (0, 0, 0), .long (31), [2111])), (8, (.lmul, (0, 0, 0), .null, [])), (9, (.aload_n 0, (0, 0, 0), .null, [])), (10, (.getfield 42, (8, 5, 0), .null, [1233])), (13, (.i2l, (0, 0, 0), .null, []))]), (25, [(14, (.ladd, (0, 0, 0), .null, [])), (15, (.lstore_n 1, (0, 0, 0), .null, [])), (16, (.lload_n 1, (0, 0, 0), .null, [])), (17, (.ldc2_w 350, (0, 0, 0), .long (31), [2111])), (20, (.lmul, (0, 0, 0), .null, [])), (21, (.aload_n 0, (0, 0, 0), .null, [])), (22, (.getfield 67, (8, 9, 0), .null, [1237])), (25, (.getfield 258, (3, 1, 0), .null, [1187]))]), (37, [(28, (.i2l, (0, 0, 0), .null, [])), (29, (.ladd, (0, 0, 0), .null, [])), (30, (.lstore_n 1, (0, 0, 0), .null, [])), (31, (.lload_n 1, (0, 0, 0), .null, [])), (32, (.ldc2_w 350, (0, 0, 0), .long (31), [2111])), (35, (.lmul, (0, 0, 0), .null, [])), (36, (.aload_n 0, (0, 0, 0), .null, [])), (37, (.getfield 101, (8, 17, 0), .null, [2005]))]), (47, [(40, (.i2l, (0, 0, 0), .null, [])), (41, (.ladd, (0, 0, 0), .null, [])), (42, (.lstore_n 1, (0, 0, 0), .null, [])), (43, (.iconst 0, (0, 0, 0), .null, [])), (44, (.istore_n 3, (0, 0, 0), .null, [])), (45, (.iload_n 3, (0, 0, 0), .null, [])), (46, (.aload_n 0, (0, 0, 0), .null, [])), (47, (.getfield 42, (8, 5, 0), .null, [1233]))]), (63, [(50, (.if_icmp .ge 20, (0, 0, 0), .null, [])), (53, (.aload_n 0, (0, 0, 0), .null, [])), (54, (.getfield 38, (8, 4, 0), .null, [1232])), (57, (.iload_n 3, (0, 0, 0), .null, [])), (58, (.aaload, (0, 0, 0), .null, [])), (59, (.lload_n 1, (0, 0, 0), .null, [])), (60, (.invokevirtual 352, (18, 1, 1), .null, [2112, 2114])), (63, (.lstore_n 1, (0, 0, 0), .null, []))]), (78, [(64, (.iinc 3 1, (0, 0, 0), .null, [])), (67, (.goto (-22), (0, 0, 0), .null, [])), (70, (.iconst 0, (0, 0, 0), .null, [])), (71, (.istore_n 3, (0, 0, 0), .null, [])), (72, (.iload_n 3, (0, 0, 0), .null, [])), (73, (.bipush 12, (0, 0, 0), .null, [])), (75, (.if_icmp .ge 40, (0, 0, 0), .null, [])), (78, (.lload_n 1, (0, 0, 0), .null, []))]), (92, [(79, (.ldc2_w 350, (0, 0, 0), .long (31), [2111])), (82, (.lmul, (0, 0, 0), .null, [])), (83, (.aload_n 0, (0, 0, 0), .null, [])), (84, (.getfield 74, (8, 10, 0), .null, [1238])), (87, (.getfield 296, (0, 0, 0), .null, [1203])), (90, (.iload_n 3, (0, 0, 0), .null, [])), (91, (.iaload, (0, 0, 0), .null, [])), (92, (.i2l, (0, 0, 0), .null, []))]), (104, [(93, (.ladd, (0, 0, 0), .null, [])), (94, (.lstore_n 1, (0, 0, 0), .null, [])), (95, (.lload_n 1, (0, 0, 0), .null, [])), (96, (.ldc2_w 350, (0, 0, 0), .long (31), [2111])), (99, (.lmul, (0, 0, 0), .null, [])), (100, (.aload_n 0, (0, 0, 0), .null, [])), (101, (.getfield 84, (8, 13, 0), .null, [2001])), (104, (.iload_n 3, (0, 0, 0), .null, []))]), (116, [(105, (.iaload, (0, 0, 0), .null, [])), (106, (.i2l, (0, 0, 0), .null, [])), (107, (.ladd, (0, 0, 0), .null, [])), (108, (.lstore_n 1, (0, 0, 0), .null, [])), (109, (.iinc 3 1, (0, 0, 0), .null, [])), (112, (.goto (-40), (0, 0, 0), .null, [])), (115, (.lload_n 1, (0, 0, 0), .null, [])), (116, (.lreturn, (0, 0, 0), .null, []))])]
def ax_t111 : List (Nat × List (Nat × ax_E2)) := [(5, [(0, (.iload_n 1, (0, 0, 0), .null, [])), (1, (.ifCond .lt 11, (0, 0, 0), .null, [])), (4, (.iload_n 1, (0, 0, 0), .null, [])), (5, (.aload_n 0, (0, 0, 0), .null, []))]), (15, [(6, (.getfield 42, (8, 5, 0), .null, [1233])), (9, (.if_icmp .lt 14, (0, 0, 0), .null, [])), (12, (.new 170, (802, 0, 0), .null, [])), (15, (.dup, (0, 0, 0), .null, []))]), (23, [(16, (.ldc_w 356, (900, 0, 0), .null, [])), (19, (.invokespecial 174, (900, 0, 0), .null, [])), (22, (.athrow, (0, 0, 0), .null, [])), (23, (.return_, (0, 0, 0), .null, []))])]
def ax_t112 : List (Nat × List (Nat × ax_E2)) := [(5, [(0, (.iload_n 0, (0, 0, 0), .null, [])), (1, (.ifCond .lt 9, (0, 0, 0), .null, [])), (4, (.iload_n 0, (0, 0, 0), .null, [])), (5, (.bipush 24, (0, 0, 0), .null, []))]), (14, [(7, (.if_icmp .lt 14, (0, 0, 0), .null, [])), (10, (.new 170, (802, 0, 0), .null, [])), (13, (.dup, (0, 0, 0), .null, [])), (14, (.ldc_w 358, (900, 0, 0), .null, []))]), (21, [(17, (.invokespecial 174, (900, 0, 0), .null, [])), (20, (.athrow, (0, 0, 0), .null, [])), (21, (.return_, (0, 0, 0), .null, []))])]
def ax_t113 : List (Nat × List (Nat × ax_E2)) := [(5, [(0, (.iload_n 0, (0, 0, 0), .null, [])), (1, (.ifCond .lt 9, (0, 0, 0), .null, [])), (4, (.iload_n 0, (0, 0, 0), .null, [])), (5, (.bipush 12, (0, 0, 0), .null, []))]), (14, [(7, (.if_icmp .lt 14, (0, 0, 0), .null, [])), (10, (.new 170, (802, 0, 0), .null, [])), (13, (.dup, (0, 0, 0), .null, [])), (14, (.ldc_w 360, (900, 0, 0), .null, []))]), (21, [(17, (.invokespecial 174, (900, 0, 0), .null, [])), (20, (.athrow, (0, 0, 0), .null, [])), (21, (.return_, (0, 0, 0), .null, []))])]
def ax_t114 : List (Nat × List (Nat × ax_E2)) := [(5, [(0, (.iload_n 0, (0, 0, 0), .null, [])), (1, (.ifCond .lt 11, (0, 0, 0), .null, [])), (4, (.iload_n 0, (0, 0, 0), .null, [])), (5, (.aload_n 1, (0, 0, 0), .null, []))]), (15, [(6, (.getfield 258, (3, 1, 0), .null, [1187])), (9, (.if_icmp .lt 14, (0, 0, 0), .null, [])), (12, (.new 170, (802, 0, 0), .null, [])), (15, (.dup, (0, 0, 0), .null, []))]), (23, [(16, (.ldc_w 362, (900, 0, 0), .null, [])), (19, (.invokespecial 174, (900, 0, 0), .null, [])), (22, (.athrow, (0, 0, 0), .null, [])), (23, (.return_, (0, 0, 0), .null, []))])]
def ax_t115 : List (Nat × List (Nat × ax_E2)) := [(5, [(0, (.aload_n 0, (0, 0, 0), .null, [])), (1, (.getfield 42, (8, 5, 0), .null, [1233])), (4, (.iload_n 1, (0, 0, 0), .null, [])), (5, (.iadd, (0, 0, 0), .null, []))]), (14, [(6, (.bipush 60, (0, 0, 0), .null, [])), (8, (.if_icmp .le 14, (0, 0, 0), .null, [])), (11, (.new 108, (800, 0, 0), .null, [])), (14, (.dup, (0, 0, 0), .null, []))]), (22, [(15, (.ldc_w 364, (900, 0, 0), .null, [])), (18, (.invokespecial 112, (900, 0, 0), .null, [])), (21, (.athrow, (0, 0, 0), .null, [])), (22, (.return_, (0, 0, 0), .null, []))])]
def ax_t116 : List (Nat × List (Nat × ax_E2)) := [(5, [(0, (.iload_n 0, (0, 0, 0), .null, [])), (1, (.ifCond .lt 14, (0, 0, 0), .null, [])), (4, (.iload_n 0, (0, 0, 0), .null, [])), (5, (.sipush 4095, (0, 0, 0), .null, []))]), (15, [(8, (.if_icmp .gt 7, (0, 0, 0), .null, [])), (11, (.iconst 1, (0, 0, 0), .null, [])), (12, (.goto 4, (0, 0, 0), .null, [])), (15, (.iconst 0, (0, 0, 0), .null, []))]), (16, [(16, (.ireturn, (0, 0, 0), .null, []))])]
def ax_t117 : List (Nat × List (Nat × ax_E2)) := [(6, [(0, (.aload_n 0, (0, 0, 0), .null, [])), (1, (.iload_n 1, (0, 0, 0), .null, [])), (2, (.ifCond .eq 7, (0, 0, 0), .null, [])), (5, (.iconst (-1), (0, 0, 0), .null, [])), (6, (.goto 10, (0, 0, 0), .null, []))]), (19, [(9, (.aload_n 0, (0, 0, 0), .null, [])), (10, (.getfield 21, (8, 1, 0), .null, [1229])), (13, (.getfield 366, (6, 3, 0), .null, [1067])), (16, (.putfield 25, (8, 2, 0), .null, [1230])), (19, (.aload_n 0, (0, 0, 0), .null, []))]), (28, [(20, (.getfield 10, (8, 0, 0), .null, [1228])), (23, (.iconst 0, (0, 0, 0), .null, [])), (24, (.putfield 105, (7, 1, 0), .null, [1050])), (27, (.iload_n 1, (0, 0, 0), .null, [])), (28, (.ifCond .ne 14, (0, 0, 0), .null, []))]), (41, [(31, (.new 119, (801, 0, 0), .null, [])), (34, (.dup, (0, 0, 0), .null, [])), (35, (.ldc_w 369, (900, 0, 0), .null, [])), (38, (.invokespecial 123, (900, 0, 0), .null, [])), (41, (.athrow, (0, 0, 0), .null, []))]), (42, [(42, (.return_, (0, 0, 0), .null, []))])]
def ax_t118 : List (Nat × List (Nat × ax_E2)) := [(7, [(0, (.aload_n 0, (0, 0, 0), .null, [])), (1, (.getfield 48, (8, 6, 0), .null, [1234])), (4, (.invokevirtual 371, (26, 0, 2), .null, [3078, 3080])), (7, (.aload_n 0, (0, 0, 0), .null, []))]), (17, [(8, (.getfield 48, (8, 6, 0), .null, [1234])), (11, (.invokevirtual 374, (27, 0, 2), .null, [5119, 5121])), (14, (.ifCond .ne 14, (0, 0, 0), .null, [])), (17, (.new 377, (803, 0, 0), .null, []))]), (27, [(20, (.dup, (0, 0, 0), .null, [])), (21, (.ldc_w 379, (900, 0, 0), .null, [])), (24, (.invokespecial 381, (900, 0, 0), .null, [])), (27, (.athrow, (0, 0, 0), .null, []))]), (32, [(28, (.aload_n 0, (0, 0, 0), .null, [])), (29, (.invokevirtual 145, (119, 0, 8), .null, [3074, 17])), (32, (.ireturn, (0, 0, 0), .null, []))])]
def ax_t119 : List (Nat × List (Nat × ax_E2)) := [(11, [(0, (.aload_n 0, (0, 0, 0), .null, [])), (1, (.getfield 48, (8, 6, 0), .null, [1234])), (4, (.invokevirtual 371, (26, 0, 2), .null, [3078, 3080])), (7, (.aload_n 0, (0, 0, 0), .null, [])), (8, (.getfield 42, (8, 5, 0), .null, [1233])), (11, (.istore_n 1, (0, 0, 0), .null, []))]), (19, [(12, (.aload_n 0, (0, 0, 0), .null, [])), (13, (.getfield 38, (8, 4, 0), .null, [1232])), (16, (.iload_n 1, (0, 0, 0), .null, [])), (17, (.aaload, (0, 0, 0), .null, [])), (18, (.aload_n 0, (0, 0, 0), .null, [])), (19, (.getfield 48, (8, 6, 0), .null, [1234]))]), (31, [(22, (.invokevirtual 382, (7, 1, 1), .null, [3088, 3090])), (25, (.aload_n 0, (0, 0, 0), .null, [])), (26, (.dup, (0, 0, 0), .null, [])), (27, (.getfield 42, (8, 5, 0), .null, [1233])), (30, (.iconst 1, (0, 0, 0), .null, [])), (31, (.iadd, (0, 0, 0), .null, []))]), (43, [(32, (.putfield 42, (8, 5, 0), .null, [1233])), (35, (.aload_n 0, (0, 0, 0), .null, [])), (36, (.getfield 60, (8, 8, 0), .null, [1236])), (39, (.aload_n 0, (0, 0, 0), .null, [])), (40, (.getfield 38, (8, 4, 0), .null, [1232])), (43, (.iload_n 1, (0, 0, 0), .null, []))]), (53, [(44, (.aaload, (0, 0, 0), .null, [])), (45, (.invokevirtual 384, (37, 1, 4), .null, [3092, 3094])), (48, (.aload_n 0, (0, 0, 0), .null, [])), (49, (.invokevirtual 299, (122, 0, 8), .null, [2063, 0])), (52, (.aload_n 0, (0, 0, 0), .null, [])), (53, (.getfield 60, (8, 8, 0), .null, [1236]))]), (65, [(56, (.aload_n 0, (0, 0, 0), .null, [])), (57, (.getfield 38, (8, 4, 0), .null, [1232])), (60, (.iload_n 1, (0, 0, 0), .null, [])), (61, (.aaload, (0, 0, 0), .null, [])), (62, (.getfield 182, (1, 1, 0), .null, [1156])), (65, (.i2l, (0, 0, 0), .null, []))]), (74, [(66, (.invokevirtual 388, (42, 2, 5), .null, [3100, 3102])), (69, (.aload_n 0, (0, 0, 0), .null, [])), (70, (.invokevirtual 285, (121, 0, 8), .null, [3108, 19])), (73, (.iload_n 1, (0, 0, 0), .null, [])), (74, (.ireturn, (0, 0, 0), .null, []))])]
def ax_t120 : List (Nat × List (Nat × ax_E2)) := [(8, [(0, (.aload_n 0, (0, 0, 0), .null, [])), (1, (.getfield 48, (8, 6, 0), .null, [1234])), (4, (.invokevirtual 371, (26, 0, 2), .null, [3078, 3080])), (7, (.aload_n 0, (0, 0, 0), .null, [])), (8, (.getfield 53, (8, 7, 0), .null, [1235]))]), (19, [(11, (.aload_n 0, (0, 0, 0), .null, [])), (12, (.getfield 48, (8, 6, 0), .null, [1234])), (15, (.invokevirtual 382, (7, 1, 1), .null, [3088, 3090])), (18, (.aload_n 0, (0, 0, 0), .null, [])), (19, (.getfield 60, (8, 8, 0), .null, [1236]))]), (30, [(22, (.aload_n 0, (0, 0, 0), .null, [])), (23, (.getfield 53, (8, 7, 0), .null, [1235])), (26, (.invokevirtual 384, (37, 1, 4), .null, [3092, 3094])), (29, (.aload_n 0, (0, 0, 0), .null, [])), (30, (.invokevirtual 299, (122, 0, 8), .null, [2063, 0]))]), (41, [(33, (.aload_n 0, (0, 0, 0), .null, [])), (34, (.getfield 60, (8, 8, 0), .null, [1236])), (37, (.aload_n 0, (0, 0, 0), .null, [])), (38, (.getfield 53, (8, 7, 0), .null, [1235])), (41, (.getfield 182, (1, 1, 0), .null, [1156]))]), (48, [(44, (.i2l, (0, 0, 0), .null, [])), (45, (.invokevirtual 392, (43, 2, 5), .null, [3157, 3159])), (48, (.ireturn, (0, 0, 0), .null, []))])]
def ax_t121 : List (Nat × List (Nat × ax_E2)) := [(10, [(0, (.aload_n 0, (0, 0, 0), .null, [])), (1, (.getfield 74, (8, 10, 0), .null, [1238])), (4, (.invokevirtual 396, (1, 0, 0), .null, [3112, 3114])), (7, (.iconst 0, (0, 0, 0), .null, [])), (8, (.istore_n 1, (0, 0, 0), .null, [])), (9, (.iload_n 1, (0, 0, 0), .null, [])), (10, (.aload_n 0, (0, 0, 0), .null, []))]), (25, [(11, (.getfield 67, (8, 9, 0), .null, [1237])), (14, (.getfield 258, (3, 1, 0), .null, [1187])), (17, (.if_icmp .ge 25, (0, 0, 0), .null, [])), (20, (.aload_n 0, (0, 0, 0), .null, [])), (21, (.getfield 74, (8, 10, 0), .null, [1238])), (24, (.aload_n 0, (0, 0, 0), .null, [])), (25, (.getfield 67, (8, 9, 0), .null, [1237]))]), (42, [(28, (.getfield 265, (3, 0, 0), .null, [1185])), (31, (.iload_n 1, (0, 0, 0), .null, [])), (32, (.iaload, (0, 0, 0), .null, [])), (33, (.invokevirtual 397, (4, 1, 0), .null, [3116, 3118])), (36, (.iinc 1 1, (0, 0, 0), .null, [])), (39, (.goto (-30), (0, 0, 0), .null, [])), (42, (.iconst 1, (0, 0, 0), .null, []))]), (52, [(43, (.istore_n 1, (0, 0, 0), .null, [])), (44, (.iconst 0, (0, 0, 0), .null, [])), (45, (.istore_n 2, (0, 0, 0), .null, [])), (46, (.iload_n 2, (0, 0, 0), .null, [])), (47, (.bipush 12, (0, 0, 0), .null, [])), (49, (.if_icmp .gt 59, (0, 0, 0), .null, [])), (52, (.iload_n 1, (0, 0, 0), .null, []))]), (61, [(53, (.ifCond .eq 55, (0, 0, 0), .null, [])), (56, (.iconst 0, (0, 0, 0), .null, [])), (57, (.istore_n 1, (0, 0, 0), .null, [])), (58, (.iconst 0, (0, 0, 0), .null, [])), (59, (.istore_n 3, (0, 0, 0), .null, [])), (60, (.iload_n 3, (0, 0, 0), .null, [])), (61, (.aload_n 0, (0, 0, 0), .null, []))]), (78, [(62, (.getfield 42, (8, 5, 0), .null, [1233])), (65, (.if_icmp .ge 37, (0, 0, 0), .null, [])), (68, (.aload_n 0, (0, 0, 0), .null, [])), (69, (.getfield 74, (8, 10, 0), .null, [1238])), (72, (.getfield 273, (0, 1, 0), .null, [1206])), (75, (.ifCond .ne 27, (0, 0, 0), .null, [])), (78, (.aload_n 0, (0, 0, 0), .null, []))]), (91, [(79, (.getfield 38, (8, 4, 0), .null, [1232])), (82, (.iload_n 3, (0, 0, 0), .null, [])), (83, (.aaload, (0, 0, 0), .null, [])), (84, (.aload_n 0, (0, 0, 0), .null, [])), (85, (.getfield 74, (8, 10, 0), .null, [1238])), (88, (.invokevirtual 400, (13, 1, 1), .null, [3120, 3122])), (91, (.ifCond .eq 5, (0, 0, 0), .null, []))]), (108, [(94, (.iconst 1, (0, 0, 0), .null, [])), (95, (.istore_n 1, (0, 0, 0), .null, [])), (96, (.iinc 3 1, (0, 0, 0), .null, [])), (99, (.goto (-39), (0, 0, 0), .null, [])), (102, (.iinc 2 1, (0, 0, 0), .null, [])), (105, (.goto (-59), (0, 0, 0), .null, [])), (108, (.return_, (0, 0, 0), .null, []))])]
def ax_t122 : List (Nat × List (Nat × ax_E2)) := [(5, [(0, (.aload_n 0, (0, 0, 0), .null, [])), (1, (.getfield 90, (8, 14, 0), .null, [2002])), (4, (.aload_n 0, (0, 0, 0), .null, [])), (5, (.getfield 101, (8, 17, 0), .null, [2005]))]), (9, [(8, (.aaload, (0, 0, 0), .null, [])), (9, (.areturn, (0, 0, 0), .null, []))])]
def ax_t123 : List (Nat × List (Nat × ax_E2)) := [(5, [(0, (.aload_n 0, (0, 0, 0), .null, [])), (1, (.getfield 67, (8, 9, 0), .null, [1237])), (4, (.iconst 0, (0, 0, 0), .null, [])), (5, (.invokevirtual 404, (33, 1, 3), .null, [2071, 2073]))]), (8, [(8, (.ireturn, (0, 0, 0), .null, []))])]
def ax_t124 : List (Nat × List (Nat × ax_E2)) := [(5, [(0, (.aload_n 0, (0, 0, 0), .null, [])), (1, (.getfield 67, (8, 9, 0), .null, [1237])), (4, (.iconst 1, (0, 0, 0), .null, [])), (5, (.invokevirtual 404, (33, 1, 3), .null, [2071, 2073]))]), (8, [(8, (.ireturn, (0, 0, 0), .null, []))])]
def ax_t125 : List (Nat × List (Nat × ax_E2)) := [(5, [(0, (.aload_n 0, (0, 0, 0), .null, [])), (1, (.invokevirtual 299, (122, 0, 8), .null, [2063, 0])), (4, (.iconst 0, (0, 0, 0), .null, [])), (5, (.aload_n 0, (0, 0, 0), .null, []))]), (11, [(6, (.invokevirtual 303, (123, 0, 8), .null, [2067, 1])), (9, (.iload_n 1, (0, 0, 0), .null, [])), (10, (.ior, (0, 0, 0), .null, [])), (11, (.aload_n 0, (0, 0, 0), .null, []))]), (17, [(12, (.invokevirtual 306, (124, 0, 8), .null, [2075, 2])), (15, (.iload_n 2, (0, 0, 0), .null, [])), (16, (.ior, (0, 0, 0), .null, [])), (17, (.invokevirtual 309, (44, 3, 5), .null, [2079, 2081]))]), (27, [(20, (.ifCond .lt 7, (0, 0, 0), .null, [])), (23, (.iconst 1, (0, 0, 0), .null, [])), (24, (.goto 4, (0, 0, 0), .null, [])), (27, (.iconst 0, (0, 0, 0), .null, []))]), (28, [(28, (.ireturn, (0, 0, 0), .null, []))])]
def ax_t126 : List (Nat × List (Nat × ax_E2)) := [(8, [(0, (.aload_n 0, (0, 0, 0), .null, [])), (1, (.getfield 60, (8, 8, 0), .null, [1236])), (4, (.aload_n 0, (0, 0, 0), .null, [])), (5, (.getfield 84, (8, 13, 0), .null, [2001])), (8, (.invokevirtual 407, (38, 1, 4), .null, [6107, 6109]))]), (19, [(11, (.aload_n 0, (0, 0, 0), .null, [])), (12, (.invokevirtual 299, (122, 0, 8), .null, [2063, 0])), (15, (.aload_n 0, (0, 0, 0), .null, [])), (16, (.getfield 60, (8, 8, 0), .null, [1236])), (19, (.aload_n 0, (0, 0, 0), .null, []))]), (30, [(20, (.invokevirtual 303, (123, 0, 8), .null, [2067, 1])), (23, (.aload_n 0, (0, 0, 0), .null, [])), (24, (.invokevirtual 306, (124, 0, 8), .null, [2075, 2])), (27, (.invokevirtual 411, (46, 3, 5), .null, [6111, 6113])), (30, (.istore_n 1, (0, 0, 0), .null, []))]), (39, [(31, (.iload_n 1, (0, 0, 0), .null, [])), (32, (.ifCond .ge 14, (0, 0, 0), .null, [])), (35, (.new 268, (804, 0, 0), .null, [])), (38, (.dup, (0, 0, 0), .null, [])), (39, (.ldc_w 415, (900, 0, 0), .null, []))]), (47, [(42, (.invokespecial 272, (900, 0, 0), .null, [])), (45, (.athrow, (0, 0, 0), .null, [])), (46, (.iload_n 1, (0, 0, 0), .null, [])), (47, (.ireturn, (0, 0, 0), .null, []))])]
def ax_t127 : List (Nat × List (Nat × ax_E2)) := [(5, [(0, (.iload_n 1, (0, 0, 0), .null, [])), (1, (.iconst 1, (0, 0, 0), .null, [])), (2, (.ishr, (0, 0, 0), .null, [])), (3, (.iload_n 2, (0, 0, 0), .null, [])), (4, (.iconst 1, (0, 0, 0), .null, [])), (5, (.ishr, (0, 0, 0), .null, []))]), (15, [(6, (.if_icmp .ne 14, (0, 0, 0), .null, [])), (9, (.iload_n 1, (0, 0, 0), .null, [])), (10, (.iload_n 2, (0, 0, 0), .null, [])), (11, (.if_icmp .eq 7, (0, 0, 0), .null, [])), (14, (.iconst 1, (0, 0, 0), .null, [])), (15, (.goto 4, (0, 0, 0), .null, []))]), (23, [(18, (.iconst 0, (0, 0, 0), .null, [])), (19, (.ireturn, (0, 0, 0), .null, [])), (20, (.iconst 0, (0, 0, 0), .null, [])), (21, (.istore_n 3, (0, 0, 0), .null, [])), (22, (.iload_n 3, (0, 0, 0), .null, [])), (23, (.aload_n 0, (0, 0, 0), .null, []))]), (35, [(24, (.getfield 42, (8, 5, 0), .null, [1233])), (27, (.if_icmp .ge 25, (0, 0, 0), .null, [])), (30, (.aload_n 0, (0, 0, 0), .null, [])), (31, (.getfield 38, (8, 4, 0), .null, [1232])), (34, (.iload_n 3, (0, 0, 0), .null, [])), (35, (.aaload, (0, 0, 0), .null, []))]), (45, [(36, (.iload_n 1, (0, 0, 0), .null, [])), (37, (.iload_n 2, (0, 0, 0), .null, [])), (38, (.invokevirtual 417, (12, 2, 1), .null, [5214, 5216])), (41, (.ifCond .eq 5, (0, 0, 0), .null, [])), (44, (.iconst 1, (0, 0, 0), .null, [])), (45, (.ireturn, (0, 0, 0), .null, []))]), (53, [(46, (.iinc 3 1, (0, 0, 0), .null, [])), (49, (.goto (-27), (0, 0, 0), .null, [])), (52, (.iconst 0, (0, 0, 0), .null, [])), (53, (.ireturn, (0, 0, 0), .null, []))])]
def ax_t128 : List (Nat × List (Nat × ax_E2)) := [(5, [(0, (.iconst 0, (0, 0, 0), .null, [])), (1, (.istore_n 3, (0, 0, 0), .null, [])), (2, (.iload_n 3, (0, 0, 0), .null, [])), (3, (.bipush 24, (0, 0, 0), .null, [])), (5, (.if_icmp .ge 29, (0, 0, 0), .null, []))]), (12, [(8, (.iload_n 2, (0, 0, 0), .null, [])), (9, (.iload_n 3, (0, 0, 0), .null, [])), (10, (.ishr, (0, 0, 0), .null, [])), (11, (.iconst 1, (0, 0, 0), .null, [])), (12, (.iand, (0, 0, 0), .null, []))]), (19, [(13, (.iconst 1, (0, 0, 0), .null, [])), (14, (.if_icmp .ne 14, (0, 0, 0), .null, [])), (17, (.aload_n 0, (0, 0, 0), .null, [])), (18, (.iload_n 1, (0, 0, 0), .null, [])), (19, (.iload_n 3, (0, 0, 0), .null, []))]), (28, [(20, (.invokevirtual 248, (127, 2, 8), .null, [5210, 25])), (23, (.ifCond .ne 5, (0, 0, 0), .null, [])), (26, (.iconst 0, (0, 0, 0), .null, [])), (27, (.ireturn, (0, 0, 0), .null, [])), (28, (.iinc 3 1, (0, 0, 0), .null, []))]), (35, [(31, (.goto (-29), (0, 0, 0), .null, [])), (34, (.iconst 1, (0, 0, 0), .null, [])), (35, (.ireturn, (0, 0, 0), .null, []))])]
def ax_t129 : List (Nat × List (Nat × ax_E2)) := [(4, [(0, (.iload_n 0, (0, 0, 0), .null, [])), (1, (.istore_n 2, (0, 0, 0), .null, [])), (2, (.iload_n 1, (0, 0, 0), .null, [])), (3, (.istore_n 3, (0, 0, 0), .null, [])), (4, (.iconst 0, (0, 0, 0), .null, []))]), (14, [(5, (.istore 4, (0, 0, 0), .null, [])), (7, (.iload 4, (0, 0, 0), .null, [])), (9, (.bipush 64, (0, 0, 0), .null, [])), (11, (.if_icmp .ge 23, (0, 0, 0), .null, [])), (14, (.iload_n 3, (0, 0, 0), .null, []))]), (21, [(15, (.ifCond .eq 19, (0, 0, 0), .null, [])), (18, (.iload_n 2, (0, 0, 0), .null, [])), (19, (.iload_n 3, (0, 0, 0), .null, [])), (20, (.irem, (0, 0, 0), .null, [])), (21, (.istore 5, (0, 0, 0), .null, []))]), (28, [(23, (.iload_n 3, (0, 0, 0), .null, [])), (24, (.istore_n 2, (0, 0, 0), .null, [])), (25, (.iload 5, (0, 0, 0), .null, [])), (27, (.istore_n 3, (0, 0, 0), .null, [])), (28, (.iinc 4 1, (0, 0, 0), .null, []))]), (39, [(31, (.goto (-24), (0, 0, 0), .null, [])), (34, (.iconst 1, (0, 0, 0), .null, [])), (35, (.iload_n 2, (0, 0, 0), .null, [])), (36, (.invokestatic 420, (702, 2, 0), .null, [5194])), (39, (.ireturn, (0, 0, 0), .null, []))])]
def ax_t130 : List (Nat × List (Nat × ax_E2)) := [(21, [(0, (.aload_n 0, (0, 0, 0), .null, [])), (1, (.invokespecial 1, (0, 0, 2), .null, [6175])), (4, (.aload_n 0, (0, 0, 0), .null, [])), (5, (.sipush 1440, (0, 0, 0), .null, [])), (8, (.newarray .long, (1, 0, 0), .null, [1144])), (10, (.putfield 9, (9, 2, 0), .null, [6178])), (13, (.aload_n 0, (0, 0, 0), .null, [])), (14, (.bipush 60, (0, 0, 0), .null, [])), (16, (.newarray .long, (1, 0, 0), .null, [1144])), (18, (.putfield 13, (9, 3, 0), .null, [6179])), (21, (.aload_n 0, (0, 0, 0), .null, []))]), (43, [(22, (.bipush 24, (0, 0, 0), .null, [])), (24, (.newarray .long, (1, 0, 0), .null, [1144])), (26, (.putfield 16, (9, 4, 0), .null, [6180])), (29, (.aload_n 0, (0, 0, 0), .null, [])), (30, (.sipush 200, (0, 0, 0), .null, [])), (33, (.newarray .int, (0, 0, 0), .null, [1056])), (35, (.putfield 19, (9, 6, 0), .null, [6182])), (38, (.aload_n 0, (0, 0, 0), .null, [])), (39, (.iconst (-1), (0, 0, 0), .null, [])), (40, (.putfield 23, (9, 11, 0), .null, [6187])), (43, (.aload_n 0, (0, 0, 0), .null, []))]), (67, [(44, (.sipush 200, (0, 0, 0), .null, [])), (47, (.newarray .long, (1, 0, 0), .null, [1144])), (49, (.putfield 27, (9, 12, 0), .null, [6188])), (52, (.aload_n 0, (0, 0, 0), .null, [])), (53, (.sipush 200, (0, 0, 0), .null, [])), (56, (.newarray .int, (0, 0, 0), .null, [1056])), (58, (.putfield 30, (9, 13, 0), .null, [6189])), (61, (.aload_n 0, (0, 0, 0), .null, [])), (62, (.sipush 400, (0, 0, 0), .null, [])), (65, (.newarray .int, (0, 0, 0), .null, [1056])), (67, (.putfield 33, (9, 17, 0), .null, [6193]))]), (89, [(70, (.aload_n 0, (0, 0, 0), .null, [])), (71, (.bipush 24, (0, 0, 0), .null, [])), (73, (.newarray .boolean, (2, 0, 0), .null, [7033])), (75, (.putfield 36, (9, 20, 0), .null, [6196])), (78, (.aload_n 0, (0, 0, 0), .null, [])), (79, (.bipush 12, (0, 0, 0), .null, [])), (81, (.newarray .int, (0, 0, 0), .null, [1056])), (83, (.putfield 40, (9, 22, 0), .null, [6198])), (86, (.aload_n 0, (0, 0, 0), .null, [])), (87, (.bipush 12, (0, 0, 0), .null, [])), (89, (.newarray .int, (0, 0, 0), .null, [1056]))]), (101, [(91, (.dup, (0, 0, 0), .null, [])), (92, (.iconst 0, (0, 0, 0), .null, [])), (93, (.iconst (-1), (0, 0, 0), .null, [])), (94, (.iastore, (0, 0, 0), .null, [])), (95, (.dup, (0, 0, 0), .null, [])), (96, (.iconst 1, (0, 0, 0), .null, [])), (97, (.iconst (-1), (0, 0, 0), .null, [])), (98, (.iastore, (0, 0, 0), .null, [])), (99, (.dup, (0, 0, 0), .null, [])), (100, (.iconst 2, (0, 0, 0), .null, [])), (101, (.iconst (-1), (0, 0, 0), .null, []))]), (112, [(102, (.iastore, (0, 0, 0), .null, [])), (103, (.dup, (0, 0, 0), .null, [])), (104, (.iconst 3, (0, 0, 0), .null, [])), (105, (.iconst (-1), (0, 0, 0), .null, [])), (106, (.iastore, (0, 0, 0), .null, [])), (107, (.dup, (0, 0, 0), .null, [])), (108, (.iconst 4, (0, 0, 0), .null, [])), (109, (.iconst (-1), (0, 0, 0), .null, [])), (110, (.iastore, (0, 0, 0), .null, [])), (111, (.dup, (0, 0, 0), .null, [])), (112, (.iconst 5, (0, 0, 0), .null, []))]), (125, [(113, (.iconst (-1), (0, 0, 0), .null, [])), (114, (.iastore, (0, 0, 0), .null, [])), (115, (.dup, (0, 0, 0), .null, [])), (116, (.bipush 6, (0, 0, 0), .null, [])), (118, (.iconst (-1), (0, 0, 0), .null, [])), (119, (.iastore, (0, 0, 0), .null, [])), (120, (.dup, (0, 0, 0), .null, [])), (121, (.bipush 7, (0, 0, 0), .null, [])), (123, (.iconst (-1), (0, 0, 0), .null, [])), (124, (.iastore, (0, 0, 0), .null, [])), (125, (.dup, (0, 0, 0), .null, []))]), (139, [(126, (.bipush 8, (0, 0, 0), .null, [])), (128, (.iconst (-1), (0, 0, 0), .null, [])), (129, (.iastore, (0, 0, 0), .null, [])), (130, (.dup, (0, 0, 0), .null, [])), (131, (.bipush 9, (0, 0, 0), .null, [])), (133, (.iconst (-1), (0, 0, 0), .null, [])), (134, (.iastore, (0, 0, 0), .null, [])), (135, (.dup, (0, 0, 0), .null, [])), (136, (.bipush 10, (0, 0, 0), .null, [])), (138, (.iconst (-1), (0, 0, 0), .null, [])), (139, (.iastore, (0, 0, 0), .null, []))]), (157, [(140, (.dup, (0, 0, 0), .null, [])), (141, (.bipush 11, (0, 0, 0), .null, [])), (143, (.iconst (-1), (0, 0, 0), .null, [])), (144, (.iastore, (0, 0, 0), .null, [])), (145, (.putfield 43, (9, 23, 0), .null, [6199])), (148, (.aload_n 0, (0, 0, 0), .null, [])), (149, (.bipush 12, (0, 0, 0), .null, [])), (151, (.newarray .int, (0, 0, 0), .null, [1056])), (153, (.putfield 46, (9, 25, 0), .null, [6201])), (156, (.aload_n 0, (0, 0, 0), .null, [])), (157, (.bipush 24, (0, 0, 0), .null, []))]), (180, [(159, (.newarray .boolean, (2, 0, 0), .null, [7033])), (161, (.putfield 49, (9, 27, 0), .null, [6203])), (164, (.aload_n 0, (0, 0, 0), .null, [])), (165, (.bipush 8, (0, 0, 0), .null, [])), (167, (.newarray .int, (0, 0, 0), .null, [1056])), (169, (.putfield 52, (9, 29, 0), .null, [6205])), (172, (.aload_n 0, (0, 0, 0), .null, [])), (173, (.bipush 8, (0, 0, 0), .null, [])), (175, (.newarray .int, (0, 0, 0), .null, [1056])), (177, (.putfield 55, (9, 30, 0), .null, [6206])), (180, (.aload_n 0, (0, 0, 0), .null, []))]), (188, [(181, (.bipush 96, (0, 0, 0), .null, [])), (183, (.newarray .int, (0, 0, 0), .null, [1056])), (185, (.putfield 58, (9, 31, 0), .null, [6207])), (188, (.return_, (0, 0, 0), .null, []))])]
def ax_t131 : List (Nat × List (Nat × ax_E2)) := [(4, [(0, (.aload_n 0, (0, 0, 0), .null, [])), (1, (.getfield 61, (9, 0, 0), .null, [6176])), (4, (.ireturn, (0, 0, 0), .null, []))])]
def ax_t132 : List (Nat × List (Nat × ax_E2)) := [(5, [(0, (.aload_n 0, (0, 0, 0), .null, [])), (1, (.iload_n 1, (0, 0, 0), .null, [])), (2, (.putfield 61, (9, 0, 0), .null, [6176])), (5, (.iconst 0, (0, 0, 0), .null, []))]), (6, [(6, (.ireturn, (0, 0, 0), .null, []))])]
def ax_t133 : List (Nat × List (Nat × ax_E2)) := [(5, [(0, (.iload_n 1, (0, 0, 0), .null, [])), (1, (.ifCond .lt 15, (0, 0, 0), .null, [])), (4, (.iload_n 1, (0, 0, 0), .null, [])), (5, (.aload_n 0, (0, 0, 0), .null, []))]), (13, [(6, (.getfield 64, (9, 1, 0), .null, [6177])), (9, (.if_icmp .ge 7, (0, 0, 0), .null, [])), (12, (.iconst 1, (0, 0, 0), .null, [])), (13, (.goto 4, (0, 0, 0), .null, []))]), (17, [(16, (.iconst 0, (0, 0, 0), .null, [])), (17, (.ireturn, (0, 0, 0), .null, []))])]
def ax_t134 : List (Nat × List (Nat × ax_E2)) := [(5, [(0, (.iload_n 0, (0, 0, 0), .null, [])), (1, (.ifCond .lt 13, (0, 0, 0), .null, [])), (4, (.iload_n 0, (0, 0, 0), .null, [])), (5, (.bipush 12, (0, 0, 0), .null, []))]), (14, [(7, (.if_icmp .ge 7, (0, 0, 0), .null, [])), (10, (.iconst 1, (0, 0, 0), .null, [])), (11, (.goto 4, (0, 0, 0), .null, [])), (14, (.iconst 0, (0, 0, 0), .null, []))]), (15, [(15, (.ireturn, (0, 0, 0), .null, []))])]
def ax_t135 : List (Nat × List (Nat × ax_E2)) := [(5, [(0, (.iload_n 0, (0, 0, 0), .null, [])), (1, (.ifCond .lt 13, (0, 0, 0), .null, [])), (4, (.iload_n 0, (0, 0, 0), .null, [])), (5, (.bipush 24, (0, 0, 0), .null, []))]), (14, [(7, (.if_icmp .ge 7, (0, 0, 0), .null, [])), (10, (.iconst 1, (0, 0, 0), .null, [])), (11, (.goto 4, (0, 0, 0), .null, [])), (14, (.iconst 0, (0, 0, 0), .null, []))]), (15, [(15, (.ireturn, (0, 0, 0), .null, []))])]
def ax_t136 : List (Nat × List (Nat × ax_E2)) := [(6, [(0, (.aload_n 0, (0, 0, 0), .null, [])), (1, (.getfield 9, (9, 2, 0), .null, [6178])), (4, (.bipush 24, (0, 0, 0), .null, [])), (6, (.iload_n 1, (0, 0, 0), .null, []))]), (10, [(7, (.imul, (0, 0, 0), .null, [])), (8, (.iload_n 2, (0, 0, 0), .null, [])), (9, (.iadd, (0, 0, 0), .null, [])), (10, (.laload, (0, 0, 0), .null, []))]), (11, [(11, (.lreturn, (0, 0, 0), .null, []))])]
def ax_t137 : List (Nat × List (Nat × ax_E2)) := [(3, [(0, (.iconst 0, (0, 0, 0), .null, [])), (1, (.istore_n 1, (0, 0, 0), .null, [])), (2, (.iload_n 1, (0, 0, 0), .null, [])), (3, (.bipush 24, (0, 0, 0), .null, []))]), (12, [(5, (.if_icmp .ge 16, (0, 0, 0), .null, [])), (8, (.aload_n 0, (0, 0, 0), .null, [])), (9, (.getfield 16, (9, 4, 0), .null, [6180])), (12, (.iload_n 1, (0, 0, 0), .null, []))]), (18, [(13, (.lconst 0, (0, 0, 0), .null, [])), (14, (.lastore, (0, 0, 0), .null, [])), (15, (.iinc 1 1, (0, 0, 0), .null, [])), (18, (.goto (-16), (0, 0, 0), .null, []))]), (26, [(21, (.aload_n 0, (0, 0, 0), .null, [])), (22, (.lconst 0, (0, 0, 0), .null, [])), (23, (.putfield 67, (9, 5, 0), .null, [6181])), (26, (.return_, (0, 0, 0), .null, []))])]
def ax_t138 : List (Nat × List (Nat × ax_E2)) := [(6, [(0, (.lload_n 1, (0, 0, 0), .null, [])), (1, (.lconst 0, (0, 0, 0), .null, [])), (2, (.lcmp, (0, 0, 0), .null, [])), (3, (.ifCond .lt 16, (0, 0, 0), .null, [])), (6, (.aload_n 0, (0, 0, 0), .null, []))]), (13, [(7, (.getfield 16, (9, 4, 0), .null, [6180])), (10, (.iload_n 3, (0, 0, 0), .null, [])), (11, (.dup2, (0, 0, 0), .null, [])), (12, (.laload, (0, 0, 0), .null, [])), (13, (.lload_n 1, (0, 0, 0), .null, []))]), (20, [(14, (.ladd, (0, 0, 0), .null, [])), (15, (.lastore, (0, 0, 0), .null, [])), (16, (.goto 25, (0, 0, 0), .null, [])), (19, (.aload_n 0, (0, 0, 0), .null, [])), (20, (.getfield 16, (9, 4, 0), .null, [6180]))]), (27, [(23, (.iload_n 3, (0, 0, 0), .null, [])), (24, (.iconst 1, (0, 0, 0), .null, [])), (25, (.ixor, (0, 0, 0), .null, [])), (26, (.dup2, (0, 0, 0), .null, [])), (27, (.laload, (0, 0, 0), .null, []))]), (32, [(28, (.lload_n 1, (0, 0, 0), .null, [])), (29, (.lsub, (0, 0, 0), .null, [])), (30, (.lastore, (0, 0, 0), .null, [])), (31, (.aload_n 0, (0, 0, 0), .null, [])), (32, (.dup, (0, 0, 0), .null, []))]), (41, [(33, (.getfield 67, (9, 5, 0), .null, [6181])), (36, (.lload_n 1, (0, 0, 0), .null, [])), (37, (.lsub, (0, 0, 0), .null, [])), (38, (.putfield 67, (9, 5, 0), .null, [6181])), (41, (.return_, (0, 0, 0), .null, []))])]
def ax_t139 : List (Nat × List (Nat × ax_E2)) := [(7, [(0, (.iconst 0, (0, 0, 0), .null, [])), (1, (.istore 4, (0, 0, 0), .null, [])), (3, (.iload 4, (0, 0, 0), .null, [])), (5, (.bipush 24, (0, 0, 0), .null, [])), (7, (.if_icmp .ge 24, (0, 0, 0), .null, []))]), (14, [(10, (.aload_n 0, (0, 0, 0), .null, [])), (11, (.lload_n 2, (0, 0, 0), .null, [])), (12, (.aload_n 0, (0, 0, 0), .null, [])), (13, (.iload_n 1, (0, 0, 0), .null, [])), (14, (.iload 4, (0, 0, 0), .null, []))]), (25, [(16, (.invokevirtual 71, (136, 2, 9), .null, [7121, 45])), (19, (.lmul, (0, 0, 0), .null, [])), (20, (.iload 4, (0, 0, 0), .null, [])), (22, (.invokevirtual 75, (138, 2, 9), .null, [7099, 40])), (25, (.iinc 4 1, (0, 0, 0), .null, []))]), (36, [(28, (.goto (-25), (0, 0, 0), .null, [])), (31, (.aload_n 0, (0, 0, 0), .null, [])), (32, (.dup, (0, 0, 0), .null, [])), (33, (.getfield 67, (9, 5, 0), .null, [6181])), (36, (.lload_n 2, (0, 0, 0), .null, []))]), (43, [(37, (.aload_n 0, (0, 0, 0), .null, [])), (38, (.getfield 13, (9, 3, 0), .null, [6179])), (41, (.iload_n 1, (0, 0, 0), .null, [])), (42, (.laload, (0, 0, 0), .null, [])), (43, (.lmul, (0, 0, 0), .null, []))]), (48, [(44, (.ladd, (0, 0, 0), .null, [])), (45, (.putfield 67, (9, 5, 0), .null, [6181])), (48, (.return_, (0, 0, 0), .null, []))])]
def ax_t140 : List (Nat × List (Nat × ax_E2)) := [(9, [(0, (.iconst 0, (0, 0, 0), .null, [])), (1, (.istore_n 1, (0, 0, 0), .null, [])), (2, (.iload_n 1, (0, 0, 0), .null, [])), (3, (.bipush 24, (0, 0, 0), .null, [])), (5, (.if_icmp .ge 59, (0, 0, 0), .null, [])), (8, (.aload_n 0, (0, 0, 0), .null, [])), (9, (.getfield 16, (9, 4, 0), .null, [6180]))]), (20, [(12, (.iload_n 1, (0, 0, 0), .null, [])), (13, (.laload, (0, 0, 0), .null, [])), (14, (.aload_n 0, (0, 0, 0), .null, [])), (15, (.getfield 16, (9, 4, 0), .null, [6180])), (18, (.iload_n 1, (0, 0, 0), .null, [])), (19, (.iconst 1, (0, 0, 0), .null, [])), (20, (.iadd, (0, 0, 0), .null, []))]), (31, [(21, (.laload, (0, 0, 0), .null, [])), (22, (.invokestatic 79, (700, 2, 0), .null, [7107])), (25, (.lstore_n 2, (0, 0, 0), .null, [])), (26, (.aload_n 0, (0, 0, 0), .null, [])), (27, (.getfield 16, (9, 4, 0), .null, [6180])), (30, (.iload_n 1, (0, 0, 0), .null, [])), (31, (.dup2, (0, 0, 0), .null, []))]), (40, [(32, (.laload, (0, 0, 0), .null, [])), (33, (.lload_n 2, (0, 0, 0), .null, [])), (34, (.lsub, (0, 0, 0), .null, [])), (35, (.lastore, (0, 0, 0), .null, [])), (36, (.aload_n 0, (0, 0, 0), .null, [])), (37, (.getfield 16, (9, 4, 0), .null, [6180])), (40, (.iload_n 1, (0, 0, 0), .null, []))]), (47, [(41, (.iconst 1, (0, 0, 0), .null, [])), (42, (.iadd, (0, 0, 0), .null, [])), (43, (.dup2, (0, 0, 0), .null, [])), (44, (.laload, (0, 0, 0), .null, [])), (45, (.lload_n 2, (0, 0, 0), .null, [])), (46, (.lsub, (0, 0, 0), .null, [])), (47, (.lastore, (0, 0, 0), .null, []))]), (58, [(48, (.aload_n 0, (0, 0, 0), .null, [])), (49, (.dup, (0, 0, 0), .null, [])), (50, (.getfield 67, (9, 5, 0), .null, [6181])), (53, (.lload_n 2, (0, 0, 0), .null, [])), (54, (.lsub, (0, 0, 0), .null, [])), (55, (.putfield 67, (9, 5, 0), .null, [6181])), (58, (.iinc 1 2, (0, 0, 0), .null, []))]), (73, [(61, (.goto (-59), (0, 0, 0), .null, [])), (64, (.aload_n 0, (0, 0, 0), .null, [])), (65, (.aload_n 0, (0, 0, 0), .null, [])), (66, (.getfield 67, (9, 5, 0), .null, [6181])), (69, (.lconst 0, (0, 0, 0), .null, [])), (70, (.invokestatic 85, (701, 2, 0), .null, [7108])), (73, (.putfield 67, (9, 5, 0), .null, [6181]))]), (76, [(76, (.return_, (0, 0, 0), .null, []))])]
def ax_t141 : List (Nat × List (Nat × ax_E2)) := [(11, [(0, (.aload_n 0, (0, 0, 0), .null, [])), (1, (.getfield 67, (9, 5, 0), .null, [6181])), (4, (.ldc2_w 88, (0, 0, 0), .long (1000000000), [7228])), (7, (.lcmp, (0, 0, 0), .null, [])), (8, (.ifCond .gt 7, (0, 0, 0), .null, [])), (11, (.iconst 1, (0, 0, 0), .null, []))]), (19, [(12, (.goto 4, (0, 0, 0), .null, [])), (15, (.iconst 0, (0, 0, 0), .null, [])), (16, (.istore_n 1, (0, 0, 0), .null, [])), (17, (.iconst 0, (0, 0, 0), .null, [])), (18, (.istore_n 2, (0, 0, 0), .null, [])), (19, (.iload_n 2, (0, 0, 0), .null, []))]), (30, [(20, (.bipush 24, (0, 0, 0), .null, [])), (22, (.if_icmp .ge 30, (0, 0, 0), .null, [])), (25, (.iload_n 1, (0, 0, 0), .null, [])), (26, (.aload_n 0, (0, 0, 0), .null, [])), (27, (.getfield 16, (9, 4, 0), .null, [6180])), (30, (.iload_n 2, (0, 0, 0), .null, []))]), (40, [(31, (.laload, (0, 0, 0), .null, [])), (32, (.ldc2_w 88, (0, 0, 0), .long (1000000000), [7228])), (35, (.lcmp, (0, 0, 0), .null, [])), (36, (.ifCond .gt 7, (0, 0, 0), .null, [])), (39, (.iconst 1, (0, 0, 0), .null, [])), (40, (.goto 4, (0, 0, 0), .null, []))]), (52, [(43, (.iconst 0, (0, 0, 0), .null, [])), (44, (.iand, (0, 0, 0), .null, [])), (45, (.istore_n 1, (0, 0, 0), .null, [])), (46, (.iinc 2 1, (0, 0, 0), .null, [])), (49, (.goto (-30), (0, 0, 0), .null, [])), (52, (.iload_n 1, (0, 0, 0), .null, []))]), (53, [(53, (.ireturn, (0, 0, 0), .null, []))])]
def ax_t142 : List (Nat × List (Nat × ax_E2)) := [(8, [(0, (.iconst 0, (0, 0, 0), .null, [])), (1, (.istore_n 1, (0, 0, 0), .null, [])), (2, (.iload_n 1, (0, 0, 0), .null, [])), (3, (.bipush 24, (0, 0, 0), .null, [])), (5, (.if_icmp .ge 29, (0, 0, 0), .null, [])), (8, (.aload_n 0, (0, 0, 0), .null, []))]), (19, [(9, (.getfield 9, (9, 2, 0), .null, [6178])), (12, (.bipush 24, (0, 0, 0), .null, [])), (14, (.aload_n 0, (0, 0, 0), .null, [])), (15, (.getfield 64, (9, 1, 0), .null, [6177])), (18, (.imul, (0, 0, 0), .null, [])), (19, (.iload_n 1, (0, 0, 0), .null, []))]), (27, [(20, (.iadd, (0, 0, 0), .null, [])), (21, (.aload_n 0, (0, 0, 0), .null, [])), (22, (.getfield 16, (9, 4, 0), .null, [6180])), (25, (.iload_n 1, (0, 0, 0), .null, [])), (26, (.laload, (0, 0, 0), .null, [])), (27, (.lastore, (0, 0, 0), .null, []))]), (39, [(28, (.iinc 1 1, (0, 0, 0), .null, [])), (31, (.goto (-29), (0, 0, 0), .null, [])), (34, (.aload_n 0, (0, 0, 0), .null, [])), (35, (.getfield 13, (9, 3, 0), .null, [6179])), (38, (.aload_n 0, (0, 0, 0), .null, [])), (39, (.getfield 64, (9, 1, 0), .null, [6177]))]), (49, [(42, (.aload_n 0, (0, 0, 0), .null, [])), (43, (.getfield 67, (9, 5, 0), .null, [6181])), (46, (.lastore, (0, 0, 0), .null, [])), (47, (.aload_n 0, (0, 0, 0), .null, [])), (48, (.dup, (0, 0, 0), .null, [])), (49, (.getfield 64, (9, 1, 0), .null, [6177]))]), (61, [(52, (.iconst 1, (0, 0, 0), .null, [])), (53, (.iadd, (0, 0, 0), .null, [])), (54, (.putfield 64, (9, 1, 0), .null, [6177])), (57, (.aload_n 0, (0, 0, 0), .null, [])), (58, (.invokevirtual 90, (191, 0, 9), .null, [7113, 43])), (61, (.aload_n 0, (0, 0, 0), .null, []))]), (67, [(62, (.getfield 64, (9, 1, 0), .null, [6177])), (65, (.iconst 1, (0, 0, 0), .null, [])), (66, (.isub, (0, 0, 0), .null, [])), (67, (.ireturn, (0, 0, 0), .null, []))])]
def ax_t143 : List (Nat × List (Nat × ax_E2)) := [(15, [(0, (.aload_n 0, (0, 0, 0), .null, [])), (1, (.iconst 0, (0, 0, 0), .null, [])), (2, (.putfield 61, (9, 0, 0), .null, [6176])), (5, (.aload_n 0, (0, 0, 0), .null, [])), (6, (.getfield 93, (9, 7, 0), .null, [6183])), (9, (.bipush 20, (0, 0, 0), .null, [])), (11, (.iadd, (0, 0, 0), .null, [])), (12, (.sipush 200, (0, 0, 0), .null, [])), (15, (.if_icmp .le 9, (0, 0, 0), .null, []))]), (29, [(18, (.aload_n 0, (0, 0, 0), .null, [])), (19, (.iconst 1, (0, 0, 0), .null, [])), (20, (.invokevirtual 96, (132, 1, 9), .null, [7042, 29])), (23, (.ireturn, (0, 0, 0), .null, [])), (24, (.iconst 5, (0, 0, 0), .null, [])), (25, (.newarray .int, (0, 0, 0), .null, [1056])), (27, (.dup, (0, 0, 0), .null, [])), (28, (.iconst 0, (0, 0, 0), .null, [])), (29, (.iload_n 1, (0, 0, 0), .null, []))]), (38, [(30, (.iastore, (0, 0, 0), .null, [])), (31, (.dup, (0, 0, 0), .null, [])), (32, (.iconst 1, (0, 0, 0), .null, [])), (33, (.iload_n 2, (0, 0, 0), .null, [])), (34, (.iastore, (0, 0, 0), .null, [])), (35, (.dup, (0, 0, 0), .null, [])), (36, (.iconst 2, (0, 0, 0), .null, [])), (37, (.iload_n 3, (0, 0, 0), .null, [])), (38, (.iastore, (0, 0, 0), .null, []))]), (49, [(39, (.dup, (0, 0, 0), .null, [])), (40, (.iconst 3, (0, 0, 0), .null, [])), (41, (.iload 4, (0, 0, 0), .null, [])), (43, (.iastore, (0, 0, 0), .null, [])), (44, (.dup, (0, 0, 0), .null, [])), (45, (.iconst 4, (0, 0, 0), .null, [])), (46, (.iload 5, (0, 0, 0), .null, [])), (48, (.iastore, (0, 0, 0), .null, [])), (49, (.astore 6, (0, 0, 0), .null, []))]), (65, [(51, (.aload 6, (0, 0, 0), .null, [])), (53, (.astore 7, (0, 0, 0), .null, [])), (55, (.aload 7, (0, 0, 0), .null, [])), (57, (.arraylength, (0, 0, 0), .null, [])), (58, (.istore 8, (0, 0, 0), .null, [])), (60, (.iconst 0, (0, 0, 0), .null, [])), (61, (.istore 9, (0, 0, 0), .null, [])), (63, (.iload 9, (0, 0, 0), .null, [])), (65, (.iload 8, (0, 0, 0), .null, []))]), (83, [(67, (.if_icmp .ge 59, (0, 0, 0), .null, [])), (70, (.aload 7, (0, 0, 0), .null, [])), (72, (.iload 9, (0, 0, 0), .null, [])), (74, (.iaload, (0, 0, 0), .null, [])), (75, (.istore 10, (0, 0, 0), .null, [])), (77, (.bipush 24, (0, 0, 0), .null, [])), (79, (.istore 11, (0, 0, 0), .null, [])), (81, (.iload 11, (0, 0, 0), .null, [])), (83, (.ifCond .lt 37, (0, 0, 0), .null, []))]), (102, [(86, (.aload_n 0, (0, 0, 0), .null, [])), (87, (.getfield 19, (9, 6, 0), .null, [6182])), (90, (.aload_n 0, (0, 0, 0), .null, [])), (91, (.getfield 93, (9, 7, 0), .null, [6183])), (94, (.iload 10, (0, 0, 0), .null, [])), (96, (.iload 11, (0, 0, 0), .null, [])), (98, (.ishr, (0, 0, 0), .null, [])), (99, (.sipush 255, (0, 0, 0), .null, [])), (102, (.iand, (0, 0, 0), .null, []))]), (117, [(103, (.iastore, (0, 0, 0), .null, [])), (104, (.aload_n 0, (0, 0, 0), .null, [])), (105, (.dup, (0, 0, 0), .null, [])), (106, (.getfield 93, (9, 7, 0), .null, [6183])), (109, (.iconst 1, (0, 0, 0), .null, [])), (110, (.iadd, (0, 0, 0), .null, [])), (111, (.putfield 93, (9, 7, 0), .null, [6183])), (114, (.iinc 11 (-8), (0, 0, 0), .null, [])), (117, (.goto (-36), (0, 0, 0), .null, []))]), (130, [(120, (.iinc 9 1, (0, 0, 0), .null, [])), (123, (.goto (-60), (0, 0, 0), .null, [])), (126, (.aload_n 0, (0, 0, 0), .null, [])), (127, (.getfield 93, (9, 7, 0), .null, [6183])), (130, (.ireturn, (0, 0, 0), .null, []))])]
def ax_t144 : List (Nat × List (Nat × ax_E2)) := [(5, [(0, (.aload_n 0, (0, 0, 0), .null, [])), (1, (.iconst 0, (0, 0, 0), .null, [])), (2, (.putfield 61, (9, 0, 0), .null, [6176])), (5, (.iload_n 1, (0, 0, 0), .null, []))]), (11, [(6, (.ifCond .lt 11, (0, 0, 0), .null, [])), (9, (.iload_n 1, (0, 0, 0), .null, [])), (10, (.aload_n 0, (0, 0, 0), .null, [])), (11, (.getfield 93, (9, 7, 0), .null, [6183]))]), (19, [(14, (.if_icmp .le 9, (0, 0, 0), .null, [])), (17, (.aload_n 0, (0, 0, 0), .null, [])), (18, (.iconst 1, (0, 0, 0), .null, [])), (19, (.invokevirtual 96, (132, 1, 9), .null, [7042, 29]))]), (25, [(22, (.ireturn, (0, 0, 0), .null, [])), (23, (.aload_n 0, (0, 0, 0), .null, [])), (24, (.iload_n 1, (0, 0, 0), .null, [])), (25, (.putfield 93, (9, 7, 0), .null, [6183]))]), (29, [(28, (.iload_n 1, (0, 0, 0), .null, [])), (29, (.ireturn, (0, 0, 0), .null, []))])]
def ax_t145 : List (Nat × List (Nat × ax_E2)) := [(5, [(0, (.iload_n 1, (0, 0, 0), .null, [])), (1, (.aload_n 0, (0, 0, 0), .null, [])), (2, (.getfield 93, (9, 7, 0), .null, [6183])), (5, (.if_icmp .ge 12, (0, 0, 0), .null, []))]), (13, [(8, (.aload_n 0, (0, 0, 0), .null, [])), (9, (.getfield 19, (9, 6, 0), .null, [6182])), (12, (.iload_n 1, (0, 0, 0), .null, [])), (13, (.iaload, (0, 0, 0), .null, []))]), (18, [(14, (.goto 4, (0, 0, 0), .null, [])), (17, (.iconst (-1), (0, 0, 0), .null, [])), (18, (.ireturn, (0, 0, 0), .null, []))])]
def ax_t146 : List (Nat × List (Nat × ax_E2)) := [(6, [(0, (.iload_n 0, (0, 0, 0), .null, [])), (1, (.bipush 48, (0, 0, 0), .null, [])), (3, (.if_icmp .lt 13, (0, 0, 0), .null, [])), (6, (.iload_n 0, (0, 0, 0), .null, []))]), (13, [(7, (.bipush 57, (0, 0, 0), .null, [])), (9, (.if_icmp .gt 7, (0, 0, 0), .null, [])), (12, (.iconst 1, (0, 0, 0), .null, [])), (13, (.goto 4, (0, 0, 0), .null, []))]), (17, [(16, (.iconst 0, (0, 0, 0), .null, [])), (17, (.ireturn, (0, 0, 0), .null, []))])]
def ax_t147 : List (Nat × List (Nat × ax_E2)) := [(19, [(0, (.aload_n 0, (0, 0, 0), .null, [])), (1, (.aload_n 0, (0, 0, 0), .null, [])), (2, (.getfield 100, (9, 8, 0), .null, [6184])), (5, (.invokevirtual 103, (145, 1, 9), .null, [7062, 32])), (8, (.bipush 32, (0, 0, 0), .null, [])), (10, (.if_icmp .ne 16, (0, 0, 0), .null, [])), (13, (.aload_n 0, (0, 0, 0), .null, [])), (14, (.dup, (0, 0, 0), .null, [])), (15, (.getfield 100, (9, 8, 0), .null, [6184])), (18, (.iconst 1, (0, 0, 0), .null, [])), (19, (.iadd, (0, 0, 0), .null, []))]), (42, [(20, (.putfield 100, (9, 8, 0), .null, [6184])), (23, (.goto (-23), (0, 0, 0), .null, [])), (26, (.aload_n 0, (0, 0, 0), .null, [])), (27, (.aload_n 0, (0, 0, 0), .null, [])), (28, (.getfield 100, (9, 8, 0), .null, [6184])), (31, (.putfield 106, (9, 9, 0), .null, [6185])), (34, (.aload_n 0, (0, 0, 0), .null, [])), (35, (.aload_n 0, (0, 0, 0), .null, [])), (36, (.getfield 100, (9, 8, 0), .null, [6184])), (39, (.invokevirtual 103, (145, 1, 9), .null, [7062, 32])), (42, (.istore_n 1, (0, 0, 0), .null, []))]), (61, [(43, (.aload_n 0, (0, 0, 0), .null, [])), (44, (.iconst 5, (0, 0, 0), .null, [])), (45, (.putfield 109, (9, 10, 0), .null, [6186])), (48, (.iload_n 1, (0, 0, 0), .null, [])), (49, (.ifCond .ge 11, (0, 0, 0), .null, [])), (52, (.aload_n 0, (0, 0, 0), .null, [])), (53, (.iconst (-1), (0, 0, 0), .null, [])), (54, (.putfield 109, (9, 10, 0), .null, [6186])), (57, (.goto 169, (0, 0, 0), .null, [])), (60, (.iload_n 1, (0, 0, 0), .null, [])), (61, (.invokestatic 112, (146, 1, 0), .null, [7066]))]), (86, [(64, (.ifCond .eq 38, (0, 0, 0), .null, [])), (67, (.aload_n 0, (0, 0, 0), .null, [])), (68, (.aload_n 0, (0, 0, 0), .null, [])), (69, (.getfield 100, (9, 8, 0), .null, [6184])), (72, (.invokevirtual 103, (145, 1, 9), .null, [7062, 32])), (75, (.invokestatic 112, (146, 1, 0), .null, [7066])), (78, (.ifCond .eq 16, (0, 0, 0), .null, [])), (81, (.aload_n 0, (0, 0, 0), .null, [])), (82, (.dup, (0, 0, 0), .null, [])), (83, (.getfield 100, (9, 8, 0), .null, [6184])), (86, (.iconst 1, (0, 0, 0), .null, []))]), (108, [(87, (.iadd, (0, 0, 0), .null, [])), (88, (.putfield 100, (9, 8, 0), .null, [6184])), (91, (.goto (-24), (0, 0, 0), .null, [])), (94, (.aload_n 0, (0, 0, 0), .null, [])), (95, (.iconst 1, (0, 0, 0), .null, [])), (96, (.putfield 109, (9, 10, 0), .null, [6186])), (99, (.goto 127, (0, 0, 0), .null, [])), (102, (.iload_n 1, (0, 0, 0), .null, [])), (103, (.bipush 97, (0, 0, 0), .null, [])), (105, (.if_icmp .lt 27, (0, 0, 0), .null, [])), (108, (.iload_n 1, (0, 0, 0), .null, []))]), (126, [(109, (.bipush 108, (0, 0, 0), .null, [])), (111, (.if_icmp .gt 21, (0, 0, 0), .null, [])), (114, (.aload_n 0, (0, 0, 0), .null, [])), (115, (.dup, (0, 0, 0), .null, [])), (116, (.getfield 100, (9, 8, 0), .null, [6184])), (119, (.iconst 1, (0, 0, 0), .null, [])), (120, (.iadd, (0, 0, 0), .null, [])), (121, (.putfield 100, (9, 8, 0), .null, [6184])), (124, (.aload_n 0, (0, 0, 0), .null, [])), (125, (.iconst 2, (0, 0, 0), .null, [])), (126, (.putfield 109, (9, 10, 0), .null, [6186]))]), (150, [(129, (.goto 97, (0, 0, 0), .null, [])), (132, (.iload_n 1, (0, 0, 0), .null, [])), (133, (.bipush 43, (0, 0, 0), .null, [])), (135, (.if_icmp .eq 21, (0, 0, 0), .null, [])), (138, (.iload_n 1, (0, 0, 0), .null, [])), (139, (.bipush 45, (0, 0, 0), .null, [])), (141, (.if_icmp .eq 15, (0, 0, 0), .null, [])), (144, (.iload_n 1, (0, 0, 0), .null, [])), (145, (.bipush 126, (0, 0, 0), .null, [])), (147, (.if_icmp .eq 9, (0, 0, 0), .null, [])), (150, (.iload_n 1, (0, 0, 0), .null, []))]), (168, [(151, (.bipush 61, (0, 0, 0), .null, [])), (153, (.if_icmp .ne 21, (0, 0, 0), .null, [])), (156, (.aload_n 0, (0, 0, 0), .null, [])), (157, (.dup, (0, 0, 0), .null, [])), (158, (.getfield 100, (9, 8, 0), .null, [6184])), (161, (.iconst 1, (0, 0, 0), .null, [])), (162, (.iadd, (0, 0, 0), .null, [])), (163, (.putfield 100, (9, 8, 0), .null, [6184])), (166, (.aload_n 0, (0, 0, 0), .null, [])), (167, (.iload_n 1, (0, 0, 0), .null, [])), (168, (.putfield 109, (9, 10, 0), .null, [6186]))]), (191, [(171, (.goto 55, (0, 0, 0), .null, [])), (174, (.iload_n 1, (0, 0, 0), .null, [])), (175, (.bipush 60, (0, 0, 0), .null, [])), (177, (.if_icmp .eq 9, (0, 0, 0), .null, [])), (180, (.iload_n 1, (0, 0, 0), .null, [])), (181, (.bipush 62, (0, 0, 0), .null, [])), (183, (.if_icmp .ne 43, (0, 0, 0), .null, [])), (186, (.aload_n 0, (0, 0, 0), .null, [])), (187, (.aload_n 0, (0, 0, 0), .null, [])), (188, (.getfield 100, (9, 8, 0), .null, [6184])), (191, (.iconst 1, (0, 0, 0), .null, []))]), (211, [(192, (.iadd, (0, 0, 0), .null, [])), (193, (.invokevirtual 103, (145, 1, 9), .null, [7062, 32])), (196, (.bipush 61, (0, 0, 0), .null, [])), (198, (.if_icmp .ne 28, (0, 0, 0), .null, [])), (201, (.aload_n 0, (0, 0, 0), .null, [])), (202, (.dup, (0, 0, 0), .null, [])), (203, (.getfield 100, (9, 8, 0), .null, [6184])), (206, (.iconst 2, (0, 0, 0), .null, [])), (207, (.iadd, (0, 0, 0), .null, [])), (208, (.putfield 100, (9, 8, 0), .null, [6184])), (211, (.aload_n 0, (0, 0, 0), .null, []))]), (226, [(212, (.iload_n 1, (0, 0, 0), .null, [])), (213, (.bipush 60, (0, 0, 0), .null, [])), (215, (.if_icmp .ne 7, (0, 0, 0), .null, [])), (218, (.iconst 4, (0, 0, 0), .null, [])), (219, (.goto 4, (0, 0, 0), .null, [])), (222, (.iconst 3, (0, 0, 0), .null, [])), (223, (.putfield 109, (9, 10, 0), .null, [6186])), (226, (.return_, (0, 0, 0), .null, []))])]
def ax_t148 : List (Nat × List (Nat × ax_E2)) := [(7, [(0, (.aload_n 0, (0, 0, 0), .null, [])), (1, (.getfield 23, (9, 11, 0), .null, [6187])), (4, (.ifCond .ge 11, (0, 0, 0), .null, [])), (7, (.aload_n 0, (0, 0, 0), .null, []))]), (15, [(8, (.aload_n 0, (0, 0, 0), .null, [])), (9, (.getfield 106, (9, 9, 0), .null, [6185])), (12, (.putfield 23, (9, 11, 0), .null, [6187])), (15, (.return_, (0, 0, 0), .null, []))])]
def ax_t149 : List (Nat × List (Nat × ax_E2)) := [(7, [(0, (.aload_n 0, (0, 0, 0), .null, [])), (1, (.getfield 23, (9, 11, 0), .null, [6187])), (4, (.ifCond .ge 7, (0, 0, 0), .null, [])), (7, (.iconst 1, (0, 0, 0), .null, []))]), (12, [(8, (.goto 4, (0, 0, 0), .null, [])), (11, (.iconst 0, (0, 0, 0), .null, [])), (12, (.ireturn, (0, 0, 0), .null, []))])]
def ax_t150 : List (Nat × List (Nat × ax_E2)) := [(9, [(0, (.aload_n 0, (0, 0, 0), .null, [])), (1, (.getfield 100, (9, 8, 0), .null, [6184])), (4, (.aload_n 0, (0, 0, 0), .null, [])), (5, (.getfield 106, (9, 9, 0), .null, [6185])), (8, (.isub, (0, 0, 0), .null, [])), (9, (.bipush 6, (0, 0, 0), .null, []))]), (20, [(11, (.if_icmp .le 9, (0, 0, 0), .null, [])), (14, (.aload_n 0, (0, 0, 0), .null, [])), (15, (.invokevirtual 116, (148, 0, 9), .null, [7077, 35])), (18, (.lconst 0, (0, 0, 0), .null, [])), (19, (.lreturn, (0, 0, 0), .null, [])), (20, (.lconst 0, (0, 0, 0), .null, []))]), (28, [(21, (.lstore_n 1, (0, 0, 0), .null, [])), (22, (.aload_n 0, (0, 0, 0), .null, [])), (23, (.getfield 106, (9, 9, 0), .null, [6185])), (26, (.istore_n 3, (0, 0, 0), .null, [])), (27, (.iload_n 3, (0, 0, 0), .null, [])), (28, (.aload_n 0, (0, 0, 0), .null, []))]), (40, [(29, (.getfield 100, (9, 8, 0), .null, [6184])), (32, (.if_icmp .ge 27, (0, 0, 0), .null, [])), (35, (.ldc2_w 119, (0, 0, 0), .long (10), [7081])), (38, (.lload_n 1, (0, 0, 0), .null, [])), (39, (.lmul, (0, 0, 0), .null, [])), (40, (.aload_n 0, (0, 0, 0), .null, []))]), (48, [(41, (.getfield 19, (9, 6, 0), .null, [6182])), (44, (.iload_n 3, (0, 0, 0), .null, [])), (45, (.iaload, (0, 0, 0), .null, [])), (46, (.i2l, (0, 0, 0), .null, [])), (47, (.ladd, (0, 0, 0), .null, [])), (48, (.ldc2_w 121, (0, 0, 0), .long (48), [7082]))]), (60, [(51, (.lsub, (0, 0, 0), .null, [])), (52, (.lstore_n 1, (0, 0, 0), .null, [])), (53, (.iinc 3 1, (0, 0, 0), .null, [])), (56, (.goto (-29), (0, 0, 0), .null, [])), (59, (.lload_n 1, (0, 0, 0), .null, [])), (60, (.lreturn, (0, 0, 0), .null, []))])]
def ax_t151 : List (Nat × List (Nat × ax_E2)) := [(14, [(0, (.lconst 1, (0, 0, 0), .null, [])), (1, (.lstore_n 2, (0, 0, 0), .null, [])), (2, (.aload_n 0, (0, 0, 0), .null, [])), (3, (.getfield 109, (9, 10, 0), .null, [6186])), (6, (.iconst 1, (0, 0, 0), .null, [])), (7, (.if_icmp .ne 19, (0, 0, 0), .null, [])), (10, (.aload_n 0, (0, 0, 0), .null, [])), (11, (.invokevirtual 123, (150, 0, 9), .null, [7073, 34])), (14, (.lstore_n 2, (0, 0, 0), .null, []))]), (30, [(15, (.aload_n 0, (0, 0, 0), .null, [])), (16, (.invokevirtual 127, (149, 0, 9), .null, [7083, 36])), (19, (.ifCond .eq 7, (0, 0, 0), .null, [])), (22, (.aload_n 0, (0, 0, 0), .null, [])), (23, (.invokevirtual 131, (147, 0, 9), .null, [7058, 31])), (26, (.iconst 0, (0, 0, 0), .null, [])), (27, (.istore 4, (0, 0, 0), .null, [])), (29, (.aload_n 0, (0, 0, 0), .null, [])), (30, (.invokevirtual 127, (149, 0, 9), .null, [7083, 36]))]), (49, [(33, (.ifCond .eq 19, (0, 0, 0), .null, [])), (36, (.aload_n 0, (0, 0, 0), .null, [])), (37, (.getfield 109, (9, 10, 0), .null, [6186])), (40, (.bipush 126, (0, 0, 0), .null, [])), (42, (.if_icmp .ne 10, (0, 0, 0), .null, [])), (45, (.iconst 1, (0, 0, 0), .null, [])), (46, (.istore 4, (0, 0, 0), .null, [])), (48, (.aload_n 0, (0, 0, 0), .null, [])), (49, (.invokevirtual 131, (147, 0, 9), .null, [7058, 31]))]), (68, [(52, (.aload_n 0, (0, 0, 0), .null, [])), (53, (.invokevirtual 127, (149, 0, 9), .null, [7083, 36])), (56, (.ifCond .eq 15, (0, 0, 0), .null, [])), (59, (.aload_n 0, (0, 0, 0), .null, [])), (60, (.getfield 109, (9, 10, 0), .null, [6186])), (63, (.iconst 2, (0, 0, 0), .null, [])), (64, (.if_icmp .eq 7, (0, 0, 0), .null, [])), (67, (.aload_n 0, (0, 0, 0), .null, [])), (68, (.invokevirtual 116, (148, 0, 9), .null, [7077, 35]))]), (87, [(71, (.aload_n 0, (0, 0, 0), .null, [])), (72, (.invokevirtual 127, (149, 0, 9), .null, [7083, 36])), (75, (.ifCond .ne 4, (0, 0, 0), .null, [])), (78, (.return_, (0, 0, 0), .null, [])), (79, (.aload_n 0, (0, 0, 0), .null, [])), (80, (.getfield 27, (9, 12, 0), .null, [6188])), (83, (.aload_n 0, (0, 0, 0), .null, [])), (84, (.getfield 134, (9, 14, 0), .null, [6190])), (87, (.iload_n 1, (0, 0, 0), .null, []))]), (102, [(88, (.ifCond .eq 8, (0, 0, 0), .null, [])), (91, (.lload_n 2, (0, 0, 0), .null, [])), (92, (.lneg, (0, 0, 0), .null, [])), (93, (.goto 4, (0, 0, 0), .null, [])), (96, (.lload_n 2, (0, 0, 0), .null, [])), (97, (.lastore, (0, 0, 0), .null, [])), (98, (.aload_n 0, (0, 0, 0), .null, [])), (99, (.getfield 30, (9, 13, 0), .null, [6189])), (102, (.aload_n 0, (0, 0, 0), .null, []))]), (118, [(103, (.getfield 134, (9, 14, 0), .null, [6190])), (106, (.iconst 2, (0, 0, 0), .null, [])), (107, (.aload_n 0, (0, 0, 0), .null, [])), (108, (.getfield 19, (9, 6, 0), .null, [6182])), (111, (.aload_n 0, (0, 0, 0), .null, [])), (112, (.getfield 106, (9, 9, 0), .null, [6185])), (115, (.iaload, (0, 0, 0), .null, [])), (116, (.bipush 97, (0, 0, 0), .null, [])), (118, (.isub, (0, 0, 0), .null, []))]), (130, [(119, (.imul, (0, 0, 0), .null, [])), (120, (.iload 4, (0, 0, 0), .null, [])), (122, (.iadd, (0, 0, 0), .null, [])), (123, (.iastore, (0, 0, 0), .null, [])), (124, (.aload_n 0, (0, 0, 0), .null, [])), (125, (.dup, (0, 0, 0), .null, [])), (126, (.getfield 134, (9, 14, 0), .null, [6190])), (129, (.iconst 1, (0, 0, 0), .null, [])), (130, (.iadd, (0, 0, 0), .null, []))]), (138, [(131, (.putfield 134, (9, 14, 0), .null, [6190])), (134, (.aload_n 0, (0, 0, 0), .null, [])), (135, (.invokevirtual 131, (147, 0, 9), .null, [7058, 31])), (138, (.return_, (0, 0, 0), .null, []))])]
def ax_t152 : List (Nat × List (Nat × ax_E2)) := [(19, [(0, (.aload_n 0, (0, 0, 0), .null, [])), (1, (.iconst (-1), (0, 0, 0), .null, [])), (2, (.putfield 23, (9, 11, 0), .null, [6187])), (5, (.aload_n 0, (0, 0, 0), .null, [])), (6, (.iconst 0, (0, 0, 0), .null, [])), (7, (.putfield 100, (9, 8, 0), .null, [6184])), (10, (.aload_n 0, (0, 0, 0), .null, [])), (11, (.iconst 0, (0, 0, 0), .null, [])), (12, (.putfield 134, (9, 14, 0), .null, [6190])), (15, (.aload_n 0, (0, 0, 0), .null, [])), (16, (.invokevirtual 131, (147, 0, 9), .null, [7058, 31])), (19, (.aload_n 0, (0, 0, 0), .null, []))]), (42, [(20, (.getfield 109, (9, 10, 0), .null, [6186])), (23, (.bipush 45, (0, 0, 0), .null, [])), (25, (.if_icmp .ne 7, (0, 0, 0), .null, [])), (28, (.iconst 1, (0, 0, 0), .null, [])), (29, (.goto 4, (0, 0, 0), .null, [])), (32, (.iconst 0, (0, 0, 0), .null, [])), (33, (.istore_n 1, (0, 0, 0), .null, [])), (34, (.iload_n 1, (0, 0, 0), .null, [])), (35, (.ifCond .eq 7, (0, 0, 0), .null, [])), (38, (.aload_n 0, (0, 0, 0), .null, [])), (39, (.invokevirtual 131, (147, 0, 9), .null, [7058, 31])), (42, (.aload_n 0, (0, 0, 0), .null, []))]), (67, [(43, (.iload_n 1, (0, 0, 0), .null, [])), (44, (.invokevirtual 137, (151, 1, 9), .null, [7069, 33])), (47, (.aload_n 0, (0, 0, 0), .null, [])), (48, (.invokevirtual 127, (149, 0, 9), .null, [7083, 36])), (51, (.ifCond .eq 48, (0, 0, 0), .null, [])), (54, (.aload_n 0, (0, 0, 0), .null, [])), (55, (.getfield 109, (9, 10, 0), .null, [6186])), (58, (.bipush 43, (0, 0, 0), .null, [])), (60, (.if_icmp .eq 12, (0, 0, 0), .null, [])), (63, (.aload_n 0, (0, 0, 0), .null, [])), (64, (.getfield 109, (9, 10, 0), .null, [6186])), (67, (.bipush 45, (0, 0, 0), .null, []))]), (91, [(69, (.if_icmp .ne 30, (0, 0, 0), .null, [])), (72, (.aload_n 0, (0, 0, 0), .null, [])), (73, (.getfield 109, (9, 10, 0), .null, [6186])), (76, (.bipush 45, (0, 0, 0), .null, [])), (78, (.if_icmp .ne 7, (0, 0, 0), .null, [])), (81, (.iconst 1, (0, 0, 0), .null, [])), (82, (.goto 4, (0, 0, 0), .null, [])), (85, (.iconst 0, (0, 0, 0), .null, [])), (86, (.istore_n 1, (0, 0, 0), .null, [])), (87, (.aload_n 0, (0, 0, 0), .null, [])), (88, (.invokevirtual 131, (147, 0, 9), .null, [7058, 31])), (91, (.aload_n 0, (0, 0, 0), .null, []))]), (115, [(92, (.iload_n 1, (0, 0, 0), .null, [])), (93, (.invokevirtual 137, (151, 1, 9), .null, [7069, 33])), (96, (.goto (-49), (0, 0, 0), .null, [])), (99, (.aload_n 0, (0, 0, 0), .null, [])), (100, (.aload_n 0, (0, 0, 0), .null, [])), (101, (.getfield 109, (9, 10, 0), .null, [6186])), (104, (.putfield 141, (9, 15, 0), .null, [6191])), (107, (.aload_n 0, (0, 0, 0), .null, [])), (108, (.invokevirtual 127, (149, 0, 9), .null, [7083, 36])), (111, (.ifCond .eq 32, (0, 0, 0), .null, [])), (114, (.aload_n 0, (0, 0, 0), .null, [])), (115, (.getfield 109, (9, 10, 0), .null, [6186]))]), (140, [(118, (.bipush 61, (0, 0, 0), .null, [])), (120, (.if_icmp .eq 23, (0, 0, 0), .null, [])), (123, (.aload_n 0, (0, 0, 0), .null, [])), (124, (.getfield 109, (9, 10, 0), .null, [6186])), (127, (.iconst 3, (0, 0, 0), .null, [])), (128, (.if_icmp .eq 15, (0, 0, 0), .null, [])), (131, (.aload_n 0, (0, 0, 0), .null, [])), (132, (.getfield 109, (9, 10, 0), .null, [6186])), (135, (.iconst 4, (0, 0, 0), .null, [])), (136, (.if_icmp .eq 7, (0, 0, 0), .null, [])), (139, (.aload_n 0, (0, 0, 0), .null, [])), (140, (.invokevirtual 116, (148, 0, 9), .null, [7077, 35]))]), (167, [(143, (.aload_n 0, (0, 0, 0), .null, [])), (144, (.invokevirtual 127, (149, 0, 9), .null, [7083, 36])), (147, (.ifCond .eq 7, (0, 0, 0), .null, [])), (150, (.aload_n 0, (0, 0, 0), .null, [])), (151, (.invokevirtual 131, (147, 0, 9), .null, [7058, 31])), (154, (.aload_n 0, (0, 0, 0), .null, [])), (155, (.invokevirtual 127, (149, 0, 9), .null, [7083, 36])), (158, (.ifCond .eq 16, (0, 0, 0), .null, [])), (161, (.aload_n 0, (0, 0, 0), .null, [])), (162, (.getfield 109, (9, 10, 0), .null, [6186])), (165, (.bipush 45, (0, 0, 0), .null, [])), (167, (.if_icmp .ne 7, (0, 0, 0), .null, []))]), (191, [(170, (.iconst 1, (0, 0, 0), .null, [])), (171, (.goto 4, (0, 0, 0), .null, [])), (174, (.iconst 0, (0, 0, 0), .null, [])), (175, (.istore_n 1, (0, 0, 0), .null, [])), (176, (.iload_n 1, (0, 0, 0), .null, [])), (177, (.ifCond .eq 7, (0, 0, 0), .null, [])), (180, (.aload_n 0, (0, 0, 0), .null, [])), (181, (.invokevirtual 131, (147, 0, 9), .null, [7058, 31])), (184, (.aload_n 0, (0, 0, 0), .null, [])), (185, (.invokevirtual 127, (149, 0, 9), .null, [7083, 36])), (188, (.ifCond .eq 15, (0, 0, 0), .null, [])), (191, (.aload_n 0, (0, 0, 0), .null, []))]), (215, [(192, (.getfield 109, (9, 10, 0), .null, [6186])), (195, (.iconst 1, (0, 0, 0), .null, [])), (196, (.if_icmp .eq 7, (0, 0, 0), .null, [])), (199, (.aload_n 0, (0, 0, 0), .null, [])), (200, (.invokevirtual 116, (148, 0, 9), .null, [7077, 35])), (203, (.aload_n 0, (0, 0, 0), .null, [])), (204, (.aload_n 0, (0, 0, 0), .null, [])), (205, (.invokevirtual 127, (149, 0, 9), .null, [7083, 36])), (208, (.ifCond .eq 10, (0, 0, 0), .null, [])), (211, (.aload_n 0, (0, 0, 0), .null, [])), (212, (.invokevirtual 123, (150, 0, 9), .null, [7073, 34])), (215, (.goto 4, (0, 0, 0), .null, []))]), (239, [(218, (.lconst 0, (0, 0, 0), .null, [])), (219, (.putfield 144, (9, 16, 0), .null, [6192])), (222, (.iload_n 1, (0, 0, 0), .null, [])), (223, (.ifCond .eq 12, (0, 0, 0), .null, [])), (226, (.aload_n 0, (0, 0, 0), .null, [])), (227, (.aload_n 0, (0, 0, 0), .null, [])), (228, (.getfield 144, (9, 16, 0), .null, [6192])), (231, (.lneg, (0, 0, 0), .null, [])), (232, (.putfield 144, (9, 16, 0), .null, [6192])), (235, (.aload_n 0, (0, 0, 0), .null, [])), (236, (.invokevirtual 127, (149, 0, 9), .null, [7083, 36])), (239, (.ifCond .eq 7, (0, 0, 0), .null, []))]), (265, [(242, (.aload_n 0, (0, 0, 0), .null, [])), (243, (.invokevirtual 131, (147, 0, 9), .null, [7058, 31])), (246, (.aload_n 0, (0, 0, 0), .null, [])), (247, (.invokevirtual 127, (149, 0, 9), .null, [7083, 36])), (250, (.ifCond .eq 15, (0, 0, 0), .null, [])), (253, (.aload_n 0, (0, 0, 0), .null, [])), (254, (.getfield 109, (9, 10, 0), .null, [6186])), (257, (.iconst (-1), (0, 0, 0), .null, [])), (258, (.if_icmp .eq 7, (0, 0, 0), .null, [])), (261, (.aload_n 0, (0, 0, 0), .null, [])), (262, (.invokevirtual 116, (148, 0, 9), .null, [7077, 35])), (265, (.aload_n 0, (0, 0, 0), .null, []))]), (274, [(266, (.iconst 0, (0, 0, 0), .null, [])), (267, (.putfield 93, (9, 7, 0), .null, [6183])), (270, (.aload_n 0, (0, 0, 0), .null, [])), (271, (.invokevirtual 127, (149, 0, 9), .null, [7083, 36])), (274, (.ireturn, (0, 0, 0), .null, []))])]
def ax_t153 : List (Nat × List (Nat × ax_E2)) := [(8, [(0, (.aload_n 0, (0, 0, 0), .null, [])), (1, (.invokevirtual 147, (137, 0, 9), .null, [7095, 39])), (4, (.iconst 0, (0, 0, 0), .null, [])), (5, (.istore_n 2, (0, 0, 0), .null, [])), (6, (.iload_n 2, (0, 0, 0), .null, [])), (7, (.aload_n 0, (0, 0, 0), .null, [])), (8, (.getfield 134, (9, 14, 0), .null, [6190]))]), (23, [(11, (.if_icmp .ge 39, (0, 0, 0), .null, [])), (14, (.aload_n 0, (0, 0, 0), .null, [])), (15, (.iload_n 1, (0, 0, 0), .null, [])), (16, (.ifCond .eq 13, (0, 0, 0), .null, [])), (19, (.aload_n 0, (0, 0, 0), .null, [])), (20, (.getfield 27, (9, 12, 0), .null, [6188])), (23, (.iload_n 2, (0, 0, 0), .null, []))]), (34, [(24, (.laload, (0, 0, 0), .null, [])), (25, (.lneg, (0, 0, 0), .null, [])), (26, (.goto 9, (0, 0, 0), .null, [])), (29, (.aload_n 0, (0, 0, 0), .null, [])), (30, (.getfield 27, (9, 12, 0), .null, [6188])), (33, (.iload_n 2, (0, 0, 0), .null, [])), (34, (.laload, (0, 0, 0), .null, []))]), (47, [(35, (.aload_n 0, (0, 0, 0), .null, [])), (36, (.getfield 30, (9, 13, 0), .null, [6189])), (39, (.iload_n 2, (0, 0, 0), .null, [])), (40, (.iaload, (0, 0, 0), .null, [])), (41, (.invokevirtual 75, (138, 2, 9), .null, [7099, 40])), (44, (.iinc 2 1, (0, 0, 0), .null, [])), (47, (.goto (-41), (0, 0, 0), .null, []))]), (60, [(50, (.aload_n 0, (0, 0, 0), .null, [])), (51, (.dup, (0, 0, 0), .null, [])), (52, (.getfield 67, (9, 5, 0), .null, [6181])), (55, (.iload_n 1, (0, 0, 0), .null, [])), (56, (.ifCond .eq 11, (0, 0, 0), .null, [])), (59, (.aload_n 0, (0, 0, 0), .null, [])), (60, (.getfield 144, (9, 16, 0), .null, [6192]))]), (75, [(63, (.lneg, (0, 0, 0), .null, [])), (64, (.goto 7, (0, 0, 0), .null, [])), (67, (.aload_n 0, (0, 0, 0), .null, [])), (68, (.getfield 144, (9, 16, 0), .null, [6192])), (71, (.ladd, (0, 0, 0), .null, [])), (72, (.putfield 67, (9, 5, 0), .null, [6181])), (75, (.aload_n 0, (0, 0, 0), .null, []))]), (79, [(76, (.invokevirtual 150, (140, 0, 9), .null, [7103, 41])), (79, (.return_, (0, 0, 0), .null, []))])]
def ax_t154 : List (Nat × List (Nat × ax_E2)) := [(5, [(0, (.aload_n 0, (0, 0, 0), .null, [])), (1, (.getfield 141, (9, 15, 0), .null, [6191])), (4, (.iconst 3, (0, 0, 0), .null, [])), (5, (.if_icmp .eq 12, (0, 0, 0), .null, []))]), (14, [(8, (.aload_n 0, (0, 0, 0), .null, [])), (9, (.getfield 141, (9, 15, 0), .null, [6191])), (12, (.bipush 61, (0, 0, 0), .null, [])), (14, (.if_icmp .ne 7, (0, 0, 0), .null, []))]), (22, [(17, (.iconst 1, (0, 0, 0), .null, [])), (18, (.goto 4, (0, 0, 0), .null, [])), (21, (.iconst 0, (0, 0, 0), .null, [])), (22, (.ireturn, (0, 0, 0), .null, []))])]
def ax_t155 : List (Nat × List (Nat × ax_E2)) := [(5, [(0, (.aload_n 0, (0, 0, 0), .null, [])), (1, (.getfield 141, (9, 15, 0), .null, [6191])), (4, (.iconst 4, (0, 0, 0), .null, [])), (5, (.if_icmp .eq 12, (0, 0, 0), .null, []))]), (14, [(8, (.aload_n 0, (0, 0, 0), .null, [])), (9, (.getfield 141, (9, 15, 0), .null, [6191])), (12, (.bipush 61, (0, 0, 0), .null, [])), (14, (.if_icmp .ne 7, (0, 0, 0), .null, []))]), (22, [(17, (.iconst 1, (0, 0, 0), .null, [])), (18, (.goto 4, (0, 0, 0), .null, [])), (21, (.iconst 0, (0, 0, 0), .null, [])), (22, (.ireturn, (0, 0, 0), .null, []))])]
def ax_t156 : List (Nat × List (Nat × ax_E2)) := [(12, [(0, (.aload_n 0, (0, 0, 0), .null, [])), (1, (.iconst 0, (0, 0, 0), .null, [])), (2, (.putfield 61, (9, 0, 0), .null, [6176])), (5, (.aload_n 0, (0, 0, 0), .null, [])), (6, (.invokevirtual 153, (152, 0, 9), .null, [7054, 30])), (9, (.ifCond .ne 9, (0, 0, 0), .null, [])), (12, (.aload_n 0, (0, 0, 0), .null, []))]), (23, [(13, (.iconst 1, (0, 0, 0), .null, [])), (14, (.invokevirtual 96, (132, 1, 9), .null, [7042, 29])), (17, (.ireturn, (0, 0, 0), .null, [])), (18, (.aload_n 0, (0, 0, 0), .null, [])), (19, (.getfield 64, (9, 1, 0), .null, [6177])), (22, (.aload_n 0, (0, 0, 0), .null, [])), (23, (.getfield 141, (9, 15, 0), .null, [6191]))]), (37, [(26, (.bipush 61, (0, 0, 0), .null, [])), (28, (.if_icmp .ne 7, (0, 0, 0), .null, [])), (31, (.iconst 2, (0, 0, 0), .null, [])), (32, (.goto 4, (0, 0, 0), .null, [])), (35, (.iconst 1, (0, 0, 0), .null, [])), (36, (.iadd, (0, 0, 0), .null, [])), (37, (.bipush 60, (0, 0, 0), .null, []))]), (49, [(39, (.if_icmp .le 9, (0, 0, 0), .null, [])), (42, (.aload_n 0, (0, 0, 0), .null, [])), (43, (.iconst 2, (0, 0, 0), .null, [])), (44, (.invokevirtual 96, (132, 1, 9), .null, [7042, 29])), (47, (.ireturn, (0, 0, 0), .null, [])), (48, (.aload_n 0, (0, 0, 0), .null, [])), (49, (.getfield 64, (9, 1, 0), .null, [6177]))]), (62, [(52, (.istore_n 1, (0, 0, 0), .null, [])), (53, (.aload_n 0, (0, 0, 0), .null, [])), (54, (.invokevirtual 156, (154, 0, 9), .null, [7087, 37])), (57, (.ifCond .eq 13, (0, 0, 0), .null, [])), (60, (.aload_n 0, (0, 0, 0), .null, [])), (61, (.iconst 0, (0, 0, 0), .null, [])), (62, (.invokevirtual 159, (153, 1, 9), .null, [7091, 38]))]), (77, [(65, (.aload_n 0, (0, 0, 0), .null, [])), (66, (.invokevirtual 162, (142, 0, 9), .null, [7109, 42])), (69, (.pop, (0, 0, 0), .null, [])), (70, (.aload_n 0, (0, 0, 0), .null, [])), (71, (.invokevirtual 166, (155, 0, 9), .null, [7129, 47])), (74, (.ifCond .eq 13, (0, 0, 0), .null, [])), (77, (.aload_n 0, (0, 0, 0), .null, []))]), (88, [(78, (.iconst 1, (0, 0, 0), .null, [])), (79, (.invokevirtual 159, (153, 1, 9), .null, [7091, 38])), (82, (.aload_n 0, (0, 0, 0), .null, [])), (83, (.invokevirtual 162, (142, 0, 9), .null, [7109, 42])), (86, (.pop, (0, 0, 0), .null, [])), (87, (.iload_n 1, (0, 0, 0), .null, [])), (88, (.ireturn, (0, 0, 0), .null, []))])]
def ax_t157 : List (Nat × List (Nat × ax_E2)) := [(7, [(0, (.lconst 0, (0, 0, 0), .null, [])), (1, (.lstore_n 2, (0, 0, 0), .null, [])), (2, (.iconst 0, (0, 0, 0), .null, [])), (3, (.istore 4, (0, 0, 0), .null, [])), (5, (.iload 4, (0, 0, 0), .null, [])), (7, (.bipush 24, (0, 0, 0), .null, []))]), (19, [(9, (.if_icmp .ge 32, (0, 0, 0), .null, [])), (12, (.lload_n 2, (0, 0, 0), .null, [])), (13, (.iload_n 1, (0, 0, 0), .null, [])), (14, (.iload 4, (0, 0, 0), .null, [])), (16, (.invokestatic 169, (199, 2, 0), .null, [7145])), (19, (.ifCond .eq 13, (0, 0, 0), .null, []))]), (32, [(22, (.aload_n 0, (0, 0, 0), .null, [])), (23, (.getfield 16, (9, 4, 0), .null, [6180])), (26, (.iload 4, (0, 0, 0), .null, [])), (28, (.laload, (0, 0, 0), .null, [])), (29, (.goto 4, (0, 0, 0), .null, [])), (32, (.lconst 0, (0, 0, 0), .null, []))]), (42, [(33, (.ladd, (0, 0, 0), .null, [])), (34, (.lstore_n 2, (0, 0, 0), .null, [])), (35, (.iinc 4 1, (0, 0, 0), .null, [])), (38, (.goto (-33), (0, 0, 0), .null, [])), (41, (.lload_n 2, (0, 0, 0), .null, [])), (42, (.aload_n 0, (0, 0, 0), .null, []))]), (54, [(43, (.getfield 67, (9, 5, 0), .null, [6181])), (46, (.lcmp, (0, 0, 0), .null, [])), (47, (.ifCond .lt 7, (0, 0, 0), .null, [])), (50, (.iconst 1, (0, 0, 0), .null, [])), (51, (.goto 4, (0, 0, 0), .null, [])), (54, (.iconst 0, (0, 0, 0), .null, []))]), (55, [(55, (.ireturn, (0, 0, 0), .null, []))])]
def ax_t158 : List (Nat × List (Nat × ax_E2)) := [(4, [(0, (.iconst 1, (0, 0, 0), .null, [])), (1, (.istore_n 1, (0, 0, 0), .null, [])), (2, (.iconst 0, (0, 0, 0), .null, [])), (3, (.istore_n 2, (0, 0, 0), .null, [])), (4, (.iload_n 2, (0, 0, 0), .null, []))]), (13, [(5, (.sipush 4096, (0, 0, 0), .null, [])), (8, (.if_icmp .ge 33, (0, 0, 0), .null, [])), (11, (.iload_n 1, (0, 0, 0), .null, [])), (12, (.aload_n 0, (0, 0, 0), .null, [])), (13, (.iload_n 2, (0, 0, 0), .null, []))]), (22, [(14, (.invokevirtual 173, (200, 1, 9), .null, [7141, 49])), (17, (.ifCond .eq 11, (0, 0, 0), .null, [])), (20, (.aload_n 0, (0, 0, 0), .null, [])), (21, (.iload_n 2, (0, 0, 0), .null, [])), (22, (.invokevirtual 176, (157, 1, 9), .null, [7148, 50]))]), (33, [(25, (.ifCond .eq 7, (0, 0, 0), .null, [])), (28, (.iconst 1, (0, 0, 0), .null, [])), (29, (.goto 4, (0, 0, 0), .null, [])), (32, (.iconst 0, (0, 0, 0), .null, [])), (33, (.iand, (0, 0, 0), .null, []))]), (42, [(34, (.istore_n 1, (0, 0, 0), .null, [])), (35, (.iinc 2 1, (0, 0, 0), .null, [])), (38, (.goto (-34), (0, 0, 0), .null, [])), (41, (.iload_n 1, (0, 0, 0), .null, [])), (42, (.ireturn, (0, 0, 0), .null, []))])]
def ax_t159 : List (Nat × List (Nat × ax_E2)) := [(9, [(0, (.aload_n 0, (0, 0, 0), .null, [])), (1, (.iconst 0, (0, 0, 0), .null, [])), (2, (.putfield 61, (9, 0, 0), .null, [6176])), (5, (.aload_n 0, (0, 0, 0), .null, [])), (6, (.invokevirtual 153, (152, 0, 9), .null, [7054, 30])), (9, (.ifCond .ne 17, (0, 0, 0), .null, []))]), (21, [(12, (.aload_n 0, (0, 0, 0), .null, [])), (13, (.iconst 1, (0, 0, 0), .null, [])), (14, (.invokevirtual 96, (132, 1, 9), .null, [7042, 29])), (17, (.ifCond .le 7, (0, 0, 0), .null, [])), (20, (.iconst 1, (0, 0, 0), .null, [])), (21, (.goto 4, (0, 0, 0), .null, []))]), (29, [(24, (.iconst 0, (0, 0, 0), .null, [])), (25, (.ireturn, (0, 0, 0), .null, [])), (26, (.iconst 1, (0, 0, 0), .null, [])), (27, (.istore_n 1, (0, 0, 0), .null, [])), (28, (.aload_n 0, (0, 0, 0), .null, [])), (29, (.invokevirtual 156, (154, 0, 9), .null, [7087, 37]))]), (41, [(32, (.ifCond .eq 13, (0, 0, 0), .null, [])), (35, (.aload_n 0, (0, 0, 0), .null, [])), (36, (.iconst 0, (0, 0, 0), .null, [])), (37, (.invokevirtual 159, (153, 1, 9), .null, [7091, 38])), (40, (.aload_n 0, (0, 0, 0), .null, [])), (41, (.invokevirtual 179, (158, 0, 9), .null, [7137, 48]))]), (53, [(44, (.istore_n 1, (0, 0, 0), .null, [])), (45, (.aload_n 0, (0, 0, 0), .null, [])), (46, (.invokevirtual 166, (155, 0, 9), .null, [7129, 47])), (49, (.ifCond .eq 15, (0, 0, 0), .null, [])), (52, (.aload_n 0, (0, 0, 0), .null, [])), (53, (.iconst 1, (0, 0, 0), .null, []))]), (63, [(54, (.invokevirtual 159, (153, 1, 9), .null, [7091, 38])), (57, (.iload_n 1, (0, 0, 0), .null, [])), (58, (.aload_n 0, (0, 0, 0), .null, [])), (59, (.invokevirtual 179, (158, 0, 9), .null, [7137, 48])), (62, (.iand, (0, 0, 0), .null, [])), (63, (.istore_n 1, (0, 0, 0), .null, []))]), (65, [(64, (.iload_n 1, (0, 0, 0), .null, [])), (65, (.ireturn, (0, 0, 0), .null, []))])]
def ax_t160 : List (Nat × List (Nat × ax_E2)) := [(5, [(0, (.aload_n 0, (0, 0, 0), .null, [])), (1, (.iconst 0, (0, 0, 0), .null, [])), (2, (.putfield 61, (9, 0, 0), .null, [6176])), (5, (.aload_n 0, (0, 0, 0), .null, []))]), (9, [(6, (.getfield 23, (9, 11, 0), .null, [6187])), (9, (.ireturn, (0, 0, 0), .null, []))])]
def ax_t161 : List (Nat × List (Nat × ax_E2)) := [(5, [(0, (.aload_n 0, (0, 0, 0), .null, [])), (1, (.getfield 33, (9, 17, 0), .null, [6193])), (4, (.aload_n 0, (0, 0, 0), .null, [])), (5, (.getfield 182, (9, 18, 0), .null, [6194]))]), (11, [(8, (.iload_n 1, (0, 0, 0), .null, [])), (9, (.iastore, (0, 0, 0), .null, [])), (10, (.aload_n 0, (0, 0, 0), .null, [])), (11, (.dup, (0, 0, 0), .null, []))]), (17, [(12, (.getfield 182, (9, 18, 0), .null, [6194])), (15, (.iconst 1, (0, 0, 0), .null, [])), (16, (.iadd, (0, 0, 0), .null, [])), (17, (.putfield 182, (9, 18, 0), .null, [6194]))]), (20, [(20, (.return_, (0, 0, 0), .null, []))])]
def ax_t162 : List (Nat × List (Nat × ax_E2)) := [(5, [(0, (.lload_n 1, (0, 0, 0), .null, [])), (1, (.ldc2_w 185, (0, 0, 0), .long (9), [7172])), (4, (.lcmp, (0, 0, 0), .null, [])), (5, (.ifCond .le 12, (0, 0, 0), .null, []))]), (13, [(8, (.aload_n 0, (0, 0, 0), .null, [])), (9, (.lload_n 1, (0, 0, 0), .null, [])), (10, (.ldc2_w 119, (0, 0, 0), .long (10), [7081])), (13, (.ldiv, (0, 0, 0), .null, []))]), (19, [(14, (.invokevirtual 187, (162, 1, 9), .null, [7168, 53])), (17, (.aload_n 0, (0, 0, 0), .null, [])), (18, (.lload_n 1, (0, 0, 0), .null, [])), (19, (.ldc2_w 119, (0, 0, 0), .long (10), [7081]))]), (26, [(22, (.lrem, (0, 0, 0), .null, [])), (23, (.l2i, (0, 0, 0), .null, [])), (24, (.bipush 48, (0, 0, 0), .null, [])), (26, (.iadd, (0, 0, 0), .null, []))]), (30, [(27, (.invokevirtual 191, (161, 1, 9), .null, [7164, 52])), (30, (.return_, (0, 0, 0), .null, []))])]
def ax_t163 : List (Nat × List (Nat × ax_E2)) := [(15, [(0, (.aload_n 0, (0, 0, 0), .null, [])), (1, (.iconst 0, (0, 0, 0), .null, [])), (2, (.putfield 61, (9, 0, 0), .null, [6176])), (5, (.aload_n 0, (0, 0, 0), .null, [])), (6, (.iload_n 1, (0, 0, 0), .null, [])), (7, (.invokevirtual 195, (133, 1, 9), .null, [7160, 51])), (10, (.ifCond .ne 9, (0, 0, 0), .null, [])), (13, (.aload_n 0, (0, 0, 0), .null, [])), (14, (.iconst 1, (0, 0, 0), .null, [])), (15, (.invokevirtual 96, (132, 1, 9), .null, [7042, 29]))]), (32, [(18, (.ireturn, (0, 0, 0), .null, [])), (19, (.aload_n 0, (0, 0, 0), .null, [])), (20, (.iconst 0, (0, 0, 0), .null, [])), (21, (.putfield 182, (9, 18, 0), .null, [6194])), (24, (.iconst 0, (0, 0, 0), .null, [])), (25, (.istore_n 2, (0, 0, 0), .null, [])), (26, (.iload_n 2, (0, 0, 0), .null, [])), (27, (.bipush 24, (0, 0, 0), .null, [])), (29, (.if_icmp .ge 92, (0, 0, 0), .null, [])), (32, (.aload_n 0, (0, 0, 0), .null, []))]), (50, [(33, (.iload_n 1, (0, 0, 0), .null, [])), (34, (.iload_n 2, (0, 0, 0), .null, [])), (35, (.invokevirtual 71, (136, 2, 9), .null, [7121, 45])), (38, (.lconst 0, (0, 0, 0), .null, [])), (39, (.lcmp, (0, 0, 0), .null, [])), (40, (.ifCond .ne 6, (0, 0, 0), .null, [])), (43, (.goto 72, (0, 0, 0), .null, [])), (46, (.aload_n 0, (0, 0, 0), .null, [])), (47, (.getfield 182, (9, 18, 0), .null, [6194])), (50, (.ifCond .le 21, (0, 0, 0), .null, []))]), (71, [(53, (.aload_n 0, (0, 0, 0), .null, [])), (54, (.bipush 32, (0, 0, 0), .null, [])), (56, (.invokevirtual 191, (161, 1, 9), .null, [7164, 52])), (59, (.aload_n 0, (0, 0, 0), .null, [])), (60, (.bipush 43, (0, 0, 0), .null, [])), (62, (.invokevirtual 191, (161, 1, 9), .null, [7164, 52])), (65, (.aload_n 0, (0, 0, 0), .null, [])), (66, (.bipush 32, (0, 0, 0), .null, [])), (68, (.invokevirtual 191, (161, 1, 9), .null, [7164, 52])), (71, (.aload_n 0, (0, 0, 0), .null, []))]), (85, [(72, (.iload_n 1, (0, 0, 0), .null, [])), (73, (.iload_n 2, (0, 0, 0), .null, [])), (74, (.invokevirtual 71, (136, 2, 9), .null, [7121, 45])), (77, (.lconst 1, (0, 0, 0), .null, [])), (78, (.lcmp, (0, 0, 0), .null, [])), (79, (.ifCond .eq 13, (0, 0, 0), .null, [])), (82, (.aload_n 0, (0, 0, 0), .null, [])), (83, (.aload_n 0, (0, 0, 0), .null, [])), (84, (.iload_n 1, (0, 0, 0), .null, [])), (85, (.iload_n 2, (0, 0, 0), .null, []))]), (102, [(86, (.invokevirtual 71, (136, 2, 9), .null, [7121, 45])), (89, (.invokevirtual 187, (162, 1, 9), .null, [7168, 53])), (92, (.iload_n 2, (0, 0, 0), .null, [])), (93, (.iconst 2, (0, 0, 0), .null, [])), (94, (.irem, (0, 0, 0), .null, [])), (95, (.iconst 1, (0, 0, 0), .null, [])), (96, (.if_icmp .ne 9, (0, 0, 0), .null, [])), (99, (.aload_n 0, (0, 0, 0), .null, [])), (100, (.bipush 126, (0, 0, 0), .null, [])), (102, (.invokevirtual 191, (161, 1, 9), .null, [7164, 52]))]), (121, [(105, (.aload_n 0, (0, 0, 0), .null, [])), (106, (.bipush 97, (0, 0, 0), .null, [])), (108, (.iload_n 2, (0, 0, 0), .null, [])), (109, (.iconst 2, (0, 0, 0), .null, [])), (110, (.idiv, (0, 0, 0), .null, [])), (111, (.iadd, (0, 0, 0), .null, [])), (112, (.invokevirtual 191, (161, 1, 9), .null, [7164, 52])), (115, (.iinc 2 1, (0, 0, 0), .null, [])), (118, (.goto (-92), (0, 0, 0), .null, [])), (121, (.aload_n 0, (0, 0, 0), .null, []))]), (141, [(122, (.getfield 182, (9, 18, 0), .null, [6194])), (125, (.ifCond .ne 9, (0, 0, 0), .null, [])), (128, (.aload_n 0, (0, 0, 0), .null, [])), (129, (.bipush 48, (0, 0, 0), .null, [])), (131, (.invokevirtual 191, (161, 1, 9), .null, [7164, 52])), (134, (.aload_n 0, (0, 0, 0), .null, [])), (135, (.bipush 32, (0, 0, 0), .null, [])), (137, (.invokevirtual 191, (161, 1, 9), .null, [7164, 52])), (140, (.aload_n 0, (0, 0, 0), .null, [])), (141, (.bipush 62, (0, 0, 0), .null, []))]), (160, [(143, (.invokevirtual 191, (161, 1, 9), .null, [7164, 52])), (146, (.aload_n 0, (0, 0, 0), .null, [])), (147, (.bipush 61, (0, 0, 0), .null, [])), (149, (.invokevirtual 191, (161, 1, 9), .null, [7164, 52])), (152, (.aload_n 0, (0, 0, 0), .null, [])), (153, (.bipush 32, (0, 0, 0), .null, [])), (155, (.invokevirtual 191, (161, 1, 9), .null, [7164, 52])), (158, (.aload_n 0, (0, 0, 0), .null, [])), (159, (.aload_n 0, (0, 0, 0), .null, [])), (160, (.getfield 13, (9, 3, 0), .null, [6179]))]), (172, [(163, (.iload_n 1, (0, 0, 0), .null, [])), (164, (.laload, (0, 0, 0), .null, [])), (165, (.invokevirtual 187, (162, 1, 9), .null, [7168, 53])), (168, (.aload_n 0, (0, 0, 0), .null, [])), (169, (.getfield 182, (9, 18, 0), .null, [6194])), (172, (.ireturn, (0, 0, 0), .null, []))])]
def ax_t164 : List (Nat × List (Nat × ax_E2)) := [(5, [(0, (.aload_n 0, (0, 0, 0), .null, [])), (1, (.iconst 0, (0, 0, 0), .null, [])), (2, (.putfield 61, (9, 0, 0), .null, [6176])), (5, (.iload_n 1, (0, 0, 0), .null, []))]), (11, [(6, (.ifCond .lt 20, (0, 0, 0), .null, [])), (9, (.iload_n 1, (0, 0, 0), .null, [])), (10, (.aload_n 0, (0, 0, 0), .null, [])), (11, (.getfield 182, (9, 18, 0), .null, [6194]))]), (21, [(14, (.if_icmp .ge 12, (0, 0, 0), .null, [])), (17, (.aload_n 0, (0, 0, 0), .null, [])), (18, (.getfield 33, (9, 17, 0), .null, [6193])), (21, (.iload_n 1, (0, 0, 0), .null, []))]), (27, [(22, (.iaload, (0, 0, 0), .null, [])), (23, (.goto 8, (0, 0, 0), .null, [])), (26, (.aload_n 0, (0, 0, 0), .null, [])), (27, (.iconst 1, (0, 0, 0), .null, []))]), (31, [(28, (.invokevirtual 96, (132, 1, 9), .null, [7042, 29])), (31, (.ireturn, (0, 0, 0), .null, []))])]
def ax_t165 : List (Nat × List (Nat × ax_E2)) := [(5, [(0, (.aload_n 0, (0, 0, 0), .null, [])), (1, (.iconst 0, (0, 0, 0), .null, [])), (2, (.putfield 61, (9, 0, 0), .null, [6176])), (5, (.aload_n 0, (0, 0, 0), .null, []))]), (9, [(6, (.getfield 64, (9, 1, 0), .null, [6177])), (9, (.ireturn, (0, 0, 0), .null, []))])]
def ax_t166 : List (Nat × List (Nat × ax_E2)) := [(4, [(0, (.iconst 0, (0, 0, 0), .null, [])), (1, (.istore_n 2, (0, 0, 0), .null, [])), (2, (.iconst 0, (0, 0, 0), .null, [])), (3, (.istore_n 3, (0, 0, 0), .null, [])), (4, (.iload_n 3, (0, 0, 0), .null, []))]), (12, [(5, (.bipush 24, (0, 0, 0), .null, [])), (7, (.if_icmp .ge 28, (0, 0, 0), .null, [])), (10, (.iload_n 2, (0, 0, 0), .null, [])), (11, (.aload_n 0, (0, 0, 0), .null, [])), (12, (.iload_n 1, (0, 0, 0), .null, []))]), (19, [(13, (.iload_n 3, (0, 0, 0), .null, [])), (14, (.invokevirtual 71, (136, 2, 9), .null, [7121, 45])), (17, (.lconst 0, (0, 0, 0), .null, [])), (18, (.lcmp, (0, 0, 0), .null, [])), (19, (.ifCond .le 7, (0, 0, 0), .null, []))]), (28, [(22, (.iconst 1, (0, 0, 0), .null, [])), (23, (.goto 4, (0, 0, 0), .null, [])), (26, (.iconst 0, (0, 0, 0), .null, [])), (27, (.iadd, (0, 0, 0), .null, [])), (28, (.istore_n 2, (0, 0, 0), .null, []))]), (36, [(29, (.iinc 3 1, (0, 0, 0), .null, [])), (32, (.goto (-28), (0, 0, 0), .null, [])), (35, (.iload_n 2, (0, 0, 0), .null, [])), (36, (.ireturn, (0, 0, 0), .null, []))])]
def ax_t167 : List (Nat × List (Nat × ax_E2)) := [(5, [(0, (.aload_n 0, (0, 0, 0), .null, [])), (1, (.iconst 0, (0, 0, 0), .null, [])), (2, (.putfield 61, (9, 0, 0), .null, [6176])), (5, (.aload_n 0, (0, 0, 0), .null, []))]), (13, [(6, (.iload_n 1, (0, 0, 0), .null, [])), (7, (.invokevirtual 195, (133, 1, 9), .null, [7160, 51])), (10, (.ifCond .eq 11, (0, 0, 0), .null, [])), (13, (.aload_n 0, (0, 0, 0), .null, []))]), (21, [(14, (.iload_n 1, (0, 0, 0), .null, [])), (15, (.invokevirtual 198, (166, 1, 9), .null, [7185, 54])), (18, (.goto 8, (0, 0, 0), .null, [])), (21, (.aload_n 0, (0, 0, 0), .null, []))]), (26, [(22, (.iconst 1, (0, 0, 0), .null, [])), (23, (.invokevirtual 96, (132, 1, 9), .null, [7042, 29])), (26, (.ireturn, (0, 0, 0), .null, []))])]
def ax_t168 : List (Nat × List (Nat × ax_E2)) := [(5, [(0, (.aload_n 0, (0, 0, 0), .null, [])), (1, (.iconst 0, (0, 0, 0), .null, [])), (2, (.putfield 61, (9, 0, 0), .null, [6176])), (5, (.aload_n 0, (0, 0, 0), .null, []))]), (13, [(6, (.iload_n 1, (0, 0, 0), .null, [])), (7, (.invokevirtual 195, (133, 1, 9), .null, [7160, 51])), (10, (.ifCond .eq 13, (0, 0, 0), .null, [])), (13, (.aload_n 0, (0, 0, 0), .null, []))]), (19, [(14, (.getfield 13, (9, 3, 0), .null, [6179])), (17, (.iload_n 1, (0, 0, 0), .null, [])), (18, (.laload, (0, 0, 0), .null, [])), (19, (.l2i, (0, 0, 0), .null, []))]), (25, [(20, (.goto 8, (0, 0, 0), .null, [])), (23, (.aload_n 0, (0, 0, 0), .null, [])), (24, (.iconst 1, (0, 0, 0), .null, [])), (25, (.invokevirtual 96, (132, 1, 9), .null, [7042, 29]))]), (28, [(28, (.ireturn, (0, 0, 0), .null, []))])]
def ax_t169 : List (Nat × List (Nat × ax_E2)) := [(5, [(0, (.aload_n 0, (0, 0, 0), .null, [])), (1, (.iconst 0, (0, 0, 0), .null, [])), (2, (.putfield 61, (9, 0, 0), .null, [6176])), (5, (.aload_n 0, (0, 0, 0), .null, []))]), (13, [(6, (.iload_n 1, (0, 0, 0), .null, [])), (7, (.invokevirtual 195, (133, 1, 9), .null, [7160, 51])), (10, (.ifCond .eq 20, (0, 0, 0), .null, [])), (13, (.iload_n 2, (0, 0, 0), .null, []))]), (21, [(14, (.invokestatic 201, (135, 1, 0), .null, [7197])), (17, (.ifCond .eq 13, (0, 0, 0), .null, [])), (20, (.aload_n 0, (0, 0, 0), .null, [])), (21, (.iload_n 1, (0, 0, 0), .null, []))]), (27, [(22, (.iload_n 2, (0, 0, 0), .null, [])), (23, (.invokevirtual 71, (136, 2, 9), .null, [7121, 45])), (26, (.l2i, (0, 0, 0), .null, [])), (27, (.goto 8, (0, 0, 0), .null, []))]), (35, [(30, (.aload_n 0, (0, 0, 0), .null, [])), (31, (.iconst 1, (0, 0, 0), .null, [])), (32, (.invokevirtual 96, (132, 1, 9), .null, [7042, 29])), (35, (.ireturn, (0, 0, 0), .null, []))])]
def ax_t170 : List (Nat × List (Nat × ax_E2)) := [(7, [(0, (.aload_n 0, (0, 0, 0), .null, [])), (1, (.getfield 13, (9, 3, 0), .null, [6179])), (4, (.iload_n 1, (0, 0, 0), .null, [])), (5, (.laload, (0, 0, 0), .null, [])), (6, (.lneg, (0, 0, 0), .null, [])), (7, (.lstore_n 3, (0, 0, 0), .null, []))]), (18, [(8, (.iconst 0, (0, 0, 0), .null, [])), (9, (.istore 5, (0, 0, 0), .null, [])), (11, (.iload 5, (0, 0, 0), .null, [])), (13, (.bipush 24, (0, 0, 0), .null, [])), (15, (.if_icmp .ge 36, (0, 0, 0), .null, [])), (18, (.lload_n 3, (0, 0, 0), .null, []))]), (25, [(19, (.aload_n 2, (0, 0, 0), .null, [])), (20, (.iload 5, (0, 0, 0), .null, [])), (22, (.iconst 2, (0, 0, 0), .null, [])), (23, (.idiv, (0, 0, 0), .null, [])), (24, (.iaload, (0, 0, 0), .null, [])), (25, (.iload 5, (0, 0, 0), .null, []))]), (36, [(27, (.iconst 2, (0, 0, 0), .null, [])), (28, (.irem, (0, 0, 0), .null, [])), (29, (.if_icmp .ne 7, (0, 0, 0), .null, [])), (32, (.lconst 0, (0, 0, 0), .null, [])), (33, (.goto 10, (0, 0, 0), .null, [])), (36, (.aload_n 0, (0, 0, 0), .null, []))]), (45, [(37, (.iload_n 1, (0, 0, 0), .null, [])), (38, (.iload 5, (0, 0, 0), .null, [])), (40, (.invokevirtual 71, (136, 2, 9), .null, [7121, 45])), (43, (.ladd, (0, 0, 0), .null, [])), (44, (.lstore_n 3, (0, 0, 0), .null, [])), (45, (.iinc 5 1, (0, 0, 0), .null, []))]), (52, [(48, (.goto (-37), (0, 0, 0), .null, [])), (51, (.lload_n 3, (0, 0, 0), .null, [])), (52, (.lreturn, (0, 0, 0), .null, []))])]
def ax_t171 : List (Nat × List (Nat × ax_E2)) := [(5, [(0, (.aload_n 0, (0, 0, 0), .null, [])), (1, (.iconst 0, (0, 0, 0), .null, [])), (2, (.putfield 61, (9, 0, 0), .null, [6176])), (5, (.aload_n 0, (0, 0, 0), .null, []))]), (13, [(6, (.iload_n 1, (0, 0, 0), .null, [])), (7, (.invokevirtual 195, (133, 1, 9), .null, [7160, 51])), (10, (.ifCond .eq 15, (0, 0, 0), .null, [])), (13, (.aload_n 0, (0, 0, 0), .null, []))]), (19, [(14, (.iload_n 1, (0, 0, 0), .null, [])), (15, (.aload_n 0, (0, 0, 0), .null, [])), (16, (.getfield 43, (9, 23, 0), .null, [6199])), (19, (.invokevirtual 204, (170, 2, 9), .null, [7117, 44]))]), (27, [(22, (.goto 9, (0, 0, 0), .null, [])), (25, (.aload_n 0, (0, 0, 0), .null, [])), (26, (.iconst 1, (0, 0, 0), .null, [])), (27, (.invokevirtual 96, (132, 1, 9), .null, [7042, 29]))]), (31, [(30, (.i2l, (0, 0, 0), .null, [])), (31, (.lreturn, (0, 0, 0), .null, []))])]
def ax_t172 : List (Nat × List (Nat × ax_E2)) := [(9, [(0, (.bipush 24, (0, 0, 0), .null, [])), (2, (.newarray .boolean, (2, 0, 0), .null, [7033])), (4, (.astore_n 2, (0, 0, 0), .null, [])), (5, (.lconst 0, (0, 0, 0), .null, [])), (6, (.lstore_n 3, (0, 0, 0), .null, [])), (7, (.aload_n 0, (0, 0, 0), .null, [])), (8, (.iload_n 1, (0, 0, 0), .null, [])), (9, (.invokevirtual 198, (166, 1, 9), .null, [7185, 54]))]), (25, [(12, (.istore 5, (0, 0, 0), .null, [])), (14, (.iconst 0, (0, 0, 0), .null, [])), (15, (.istore 6, (0, 0, 0), .null, [])), (17, (.iload 6, (0, 0, 0), .null, [])), (19, (.iload 5, (0, 0, 0), .null, [])), (21, (.if_icmp .gt 91, (0, 0, 0), .null, [])), (24, (.lload_n 3, (0, 0, 0), .null, [])), (25, (.aload_n 0, (0, 0, 0), .null, []))]), (38, [(26, (.getfield 13, (9, 3, 0), .null, [6179])), (29, (.iload_n 1, (0, 0, 0), .null, [])), (30, (.laload, (0, 0, 0), .null, [])), (31, (.lcmp, (0, 0, 0), .null, [])), (32, (.ifCond .lt 6, (0, 0, 0), .null, [])), (35, (.iload 6, (0, 0, 0), .null, [])), (37, (.ireturn, (0, 0, 0), .null, [])), (38, (.iconst (-1), (0, 0, 0), .null, []))]), (52, [(39, (.istore 7, (0, 0, 0), .null, [])), (41, (.iconst 0, (0, 0, 0), .null, [])), (42, (.istore 8, (0, 0, 0), .null, [])), (44, (.iload 8, (0, 0, 0), .null, [])), (46, (.bipush 24, (0, 0, 0), .null, [])), (48, (.if_icmp .ge 43, (0, 0, 0), .null, [])), (51, (.aload_n 2, (0, 0, 0), .null, [])), (52, (.iload 8, (0, 0, 0), .null, []))]), (67, [(54, (.baload, (0, 0, 0), .null, [])), (55, (.ifCond .ne 30, (0, 0, 0), .null, [])), (58, (.iload 7, (0, 0, 0), .null, [])), (60, (.ifCond .lt 21, (0, 0, 0), .null, [])), (63, (.aload_n 0, (0, 0, 0), .null, [])), (64, (.iload_n 1, (0, 0, 0), .null, [])), (65, (.iload 8, (0, 0, 0), .null, [])), (67, (.invokevirtual 71, (136, 2, 9), .null, [7121, 45]))]), (83, [(70, (.aload_n 0, (0, 0, 0), .null, [])), (71, (.iload_n 1, (0, 0, 0), .null, [])), (72, (.iload 7, (0, 0, 0), .null, [])), (74, (.invokevirtual 71, (136, 2, 9), .null, [7121, 45])), (77, (.lcmp, (0, 0, 0), .null, [])), (78, (.ifCond .le 7, (0, 0, 0), .null, [])), (81, (.iload 8, (0, 0, 0), .null, [])), (83, (.istore 7, (0, 0, 0), .null, []))]), (97, [(85, (.iinc 8 1, (0, 0, 0), .null, [])), (88, (.goto (-44), (0, 0, 0), .null, [])), (91, (.aload_n 2, (0, 0, 0), .null, [])), (92, (.iload 7, (0, 0, 0), .null, [])), (94, (.iconst 1, (0, 0, 0), .null, [])), (95, (.bastore, (0, 0, 0), .null, [])), (96, (.lload_n 3, (0, 0, 0), .null, [])), (97, (.aload_n 0, (0, 0, 0), .null, []))]), (112, [(98, (.iload_n 1, (0, 0, 0), .null, [])), (99, (.iload 7, (0, 0, 0), .null, [])), (101, (.invokevirtual 71, (136, 2, 9), .null, [7121, 45])), (104, (.ladd, (0, 0, 0), .null, [])), (105, (.lstore_n 3, (0, 0, 0), .null, [])), (106, (.iinc 6 1, (0, 0, 0), .null, [])), (109, (.goto (-92), (0, 0, 0), .null, [])), (112, (.iload 5, (0, 0, 0), .null, []))]), (116, [(114, (.iconst 1, (0, 0, 0), .null, [])), (115, (.iadd, (0, 0, 0), .null, [])), (116, (.ireturn, (0, 0, 0), .null, []))])]
def ax_t173 : List (Nat × List (Nat × ax_E2)) := [(5, [(0, (.aload_n 0, (0, 0, 0), .null, [])), (1, (.iconst 0, (0, 0, 0), .null, [])), (2, (.putfield 61, (9, 0, 0), .null, [6176])), (5, (.aload_n 0, (0, 0, 0), .null, []))]), (13, [(6, (.iload_n 1, (0, 0, 0), .null, [])), (7, (.invokevirtual 195, (133, 1, 9), .null, [7160, 51])), (10, (.ifCond .eq 11, (0, 0, 0), .null, [])), (13, (.aload_n 0, (0, 0, 0), .null, []))]), (21, [(14, (.iload_n 1, (0, 0, 0), .null, [])), (15, (.invokevirtual 208, (172, 1, 9), .null, [7208, 55])), (18, (.goto 8, (0, 0, 0), .null, [])), (21, (.aload_n 0, (0, 0, 0), .null, []))]), (26, [(22, (.iconst 1, (0, 0, 0), .null, [])), (23, (.invokevirtual 96, (132, 1, 9), .null, [7042, 29])), (26, (.ireturn, (0, 0, 0), .null, []))])]
def ax_t174 : List (Nat × List (Nat × ax_E2)) := [(8, [(0, (.aload_n 0, (0, 0, 0), .null, [])), (1, (.invokevirtual 150, (140, 0, 9), .null, [7103, 41])), (4, (.aload_n 0, (0, 0, 0), .null, [])), (5, (.getfield 64, (9, 1, 0), .null, [6177])), (8, (.bipush 60, (0, 0, 0), .null, []))]), (18, [(10, (.if_icmp .ne 9, (0, 0, 0), .null, [])), (13, (.aload_n 0, (0, 0, 0), .null, [])), (14, (.iload_n 1, (0, 0, 0), .null, [])), (15, (.invokevirtual 96, (132, 1, 9), .null, [7042, 29])), (18, (.ireturn, (0, 0, 0), .null, []))]), (27, [(19, (.aload_n 0, (0, 0, 0), .null, [])), (20, (.invokevirtual 211, (141, 0, 9), .null, [7224, 58])), (23, (.ifCond .eq 10, (0, 0, 0), .null, [])), (26, (.aload_n 0, (0, 0, 0), .null, [])), (27, (.invokevirtual 162, (142, 0, 9), .null, [7109, 42]))]), (36, [(30, (.goto 10, (0, 0, 0), .null, [])), (33, (.aload_n 0, (0, 0, 0), .null, [])), (34, (.iload_n 1, (0, 0, 0), .null, [])), (35, (.iconst 1, (0, 0, 0), .null, [])), (36, (.iadd, (0, 0, 0), .null, []))]), (40, [(37, (.invokevirtual 96, (132, 1, 9), .null, [7042, 29])), (40, (.ireturn, (0, 0, 0), .null, []))])]
def ax_t175 : List (Nat × List (Nat × ax_E2)) := [(6, [(0, (.aload_n 0, (0, 0, 0), .null, [])), (1, (.iconst 0, (0, 0, 0), .null, [])), (2, (.putfield 61, (9, 0, 0), .null, [6176])), (5, (.aload_n 0, (0, 0, 0), .null, [])), (6, (.iload_n 1, (0, 0, 0), .null, []))]), (15, [(7, (.invokevirtual 195, (133, 1, 9), .null, [7160, 51])), (10, (.ifCond .eq 11, (0, 0, 0), .null, [])), (13, (.aload_n 0, (0, 0, 0), .null, [])), (14, (.iload_n 2, (0, 0, 0), .null, [])), (15, (.invokevirtual 195, (133, 1, 9), .null, [7160, 51]))]), (26, [(18, (.ifCond .ne 9, (0, 0, 0), .null, [])), (21, (.aload_n 0, (0, 0, 0), .null, [])), (22, (.iconst 1, (0, 0, 0), .null, [])), (23, (.invokevirtual 96, (132, 1, 9), .null, [7042, 29])), (26, (.ireturn, (0, 0, 0), .null, []))]), (33, [(27, (.aload_n 0, (0, 0, 0), .null, [])), (28, (.invokevirtual 147, (137, 0, 9), .null, [7095, 39])), (31, (.aload_n 0, (0, 0, 0), .null, [])), (32, (.iload_n 1, (0, 0, 0), .null, [])), (33, (.lconst 1, (0, 0, 0), .null, []))]), (40, [(34, (.invokevirtual 214, (139, 2, 9), .null, [7216, 56])), (37, (.aload_n 0, (0, 0, 0), .null, [])), (38, (.iload_n 2, (0, 0, 0), .null, [])), (39, (.lconst 1, (0, 0, 0), .null, [])), (40, (.invokevirtual 214, (139, 2, 9), .null, [7216, 56]))]), (48, [(43, (.aload_n 0, (0, 0, 0), .null, [])), (44, (.iconst 2, (0, 0, 0), .null, [])), (45, (.invokevirtual 218, (174, 1, 9), .null, [7220, 57])), (48, (.ireturn, (0, 0, 0), .null, []))])]
def ax_t176 : List (Nat × List (Nat × ax_E2)) := [(7, [(0, (.aload_n 0, (0, 0, 0), .null, [])), (1, (.iconst 0, (0, 0, 0), .null, [])), (2, (.putfield 61, (9, 0, 0), .null, [6176])), (5, (.aload_n 0, (0, 0, 0), .null, [])), (6, (.iload_n 1, (0, 0, 0), .null, [])), (7, (.invokevirtual 195, (133, 1, 9), .null, [7160, 51]))]), (19, [(10, (.ifCond .ne 9, (0, 0, 0), .null, [])), (13, (.aload_n 0, (0, 0, 0), .null, [])), (14, (.iconst 1, (0, 0, 0), .null, [])), (15, (.invokevirtual 96, (132, 1, 9), .null, [7042, 29])), (18, (.ireturn, (0, 0, 0), .null, [])), (19, (.iload_n 2, (0, 0, 0), .null, []))]), (31, [(20, (.iconst 1, (0, 0, 0), .null, [])), (21, (.if_icmp .lt 10, (0, 0, 0), .null, [])), (24, (.iload_n 2, (0, 0, 0), .null, [])), (25, (.sipush 1000, (0, 0, 0), .null, [])), (28, (.if_icmp .le 9, (0, 0, 0), .null, [])), (31, (.aload_n 0, (0, 0, 0), .null, []))]), (41, [(32, (.iconst 2, (0, 0, 0), .null, [])), (33, (.invokevirtual 96, (132, 1, 9), .null, [7042, 29])), (36, (.ireturn, (0, 0, 0), .null, [])), (37, (.aload_n 0, (0, 0, 0), .null, [])), (38, (.invokevirtual 147, (137, 0, 9), .null, [7095, 39])), (41, (.aload_n 0, (0, 0, 0), .null, []))]), (49, [(42, (.iload_n 1, (0, 0, 0), .null, [])), (43, (.iload_n 2, (0, 0, 0), .null, [])), (44, (.i2l, (0, 0, 0), .null, [])), (45, (.invokevirtual 214, (139, 2, 9), .null, [7216, 56])), (48, (.aload_n 0, (0, 0, 0), .null, [])), (49, (.iconst 3, (0, 0, 0), .null, []))]), (53, [(50, (.invokevirtual 218, (174, 1, 9), .null, [7220, 57])), (53, (.ireturn, (0, 0, 0), .null, []))])]
def ax_t177 : List (Nat × List (Nat × ax_E2)) := [(3, [(0, (.lload_n 0, (0, 0, 0), .null, [])), (1, (.lload_n 2, (0, 0, 0), .null, [])), (2, (.ldiv, (0, 0, 0), .null, [])), (3, (.lload_n 0, (0, 0, 0), .null, []))]), (7, [(4, (.lload_n 2, (0, 0, 0), .null, [])), (5, (.lrem, (0, 0, 0), .null, [])), (6, (.lconst 0, (0, 0, 0), .null, [])), (7, (.lcmp, (0, 0, 0), .null, []))]), (15, [(8, (.ifCond .le 7, (0, 0, 0), .null, [])), (11, (.lconst 1, (0, 0, 0), .null, [])), (12, (.goto 4, (0, 0, 0), .null, [])), (15, (.lconst 0, (0, 0, 0), .null, []))]), (17, [(16, (.ladd, (0, 0, 0), .null, [])), (17, (.lreturn, (0, 0, 0), .null, []))])]
def ax_t178 : List (Nat × List (Nat × ax_E2)) := [(10, [(0, (.aload_n 0, (0, 0, 0), .null, [])), (1, (.iconst 0, (0, 0, 0), .null, [])), (2, (.putfield 61, (9, 0, 0), .null, [6176])), (5, (.aload_n 0, (0, 0, 0), .null, [])), (6, (.iload_n 1, (0, 0, 0), .null, [])), (7, (.invokevirtual 195, (133, 1, 9), .null, [7160, 51])), (10, (.ifCond .ne 9, (0, 0, 0), .null, []))]), (21, [(13, (.aload_n 0, (0, 0, 0), .null, [])), (14, (.iconst 1, (0, 0, 0), .null, [])), (15, (.invokevirtual 96, (132, 1, 9), .null, [7042, 29])), (18, (.ireturn, (0, 0, 0), .null, [])), (19, (.iload_n 2, (0, 0, 0), .null, [])), (20, (.iconst 1, (0, 0, 0), .null, [])), (21, (.if_icmp .ge 9, (0, 0, 0), .null, []))]), (34, [(24, (.aload_n 0, (0, 0, 0), .null, [])), (25, (.iconst 2, (0, 0, 0), .null, [])), (26, (.invokevirtual 96, (132, 1, 9), .null, [7042, 29])), (29, (.ireturn, (0, 0, 0), .null, [])), (30, (.aload_n 0, (0, 0, 0), .null, [])), (31, (.invokevirtual 147, (137, 0, 9), .null, [7095, 39])), (34, (.iconst 0, (0, 0, 0), .null, []))]), (46, [(35, (.istore_n 3, (0, 0, 0), .null, [])), (36, (.iload_n 3, (0, 0, 0), .null, [])), (37, (.bipush 24, (0, 0, 0), .null, [])), (39, (.if_icmp .ge 26, (0, 0, 0), .null, [])), (42, (.aload_n 0, (0, 0, 0), .null, [])), (43, (.getfield 16, (9, 4, 0), .null, [6180])), (46, (.iload_n 3, (0, 0, 0), .null, []))]), (55, [(47, (.aload_n 0, (0, 0, 0), .null, [])), (48, (.iload_n 1, (0, 0, 0), .null, [])), (49, (.iload_n 3, (0, 0, 0), .null, [])), (50, (.invokevirtual 71, (136, 2, 9), .null, [7121, 45])), (53, (.iload_n 2, (0, 0, 0), .null, [])), (54, (.i2l, (0, 0, 0), .null, [])), (55, (.invokestatic 221, (177, 2, 0), .null, [7237]))]), (70, [(58, (.lastore, (0, 0, 0), .null, [])), (59, (.iinc 3 1, (0, 0, 0), .null, [])), (62, (.goto (-26), (0, 0, 0), .null, [])), (65, (.aload_n 0, (0, 0, 0), .null, [])), (66, (.aload_n 0, (0, 0, 0), .null, [])), (67, (.getfield 13, (9, 3, 0), .null, [6179])), (70, (.iload_n 1, (0, 0, 0), .null, []))]), (81, [(71, (.laload, (0, 0, 0), .null, [])), (72, (.iload_n 2, (0, 0, 0), .null, [])), (73, (.i2l, (0, 0, 0), .null, [])), (74, (.invokestatic 221, (177, 2, 0), .null, [7237])), (77, (.putfield 67, (9, 5, 0), .null, [6181])), (80, (.aload_n 0, (0, 0, 0), .null, [])), (81, (.iconst 3, (0, 0, 0), .null, []))]), (85, [(82, (.invokevirtual 218, (174, 1, 9), .null, [7220, 57])), (85, (.ireturn, (0, 0, 0), .null, []))])]
def ax_t179 : List (Nat × List (Nat × ax_E2)) := [(10, [(0, (.aload_n 0, (0, 0, 0), .null, [])), (1, (.iconst 0, (0, 0, 0), .null, [])), (2, (.putfield 61, (9, 0, 0), .null, [6176])), (5, (.aload_n 0, (0, 0, 0), .null, [])), (6, (.iload_n 1, (0, 0, 0), .null, [])), (7, (.invokevirtual 195, (133, 1, 9), .null, [7160, 51])), (10, (.ifCond .ne 9, (0, 0, 0), .null, []))]), (23, [(13, (.aload_n 0, (0, 0, 0), .null, [])), (14, (.iconst 1, (0, 0, 0), .null, [])), (15, (.invokevirtual 96, (132, 1, 9), .null, [7042, 29])), (18, (.ireturn, (0, 0, 0), .null, [])), (19, (.aload_n 0, (0, 0, 0), .null, [])), (20, (.invokevirtual 147, (137, 0, 9), .null, [7095, 39])), (23, (.iconst 0, (0, 0, 0), .null, []))]), (35, [(24, (.istore_n 2, (0, 0, 0), .null, [])), (25, (.iload_n 2, (0, 0, 0), .null, [])), (26, (.bipush 24, (0, 0, 0), .null, [])), (28, (.if_icmp .ge 30, (0, 0, 0), .null, [])), (31, (.aload_n 0, (0, 0, 0), .null, [])), (32, (.getfield 16, (9, 4, 0), .null, [6180])), (35, (.iload_n 2, (0, 0, 0), .null, []))]), (46, [(36, (.aload_n 0, (0, 0, 0), .null, [])), (37, (.iload_n 1, (0, 0, 0), .null, [])), (38, (.iload_n 2, (0, 0, 0), .null, [])), (39, (.invokevirtual 71, (136, 2, 9), .null, [7121, 45])), (42, (.aload_n 0, (0, 0, 0), .null, [])), (43, (.getfield 13, (9, 3, 0), .null, [6179])), (46, (.iload_n 1, (0, 0, 0), .null, []))]), (59, [(47, (.laload, (0, 0, 0), .null, [])), (48, (.invokestatic 79, (700, 2, 0), .null, [7107])), (51, (.lastore, (0, 0, 0), .null, [])), (52, (.iinc 2 1, (0, 0, 0), .null, [])), (55, (.goto (-30), (0, 0, 0), .null, [])), (58, (.aload_n 0, (0, 0, 0), .null, [])), (59, (.aload_n 0, (0, 0, 0), .null, []))]), (70, [(60, (.getfield 13, (9, 3, 0), .null, [6179])), (63, (.iload_n 1, (0, 0, 0), .null, [])), (64, (.laload, (0, 0, 0), .null, [])), (65, (.putfield 67, (9, 5, 0), .null, [6181])), (68, (.aload_n 0, (0, 0, 0), .null, [])), (69, (.iconst 2, (0, 0, 0), .null, [])), (70, (.invokevirtual 218, (174, 1, 9), .null, [7220, 57]))]), (73, [(73, (.ireturn, (0, 0, 0), .null, []))])]
def ax_t180 : List (Nat × List (Nat × ax_E2)) := [(13, [(0, (.aload_n 0, (0, 0, 0), .null, [])), (1, (.iconst 0, (0, 0, 0), .null, [])), (2, (.putfield 61, (9, 0, 0), .null, [6176])), (5, (.aload_n 0, (0, 0, 0), .null, [])), (6, (.iload_n 1, (0, 0, 0), .null, [])), (7, (.invokevirtual 195, (133, 1, 9), .null, [7160, 51])), (10, (.ifCond .eq 10, (0, 0, 0), .null, [])), (13, (.iload_n 2, (0, 0, 0), .null, []))]), (27, [(14, (.invokestatic 224, (134, 1, 0), .null, [8008])), (17, (.ifCond .ne 9, (0, 0, 0), .null, [])), (20, (.aload_n 0, (0, 0, 0), .null, [])), (21, (.iconst 1, (0, 0, 0), .null, [])), (22, (.invokevirtual 96, (132, 1, 9), .null, [7042, 29])), (25, (.ireturn, (0, 0, 0), .null, [])), (26, (.aload_n 0, (0, 0, 0), .null, [])), (27, (.iload_n 1, (0, 0, 0), .null, []))]), (37, [(28, (.iconst 2, (0, 0, 0), .null, [])), (29, (.iload_n 2, (0, 0, 0), .null, [])), (30, (.imul, (0, 0, 0), .null, [])), (31, (.invokevirtual 71, (136, 2, 9), .null, [7121, 45])), (34, (.aload_n 0, (0, 0, 0), .null, [])), (35, (.iload_n 1, (0, 0, 0), .null, [])), (36, (.iconst 2, (0, 0, 0), .null, [])), (37, (.iload_n 2, (0, 0, 0), .null, []))]), (47, [(38, (.imul, (0, 0, 0), .null, [])), (39, (.iconst 1, (0, 0, 0), .null, [])), (40, (.iadd, (0, 0, 0), .null, [])), (41, (.invokevirtual 71, (136, 2, 9), .null, [7121, 45])), (44, (.ladd, (0, 0, 0), .null, [])), (45, (.lstore_n 3, (0, 0, 0), .null, [])), (46, (.lload_n 3, (0, 0, 0), .null, [])), (47, (.lconst 0, (0, 0, 0), .null, []))]), (59, [(48, (.lcmp, (0, 0, 0), .null, [])), (49, (.ifCond .ne 9, (0, 0, 0), .null, [])), (52, (.aload_n 0, (0, 0, 0), .null, [])), (53, (.iconst 2, (0, 0, 0), .null, [])), (54, (.invokevirtual 96, (132, 1, 9), .null, [7042, 29])), (57, (.ireturn, (0, 0, 0), .null, [])), (58, (.aload_n 0, (0, 0, 0), .null, [])), (59, (.invokevirtual 147, (137, 0, 9), .null, [7095, 39]))]), (73, [(62, (.aload_n 0, (0, 0, 0), .null, [])), (63, (.iload_n 1, (0, 0, 0), .null, [])), (64, (.lconst 1, (0, 0, 0), .null, [])), (65, (.invokevirtual 214, (139, 2, 9), .null, [7216, 56])), (68, (.aload_n 0, (0, 0, 0), .null, [])), (69, (.getfield 16, (9, 4, 0), .null, [6180])), (72, (.iconst 2, (0, 0, 0), .null, [])), (73, (.iload_n 2, (0, 0, 0), .null, []))]), (83, [(74, (.imul, (0, 0, 0), .null, [])), (75, (.lconst 0, (0, 0, 0), .null, [])), (76, (.lastore, (0, 0, 0), .null, [])), (77, (.aload_n 0, (0, 0, 0), .null, [])), (78, (.getfield 16, (9, 4, 0), .null, [6180])), (81, (.iconst 2, (0, 0, 0), .null, [])), (82, (.iload_n 2, (0, 0, 0), .null, [])), (83, (.imul, (0, 0, 0), .null, []))]), (93, [(84, (.iconst 1, (0, 0, 0), .null, [])), (85, (.iadd, (0, 0, 0), .null, [])), (86, (.lconst 0, (0, 0, 0), .null, [])), (87, (.lastore, (0, 0, 0), .null, [])), (88, (.aload_n 0, (0, 0, 0), .null, [])), (89, (.dup, (0, 0, 0), .null, [])), (90, (.getfield 67, (9, 5, 0), .null, [6181])), (93, (.lload_n 3, (0, 0, 0), .null, []))]), (103, [(94, (.lsub, (0, 0, 0), .null, [])), (95, (.putfield 67, (9, 5, 0), .null, [6181])), (98, (.aload_n 0, (0, 0, 0), .null, [])), (99, (.iconst 3, (0, 0, 0), .null, [])), (100, (.invokevirtual 218, (174, 1, 9), .null, [7220, 57])), (103, (.ireturn, (0, 0, 0), .null, []))])]
def ax_t181 : List (Nat × List (Nat × ax_E2)) := [(4, [(0, (.lload_n 0, (0, 0, 0), .null, [])), (1, (.lstore 4, (0, 0, 0), .null, [])), (3, (.lload_n 2, (0, 0, 0), .null, [])), (4, (.lstore 6, (0, 0, 0), .null, []))]), (10, [(6, (.lload 6, (0, 0, 0), .null, [])), (8, (.lconst 0, (0, 0, 0), .null, [])), (9, (.lcmp, (0, 0, 0), .null, [])), (10, (.ifCond .le 21, (0, 0, 0), .null, []))]), (18, [(13, (.lload 4, (0, 0, 0), .null, [])), (15, (.lload 6, (0, 0, 0), .null, [])), (17, (.lrem, (0, 0, 0), .null, [])), (18, (.lstore 8, (0, 0, 0), .null, []))]), (26, [(20, (.lload 6, (0, 0, 0), .null, [])), (22, (.lstore 4, (0, 0, 0), .null, [])), (24, (.lload 8, (0, 0, 0), .null, [])), (26, (.lstore 6, (0, 0, 0), .null, []))]), (33, [(28, (.goto (-22), (0, 0, 0), .null, [])), (31, (.lload 4, (0, 0, 0), .null, [])), (33, (.lreturn, (0, 0, 0), .null, []))])]
def ax_t182 : List (Nat × List (Nat × ax_E2)) := [(14, [(0, (.aload_n 0, (0, 0, 0), .null, [])), (1, (.iconst 0, (0, 0, 0), .null, [])), (2, (.putfield 61, (9, 0, 0), .null, [6176])), (5, (.aload_n 0, (0, 0, 0), .null, [])), (6, (.iload_n 1, (0, 0, 0), .null, [])), (7, (.invokevirtual 195, (133, 1, 9), .null, [7160, 51])), (10, (.ifCond .eq 18, (0, 0, 0), .null, [])), (13, (.aload_n 0, (0, 0, 0), .null, [])), (14, (.iload_n 2, (0, 0, 0), .null, []))]), (33, [(15, (.invokevirtual 195, (133, 1, 9), .null, [7160, 51])), (18, (.ifCond .eq 10, (0, 0, 0), .null, [])), (21, (.iload_n 3, (0, 0, 0), .null, [])), (22, (.invokestatic 224, (134, 1, 0), .null, [8008])), (25, (.ifCond .ne 9, (0, 0, 0), .null, [])), (28, (.aload_n 0, (0, 0, 0), .null, [])), (29, (.iconst 1, (0, 0, 0), .null, [])), (30, (.invokevirtual 96, (132, 1, 9), .null, [7042, 29])), (33, (.ireturn, (0, 0, 0), .null, []))]), (44, [(34, (.aload_n 0, (0, 0, 0), .null, [])), (35, (.iload_n 1, (0, 0, 0), .null, [])), (36, (.iconst 2, (0, 0, 0), .null, [])), (37, (.iload_n 3, (0, 0, 0), .null, [])), (38, (.imul, (0, 0, 0), .null, [])), (39, (.invokevirtual 71, (136, 2, 9), .null, [7121, 45])), (42, (.lconst 0, (0, 0, 0), .null, [])), (43, (.lcmp, (0, 0, 0), .null, [])), (44, (.ifCond .le 9, (0, 0, 0), .null, []))]), (57, [(47, (.iconst 2, (0, 0, 0), .null, [])), (48, (.iload_n 3, (0, 0, 0), .null, [])), (49, (.imul, (0, 0, 0), .null, [])), (50, (.goto 8, (0, 0, 0), .null, [])), (53, (.iconst 2, (0, 0, 0), .null, [])), (54, (.iload_n 3, (0, 0, 0), .null, [])), (55, (.imul, (0, 0, 0), .null, [])), (56, (.iconst 1, (0, 0, 0), .null, [])), (57, (.iadd, (0, 0, 0), .null, []))]), (71, [(58, (.istore 4, (0, 0, 0), .null, [])), (60, (.aload_n 0, (0, 0, 0), .null, [])), (61, (.iload_n 1, (0, 0, 0), .null, [])), (62, (.iload 4, (0, 0, 0), .null, [])), (64, (.invokevirtual 71, (136, 2, 9), .null, [7121, 45])), (67, (.lstore 5, (0, 0, 0), .null, [])), (69, (.aload_n 0, (0, 0, 0), .null, [])), (70, (.iload_n 2, (0, 0, 0), .null, [])), (71, (.iload 4, (0, 0, 0), .null, []))]), (87, [(73, (.iconst 1, (0, 0, 0), .null, [])), (74, (.ixor, (0, 0, 0), .null, [])), (75, (.invokevirtual 71, (136, 2, 9), .null, [7121, 45])), (78, (.lstore 7, (0, 0, 0), .null, [])), (80, (.lload 5, (0, 0, 0), .null, [])), (82, (.lconst 0, (0, 0, 0), .null, [])), (83, (.lcmp, (0, 0, 0), .null, [])), (84, (.ifCond .eq 10, (0, 0, 0), .null, [])), (87, (.lload 7, (0, 0, 0), .null, []))]), (102, [(89, (.lconst 0, (0, 0, 0), .null, [])), (90, (.lcmp, (0, 0, 0), .null, [])), (91, (.ifCond .ne 9, (0, 0, 0), .null, [])), (94, (.aload_n 0, (0, 0, 0), .null, [])), (95, (.iconst 2, (0, 0, 0), .null, [])), (96, (.invokevirtual 96, (132, 1, 9), .null, [7042, 29])), (99, (.ireturn, (0, 0, 0), .null, [])), (100, (.lload 5, (0, 0, 0), .null, [])), (102, (.lload 7, (0, 0, 0), .null, []))]), (119, [(104, (.invokestatic 227, (181, 2, 0), .null, [8015])), (107, (.lstore 9, (0, 0, 0), .null, [])), (109, (.aload_n 0, (0, 0, 0), .null, [])), (110, (.invokevirtual 147, (137, 0, 9), .null, [7095, 39])), (113, (.aload_n 0, (0, 0, 0), .null, [])), (114, (.iload_n 1, (0, 0, 0), .null, [])), (115, (.lload 7, (0, 0, 0), .null, [])), (117, (.lload 9, (0, 0, 0), .null, [])), (119, (.ldiv, (0, 0, 0), .null, []))]), (134, [(120, (.invokevirtual 214, (139, 2, 9), .null, [7216, 56])), (123, (.aload_n 0, (0, 0, 0), .null, [])), (124, (.iload_n 2, (0, 0, 0), .null, [])), (125, (.lload 5, (0, 0, 0), .null, [])), (127, (.lload 9, (0, 0, 0), .null, [])), (129, (.ldiv, (0, 0, 0), .null, [])), (130, (.invokevirtual 214, (139, 2, 9), .null, [7216, 56])), (133, (.aload_n 0, (0, 0, 0), .null, [])), (134, (.iconst 3, (0, 0, 0), .null, []))]), (138, [(135, (.invokevirtual 218, (174, 1, 9), .null, [7220, 57])), (138, (.ireturn, (0, 0, 0), .null, []))])]
def ax_t183 : List (Nat × List (Nat × ax_E2)) := [(10, [(0, (.aload_n 0, (0, 0, 0), .null, [])), (1, (.iconst 0, (0, 0, 0), .null, [])), (2, (.putfield 61, (9, 0, 0), .null, [6176])), (5, (.aload_n 0, (0, 0, 0), .null, [])), (6, (.iload_n 1, (0, 0, 0), .null, [])), (7, (.invokevirtual 195, (133, 1, 9), .null, [7160, 51])), (10, (.ifCond .ne 9, (0, 0, 0), .null, []))]), (23, [(13, (.aload_n 0, (0, 0, 0), .null, [])), (14, (.iconst 1, (0, 0, 0), .null, [])), (15, (.invokevirtual 96, (132, 1, 9), .null, [7042, 29])), (18, (.ireturn, (0, 0, 0), .null, [])), (19, (.aload_n 0, (0, 0, 0), .null, [])), (20, (.invokevirtual 147, (137, 0, 9), .null, [7095, 39])), (23, (.iconst 0, (0, 0, 0), .null, []))]), (35, [(24, (.istore_n 2, (0, 0, 0), .null, [])), (25, (.iload_n 2, (0, 0, 0), .null, [])), (26, (.bipush 24, (0, 0, 0), .null, [])), (28, (.if_icmp .ge 31, (0, 0, 0), .null, [])), (31, (.aload_n 0, (0, 0, 0), .null, [])), (32, (.getfield 16, (9, 4, 0), .null, [6180])), (35, (.iload_n 2, (0, 0, 0), .null, []))]), (44, [(36, (.aload_n 0, (0, 0, 0), .null, [])), (37, (.iload_n 1, (0, 0, 0), .null, [])), (38, (.iload_n 2, (0, 0, 0), .null, [])), (39, (.invokevirtual 71, (136, 2, 9), .null, [7121, 45])), (42, (.lconst 0, (0, 0, 0), .null, [])), (43, (.lcmp, (0, 0, 0), .null, [])), (44, (.ifCond .le 7, (0, 0, 0), .null, []))]), (59, [(47, (.lconst 1, (0, 0, 0), .null, [])), (48, (.goto 4, (0, 0, 0), .null, [])), (51, (.lconst 0, (0, 0, 0), .null, [])), (52, (.lastore, (0, 0, 0), .null, [])), (53, (.iinc 2 1, (0, 0, 0), .null, [])), (56, (.goto (-31), (0, 0, 0), .null, [])), (59, (.aload_n 0, (0, 0, 0), .null, []))]), (70, [(60, (.aload_n 0, (0, 0, 0), .null, [])), (61, (.iload_n 1, (0, 0, 0), .null, [])), (62, (.invokevirtual 208, (172, 1, 9), .null, [7208, 55])), (65, (.i2l, (0, 0, 0), .null, [])), (66, (.putfield 67, (9, 5, 0), .null, [6181])), (69, (.aload_n 0, (0, 0, 0), .null, [])), (70, (.iconst 2, (0, 0, 0), .null, []))]), (74, [(71, (.invokevirtual 218, (174, 1, 9), .null, [7220, 57])), (74, (.ireturn, (0, 0, 0), .null, []))])]
def ax_t184 : List (Nat × List (Nat × ax_E2)) := [(10, [(0, (.iload_n 1, (0, 0, 0), .null, [])), (1, (.iload_n 2, (0, 0, 0), .null, [])), (2, (.if_icmp .ne 5, (0, 0, 0), .null, [])), (5, (.iconst 0, (0, 0, 0), .null, [])), (6, (.ireturn, (0, 0, 0), .null, [])), (7, (.iload_n 1, (0, 0, 0), .null, [])), (8, (.iconst 2, (0, 0, 0), .null, [])), (9, (.idiv, (0, 0, 0), .null, [])), (10, (.iload_n 2, (0, 0, 0), .null, []))]), (23, [(11, (.iconst 2, (0, 0, 0), .null, [])), (12, (.idiv, (0, 0, 0), .null, [])), (13, (.if_icmp .ne 5, (0, 0, 0), .null, [])), (16, (.iconst 1, (0, 0, 0), .null, [])), (17, (.ireturn, (0, 0, 0), .null, [])), (18, (.bipush 12, (0, 0, 0), .null, [])), (20, (.newarray .int, (0, 0, 0), .null, [1056])), (22, (.astore_n 3, (0, 0, 0), .null, [])), (23, (.iconst 0, (0, 0, 0), .null, []))]), (38, [(24, (.istore 4, (0, 0, 0), .null, [])), (26, (.iload 4, (0, 0, 0), .null, [])), (28, (.bipush 12, (0, 0, 0), .null, [])), (30, (.if_icmp .ge 14, (0, 0, 0), .null, [])), (33, (.aload_n 3, (0, 0, 0), .null, [])), (34, (.iload 4, (0, 0, 0), .null, [])), (36, (.iconst (-1), (0, 0, 0), .null, [])), (37, (.iastore, (0, 0, 0), .null, [])), (38, (.iinc 4 1, (0, 0, 0), .null, []))]), (51, [(41, (.goto (-15), (0, 0, 0), .null, [])), (44, (.aload_n 3, (0, 0, 0), .null, [])), (45, (.iload_n 1, (0, 0, 0), .null, [])), (46, (.iconst 2, (0, 0, 0), .null, [])), (47, (.idiv, (0, 0, 0), .null, [])), (48, (.iconst 1, (0, 0, 0), .null, [])), (49, (.iload_n 1, (0, 0, 0), .null, [])), (50, (.iconst 2, (0, 0, 0), .null, [])), (51, (.irem, (0, 0, 0), .null, []))]), (60, [(52, (.isub, (0, 0, 0), .null, [])), (53, (.iastore, (0, 0, 0), .null, [])), (54, (.aload_n 3, (0, 0, 0), .null, [])), (55, (.iload_n 2, (0, 0, 0), .null, [])), (56, (.iconst 2, (0, 0, 0), .null, [])), (57, (.idiv, (0, 0, 0), .null, [])), (58, (.iconst 1, (0, 0, 0), .null, [])), (59, (.iload_n 2, (0, 0, 0), .null, [])), (60, (.iconst 2, (0, 0, 0), .null, []))]), (72, [(61, (.irem, (0, 0, 0), .null, [])), (62, (.isub, (0, 0, 0), .null, [])), (63, (.iastore, (0, 0, 0), .null, [])), (64, (.iconst 0, (0, 0, 0), .null, [])), (65, (.istore 4, (0, 0, 0), .null, [])), (67, (.iconst 0, (0, 0, 0), .null, [])), (68, (.istore 5, (0, 0, 0), .null, [])), (70, (.iload 5, (0, 0, 0), .null, [])), (72, (.aload_n 0, (0, 0, 0), .null, []))]), (89, [(73, (.getfield 64, (9, 1, 0), .null, [6177])), (76, (.if_icmp .ge 31, (0, 0, 0), .null, [])), (79, (.iload 4, (0, 0, 0), .null, [])), (81, (.aload_n 0, (0, 0, 0), .null, [])), (82, (.iload 5, (0, 0, 0), .null, [])), (84, (.aload_n 3, (0, 0, 0), .null, [])), (85, (.invokevirtual 204, (170, 2, 9), .null, [7117, 44])), (88, (.lconst 0, (0, 0, 0), .null, [])), (89, (.lcmp, (0, 0, 0), .null, []))]), (107, [(90, (.ifCond .ge 7, (0, 0, 0), .null, [])), (93, (.iconst 1, (0, 0, 0), .null, [])), (94, (.goto 4, (0, 0, 0), .null, [])), (97, (.iconst 0, (0, 0, 0), .null, [])), (98, (.ior, (0, 0, 0), .null, [])), (99, (.istore 4, (0, 0, 0), .null, [])), (101, (.iinc 5 1, (0, 0, 0), .null, [])), (104, (.goto (-34), (0, 0, 0), .null, [])), (107, (.iload 4, (0, 0, 0), .null, []))]), (109, [(109, (.ireturn, (0, 0, 0), .null, []))])]
def ax_t185 : List (Nat × List (Nat × ax_E2)) := [(6, [(0, (.aload_n 0, (0, 0, 0), .null, [])), (1, (.iconst 0, (0, 0, 0), .null, [])), (2, (.putfield 61, (9, 0, 0), .null, [6176])), (5, (.iload_n 1, (0, 0, 0), .null, [])), (6, (.invokestatic 201, (135, 1, 0), .null, [7197]))]), (19, [(9, (.ifCond .eq 19, (0, 0, 0), .null, [])), (12, (.iload_n 2, (0, 0, 0), .null, [])), (13, (.invokestatic 201, (135, 1, 0), .null, [7197])), (16, (.ifCond .eq 12, (0, 0, 0), .null, [])), (19, (.aload_n 0, (0, 0, 0), .null, []))]), (28, [(20, (.iload_n 1, (0, 0, 0), .null, [])), (21, (.iload_n 2, (0, 0, 0), .null, [])), (22, (.invokevirtual 230, (184, 2, 9), .null, [8026, 59])), (25, (.goto 16, (0, 0, 0), .null, [])), (28, (.aload_n 0, (0, 0, 0), .null, []))]), (37, [(29, (.iconst 1, (0, 0, 0), .null, [])), (30, (.invokevirtual 96, (132, 1, 9), .null, [7042, 29])), (33, (.ifCond .le 7, (0, 0, 0), .null, [])), (36, (.iconst 1, (0, 0, 0), .null, [])), (37, (.goto 4, (0, 0, 0), .null, []))]), (41, [(40, (.iconst 0, (0, 0, 0), .null, [])), (41, (.ireturn, (0, 0, 0), .null, []))])]
def ax_t186 : List (Nat × List (Nat × ax_E2)) := [(14, [(0, (.aload_n 0, (0, 0, 0), .null, [])), (1, (.iconst 0, (0, 0, 0), .null, [])), (2, (.putfield 61, (9, 0, 0), .null, [6176])), (5, (.iload_n 1, (0, 0, 0), .null, [])), (6, (.invokestatic 201, (135, 1, 0), .null, [7197])), (9, (.ifCond .ne 9, (0, 0, 0), .null, [])), (12, (.aload_n 0, (0, 0, 0), .null, [])), (13, (.iconst 1, (0, 0, 0), .null, [])), (14, (.invokevirtual 96, (132, 1, 9), .null, [7042, 29]))]), (28, [(17, (.ireturn, (0, 0, 0), .null, [])), (18, (.aload_n 0, (0, 0, 0), .null, [])), (19, (.iconst 1, (0, 0, 0), .null, [])), (20, (.putfield 233, (9, 19, 0), .null, [6195])), (23, (.iconst 0, (0, 0, 0), .null, [])), (24, (.istore_n 2, (0, 0, 0), .null, [])), (25, (.iload_n 2, (0, 0, 0), .null, [])), (26, (.bipush 24, (0, 0, 0), .null, [])), (28, (.if_icmp .ge 25, (0, 0, 0), .null, []))]), (45, [(31, (.aload_n 0, (0, 0, 0), .null, [])), (32, (.getfield 36, (9, 20, 0), .null, [6196])), (35, (.iload_n 2, (0, 0, 0), .null, [])), (36, (.iload_n 2, (0, 0, 0), .null, [])), (37, (.iload_n 1, (0, 0, 0), .null, [])), (38, (.if_icmp .ne 7, (0, 0, 0), .null, [])), (41, (.iconst 1, (0, 0, 0), .null, [])), (42, (.goto 4, (0, 0, 0), .null, [])), (45, (.iconst 0, (0, 0, 0), .null, []))]), (61, [(46, (.bastore, (0, 0, 0), .null, [])), (47, (.iinc 2 1, (0, 0, 0), .null, [])), (50, (.goto (-25), (0, 0, 0), .null, [])), (53, (.iconst 0, (0, 0, 0), .null, [])), (54, (.istore_n 2, (0, 0, 0), .null, [])), (55, (.iload_n 2, (0, 0, 0), .null, [])), (56, (.bipush 24, (0, 0, 0), .null, [])), (58, (.if_icmp .ge 80, (0, 0, 0), .null, [])), (61, (.aload_n 0, (0, 0, 0), .null, []))]), (76, [(62, (.getfield 36, (9, 20, 0), .null, [6196])), (65, (.iload_n 2, (0, 0, 0), .null, [])), (66, (.baload, (0, 0, 0), .null, [])), (67, (.ifCond .ne 7, (0, 0, 0), .null, [])), (70, (.iconst 1, (0, 0, 0), .null, [])), (71, (.goto 4, (0, 0, 0), .null, [])), (74, (.iconst 0, (0, 0, 0), .null, [])), (75, (.istore_n 3, (0, 0, 0), .null, [])), (76, (.iconst 0, (0, 0, 0), .null, []))]), (94, [(77, (.istore 4, (0, 0, 0), .null, [])), (79, (.iload 4, (0, 0, 0), .null, [])), (81, (.bipush 24, (0, 0, 0), .null, [])), (83, (.if_icmp .ge 39, (0, 0, 0), .null, [])), (86, (.iload_n 3, (0, 0, 0), .null, [])), (87, (.ifCond .eq 35, (0, 0, 0), .null, [])), (90, (.aload_n 0, (0, 0, 0), .null, [])), (91, (.getfield 36, (9, 20, 0), .null, [6196])), (94, (.iload 4, (0, 0, 0), .null, []))]), (111, [(96, (.baload, (0, 0, 0), .null, [])), (97, (.ifCond .eq 13, (0, 0, 0), .null, [])), (100, (.aload_n 0, (0, 0, 0), .null, [])), (101, (.iload_n 2, (0, 0, 0), .null, [])), (102, (.iload 4, (0, 0, 0), .null, [])), (104, (.invokevirtual 230, (184, 2, 9), .null, [8026, 59])), (107, (.ifCond .eq 7, (0, 0, 0), .null, [])), (110, (.iconst 1, (0, 0, 0), .null, [])), (111, (.goto 4, (0, 0, 0), .null, []))]), (128, [(114, (.iconst 0, (0, 0, 0), .null, [])), (115, (.istore_n 3, (0, 0, 0), .null, [])), (116, (.iinc 4 1, (0, 0, 0), .null, [])), (119, (.goto (-40), (0, 0, 0), .null, [])), (122, (.aload_n 0, (0, 0, 0), .null, [])), (123, (.getfield 36, (9, 20, 0), .null, [6196])), (126, (.iload_n 2, (0, 0, 0), .null, [])), (127, (.dup2, (0, 0, 0), .null, [])), (128, (.baload, (0, 0, 0), .null, []))]), (145, [(129, (.iload_n 3, (0, 0, 0), .null, [])), (130, (.ior, (0, 0, 0), .null, [])), (131, (.bastore, (0, 0, 0), .null, [])), (132, (.iinc 2 1, (0, 0, 0), .null, [])), (135, (.goto (-80), (0, 0, 0), .null, [])), (138, (.aload_n 0, (0, 0, 0), .null, [])), (139, (.getfield 36, (9, 20, 0), .null, [6196])), (142, (.invokestatic 237, (187, 1, 0), .null, [8034])), (145, (.ireturn, (0, 0, 0), .null, []))])]
def ax_t187 : List (Nat × List (Nat × ax_E2)) := [(4, [(0, (.iconst 0, (0, 0, 0), .null, [])), (1, (.istore_n 1, (0, 0, 0), .null, [])), (2, (.aload_n 0, (0, 0, 0), .null, [])), (3, (.astore_n 2, (0, 0, 0), .null, [])), (4, (.aload_n 2, (0, 0, 0), .null, []))]), (10, [(5, (.arraylength, (0, 0, 0), .null, [])), (6, (.istore_n 3, (0, 0, 0), .null, [])), (7, (.iconst 0, (0, 0, 0), .null, [])), (8, (.istore 4, (0, 0, 0), .null, [])), (10, (.iload 4, (0, 0, 0), .null, []))]), (19, [(12, (.iload_n 3, (0, 0, 0), .null, [])), (13, (.if_icmp .ge 28, (0, 0, 0), .null, [])), (16, (.aload_n 2, (0, 0, 0), .null, [])), (17, (.iload 4, (0, 0, 0), .null, [])), (19, (.baload, (0, 0, 0), .null, []))]), (28, [(20, (.istore 5, (0, 0, 0), .null, [])), (22, (.iload_n 1, (0, 0, 0), .null, [])), (23, (.iload 5, (0, 0, 0), .null, [])), (25, (.ifCond .eq 7, (0, 0, 0), .null, [])), (28, (.iconst 1, (0, 0, 0), .null, []))]), (35, [(29, (.goto 4, (0, 0, 0), .null, [])), (32, (.iconst 0, (0, 0, 0), .null, [])), (33, (.iadd, (0, 0, 0), .null, [])), (34, (.istore_n 1, (0, 0, 0), .null, [])), (35, (.iinc 4 1, (0, 0, 0), .null, []))]), (42, [(38, (.goto (-28), (0, 0, 0), .null, [])), (41, (.iload_n 1, (0, 0, 0), .null, [])), (42, (.ireturn, (0, 0, 0), .null, []))])]
def ax_t188 : List (Nat × List (Nat × ax_E2)) := [(4, [(0, (.iconst 0, (0, 0, 0), .null, [])), (1, (.istore_n 2, (0, 0, 0), .null, [])), (2, (.iconst 0, (0, 0, 0), .null, [])), (3, (.istore_n 3, (0, 0, 0), .null, [])), (4, (.iload_n 3, (0, 0, 0), .null, []))]), (12, [(5, (.bipush 24, (0, 0, 0), .null, [])), (7, (.if_icmp .ge 36, (0, 0, 0), .null, [])), (10, (.aload_n 0, (0, 0, 0), .null, [])), (11, (.iload_n 3, (0, 0, 0), .null, [])), (12, (.baload, (0, 0, 0), .null, []))]), (21, [(13, (.ifCond .eq 10, (0, 0, 0), .null, [])), (16, (.iload_n 2, (0, 0, 0), .null, [])), (17, (.iload_n 1, (0, 0, 0), .null, [])), (18, (.if_icmp .ne 5, (0, 0, 0), .null, [])), (21, (.iload_n 3, (0, 0, 0), .null, []))]), (26, [(22, (.ireturn, (0, 0, 0), .null, [])), (23, (.iload_n 2, (0, 0, 0), .null, [])), (24, (.aload_n 0, (0, 0, 0), .null, [])), (25, (.iload_n 3, (0, 0, 0), .null, [])), (26, (.baload, (0, 0, 0), .null, []))]), (35, [(27, (.ifCond .eq 7, (0, 0, 0), .null, [])), (30, (.iconst 1, (0, 0, 0), .null, [])), (31, (.goto 4, (0, 0, 0), .null, [])), (34, (.iconst 0, (0, 0, 0), .null, [])), (35, (.iadd, (0, 0, 0), .null, []))]), (44, [(36, (.istore_n 2, (0, 0, 0), .null, [])), (37, (.iinc 3 1, (0, 0, 0), .null, [])), (40, (.goto (-36), (0, 0, 0), .null, [])), (43, (.iconst (-1), (0, 0, 0), .null, [])), (44, (.ireturn, (0, 0, 0), .null, []))])]
def ax_t189 : List (Nat × List (Nat × ax_E2)) := [(5, [(0, (.aload_n 0, (0, 0, 0), .null, [])), (1, (.iconst 0, (0, 0, 0), .null, [])), (2, (.putfield 61, (9, 0, 0), .null, [6176])), (5, (.aload_n 0, (0, 0, 0), .null, []))]), (13, [(6, (.getfield 36, (9, 20, 0), .null, [6196])), (9, (.iload_n 1, (0, 0, 0), .null, [])), (10, (.invokestatic 241, (188, 2, 0), .null, [8041])), (13, (.istore_n 2, (0, 0, 0), .null, []))]), (19, [(14, (.iload_n 2, (0, 0, 0), .null, [])), (15, (.ifCond .ge 11, (0, 0, 0), .null, [])), (18, (.aload_n 0, (0, 0, 0), .null, [])), (19, (.iconst 1, (0, 0, 0), .null, []))]), (27, [(20, (.invokevirtual 96, (132, 1, 9), .null, [7042, 29])), (23, (.goto 4, (0, 0, 0), .null, [])), (26, (.iload_n 2, (0, 0, 0), .null, [])), (27, (.ireturn, (0, 0, 0), .null, []))])]
def ax_t190 : List (Nat × List (Nat × ax_E2)) := [(12, [(0, (.aload_n 0, (0, 0, 0), .null, [])), (1, (.iconst 0, (0, 0, 0), .null, [])), (2, (.putfield 61, (9, 0, 0), .null, [6176])), (5, (.aload_n 0, (0, 0, 0), .null, [])), (6, (.getfield 233, (9, 19, 0), .null, [6195])), (9, (.ifCond .ne 9, (0, 0, 0), .null, [])), (12, (.aload_n 0, (0, 0, 0), .null, []))]), (23, [(13, (.iconst 1, (0, 0, 0), .null, [])), (14, (.invokevirtual 96, (132, 1, 9), .null, [7042, 29])), (17, (.ireturn, (0, 0, 0), .null, [])), (18, (.aload_n 0, (0, 0, 0), .null, [])), (19, (.invokevirtual 147, (137, 0, 9), .null, [7095, 39])), (22, (.iconst 0, (0, 0, 0), .null, [])), (23, (.istore_n 1, (0, 0, 0), .null, []))]), (35, [(24, (.iload_n 1, (0, 0, 0), .null, [])), (25, (.bipush 24, (0, 0, 0), .null, [])), (27, (.if_icmp .ge 26, (0, 0, 0), .null, [])), (30, (.aload_n 0, (0, 0, 0), .null, [])), (31, (.getfield 36, (9, 20, 0), .null, [6196])), (34, (.iload_n 1, (0, 0, 0), .null, [])), (35, (.baload, (0, 0, 0), .null, []))]), (44, [(36, (.ifCond .eq 11, (0, 0, 0), .null, [])), (39, (.aload_n 0, (0, 0, 0), .null, [])), (40, (.lconst 1, (0, 0, 0), .null, [])), (41, (.iload_n 1, (0, 0, 0), .null, [])), (42, (.iconst 1, (0, 0, 0), .null, [])), (43, (.ixor, (0, 0, 0), .null, [])), (44, (.invokevirtual 75, (138, 2, 9), .null, [7099, 40]))]), (59, [(47, (.iinc 1 1, (0, 0, 0), .null, [])), (50, (.goto (-26), (0, 0, 0), .null, [])), (53, (.aload_n 0, (0, 0, 0), .null, [])), (54, (.dup, (0, 0, 0), .null, [])), (55, (.getfield 67, (9, 5, 0), .null, [6181])), (58, (.aload_n 0, (0, 0, 0), .null, [])), (59, (.getfield 36, (9, 20, 0), .null, [6196]))]), (72, [(62, (.invokestatic 237, (187, 1, 0), .null, [8034])), (65, (.iconst 1, (0, 0, 0), .null, [])), (66, (.isub, (0, 0, 0), .null, [])), (67, (.i2l, (0, 0, 0), .null, [])), (68, (.ladd, (0, 0, 0), .null, [])), (69, (.putfield 67, (9, 5, 0), .null, [6181])), (72, (.aload_n 0, (0, 0, 0), .null, []))]), (77, [(73, (.iconst 2, (0, 0, 0), .null, [])), (74, (.invokevirtual 218, (174, 1, 9), .null, [7220, 57])), (77, (.ireturn, (0, 0, 0), .null, []))])]
def ax_t191 : List (Nat × List (Nat × ax_E2)) := [(14, [(0, (.iconst 0, (0, 0, 0), .null, [])), (1, (.istore_n 1, (0, 0, 0), .null, [])), (2, (.iload_n 1, (0, 0, 0), .null, [])), (3, (.bipush 12, (0, 0, 0), .null, [])), (5, (.if_icmp .ge 16, (0, 0, 0), .null, [])), (8, (.aload_n 0, (0, 0, 0), .null, [])), (9, (.getfield 43, (9, 23, 0), .null, [6199])), (12, (.iload_n 1, (0, 0, 0), .null, [])), (13, (.iconst (-1), (0, 0, 0), .null, [])), (14, (.iastore, (0, 0, 0), .null, []))]), (32, [(15, (.iinc 1 1, (0, 0, 0), .null, [])), (18, (.goto (-16), (0, 0, 0), .null, [])), (21, (.iconst 0, (0, 0, 0), .null, [])), (22, (.istore_n 1, (0, 0, 0), .null, [])), (23, (.iload_n 1, (0, 0, 0), .null, [])), (24, (.aload_n 0, (0, 0, 0), .null, [])), (25, (.getfield 244, (9, 21, 0), .null, [6197])), (28, (.if_icmp .ge 32, (0, 0, 0), .null, [])), (31, (.aload_n 0, (0, 0, 0), .null, [])), (32, (.getfield 43, (9, 23, 0), .null, [6199]))]), (48, [(35, (.aload_n 0, (0, 0, 0), .null, [])), (36, (.getfield 40, (9, 22, 0), .null, [6198])), (39, (.iload_n 1, (0, 0, 0), .null, [])), (40, (.iaload, (0, 0, 0), .null, [])), (41, (.iconst 2, (0, 0, 0), .null, [])), (42, (.idiv, (0, 0, 0), .null, [])), (43, (.iconst 1, (0, 0, 0), .null, [])), (44, (.aload_n 0, (0, 0, 0), .null, [])), (45, (.getfield 40, (9, 22, 0), .null, [6198])), (48, (.iload_n 1, (0, 0, 0), .null, []))]), (62, [(49, (.iaload, (0, 0, 0), .null, [])), (50, (.iconst 2, (0, 0, 0), .null, [])), (51, (.irem, (0, 0, 0), .null, [])), (52, (.isub, (0, 0, 0), .null, [])), (53, (.iastore, (0, 0, 0), .null, [])), (54, (.iinc 1 1, (0, 0, 0), .null, [])), (57, (.goto (-34), (0, 0, 0), .null, [])), (60, (.aload_n 0, (0, 0, 0), .null, [])), (61, (.iconst 0, (0, 0, 0), .null, [])), (62, (.putfield 247, (9, 24, 0), .null, [6200]))]), (80, [(65, (.iconst 1, (0, 0, 0), .null, [])), (66, (.istore_n 1, (0, 0, 0), .null, [])), (67, (.iload_n 1, (0, 0, 0), .null, [])), (68, (.ifCond .eq 84, (0, 0, 0), .null, [])), (71, (.aload_n 0, (0, 0, 0), .null, [])), (72, (.getfield 247, (9, 24, 0), .null, [6200])), (75, (.ifCond .ne 77, (0, 0, 0), .null, [])), (78, (.iconst 0, (0, 0, 0), .null, [])), (79, (.istore_n 1, (0, 0, 0), .null, [])), (80, (.iconst 0, (0, 0, 0), .null, []))]), (98, [(81, (.istore_n 2, (0, 0, 0), .null, [])), (82, (.iload_n 2, (0, 0, 0), .null, [])), (83, (.aload_n 0, (0, 0, 0), .null, [])), (84, (.getfield 64, (9, 1, 0), .null, [6177])), (87, (.if_icmp .ge 62, (0, 0, 0), .null, [])), (90, (.aload_n 0, (0, 0, 0), .null, [])), (91, (.getfield 247, (9, 24, 0), .null, [6200])), (94, (.ifCond .ne 55, (0, 0, 0), .null, [])), (97, (.aload_n 0, (0, 0, 0), .null, [])), (98, (.aload_n 0, (0, 0, 0), .null, []))]), (116, [(99, (.iload_n 2, (0, 0, 0), .null, [])), (100, (.aload_n 0, (0, 0, 0), .null, [])), (101, (.getfield 43, (9, 23, 0), .null, [6199])), (104, (.invokevirtual 204, (170, 2, 9), .null, [7117, 44])), (107, (.lconst 0, (0, 0, 0), .null, [])), (108, (.lcmp, (0, 0, 0), .null, [])), (109, (.ifCond .ge 7, (0, 0, 0), .null, [])), (112, (.iconst 1, (0, 0, 0), .null, [])), (113, (.goto 4, (0, 0, 0), .null, [])), (116, (.iconst 0, (0, 0, 0), .null, []))]), (136, [(117, (.putfield 247, (9, 24, 0), .null, [6200])), (120, (.iload_n 1, (0, 0, 0), .null, [])), (121, (.aload_n 0, (0, 0, 0), .null, [])), (122, (.getfield 247, (9, 24, 0), .null, [6200])), (125, (.ifCond .ne 15, (0, 0, 0), .null, [])), (128, (.aload_n 0, (0, 0, 0), .null, [])), (129, (.iload_n 2, (0, 0, 0), .null, [])), (130, (.invokevirtual 250, (192, 1, 9), .null, [7125, 46])), (133, (.ifCond .eq 7, (0, 0, 0), .null, [])), (136, (.iconst 1, (0, 0, 0), .null, []))]), (154, [(137, (.goto 4, (0, 0, 0), .null, [])), (140, (.iconst 0, (0, 0, 0), .null, [])), (141, (.ior, (0, 0, 0), .null, [])), (142, (.istore_n 1, (0, 0, 0), .null, [])), (143, (.iinc 2 1, (0, 0, 0), .null, [])), (146, (.goto (-64), (0, 0, 0), .null, [])), (149, (.goto (-82), (0, 0, 0), .null, [])), (152, (.iconst 0, (0, 0, 0), .null, [])), (153, (.istore_n 2, (0, 0, 0), .null, [])), (154, (.iload_n 2, (0, 0, 0), .null, []))]), (173, [(155, (.bipush 12, (0, 0, 0), .null, [])), (157, (.if_icmp .ge 23, (0, 0, 0), .null, [])), (160, (.aload_n 0, (0, 0, 0), .null, [])), (161, (.getfield 247, (9, 24, 0), .null, [6200])), (164, (.ifCond .eq 16, (0, 0, 0), .null, [])), (167, (.aload_n 0, (0, 0, 0), .null, [])), (168, (.getfield 43, (9, 23, 0), .null, [6199])), (171, (.iload_n 2, (0, 0, 0), .null, [])), (172, (.iconst (-1), (0, 0, 0), .null, [])), (173, (.iastore, (0, 0, 0), .null, []))]), (180, [(174, (.iinc 2 1, (0, 0, 0), .null, [])), (177, (.goto (-23), (0, 0, 0), .null, [])), (180, (.return_, (0, 0, 0), .null, []))])]
def ax_t192 : List (Nat × List (Nat × ax_E2)) := [(10, [(0, (.aload_n 0, (0, 0, 0), .null, [])), (1, (.iload_n 1, (0, 0, 0), .null, [])), (2, (.aload_n 0, (0, 0, 0), .null, [])), (3, (.getfield 43, (9, 23, 0), .null, [6199])), (6, (.invokevirtual 204, (170, 2, 9), .null, [7117, 44])), (9, (.lstore_n 2, (0, 0, 0), .null, [])), (10, (.iconst 0, (0, 0, 0), .null, []))]), (23, [(11, (.istore 4, (0, 0, 0), .null, [])), (13, (.iconst 0, (0, 0, 0), .null, [])), (14, (.istore 5, (0, 0, 0), .null, [])), (16, (.iload 5, (0, 0, 0), .null, [])), (18, (.bipush 24, (0, 0, 0), .null, [])), (20, (.if_icmp .ge 54, (0, 0, 0), .null, [])), (23, (.aload_n 0, (0, 0, 0), .null, []))]), (35, [(24, (.getfield 43, (9, 23, 0), .null, [6199])), (27, (.iload 5, (0, 0, 0), .null, [])), (29, (.iconst 2, (0, 0, 0), .null, [])), (30, (.idiv, (0, 0, 0), .null, [])), (31, (.iaload, (0, 0, 0), .null, [])), (32, (.ifCond .ge 36, (0, 0, 0), .null, [])), (35, (.aload_n 0, (0, 0, 0), .null, []))]), (47, [(36, (.iload_n 1, (0, 0, 0), .null, [])), (37, (.iload 5, (0, 0, 0), .null, [])), (39, (.invokevirtual 71, (136, 2, 9), .null, [7121, 45])), (42, (.lload_n 2, (0, 0, 0), .null, [])), (43, (.lcmp, (0, 0, 0), .null, [])), (44, (.ifCond .gt 6, (0, 0, 0), .null, [])), (47, (.goto 21, (0, 0, 0), .null, []))]), (59, [(50, (.aload_n 0, (0, 0, 0), .null, [])), (51, (.getfield 43, (9, 23, 0), .null, [6199])), (54, (.iload 5, (0, 0, 0), .null, [])), (56, (.iconst 2, (0, 0, 0), .null, [])), (57, (.idiv, (0, 0, 0), .null, [])), (58, (.iconst 1, (0, 0, 0), .null, [])), (59, (.iload 5, (0, 0, 0), .null, []))]), (68, [(61, (.iconst 2, (0, 0, 0), .null, [])), (62, (.irem, (0, 0, 0), .null, [])), (63, (.isub, (0, 0, 0), .null, [])), (64, (.iastore, (0, 0, 0), .null, [])), (65, (.iconst 1, (0, 0, 0), .null, [])), (66, (.istore 4, (0, 0, 0), .null, [])), (68, (.iinc 5 1, (0, 0, 0), .null, []))]), (76, [(71, (.goto (-55), (0, 0, 0), .null, [])), (74, (.iload 4, (0, 0, 0), .null, [])), (76, (.ireturn, (0, 0, 0), .null, []))])]
def ax_t193 : List (Nat × List (Nat × ax_E2)) := [(4, [(0, (.iconst 0, (0, 0, 0), .null, [])), (1, (.istore_n 1, (0, 0, 0), .null, [])), (2, (.iconst 0, (0, 0, 0), .null, [])), (3, (.istore_n 2, (0, 0, 0), .null, [])), (4, (.iload_n 2, (0, 0, 0), .null, []))]), (12, [(5, (.bipush 12, (0, 0, 0), .null, [])), (7, (.if_icmp .ge 26, (0, 0, 0), .null, [])), (10, (.iload_n 1, (0, 0, 0), .null, [])), (11, (.aload_n 0, (0, 0, 0), .null, [])), (12, (.getfield 43, (9, 23, 0), .null, [6199]))]), (21, [(15, (.iload_n 2, (0, 0, 0), .null, [])), (16, (.iaload, (0, 0, 0), .null, [])), (17, (.ifCond .lt 7, (0, 0, 0), .null, [])), (20, (.iconst 1, (0, 0, 0), .null, [])), (21, (.goto 4, (0, 0, 0), .null, []))]), (30, [(24, (.iconst 0, (0, 0, 0), .null, [])), (25, (.iadd, (0, 0, 0), .null, [])), (26, (.istore_n 1, (0, 0, 0), .null, [])), (27, (.iinc 2 1, (0, 0, 0), .null, [])), (30, (.goto (-26), (0, 0, 0), .null, []))]), (34, [(33, (.iload_n 1, (0, 0, 0), .null, [])), (34, (.ireturn, (0, 0, 0), .null, []))])]
def ax_t194 : List (Nat × List (Nat × ax_E2)) := [(12, [(0, (.aload_n 0, (0, 0, 0), .null, [])), (1, (.iconst 0, (0, 0, 0), .null, [])), (2, (.putfield 61, (9, 0, 0), .null, [6176])), (5, (.iload_n 1, (0, 0, 0), .null, [])), (6, (.invokestatic 201, (135, 1, 0), .null, [7197])), (9, (.ifCond .ne 9, (0, 0, 0), .null, [])), (12, (.aload_n 0, (0, 0, 0), .null, []))]), (23, [(13, (.iconst 1, (0, 0, 0), .null, [])), (14, (.invokevirtual 96, (132, 1, 9), .null, [7042, 29])), (17, (.ireturn, (0, 0, 0), .null, [])), (18, (.aload_n 0, (0, 0, 0), .null, [])), (19, (.getfield 43, (9, 23, 0), .null, [6199])), (22, (.iload_n 1, (0, 0, 0), .null, [])), (23, (.iconst 2, (0, 0, 0), .null, []))]), (36, [(24, (.idiv, (0, 0, 0), .null, [])), (25, (.iaload, (0, 0, 0), .null, [])), (26, (.ifCond .ge 10, (0, 0, 0), .null, [])), (29, (.aload_n 0, (0, 0, 0), .null, [])), (30, (.getfield 247, (9, 24, 0), .null, [6200])), (33, (.ifCond .eq 9, (0, 0, 0), .null, [])), (36, (.aload_n 0, (0, 0, 0), .null, []))]), (47, [(37, (.iconst 2, (0, 0, 0), .null, [])), (38, (.invokevirtual 96, (132, 1, 9), .null, [7042, 29])), (41, (.ireturn, (0, 0, 0), .null, [])), (42, (.aload_n 0, (0, 0, 0), .null, [])), (43, (.getfield 40, (9, 22, 0), .null, [6198])), (46, (.aload_n 0, (0, 0, 0), .null, [])), (47, (.getfield 244, (9, 21, 0), .null, [6197]))]), (58, [(50, (.iload_n 1, (0, 0, 0), .null, [])), (51, (.iastore, (0, 0, 0), .null, [])), (52, (.aload_n 0, (0, 0, 0), .null, [])), (53, (.dup, (0, 0, 0), .null, [])), (54, (.getfield 244, (9, 21, 0), .null, [6197])), (57, (.iconst 1, (0, 0, 0), .null, [])), (58, (.iadd, (0, 0, 0), .null, []))]), (73, [(59, (.putfield 244, (9, 21, 0), .null, [6197])), (62, (.aload_n 0, (0, 0, 0), .null, [])), (63, (.invokevirtual 90, (191, 0, 9), .null, [7113, 43])), (66, (.aload_n 0, (0, 0, 0), .null, [])), (67, (.getfield 247, (9, 24, 0), .null, [6200])), (70, (.ifCond .ne 8, (0, 0, 0), .null, [])), (73, (.aload_n 0, (0, 0, 0), .null, []))]), (84, [(74, (.invokevirtual 253, (193, 0, 9), .null, [8052, 60])), (77, (.ireturn, (0, 0, 0), .null, [])), (78, (.aload_n 0, (0, 0, 0), .null, [])), (79, (.dup, (0, 0, 0), .null, [])), (80, (.getfield 244, (9, 21, 0), .null, [6197])), (83, (.iconst 1, (0, 0, 0), .null, [])), (84, (.isub, (0, 0, 0), .null, []))]), (93, [(85, (.putfield 244, (9, 21, 0), .null, [6197])), (88, (.aload_n 0, (0, 0, 0), .null, [])), (89, (.invokevirtual 90, (191, 0, 9), .null, [7113, 43])), (92, (.iconst (-1), (0, 0, 0), .null, [])), (93, (.ireturn, (0, 0, 0), .null, []))])]
def ax_t195 : List (Nat × List (Nat × ax_E2)) := [(6, [(0, (.aload_n 0, (0, 0, 0), .null, [])), (1, (.iconst 0, (0, 0, 0), .null, [])), (2, (.putfield 61, (9, 0, 0), .null, [6176])), (5, (.aload_n 0, (0, 0, 0), .null, [])), (6, (.getfield 244, (9, 21, 0), .null, [6197]))]), (17, [(9, (.ifCond .ne 9, (0, 0, 0), .null, [])), (12, (.aload_n 0, (0, 0, 0), .null, [])), (13, (.iconst 1, (0, 0, 0), .null, [])), (14, (.invokevirtual 96, (132, 1, 9), .null, [7042, 29])), (17, (.ireturn, (0, 0, 0), .null, []))]), (24, [(18, (.aload_n 0, (0, 0, 0), .null, [])), (19, (.dup, (0, 0, 0), .null, [])), (20, (.getfield 244, (9, 21, 0), .null, [6197])), (23, (.iconst 1, (0, 0, 0), .null, [])), (24, (.isub, (0, 0, 0), .null, []))]), (33, [(25, (.putfield 244, (9, 21, 0), .null, [6197])), (28, (.aload_n 0, (0, 0, 0), .null, [])), (29, (.invokevirtual 90, (191, 0, 9), .null, [7113, 43])), (32, (.aload_n 0, (0, 0, 0), .null, [])), (33, (.getfield 244, (9, 21, 0), .null, [6197]))]), (36, [(36, (.ireturn, (0, 0, 0), .null, []))])]
def ax_t196 : List (Nat × List (Nat × ax_E2)) := [(5, [(0, (.aload_n 0, (0, 0, 0), .null, [])), (1, (.iconst 0, (0, 0, 0), .null, [])), (2, (.putfield 61, (9, 0, 0), .null, [6176])), (5, (.aload_n 0, (0, 0, 0), .null, []))]), (9, [(6, (.getfield 244, (9, 21, 0), .null, [6197])), (9, (.ireturn, (0, 0, 0), .null, []))])]
def ax_t197 : List (Nat × List (Nat × ax_E2)) := [(5, [(0, (.aload_n 0, (0, 0, 0), .null, [])), (1, (.iconst 0, (0, 0, 0), .null, [])), (2, (.putfield 61, (9, 0, 0), .null, [6176])), (5, (.aload_n 0, (0, 0, 0), .null, []))]), (9, [(6, (.getfield 247, (9, 24, 0), .null, [6200])), (9, (.ireturn, (0, 0, 0), .null, []))])]
def ax_t198 : List (Nat × List (Nat × ax_E2)) := [(5, [(0, (.aload_n 0, (0, 0, 0), .null, [])), (1, (.iconst 0, (0, 0, 0), .null, [])), (2, (.putfield 61, (9, 0, 0), .null, [6176])), (5, (.iload_n 1, (0, 0, 0), .null, []))]), (13, [(6, (.invokestatic 224, (134, 1, 0), .null, [8008])), (9, (.ifCond .eq 12, (0, 0, 0), .null, [])), (12, (.aload_n 0, (0, 0, 0), .null, [])), (13, (.getfield 43, (9, 23, 0), .null, [6199]))]), (21, [(16, (.iload_n 1, (0, 0, 0), .null, [])), (17, (.iaload, (0, 0, 0), .null, [])), (18, (.goto 8, (0, 0, 0), .null, [])), (21, (.aload_n 0, (0, 0, 0), .null, []))]), (26, [(22, (.iconst 1, (0, 0, 0), .null, [])), (23, (.invokevirtual 96, (132, 1, 9), .null, [7042, 29])), (26, (.ireturn, (0, 0, 0), .null, []))])]
def ax_t199 : List (Nat × List (Nat × ax_E2)) := [(3, [(0, (.iload_n 0, (0, 0, 0), .null, [])), (1, (.iload_n 1, (0, 0, 0), .null, [])), (2, (.iconst 2, (0, 0, 0), .null, [])), (3, (.idiv, (0, 0, 0), .null, []))]), (7, [(4, (.ishr, (0, 0, 0), .null, [])), (5, (.iconst 1, (0, 0, 0), .null, [])), (6, (.iand, (0, 0, 0), .null, [])), (7, (.iconst 1, (0, 0, 0), .null, []))]), (11, [(8, (.iload_n 1, (0, 0, 0), .null, [])), (9, (.iconst 2, (0, 0, 0), .null, [])), (10, (.irem, (0, 0, 0), .null, [])), (11, (.isub, (0, 0, 0), .null, []))]), (19, [(12, (.if_icmp .ne 7, (0, 0, 0), .null, [])), (15, (.iconst 1, (0, 0, 0), .null, [])), (16, (.goto 4, (0, 0, 0), .null, [])), (19, (.iconst 0, (0, 0, 0), .null, []))]), (20, [(20, (.ireturn, (0, 0, 0), .null, []))])]
def ax_t200 : List (Nat × List (Nat × ax_E2)) := [(7, [(0, (.iconst 0, (0, 0, 0), .null, [])), (1, (.istore_n 2, (0, 0, 0), .null, [])), (2, (.iload_n 2, (0, 0, 0), .null, [])), (3, (.aload_n 0, (0, 0, 0), .null, [])), (4, (.getfield 64, (9, 1, 0), .null, [6177])), (7, (.if_icmp .ge 63, (0, 0, 0), .null, []))]), (17, [(10, (.lconst 0, (0, 0, 0), .null, [])), (11, (.lstore_n 3, (0, 0, 0), .null, [])), (12, (.iconst 0, (0, 0, 0), .null, [])), (13, (.istore 5, (0, 0, 0), .null, [])), (15, (.iload 5, (0, 0, 0), .null, [])), (17, (.bipush 24, (0, 0, 0), .null, []))]), (29, [(19, (.if_icmp .ge 32, (0, 0, 0), .null, [])), (22, (.lload_n 3, (0, 0, 0), .null, [])), (23, (.iload_n 1, (0, 0, 0), .null, [])), (24, (.iload 5, (0, 0, 0), .null, [])), (26, (.invokestatic 169, (199, 2, 0), .null, [7145])), (29, (.ifCond .eq 13, (0, 0, 0), .null, []))]), (42, [(32, (.aload_n 0, (0, 0, 0), .null, [])), (33, (.iload_n 2, (0, 0, 0), .null, [])), (34, (.iload 5, (0, 0, 0), .null, [])), (36, (.invokevirtual 71, (136, 2, 9), .null, [7121, 45])), (39, (.goto 4, (0, 0, 0), .null, [])), (42, (.lconst 0, (0, 0, 0), .null, []))]), (52, [(43, (.ladd, (0, 0, 0), .null, [])), (44, (.lstore_n 3, (0, 0, 0), .null, [])), (45, (.iinc 5 1, (0, 0, 0), .null, [])), (48, (.goto (-33), (0, 0, 0), .null, [])), (51, (.lload_n 3, (0, 0, 0), .null, [])), (52, (.aload_n 0, (0, 0, 0), .null, []))]), (62, [(53, (.getfield 13, (9, 3, 0), .null, [6179])), (56, (.iload_n 2, (0, 0, 0), .null, [])), (57, (.laload, (0, 0, 0), .null, [])), (58, (.lcmp, (0, 0, 0), .null, [])), (59, (.ifCond .ge 5, (0, 0, 0), .null, [])), (62, (.iconst 0, (0, 0, 0), .null, []))]), (71, [(63, (.ireturn, (0, 0, 0), .null, [])), (64, (.iinc 2 1, (0, 0, 0), .null, [])), (67, (.goto (-65), (0, 0, 0), .null, [])), (70, (.iconst 1, (0, 0, 0), .null, [])), (71, (.ireturn, (0, 0, 0), .null, []))])]
def ax_t201 : List (Nat × List (Nat × ax_E2)) := [(4, [(0, (.iconst 1, (0, 0, 0), .null, [])), (1, (.istore_n 2, (0, 0, 0), .null, [])), (2, (.iconst 0, (0, 0, 0), .null, [])), (3, (.istore_n 3, (0, 0, 0), .null, [])), (4, (.iload_n 3, (0, 0, 0), .null, []))]), (13, [(5, (.aload_n 0, (0, 0, 0), .null, [])), (6, (.getfield 244, (9, 21, 0), .null, [6197])), (9, (.if_icmp .ge 22, (0, 0, 0), .null, [])), (12, (.iload_n 2, (0, 0, 0), .null, [])), (13, (.iload_n 1, (0, 0, 0), .null, []))]), (20, [(14, (.aload_n 0, (0, 0, 0), .null, [])), (15, (.getfield 40, (9, 22, 0), .null, [6198])), (18, (.iload_n 3, (0, 0, 0), .null, [])), (19, (.iaload, (0, 0, 0), .null, [])), (20, (.invokestatic 169, (199, 2, 0), .null, [7145]))]), (31, [(23, (.iand, (0, 0, 0), .null, [])), (24, (.istore_n 2, (0, 0, 0), .null, [])), (25, (.iinc 3 1, (0, 0, 0), .null, [])), (28, (.goto (-24), (0, 0, 0), .null, [])), (31, (.iload_n 2, (0, 0, 0), .null, []))]), (40, [(32, (.ifCond .eq 15, (0, 0, 0), .null, [])), (35, (.aload_n 0, (0, 0, 0), .null, [])), (36, (.iload_n 1, (0, 0, 0), .null, [])), (37, (.invokevirtual 173, (200, 1, 9), .null, [7141, 49])), (40, (.ifCond .eq 7, (0, 0, 0), .null, []))]), (48, [(43, (.iconst 1, (0, 0, 0), .null, [])), (44, (.goto 4, (0, 0, 0), .null, [])), (47, (.iconst 0, (0, 0, 0), .null, [])), (48, (.ireturn, (0, 0, 0), .null, []))])]
def ax_t202 : List (Nat × List (Nat × ax_E2)) := [(3, [(0, (.iload_n 1, (0, 0, 0), .null, [])), (1, (.istore_n 2, (0, 0, 0), .null, [])), (2, (.iload_n 2, (0, 0, 0), .null, [])), (3, (.sipush 4096, (0, 0, 0), .null, []))]), (11, [(6, (.if_icmp .ge 17, (0, 0, 0), .null, [])), (9, (.aload_n 0, (0, 0, 0), .null, [])), (10, (.iload_n 2, (0, 0, 0), .null, [])), (11, (.invokevirtual 256, (201, 1, 9), .null, [8080, 62]))]), (23, [(14, (.ifCond .ne 9, (0, 0, 0), .null, [])), (17, (.iinc 2 1, (0, 0, 0), .null, [])), (20, (.goto (-18), (0, 0, 0), .null, [])), (23, (.iload_n 2, (0, 0, 0), .null, []))]), (31, [(24, (.sipush 4096, (0, 0, 0), .null, [])), (27, (.if_icmp .ge 7, (0, 0, 0), .null, [])), (30, (.iload_n 2, (0, 0, 0), .null, [])), (31, (.goto 4, (0, 0, 0), .null, []))]), (35, [(34, (.iconst (-1), (0, 0, 0), .null, [])), (35, (.ireturn, (0, 0, 0), .null, []))])]
def ax_t203 : List (Nat × List (Nat × ax_E2)) := [(5, [(0, (.aload_n 0, (0, 0, 0), .null, [])), (1, (.iconst 0, (0, 0, 0), .null, [])), (2, (.putfield 61, (9, 0, 0), .null, [6176])), (5, (.aload_n 0, (0, 0, 0), .null, []))]), (10, [(6, (.iconst 0, (0, 0, 0), .null, [])), (7, (.invokevirtual 259, (202, 1, 9), .null, [8076, 61])), (10, (.ireturn, (0, 0, 0), .null, []))])]
def ax_t204 : List (Nat × List (Nat × ax_E2)) := [(5, [(0, (.iload_n 0, (0, 0, 0), .null, [])), (1, (.ifCond .lt 14, (0, 0, 0), .null, [])), (4, (.iload_n 0, (0, 0, 0), .null, [])), (5, (.sipush 4096, (0, 0, 0), .null, []))]), (15, [(8, (.if_icmp .ge 7, (0, 0, 0), .null, [])), (11, (.iconst 1, (0, 0, 0), .null, [])), (12, (.goto 4, (0, 0, 0), .null, [])), (15, (.iconst 0, (0, 0, 0), .null, []))]), (16, [(16, (.ireturn, (0, 0, 0), .null, []))])]
def ax_t205 : List (Nat × List (Nat × ax_E2)) := [(5, [(0, (.aload_n 0, (0, 0, 0), .null, [])), (1, (.iconst 0, (0, 0, 0), .null, [])), (2, (.putfield 61, (9, 0, 0), .null, [6176])), (5, (.iload_n 1, (0, 0, 0), .null, []))]), (13, [(6, (.invokestatic 262, (204, 1, 0), .null, [8088])), (9, (.ifCond .eq 13, (0, 0, 0), .null, [])), (12, (.aload_n 0, (0, 0, 0), .null, [])), (13, (.iload_n 1, (0, 0, 0), .null, []))]), (19, [(14, (.iconst 1, (0, 0, 0), .null, [])), (15, (.iadd, (0, 0, 0), .null, [])), (16, (.invokevirtual 259, (202, 1, 9), .null, [8076, 61])), (19, (.goto 8, (0, 0, 0), .null, []))]), (27, [(22, (.aload_n 0, (0, 0, 0), .null, [])), (23, (.iconst 1, (0, 0, 0), .null, [])), (24, (.invokevirtual 96, (132, 1, 9), .null, [7042, 29])), (27, (.ireturn, (0, 0, 0), .null, []))])]
def ax_t206 : List (Nat × List (Nat × ax_E2)) := [(6, [(0, (.aload_n 0, (0, 0, 0), .null, [])), (1, (.iconst 0, (0, 0, 0), .null, [])), (2, (.putfield 61, (9, 0, 0), .null, [6176])), (5, (.iconst 0, (0, 0, 0), .null, [])), (6, (.istore_n 1, (0, 0, 0), .null, []))]), (13, [(7, (.iconst 0, (0, 0, 0), .null, [])), (8, (.istore_n 2, (0, 0, 0), .null, [])), (9, (.iload_n 2, (0, 0, 0), .null, [])), (10, (.sipush 4096, (0, 0, 0), .null, [])), (13, (.if_icmp .ge 25, (0, 0, 0), .null, []))]), (22, [(16, (.iload_n 1, (0, 0, 0), .null, [])), (17, (.aload_n 0, (0, 0, 0), .null, [])), (18, (.iload_n 2, (0, 0, 0), .null, [])), (19, (.invokevirtual 256, (201, 1, 9), .null, [8080, 62])), (22, (.ifCond .eq 7, (0, 0, 0), .null, []))]), (31, [(25, (.iconst 1, (0, 0, 0), .null, [])), (26, (.goto 4, (0, 0, 0), .null, [])), (29, (.iconst 0, (0, 0, 0), .null, [])), (30, (.iadd, (0, 0, 0), .null, [])), (31, (.istore_n 1, (0, 0, 0), .null, []))]), (39, [(32, (.iinc 2 1, (0, 0, 0), .null, [])), (35, (.goto (-26), (0, 0, 0), .null, [])), (38, (.iload_n 1, (0, 0, 0), .null, [])), (39, (.ireturn, (0, 0, 0), .null, []))])]
def ax_t207 : List (Nat × List (Nat × ax_E2)) := [(9, [(0, (.aload_n 0, (0, 0, 0), .null, [])), (1, (.iconst 0, (0, 0, 0), .null, [])), (2, (.putfield 61, (9, 0, 0), .null, [6176])), (5, (.iload_n 1, (0, 0, 0), .null, [])), (6, (.invokestatic 201, (135, 1, 0), .null, [7197])), (9, (.ifCond .ne 17, (0, 0, 0), .null, []))]), (21, [(12, (.aload_n 0, (0, 0, 0), .null, [])), (13, (.iconst 1, (0, 0, 0), .null, [])), (14, (.invokevirtual 96, (132, 1, 9), .null, [7042, 29])), (17, (.ifCond .le 7, (0, 0, 0), .null, [])), (20, (.iconst 1, (0, 0, 0), .null, [])), (21, (.goto 4, (0, 0, 0), .null, []))]), (29, [(24, (.iconst 0, (0, 0, 0), .null, [])), (25, (.ireturn, (0, 0, 0), .null, [])), (26, (.iconst 1, (0, 0, 0), .null, [])), (27, (.istore_n 2, (0, 0, 0), .null, [])), (28, (.iconst 0, (0, 0, 0), .null, [])), (29, (.istore_n 3, (0, 0, 0), .null, []))]), (39, [(30, (.iload_n 3, (0, 0, 0), .null, [])), (31, (.sipush 4096, (0, 0, 0), .null, [])), (34, (.if_icmp .ge 33, (0, 0, 0), .null, [])), (37, (.iload_n 2, (0, 0, 0), .null, [])), (38, (.aload_n 0, (0, 0, 0), .null, [])), (39, (.iload_n 3, (0, 0, 0), .null, []))]), (51, [(40, (.invokevirtual 256, (201, 1, 9), .null, [8080, 62])), (43, (.ifCond .eq 11, (0, 0, 0), .null, [])), (46, (.iload_n 3, (0, 0, 0), .null, [])), (47, (.iload_n 1, (0, 0, 0), .null, [])), (48, (.invokestatic 169, (199, 2, 0), .null, [7145])), (51, (.ifCond .eq 7, (0, 0, 0), .null, []))]), (61, [(54, (.iconst 1, (0, 0, 0), .null, [])), (55, (.goto 4, (0, 0, 0), .null, [])), (58, (.iconst 0, (0, 0, 0), .null, [])), (59, (.iand, (0, 0, 0), .null, [])), (60, (.istore_n 2, (0, 0, 0), .null, [])), (61, (.iinc 3 1, (0, 0, 0), .null, []))]), (68, [(64, (.goto (-34), (0, 0, 0), .null, [])), (67, (.iload_n 2, (0, 0, 0), .null, [])), (68, (.ireturn, (0, 0, 0), .null, []))])]
def ax_t208 : List (Nat × List (Nat × ax_E2)) := [(9, [(0, (.aload_n 0, (0, 0, 0), .null, [])), (1, (.iconst 0, (0, 0, 0), .null, [])), (2, (.putfield 61, (9, 0, 0), .null, [6176])), (5, (.iload_n 1, (0, 0, 0), .null, [])), (6, (.invokestatic 224, (134, 1, 0), .null, [8008])), (9, (.ifCond .ne 9, (0, 0, 0), .null, []))]), (19, [(12, (.aload_n 0, (0, 0, 0), .null, [])), (13, (.iconst 1, (0, 0, 0), .null, [])), (14, (.invokevirtual 96, (132, 1, 9), .null, [7042, 29])), (17, (.ireturn, (0, 0, 0), .null, [])), (18, (.iload_n 2, (0, 0, 0), .null, [])), (19, (.sipush (-1000), (0, 0, 0), .null, []))]), (33, [(22, (.if_icmp .lt 10, (0, 0, 0), .null, [])), (25, (.iload_n 2, (0, 0, 0), .null, [])), (26, (.sipush 1000, (0, 0, 0), .null, [])), (29, (.if_icmp .le 9, (0, 0, 0), .null, [])), (32, (.aload_n 0, (0, 0, 0), .null, [])), (33, (.iconst 2, (0, 0, 0), .null, []))]), (43, [(34, (.invokevirtual 96, (132, 1, 9), .null, [7042, 29])), (37, (.ireturn, (0, 0, 0), .null, [])), (38, (.aload_n 0, (0, 0, 0), .null, [])), (39, (.getfield 46, (9, 25, 0), .null, [6201])), (42, (.iload_n 1, (0, 0, 0), .null, [])), (43, (.iaload, (0, 0, 0), .null, []))]), (51, [(44, (.istore_n 3, (0, 0, 0), .null, [])), (45, (.aload_n 0, (0, 0, 0), .null, [])), (46, (.getfield 46, (9, 25, 0), .null, [6201])), (49, (.iload_n 1, (0, 0, 0), .null, [])), (50, (.iload_n 2, (0, 0, 0), .null, [])), (51, (.iastore, (0, 0, 0), .null, []))]), (53, [(52, (.iload_n 3, (0, 0, 0), .null, [])), (53, (.ireturn, (0, 0, 0), .null, []))])]
def ax_t209 : List (Nat × List (Nat × ax_E2)) := [(4, [(0, (.iconst 0, (0, 0, 0), .null, [])), (1, (.istore_n 2, (0, 0, 0), .null, [])), (2, (.iconst 0, (0, 0, 0), .null, [])), (3, (.istore_n 3, (0, 0, 0), .null, [])), (4, (.iload_n 3, (0, 0, 0), .null, []))]), (12, [(5, (.bipush 12, (0, 0, 0), .null, [])), (7, (.if_icmp .ge 24, (0, 0, 0), .null, [])), (10, (.iload_n 2, (0, 0, 0), .null, [])), (11, (.iload_n 1, (0, 0, 0), .null, [])), (12, (.iload_n 3, (0, 0, 0), .null, []))]), (17, [(13, (.ishr, (0, 0, 0), .null, [])), (14, (.iconst 1, (0, 0, 0), .null, [])), (15, (.iand, (0, 0, 0), .null, [])), (16, (.aload_n 0, (0, 0, 0), .null, [])), (17, (.getfield 46, (9, 25, 0), .null, [6201]))]), (24, [(20, (.iload_n 3, (0, 0, 0), .null, [])), (21, (.iaload, (0, 0, 0), .null, [])), (22, (.imul, (0, 0, 0), .null, [])), (23, (.iadd, (0, 0, 0), .null, [])), (24, (.istore_n 2, (0, 0, 0), .null, []))]), (32, [(25, (.iinc 3 1, (0, 0, 0), .null, [])), (28, (.goto (-24), (0, 0, 0), .null, [])), (31, (.iload_n 2, (0, 0, 0), .null, [])), (32, (.ireturn, (0, 0, 0), .null, []))])]
def ax_t210 : List (Nat × List (Nat × ax_E2)) := [(4, [(0, (.iconst (-1), (0, 0, 0), .null, [])), (1, (.istore_n 1, (0, 0, 0), .null, [])), (2, (.iconst 0, (0, 0, 0), .null, [])), (3, (.istore_n 2, (0, 0, 0), .null, [])), (4, (.iload_n 2, (0, 0, 0), .null, []))]), (13, [(5, (.sipush 4096, (0, 0, 0), .null, [])), (8, (.if_icmp .ge 36, (0, 0, 0), .null, [])), (11, (.aload_n 0, (0, 0, 0), .null, [])), (12, (.iload_n 2, (0, 0, 0), .null, [])), (13, (.invokevirtual 256, (201, 1, 9), .null, [8080, 62]))]), (24, [(16, (.ifCond .eq 22, (0, 0, 0), .null, [])), (19, (.iload_n 1, (0, 0, 0), .null, [])), (20, (.ifCond .lt 16, (0, 0, 0), .null, [])), (23, (.aload_n 0, (0, 0, 0), .null, [])), (24, (.iload_n 2, (0, 0, 0), .null, []))]), (33, [(25, (.invokevirtual 265, (209, 1, 9), .null, [8111, 64])), (28, (.aload_n 0, (0, 0, 0), .null, [])), (29, (.iload_n 1, (0, 0, 0), .null, [])), (30, (.invokevirtual 265, (209, 1, 9), .null, [8111, 64])), (33, (.if_icmp .ge 5, (0, 0, 0), .null, []))]), (44, [(36, (.iload_n 2, (0, 0, 0), .null, [])), (37, (.istore_n 1, (0, 0, 0), .null, [])), (38, (.iinc 2 1, (0, 0, 0), .null, [])), (41, (.goto (-37), (0, 0, 0), .null, [])), (44, (.iload_n 1, (0, 0, 0), .null, []))]), (45, [(45, (.ireturn, (0, 0, 0), .null, []))])]
def ax_t211 : List (Nat × List (Nat × ax_E2)) := [(5, [(0, (.aload_n 0, (0, 0, 0), .null, [])), (1, (.iconst 0, (0, 0, 0), .null, [])), (2, (.putfield 61, (9, 0, 0), .null, [6176])), (5, (.aload_n 0, (0, 0, 0), .null, []))]), (11, [(6, (.invokevirtual 268, (210, 0, 9), .null, [8107, 63])), (9, (.istore_n 1, (0, 0, 0), .null, [])), (10, (.iload_n 1, (0, 0, 0), .null, [])), (11, (.ifCond .ge 11, (0, 0, 0), .null, []))]), (19, [(14, (.aload_n 0, (0, 0, 0), .null, [])), (15, (.iconst 1, (0, 0, 0), .null, [])), (16, (.invokevirtual 96, (132, 1, 9), .null, [7042, 29])), (19, (.goto 8, (0, 0, 0), .null, []))]), (27, [(22, (.aload_n 0, (0, 0, 0), .null, [])), (23, (.iload_n 1, (0, 0, 0), .null, [])), (24, (.invokevirtual 265, (209, 1, 9), .null, [8111, 64])), (27, (.ireturn, (0, 0, 0), .null, []))])]
def ax_t212 : List (Nat × List (Nat × ax_E2)) := [(5, [(0, (.aload_n 0, (0, 0, 0), .null, [])), (1, (.iconst 0, (0, 0, 0), .null, [])), (2, (.putfield 61, (9, 0, 0), .null, [6176])), (5, (.aload_n 0, (0, 0, 0), .null, []))]), (11, [(6, (.invokevirtual 268, (210, 0, 9), .null, [8107, 63])), (9, (.istore_n 1, (0, 0, 0), .null, [])), (10, (.iload_n 1, (0, 0, 0), .null, [])), (11, (.ifCond .ge 11, (0, 0, 0), .null, []))]), (19, [(14, (.aload_n 0, (0, 0, 0), .null, [])), (15, (.iconst 1, (0, 0, 0), .null, [])), (16, (.invokevirtual 96, (132, 1, 9), .null, [7042, 29])), (19, (.goto 4, (0, 0, 0), .null, []))]), (23, [(22, (.iload_n 1, (0, 0, 0), .null, [])), (23, (.ireturn, (0, 0, 0), .null, []))])]
def ax_t213 : List (Nat × List (Nat × ax_E2)) := [(9, [(0, (.iconst 0, (0, 0, 0), .null, [])), (1, (.istore_n 2, (0, 0, 0), .null, [])), (2, (.iload_n 2, (0, 0, 0), .null, [])), (3, (.sipush 4096, (0, 0, 0), .null, [])), (6, (.if_icmp .ge 67, (0, 0, 0), .null, [])), (9, (.iconst 1, (0, 0, 0), .null, []))]), (18, [(10, (.istore_n 3, (0, 0, 0), .null, [])), (11, (.iconst 0, (0, 0, 0), .null, [])), (12, (.istore 4, (0, 0, 0), .null, [])), (14, (.iload 4, (0, 0, 0), .null, [])), (16, (.bipush 24, (0, 0, 0), .null, [])), (18, (.if_icmp .ge 35, (0, 0, 0), .null, []))]), (29, [(21, (.iload_n 3, (0, 0, 0), .null, [])), (22, (.ifCond .eq 31, (0, 0, 0), .null, [])), (25, (.aload_n 1, (0, 0, 0), .null, [])), (26, (.iload 4, (0, 0, 0), .null, [])), (28, (.baload, (0, 0, 0), .null, [])), (29, (.ifCond .eq 12, (0, 0, 0), .null, []))]), (42, [(32, (.iload_n 2, (0, 0, 0), .null, [])), (33, (.iload 4, (0, 0, 0), .null, [])), (35, (.invokestatic 169, (199, 2, 0), .null, [7145])), (38, (.ifCond .eq 7, (0, 0, 0), .null, [])), (41, (.iconst 1, (0, 0, 0), .null, [])), (42, (.goto 4, (0, 0, 0), .null, []))]), (54, [(45, (.iconst 0, (0, 0, 0), .null, [])), (46, (.istore_n 3, (0, 0, 0), .null, [])), (47, (.iinc 4 1, (0, 0, 0), .null, [])), (50, (.goto (-36), (0, 0, 0), .null, [])), (53, (.iload_n 3, (0, 0, 0), .null, [])), (54, (.ifCond .eq 13, (0, 0, 0), .null, []))]), (66, [(57, (.aload_n 0, (0, 0, 0), .null, [])), (58, (.iload_n 2, (0, 0, 0), .null, [])), (59, (.invokevirtual 256, (201, 1, 9), .null, [8080, 62])), (62, (.ifCond .eq 5, (0, 0, 0), .null, [])), (65, (.iconst 1, (0, 0, 0), .null, [])), (66, (.ireturn, (0, 0, 0), .null, []))]), (74, [(67, (.iinc 2 1, (0, 0, 0), .null, [])), (70, (.goto (-68), (0, 0, 0), .null, [])), (73, (.iconst 0, (0, 0, 0), .null, [])), (74, (.ireturn, (0, 0, 0), .null, []))])]
def ax_t214 : List (Nat × List (Nat × ax_E2)) := [(19, [(0, (.aload_n 0, (0, 0, 0), .null, [])), (1, (.iconst 0, (0, 0, 0), .null, [])), (2, (.putfield 61, (9, 0, 0), .null, [6176])), (5, (.iload_n 1, (0, 0, 0), .null, [])), (6, (.invokestatic 262, (204, 1, 0), .null, [8088])), (9, (.ifCond .eq 16, (0, 0, 0), .null, [])), (12, (.iload_n 2, (0, 0, 0), .null, [])), (13, (.invokestatic 262, (204, 1, 0), .null, [8088])), (16, (.ifCond .eq 9, (0, 0, 0), .null, [])), (19, (.iload_n 1, (0, 0, 0), .null, []))]), (35, [(20, (.iload_n 2, (0, 0, 0), .null, [])), (21, (.iand, (0, 0, 0), .null, [])), (22, (.ifCond .eq 9, (0, 0, 0), .null, [])), (25, (.aload_n 0, (0, 0, 0), .null, [])), (26, (.iconst 1, (0, 0, 0), .null, [])), (27, (.invokevirtual 96, (132, 1, 9), .null, [7042, 29])), (30, (.ireturn, (0, 0, 0), .null, [])), (31, (.bipush 24, (0, 0, 0), .null, [])), (33, (.newarray .boolean, (2, 0, 0), .null, [7033])), (35, (.astore_n 3, (0, 0, 0), .null, []))]), (51, [(36, (.iconst 0, (0, 0, 0), .null, [])), (37, (.istore 4, (0, 0, 0), .null, [])), (39, (.iload 4, (0, 0, 0), .null, [])), (41, (.bipush 12, (0, 0, 0), .null, [])), (43, (.if_icmp .ge 53, (0, 0, 0), .null, [])), (46, (.aload_n 3, (0, 0, 0), .null, [])), (47, (.iconst 2, (0, 0, 0), .null, [])), (48, (.iload 4, (0, 0, 0), .null, [])), (50, (.imul, (0, 0, 0), .null, [])), (51, (.iload_n 1, (0, 0, 0), .null, []))]), (66, [(52, (.iload 4, (0, 0, 0), .null, [])), (54, (.ishr, (0, 0, 0), .null, [])), (55, (.iconst 1, (0, 0, 0), .null, [])), (56, (.iand, (0, 0, 0), .null, [])), (57, (.iconst 1, (0, 0, 0), .null, [])), (58, (.if_icmp .ne 7, (0, 0, 0), .null, [])), (61, (.iconst 1, (0, 0, 0), .null, [])), (62, (.goto 4, (0, 0, 0), .null, [])), (65, (.iconst 0, (0, 0, 0), .null, [])), (66, (.bastore, (0, 0, 0), .null, []))]), (78, [(67, (.aload_n 3, (0, 0, 0), .null, [])), (68, (.iconst 2, (0, 0, 0), .null, [])), (69, (.iload 4, (0, 0, 0), .null, [])), (71, (.imul, (0, 0, 0), .null, [])), (72, (.iconst 1, (0, 0, 0), .null, [])), (73, (.iadd, (0, 0, 0), .null, [])), (74, (.iload_n 2, (0, 0, 0), .null, [])), (75, (.iload 4, (0, 0, 0), .null, [])), (77, (.ishr, (0, 0, 0), .null, [])), (78, (.iconst 1, (0, 0, 0), .null, []))]), (96, [(79, (.iand, (0, 0, 0), .null, [])), (80, (.iconst 1, (0, 0, 0), .null, [])), (81, (.if_icmp .ne 7, (0, 0, 0), .null, [])), (84, (.iconst 1, (0, 0, 0), .null, [])), (85, (.goto 4, (0, 0, 0), .null, [])), (88, (.iconst 0, (0, 0, 0), .null, [])), (89, (.bastore, (0, 0, 0), .null, [])), (90, (.iinc 4 1, (0, 0, 0), .null, [])), (93, (.goto (-54), (0, 0, 0), .null, [])), (96, (.aload_n 0, (0, 0, 0), .null, []))]), (113, [(97, (.aload_n 3, (0, 0, 0), .null, [])), (98, (.invokevirtual 271, (213, 1, 9), .null, [8123, 65])), (101, (.ifCond .eq 9, (0, 0, 0), .null, [])), (104, (.aload_n 0, (0, 0, 0), .null, [])), (105, (.iconst 2, (0, 0, 0), .null, [])), (106, (.invokevirtual 96, (132, 1, 9), .null, [7042, 29])), (109, (.ireturn, (0, 0, 0), .null, [])), (110, (.iconst 0, (0, 0, 0), .null, [])), (111, (.istore 4, (0, 0, 0), .null, [])), (113, (.iload 4, (0, 0, 0), .null, []))]), (133, [(115, (.bipush 24, (0, 0, 0), .null, [])), (117, (.if_icmp .ge 33, (0, 0, 0), .null, [])), (120, (.aload_n 3, (0, 0, 0), .null, [])), (121, (.iload 4, (0, 0, 0), .null, [])), (123, (.baload, (0, 0, 0), .null, [])), (124, (.ifCond .ne 6, (0, 0, 0), .null, [])), (127, (.goto 17, (0, 0, 0), .null, [])), (130, (.aload_n 3, (0, 0, 0), .null, [])), (131, (.iload 4, (0, 0, 0), .null, [])), (133, (.iconst 0, (0, 0, 0), .null, []))]), (150, [(134, (.bastore, (0, 0, 0), .null, [])), (135, (.aload_n 3, (0, 0, 0), .null, [])), (136, (.iload 4, (0, 0, 0), .null, [])), (138, (.aload_n 0, (0, 0, 0), .null, [])), (139, (.aload_n 3, (0, 0, 0), .null, [])), (140, (.invokevirtual 271, (213, 1, 9), .null, [8123, 65])), (143, (.bastore, (0, 0, 0), .null, [])), (144, (.iinc 4 1, (0, 0, 0), .null, [])), (147, (.goto (-34), (0, 0, 0), .null, [])), (150, (.aload_n 0, (0, 0, 0), .null, []))]), (169, [(151, (.iconst 1, (0, 0, 0), .null, [])), (152, (.putfield 275, (9, 26, 0), .null, [6202])), (155, (.iconst 0, (0, 0, 0), .null, [])), (156, (.istore 4, (0, 0, 0), .null, [])), (158, (.iload 4, (0, 0, 0), .null, [])), (160, (.bipush 24, (0, 0, 0), .null, [])), (162, (.if_icmp .ge 20, (0, 0, 0), .null, [])), (165, (.aload_n 0, (0, 0, 0), .null, [])), (166, (.getfield 49, (9, 27, 0), .null, [6203])), (169, (.iload 4, (0, 0, 0), .null, []))]), (189, [(171, (.aload_n 3, (0, 0, 0), .null, [])), (172, (.iload 4, (0, 0, 0), .null, [])), (174, (.baload, (0, 0, 0), .null, [])), (175, (.bastore, (0, 0, 0), .null, [])), (176, (.iinc 4 1, (0, 0, 0), .null, [])), (179, (.goto (-21), (0, 0, 0), .null, [])), (182, (.aload_n 0, (0, 0, 0), .null, [])), (183, (.getfield 49, (9, 27, 0), .null, [6203])), (186, (.invokestatic 237, (187, 1, 0), .null, [8034])), (189, (.ireturn, (0, 0, 0), .null, []))])]
def ax_t215 : List (Nat × List (Nat × ax_E2)) := [(6, [(0, (.aload_n 0, (0, 0, 0), .null, [])), (1, (.iconst 0, (0, 0, 0), .null, [])), (2, (.putfield 61, (9, 0, 0), .null, [6176])), (5, (.aload_n 0, (0, 0, 0), .null, [])), (6, (.getfield 275, (9, 26, 0), .null, [6202]))]), (17, [(9, (.ifCond .eq 14, (0, 0, 0), .null, [])), (12, (.aload_n 0, (0, 0, 0), .null, [])), (13, (.getfield 49, (9, 27, 0), .null, [6203])), (16, (.iload_n 1, (0, 0, 0), .null, [])), (17, (.invokestatic 241, (188, 2, 0), .null, [8041]))]), (26, [(20, (.goto 4, (0, 0, 0), .null, [])), (23, (.iconst (-1), (0, 0, 0), .null, [])), (24, (.istore_n 2, (0, 0, 0), .null, [])), (25, (.iload_n 2, (0, 0, 0), .null, [])), (26, (.ifCond .ge 11, (0, 0, 0), .null, []))]), (37, [(29, (.aload_n 0, (0, 0, 0), .null, [])), (30, (.iconst 1, (0, 0, 0), .null, [])), (31, (.invokevirtual 96, (132, 1, 9), .null, [7042, 29])), (34, (.goto 4, (0, 0, 0), .null, [])), (37, (.iload_n 2, (0, 0, 0), .null, []))]), (38, [(38, (.ireturn, (0, 0, 0), .null, []))])]
def ax_t216 : List (Nat × List (Nat × ax_E2)) := [(11, [(0, (.aload_n 0, (0, 0, 0), .null, [])), (1, (.iconst 0, (0, 0, 0), .null, [])), (2, (.putfield 61, (9, 0, 0), .null, [6176])), (5, (.aload_n 0, (0, 0, 0), .null, [])), (6, (.getfield 278, (9, 28, 0), .null, [6204])), (9, (.bipush 8, (0, 0, 0), .null, [])), (11, (.if_icmp .ne 9, (0, 0, 0), .null, []))]), (24, [(14, (.aload_n 0, (0, 0, 0), .null, [])), (15, (.iconst 1, (0, 0, 0), .null, [])), (16, (.invokevirtual 96, (132, 1, 9), .null, [7042, 29])), (19, (.ireturn, (0, 0, 0), .null, [])), (20, (.aload_n 0, (0, 0, 0), .null, [])), (21, (.getfield 52, (9, 29, 0), .null, [6205])), (24, (.aload_n 0, (0, 0, 0), .null, []))]), (37, [(25, (.getfield 278, (9, 28, 0), .null, [6204])), (28, (.aload_n 0, (0, 0, 0), .null, [])), (29, (.getfield 64, (9, 1, 0), .null, [6177])), (32, (.iastore, (0, 0, 0), .null, [])), (33, (.aload_n 0, (0, 0, 0), .null, [])), (34, (.getfield 55, (9, 30, 0), .null, [6206])), (37, (.aload_n 0, (0, 0, 0), .null, []))]), (48, [(38, (.getfield 278, (9, 28, 0), .null, [6204])), (41, (.aload_n 0, (0, 0, 0), .null, [])), (42, (.getfield 244, (9, 21, 0), .null, [6197])), (45, (.iastore, (0, 0, 0), .null, [])), (46, (.iconst 0, (0, 0, 0), .null, [])), (47, (.istore_n 1, (0, 0, 0), .null, [])), (48, (.iload_n 1, (0, 0, 0), .null, []))]), (62, [(49, (.aload_n 0, (0, 0, 0), .null, [])), (50, (.getfield 244, (9, 21, 0), .null, [6197])), (53, (.if_icmp .ge 29, (0, 0, 0), .null, [])), (56, (.aload_n 0, (0, 0, 0), .null, [])), (57, (.getfield 58, (9, 31, 0), .null, [6207])), (60, (.bipush 12, (0, 0, 0), .null, [])), (62, (.aload_n 0, (0, 0, 0), .null, []))]), (73, [(63, (.getfield 278, (9, 28, 0), .null, [6204])), (66, (.imul, (0, 0, 0), .null, [])), (67, (.iload_n 1, (0, 0, 0), .null, [])), (68, (.iadd, (0, 0, 0), .null, [])), (69, (.aload_n 0, (0, 0, 0), .null, [])), (70, (.getfield 40, (9, 22, 0), .null, [6198])), (73, (.iload_n 1, (0, 0, 0), .null, []))]), (84, [(74, (.iaload, (0, 0, 0), .null, [])), (75, (.iastore, (0, 0, 0), .null, [])), (76, (.iinc 1 1, (0, 0, 0), .null, [])), (79, (.goto (-31), (0, 0, 0), .null, [])), (82, (.aload_n 0, (0, 0, 0), .null, [])), (83, (.dup, (0, 0, 0), .null, [])), (84, (.getfield 278, (9, 28, 0), .null, [6204]))]), (96, [(87, (.iconst 1, (0, 0, 0), .null, [])), (88, (.iadd, (0, 0, 0), .null, [])), (89, (.putfield 278, (9, 28, 0), .null, [6204])), (92, (.aload_n 0, (0, 0, 0), .null, [])), (93, (.getfield 278, (9, 28, 0), .null, [6204])), (96, (.ireturn, (0, 0, 0), .null, []))])]
def ax_t217 : List (Nat × List (Nat × ax_E2)) := [(12, [(0, (.aload_n 0, (0, 0, 0), .null, [])), (1, (.iconst 0, (0, 0, 0), .null, [])), (2, (.putfield 61, (9, 0, 0), .null, [6176])), (5, (.aload_n 0, (0, 0, 0), .null, [])), (6, (.getfield 278, (9, 28, 0), .null, [6204])), (9, (.ifCond .ne 9, (0, 0, 0), .null, [])), (12, (.aload_n 0, (0, 0, 0), .null, []))]), (23, [(13, (.iconst 1, (0, 0, 0), .null, [])), (14, (.invokevirtual 96, (132, 1, 9), .null, [7042, 29])), (17, (.ireturn, (0, 0, 0), .null, [])), (18, (.aload_n 0, (0, 0, 0), .null, [])), (19, (.dup, (0, 0, 0), .null, [])), (20, (.getfield 278, (9, 28, 0), .null, [6204])), (23, (.iconst 1, (0, 0, 0), .null, []))]), (34, [(24, (.isub, (0, 0, 0), .null, [])), (25, (.putfield 278, (9, 28, 0), .null, [6204])), (28, (.aload_n 0, (0, 0, 0), .null, [])), (29, (.aload_n 0, (0, 0, 0), .null, [])), (30, (.getfield 52, (9, 29, 0), .null, [6205])), (33, (.aload_n 0, (0, 0, 0), .null, [])), (34, (.getfield 278, (9, 28, 0), .null, [6204]))]), (47, [(37, (.iaload, (0, 0, 0), .null, [])), (38, (.putfield 64, (9, 1, 0), .null, [6177])), (41, (.aload_n 0, (0, 0, 0), .null, [])), (42, (.aload_n 0, (0, 0, 0), .null, [])), (43, (.getfield 55, (9, 30, 0), .null, [6206])), (46, (.aload_n 0, (0, 0, 0), .null, [])), (47, (.getfield 278, (9, 28, 0), .null, [6204]))]), (58, [(50, (.iaload, (0, 0, 0), .null, [])), (51, (.putfield 244, (9, 21, 0), .null, [6197])), (54, (.iconst 0, (0, 0, 0), .null, [])), (55, (.istore_n 1, (0, 0, 0), .null, [])), (56, (.iload_n 1, (0, 0, 0), .null, [])), (57, (.aload_n 0, (0, 0, 0), .null, [])), (58, (.getfield 244, (9, 21, 0), .null, [6197]))]), (73, [(61, (.if_icmp .ge 29, (0, 0, 0), .null, [])), (64, (.aload_n 0, (0, 0, 0), .null, [])), (65, (.getfield 40, (9, 22, 0), .null, [6198])), (68, (.iload_n 1, (0, 0, 0), .null, [])), (69, (.aload_n 0, (0, 0, 0), .null, [])), (70, (.getfield 58, (9, 31, 0), .null, [6207])), (73, (.bipush 12, (0, 0, 0), .null, []))]), (83, [(75, (.aload_n 0, (0, 0, 0), .null, [])), (76, (.getfield 278, (9, 28, 0), .null, [6204])), (79, (.imul, (0, 0, 0), .null, [])), (80, (.iload_n 1, (0, 0, 0), .null, [])), (81, (.iadd, (0, 0, 0), .null, [])), (82, (.iaload, (0, 0, 0), .null, [])), (83, (.iastore, (0, 0, 0), .null, []))]), (98, [(84, (.iinc 1 1, (0, 0, 0), .null, [])), (87, (.goto (-31), (0, 0, 0), .null, [])), (90, (.aload_n 0, (0, 0, 0), .null, [])), (91, (.invokevirtual 90, (191, 0, 9), .null, [7113, 43])), (94, (.aload_n 0, (0, 0, 0), .null, [])), (95, (.getfield 278, (9, 28, 0), .null, [6204])), (98, (.ireturn, (0, 0, 0), .null, []))])]
def ax_t218 : List (Nat × List (Nat × ax_E2)) := [(17, [(0, (.aload_n 0, (0, 0, 0), .null, [])), (1, (.iconst 0, (0, 0, 0), .null, [])), (2, (.putfield 61, (9, 0, 0), .null, [6176])), (5, (.ldc2_w 281, (0, 0, 0), .long (1271), [8143])), (8, (.aload_n 0, (0, 0, 0), .null, [])), (9, (.getfield 64, (9, 1, 0), .null, [6177])), (12, (.i2l, (0, 0, 0), .null, [])), (13, (.ladd, (0, 0, 0), .null, [])), (14, (.ldc2_w 283, (0, 0, 0), .long (31), [8144])), (17, (.lmul, (0, 0, 0), .null, []))]), (33, [(18, (.aload_n 0, (0, 0, 0), .null, [])), (19, (.getfield 244, (9, 21, 0), .null, [6197])), (22, (.i2l, (0, 0, 0), .null, [])), (23, (.ladd, (0, 0, 0), .null, [])), (24, (.ldc2_w 283, (0, 0, 0), .long (31), [8144])), (27, (.lmul, (0, 0, 0), .null, [])), (28, (.aload_n 0, (0, 0, 0), .null, [])), (29, (.getfield 278, (9, 28, 0), .null, [6204])), (32, (.i2l, (0, 0, 0), .null, [])), (33, (.ladd, (0, 0, 0), .null, []))]), (49, [(34, (.lstore_n 1, (0, 0, 0), .null, [])), (35, (.iconst 0, (0, 0, 0), .null, [])), (36, (.istore_n 3, (0, 0, 0), .null, [])), (37, (.iload_n 3, (0, 0, 0), .null, [])), (38, (.aload_n 0, (0, 0, 0), .null, [])), (39, (.getfield 64, (9, 1, 0), .null, [6177])), (42, (.if_icmp .ge 72, (0, 0, 0), .null, [])), (45, (.lload_n 1, (0, 0, 0), .null, [])), (46, (.ldc2_w 283, (0, 0, 0), .long (31), [8144])), (49, (.lmul, (0, 0, 0), .null, []))]), (63, [(50, (.aload_n 0, (0, 0, 0), .null, [])), (51, (.getfield 13, (9, 3, 0), .null, [6179])), (54, (.iload_n 3, (0, 0, 0), .null, [])), (55, (.laload, (0, 0, 0), .null, [])), (56, (.ladd, (0, 0, 0), .null, [])), (57, (.lstore_n 1, (0, 0, 0), .null, [])), (58, (.iconst 0, (0, 0, 0), .null, [])), (59, (.istore 4, (0, 0, 0), .null, [])), (61, (.iload 4, (0, 0, 0), .null, [])), (63, (.bipush 24, (0, 0, 0), .null, []))]), (81, [(65, (.if_icmp .ge 43, (0, 0, 0), .null, [])), (68, (.aload_n 0, (0, 0, 0), .null, [])), (69, (.iload_n 3, (0, 0, 0), .null, [])), (70, (.iload 4, (0, 0, 0), .null, [])), (72, (.invokevirtual 71, (136, 2, 9), .null, [7121, 45])), (75, (.lconst 0, (0, 0, 0), .null, [])), (76, (.lcmp, (0, 0, 0), .null, [])), (77, (.ifCond .le 25, (0, 0, 0), .null, [])), (80, (.lload_n 1, (0, 0, 0), .null, [])), (81, (.ldc2_w 283, (0, 0, 0), .long (31), [8144]))]), (97, [(84, (.lmul, (0, 0, 0), .null, [])), (85, (.iload 4, (0, 0, 0), .null, [])), (87, (.i2l, (0, 0, 0), .null, [])), (88, (.ladd, (0, 0, 0), .null, [])), (89, (.ldc2_w 283, (0, 0, 0), .long (31), [8144])), (92, (.lmul, (0, 0, 0), .null, [])), (93, (.aload_n 0, (0, 0, 0), .null, [])), (94, (.iload_n 3, (0, 0, 0), .null, [])), (95, (.iload 4, (0, 0, 0), .null, [])), (97, (.invokevirtual 71, (136, 2, 9), .null, [7121, 45]))]), (117, [(100, (.ladd, (0, 0, 0), .null, [])), (101, (.lstore_n 1, (0, 0, 0), .null, [])), (102, (.iinc 4 1, (0, 0, 0), .null, [])), (105, (.goto (-44), (0, 0, 0), .null, [])), (108, (.iinc 3 1, (0, 0, 0), .null, [])), (111, (.goto (-74), (0, 0, 0), .null, [])), (114, (.iconst 0, (0, 0, 0), .null, [])), (115, (.istore_n 3, (0, 0, 0), .null, [])), (116, (.iload_n 3, (0, 0, 0), .null, [])), (117, (.bipush 12, (0, 0, 0), .null, []))]), (134, [(119, (.if_icmp .ge 35, (0, 0, 0), .null, [])), (122, (.lload_n 1, (0, 0, 0), .null, [])), (123, (.ldc2_w 283, (0, 0, 0), .long (31), [8144])), (126, (.lmul, (0, 0, 0), .null, [])), (127, (.aload_n 0, (0, 0, 0), .null, [])), (128, (.getfield 43, (9, 23, 0), .null, [6199])), (131, (.iload_n 3, (0, 0, 0), .null, [])), (132, (.iaload, (0, 0, 0), .null, [])), (133, (.i2l, (0, 0, 0), .null, [])), (134, (.ladd, (0, 0, 0), .null, []))]), (148, [(135, (.ldc2_w 283, (0, 0, 0), .long (31), [8144])), (138, (.lmul, (0, 0, 0), .null, [])), (139, (.aload_n 0, (0, 0, 0), .null, [])), (140, (.getfield 46, (9, 25, 0), .null, [6201])), (143, (.iload_n 3, (0, 0, 0), .null, [])), (144, (.iaload, (0, 0, 0), .null, [])), (145, (.i2l, (0, 0, 0), .null, [])), (146, (.ladd, (0, 0, 0), .null, [])), (147, (.lstore_n 1, (0, 0, 0), .null, [])), (148, (.iinc 3 1, (0, 0, 0), .null, []))]), (155, [(151, (.goto (-35), (0, 0, 0), .null, [])), (154, (.lload_n 1, (0, 0, 0), .null, [])), (155, (.lreturn, (0, 0, 0), .null, []))])]
def ax_t219 : List (Nat × List (Nat × ax_E2)) := [(4, [(0, (.aload 6, (0, 0, 0), .null, [])), (2, (.iconst 0, (0, 0, 0), .null, [])), (3, (.aload_n 0, (0, 0, 0), .null, [])), (4, (.iload_n 1, (0, 0, 0), .null, []))]), (9, [(5, (.iload_n 2, (0, 0, 0), .null, [])), (6, (.iload_n 3, (0, 0, 0), .null, [])), (7, (.iload 4, (0, 0, 0), .null, [])), (9, (.iload 5, (0, 0, 0), .null, []))]), (16, [(11, (.invokevirtual 7, (70, 5, 8), .null, [2121, 2123])), (14, (.i2l, (0, 0, 0), .null, [])), (15, (.lastore, (0, 0, 0), .null, [])), (16, (.goto 7, (0, 0, 0), .null, []))]), (23, [(19, (.astore 7, (0, 0, 0), .null, [])), (21, (.iconst 1, (0, 0, 0), .null, [])), (22, (.ireturn, (0, 0, 0), .null, [])), (23, (.iconst 0, (0, 0, 0), .null, []))]), (24, [(24, (.ireturn, (0, 0, 0), .null, []))])]
def ax_t220 : List (Nat × List (Nat × ax_E2)) := [(3, [(0, (.aload_n 2, (0, 0, 0), .null, [])), (1, (.iconst 0, (0, 0, 0), .null, [])), (2, (.aload_n 0, (0, 0, 0), .null, [])), (3, (.iload_n 1, (0, 0, 0), .null, []))]), (9, [(4, (.invokevirtual 15, (71, 1, 8), .null, [2204, 2206])), (7, (.i2l, (0, 0, 0), .null, [])), (8, (.lastore, (0, 0, 0), .null, [])), (9, (.goto 6, (0, 0, 0), .null, []))]), (15, [(12, (.astore_n 3, (0, 0, 0), .null, [])), (13, (.iconst 1, (0, 0, 0), .null, [])), (14, (.ireturn, (0, 0, 0), .null, [])), (15, (.iconst 0, (0, 0, 0), .null, []))]), (16, [(16, (.ireturn, (0, 0, 0), .null, []))])]
def ax_t221 : List (Nat × List (Nat × ax_E2)) := [(3, [(0, (.aload_n 1, (0, 0, 0), .null, [])), (1, (.iconst 0, (0, 0, 0), .null, [])), (2, (.aload_n 0, (0, 0, 0), .null, [])), (3, (.invokevirtual 21, (72, 0, 8), .null, [2227, 2229]))]), (11, [(6, (.i2l, (0, 0, 0), .null, [])), (7, (.lastore, (0, 0, 0), .null, [])), (8, (.goto 9, (0, 0, 0), .null, [])), (11, (.astore_n 2, (0, 0, 0), .null, []))]), (15, [(12, (.iconst 1, (0, 0, 0), .null, [])), (13, (.ireturn, (0, 0, 0), .null, [])), (14, (.astore_n 2, (0, 0, 0), .null, [])), (15, (.iconst 2, (0, 0, 0), .null, []))]), (18, [(16, (.ireturn, (0, 0, 0), .null, [])), (17, (.iconst 0, (0, 0, 0), .null, [])), (18, (.ireturn, (0, 0, 0), .null, []))])]
def ax_t222 : List (Nat × List (Nat × ax_E2)) := [(3, [(0, (.aload_n 1, (0, 0, 0), .null, [])), (1, (.iconst 0, (0, 0, 0), .null, [])), (2, (.aload_n 0, (0, 0, 0), .null, [])), (3, (.invokevirtual 25, (73, 0, 8), .null, [3149, 3151]))]), (13, [(6, (.ifCond .eq 7, (0, 0, 0), .null, [])), (9, (.lconst 1, (0, 0, 0), .null, [])), (10, (.goto 4, (0, 0, 0), .null, [])), (13, (.lconst 0, (0, 0, 0), .null, []))]), (19, [(14, (.lastore, (0, 0, 0), .null, [])), (15, (.goto 6, (0, 0, 0), .null, [])), (18, (.astore_n 2, (0, 0, 0), .null, [])), (19, (.iconst 1, (0, 0, 0), .null, []))]), (22, [(20, (.ireturn, (0, 0, 0), .null, [])), (21, (.iconst 0, (0, 0, 0), .null, [])), (22, (.ireturn, (0, 0, 0), .null, []))])]
def ax_t223 : List (Nat × List (Nat × ax_E2)) := [(3, [(0, (.aload_n 2, (0, 0, 0), .null, [])), (1, (.iconst 0, (0, 0, 0), .null, [])), (2, (.aload_n 0, (0, 0, 0), .null, [])), (3, (.iload_n 1, (0, 0, 0), .null, []))]), (9, [(4, (.invokevirtual 29, (75, 1, 8), .null, [3188, 3190])), (7, (.i2l, (0, 0, 0), .null, [])), (8, (.lastore, (0, 0, 0), .null, [])), (9, (.goto 6, (0, 0, 0), .null, []))]), (15, [(12, (.astore_n 3, (0, 0, 0), .null, [])), (13, (.iconst 1, (0, 0, 0), .null, [])), (14, (.ireturn, (0, 0, 0), .null, [])), (15, (.iconst 0, (0, 0, 0), .null, []))]), (16, [(16, (.ireturn, (0, 0, 0), .null, []))])]
def ax_t224 : List (Nat × List (Nat × ax_E2)) := [(3, [(0, (.aload_n 2, (0, 0, 0), .null, [])), (1, (.iconst 0, (0, 0, 0), .null, [])), (2, (.aload_n 0, (0, 0, 0), .null, [])), (3, (.iload_n 1, (0, 0, 0), .null, []))]), (9, [(4, (.invokevirtual 34, (76, 1, 8), .null, [5022, 5024])), (7, (.i2l, (0, 0, 0), .null, [])), (8, (.lastore, (0, 0, 0), .null, [])), (9, (.goto 6, (0, 0, 0), .null, []))]), (15, [(12, (.astore_n 3, (0, 0, 0), .null, [])), (13, (.iconst 1, (0, 0, 0), .null, [])), (14, (.ireturn, (0, 0, 0), .null, [])), (15, (.iconst 0, (0, 0, 0), .null, []))]), (16, [(16, (.ireturn, (0, 0, 0), .null, []))])]
def ax_t225 : List (Nat × List (Nat × ax_E2)) := [(3, [(0, (.aload_n 2, (0, 0, 0), .null, [])), (1, (.iconst 0, (0, 0, 0), .null, [])), (2, (.aload_n 0, (0, 0, 0), .null, [])), (3, (.iload_n 1, (0, 0, 0), .null, []))]), (9, [(4, (.invokevirtual 37, (78, 1, 8), .null, [5040, 5042])), (7, (.i2l, (0, 0, 0), .null, [])), (8, (.lastore, (0, 0, 0), .null, [])), (9, (.goto 6, (0, 0, 0), .null, []))]), (15, [(12, (.astore_n 3, (0, 0, 0), .null, [])), (13, (.iconst 1, (0, 0, 0), .null, [])), (14, (.ireturn, (0, 0, 0), .null, [])), (15, (.iconst 0, (0, 0, 0), .null, []))]), (16, [(16, (.ireturn, (0, 0, 0), .null, []))])]
def ax_t226 : List (Nat × List (Nat × ax_E2)) := [(3, [(0, (.aload_n 2, (0, 0, 0), .null, [])), (1, (.iconst 0, (0, 0, 0), .null, [])), (2, (.aload_n 0, (0, 0, 0), .null, [])), (3, (.iload_n 1, (0, 0, 0), .null, []))]), (9, [(4, (.invokevirtual 40, (79, 1, 8), .null, [5051, 5053])), (7, (.i2l, (0, 0, 0), .null, [])), (8, (.lastore, (0, 0, 0), .null, [])), (9, (.goto 6, (0, 0, 0), .null, []))]), (15, [(12, (.astore_n 3, (0, 0, 0), .null, [])), (13, (.iconst 1, (0, 0, 0), .null, [])), (14, (.ireturn, (0, 0, 0), .null, [])), (15, (.iconst 0, (0, 0, 0), .null, []))]), (16, [(16, (.ireturn, (0, 0, 0), .null, []))])]
def ax_t227 : List (Nat × List (Nat × ax_E2)) := [(3, [(0, (.aload_n 3, (0, 0, 0), .null, [])), (1, (.iconst 0, (0, 0, 0), .null, [])), (2, (.aload_n 0, (0, 0, 0), .null, [])), (3, (.iload_n 1, (0, 0, 0), .null, []))]), (9, [(4, (.iload_n 2, (0, 0, 0), .null, [])), (5, (.invokevirtual 43, (80, 2, 8), .null, [5058, 5060])), (8, (.i2l, (0, 0, 0), .null, [])), (9, (.lastore, (0, 0, 0), .null, []))]), (16, [(10, (.goto 7, (0, 0, 0), .null, [])), (13, (.astore 4, (0, 0, 0), .null, [])), (15, (.iconst 1, (0, 0, 0), .null, [])), (16, (.ireturn, (0, 0, 0), .null, []))]), (18, [(17, (.iconst 0, (0, 0, 0), .null, [])), (18, (.ireturn, (0, 0, 0), .null, []))])]
def ax_t228 : List (Nat × List (Nat × ax_E2)) := [(3, [(0, (.aload_n 2, (0, 0, 0), .null, [])), (1, (.iconst 0, (0, 0, 0), .null, [])), (2, (.aload_n 0, (0, 0, 0), .null, [])), (3, (.iload_n 1, (0, 0, 0), .null, []))]), (11, [(4, (.invokevirtual 47, (81, 1, 8), .null, [5069, 5071])), (7, (.lastore, (0, 0, 0), .null, [])), (8, (.goto 6, (0, 0, 0), .null, [])), (11, (.astore_n 3, (0, 0, 0), .null, []))]), (15, [(12, (.iconst 1, (0, 0, 0), .null, [])), (13, (.ireturn, (0, 0, 0), .null, [])), (14, (.iconst 0, (0, 0, 0), .null, [])), (15, (.ireturn, (0, 0, 0), .null, []))])]
def ax_t229 : List (Nat × List (Nat × ax_E2)) := [(3, [(0, (.aload_n 2, (0, 0, 0), .null, [])), (1, (.iconst 0, (0, 0, 0), .null, [])), (2, (.aload_n 0, (0, 0, 0), .null, [])), (3, (.iload_n 1, (0, 0, 0), .null, []))]), (9, [(4, (.invokevirtual 51, (82, 1, 8), .null, [5077, 5079])), (7, (.i2l, (0, 0, 0), .null, [])), (8, (.lastore, (0, 0, 0), .null, [])), (9, (.goto 6, (0, 0, 0), .null, []))]), (15, [(12, (.astore_n 3, (0, 0, 0), .null, [])), (13, (.iconst 1, (0, 0, 0), .null, [])), (14, (.ireturn, (0, 0, 0), .null, [])), (15, (.iconst 0, (0, 0, 0), .null, []))]), (16, [(16, (.ireturn, (0, 0, 0), .null, []))])]
def ax_t230 : List (Nat × List (Nat × ax_E2)) := [(3, [(0, (.aload_n 3, (0, 0, 0), .null, [])), (1, (.iconst 0, (0, 0, 0), .null, [])), (2, (.aload_n 0, (0, 0, 0), .null, [])), (3, (.iload_n 1, (0, 0, 0), .null, []))]), (9, [(4, (.iload_n 2, (0, 0, 0), .null, [])), (5, (.invokevirtual 54, (83, 2, 8), .null, [5106, 5108])), (8, (.i2l, (0, 0, 0), .null, [])), (9, (.lastore, (0, 0, 0), .null, []))]), (16, [(10, (.goto 15, (0, 0, 0), .null, [])), (13, (.astore 4, (0, 0, 0), .null, [])), (15, (.iconst 1, (0, 0, 0), .null, [])), (16, (.ireturn, (0, 0, 0), .null, []))]), (21, [(17, (.astore 4, (0, 0, 0), .null, [])), (19, (.iconst 2, (0, 0, 0), .null, [])), (20, (.ireturn, (0, 0, 0), .null, [])), (21, (.astore 4, (0, 0, 0), .null, []))]), (26, [(23, (.iconst 3, (0, 0, 0), .null, [])), (24, (.ireturn, (0, 0, 0), .null, [])), (25, (.iconst 0, (0, 0, 0), .null, [])), (26, (.ireturn, (0, 0, 0), .null, []))])]
def ax_t231 : List (Nat × List (Nat × ax_E2)) := [(4, [(0, (.aload_n 3, (0, 0, 0), .null, [])), (1, (.iconst 0, (0, 0, 0), .null, [])), (2, (.aload_n 0, (0, 0, 0), .null, [])), (3, (.iload_n 1, (0, 0, 0), .null, [])), (4, (.iload_n 2, (0, 0, 0), .null, []))]), (13, [(5, (.invokevirtual 59, (84, 2, 8), .null, [5130, 5132])), (8, (.i2l, (0, 0, 0), .null, [])), (9, (.lastore, (0, 0, 0), .null, [])), (10, (.goto 19, (0, 0, 0), .null, [])), (13, (.astore 4, (0, 0, 0), .null, []))]), (20, [(15, (.iconst 1, (0, 0, 0), .null, [])), (16, (.ireturn, (0, 0, 0), .null, [])), (17, (.astore 4, (0, 0, 0), .null, [])), (19, (.iconst 2, (0, 0, 0), .null, [])), (20, (.ireturn, (0, 0, 0), .null, []))]), (27, [(21, (.astore 4, (0, 0, 0), .null, [])), (23, (.iconst 3, (0, 0, 0), .null, [])), (24, (.ireturn, (0, 0, 0), .null, [])), (25, (.astore 4, (0, 0, 0), .null, [])), (27, (.iconst 4, (0, 0, 0), .null, []))]), (30, [(28, (.ireturn, (0, 0, 0), .null, [])), (29, (.iconst 0, (0, 0, 0), .null, [])), (30, (.ireturn, (0, 0, 0), .null, []))])]
def ax_t232 : List (Nat × List (Nat × ax_E2)) := [(3, [(0, (.aload_n 3, (0, 0, 0), .null, [])), (1, (.iconst 0, (0, 0, 0), .null, [])), (2, (.aload_n 0, (0, 0, 0), .null, [])), (3, (.iload_n 1, (0, 0, 0), .null, []))]), (9, [(4, (.iload_n 2, (0, 0, 0), .null, [])), (5, (.invokevirtual 62, (85, 2, 8), .null, [5138, 5140])), (8, (.i2l, (0, 0, 0), .null, [])), (9, (.lastore, (0, 0, 0), .null, []))]), (16, [(10, (.goto 15, (0, 0, 0), .null, [])), (13, (.astore 4, (0, 0, 0), .null, [])), (15, (.iconst 1, (0, 0, 0), .null, [])), (16, (.ireturn, (0, 0, 0), .null, []))]), (21, [(17, (.astore 4, (0, 0, 0), .null, [])), (19, (.iconst 2, (0, 0, 0), .null, [])), (20, (.ireturn, (0, 0, 0), .null, [])), (21, (.astore 4, (0, 0, 0), .null, []))]), (26, [(23, (.iconst 3, (0, 0, 0), .null, [])), (24, (.ireturn, (0, 0, 0), .null, [])), (25, (.iconst 0, (0, 0, 0), .null, [])), (26, (.ireturn, (0, 0, 0), .null, []))])]
def ax_t233 : List (Nat × List (Nat × ax_E2)) := [(3, [(0, (.aload_n 2, (0, 0, 0), .null, [])), (1, (.iconst 0, (0, 0, 0), .null, [])), (2, (.aload_n 0, (0, 0, 0), .null, [])), (3, (.iload_n 1, (0, 0, 0), .null, []))]), (9, [(4, (.invokevirtual 65, (86, 1, 8), .null, [5150, 5152])), (7, (.i2l, (0, 0, 0), .null, [])), (8, (.lastore, (0, 0, 0), .null, [])), (9, (.goto 9, (0, 0, 0), .null, []))]), (15, [(12, (.astore_n 3, (0, 0, 0), .null, [])), (13, (.iconst 1, (0, 0, 0), .null, [])), (14, (.ireturn, (0, 0, 0), .null, [])), (15, (.astore_n 3, (0, 0, 0), .null, []))]), (19, [(16, (.iconst 2, (0, 0, 0), .null, [])), (17, (.ireturn, (0, 0, 0), .null, [])), (18, (.iconst 0, (0, 0, 0), .null, [])), (19, (.ireturn, (0, 0, 0), .null, []))])]
def ax_t234 : List (Nat × List (Nat × ax_E2)) := [(3, [(0, (.aload_n 3, (0, 0, 0), .null, [])), (1, (.iconst 0, (0, 0, 0), .null, [])), (2, (.aload_n 0, (0, 0, 0), .null, [])), (3, (.iload_n 1, (0, 0, 0), .null, []))]), (9, [(4, (.iload_n 2, (0, 0, 0), .null, [])), (5, (.invokevirtual 68, (87, 2, 8), .null, [5161, 5163])), (8, (.i2l, (0, 0, 0), .null, [])), (9, (.lastore, (0, 0, 0), .null, []))]), (16, [(10, (.goto 15, (0, 0, 0), .null, [])), (13, (.astore 4, (0, 0, 0), .null, [])), (15, (.iconst 1, (0, 0, 0), .null, [])), (16, (.ireturn, (0, 0, 0), .null, []))]), (21, [(17, (.astore 4, (0, 0, 0), .null, [])), (19, (.iconst 2, (0, 0, 0), .null, [])), (20, (.ireturn, (0, 0, 0), .null, [])), (21, (.astore 4, (0, 0, 0), .null, []))]), (26, [(23, (.iconst 3, (0, 0, 0), .null, [])), (24, (.ireturn, (0, 0, 0), .null, [])), (25, (.iconst 0, (0, 0, 0), .null, [])), (26, (.ireturn, (0, 0, 0), .null, []))])]
def ax_t235 : List (Nat × List (Nat × ax_E2)) := [(5, [(0, (.aload 4, (0, 0, 0), .null, [])), (2, (.iconst 0, (0, 0, 0), .null, [])), (3, (.aload_n 0, (0, 0, 0), .null, [])), (4, (.iload_n 1, (0, 0, 0), .null, [])), (5, (.iload_n 2, (0, 0, 0), .null, []))]), (12, [(6, (.iload_n 3, (0, 0, 0), .null, [])), (7, (.invokevirtual 71, (88, 3, 8), .null, [5185, 5187])), (10, (.i2l, (0, 0, 0), .null, [])), (11, (.lastore, (0, 0, 0), .null, [])), (12, (.goto 19, (0, 0, 0), .null, []))]), (21, [(15, (.astore 5, (0, 0, 0), .null, [])), (17, (.iconst 1, (0, 0, 0), .null, [])), (18, (.ireturn, (0, 0, 0), .null, [])), (19, (.astore 5, (0, 0, 0), .null, [])), (21, (.iconst 2, (0, 0, 0), .null, []))]), (27, [(22, (.ireturn, (0, 0, 0), .null, [])), (23, (.astore 5, (0, 0, 0), .null, [])), (25, (.iconst 3, (0, 0, 0), .null, [])), (26, (.ireturn, (0, 0, 0), .null, [])), (27, (.astore 5, (0, 0, 0), .null, []))]), (32, [(29, (.iconst 4, (0, 0, 0), .null, [])), (30, (.ireturn, (0, 0, 0), .null, [])), (31, (.iconst 0, (0, 0, 0), .null, [])), (32, (.ireturn, (0, 0, 0), .null, []))])]
def ax_t236 : List (Nat × List (Nat × ax_E2)) := [(3, [(0, (.aload_n 2, (0, 0, 0), .null, [])), (1, (.iconst 0, (0, 0, 0), .null, [])), (2, (.aload_n 0, (0, 0, 0), .null, [])), (3, (.iload_n 1, (0, 0, 0), .null, []))]), (9, [(4, (.invokevirtual 75, (89, 1, 8), .null, [5198, 5200])), (7, (.i2l, (0, 0, 0), .null, [])), (8, (.lastore, (0, 0, 0), .null, [])), (9, (.goto 9, (0, 0, 0), .null, []))]), (15, [(12, (.astore_n 3, (0, 0, 0), .null, [])), (13, (.iconst 1, (0, 0, 0), .null, [])), (14, (.ireturn, (0, 0, 0), .null, [])), (15, (.astore_n 3, (0, 0, 0), .null, []))]), (19, [(16, (.iconst 2, (0, 0, 0), .null, [])), (17, (.ireturn, (0, 0, 0), .null, [])), (18, (.iconst 0, (0, 0, 0), .null, [])), (19, (.ireturn, (0, 0, 0), .null, []))])]
def ax_t237 : List (Nat × List (Nat × ax_E2)) := [(3, [(0, (.aload_n 3, (0, 0, 0), .null, [])), (1, (.iconst 0, (0, 0, 0), .null, [])), (2, (.aload_n 0, (0, 0, 0), .null, [])), (3, (.iload_n 1, (0, 0, 0), .null, []))]), (11, [(4, (.iload_n 2, (0, 0, 0), .null, [])), (5, (.invokevirtual 78, (90, 2, 8), .null, [5206, 5208])), (8, (.ifCond .eq 7, (0, 0, 0), .null, [])), (11, (.lconst 1, (0, 0, 0), .null, []))]), (17, [(12, (.goto 4, (0, 0, 0), .null, [])), (15, (.lconst 0, (0, 0, 0), .null, [])), (16, (.lastore, (0, 0, 0), .null, [])), (17, (.goto 7, (0, 0, 0), .null, []))]), (24, [(20, (.astore 4, (0, 0, 0), .null, [])), (22, (.iconst 1, (0, 0, 0), .null, [])), (23, (.ireturn, (0, 0, 0), .null, [])), (24, (.iconst 0, (0, 0, 0), .null, []))]), (25, [(25, (.ireturn, (0, 0, 0), .null, []))])]
def ax_t238 : List (Nat × List (Nat × ax_E2)) := [(3, [(0, (.aload_n 2, (0, 0, 0), .null, [])), (1, (.iconst 0, (0, 0, 0), .null, [])), (2, (.aload_n 0, (0, 0, 0), .null, [])), (3, (.iload_n 1, (0, 0, 0), .null, []))]), (9, [(4, (.invokevirtual 82, (91, 1, 8), .null, [5221, 5223])), (7, (.i2l, (0, 0, 0), .null, [])), (8, (.lastore, (0, 0, 0), .null, [])), (9, (.goto 6, (0, 0, 0), .null, []))]), (15, [(12, (.astore_n 3, (0, 0, 0), .null, [])), (13, (.iconst 1, (0, 0, 0), .null, [])), (14, (.ireturn, (0, 0, 0), .null, [])), (15, (.iconst 0, (0, 0, 0), .null, []))]), (16, [(16, (.ireturn, (0, 0, 0), .null, []))])]
def ax_t239 : List (Nat × List (Nat × ax_E2)) := [(3, [(0, (.aload_n 2, (0, 0, 0), .null, [])), (1, (.iconst 0, (0, 0, 0), .null, [])), (2, (.aload_n 0, (0, 0, 0), .null, [])), (3, (.iload_n 1, (0, 0, 0), .null, []))]), (9, [(4, (.invokevirtual 85, (92, 1, 8), .null, [6000, 6002])), (7, (.i2l, (0, 0, 0), .null, [])), (8, (.lastore, (0, 0, 0), .null, [])), (9, (.goto 6, (0, 0, 0), .null, []))]), (15, [(12, (.astore_n 3, (0, 0, 0), .null, [])), (13, (.iconst 1, (0, 0, 0), .null, [])), (14, (.ireturn, (0, 0, 0), .null, [])), (15, (.iconst 0, (0, 0, 0), .null, []))]), (16, [(16, (.ireturn, (0, 0, 0), .null, []))])]
def ax_t240 : List (Nat × List (Nat × ax_E2)) := [(3, [(0, (.aload_n 1, (0, 0, 0), .null, [])), (1, (.iconst 0, (0, 0, 0), .null, [])), (2, (.aload_n 0, (0, 0, 0), .null, [])), (3, (.invokevirtual 88, (93, 0, 8), .null, [6012, 6014]))]), (11, [(6, (.i2l, (0, 0, 0), .null, [])), (7, (.lastore, (0, 0, 0), .null, [])), (8, (.goto 9, (0, 0, 0), .null, [])), (11, (.astore_n 2, (0, 0, 0), .null, []))]), (15, [(12, (.iconst 1, (0, 0, 0), .null, [])), (13, (.ireturn, (0, 0, 0), .null, [])), (14, (.astore_n 2, (0, 0, 0), .null, [])), (15, (.iconst 2, (0, 0, 0), .null, []))]), (18, [(16, (.ireturn, (0, 0, 0), .null, [])), (17, (.iconst 0, (0, 0, 0), .null, [])), (18, (.ireturn, (0, 0, 0), .null, []))])]
def ax_t241 : List (Nat × List (Nat × ax_E2)) := [(3, [(0, (.aload_n 2, (0, 0, 0), .null, [])), (1, (.iconst 0, (0, 0, 0), .null, [])), (2, (.aload_n 0, (0, 0, 0), .null, [])), (3, (.iload_n 1, (0, 0, 0), .null, []))]), (9, [(4, (.invokevirtual 93, (94, 1, 8), .null, [6035, 6037])), (7, (.i2l, (0, 0, 0), .null, [])), (8, (.lastore, (0, 0, 0), .null, [])), (9, (.goto 9, (0, 0, 0), .null, []))]), (15, [(12, (.astore_n 3, (0, 0, 0), .null, [])), (13, (.iconst 1, (0, 0, 0), .null, [])), (14, (.ireturn, (0, 0, 0), .null, [])), (15, (.astore_n 3, (0, 0, 0), .null, []))]), (19, [(16, (.iconst 2, (0, 0, 0), .null, [])), (17, (.ireturn, (0, 0, 0), .null, [])), (18, (.iconst 0, (0, 0, 0), .null, [])), (19, (.ireturn, (0, 0, 0), .null, []))])]
def ax_t242 : List (Nat × List (Nat × ax_E2)) := [(3, [(0, (.aload_n 1, (0, 0, 0), .null, [])), (1, (.iconst 0, (0, 0, 0), .null, [])), (2, (.aload_n 0, (0, 0, 0), .null, [])), (3, (.invokevirtual 96, (95, 0, 8), .null, [6054, 6056]))]), (11, [(6, (.i2l, (0, 0, 0), .null, [])), (7, (.lastore, (0, 0, 0), .null, [])), (8, (.goto 6, (0, 0, 0), .null, [])), (11, (.astore_n 2, (0, 0, 0), .null, []))]), (15, [(12, (.iconst 1, (0, 0, 0), .null, [])), (13, (.ireturn, (0, 0, 0), .null, [])), (14, (.iconst 0, (0, 0, 0), .null, [])), (15, (.ireturn, (0, 0, 0), .null, []))])]
def ax_t243 : List (Nat × List (Nat × ax_E2)) := [(3, [(0, (.aload_n 2, (0, 0, 0), .null, [])), (1, (.iconst 0, (0, 0, 0), .null, [])), (2, (.aload_n 0, (0, 0, 0), .null, [])), (3, (.iload_n 1, (0, 0, 0), .null, []))]), (9, [(4, (.invokevirtual 99, (98, 1, 8), .null, [6062, 6064])), (7, (.i2l, (0, 0, 0), .null, [])), (8, (.lastore, (0, 0, 0), .null, [])), (9, (.goto 6, (0, 0, 0), .null, []))]), (15, [(12, (.astore_n 3, (0, 0, 0), .null, [])), (13, (.iconst 1, (0, 0, 0), .null, [])), (14, (.ireturn, (0, 0, 0), .null, [])), (15, (.iconst 0, (0, 0, 0), .null, []))]), (16, [(16, (.ireturn, (0, 0, 0), .null, []))])]
def ax_t244 : List (Nat × List (Nat × ax_E2)) := [(3, [(0, (.aload_n 2, (0, 0, 0), .null, [])), (1, (.iconst 0, (0, 0, 0), .null, [])), (2, (.aload_n 0, (0, 0, 0), .null, [])), (3, (.iload_n 1, (0, 0, 0), .null, []))]), (9, [(4, (.invokevirtual 102, (100, 1, 8), .null, [6069, 6071])), (7, (.i2l, (0, 0, 0), .null, [])), (8, (.lastore, (0, 0, 0), .null, [])), (9, (.goto 6, (0, 0, 0), .null, []))]), (15, [(12, (.astore_n 3, (0, 0, 0), .null, [])), (13, (.iconst 1, (0, 0, 0), .null, [])), (14, (.ireturn, (0, 0, 0), .null, [])), (15, (.iconst 0, (0, 0, 0), .null, []))]), (16, [(16, (.ireturn, (0, 0, 0), .null, []))])]
def ax_t245 : List (Nat × List (Nat × ax_E2)) := [(3, [(0, (.aload_n 2, (0, 0, 0), .null, [])), (1, (.iconst 0, (0, 0, 0), .null, [])), (2, (.aload_n 0, (0, 0, 0), .null, [])), (3, (.iload_n 1, (0, 0, 0), .null, []))]), (11, [(4, (.invokevirtual 105, (102, 1, 8), .null, [6080, 6082])), (7, (.ifCond .eq 7, (0, 0, 0), .null, [])), (10, (.lconst 1, (0, 0, 0), .null, [])), (11, (.goto 4, (0, 0, 0), .null, []))]), (19, [(14, (.lconst 0, (0, 0, 0), .null, [])), (15, (.lastore, (0, 0, 0), .null, [])), (16, (.goto 6, (0, 0, 0), .null, [])), (19, (.astore_n 3, (0, 0, 0), .null, []))]), (23, [(20, (.iconst 1, (0, 0, 0), .null, [])), (21, (.ireturn, (0, 0, 0), .null, [])), (22, (.iconst 0, (0, 0, 0), .null, [])), (23, (.ireturn, (0, 0, 0), .null, []))])]
def ax_t246 : List (Nat × List (Nat × ax_E2)) := [(3, [(0, (.aload_n 3, (0, 0, 0), .null, [])), (1, (.iconst 0, (0, 0, 0), .null, [])), (2, (.aload_n 0, (0, 0, 0), .null, [])), (3, (.iload_n 1, (0, 0, 0), .null, []))]), (9, [(4, (.iload_n 2, (0, 0, 0), .null, [])), (5, (.invokevirtual 109, (103, 2, 8), .null, [6091, 6093])), (8, (.i2l, (0, 0, 0), .null, [])), (9, (.lastore, (0, 0, 0), .null, []))]), (16, [(10, (.goto 11, (0, 0, 0), .null, [])), (13, (.astore 4, (0, 0, 0), .null, [])), (15, (.iconst 1, (0, 0, 0), .null, [])), (16, (.ireturn, (0, 0, 0), .null, []))]), (21, [(17, (.astore 4, (0, 0, 0), .null, [])), (19, (.iconst 2, (0, 0, 0), .null, [])), (20, (.ireturn, (0, 0, 0), .null, [])), (21, (.iconst 0, (0, 0, 0), .null, []))]), (22, [(22, (.ireturn, (0, 0, 0), .null, []))])]
def ax_t247 : List (Nat × List (Nat × ax_E2)) := [(3, [(0, (.aload_n 1, (0, 0, 0), .null, [])), (1, (.iconst 0, (0, 0, 0), .null, [])), (2, (.aload_n 0, (0, 0, 0), .null, [])), (3, (.invokevirtual 112, (104, 0, 8), .null, [6099, 6101]))]), (11, [(6, (.i2l, (0, 0, 0), .null, [])), (7, (.lastore, (0, 0, 0), .null, [])), (8, (.goto 6, (0, 0, 0), .null, [])), (11, (.astore_n 2, (0, 0, 0), .null, []))]), (15, [(12, (.iconst 1, (0, 0, 0), .null, [])), (13, (.ireturn, (0, 0, 0), .null, [])), (14, (.iconst 0, (0, 0, 0), .null, [])), (15, (.ireturn, (0, 0, 0), .null, []))])]
def ax_t248 : List (Nat × List (Nat × ax_E2)) := [(3, [(0, (.aload_n 1, (0, 0, 0), .null, [])), (1, (.iconst 0, (0, 0, 0), .null, [])), (2, (.aload_n 0, (0, 0, 0), .null, [])), (3, (.invokevirtual 115, (105, 0, 8), .null, [6124, 6126]))]), (11, [(6, (.i2l, (0, 0, 0), .null, [])), (7, (.lastore, (0, 0, 0), .null, [])), (8, (.goto 6, (0, 0, 0), .null, [])), (11, (.astore_n 2, (0, 0, 0), .null, []))]), (15, [(12, (.iconst 1, (0, 0, 0), .null, [])), (13, (.ireturn, (0, 0, 0), .null, [])), (14, (.iconst 0, (0, 0, 0), .null, [])), (15, (.ireturn, (0, 0, 0), .null, []))])]
def ax_t249 : List (Nat × List (Nat × ax_E2)) := [(3, [(0, (.aload_n 3, (0, 0, 0), .null, [])), (1, (.iconst 0, (0, 0, 0), .null, [])), (2, (.aload_n 0, (0, 0, 0), .null, [])), (3, (.iload_n 1, (0, 0, 0), .null, []))]), (9, [(4, (.iload_n 2, (0, 0, 0), .null, [])), (5, (.invokevirtual 118, (106, 2, 8), .null, [6131, 6133])), (8, (.i2l, (0, 0, 0), .null, [])), (9, (.lastore, (0, 0, 0), .null, []))]), (16, [(10, (.goto 11, (0, 0, 0), .null, [])), (13, (.astore 4, (0, 0, 0), .null, [])), (15, (.iconst 1, (0, 0, 0), .null, [])), (16, (.ireturn, (0, 0, 0), .null, []))]), (21, [(17, (.astore 4, (0, 0, 0), .null, [])), (19, (.iconst 2, (0, 0, 0), .null, [])), (20, (.ireturn, (0, 0, 0), .null, [])), (21, (.iconst 0, (0, 0, 0), .null, []))]), (22, [(22, (.ireturn, (0, 0, 0), .null, []))])]
def ax_t250 : List (Nat × List (Nat × ax_E2)) := [(3, [(0, (.aload_n 2, (0, 0, 0), .null, [])), (1, (.iconst 0, (0, 0, 0), .null, [])), (2, (.aload_n 0, (0, 0, 0), .null, [])), (3, (.iload_n 1, (0, 0, 0), .null, []))]), (9, [(4, (.invokevirtual 121, (107, 1, 8), .null, [6140, 6142])), (7, (.i2l, (0, 0, 0), .null, [])), (8, (.lastore, (0, 0, 0), .null, [])), (9, (.goto 6, (0, 0, 0), .null, []))]), (15, [(12, (.astore_n 3, (0, 0, 0), .null, [])), (13, (.iconst 1, (0, 0, 0), .null, [])), (14, (.ireturn, (0, 0, 0), .null, [])), (15, (.iconst 0, (0, 0, 0), .null, []))]), (16, [(16, (.ireturn, (0, 0, 0), .null, []))])]
def ax_t251 : List (Nat × List (Nat × ax_E2)) := [(3, [(0, (.aload_n 1, (0, 0, 0), .null, [])), (1, (.iconst 0, (0, 0, 0), .null, [])), (2, (.aload_n 0, (0, 0, 0), .null, [])), (3, (.invokevirtual 124, (108, 0, 8), .null, [6147, 6149]))]), (11, [(6, (.i2l, (0, 0, 0), .null, [])), (7, (.lastore, (0, 0, 0), .null, [])), (8, (.goto 6, (0, 0, 0), .null, [])), (11, (.astore_n 2, (0, 0, 0), .null, []))]), (15, [(12, (.iconst 1, (0, 0, 0), .null, [])), (13, (.ireturn, (0, 0, 0), .null, [])), (14, (.iconst 0, (0, 0, 0), .null, [])), (15, (.ireturn, (0, 0, 0), .null, []))])]
def ax_t252 : List (Nat × List (Nat × ax_E2)) := [(3, [(0, (.aload_n 1, (0, 0, 0), .null, [])), (1, (.iconst 0, (0, 0, 0), .null, [])), (2, (.aload_n 0, (0, 0, 0), .null, [])), (3, (.invokevirtual 127, (109, 0, 8), .null, [6165, 6167]))]), (11, [(6, (.i2l, (0, 0, 0), .null, [])), (7, (.lastore, (0, 0, 0), .null, [])), (8, (.goto 6, (0, 0, 0), .null, [])), (11, (.astore_n 2, (0, 0, 0), .null, []))]), (15, [(12, (.iconst 1, (0, 0, 0), .null, [])), (13, (.ireturn, (0, 0, 0), .null, [])), (14, (.iconst 0, (0, 0, 0), .null, [])), (15, (.ireturn, (0, 0, 0), .null, []))])]
def ax_t253 : List (Nat × List (Nat × ax_E2)) := [(3, [(0, (.iconst 0, (0, 0, 0), .null, [])), (1, (.istore_n 2, (0, 0, 0), .null, [])), (2, (.aload_n 0, (0, 0, 0), .null, [])), (3, (.arraylength, (0, 0, 0), .null, []))]), (7, [(4, (.istore_n 3, (0, 0, 0), .null, [])), (5, (.iload_n 2, (0, 0, 0), .null, [])), (6, (.iload_n 3, (0, 0, 0), .null, [])), (7, (.if_icmp .ge 13, (0, 0, 0), .null, []))]), (13, [(10, (.aload_n 0, (0, 0, 0), .null, [])), (11, (.iload_n 2, (0, 0, 0), .null, [])), (12, (.iload_n 1, (0, 0, 0), .null, [])), (13, (.iastore, (0, 0, 0), .null, []))]), (20, [(14, (.iinc 2 1, (0, 0, 0), .null, [])), (17, (.goto (-12), (0, 0, 0), .null, [])), (20, (.return_, (0, 0, 0), .null, []))])]
def ax_t254 : List (Nat × List (Nat × ax_E2)) := [(3, [(0, (.iconst 0, (0, 0, 0), .null, [])), (1, (.istore_n 3, (0, 0, 0), .null, [])), (2, (.aload_n 0, (0, 0, 0), .null, [])), (3, (.arraylength, (0, 0, 0), .null, []))]), (9, [(4, (.istore 4, (0, 0, 0), .null, [])), (6, (.iload_n 3, (0, 0, 0), .null, [])), (7, (.iload 4, (0, 0, 0), .null, [])), (9, (.if_icmp .ge 13, (0, 0, 0), .null, []))]), (15, [(12, (.aload_n 0, (0, 0, 0), .null, [])), (13, (.iload_n 3, (0, 0, 0), .null, [])), (14, (.lload_n 1, (0, 0, 0), .null, [])), (15, (.lastore, (0, 0, 0), .null, []))]), (22, [(16, (.iinc 3 1, (0, 0, 0), .null, [])), (19, (.goto (-13), (0, 0, 0), .null, [])), (22, (.return_, (0, 0, 0), .null, []))])]
def ax_t255 : List (Nat × List (Nat × ax_E2)) := [(8, [(0, (.lload_n 0, (0, 0, 0), .null, [])), (1, (.lload_n 0, (0, 0, 0), .null, [])), (2, (.iconst 1, (0, 0, 0), .null, [])), (3, (.lushr, (0, 0, 0), .null, [])), (4, (.ldc2_w 314, (0, 0, 0), .long (6148914691236517205), [2095])), (7, (.land, (0, 0, 0), .null, [])), (8, (.lsub, (0, 0, 0), .null, []))]), (17, [(9, (.lstore_n 0, (0, 0, 0), .null, [])), (10, (.lload_n 0, (0, 0, 0), .null, [])), (11, (.ldc2_w 316, (0, 0, 0), .long (3689348814741910323), [2096])), (14, (.land, (0, 0, 0), .null, [])), (15, (.lload_n 0, (0, 0, 0), .null, [])), (16, (.iconst 2, (0, 0, 0), .null, [])), (17, (.lushr, (0, 0, 0), .null, []))]), (26, [(18, (.ldc2_w 316, (0, 0, 0), .long (3689348814741910323), [2096])), (21, (.land, (0, 0, 0), .null, [])), (22, (.ladd, (0, 0, 0), .null, [])), (23, (.lstore_n 0, (0, 0, 0), .null, [])), (24, (.lload_n 0, (0, 0, 0), .null, [])), (25, (.lload_n 0, (0, 0, 0), .null, [])), (26, (.iconst 4, (0, 0, 0), .null, []))]), (35, [(27, (.lushr, (0, 0, 0), .null, [])), (28, (.ladd, (0, 0, 0), .null, [])), (29, (.ldc2_w 318, (0, 0, 0), .long (1085102592571150095), [2097])), (32, (.land, (0, 0, 0), .null, [])), (33, (.lstore_n 0, (0, 0, 0), .null, [])), (34, (.lload_n 0, (0, 0, 0), .null, [])), (35, (.lload_n 0, (0, 0, 0), .null, []))]), (43, [(36, (.bipush 8, (0, 0, 0), .null, [])), (38, (.lushr, (0, 0, 0), .null, [])), (39, (.ladd, (0, 0, 0), .null, [])), (40, (.lstore_n 0, (0, 0, 0), .null, [])), (41, (.lload_n 0, (0, 0, 0), .null, [])), (42, (.lload_n 0, (0, 0, 0), .null, [])), (43, (.bipush 16, (0, 0, 0), .null, []))]), (52, [(45, (.lushr, (0, 0, 0), .null, [])), (46, (.ladd, (0, 0, 0), .null, [])), (47, (.lstore_n 0, (0, 0, 0), .null, [])), (48, (.lload_n 0, (0, 0, 0), .null, [])), (49, (.lload_n 0, (0, 0, 0), .null, [])), (50, (.bipush 32, (0, 0, 0), .null, [])), (52, (.lushr, (0, 0, 0), .null, []))]), (60, [(53, (.ladd, (0, 0, 0), .null, [])), (54, (.lstore_n 0, (0, 0, 0), .null, [])), (55, (.lload_n 0, (0, 0, 0), .null, [])), (56, (.l2i, (0, 0, 0), .null, [])), (57, (.bipush 127, (0, 0, 0), .null, [])), (59, (.iand, (0, 0, 0), .null, [])), (60, (.ireturn, (0, 0, 0), .null, []))])]
def ax_t256 : List (Nat × List (Nat × ax_E2)) := [(6, [(0, (.aload_n 0, (0, 0, 0), .null, [])), (1, (.bipush 16, (0, 0, 0), .null, [])), (3, (.invokespecial 1, (257, 1, 0), .null, [1097])), (6, (.return_, (0, 0, 0), .null, []))])]
def ax_t257 : List (Nat × List (Nat × ax_E2)) := [(7, [(0, (.aload_n 0, (0, 0, 0), .null, [])), (1, (.invokespecial 3, (0, 0, 2), .null, [1100])), (4, (.getstatic 18, (1, 0, 0), .null, [1101])), (7, (.ifCond .eq 18, (0, 0, 0), .null, []))]), (14, [(10, (.aload_n 0, (0, 0, 0), .null, [])), (11, (.iload_n 1, (0, 0, 0), .null, [])), (12, (.newarray .byte, (3, 0, 0), .null, [1124])), (14, (.putfield 15, (10, 0, 0), .null, [1110]))]), (22, [(17, (.aload_n 0, (0, 0, 0), .null, [])), (18, (.iconst 0, (0, 0, 0), .null, [])), (19, (.putfield 22, (10, 1, 0), .null, [1111])), (22, (.goto 16, (0, 0, 0), .null, []))]), (30, [(25, (.aload_n 0, (0, 0, 0), .null, [])), (26, (.iload_n 1, (0, 0, 0), .null, [])), (27, (.invokestatic 26, (900, 0, 0), .null, [])), (30, (.putfield 15, (10, 0, 0), .null, [1110]))]), (38, [(33, (.aload_n 0, (0, 0, 0), .null, [])), (34, (.iconst 1, (0, 0, 0), .null, [])), (35, (.putfield 22, (10, 1, 0), .null, [1111])), (38, (.return_, (0, 0, 0), .null, []))])]
def ax_t258_0 : List (Nat × ax_E2) := [(0, (.new 8, (8, 0, 0), .null, [1034, 1035, 1001])), (3, (.dup, (0, 0, 0), .null, [])), (4, (.invokespecial 130, (69, 0, 0), .null, [1036])), (7, (.astore_n 1, (0, 0, 0), .null, [])), (8, (.new 131, (9, 0, 0), .null, [6170, 6171, 1015])), (11, (.dup, (0, 0, 0), .null, [])), (12, (.invokespecial 133, (130, 0, 0), .null, [6172])), (15, (.astore_n 2, (0, 0, 0), .null, [])), (16, (.iconst 1, (0, 0, 0), .null, [])), (17, (.newarray .long, (1, 0, 0), .null, [1144])), (19, (.astore_n 3, (0, 0, 0), .null, [])), (20, (.iconst 0, (0, 0, 0), .null, [])), (21, (.istore 4, (0, 0, 0), .null, [])), (23, (.iload 4, (0, 0, 0), .null, [])), (25, (.aload_n 0, (0, 0, 0), .null, [])), (26, (.arraylength, (0, 0, 0), .null, [])), (27, (.bipush 6, (0, 0, 0), .null, [])), (29, (.isub, (0, 0, 0), .null, [])), (30, (.if_icmp .gt 2284, (0, 0, 0), .null, [])), (33, (.aload_n 0, (0, 0, 0), .null, [])), (34, (.iload 4, (0, 0, 0), .null, [])), (36, (.iaload, (0, 0, 0), .null, [])), (37, (.bipush 63, (0, 0, 0), .null, [])), (39, (.iand, (0, 0, 0), .null, [])), (40, (.tableswitch 2268 0 40 #[180, 284, 340, 384, 435, 448, 504, 560, 573, 629, 685, 753, 808, 864, 932, 1000, 1068, 1124, 1192, 1272, 1328, 1403, 1459, 1515, 1559, 1615, 1659, 1672, 1685, 1741, 1754, 1810, 1823, 1886, 1954, 1998, 2042, 2110, 2166, 2210, 2254], (0, 0, 0), .null, [])), (220, (.aload_n 1, (0, 0, 0), .null, [])), (221, (.aload_n 0, (0, 0, 0), .null, [])), (222, (.iload 4, (0, 0, 0), .null, [])), (224, (.iconst 1, (0, 0, 0), .null, [])), (225, (.iadd, (0, 0, 0), .null, [])), (226, (.iaload, (0, 0, 0), .null, [])), (227, (.aload_n 0, (0, 0, 0), .null, [])), (228, (.iload 4, (0, 0, 0), .null, [])), (230, (.iconst 2, (0, 0, 0), .null, [])), (231, (.iadd, (0, 0, 0), .null, [])), (232, (.iaload, (0, 0, 0), .null, [])), (233, (.aload_n 0, (0, 0, 0), .null, []))]
def ax_t258_1 : List (Nat × ax_E2) := [(234, (.iload 4, (0, 0, 0), .null, [])), (236, (.iconst 3, (0, 0, 0), .null, [])), (237, (.iadd, (0, 0, 0), .null, [])), (238, (.iaload, (0, 0, 0), .null, [])), (239, (.aload_n 0, (0, 0, 0), .null, [])), (240, (.iload 4, (0, 0, 0), .null, [])), (242, (.iconst 4, (0, 0, 0), .null, [])), (243, (.iadd, (0, 0, 0), .null, [])), (244, (.iaload, (0, 0, 0), .null, [])), (245, (.aload_n 0, (0, 0, 0), .null, [])), (246, (.iload 4, (0, 0, 0), .null, [])), (248, (.iconst 5, (0, 0, 0), .null, [])), (249, (.iadd, (0, 0, 0), .null, [])), (250, (.iaload, (0, 0, 0), .null, [])), (251, (.aload_n 3, (0, 0, 0), .null, [])), (252, (.invokestatic 134, (219, 7, 0), .null, [2117])), (255, (.istore 5, (0, 0, 0), .null, [])), (257, (.aload_n 2, (0, 0, 0), .null, [])), (258, (.aload_n 0, (0, 0, 0), .null, [])), (259, (.iload 4, (0, 0, 0), .null, [])), (261, (.iconst 1, (0, 0, 0), .null, [])), (262, (.iadd, (0, 0, 0), .null, [])), (263, (.iaload, (0, 0, 0), .null, [])), (264, (.aload_n 0, (0, 0, 0), .null, [])), (265, (.iload 4, (0, 0, 0), .null, [])), (267, (.iconst 2, (0, 0, 0), .null, [])), (268, (.iadd, (0, 0, 0), .null, [])), (269, (.iaload, (0, 0, 0), .null, [])), (270, (.aload_n 0, (0, 0, 0), .null, [])), (271, (.iload 4, (0, 0, 0), .null, [])), (273, (.iconst 3, (0, 0, 0), .null, [])), (274, (.iadd, (0, 0, 0), .null, [])), (275, (.iaload, (0, 0, 0), .null, [])), (276, (.aload_n 0, (0, 0, 0), .null, [])), (277, (.iload 4, (0, 0, 0), .null, [])), (279, (.iconst 4, (0, 0, 0), .null, [])), (280, (.iadd, (0, 0, 0), .null, []))]
def ax_t258_2 : List (Nat × ax_E2) := [(281, (.iaload, (0, 0, 0), .null, [])), (282, (.aload_n 0, (0, 0, 0), .null, [])), (283, (.iload 4, (0, 0, 0), .null, [])), (285, (.iconst 5, (0, 0, 0), .null, [])), (286, (.iadd, (0, 0, 0), .null, [])), (287, (.iaload, (0, 0, 0), .null, [])), (288, (.invokevirtual 139, (143, 5, 9), .null, [7038, 7040])), (291, (.istore 6, (0, 0, 0), .null, [])), (293, (.aload_n 2, (0, 0, 0), .null, [])), (294, (.invokevirtual 140, (131, 0, 9), .null, [7034, 7036])), (297, (.iload 5, (0, 0, 0), .null, [])), (299, (.if_icmp .eq 5, (0, 0, 0), .null, [])), (302, (.iconst 0, (0, 0, 0), .null, [])), (303, (.ireturn, (0, 0, 0), .null, [])), (304, (.iload 5, (0, 0, 0), .null, [])), (306, (.ifCond .ne 15, (0, 0, 0), .null, [])), (309, (.aload_n 3, (0, 0, 0), .null, [])), (310, (.iconst 0, (0, 0, 0), .null, [])), (311, (.laload, (0, 0, 0), .null, [])), (312, (.iload 6, (0, 0, 0), .null, [])), (314, (.i2l, (0, 0, 0), .null, [])), (315, (.lcmp, (0, 0, 0), .null, [])), (316, (.ifCond .eq 5, (0, 0, 0), .null, [])), (319, (.iconst 0, (0, 0, 0), .null, [])), (320, (.ireturn, (0, 0, 0), .null, [])), (321, (.goto 1987, (0, 0, 0), .null, [])), (324, (.aload_n 1, (0, 0, 0), .null, [])), (325, (.aload_n 0, (0, 0, 0), .null, [])), (326, (.iload 4, (0, 0, 0), .null, [])), (328, (.iconst 1, (0, 0, 0), .null, [])), (329, (.iadd, (0, 0, 0), .null, [])), (330, (.iaload, (0, 0, 0), .null, [])), (331, (.aload_n 3, (0, 0, 0), .null, [])), (332, (.invokestatic 143, (220, 3, 0), .null, [2200])), (335, (.istore 5, (0, 0, 0), .null, [])), (337, (.aload_n 2, (0, 0, 0), .null, [])), (338, (.aload_n 0, (0, 0, 0), .null, []))]
def ax_t258_3 : List (Nat × ax_E2) := [(339, (.iload 4, (0, 0, 0), .null, [])), (341, (.iconst 1, (0, 0, 0), .null, [])), (342, (.iadd, (0, 0, 0), .null, [])), (343, (.iaload, (0, 0, 0), .null, [])), (344, (.invokevirtual 146, (144, 1, 9), .null, [7046, 7048])), (347, (.istore 6, (0, 0, 0), .null, [])), (349, (.aload_n 2, (0, 0, 0), .null, [])), (350, (.invokevirtual 140, (131, 0, 9), .null, [7034, 7036])), (353, (.iload 5, (0, 0, 0), .null, [])), (355, (.if_icmp .eq 5, (0, 0, 0), .null, [])), (358, (.iconst 0, (0, 0, 0), .null, [])), (359, (.ireturn, (0, 0, 0), .null, [])), (360, (.iload 5, (0, 0, 0), .null, [])), (362, (.ifCond .ne 15, (0, 0, 0), .null, [])), (365, (.aload_n 3, (0, 0, 0), .null, [])), (366, (.iconst 0, (0, 0, 0), .null, [])), (367, (.laload, (0, 0, 0), .null, [])), (368, (.iload 6, (0, 0, 0), .null, [])), (370, (.i2l, (0, 0, 0), .null, [])), (371, (.lcmp, (0, 0, 0), .null, [])), (372, (.ifCond .eq 5, (0, 0, 0), .null, [])), (375, (.iconst 0, (0, 0, 0), .null, [])), (376, (.ireturn, (0, 0, 0), .null, [])), (377, (.goto 1931, (0, 0, 0), .null, [])), (380, (.aload_n 1, (0, 0, 0), .null, [])), (381, (.aload_n 3, (0, 0, 0), .null, [])), (382, (.invokestatic 147, (221, 2, 0), .null, [2224])), (385, (.istore 5, (0, 0, 0), .null, [])), (387, (.aload_n 2, (0, 0, 0), .null, [])), (388, (.invokevirtual 150, (156, 0, 9), .null, [7050, 7052])), (391, (.istore 6, (0, 0, 0), .null, [])), (393, (.aload_n 2, (0, 0, 0), .null, [])), (394, (.invokevirtual 140, (131, 0, 9), .null, [7034, 7036])), (397, (.iload 5, (0, 0, 0), .null, [])), (399, (.if_icmp .eq 5, (0, 0, 0), .null, [])), (402, (.iconst 0, (0, 0, 0), .null, [])), (403, (.ireturn, (0, 0, 0), .null, []))]
def ax_t258_4 : List (Nat × ax_E2) := [(404, (.iload 5, (0, 0, 0), .null, [])), (406, (.ifCond .ne 15, (0, 0, 0), .null, [])), (409, (.aload_n 3, (0, 0, 0), .null, [])), (410, (.iconst 0, (0, 0, 0), .null, [])), (411, (.laload, (0, 0, 0), .null, [])), (412, (.iload 6, (0, 0, 0), .null, [])), (414, (.i2l, (0, 0, 0), .null, [])), (415, (.lcmp, (0, 0, 0), .null, [])), (416, (.ifCond .eq 5, (0, 0, 0), .null, [])), (419, (.iconst 0, (0, 0, 0), .null, [])), (420, (.ireturn, (0, 0, 0), .null, [])), (421, (.goto 1887, (0, 0, 0), .null, [])), (424, (.aload_n 1, (0, 0, 0), .null, [])), (425, (.aload_n 3, (0, 0, 0), .null, [])), (426, (.invokestatic 151, (222, 2, 0), .null, [3146])), (429, (.istore 5, (0, 0, 0), .null, [])), (431, (.aload_n 2, (0, 0, 0), .null, [])), (432, (.invokevirtual 153, (159, 0, 9), .null, [7133, 7135])), (435, (.istore 6, (0, 0, 0), .null, [])), (437, (.aload_n 2, (0, 0, 0), .null, [])), (438, (.invokevirtual 140, (131, 0, 9), .null, [7034, 7036])), (441, (.iload 5, (0, 0, 0), .null, [])), (443, (.if_icmp .eq 5, (0, 0, 0), .null, [])), (446, (.iconst 0, (0, 0, 0), .null, [])), (447, (.ireturn, (0, 0, 0), .null, [])), (448, (.iload 5, (0, 0, 0), .null, [])), (450, (.ifCond .ne 22, (0, 0, 0), .null, [])), (453, (.aload_n 3, (0, 0, 0), .null, [])), (454, (.iconst 0, (0, 0, 0), .null, [])), (455, (.laload, (0, 0, 0), .null, [])), (456, (.iload 6, (0, 0, 0), .null, [])), (458, (.ifCond .eq 7, (0, 0, 0), .null, [])), (461, (.lconst 1, (0, 0, 0), .null, [])), (462, (.goto 4, (0, 0, 0), .null, [])), (465, (.lconst 0, (0, 0, 0), .null, [])), (466, (.lcmp, (0, 0, 0), .null, [])), (467, (.ifCond .eq 5, (0, 0, 0), .null, []))]
def ax_t258_5 : List (Nat × ax_E2) := [(470, (.iconst 0, (0, 0, 0), .null, [])), (471, (.ireturn, (0, 0, 0), .null, [])), (472, (.goto 1836, (0, 0, 0), .null, [])), (475, (.aload_n 1, (0, 0, 0), .null, [])), (476, (.invokevirtual 154, (74, 0, 8), .null, [2043, 2045])), (479, (.aload_n 2, (0, 0, 0), .null, [])), (480, (.invokevirtual 157, (160, 0, 9), .null, [7152, 7154])), (483, (.if_icmp .eq 1825, (0, 0, 0), .null, [])), (486, (.iconst 0, (0, 0, 0), .null, [])), (487, (.ireturn, (0, 0, 0), .null, [])), (488, (.aload_n 1, (0, 0, 0), .null, [])), (489, (.aload_n 0, (0, 0, 0), .null, [])), (490, (.iload 4, (0, 0, 0), .null, [])), (492, (.iconst 1, (0, 0, 0), .null, [])), (493, (.iadd, (0, 0, 0), .null, [])), (494, (.iaload, (0, 0, 0), .null, [])), (495, (.aload_n 3, (0, 0, 0), .null, [])), (496, (.invokestatic 158, (223, 3, 0), .null, [3161])), (499, (.istore 5, (0, 0, 0), .null, [])), (501, (.aload_n 2, (0, 0, 0), .null, [])), (502, (.aload_n 0, (0, 0, 0), .null, [])), (503, (.iload 4, (0, 0, 0), .null, [])), (505, (.iconst 1, (0, 0, 0), .null, [])), (506, (.iadd, (0, 0, 0), .null, [])), (507, (.iaload, (0, 0, 0), .null, [])), (508, (.invokevirtual 160, (163, 1, 9), .null, [7156, 7158])), (511, (.istore 6, (0, 0, 0), .null, [])), (513, (.aload_n 2, (0, 0, 0), .null, [])), (514, (.invokevirtual 140, (131, 0, 9), .null, [7034, 7036])), (517, (.iload 5, (0, 0, 0), .null, [])), (519, (.if_icmp .eq 5, (0, 0, 0), .null, [])), (522, (.iconst 0, (0, 0, 0), .null, [])), (523, (.ireturn, (0, 0, 0), .null, [])), (524, (.iload 5, (0, 0, 0), .null, [])), (526, (.ifCond .ne 15, (0, 0, 0), .null, [])), (529, (.aload_n 3, (0, 0, 0), .null, [])), (530, (.iconst 0, (0, 0, 0), .null, []))]
def ax_t258_6 : List (Nat × ax_E2) := [(531, (.laload, (0, 0, 0), .null, [])), (532, (.iload 6, (0, 0, 0), .null, [])), (534, (.i2l, (0, 0, 0), .null, [])), (535, (.lcmp, (0, 0, 0), .null, [])), (536, (.ifCond .eq 5, (0, 0, 0), .null, [])), (539, (.iconst 0, (0, 0, 0), .null, [])), (540, (.ireturn, (0, 0, 0), .null, [])), (541, (.goto 1767, (0, 0, 0), .null, [])), (544, (.aload_n 1, (0, 0, 0), .null, [])), (545, (.aload_n 0, (0, 0, 0), .null, [])), (546, (.iload 4, (0, 0, 0), .null, [])), (548, (.iconst 1, (0, 0, 0), .null, [])), (549, (.iadd, (0, 0, 0), .null, [])), (550, (.iaload, (0, 0, 0), .null, [])), (551, (.aload_n 3, (0, 0, 0), .null, [])), (552, (.invokestatic 161, (224, 3, 0), .null, [5019])), (555, (.istore 5, (0, 0, 0), .null, [])), (557, (.aload_n 2, (0, 0, 0), .null, [])), (558, (.aload_n 0, (0, 0, 0), .null, [])), (559, (.iload 4, (0, 0, 0), .null, [])), (561, (.iconst 1, (0, 0, 0), .null, [])), (562, (.iadd, (0, 0, 0), .null, [])), (563, (.iaload, (0, 0, 0), .null, [])), (564, (.invokevirtual 163, (164, 1, 9), .null, [7173, 7175])), (567, (.istore 6, (0, 0, 0), .null, [])), (569, (.aload_n 2, (0, 0, 0), .null, [])), (570, (.invokevirtual 140, (131, 0, 9), .null, [7034, 7036])), (573, (.iload 5, (0, 0, 0), .null, [])), (575, (.if_icmp .eq 5, (0, 0, 0), .null, [])), (578, (.iconst 0, (0, 0, 0), .null, [])), (579, (.ireturn, (0, 0, 0), .null, [])), (580, (.iload 5, (0, 0, 0), .null, [])), (582, (.ifCond .ne 15, (0, 0, 0), .null, [])), (585, (.aload_n 3, (0, 0, 0), .null, [])), (586, (.iconst 0, (0, 0, 0), .null, [])), (587, (.laload, (0, 0, 0), .null, [])), (588, (.iload 6, (0, 0, 0), .null, []))]
def ax_t258_7 : List (Nat × ax_E2) := [(590, (.i2l, (0, 0, 0), .null, [])), (591, (.lcmp, (0, 0, 0), .null, [])), (592, (.ifCond .eq 5, (0, 0, 0), .null, [])), (595, (.iconst 0, (0, 0, 0), .null, [])), (596, (.ireturn, (0, 0, 0), .null, [])), (597, (.goto 1711, (0, 0, 0), .null, [])), (600, (.aload_n 1, (0, 0, 0), .null, [])), (601, (.invokevirtual 164, (77, 0, 8), .null, [2047, 2049])), (604, (.aload_n 2, (0, 0, 0), .null, [])), (605, (.invokevirtual 167, (165, 0, 9), .null, [7177, 7179])), (608, (.if_icmp .eq 1700, (0, 0, 0), .null, [])), (611, (.iconst 0, (0, 0, 0), .null, [])), (612, (.ireturn, (0, 0, 0), .null, [])), (613, (.aload_n 1, (0, 0, 0), .null, [])), (614, (.aload_n 0, (0, 0, 0), .null, [])), (615, (.iload 4, (0, 0, 0), .null, [])), (617, (.iconst 1, (0, 0, 0), .null, [])), (618, (.iadd, (0, 0, 0), .null, [])), (619, (.iaload, (0, 0, 0), .null, [])), (620, (.aload_n 3, (0, 0, 0), .null, [])), (621, (.invokestatic 168, (225, 3, 0), .null, [5037])), (624, (.istore 5, (0, 0, 0), .null, [])), (626, (.aload_n 2, (0, 0, 0), .null, [])), (627, (.aload_n 0, (0, 0, 0), .null, [])), (628, (.iload 4, (0, 0, 0), .null, [])), (630, (.iconst 1, (0, 0, 0), .null, [])), (631, (.iadd, (0, 0, 0), .null, [])), (632, (.iaload, (0, 0, 0), .null, [])), (633, (.invokevirtual 170, (167, 1, 9), .null, [7181, 7183])), (636, (.istore 6, (0, 0, 0), .null, [])), (638, (.aload_n 2, (0, 0, 0), .null, [])), (639, (.invokevirtual 140, (131, 0, 9), .null, [7034, 7036])), (642, (.iload 5, (0, 0, 0), .null, [])), (644, (.if_icmp .eq 5, (0, 0, 0), .null, [])), (647, (.iconst 0, (0, 0, 0), .null, [])), (648, (.ireturn, (0, 0, 0), .null, [])), (649, (.iload 5, (0, 0, 0), .null, []))]
def ax_t258_8 : List (Nat × ax_E2) := [(651, (.ifCond .ne 15, (0, 0, 0), .null, [])), (654, (.aload_n 3, (0, 0, 0), .null, [])), (655, (.iconst 0, (0, 0, 0), .null, [])), (656, (.laload, (0, 0, 0), .null, [])), (657, (.iload 6, (0, 0, 0), .null, [])), (659, (.i2l, (0, 0, 0), .null, [])), (660, (.lcmp, (0, 0, 0), .null, [])), (661, (.ifCond .eq 5, (0, 0, 0), .null, [])), (664, (.iconst 0, (0, 0, 0), .null, [])), (665, (.ireturn, (0, 0, 0), .null, [])), (666, (.goto 1642, (0, 0, 0), .null, [])), (669, (.aload_n 1, (0, 0, 0), .null, [])), (670, (.aload_n 0, (0, 0, 0), .null, [])), (671, (.iload 4, (0, 0, 0), .null, [])), (673, (.iconst 1, (0, 0, 0), .null, [])), (674, (.iadd, (0, 0, 0), .null, [])), (675, (.iaload, (0, 0, 0), .null, [])), (676, (.aload_n 3, (0, 0, 0), .null, [])), (677, (.invokestatic 171, (226, 3, 0), .null, [5048])), (680, (.istore 5, (0, 0, 0), .null, [])), (682, (.aload_n 2, (0, 0, 0), .null, [])), (683, (.aload_n 0, (0, 0, 0), .null, [])), (684, (.iload 4, (0, 0, 0), .null, [])), (686, (.iconst 1, (0, 0, 0), .null, [])), (687, (.iadd, (0, 0, 0), .null, [])), (688, (.iaload, (0, 0, 0), .null, [])), (689, (.invokevirtual 173, (168, 1, 9), .null, [7189, 7191])), (692, (.istore 6, (0, 0, 0), .null, [])), (694, (.aload_n 2, (0, 0, 0), .null, [])), (695, (.invokevirtual 140, (131, 0, 9), .null, [7034, 7036])), (698, (.iload 5, (0, 0, 0), .null, [])), (700, (.if_icmp .eq 5, (0, 0, 0), .null, [])), (703, (.iconst 0, (0, 0, 0), .null, [])), (704, (.ireturn, (0, 0, 0), .null, [])), (705, (.iload 5, (0, 0, 0), .null, [])), (707, (.ifCond .ne 15, (0, 0, 0), .null, [])), (710, (.aload_n 3, (0, 0, 0), .null, []))]
def ax_t258_9 : List (Nat × ax_E2) := [(711, (.iconst 0, (0, 0, 0), .null, [])), (712, (.laload, (0, 0, 0), .null, [])), (713, (.iload 6, (0, 0, 0), .null, [])), (715, (.i2l, (0, 0, 0), .null, [])), (716, (.lcmp, (0, 0, 0), .null, [])), (717, (.ifCond .eq 5, (0, 0, 0), .null, [])), (720, (.iconst 0, (0, 0, 0), .null, [])), (721, (.ireturn, (0, 0, 0), .null, [])), (722, (.goto 1586, (0, 0, 0), .null, [])), (725, (.aload_n 1, (0, 0, 0), .null, [])), (726, (.aload_n 0, (0, 0, 0), .null, [])), (727, (.iload 4, (0, 0, 0), .null, [])), (729, (.iconst 1, (0, 0, 0), .null, [])), (730, (.iadd, (0, 0, 0), .null, [])), (731, (.iaload, (0, 0, 0), .null, [])), (732, (.aload_n 0, (0, 0, 0), .null, [])), (733, (.iload 4, (0, 0, 0), .null, [])), (735, (.iconst 2, (0, 0, 0), .null, [])), (736, (.iadd, (0, 0, 0), .null, [])), (737, (.iaload, (0, 0, 0), .null, [])), (738, (.aload_n 3, (0, 0, 0), .null, [])), (739, (.invokestatic 174, (227, 4, 0), .null, [5055])), (742, (.istore 5, (0, 0, 0), .null, [])), (744, (.aload_n 2, (0, 0, 0), .null, [])), (745, (.aload_n 0, (0, 0, 0), .null, [])), (746, (.iload 4, (0, 0, 0), .null, [])), (748, (.iconst 1, (0, 0, 0), .null, [])), (749, (.iadd, (0, 0, 0), .null, [])), (750, (.iaload, (0, 0, 0), .null, [])), (751, (.aload_n 0, (0, 0, 0), .null, [])), (752, (.iload 4, (0, 0, 0), .null, [])), (754, (.iconst 2, (0, 0, 0), .null, [])), (755, (.iadd, (0, 0, 0), .null, [])), (756, (.iaload, (0, 0, 0), .null, [])), (757, (.invokevirtual 177, (169, 2, 9), .null, [7193, 7195])), (760, (.istore 6, (0, 0, 0), .null, [])), (762, (.aload_n 2, (0, 0, 0), .null, []))]
def ax_t258_10 : List (Nat × ax_E2) := [(763, (.invokevirtual 140, (131, 0, 9), .null, [7034, 7036])), (766, (.iload 5, (0, 0, 0), .null, [])), (768, (.if_icmp .eq 5, (0, 0, 0), .null, [])), (771, (.iconst 0, (0, 0, 0), .null, [])), (772, (.ireturn, (0, 0, 0), .null, [])), (773, (.iload 5, (0, 0, 0), .null, [])), (775, (.ifCond .ne 15, (0, 0, 0), .null, [])), (778, (.aload_n 3, (0, 0, 0), .null, [])), (779, (.iconst 0, (0, 0, 0), .null, [])), (780, (.laload, (0, 0, 0), .null, [])), (781, (.iload 6, (0, 0, 0), .null, [])), (783, (.i2l, (0, 0, 0), .null, [])), (784, (.lcmp, (0, 0, 0), .null, [])), (785, (.ifCond .eq 5, (0, 0, 0), .null, [])), (788, (.iconst 0, (0, 0, 0), .null, [])), (789, (.ireturn, (0, 0, 0), .null, [])), (790, (.goto 1518, (0, 0, 0), .null, [])), (793, (.aload_n 1, (0, 0, 0), .null, [])), (794, (.aload_n 0, (0, 0, 0), .null, [])), (795, (.iload 4, (0, 0, 0), .null, [])), (797, (.iconst 1, (0, 0, 0), .null, [])), (798, (.iadd, (0, 0, 0), .null, [])), (799, (.iaload, (0, 0, 0), .null, [])), (800, (.aload_n 3, (0, 0, 0), .null, [])), (801, (.invokestatic 178, (228, 3, 0), .null, [5066])), (804, (.istore 5, (0, 0, 0), .null, [])), (806, (.aload_n 2, (0, 0, 0), .null, [])), (807, (.aload_n 0, (0, 0, 0), .null, [])), (808, (.iload 4, (0, 0, 0), .null, [])), (810, (.iconst 1, (0, 0, 0), .null, [])), (811, (.iadd, (0, 0, 0), .null, [])), (812, (.iaload, (0, 0, 0), .null, [])), (813, (.invokevirtual 180, (171, 1, 9), .null, [7200, 7202])), (816, (.lstore 6, (0, 0, 0), .null, [])), (818, (.aload_n 2, (0, 0, 0), .null, [])), (819, (.invokevirtual 140, (131, 0, 9), .null, [7034, 7036])), (822, (.iload 5, (0, 0, 0), .null, []))]
def ax_t258_11 : List (Nat × ax_E2) := [(824, (.if_icmp .eq 5, (0, 0, 0), .null, [])), (827, (.iconst 0, (0, 0, 0), .null, [])), (828, (.ireturn, (0, 0, 0), .null, [])), (829, (.iload 5, (0, 0, 0), .null, [])), (831, (.ifCond .ne 14, (0, 0, 0), .null, [])), (834, (.aload_n 3, (0, 0, 0), .null, [])), (835, (.iconst 0, (0, 0, 0), .null, [])), (836, (.laload, (0, 0, 0), .null, [])), (837, (.lload 6, (0, 0, 0), .null, [])), (839, (.lcmp, (0, 0, 0), .null, [])), (840, (.ifCond .eq 5, (0, 0, 0), .null, [])), (843, (.iconst 0, (0, 0, 0), .null, [])), (844, (.ireturn, (0, 0, 0), .null, [])), (845, (.goto 1463, (0, 0, 0), .null, [])), (848, (.aload_n 1, (0, 0, 0), .null, [])), (849, (.aload_n 0, (0, 0, 0), .null, [])), (850, (.iload 4, (0, 0, 0), .null, [])), (852, (.iconst 1, (0, 0, 0), .null, [])), (853, (.iadd, (0, 0, 0), .null, [])), (854, (.iaload, (0, 0, 0), .null, [])), (855, (.aload_n 3, (0, 0, 0), .null, [])), (856, (.invokestatic 181, (229, 3, 0), .null, [5074])), (859, (.istore 5, (0, 0, 0), .null, [])), (861, (.aload_n 2, (0, 0, 0), .null, [])), (862, (.aload_n 0, (0, 0, 0), .null, [])), (863, (.iload 4, (0, 0, 0), .null, [])), (865, (.iconst 1, (0, 0, 0), .null, [])), (866, (.iadd, (0, 0, 0), .null, [])), (867, (.iaload, (0, 0, 0), .null, [])), (868, (.invokevirtual 183, (173, 1, 9), .null, [7204, 7206])), (871, (.istore 6, (0, 0, 0), .null, [])), (873, (.aload_n 2, (0, 0, 0), .null, [])), (874, (.invokevirtual 140, (131, 0, 9), .null, [7034, 7036])), (877, (.iload 5, (0, 0, 0), .null, [])), (879, (.if_icmp .eq 5, (0, 0, 0), .null, [])), (882, (.iconst 0, (0, 0, 0), .null, [])), (883, (.ireturn, (0, 0, 0), .null, []))]
def ax_t258_12 : List (Nat × ax_E2) := [(884, (.iload 5, (0, 0, 0), .null, [])), (886, (.ifCond .ne 15, (0, 0, 0), .null, [])), (889, (.aload_n 3, (0, 0, 0), .null, [])), (890, (.iconst 0, (0, 0, 0), .null, [])), (891, (.laload, (0, 0, 0), .null, [])), (892, (.iload 6, (0, 0, 0), .null, [])), (894, (.i2l, (0, 0, 0), .null, [])), (895, (.lcmp, (0, 0, 0), .null, [])), (896, (.ifCond .eq 5, (0, 0, 0), .null, [])), (899, (.iconst 0, (0, 0, 0), .null, [])), (900, (.ireturn, (0, 0, 0), .null, [])), (901, (.goto 1407, (0, 0, 0), .null, [])), (904, (.aload_n 1, (0, 0, 0), .null, [])), (905, (.aload_n 0, (0, 0, 0), .null, [])), (906, (.iload 4, (0, 0, 0), .null, [])), (908, (.iconst 1, (0, 0, 0), .null, [])), (909, (.iadd, (0, 0, 0), .null, [])), (910, (.iaload, (0, 0, 0), .null, [])), (911, (.aload_n 0, (0, 0, 0), .null, [])), (912, (.iload 4, (0, 0, 0), .null, [])), (914, (.iconst 2, (0, 0, 0), .null, [])), (915, (.iadd, (0, 0, 0), .null, [])), (916, (.iaload, (0, 0, 0), .null, [])), (917, (.aload_n 3, (0, 0, 0), .null, [])), (918, (.invokestatic 184, (230, 4, 0), .null, [5089])), (921, (.istore 5, (0, 0, 0), .null, [])), (923, (.aload_n 2, (0, 0, 0), .null, [])), (924, (.aload_n 0, (0, 0, 0), .null, [])), (925, (.iload 4, (0, 0, 0), .null, [])), (927, (.iconst 1, (0, 0, 0), .null, [])), (928, (.iadd, (0, 0, 0), .null, [])), (929, (.iaload, (0, 0, 0), .null, [])), (930, (.aload_n 0, (0, 0, 0), .null, [])), (931, (.iload 4, (0, 0, 0), .null, [])), (933, (.iconst 2, (0, 0, 0), .null, [])), (934, (.iadd, (0, 0, 0), .null, [])), (935, (.iaload, (0, 0, 0), .null, []))]
def ax_t258_13 : List (Nat × ax_E2) := [(936, (.invokevirtual 186, (175, 2, 9), .null, [7212, 7214])), (939, (.istore 6, (0, 0, 0), .null, [])), (941, (.aload_n 2, (0, 0, 0), .null, [])), (942, (.invokevirtual 140, (131, 0, 9), .null, [7034, 7036])), (945, (.iload 5, (0, 0, 0), .null, [])), (947, (.if_icmp .eq 5, (0, 0, 0), .null, [])), (950, (.iconst 0, (0, 0, 0), .null, [])), (951, (.ireturn, (0, 0, 0), .null, [])), (952, (.iload 5, (0, 0, 0), .null, [])), (954, (.ifCond .ne 15, (0, 0, 0), .null, [])), (957, (.aload_n 3, (0, 0, 0), .null, [])), (958, (.iconst 0, (0, 0, 0), .null, [])), (959, (.laload, (0, 0, 0), .null, [])), (960, (.iload 6, (0, 0, 0), .null, [])), (962, (.i2l, (0, 0, 0), .null, [])), (963, (.lcmp, (0, 0, 0), .null, [])), (964, (.ifCond .eq 5, (0, 0, 0), .null, [])), (967, (.iconst 0, (0, 0, 0), .null, [])), (968, (.ireturn, (0, 0, 0), .null, [])), (969, (.goto 1339, (0, 0, 0), .null, [])), (972, (.aload_n 1, (0, 0, 0), .null, [])), (973, (.aload_n 0, (0, 0, 0), .null, [])), (974, (.iload 4, (0, 0, 0), .null, [])), (976, (.iconst 1, (0, 0, 0), .null, [])), (977, (.iadd, (0, 0, 0), .null, [])), (978, (.iaload, (0, 0, 0), .null, [])), (979, (.aload_n 0, (0, 0, 0), .null, [])), (980, (.iload 4, (0, 0, 0), .null, [])), (982, (.iconst 2, (0, 0, 0), .null, [])), (983, (.iadd, (0, 0, 0), .null, [])), (984, (.iaload, (0, 0, 0), .null, [])), (985, (.aload_n 3, (0, 0, 0), .null, [])), (986, (.invokestatic 187, (231, 4, 0), .null, [5127])), (989, (.istore 5, (0, 0, 0), .null, [])), (991, (.aload_n 2, (0, 0, 0), .null, [])), (992, (.aload_n 0, (0, 0, 0), .null, [])), (993, (.iload 4, (0, 0, 0), .null, []))]
def ax_t258_14 : List (Nat × ax_E2) := [(995, (.iconst 1, (0, 0, 0), .null, [])), (996, (.iadd, (0, 0, 0), .null, [])), (997, (.iaload, (0, 0, 0), .null, [])), (998, (.aload_n 0, (0, 0, 0), .null, [])), (999, (.iload 4, (0, 0, 0), .null, [])), (1001, (.iconst 2, (0, 0, 0), .null, [])), (1002, (.iadd, (0, 0, 0), .null, [])), (1003, (.iaload, (0, 0, 0), .null, [])), (1004, (.invokevirtual 189, (176, 2, 9), .null, [7229, 7231])), (1007, (.istore 6, (0, 0, 0), .null, [])), (1009, (.aload_n 2, (0, 0, 0), .null, [])), (1010, (.invokevirtual 140, (131, 0, 9), .null, [7034, 7036])), (1013, (.iload 5, (0, 0, 0), .null, [])), (1015, (.if_icmp .eq 5, (0, 0, 0), .null, [])), (1018, (.iconst 0, (0, 0, 0), .null, [])), (1019, (.ireturn, (0, 0, 0), .null, [])), (1020, (.iload 5, (0, 0, 0), .null, [])), (1022, (.ifCond .ne 15, (0, 0, 0), .null, [])), (1025, (.aload_n 3, (0, 0, 0), .null, [])), (1026, (.iconst 0, (0, 0, 0), .null, [])), (1027, (.laload, (0, 0, 0), .null, [])), (1028, (.iload 6, (0, 0, 0), .null, [])), (1030, (.i2l, (0, 0, 0), .null, [])), (1031, (.lcmp, (0, 0, 0), .null, [])), (1032, (.ifCond .eq 5, (0, 0, 0), .null, [])), (1035, (.iconst 0, (0, 0, 0), .null, [])), (1036, (.ireturn, (0, 0, 0), .null, [])), (1037, (.goto 1271, (0, 0, 0), .null, [])), (1040, (.aload_n 1, (0, 0, 0), .null, [])), (1041, (.aload_n 0, (0, 0, 0), .null, [])), (1042, (.iload 4, (0, 0, 0), .null, [])), (1044, (.iconst 1, (0, 0, 0), .null, [])), (1045, (.iadd, (0, 0, 0), .null, [])), (1046, (.iaload, (0, 0, 0), .null, [])), (1047, (.aload_n 0, (0, 0, 0), .null, [])), (1048, (.iload 4, (0, 0, 0), .null, [])), (1050, (.iconst 2, (0, 0, 0), .null, []))]
def ax_t258_15 : List (Nat × ax_E2) := [(1051, (.iadd, (0, 0, 0), .null, [])), (1052, (.iaload, (0, 0, 0), .null, [])), (1053, (.aload_n 3, (0, 0, 0), .null, [])), (1054, (.invokestatic 190, (232, 4, 0), .null, [5135])), (1057, (.istore 5, (0, 0, 0), .null, [])), (1059, (.aload_n 2, (0, 0, 0), .null, [])), (1060, (.aload_n 0, (0, 0, 0), .null, [])), (1061, (.iload 4, (0, 0, 0), .null, [])), (1063, (.iconst 1, (0, 0, 0), .null, [])), (1064, (.iadd, (0, 0, 0), .null, [])), (1065, (.iaload, (0, 0, 0), .null, [])), (1066, (.aload_n 0, (0, 0, 0), .null, [])), (1067, (.iload 4, (0, 0, 0), .null, [])), (1069, (.iconst 2, (0, 0, 0), .null, [])), (1070, (.iadd, (0, 0, 0), .null, [])), (1071, (.iaload, (0, 0, 0), .null, [])), (1072, (.invokevirtual 192, (178, 2, 9), .null, [7233, 7235])), (1075, (.istore 6, (0, 0, 0), .null, [])), (1077, (.aload_n 2, (0, 0, 0), .null, [])), (1078, (.invokevirtual 140, (131, 0, 9), .null, [7034, 7036])), (1081, (.iload 5, (0, 0, 0), .null, [])), (1083, (.if_icmp .eq 5, (0, 0, 0), .null, [])), (1086, (.iconst 0, (0, 0, 0), .null, [])), (1087, (.ireturn, (0, 0, 0), .null, [])), (1088, (.iload 5, (0, 0, 0), .null, [])), (1090, (.ifCond .ne 15, (0, 0, 0), .null, [])), (1093, (.aload_n 3, (0, 0, 0), .null, [])), (1094, (.iconst 0, (0, 0, 0), .null, [])), (1095, (.laload, (0, 0, 0), .null, [])), (1096, (.iload 6, (0, 0, 0), .null, [])), (1098, (.i2l, (0, 0, 0), .null, [])), (1099, (.lcmp, (0, 0, 0), .null, [])), (1100, (.ifCond .eq 5, (0, 0, 0), .null, [])), (1103, (.iconst 0, (0, 0, 0), .null, [])), (1104, (.ireturn, (0, 0, 0), .null, [])), (1105, (.goto 1203, (0, 0, 0), .null, [])), (1108, (.aload_n 1, (0, 0, 0), .null, []))]
def ax_t258_16 : List (Nat × ax_E2) := [(1109, (.aload_n 0, (0, 0, 0), .null, [])), (1110, (.iload 4, (0, 0, 0), .null, [])), (1112, (.iconst 1, (0, 0, 0), .null, [])), (1113, (.iadd, (0, 0, 0), .null, [])), (1114, (.iaload, (0, 0, 0), .null, [])), (1115, (.aload_n 3, (0, 0, 0), .null, [])), (1116, (.invokestatic 193, (233, 3, 0), .null, [5147])), (1119, (.istore 5, (0, 0, 0), .null, [])), (1121, (.aload_n 2, (0, 0, 0), .null, [])), (1122, (.aload_n 0, (0, 0, 0), .null, [])), (1123, (.iload 4, (0, 0, 0), .null, [])), (1125, (.iconst 1, (0, 0, 0), .null, [])), (1126, (.iadd, (0, 0, 0), .null, [])), (1127, (.iaload, (0, 0, 0), .null, [])), (1128, (.invokevirtual 195, (179, 1, 9), .null, [8000, 8002])), (1131, (.istore 6, (0, 0, 0), .null, [])), (1133, (.aload_n 2, (0, 0, 0), .null, [])), (1134, (.invokevirtual 140, (131, 0, 9), .null, [7034, 7036])), (1137, (.iload 5, (0, 0, 0), .null, [])), (1139, (.if_icmp .eq 5, (0, 0, 0), .null, [])), (1142, (.iconst 0, (0, 0, 0), .null, [])), (1143, (.ireturn, (0, 0, 0), .null, [])), (1144, (.iload 5, (0, 0, 0), .null, [])), (1146, (.ifCond .ne 15, (0, 0, 0), .null, [])), (1149, (.aload_n 3, (0, 0, 0), .null, [])), (1150, (.iconst 0, (0, 0, 0), .null, [])), (1151, (.laload, (0, 0, 0), .null, [])), (1152, (.iload 6, (0, 0, 0), .null, [])), (1154, (.i2l, (0, 0, 0), .null, [])), (1155, (.lcmp, (0, 0, 0), .null, [])), (1156, (.ifCond .eq 5, (0, 0, 0), .null, [])), (1159, (.iconst 0, (0, 0, 0), .null, [])), (1160, (.ireturn, (0, 0, 0), .null, [])), (1161, (.goto 1147, (0, 0, 0), .null, [])), (1164, (.aload_n 1, (0, 0, 0), .null, [])), (1165, (.aload_n 0, (0, 0, 0), .null, [])), (1166, (.iload 4, (0, 0, 0), .null, []))]
def ax_t258_17 : List (Nat × ax_E2) := [(1168, (.iconst 1, (0, 0, 0), .null, [])), (1169, (.iadd, (0, 0, 0), .null, [])), (1170, (.iaload, (0, 0, 0), .null, [])), (1171, (.aload_n 0, (0, 0, 0), .null, [])), (1172, (.iload 4, (0, 0, 0), .null, [])), (1174, (.iconst 2, (0, 0, 0), .null, [])), (1175, (.iadd, (0, 0, 0), .null, [])), (1176, (.iaload, (0, 0, 0), .null, [])), (1177, (.aload_n 3, (0, 0, 0), .null, [])), (1178, (.invokestatic 196, (234, 4, 0), .null, [5158])), (1181, (.istore 5, (0, 0, 0), .null, [])), (1183, (.aload_n 2, (0, 0, 0), .null, [])), (1184, (.aload_n 0, (0, 0, 0), .null, [])), (1185, (.iload 4, (0, 0, 0), .null, [])), (1187, (.iconst 1, (0, 0, 0), .null, [])), (1188, (.iadd, (0, 0, 0), .null, [])), (1189, (.iaload, (0, 0, 0), .null, [])), (1190, (.aload_n 0, (0, 0, 0), .null, [])), (1191, (.iload 4, (0, 0, 0), .null, [])), (1193, (.iconst 2, (0, 0, 0), .null, [])), (1194, (.iadd, (0, 0, 0), .null, [])), (1195, (.iaload, (0, 0, 0), .null, [])), (1196, (.invokevirtual 198, (180, 2, 9), .null, [8004, 8006])), (1199, (.istore 6, (0, 0, 0), .null, [])), (1201, (.aload_n 2, (0, 0, 0), .null, [])), (1202, (.invokevirtual 140, (131, 0, 9), .null, [7034, 7036])), (1205, (.iload 5, (0, 0, 0), .null, [])), (1207, (.if_icmp .eq 5, (0, 0, 0), .null, [])), (1210, (.iconst 0, (0, 0, 0), .null, [])), (1211, (.ireturn, (0, 0, 0), .null, [])), (1212, (.iload 5, (0, 0, 0), .null, [])), (1214, (.ifCond .ne 15, (0, 0, 0), .null, [])), (1217, (.aload_n 3, (0, 0, 0), .null, [])), (1218, (.iconst 0, (0, 0, 0), .null, [])), (1219, (.laload, (0, 0, 0), .null, [])), (1220, (.iload 6, (0, 0, 0), .null, [])), (1222, (.i2l, (0, 0, 0), .null, []))]
def ax_t258_18 : List (Nat × ax_E2) := [(1223, (.lcmp, (0, 0, 0), .null, [])), (1224, (.ifCond .eq 5, (0, 0, 0), .null, [])), (1227, (.iconst 0, (0, 0, 0), .null, [])), (1228, (.ireturn, (0, 0, 0), .null, [])), (1229, (.goto 1079, (0, 0, 0), .null, [])), (1232, (.aload_n 1, (0, 0, 0), .null, [])), (1233, (.aload_n 0, (0, 0, 0), .null, [])), (1234, (.iload 4, (0, 0, 0), .null, [])), (1236, (.iconst 1, (0, 0, 0), .null, [])), (1237, (.iadd, (0, 0, 0), .null, [])), (1238, (.iaload, (0, 0, 0), .null, [])), (1239, (.aload_n 0, (0, 0, 0), .null, [])), (1240, (.iload 4, (0, 0, 0), .null, [])), (1242, (.iconst 2, (0, 0, 0), .null, [])), (1243, (.iadd, (0, 0, 0), .null, [])), (1244, (.iaload, (0, 0, 0), .null, [])), (1245, (.aload_n 0, (0, 0, 0), .null, [])), (1246, (.iload 4, (0, 0, 0), .null, [])), (1248, (.iconst 3, (0, 0, 0), .null, [])), (1249, (.iadd, (0, 0, 0), .null, [])), (1250, (.iaload, (0, 0, 0), .null, [])), (1251, (.aload_n 3, (0, 0, 0), .null, [])), (1252, (.invokestatic 199, (235, 5, 0), .null, [5182])), (1255, (.istore 5, (0, 0, 0), .null, [])), (1257, (.aload_n 2, (0, 0, 0), .null, [])), (1258, (.aload_n 0, (0, 0, 0), .null, [])), (1259, (.iload 4, (0, 0, 0), .null, [])), (1261, (.iconst 1, (0, 0, 0), .null, [])), (1262, (.iadd, (0, 0, 0), .null, [])), (1263, (.iaload, (0, 0, 0), .null, [])), (1264, (.aload_n 0, (0, 0, 0), .null, [])), (1265, (.iload 4, (0, 0, 0), .null, [])), (1267, (.iconst 2, (0, 0, 0), .null, [])), (1268, (.iadd, (0, 0, 0), .null, [])), (1269, (.iaload, (0, 0, 0), .null, [])), (1270, (.aload_n 0, (0, 0, 0), .null, [])), (1271, (.iload 4, (0, 0, 0), .null, []))]
def ax_t258_19 : List (Nat × ax_E2) := [(1273, (.iconst 3, (0, 0, 0), .null, [])), (1274, (.iadd, (0, 0, 0), .null, [])), (1275, (.iaload, (0, 0, 0), .null, [])), (1276, (.invokevirtual 202, (182, 3, 9), .null, [8011, 8013])), (1279, (.istore 6, (0, 0, 0), .null, [])), (1281, (.aload_n 2, (0, 0, 0), .null, [])), (1282, (.invokevirtual 140, (131, 0, 9), .null, [7034, 7036])), (1285, (.iload 5, (0, 0, 0), .null, [])), (1287, (.if_icmp .eq 5, (0, 0, 0), .null, [])), (1290, (.iconst 0, (0, 0, 0), .null, [])), (1291, (.ireturn, (0, 0, 0), .null, [])), (1292, (.iload 5, (0, 0, 0), .null, [])), (1294, (.ifCond .ne 15, (0, 0, 0), .null, [])), (1297, (.aload_n 3, (0, 0, 0), .null, [])), (1298, (.iconst 0, (0, 0, 0), .null, [])), (1299, (.laload, (0, 0, 0), .null, [])), (1300, (.iload 6, (0, 0, 0), .null, [])), (1302, (.i2l, (0, 0, 0), .null, [])), (1303, (.lcmp, (0, 0, 0), .null, [])), (1304, (.ifCond .eq 5, (0, 0, 0), .null, [])), (1307, (.iconst 0, (0, 0, 0), .null, [])), (1308, (.ireturn, (0, 0, 0), .null, [])), (1309, (.goto 999, (0, 0, 0), .null, [])), (1312, (.aload_n 1, (0, 0, 0), .null, [])), (1313, (.aload_n 0, (0, 0, 0), .null, [])), (1314, (.iload 4, (0, 0, 0), .null, [])), (1316, (.iconst 1, (0, 0, 0), .null, [])), (1317, (.iadd, (0, 0, 0), .null, [])), (1318, (.iaload, (0, 0, 0), .null, [])), (1319, (.aload_n 3, (0, 0, 0), .null, [])), (1320, (.invokestatic 203, (236, 3, 0), .null, [5195])), (1323, (.istore 5, (0, 0, 0), .null, [])), (1325, (.aload_n 2, (0, 0, 0), .null, [])), (1326, (.aload_n 0, (0, 0, 0), .null, [])), (1327, (.iload 4, (0, 0, 0), .null, [])), (1329, (.iconst 1, (0, 0, 0), .null, [])), (1330, (.iadd, (0, 0, 0), .null, []))]
def ax_t258_20 : List (Nat × ax_E2) := [(1331, (.iaload, (0, 0, 0), .null, [])), (1332, (.invokevirtual 205, (183, 1, 9), .null, [8018, 8020])), (1335, (.istore 6, (0, 0, 0), .null, [])), (1337, (.aload_n 2, (0, 0, 0), .null, [])), (1338, (.invokevirtual 140, (131, 0, 9), .null, [7034, 7036])), (1341, (.iload 5, (0, 0, 0), .null, [])), (1343, (.if_icmp .eq 5, (0, 0, 0), .null, [])), (1346, (.iconst 0, (0, 0, 0), .null, [])), (1347, (.ireturn, (0, 0, 0), .null, [])), (1348, (.iload 5, (0, 0, 0), .null, [])), (1350, (.ifCond .ne 15, (0, 0, 0), .null, [])), (1353, (.aload_n 3, (0, 0, 0), .null, [])), (1354, (.iconst 0, (0, 0, 0), .null, [])), (1355, (.laload, (0, 0, 0), .null, [])), (1356, (.iload 6, (0, 0, 0), .null, [])), (1358, (.i2l, (0, 0, 0), .null, [])), (1359, (.lcmp, (0, 0, 0), .null, [])), (1360, (.ifCond .eq 5, (0, 0, 0), .null, [])), (1363, (.iconst 0, (0, 0, 0), .null, [])), (1364, (.ireturn, (0, 0, 0), .null, [])), (1365, (.goto 943, (0, 0, 0), .null, [])), (1368, (.aload_n 1, (0, 0, 0), .null, [])), (1369, (.aload_n 0, (0, 0, 0), .null, [])), (1370, (.iload 4, (0, 0, 0), .null, [])), (1372, (.iconst 1, (0, 0, 0), .null, [])), (1373, (.iadd, (0, 0, 0), .null, [])), (1374, (.iaload, (0, 0, 0), .null, [])), (1375, (.aload_n 0, (0, 0, 0), .null, [])), (1376, (.iload 4, (0, 0, 0), .null, [])), (1378, (.iconst 2, (0, 0, 0), .null, [])), (1379, (.iadd, (0, 0, 0), .null, [])), (1380, (.iaload, (0, 0, 0), .null, [])), (1381, (.aload_n 3, (0, 0, 0), .null, [])), (1382, (.invokestatic 206, (237, 4, 0), .null, [5203])), (1385, (.istore 5, (0, 0, 0), .null, [])), (1387, (.aload_n 2, (0, 0, 0), .null, [])), (1388, (.aload_n 0, (0, 0, 0), .null, []))]
def ax_t258_21 : List (Nat × ax_E2) := [(1389, (.iload 4, (0, 0, 0), .null, [])), (1391, (.iconst 1, (0, 0, 0), .null, [])), (1392, (.iadd, (0, 0, 0), .null, [])), (1393, (.iaload, (0, 0, 0), .null, [])), (1394, (.aload_n 0, (0, 0, 0), .null, [])), (1395, (.iload 4, (0, 0, 0), .null, [])), (1397, (.iconst 2, (0, 0, 0), .null, [])), (1398, (.iadd, (0, 0, 0), .null, [])), (1399, (.iaload, (0, 0, 0), .null, [])), (1400, (.invokevirtual 208, (185, 2, 9), .null, [8022, 8024])), (1403, (.istore 6, (0, 0, 0), .null, [])), (1405, (.aload_n 2, (0, 0, 0), .null, [])), (1406, (.invokevirtual 140, (131, 0, 9), .null, [7034, 7036])), (1409, (.iload 5, (0, 0, 0), .null, [])), (1411, (.if_icmp .eq 5, (0, 0, 0), .null, [])), (1414, (.iconst 0, (0, 0, 0), .null, [])), (1415, (.ireturn, (0, 0, 0), .null, [])), (1416, (.iload 5, (0, 0, 0), .null, [])), (1418, (.ifCond .ne 22, (0, 0, 0), .null, [])), (1421, (.aload_n 3, (0, 0, 0), .null, [])), (1422, (.iconst 0, (0, 0, 0), .null, [])), (1423, (.laload, (0, 0, 0), .null, [])), (1424, (.iload 6, (0, 0, 0), .null, [])), (1426, (.ifCond .eq 7, (0, 0, 0), .null, [])), (1429, (.lconst 1, (0, 0, 0), .null, [])), (1430, (.goto 4, (0, 0, 0), .null, [])), (1433, (.lconst 0, (0, 0, 0), .null, [])), (1434, (.lcmp, (0, 0, 0), .null, [])), (1435, (.ifCond .eq 5, (0, 0, 0), .null, [])), (1438, (.iconst 0, (0, 0, 0), .null, [])), (1439, (.ireturn, (0, 0, 0), .null, [])), (1440, (.goto 868, (0, 0, 0), .null, [])), (1443, (.aload_n 1, (0, 0, 0), .null, [])), (1444, (.aload_n 0, (0, 0, 0), .null, [])), (1445, (.iload 4, (0, 0, 0), .null, [])), (1447, (.iconst 1, (0, 0, 0), .null, [])), (1448, (.iadd, (0, 0, 0), .null, []))]
def ax_t258_22 : List (Nat × ax_E2) := [(1449, (.iaload, (0, 0, 0), .null, [])), (1450, (.aload_n 3, (0, 0, 0), .null, [])), (1451, (.invokestatic 209, (238, 3, 0), .null, [5218])), (1454, (.istore 5, (0, 0, 0), .null, [])), (1456, (.aload_n 2, (0, 0, 0), .null, [])), (1457, (.aload_n 0, (0, 0, 0), .null, [])), (1458, (.iload 4, (0, 0, 0), .null, [])), (1460, (.iconst 1, (0, 0, 0), .null, [])), (1461, (.iadd, (0, 0, 0), .null, [])), (1462, (.iaload, (0, 0, 0), .null, [])), (1463, (.invokevirtual 211, (186, 1, 9), .null, [8030, 8032])), (1466, (.istore 6, (0, 0, 0), .null, [])), (1468, (.aload_n 2, (0, 0, 0), .null, [])), (1469, (.invokevirtual 140, (131, 0, 9), .null, [7034, 7036])), (1472, (.iload 5, (0, 0, 0), .null, [])), (1474, (.if_icmp .eq 5, (0, 0, 0), .null, [])), (1477, (.iconst 0, (0, 0, 0), .null, [])), (1478, (.ireturn, (0, 0, 0), .null, [])), (1479, (.iload 5, (0, 0, 0), .null, [])), (1481, (.ifCond .ne 15, (0, 0, 0), .null, [])), (1484, (.aload_n 3, (0, 0, 0), .null, [])), (1485, (.iconst 0, (0, 0, 0), .null, [])), (1486, (.laload, (0, 0, 0), .null, [])), (1487, (.iload 6, (0, 0, 0), .null, [])), (1489, (.i2l, (0, 0, 0), .null, [])), (1490, (.lcmp, (0, 0, 0), .null, [])), (1491, (.ifCond .eq 5, (0, 0, 0), .null, [])), (1494, (.iconst 0, (0, 0, 0), .null, [])), (1495, (.ireturn, (0, 0, 0), .null, [])), (1496, (.goto 812, (0, 0, 0), .null, [])), (1499, (.aload_n 1, (0, 0, 0), .null, [])), (1500, (.aload_n 0, (0, 0, 0), .null, [])), (1501, (.iload 4, (0, 0, 0), .null, [])), (1503, (.iconst 1, (0, 0, 0), .null, [])), (1504, (.iadd, (0, 0, 0), .null, [])), (1505, (.iaload, (0, 0, 0), .null, [])), (1506, (.aload_n 3, (0, 0, 0), .null, []))]
def ax_t258_23 : List (Nat × ax_E2) := [(1507, (.invokestatic 212, (239, 3, 0), .null, [5237])), (1510, (.istore 5, (0, 0, 0), .null, [])), (1512, (.aload_n 2, (0, 0, 0), .null, [])), (1513, (.aload_n 0, (0, 0, 0), .null, [])), (1514, (.iload 4, (0, 0, 0), .null, [])), (1516, (.iconst 1, (0, 0, 0), .null, [])), (1517, (.iadd, (0, 0, 0), .null, [])), (1518, (.iaload, (0, 0, 0), .null, [])), (1519, (.invokevirtual 214, (189, 1, 9), .null, [8037, 8039])), (1522, (.istore 6, (0, 0, 0), .null, [])), (1524, (.aload_n 2, (0, 0, 0), .null, [])), (1525, (.invokevirtual 140, (131, 0, 9), .null, [7034, 7036])), (1528, (.iload 5, (0, 0, 0), .null, [])), (1530, (.if_icmp .eq 5, (0, 0, 0), .null, [])), (1533, (.iconst 0, (0, 0, 0), .null, [])), (1534, (.ireturn, (0, 0, 0), .null, [])), (1535, (.iload 5, (0, 0, 0), .null, [])), (1537, (.ifCond .ne 15, (0, 0, 0), .null, [])), (1540, (.aload_n 3, (0, 0, 0), .null, [])), (1541, (.iconst 0, (0, 0, 0), .null, [])), (1542, (.laload, (0, 0, 0), .null, [])), (1543, (.iload 6, (0, 0, 0), .null, [])), (1545, (.i2l, (0, 0, 0), .null, [])), (1546, (.lcmp, (0, 0, 0), .null, [])), (1547, (.ifCond .eq 5, (0, 0, 0), .null, [])), (1550, (.iconst 0, (0, 0, 0), .null, [])), (1551, (.ireturn, (0, 0, 0), .null, [])), (1552, (.goto 756, (0, 0, 0), .null, [])), (1555, (.aload_n 1, (0, 0, 0), .null, [])), (1556, (.aload_n 3, (0, 0, 0), .null, [])), (1557, (.invokestatic 215, (240, 2, 0), .null, [6008])), (1560, (.istore 5, (0, 0, 0), .null, [])), (1562, (.aload_n 2, (0, 0, 0), .null, [])), (1563, (.invokevirtual 217, (190, 0, 9), .null, [8044, 8046])), (1566, (.istore 6, (0, 0, 0), .null, [])), (1568, (.aload_n 2, (0, 0, 0), .null, [])), (1569, (.invokevirtual 140, (131, 0, 9), .null, [7034, 7036]))]
def ax_t258_24 : List (Nat × ax_E2) := [(1572, (.iload 5, (0, 0, 0), .null, [])), (1574, (.if_icmp .eq 5, (0, 0, 0), .null, [])), (1577, (.iconst 0, (0, 0, 0), .null, [])), (1578, (.ireturn, (0, 0, 0), .null, [])), (1579, (.iload 5, (0, 0, 0), .null, [])), (1581, (.ifCond .ne 15, (0, 0, 0), .null, [])), (1584, (.aload_n 3, (0, 0, 0), .null, [])), (1585, (.iconst 0, (0, 0, 0), .null, [])), (1586, (.laload, (0, 0, 0), .null, [])), (1587, (.iload 6, (0, 0, 0), .null, [])), (1589, (.i2l, (0, 0, 0), .null, [])), (1590, (.lcmp, (0, 0, 0), .null, [])), (1591, (.ifCond .eq 5, (0, 0, 0), .null, [])), (1594, (.iconst 0, (0, 0, 0), .null, [])), (1595, (.ireturn, (0, 0, 0), .null, [])), (1596, (.goto 712, (0, 0, 0), .null, [])), (1599, (.aload_n 1, (0, 0, 0), .null, [])), (1600, (.aload_n 0, (0, 0, 0), .null, [])), (1601, (.iload 4, (0, 0, 0), .null, [])), (1603, (.iconst 1, (0, 0, 0), .null, [])), (1604, (.iadd, (0, 0, 0), .null, [])), (1605, (.iaload, (0, 0, 0), .null, [])), (1606, (.aload_n 3, (0, 0, 0), .null, [])), (1607, (.invokestatic 218, (241, 3, 0), .null, [6032])), (1610, (.istore 5, (0, 0, 0), .null, [])), (1612, (.aload_n 2, (0, 0, 0), .null, [])), (1613, (.aload_n 0, (0, 0, 0), .null, [])), (1614, (.iload 4, (0, 0, 0), .null, [])), (1616, (.iconst 1, (0, 0, 0), .null, [])), (1617, (.iadd, (0, 0, 0), .null, [])), (1618, (.iaload, (0, 0, 0), .null, [])), (1619, (.invokevirtual 220, (194, 1, 9), .null, [8048, 8050])), (1622, (.istore 6, (0, 0, 0), .null, [])), (1624, (.aload_n 2, (0, 0, 0), .null, [])), (1625, (.invokevirtual 140, (131, 0, 9), .null, [7034, 7036])), (1628, (.iload 5, (0, 0, 0), .null, [])), (1630, (.if_icmp .eq 5, (0, 0, 0), .null, []))]
def ax_t258_25 : List (Nat × ax_E2) := [(1633, (.iconst 0, (0, 0, 0), .null, [])), (1634, (.ireturn, (0, 0, 0), .null, [])), (1635, (.iload 5, (0, 0, 0), .null, [])), (1637, (.ifCond .ne 15, (0, 0, 0), .null, [])), (1640, (.aload_n 3, (0, 0, 0), .null, [])), (1641, (.iconst 0, (0, 0, 0), .null, [])), (1642, (.laload, (0, 0, 0), .null, [])), (1643, (.iload 6, (0, 0, 0), .null, [])), (1645, (.i2l, (0, 0, 0), .null, [])), (1646, (.lcmp, (0, 0, 0), .null, [])), (1647, (.ifCond .eq 5, (0, 0, 0), .null, [])), (1650, (.iconst 0, (0, 0, 0), .null, [])), (1651, (.ireturn, (0, 0, 0), .null, [])), (1652, (.goto 656, (0, 0, 0), .null, [])), (1655, (.aload_n 1, (0, 0, 0), .null, [])), (1656, (.aload_n 3, (0, 0, 0), .null, [])), (1657, (.invokestatic 221, (242, 2, 0), .null, [6051])), (1660, (.istore 5, (0, 0, 0), .null, [])), (1662, (.aload_n 2, (0, 0, 0), .null, [])), (1663, (.invokevirtual 223, (195, 0, 9), .null, [8056, 8058])), (1666, (.istore 6, (0, 0, 0), .null, [])), (1668, (.aload_n 2, (0, 0, 0), .null, [])), (1669, (.invokevirtual 140, (131, 0, 9), .null, [7034, 7036])), (1672, (.iload 5, (0, 0, 0), .null, [])), (1674, (.if_icmp .eq 5, (0, 0, 0), .null, [])), (1677, (.iconst 0, (0, 0, 0), .null, [])), (1678, (.ireturn, (0, 0, 0), .null, [])), (1679, (.iload 5, (0, 0, 0), .null, [])), (1681, (.ifCond .ne 15, (0, 0, 0), .null, [])), (1684, (.aload_n 3, (0, 0, 0), .null, [])), (1685, (.iconst 0, (0, 0, 0), .null, [])), (1686, (.laload, (0, 0, 0), .null, [])), (1687, (.iload 6, (0, 0, 0), .null, [])), (1689, (.i2l, (0, 0, 0), .null, [])), (1690, (.lcmp, (0, 0, 0), .null, [])), (1691, (.ifCond .eq 5, (0, 0, 0), .null, [])), (1694, (.iconst 0, (0, 0, 0), .null, []))]
def ax_t258_26 : List (Nat × ax_E2) := [(1695, (.ireturn, (0, 0, 0), .null, [])), (1696, (.goto 612, (0, 0, 0), .null, [])), (1699, (.aload_n 1, (0, 0, 0), .null, [])), (1700, (.invokevirtual 224, (96, 0, 8), .null, [2051, 2053])), (1703, (.aload_n 2, (0, 0, 0), .null, [])), (1704, (.invokevirtual 227, (196, 0, 9), .null, [8060, 8062])), (1707, (.if_icmp .eq 601, (0, 0, 0), .null, [])), (1710, (.iconst 0, (0, 0, 0), .null, [])), (1711, (.ireturn, (0, 0, 0), .null, [])), (1712, (.aload_n 1, (0, 0, 0), .null, [])), (1713, (.invokevirtual 228, (97, 0, 8), .null, [2055, 2057])), (1716, (.aload_n 2, (0, 0, 0), .null, [])), (1717, (.invokevirtual 231, (197, 0, 9), .null, [8064, 8066])), (1720, (.if_icmp .eq 588, (0, 0, 0), .null, [])), (1723, (.iconst 0, (0, 0, 0), .null, [])), (1724, (.ireturn, (0, 0, 0), .null, [])), (1725, (.aload_n 1, (0, 0, 0), .null, [])), (1726, (.aload_n 0, (0, 0, 0), .null, [])), (1727, (.iload 4, (0, 0, 0), .null, [])), (1729, (.iconst 1, (0, 0, 0), .null, [])), (1730, (.iadd, (0, 0, 0), .null, [])), (1731, (.iaload, (0, 0, 0), .null, [])), (1732, (.aload_n 3, (0, 0, 0), .null, [])), (1733, (.invokestatic 232, (243, 3, 0), .null, [6059])), (1736, (.istore 5, (0, 0, 0), .null, [])), (1738, (.aload_n 2, (0, 0, 0), .null, [])), (1739, (.aload_n 0, (0, 0, 0), .null, [])), (1740, (.iload 4, (0, 0, 0), .null, [])), (1742, (.iconst 1, (0, 0, 0), .null, [])), (1743, (.iadd, (0, 0, 0), .null, [])), (1744, (.iaload, (0, 0, 0), .null, [])), (1745, (.invokevirtual 234, (198, 1, 9), .null, [8068, 8070])), (1748, (.istore 6, (0, 0, 0), .null, [])), (1750, (.aload_n 2, (0, 0, 0), .null, [])), (1751, (.invokevirtual 140, (131, 0, 9), .null, [7034, 7036])), (1754, (.iload 5, (0, 0, 0), .null, [])), (1756, (.if_icmp .eq 5, (0, 0, 0), .null, []))]
def ax_t258_27 : List (Nat × ax_E2) := [(1759, (.iconst 0, (0, 0, 0), .null, [])), (1760, (.ireturn, (0, 0, 0), .null, [])), (1761, (.iload 5, (0, 0, 0), .null, [])), (1763, (.ifCond .ne 15, (0, 0, 0), .null, [])), (1766, (.aload_n 3, (0, 0, 0), .null, [])), (1767, (.iconst 0, (0, 0, 0), .null, [])), (1768, (.laload, (0, 0, 0), .null, [])), (1769, (.iload 6, (0, 0, 0), .null, [])), (1771, (.i2l, (0, 0, 0), .null, [])), (1772, (.lcmp, (0, 0, 0), .null, [])), (1773, (.ifCond .eq 5, (0, 0, 0), .null, [])), (1776, (.iconst 0, (0, 0, 0), .null, [])), (1777, (.ireturn, (0, 0, 0), .null, [])), (1778, (.goto 530, (0, 0, 0), .null, [])), (1781, (.aload_n 1, (0, 0, 0), .null, [])), (1782, (.invokevirtual 235, (99, 0, 8), .null, [2059, 2061])), (1785, (.aload_n 2, (0, 0, 0), .null, [])), (1786, (.invokevirtual 238, (203, 0, 9), .null, [8072, 8074])), (1789, (.if_icmp .eq 519, (0, 0, 0), .null, [])), (1792, (.iconst 0, (0, 0, 0), .null, [])), (1793, (.ireturn, (0, 0, 0), .null, [])), (1794, (.aload_n 1, (0, 0, 0), .null, [])), (1795, (.aload_n 0, (0, 0, 0), .null, [])), (1796, (.iload 4, (0, 0, 0), .null, [])), (1798, (.iconst 1, (0, 0, 0), .null, [])), (1799, (.iadd, (0, 0, 0), .null, [])), (1800, (.iaload, (0, 0, 0), .null, [])), (1801, (.aload_n 3, (0, 0, 0), .null, [])), (1802, (.invokestatic 239, (244, 3, 0), .null, [6066])), (1805, (.istore 5, (0, 0, 0), .null, [])), (1807, (.aload_n 2, (0, 0, 0), .null, [])), (1808, (.aload_n 0, (0, 0, 0), .null, [])), (1809, (.iload 4, (0, 0, 0), .null, [])), (1811, (.iconst 1, (0, 0, 0), .null, [])), (1812, (.iadd, (0, 0, 0), .null, [])), (1813, (.iaload, (0, 0, 0), .null, [])), (1814, (.invokevirtual 241, (205, 1, 9), .null, [8084, 8086]))]
def ax_t258_28 : List (Nat × ax_E2) := [(1817, (.istore 6, (0, 0, 0), .null, [])), (1819, (.aload_n 2, (0, 0, 0), .null, [])), (1820, (.invokevirtual 140, (131, 0, 9), .null, [7034, 7036])), (1823, (.iload 5, (0, 0, 0), .null, [])), (1825, (.if_icmp .eq 5, (0, 0, 0), .null, [])), (1828, (.iconst 0, (0, 0, 0), .null, [])), (1829, (.ireturn, (0, 0, 0), .null, [])), (1830, (.iload 5, (0, 0, 0), .null, [])), (1832, (.ifCond .ne 15, (0, 0, 0), .null, [])), (1835, (.aload_n 3, (0, 0, 0), .null, [])), (1836, (.iconst 0, (0, 0, 0), .null, [])), (1837, (.laload, (0, 0, 0), .null, [])), (1838, (.iload 6, (0, 0, 0), .null, [])), (1840, (.i2l, (0, 0, 0), .null, [])), (1841, (.lcmp, (0, 0, 0), .null, [])), (1842, (.ifCond .eq 5, (0, 0, 0), .null, [])), (1845, (.iconst 0, (0, 0, 0), .null, [])), (1846, (.ireturn, (0, 0, 0), .null, [])), (1847, (.goto 461, (0, 0, 0), .null, [])), (1850, (.aload_n 1, (0, 0, 0), .null, [])), (1851, (.invokevirtual 242, (101, 0, 8), .null, [2098, 2100])), (1854, (.aload_n 2, (0, 0, 0), .null, [])), (1855, (.invokevirtual 245, (206, 0, 9), .null, [8091, 8093])), (1858, (.if_icmp .eq 450, (0, 0, 0), .null, [])), (1861, (.iconst 0, (0, 0, 0), .null, [])), (1862, (.ireturn, (0, 0, 0), .null, [])), (1863, (.aload_n 1, (0, 0, 0), .null, [])), (1864, (.aload_n 0, (0, 0, 0), .null, [])), (1865, (.iload 4, (0, 0, 0), .null, [])), (1867, (.iconst 1, (0, 0, 0), .null, [])), (1868, (.iadd, (0, 0, 0), .null, [])), (1869, (.iaload, (0, 0, 0), .null, [])), (1870, (.aload_n 3, (0, 0, 0), .null, [])), (1871, (.invokestatic 246, (245, 3, 0), .null, [6077])), (1874, (.istore 5, (0, 0, 0), .null, [])), (1876, (.aload_n 2, (0, 0, 0), .null, [])), (1877, (.aload_n 0, (0, 0, 0), .null, []))]
def ax_t258_29 : List (Nat × ax_E2) := [(1878, (.iload 4, (0, 0, 0), .null, [])), (1880, (.iconst 1, (0, 0, 0), .null, [])), (1881, (.iadd, (0, 0, 0), .null, [])), (1882, (.iaload, (0, 0, 0), .null, [])), (1883, (.invokevirtual 248, (207, 1, 9), .null, [8095, 8097])), (1886, (.istore 6, (0, 0, 0), .null, [])), (1888, (.aload_n 2, (0, 0, 0), .null, [])), (1889, (.invokevirtual 140, (131, 0, 9), .null, [7034, 7036])), (1892, (.iload 5, (0, 0, 0), .null, [])), (1894, (.if_icmp .eq 5, (0, 0, 0), .null, [])), (1897, (.iconst 0, (0, 0, 0), .null, [])), (1898, (.ireturn, (0, 0, 0), .null, [])), (1899, (.iload 5, (0, 0, 0), .null, [])), (1901, (.ifCond .ne 22, (0, 0, 0), .null, [])), (1904, (.aload_n 3, (0, 0, 0), .null, [])), (1905, (.iconst 0, (0, 0, 0), .null, [])), (1906, (.laload, (0, 0, 0), .null, [])), (1907, (.iload 6, (0, 0, 0), .null, [])), (1909, (.ifCond .eq 7, (0, 0, 0), .null, [])), (1912, (.lconst 1, (0, 0, 0), .null, [])), (1913, (.goto 4, (0, 0, 0), .null, [])), (1916, (.lconst 0, (0, 0, 0), .null, [])), (1917, (.lcmp, (0, 0, 0), .null, [])), (1918, (.ifCond .eq 5, (0, 0, 0), .null, [])), (1921, (.iconst 0, (0, 0, 0), .null, [])), (1922, (.ireturn, (0, 0, 0), .null, [])), (1923, (.goto 385, (0, 0, 0), .null, [])), (1926, (.aload_n 1, (0, 0, 0), .null, [])), (1927, (.aload_n 0, (0, 0, 0), .null, [])), (1928, (.iload 4, (0, 0, 0), .null, [])), (1930, (.iconst 1, (0, 0, 0), .null, [])), (1931, (.iadd, (0, 0, 0), .null, [])), (1932, (.iaload, (0, 0, 0), .null, [])), (1933, (.aload_n 0, (0, 0, 0), .null, [])), (1934, (.iload 4, (0, 0, 0), .null, [])), (1936, (.iconst 2, (0, 0, 0), .null, [])), (1937, (.iadd, (0, 0, 0), .null, []))]
def ax_t258_30 : List (Nat × ax_E2) := [(1938, (.iaload, (0, 0, 0), .null, [])), (1939, (.aload_n 3, (0, 0, 0), .null, [])), (1940, (.invokestatic 249, (246, 4, 0), .null, [6088])), (1943, (.istore 5, (0, 0, 0), .null, [])), (1945, (.aload_n 2, (0, 0, 0), .null, [])), (1946, (.aload_n 0, (0, 0, 0), .null, [])), (1947, (.iload 4, (0, 0, 0), .null, [])), (1949, (.iconst 1, (0, 0, 0), .null, [])), (1950, (.iadd, (0, 0, 0), .null, [])), (1951, (.iaload, (0, 0, 0), .null, [])), (1952, (.aload_n 0, (0, 0, 0), .null, [])), (1953, (.iload 4, (0, 0, 0), .null, [])), (1955, (.iconst 2, (0, 0, 0), .null, [])), (1956, (.iadd, (0, 0, 0), .null, [])), (1957, (.iaload, (0, 0, 0), .null, [])), (1958, (.invokevirtual 251, (208, 2, 9), .null, [8099, 8101])), (1961, (.istore 6, (0, 0, 0), .null, [])), (1963, (.aload_n 2, (0, 0, 0), .null, [])), (1964, (.invokevirtual 140, (131, 0, 9), .null, [7034, 7036])), (1967, (.iload 5, (0, 0, 0), .null, [])), (1969, (.if_icmp .eq 5, (0, 0, 0), .null, [])), (1972, (.iconst 0, (0, 0, 0), .null, [])), (1973, (.ireturn, (0, 0, 0), .null, [])), (1974, (.iload 5, (0, 0, 0), .null, [])), (1976, (.ifCond .ne 15, (0, 0, 0), .null, [])), (1979, (.aload_n 3, (0, 0, 0), .null, [])), (1980, (.iconst 0, (0, 0, 0), .null, [])), (1981, (.laload, (0, 0, 0), .null, [])), (1982, (.iload 6, (0, 0, 0), .null, [])), (1984, (.i2l, (0, 0, 0), .null, [])), (1985, (.lcmp, (0, 0, 0), .null, [])), (1986, (.ifCond .eq 5, (0, 0, 0), .null, [])), (1989, (.iconst 0, (0, 0, 0), .null, [])), (1990, (.ireturn, (0, 0, 0), .null, [])), (1991, (.goto 317, (0, 0, 0), .null, [])), (1994, (.aload_n 1, (0, 0, 0), .null, [])), (1995, (.aload_n 3, (0, 0, 0), .null, []))]
def ax_t258_31 : List (Nat × ax_E2) := [(1996, (.invokestatic 252, (247, 2, 0), .null, [6096])), (1999, (.istore 5, (0, 0, 0), .null, [])), (2001, (.aload_n 2, (0, 0, 0), .null, [])), (2002, (.invokevirtual 254, (211, 0, 9), .null, [8103, 8105])), (2005, (.istore 6, (0, 0, 0), .null, [])), (2007, (.aload_n 2, (0, 0, 0), .null, [])), (2008, (.invokevirtual 140, (131, 0, 9), .null, [7034, 7036])), (2011, (.iload 5, (0, 0, 0), .null, [])), (2013, (.if_icmp .eq 5, (0, 0, 0), .null, [])), (2016, (.iconst 0, (0, 0, 0), .null, [])), (2017, (.ireturn, (0, 0, 0), .null, [])), (2018, (.iload 5, (0, 0, 0), .null, [])), (2020, (.ifCond .ne 15, (0, 0, 0), .null, [])), (2023, (.aload_n 3, (0, 0, 0), .null, [])), (2024, (.iconst 0, (0, 0, 0), .null, [])), (2025, (.laload, (0, 0, 0), .null, [])), (2026, (.iload 6, (0, 0, 0), .null, [])), (2028, (.i2l, (0, 0, 0), .null, [])), (2029, (.lcmp, (0, 0, 0), .null, [])), (2030, (.ifCond .eq 5, (0, 0, 0), .null, [])), (2033, (.iconst 0, (0, 0, 0), .null, [])), (2034, (.ireturn, (0, 0, 0), .null, [])), (2035, (.goto 273, (0, 0, 0), .null, [])), (2038, (.aload_n 1, (0, 0, 0), .null, [])), (2039, (.aload_n 3, (0, 0, 0), .null, [])), (2040, (.invokestatic 255, (248, 2, 0), .null, [6121])), (2043, (.istore 5, (0, 0, 0), .null, [])), (2045, (.aload_n 2, (0, 0, 0), .null, [])), (2046, (.invokevirtual 257, (212, 0, 9), .null, [8115, 8117])), (2049, (.istore 6, (0, 0, 0), .null, [])), (2051, (.aload_n 2, (0, 0, 0), .null, [])), (2052, (.invokevirtual 140, (131, 0, 9), .null, [7034, 7036])), (2055, (.iload 5, (0, 0, 0), .null, [])), (2057, (.if_icmp .eq 5, (0, 0, 0), .null, [])), (2060, (.iconst 0, (0, 0, 0), .null, [])), (2061, (.ireturn, (0, 0, 0), .null, [])), (2062, (.iload 5, (0, 0, 0), .null, []))]
def ax_t258_32 : List (Nat × ax_E2) := [(2064, (.ifCond .ne 15, (0, 0, 0), .null, [])), (2067, (.aload_n 3, (0, 0, 0), .null, [])), (2068, (.iconst 0, (0, 0, 0), .null, [])), (2069, (.laload, (0, 0, 0), .null, [])), (2070, (.iload 6, (0, 0, 0), .null, [])), (2072, (.i2l, (0, 0, 0), .null, [])), (2073, (.lcmp, (0, 0, 0), .null, [])), (2074, (.ifCond .eq 5, (0, 0, 0), .null, [])), (2077, (.iconst 0, (0, 0, 0), .null, [])), (2078, (.ireturn, (0, 0, 0), .null, [])), (2079, (.goto 229, (0, 0, 0), .null, [])), (2082, (.aload_n 1, (0, 0, 0), .null, [])), (2083, (.aload_n 0, (0, 0, 0), .null, [])), (2084, (.iload 4, (0, 0, 0), .null, [])), (2086, (.iconst 1, (0, 0, 0), .null, [])), (2087, (.iadd, (0, 0, 0), .null, [])), (2088, (.iaload, (0, 0, 0), .null, [])), (2089, (.aload_n 0, (0, 0, 0), .null, [])), (2090, (.iload 4, (0, 0, 0), .null, [])), (2092, (.iconst 2, (0, 0, 0), .null, [])), (2093, (.iadd, (0, 0, 0), .null, [])), (2094, (.iaload, (0, 0, 0), .null, [])), (2095, (.aload_n 3, (0, 0, 0), .null, [])), (2096, (.invokestatic 258, (249, 4, 0), .null, [6128])), (2099, (.istore 5, (0, 0, 0), .null, [])), (2101, (.aload_n 2, (0, 0, 0), .null, [])), (2102, (.aload_n 0, (0, 0, 0), .null, [])), (2103, (.iload 4, (0, 0, 0), .null, [])), (2105, (.iconst 1, (0, 0, 0), .null, [])), (2106, (.iadd, (0, 0, 0), .null, [])), (2107, (.iaload, (0, 0, 0), .null, [])), (2108, (.aload_n 0, (0, 0, 0), .null, [])), (2109, (.iload 4, (0, 0, 0), .null, [])), (2111, (.iconst 2, (0, 0, 0), .null, [])), (2112, (.iadd, (0, 0, 0), .null, [])), (2113, (.iaload, (0, 0, 0), .null, [])), (2114, (.invokevirtual 260, (214, 2, 9), .null, [8119, 8121]))]
def ax_t258_33 : List (Nat × ax_E2) := [(2117, (.istore 6, (0, 0, 0), .null, [])), (2119, (.aload_n 2, (0, 0, 0), .null, [])), (2120, (.invokevirtual 140, (131, 0, 9), .null, [7034, 7036])), (2123, (.iload 5, (0, 0, 0), .null, [])), (2125, (.if_icmp .eq 5, (0, 0, 0), .null, [])), (2128, (.iconst 0, (0, 0, 0), .null, [])), (2129, (.ireturn, (0, 0, 0), .null, [])), (2130, (.iload 5, (0, 0, 0), .null, [])), (2132, (.ifCond .ne 15, (0, 0, 0), .null, [])), (2135, (.aload_n 3, (0, 0, 0), .null, [])), (2136, (.iconst 0, (0, 0, 0), .null, [])), (2137, (.laload, (0, 0, 0), .null, [])), (2138, (.iload 6, (0, 0, 0), .null, [])), (2140, (.i2l, (0, 0, 0), .null, [])), (2141, (.lcmp, (0, 0, 0), .null, [])), (2142, (.ifCond .eq 5, (0, 0, 0), .null, [])), (2145, (.iconst 0, (0, 0, 0), .null, [])), (2146, (.ireturn, (0, 0, 0), .null, [])), (2147, (.goto 161, (0, 0, 0), .null, [])), (2150, (.aload_n 1, (0, 0, 0), .null, [])), (2151, (.aload_n 0, (0, 0, 0), .null, [])), (2152, (.iload 4, (0, 0, 0), .null, [])), (2154, (.iconst 1, (0, 0, 0), .null, [])), (2155, (.iadd, (0, 0, 0), .null, [])), (2156, (.iaload, (0, 0, 0), .null, [])), (2157, (.aload_n 3, (0, 0, 0), .null, [])), (2158, (.invokestatic 261, (250, 3, 0), .null, [6137])), (2161, (.istore 5, (0, 0, 0), .null, [])), (2163, (.aload_n 2, (0, 0, 0), .null, [])), (2164, (.aload_n 0, (0, 0, 0), .null, [])), (2165, (.iload 4, (0, 0, 0), .null, [])), (2167, (.iconst 1, (0, 0, 0), .null, [])), (2168, (.iadd, (0, 0, 0), .null, [])), (2169, (.iaload, (0, 0, 0), .null, [])), (2170, (.invokevirtual 263, (215, 1, 9), .null, [8127, 8129])), (2173, (.istore 6, (0, 0, 0), .null, [])), (2175, (.aload_n 2, (0, 0, 0), .null, []))]
def ax_t258_34 : List (Nat × ax_E2) := [(2176, (.invokevirtual 140, (131, 0, 9), .null, [7034, 7036])), (2179, (.iload 5, (0, 0, 0), .null, [])), (2181, (.if_icmp .eq 5, (0, 0, 0), .null, [])), (2184, (.iconst 0, (0, 0, 0), .null, [])), (2185, (.ireturn, (0, 0, 0), .null, [])), (2186, (.iload 5, (0, 0, 0), .null, [])), (2188, (.ifCond .ne 15, (0, 0, 0), .null, [])), (2191, (.aload_n 3, (0, 0, 0), .null, [])), (2192, (.iconst 0, (0, 0, 0), .null, [])), (2193, (.laload, (0, 0, 0), .null, [])), (2194, (.iload 6, (0, 0, 0), .null, [])), (2196, (.i2l, (0, 0, 0), .null, [])), (2197, (.lcmp, (0, 0, 0), .null, [])), (2198, (.ifCond .eq 5, (0, 0, 0), .null, [])), (2201, (.iconst 0, (0, 0, 0), .null, [])), (2202, (.ireturn, (0, 0, 0), .null, [])), (2203, (.goto 105, (0, 0, 0), .null, [])), (2206, (.aload_n 1, (0, 0, 0), .null, [])), (2207, (.aload_n 3, (0, 0, 0), .null, [])), (2208, (.invokestatic 264, (251, 2, 0), .null, [6144])), (2211, (.istore 5, (0, 0, 0), .null, [])), (2213, (.aload_n 2, (0, 0, 0), .null, [])), (2214, (.invokevirtual 266, (216, 0, 9), .null, [8131, 8133])), (2217, (.istore 6, (0, 0, 0), .null, [])), (2219, (.aload_n 2, (0, 0, 0), .null, [])), (2220, (.invokevirtual 140, (131, 0, 9), .null, [7034, 7036])), (2223, (.iload 5, (0, 0, 0), .null, [])), (2225, (.if_icmp .eq 5, (0, 0, 0), .null, [])), (2228, (.iconst 0, (0, 0, 0), .null, [])), (2229, (.ireturn, (0, 0, 0), .null, [])), (2230, (.iload 5, (0, 0, 0), .null, [])), (2232, (.ifCond .ne 15, (0, 0, 0), .null, [])), (2235, (.aload_n 3, (0, 0, 0), .null, [])), (2236, (.iconst 0, (0, 0, 0), .null, [])), (2237, (.laload, (0, 0, 0), .null, [])), (2238, (.iload 6, (0, 0, 0), .null, [])), (2240, (.i2l, (0, 0, 0), .null, []))]
def ax_t258_35 : List (Nat × ax_E2) := [(2241, (.lcmp, (0, 0, 0), .null, [])), (2242, (.ifCond .eq 5, (0, 0, 0), .null, [])), (2245, (.iconst 0, (0, 0, 0), .null, [])), (2246, (.ireturn, (0, 0, 0), .null, [])), (2247, (.goto 61, (0, 0, 0), .null, [])), (2250, (.aload_n 1, (0, 0, 0), .null, [])), (2251, (.aload_n 3, (0, 0, 0), .null, [])), (2252, (.invokestatic 267, (252, 2, 0), .null, [6162])), (2255, (.istore 5, (0, 0, 0), .null, [])), (2257, (.aload_n 2, (0, 0, 0), .null, [])), (2258, (.invokevirtual 269, (217, 0, 9), .null, [8135, 8137])), (2261, (.istore 6, (0, 0, 0), .null, [])), (2263, (.aload_n 2, (0, 0, 0), .null, [])), (2264, (.invokevirtual 140, (131, 0, 9), .null, [7034, 7036])), (2267, (.iload 5, (0, 0, 0), .null, [])), (2269, (.if_icmp .eq 5, (0, 0, 0), .null, [])), (2272, (.iconst 0, (0, 0, 0), .null, [])), (2273, (.ireturn, (0, 0, 0), .null, [])), (2274, (.iload 5, (0, 0, 0), .null, [])), (2276, (.ifCond .ne 15, (0, 0, 0), .null, [])), (2279, (.aload_n 3, (0, 0, 0), .null, [])), (2280, (.iconst 0, (0, 0, 0), .null, [])), (2281, (.laload, (0, 0, 0), .null, [])), (2282, (.iload 6, (0, 0, 0), .null, [])), (2284, (.i2l, (0, 0, 0), .null, [])), (2285, (.lcmp, (0, 0, 0), .null, [])), (2286, (.ifCond .eq 5, (0, 0, 0), .null, [])), (2289, (.iconst 0, (0, 0, 0), .null, [])), (2290, (.ireturn, (0, 0, 0), .null, [])), (2291, (.goto 17, (0, 0, 0), .null, [])), (2294, (.aload_n 1, (0, 0, 0), .null, [])), (2295, (.invokevirtual 270, (110, 0, 8), .null, [2106, 2108])), (2298, (.aload_n 2, (0, 0, 0), .null, [])), (2299, (.invokevirtual 274, (218, 0, 9), .null, [8139, 8141])), (2302, (.lcmp, (0, 0, 0), .null, [])), (2303, (.ifCond .eq 5, (0, 0, 0), .null, [])), (2306, (.iconst 0, (0, 0, 0), .null, []))]
def ax_t258_36 : List (Nat × ax_E2) := [(2307, (.ireturn, (0, 0, 0), .null, [])), (2308, (.iinc 4 6, (0, 0, 0), .null, [])), (2311, (.goto (-2288), (0, 0, 0), .null, [])), (2314, (.iconst 1, (0, 0, 0), .null, [])), (2315, (.ireturn, (0, 0, 0), .null, []))]
def ax_t258 : List (Nat × List (Nat × ax_E2)) := [(233, ax_t258_0), (280, ax_t258_1), (338, ax_t258_2), (403, ax_t258_3), (467, ax_t258_4), (530, ax_t258_5), (588, ax_t258_6), (649, ax_t258_7), (710, ax_t258_8), (762, ax_t258_9), (822, ax_t258_10), (883, ax_t258_11), (935, ax_t258_12), (993, ax_t258_13), (1050, ax_t258_14), (1108, ax_t258_15), (1166, ax_t258_16), (1222, ax_t258_17), (1271, ax_t258_18), (1330, ax_t258_19), (1388, ax_t258_20), (1448, ax_t258_21), (1506, ax_t258_22), (1569, ax_t258_23), (1630, ax_t258_24), (1694, ax_t258_25), (1756, ax_t258_26), (1814, ax_t258_27), (1877, ax_t258_28), (1937, ax_t258_29), (1995, ax_t258_30), (2062, ax_t258_31), (2114, ax_t258_32), (2175, ax_t258_33), (2240, ax_t258_34), (2306, ax_t258_35), (2315, ax_t258_36)]
def ax_mt : List (Nat × List (Nat × ax_M)) := [(15, [(0, ax_q0), (1, ax_q1), (2, ax_q2), (3, ax_q3), (4, ax_q4), (5, ax_q5), (6, ax_q6), (7, ax_q7), (8, ax_q8), (9, ax_q9), (10, ax_q10), (11, ax_q11), (12, ax_q12), (13, ax_q13), (14, ax_q14), (15, ax_q15)]), (31, [(16, ax_q16), (17, ax_q17), (18, ax_q18), (19, ax_q19), (20, ax_q20), (21, ax_q21), (22, ax_q22), (23, ax_q23), (24, ax_q24), (25, ax_q25), (26, ax_q26), (27, ax_q27), (28, ax_q28), (29, ax_q29), (30, ax_q30), (31, ax_q31)]), (47, [(32, ax_q32), (33, ax_q33), (34, ax_q34), (35, ax_q35), (36, ax_q36), (37, ax_q37), (38, ax_q38), (39, ax_q39), (40, ax_q40), (41, ax_q41), (42, ax_q42), (43, ax_q43), (44, ax_q44), (45, ax_q45), (46, ax_q46), (47, ax_q47)]), (63, [(48, ax_q48), (49, ax_q49), (50, ax_q50), (51, ax_q51), (52, ax_q52), (53, ax_q53), (54, ax_q54), (55, ax_q55), (56, ax_q56), (57, ax_q57), (58, ax_q58), (59, ax_q59), (60, ax_q60), (61, ax_q61), (62, ax_q62), (63, ax_q63)]), (79, [(64, ax_q64), (65, ax_q65), (66, ax_q66), (67, ax_q67), (68, ax_q68), (69, ax_q69), (70, ax_q70), (71, ax_q71), (72, ax_q72), (73, ax_q73), (74, ax_q74), (75, ax_q75), (76, ax_q76), (77, ax_q77), (78, ax_q78), (79, ax_q79)]), (95, [(80, ax_q80), (81, ax_q81), (82, ax_q82), (83, ax_q83), (84, ax_q84), (85, ax_q85), (86, ax_q86), (87, ax_q87), (88, ax_q88), (89, ax_q89), (90, ax_q90), (91, ax_q91), (92, ax_q92), (93, ax_q93), (94, ax_q94), (95, ax_q95)]), (111, [(96, ax_q96), (97, ax_q97), (98, ax_q98), (99, ax_q99), (100, ax_q100), (101, ax_q101), (102, ax_q102), (103, ax_q103), (104, ax_q104), (105, ax_q105), (106, ax_q106), (107, ax_q107), (108, ax_q108), (109, ax_q109), (110, ax_q110), (111, ax_q111)]), (127, [(112, ax_q112), (113, ax_q113), (114, ax_q114), (115, ax_q115), (116, ax_q116), (117, ax_q117), (118, ax_q118), (119, ax_q119), (120, ax_q120), (121, ax_q121), (122, ax_q122), (123, ax_q123), (124, ax_q124), (125, ax_q125), (126, ax_q126), (127, ax_q127)]), (143, [(128, ax_q128), (129, ax_q129), (130, ax_q130), (131, ax_q131), (132, ax_q132), (133, ax_q133), (134, ax_q134), (135, ax_q135), (136, ax_q136), (137, ax_q137), (138, ax_q138), (139, ax_q139), (140, ax_q140), (141, ax_q141), (142, ax_q142), (143, ax_q143)]), (159, [(144, ax_q144), (145, ax_q145), (146, ax_q146), (147, ax_q147), (148, ax_q148), (149, ax_q149), (150, ax_q150), (151, ax_q151), (152, ax_q152), (153, ax_q153), (154, ax_q154), (155, ax_q155), (156, ax_q156), (157, ax_q157), (158, ax_q158), (159, ax_q159)]), (175, [(160, ax_q160), (161, ax_q161), (162, ax_q162), (163, ax_q163), (164, ax_q164), (165, ax_q165), (166, ax_q166), (167, ax_q167), (168, ax_q168), (169, ax_q169), (170, ax_q170), (171, ax_q171), (172, ax_q172), (173, ax_q173), (174, ax_q174), (175, ax_q175)]), (191, [(176, ax_q176), (177, ax_q177), (178, ax_q178), (179, ax_q179), (180, ax_q180), (181, ax_q181), (182, ax_q182), (183, ax_q183), (184, ax_q184), (185, ax_q185), (186, ax_q186), (187, ax_q187), (188, ax_q188), (189, ax_q189), (190, ax_q190), (191, ax_q191)]), (207, [(192, ax_q192), (193, ax_q193), (194, ax_q194), (195, ax_q195), (196, ax_q196), (197, ax_q197), (198, ax_q198), (199, ax_q199), (200, ax_q200), (201, ax_q201), (202, ax_q202), (203, ax_q203), (204, ax_q204), (205, ax_q205), (206, ax_q206), (207, ax_q207)]), (223, [(208, ax_q208), (209, ax_q209), (210, ax_q210), (211, ax_q211), (212, ax_q212), (213, ax_q213), (214, ax_q214), (215, ax_q215), (216, ax_q216), (217, ax_q217), (218, ax_q218), (219, ax_q219), (220, ax_q220), (221, ax_q221), (222, ax_q222), (223, ax_q223)]), (239, [(224, ax_q224), (225, ax_q225), (226, ax_q226), (227, ax_q227), (228, ax_q228), (229, ax_q229), (230, ax_q230), (231, ax_q231), (232, ax_q232), (233, ax_q233), (234, ax_q234), (235, ax_q235), (236, ax_q236), (237, ax_q237), (238, ax_q238), (239, ax_q239)]), (255, [(240, ax_q240), (241, ax_q241), (242, ax_q242), (243, ax_q243), (244, ax_q244), (245, ax_q245), (246, ax_q246), (247, ax_q247), (248, ax_q248), (249, ax_q249), (250, ax_q250), (251, ax_q251), (252, ax_q252), (253, ax_q253), (254, ax_q254), (255, ax_q255)]), (258, [(256, ax_q256), (257, ax_q257), (258, ax_q258)])]
noncomputable def ax_mm (i : Nat) : ax_M := (ax_f2 ax_mt i).getD ax_q0
def ax_tt : List (Nat × List (Nat × List (Nat × List (Nat × ax_E2)))) := [(15, [(0, ax_t0), (1, ax_t1), (2, ax_t2), (3, ax_t3), (4, ax_t4), (5, ax_t5), (6, ax_t6), (7, ax_t7), (8, ax_t8), (9, ax_t9), (10, ax_t10), (11, ax_t11), (12, ax_t12), (13, ax_t13), (14, ax_t14), (15, ax_t15)]), (31, [(16, ax_t16), (17, ax_t17), (18, ax_t18), (19, ax_t19), (20, ax_t20), (21, ax_t21), (22, ax_t22), (23, ax_t23), (24, ax_t24), (25, ax_t25), (26, ax_t26), (27, ax_t27), (28, ax_t28), (29, ax_t29), (30, ax_t30), (31, ax_t31)]), (47, [(32, ax_t32), (33, ax_t33), (34, ax_t34), (35, ax_t35), (36, ax_t36), (37, ax_t37), (38, ax_t38), (39, ax_t39), (40, ax_t40), (41, ax_t41), (42, ax_t42), (43, ax_t43), (44, ax_t44), (45, ax_t45), (46, ax_t46), (47, ax_t47)]), (63, [(48, ax_t48), (49, ax_t49), (50, ax_t50), (51, ax_t51), (52, ax_t52), (53, ax_t53), (54, ax_t54), (55, ax_t55), (56, ax_t56), (57, ax_t57), (58, ax_t58), (59, ax_t59), (60, ax_t60), (61, ax_t61), (62, ax_t62), (63, ax_t63)]), (79, [(64, ax_t64), (65, ax_t65), (66, ax_t66), (67, ax_t67), (68, ax_t68), (69, ax_t69), (70, ax_t70), (71, ax_t71), (72, ax_t72), (73, ax_t73), (74, ax_t74), (75, ax_t75), (76, ax_t76), (77, ax_t77), (78, ax_t78), (79, ax_t79)]), (95, [(80, ax_t80), (81, ax_t81), (82, ax_t82), (83, ax_t83), (84, ax_t84), (85, ax_t85), (86, ax_t86), (87, ax_t87), (88, ax_t88), (89, ax_t89), (90, ax_t90), (91, ax_t91), (92, ax_t92), (93, ax_t93), (94, ax_t94), (95, ax_t95)]), (111, [(96, ax_t96), (97, ax_t97), (98, ax_t98), (99, ax_t99), (100, ax_t100), (101, ax_t101), (102, ax_t102), (103, ax_t103), (104, ax_t104), (105, ax_t105), (106, ax_t106), (107, ax_t107), (108, ax_t108), (109, ax_t109), (110, ax_t110), (111, ax_t111)]), (127, [(112, ax_t112), (113, ax_t113), (114, ax_t114), (115, ax_t115), (116, ax_t116), (117, ax_t117), (118, ax_t118), (119, ax_t119), (120, ax_t120), (121, ax_t121), (122, ax_t122), (123, ax_t123), (124, ax_t124), (125, ax_t125), (126, ax_t126), (127, ax_t127)]), (143, [(128, ax_t128), (129, ax_t129), (130, ax_t130), (131, ax_t131), (132, ax_t132), (133, ax_t133), (134, ax_t134), (135, ax_t135), (136, ax_t136), (137, ax_t137), (138, ax_t138), (139, ax_t139), (140, ax_t140), (141, ax_t141), (142, ax_t142), (143, ax_t143)]), (159, [(144, ax_t144), (145, ax_t145), (146, ax_t146), (147, ax_t147), (148, ax_t148), (149, ax_t149), (150, ax_t150), (151, ax_t151), (152, ax_t152), (153, ax_t153), (154, ax_t154), (155, ax_t155), (156, ax_t156), (157, ax_t157), (158, ax_t158), (159, ax_t159)]), (175, [(160, ax_t160), (161, ax_t161), (162, ax_t162), (163, ax_t163), (164, ax_t164), (165, ax_t165), (166, ax_t166), (167, ax_t167), (168, ax_t168), (169, ax_t169), (170, ax_t170), (171, ax_t171), (172, ax_t172), (173, ax_t173), (174, ax_t174), (175, ax_t175)]), (191, [(176, ax_t176), (177, ax_t177), (178, ax_t178), (179, ax_t179), (180, ax_t180), (181, ax_t181), (182, ax_t182), (183, ax_t183), (184, ax_t184), (185, ax_t185), (186, ax_t186), (187, ax_t187), (188, ax_t188), (189, ax_t189), (190, ax_t190), (191, ax_t191)]), (207, [(192, ax_t192), (193, ax_t193), (194, ax_t194), (195, ax_t195), (196, ax_t196), (197, ax_t197), (198, ax_t198), (199, ax_t199), (200, ax_t200), (201, ax_t201), (202, ax_t202), (203, ax_t203), (204, ax_t204), (205, ax_t205), (206, ax_t206), (207, ax_t207)]), (223, [(208, ax_t208), (209, ax_t209), (210, ax_t210), (211, ax_t211), (212, ax_t212), (213, ax_t213), (214, ax_t214), (215, ax_t215), (216, ax_t216), (217, ax_t217), (218, ax_t218), (219, ax_t219), (220, ax_t220), (221, ax_t221), (222, ax_t222), (223, ax_t223)]), (239, [(224, ax_t224), (225, ax_t225), (226, ax_t226), (227, ax_t227), (228, ax_t228), (229, ax_t229), (230, ax_t230), (231, ax_t231), (232, ax_t232), (233, ax_t233), (234, ax_t234), (235, ax_t235), (236, ax_t236), (237, ax_t237), (238, ax_t238), (239, ax_t239)]), (255, [(240, ax_t240), (241, ax_t241), (242, ax_t242), (243, ax_t243), (244, ax_t244), (245, ax_t245), (246, ax_t246), (247, ax_t247), (248, ax_t248), (249, ax_t249), (250, ax_t250), (251, ax_t251), (252, ax_t252), (253, ax_t253), (254, ax_t254), (255, ax_t255)]), (258, [(256, ax_t256), (257, ax_t257), (258, ax_t258)])]
noncomputable def ax_look (i pc : Nat) : Option ax_E2 := @Option.rec (List (Nat × List (Nat × ax_E2))) (fun _ => Option ax_E2) none (fun t => ax_f2 t pc) (ax_f2 ax_tt i)
def ax_nw : List Cond := [.methodLinkNest "PseudoBoolean" 9 yX7_init "PseudoBoolean", .arrayOver (.object "PseudoBoolean$Constraint"), .methodLinkNest "PseudoBoolean" 47 yX2_init "PseudoBoolean", .methodLinkNest "PseudoBoolean" 52 yX1_init "PseudoBoolean", .methodLinkNest "PseudoBoolean" 59 yX4_init "PseudoBoolean", .methodLinkNest "PseudoBoolean" 66 yX3_init "PseudoBoolean", .arrayOver (.object "PseudoBoolean$ModelSet"), .arrayOver (.object "PseudoBoolean$LiteralList"), .castable "java/lang/IllegalStateException" "java/lang/IllegalStateException", .declares ⟨"java/lang/RuntimeException", "<init>", "()V"⟩, .declares ⟨"java/lang/RuntimeException", "<init>", "(Ljava/lang/String;)V"⟩, .declares ⟨"java/lang/Exception", "<init>", "()V"⟩, .declares ⟨"java/lang/Exception", "<init>", "(Ljava/lang/String;)V"⟩, .declares ⟨"java/lang/Throwable", "<init>", "()V"⟩, .declares ⟨"java/lang/Throwable", "<init>", "(Ljava/lang/String;)V"⟩, .castable "java/lang/IllegalArgumentException" "java/lang/IllegalArgumentException", .declares ⟨"java/lang/IndexOutOfBoundsException", "<init>", "()V"⟩, .declares ⟨"java/lang/IndexOutOfBoundsException", "<init>", "(Ljava/lang/String;)V"⟩, .castable "java/lang/IndexOutOfBoundsException" "java/lang/IndexOutOfBoundsException", .castable "java/lang/ArithmeticException" "java/lang/ArithmeticException", .castable "java/util/NoSuchElementException" "java/util/NoSuchElementException"]
def ax_strs : List (String × Nat × String) := [("PseudoBoolean$Constraint", 61, " + "), ("PseudoBoolean$Constraint", 76, " >= "), ("PseudoBoolean", 110, "the text buffer is full"), ("PseudoBoolean", 121, "the text buffer does not have so many bytes"), ("PseudoBoolean", 172, "no such byte of the output"), ("PseudoBoolean", 208, "the factor is not 1 to 1000"), ("PseudoBoolean", 210, "the divisor is less than 1"), ("PseudoBoolean", 226, "the constraint has no literal of the variable"), ("PseudoBoolean", 235, "there are no opposite literals of the variable"), ("PseudoBoolean", 270, "no group is kept"), ("PseudoBoolean", 280, "the literal cannot be decided"), ("PseudoBoolean", 294, "there are no decisions"), ("PseudoBoolean", 316, "the mask is not 0 to 4095"), ("PseudoBoolean", 324, "the cost is not -1000 to 1000"), ("PseudoBoolean", 333, "these are not two masks without a common variable"), ("PseudoBoolean", 335, "there is a model"), ("PseudoBoolean", 337, "there are 8 levels"), ("PseudoBoolean", 346, "there is no level"), ("PseudoBoolean", 356, "no such constraint"), ("PseudoBoolean", 358, "no such literal"), ("PseudoBoolean", 360, "no such variable"), ("PseudoBoolean", 362, "no such index"), ("PseudoBoolean", 364, "there would be more than 60 constraints"), ("PseudoBoolean", 369, "the text is not a constraint"), ("PseudoBoolean", 379, "a coefficient or the degree would be greater than 10^9"), ("PseudoBoolean", 415, "there is no model")]
abbrev ax_ns : ax_NS := (ax_nw, ax_strs)
def ax_mwt : List (Nat × List (Nat × (Nat × Nat × Bool × Nat))) := [(15, [(0, (1197, 1012, false, 1196)), (1, (3115, 1012, false, 3113)), (2, (3136, 1012, false, 3134)), (3, (3131, 1012, false, 3129)), (4, (3119, 1012, false, 3117)), (5, (6049, 1012, false, 6047)), (6, (1148, 1009, false, 1147)), (7, (3091, 1009, false, 3089)), (8, (5047, 1009, false, 5045)), (9, (5176, 1009, false, 5174)), (10, (5172, 1009, false, 5170)), (11, (3127, 1009, false, 3125)), (12, (5217, 1009, false, 5215)), (13, (3123, 1009, false, 3121)), (14, (5084, 1009, false, 5082)), (15, (5088, 1009, false, 5087))]), (31, [(16, (4227, 1009, false, 4225)), (17, (4233, 1009, false, 4232)), (18, (2115, 1009, false, 2113)), (19, (1131, 1008, false, 1130)), (20, (3068, 1008, false, 3066)), (21, (3073, 1008, false, 3071)), (22, (5114, 1008, false, 5112)), (23, (5146, 1008, false, 5144)), (24, (5157, 1008, false, 5155)), (25, (5181, 1008, false, 5179)), (26, (3081, 1008, false, 3079)), (27, (5122, 1008, false, 5120)), (28, (1182, 1011, false, 1181)), (29, (5236, 1011, false, 5234)), (30, (6045, 1011, false, 6043)), (31, (6155, 1011, false, 6153))]), (47, [(32, (5232, 1011, false, 5230)), (33, (2074, 1011, false, 2072)), (34, (1169, 1010, false, 1168)), (35, (6118, 1010, false, 6116)), (36, (3107, 1010, false, 3105)), (37, (3095, 1010, false, 3093)), (38, (6110, 1010, false, 6108)), (39, (3099, 1010, false, 3098)), (40, (1218, 1014, false, 1217)), (41, (6160, 1014, false, 6158)), (42, (3103, 1014, false, 3101)), (43, (3160, 1014, false, 3158)), (44, (2082, 1014, false, 2080)), (45, (2105, 1014, false, 2103)), (46, (6114, 1014, false, 6112)), (47, (2089, 1014, false, 2088))]), (63, [(48, (1061, 1003, false, 1060)), (49, (3047, 1003, false, 3045)), (50, (3056, 1003, false, 3054)), (51, (3141, 1003, false, 3139)), (52, (3060, 1003, false, 3058)), (53, (3145, 1003, false, 3143)), (54, (3064, 1003, false, 3063)), (55, (2234, 1003, false, 2232)), (56, (3022, 1003, false, 3021)), (57, (3030, 1003, false, 3029)), (58, (3034, 1003, false, 3033)), (59, (3038, 1003, false, 3037)), (60, (3026, 1003, false, 3025)), (61, (2239, 1003, false, 2238)), (62, (3010, 1003, false, 3009)), (63, (3018, 1003, false, 3017))]), (79, [(64, (3014, 1003, false, 3013)), (65, (3006, 1003, true, 3005)), (66, (1046, 1002, false, 1045)), (67, (2199, 1002, false, 2197)), (68, (3003, 1002, false, 3001)), (69, (1038, 1001, false, 1037)), (70, (2124, 1001, false, 2122)), (71, (2207, 1001, false, 2205)), (72, (2230, 1001, false, 2228)), (73, (3152, 1001, false, 3150)), (74, (2046, 1001, false, 2044)), (75, (3191, 1001, false, 3189)), (76, (5025, 1001, false, 5023)), (77, (2050, 1001, false, 2048)), (78, (5043, 1001, false, 5041)), (79, (5054, 1001, false, 5052))]), (95, [(80, (5061, 1001, false, 5059)), (81, (5072, 1001, false, 5070)), (82, (5080, 1001, false, 5078)), (83, (5109, 1001, false, 5107)), (84, (5133, 1001, false, 5131)), (85, (5141, 1001, false, 5139)), (86, (5153, 1001, false, 5151)), (87, (5164, 1001, false, 5162)), (88, (5188, 1001, false, 5186)), (89, (5201, 1001, false, 5199)), (90, (5209, 1001, false, 5207)), (91, (5224, 1001, false, 5222)), (92, (6003, 1001, false, 6001)), (93, (6015, 1001, false, 6013)), (94, (6038, 1001, false, 6036)), (95, (6057, 1001, false, 6055))]), (111, [(96, (2054, 1001, false, 2052)), (97, (2058, 1001, false, 2056)), (98, (6065, 1001, false, 6063)), (99, (2062, 1001, false, 2060)), (100, (6072, 1001, false, 6070)), (101, (2101, 1001, false, 2099)), (102, (6083, 1001, false, 6081)), (103, (6094, 1001, false, 6092)), (104, (6102, 1001, false, 6100)), (105, (6127, 1001, false, 6125)), (106, (6134, 1001, false, 6132)), (107, (6143, 1001, false, 6141)), (108, (6150, 1001, false, 6148)), (109, (6168, 1001, false, 6166)), (110, (2109, 1001, false, 2107)), (111, (3195, 1001, false, 3194))]), (127, [(112, (5064, 1001, true, 5063)), (113, (5167, 1001, true, 5166)), (114, (6006, 1001, true, 6005)), (115, (3051, 1001, false, 3050)), (116, (6075, 1001, true, 6074)), (117, (3042, 1001, false, 3041)), (118, (5118, 1001, false, 5117)), (119, (3077, 1001, false, 3076)), (120, (3156, 1001, false, 3155)), (121, (3111, 1001, false, 3110)), (122, (2066, 1001, false, 2065)), (123, (2070, 1001, false, 2069)), (124, (2078, 1001, false, 2077)), (125, (6087, 1001, false, 6086)), (126, (6106, 1001, false, 6105)), (127, (5213, 1001, false, 5212))]), (143, [(128, (5228, 1001, false, 5227)), (129, (5193, 1001, true, 5192)), (130, (6174, 1015, false, 6173)), (131, (7037, 1015, false, 7035)), (132, (7045, 1015, false, 7044)), (133, (7163, 1015, false, 7162)), (134, (8010, 1015, true, 8009)), (135, (7199, 1015, true, 7198)), (136, (7124, 1015, false, 7123)), (137, (7098, 1015, false, 7097)), (138, (7102, 1015, false, 7101)), (139, (7219, 1015, false, 7218)), (140, (7106, 1015, false, 7105)), (141, (7227, 1015, false, 7226)), (142, (7112, 1015, false, 7111)), (143, (7041, 1015, false, 7039))]), (159, [(144, (7049, 1015, false, 7047)), (145, (7065, 1015, false, 7064)), (146, (7068, 1015, true, 7067)), (147, (7061, 1015, false, 7060)), (148, (7080, 1015, false, 7079)), (149, (7086, 1015, false, 7085)), (150, (7076, 1015, false, 7075)), (151, (7072, 1015, false, 7071)), (152, (7057, 1015, false, 7056)), (153, (7094, 1015, false, 7093)), (154, (7090, 1015, false, 7089)), (155, (7132, 1015, false, 7131)), (156, (7053, 1015, false, 7051)), (157, (7151, 1015, false, 7150)), (158, (7140, 1015, false, 7139)), (159, (7136, 1015, false, 7134))]), (175, [(160, (7155, 1015, false, 7153)), (161, (7167, 1015, false, 7166)), (162, (7171, 1015, false, 7170)), (163, (7159, 1015, false, 7157)), (164, (7176, 1015, false, 7174)), (165, (7180, 1015, false, 7178)), (166, (7188, 1015, false, 7187)), (167, (7184, 1015, false, 7182)), (168, (7192, 1015, false, 7190)), (169, (7196, 1015, false, 7194)), (170, (7120, 1015, false, 7119)), (171, (7203, 1015, false, 7201)), (172, (7211, 1015, false, 7210)), (173, (7207, 1015, false, 7205)), (174, (7223, 1015, false, 7222)), (175, (7215, 1015, false, 7213))]), (191, [(176, (7232, 1015, false, 7230)), (177, (7239, 1015, true, 7238)), (178, (7236, 1015, false, 7234)), (179, (8003, 1015, false, 8001)), (180, (8007, 1015, false, 8005)), (181, (8017, 1015, true, 8016)), (182, (8014, 1015, false, 8012)), (183, (8021, 1015, false, 8019)), (184, (8029, 1015, false, 8028)), (185, (8025, 1015, false, 8023)), (186, (8033, 1015, false, 8031)), (187, (8036, 1015, true, 8035)), (188, (8043, 1015, true, 8042)), (189, (8040, 1015, false, 8038)), (190, (8047, 1015, false, 8045)), (191, (7116, 1015, false, 7115))]), (207, [(192, (7128, 1015, false, 7127)), (193, (8055, 1015, false, 8054)), (194, (8051, 1015, false, 8049)), (195, (8059, 1015, false, 8057)), (196, (8063, 1015, false, 8061)), (197, (8067, 1015, false, 8065)), (198, (8071, 1015, false, 8069)), (199, (7147, 1015, true, 7146)), (200, (7144, 1015, false, 7143)), (201, (8083, 1015, false, 8082)), (202, (8079, 1015, false, 8078)), (203, (8075, 1015, false, 8073)), (204, (8090, 1015, true, 8089)), (205, (8087, 1015, false, 8085)), (206, (8094, 1015, false, 8092)), (207, (8098, 1015, false, 8096))]), (223, [(208, (8102, 1015, false, 8100)), (209, (8114, 1015, false, 8113)), (210, (8110, 1015, false, 8109)), (211, (8106, 1015, false, 8104)), (212, (8118, 1015, false, 8116)), (213, (8126, 1015, false, 8125)), (214, (8122, 1015, false, 8120)), (215, (8130, 1015, false, 8128)), (216, (8134, 1015, false, 8132)), (217, (8138, 1015, false, 8136)), (218, (8142, 1015, false, 8140)), (219, (2119, 1000, true, 2118)), (220, (2202, 1000, true, 2201)), (221, (2226, 1000, true, 2225)), (222, (3148, 1000, true, 3147)), (223, (3163, 1000, true, 3162))]), (239, [(224, (5021, 1000, true, 5020)), (225, (5039, 1000, true, 5038)), (226, (5050, 1000, true, 5049)), (227, (5057, 1000, true, 5056)), (228, (5068, 1000, true, 5067)), (229, (5076, 1000, true, 5075)), (230, (5091, 1000, true, 5090)), (231, (5129, 1000, true, 5128)), (232, (5137, 1000, true, 5136)), (233, (5149, 1000, true, 5148)), (234, (5160, 1000, true, 5159)), (235, (5184, 1000, true, 5183)), (236, (5197, 1000, true, 5196)), (237, (5205, 1000, true, 5204)), (238, (5220, 1000, true, 5219)), (239, (5239, 1000, true, 5238))]), (255, [(240, (6010, 1000, true, 6009)), (241, (6034, 1000, true, 6033)), (242, (6053, 1000, true, 6052)), (243, (6061, 1000, true, 6060)), (244, (6068, 1000, true, 6067)), (245, (6079, 1000, true, 6078)), (246, (6090, 1000, true, 6089)), (247, (6098, 1000, true, 6097)), (248, (6123, 1000, true, 6122)), (249, (6130, 1000, true, 6129)), (250, (6139, 1000, true, 6138)), (251, (6146, 1000, true, 6145)), (252, (6164, 1000, true, 6163)), (253, (1201, 1013, true, 1200)), (254, (1223, 1013, true, 1222)), (255, (2094, 1033, true, 2093))]), (257, [(256, (1096, 1005, false, 1095)), (257, (1099, 1004, false, 1098))])]
def ax_nwi : List Nat := [110, 192, 195, 212, 233, 246, 279, 280, 433, 434, 435, 436, 437, 438, 439, 516, 726, 727, 744, 1130, 1284]
end
section
/-! THE LINKED CODE IS SO -/
def ax_chunk : Nat → List Cond
  | 0 => k2_sels lw_privs
  | 1 => tables_1_1
  | 2 => tables_1_2
  | 3 => tables_1_3
  | 4 => tables_1_4
  | 5 => tables_1_5
  | 6 => tables_1_6
  | 7 => tables_1_7
  | 8 => tables_1_8
  | _ => []
theorem ax_chunk_in {c : Nat} {w : Cond} (h : w ∈ ax_chunk c) : w ∈ lw_tbl := by
  unfold lw_tbl
  match c, h with
  | 0, h => exact List.mem_append_left _ h
  | 1, h => exact List.mem_append_right _ (by unfold tables_1; exact List.mem_append_left _ h)
  | 2, h => exact List.mem_append_right _ (by unfold tables_1; exact List.mem_append_right _ (List.mem_append_left _ h))
  | 3, h => exact List.mem_append_right _ (by unfold tables_1; exact List.mem_append_right _ (List.mem_append_right _ (List.mem_append_left _ h)))
  | 4, h => exact List.mem_append_right _ (by unfold tables_1; exact List.mem_append_right _ (List.mem_append_right _ (List.mem_append_right _ (List.mem_append_left _ h))))
  | 5, h => exact List.mem_append_right _ (by unfold tables_1; exact List.mem_append_right _ (List.mem_append_right _ (List.mem_append_right _ (List.mem_append_right _ (List.mem_append_left _ h)))))
  | 6, h => exact List.mem_append_right _ (by unfold tables_1; exact List.mem_append_right _ (List.mem_append_right _ (List.mem_append_right _ (List.mem_append_right _ (List.mem_append_right _ (List.mem_append_left _ h))))))
  | 7, h => exact List.mem_append_right _ (by unfold tables_1; exact List.mem_append_right _ (List.mem_append_right _ (List.mem_append_right _ (List.mem_append_right _ (List.mem_append_right _ (List.mem_append_right _ (List.mem_append_left _ h)))))))
  | 8, h => exact List.mem_append_right _ (by unfold tables_1; exact List.mem_append_right _ (List.mem_append_right _ (List.mem_append_right _ (List.mem_append_right _ (List.mem_append_right _ (List.mem_append_right _ (List.mem_append_right _ (h))))))))
  | c + 9, h => cases h
def ax_wk (ix : Nat) (w : Cond) : Bool := decide ((ax_chunk (ix / 1000))[ix % 1000]? = some w) && goodWord w
theorem ax_wk_mem {ix : Nat} {w : Cond} (h : ax_wk ix w = true) : w ∈ ax_tb := by
  simp only [ax_wk, Bool.and_eq_true, decide_eq_true_eq] at h
  exact List.mem_filter.mpr ⟨ax_chunk_in (List.mem_of_getElem? h.1), h.2⟩
def ax_fl (own : String) (ix : Nat) (q : ax_Cl) (j : Nat) : Cond := .fieldLink own ix (q.2.1 j).1 (q.2.1 j).2.1 (q.2.1 j).2.2.1
def ax_pl (y : MethodName) (n : Nat) : Bool := decide ((parseMethodDescriptor y.desc).map (fun d => d.parameters.length) = some n)
def ax_len : Instr → Nat
  | .tableswitch _ _ _ o => 16 + 4 * o.size
  | .bipush _ => 2
  | .iload _ => 2
  | .lload _ => 2
  | .aload _ => 2
  | .istore _ => 2
  | .lstore _ => 2
  | .astore _ => 2
  | .ldc _ => 2
  | .newarray _ => 2
  | .sipush _ => 3
  | .iinc _ _ => 3
  | .ifCond _ _ => 3
  | .if_icmp _ _ => 3
  | .goto _ => 3
  | .getfield _ => 3
  | .putfield _ => 3
  | .getstatic _ => 3
  | .new _ => 3
  | .anewarray _ => 3
  | .ldc_w _ => 3
  | .ldc2_w _ => 3
  | .invokestatic _ => 3
  | .invokevirtual _ => 3
  | .invokespecial _ => 3
  | _ => 1
noncomputable def ax_okx (k : ax_M) (ins : Instr) (a b c : Nat) (v : Value) (ws : List Nat) : Bool := match ins with
    | .getfield ix => match ax_cls[a]?, ws with
      | some q, [w] => Nat.blt b q.2.2.1 && ax_wk w (ax_fl k.1.cls ix q b)
      | _, _ => false
    | .putfield ix => match ax_cls[a]?, ws with
      | some q, [w] => Nat.blt b q.2.2.1 && ax_wk w (ax_fl k.1.cls ix q b) && (!(q.2.1 b).2.2.2 || (decide (k.1.name = "<init>") && decide ((q.2.1 b).1 = k.1.cls)))
      | _, _ => false
    | .getstatic ix => match ax_stat[a]?, ws with
      | some q, [w] => ax_wk w (.fieldLink k.1.cls ix q.1 q.2.1 q.2.2.1)
      | _, _ => false
    | .new ix => Nat.ble 800 a || match ax_cls[a]?, ws with
      | some q, [w1, w2, w3] => ax_wk w1 (.classLink k.1.cls ix q.1) && ax_wk w2 (.instantiable q.1 q.2.2.1) && ax_wk w3 (.initialized q.1)
      | _, _ => false
    | .newarray at_ => match ax_tys[a]?, ws with
      | some ty, [w] => decide (newarray.typeOf at_ = ty) && ax_wk w (.arrayClass ty) && decide (ty ≠ .float) && decide (ty ≠ .double)
      | _, _ => false
    | .anewarray ix => match ax_tys[a]?, ws with
      | some (.object C), [w1] => ax_wk w1 (.classLink k.1.cls ix C) && decide (Cond.arrayOver (.object C) ∈ ax_nw)
      | _, _ => false
    | .ldc2_w ix => match v, ws with
      | .long x, [w] => ax_wk w (.constantLong k.1.cls ix x)
      | _, _ => false
    | .ldc ix => match v, ws with
      | .int x, [w] => ax_wk w (.constant k.1.cls ix x)
      | _, _ => false
    | .invokestatic ix => match ws with
      | [w] => (match a with
        | 700 => ax_wk w (.methodLink k.1.cls ix Lib.MathLoose.min_long.x)
        | 701 => ax_wk w (.methodLink k.1.cls ix Lib.MathLoose.max_long.x)
        | 702 => ax_wk w (.methodLink k.1.cls ix Lib.Math.max.name)
        | _ => ax_wk w (.methodLink k.1.cls ix (ax_mm a).1) && ax_pl (ax_mm a).1 b)
      | _ => false
    | .invokevirtual ix => match ax_cls[c]?, ws with
      | some q, [w1, w2] => ax_wk w1 (.methodLink k.1.cls ix (ax_mm a).1) && ax_pl (ax_mm a).1 b && ax_wk w2 (.selects q.1 (ax_mm a).1 (ax_mm a).1)
      | _, _ => false
    | .invokespecial ix => match c, ws with
      | 2, [w] => ax_wk w (.methodLink k.1.cls ix Lib.objectInit)
      | 1, [] => ax_pl (ax_mm a).1 b && decide (Cond.methodLinkNest k.1.cls ix (ax_mm a).1 "PseudoBoolean" ∈ ax_nw)
      | 0, [w] => ax_wk w (.methodLink k.1.cls ix (ax_mm a).1) && ax_pl (ax_mm a).1 b
      | _, _ => false
    | _ => true
noncomputable def ax_okb (k : ax_M) (pc : Nat) (e : ax_E2) : Bool := decide (decode k.2.1 pc = .ok (e.1, ax_len e.1)) && (Nat.beq e.2.1.1 900 || ax_okx k e.1 e.2.1.1 e.2.1.2.1 e.2.1.2.2 e.2.2.1 e.2.2.2)
theorem ax_ok0 : Cond.instanceMethod Lib.objectInit ∈ ax_tb ∧ Cond.code Lib.objectInit ⟨#[0xb1]⟩ 1 none ∈ ax_tb := ⟨ax_mem 106 (by decide +kernel) (by decide +kernel), ax_mem 107 (by decide +kernel) (by decide +kernel)⟩
/-- of a method: its code, its class, its kind -/
def ax_mkb (y : ax_M) (w : Nat × Nat × Bool × Nat) : Bool := ax_wk w.1 (ax_hd y) && ax_wk w.2.1 (.initialized y.1.cls) && (if w.2.2.1 then ax_wk w.2.2.2 (.static y.1) else ax_wk w.2.2.2 (.instanceMethod y.1)) && decide (y.1.cls ≠ "java/lang/invoke/MethodHandle") && decide (y.1.cls ≠ "java/lang/invoke/VarHandle") && Nat.ble y.2.2.1 21 && plainName y.1.cls
theorem ax_math : Cond.initialized "java/lang/Math" ∈ ax_tb ∧ Cond.static Lib.MathLoose.min_long.x ∈ ax_tb ∧ Cond.static Lib.MathLoose.max_long.x ∈ ax_tb ∧ Cond.static Lib.Math.max.name ∈ ax_tb := ⟨ax_wk_mem (ix := 1021) (by decide +kernel), ax_wk_mem (ix := 3083) (by decide +kernel), ax_wk_mem (ix := 3086) (by decide +kernel), ax_wk_mem (ix := 2084) (by decide +kernel)⟩
theorem ax_mathc : Cond.code Lib.MathLoose.min_long.x Lib.MathLoose.min_long.code 4 (some .long) ∈ ax_tb ∧ Cond.code Lib.MathLoose.max_long.x Lib.MathLoose.max_long.code 4 (some .long) ∈ ax_tb ∧ Cond.code Lib.Math.max.name Lib.Math.max.code 2 (some .int) ∈ ax_tb := ⟨ax_wk_mem (ix := 3084) (by decide +kernel), ax_wk_mem (ix := 3087) (by decide +kernel), ax_wk_mem (ix := 2085) (by decide +kernel)⟩
end
section
/-! the rows of the linked code, 1 of 4 -/
set_option maxRecDepth 100000 in
theorem ax_e0 : ax_All (fun pc e => ax_okb ax_q0 pc e = true) ax_t0 := ax_All.of (by decide +kernel)
set_option maxRecDepth 100000 in
theorem ax_e1 : ax_All (fun pc e => ax_okb ax_q1 pc e = true) ax_t1 := ax_All.of (by decide +kernel)
set_option maxRecDepth 100000 in
theorem ax_e2 : ax_All (fun pc e => ax_okb ax_q2 pc e = true) ax_t2 := ax_All.of (by decide +kernel)
set_option maxRecDepth 100000 in
theorem ax_e3 : ax_All (fun pc e => ax_okb ax_q3 pc e = true) ax_t3 := ax_All.of (by decide +kernel)
set_option maxRecDepth 100000 in
theorem ax_e4 : ax_All (fun pc e => ax_okb ax_q4 pc e = true) ax_t4 := ax_All.of (by decide +kernel)
set_option maxRecDepth 100000 in
theorem ax_e5 : ax_All (fun pc e => ax_okb ax_q5 pc e = true) ax_t5 := ax_All.of (by decide +kernel)
set_option maxRecDepth 100000 in
theorem ax_e6 : ax_All (fun pc e => ax_okb ax_q6 pc e = true) ax_t6 := ax_All.of (by decide +kernel)
set_option maxRecDepth 100000 in
theorem ax_e7 : ax_All (fun pc e => ax_okb ax_q7 pc e = true) ax_t7 := ax_All.of (by decide +kernel)
set_option maxRecDepth 100000 in
theorem ax_e8 : ax_All (fun pc e => ax_okb ax_q8 pc e = true) ax_t8 := ax_All.of (by decide +kernel)
set_option maxRecDepth 100000 in
theorem ax_e9 : ax_All (fun pc e => ax_okb ax_q9 pc e = true) ax_t9 := ax_All.of (by decide +kernel)
set_option maxRecDepth 100000 in
theorem ax_e10 : ax_All (fun pc e => ax_okb ax_q10 pc e = true) ax_t10 := ax_All.of (by decide +kernel)
set_option maxRecDepth 100000 in
theorem ax_e11 : ax_All (fun pc e => ax_okb ax_q11 pc e = true) ax_t11 := ax_All.of (by decide +kernel)
set_option maxRecDepth 100000 in
theorem ax_e12 : ax_All (fun pc e => ax_okb ax_q12 pc e = true) ax_t12 := ax_All.of (by decide +kernel)
set_option maxRecDepth 100000 in
theorem ax_e13 : ax_All (fun pc e => ax_okb ax_q13 pc e = true) ax_t13 := ax_All.of (by decide +kernel)
set_option maxRecDepth 100000 in
theorem ax_e14 : ax_All (fun pc e => ax_okb ax_q14 pc e = true) ax_t14 := ax_All.of (by decide +kernel)
set_option maxRecDepth 100000 in
theorem ax_e15 : ax_All (fun pc e => ax_okb ax_q15 pc e = true) ax_t15 := ax_All.of (by decide +kernel)
set_option maxRecDepth 100000 in
theorem ax_e16 : ax_All (fun pc e => ax_okb ax_q16 pc e = true) ax_t16 := ax_All.of (by decide +kernel)
set_option maxRecDepth 100000 in
theorem ax_e17 : ax_All (fun pc e => ax_okb ax_q17 pc e = true) ax_t17 := ax_All.of (by decide +kernel)
set_option maxRecDepth 100000 in
theorem ax_e18 : ax_All (fun pc e => ax_okb ax_q18 pc e = true) ax_t18 := ax_All.of (by decide +kernel)
set_option maxRecDepth 100000 in
theorem ax_e19 : ax_All (fun pc e => ax_okb ax_q19 pc e = true) ax_t19 := ax_All.of (by decide +kernel)
set_option maxRecDepth 100000 in
theorem ax_e20 : ax_All (fun pc e => ax_okb ax_q20 pc e = true) ax_t20 := ax_All.of (by decide +kernel)
set_option maxRecDepth 100000 in
theorem ax_e21 : ax_All (fun pc e => ax_okb ax_q21 pc e = true) ax_t21 := ax_All.of (by decide +kernel)
set_option maxRecDepth 100000 in
theorem ax_e22 : ax_All (fun pc e => ax_okb ax_q22 pc e = true) ax_t22 := ax_All.of (by decide +kernel)
set_option maxRecDepth 100000 in
theorem ax_e23 : ax_All (fun pc e => ax_okb ax_q23 pc e = true) ax_t23 := ax_All.of (by decide +kernel)
set_option maxRecDepth 100000 in
theorem ax_e24 : ax_All (fun pc e => ax_okb ax_q24 pc e = true) ax_t24 := ax_All.of (by decide +kernel)
set_option maxRecDepth 100000 in
theorem ax_e25 : ax_All (fun pc e => ax_okb ax_q25 pc e = true) ax_t25 := ax_All.of (by decide +kernel)
set_option maxRecDepth 100000 in
theorem ax_e26 : ax_All (fun pc e => ax_okb ax_q26 pc e = true) ax_t26 := ax_All.of (by decide +kernel)
set_option maxRecDepth 100000 in
theorem ax_e27 : ax_All (fun pc e => ax_okb ax_q27 pc e = true) ax_t27 := ax_All.of (by decide +kernel)
set_option maxRecDepth 100000 in
theorem ax_e28 : ax_All (fun pc e => ax_okb ax_q28 pc e = true) ax_t28 := ax_All.of (by decide +kernel)
set_option maxRecDepth 100000 in
theorem ax_e29 : ax_All (fun pc e => ax_okb ax_q29 pc e = true) ax_t29 := ax_All.of (by decide +kernel)
set_option maxRecDepth 100000 in
theorem ax_e30 : ax_All (fun pc e => ax_okb ax_q30 pc e = true) ax_t30 := ax_All.of (by decide +kernel)
set_option maxRecDepth 100000 in
theorem ax_e31 : ax_All (fun pc e => ax_okb ax_q31 pc e = true) ax_t31 := ax_All.of (by decide +kernel)
set_option maxRecDepth 100000 in
theorem ax_e32 : ax_All (fun pc e => ax_okb ax_q32 pc e = true) ax_t32 := ax_All.of (by decide +kernel)
set_option maxRecDepth 100000 in
theorem ax_e33 : ax_All (fun pc e => ax_okb ax_q33 pc e = true) ax_t33 := ax_All.of (by decide +kernel)
set_option maxRecDepth 100000 in
theorem ax_e34 : ax_All (fun pc e => ax_okb ax_q34 pc e = true) ax_t34 := ax_All.of (by decide +kernel)
set_option maxRecDepth 100000 in
theorem ax_e35 : ax_All (fun pc e => ax_okb ax_q35 pc e = true) ax_t35 := ax_All.of (by decide +kernel)
set_option maxRecDepth 100000 in
theorem ax_e36 : ax_All (fun pc e => ax_okb ax_q36 pc e = true) ax_t36 := ax_All.of (by decide +kernel)
set_option maxRecDepth 100000 in
theorem ax_e37 : ax_All (fun pc e => ax_okb ax_q37 pc e = true) ax_t37 := ax_All.of (by decide +kernel)
set_option maxRecDepth 100000 in
theorem ax_e38 : ax_All (fun pc e => ax_okb ax_q38 pc e = true) ax_t38 := ax_All.of (by decide +kernel)
set_option maxRecDepth 100000 in
theorem ax_e39 : ax_All (fun pc e => ax_okb ax_q39 pc e = true) ax_t39 := ax_All.of (by decide +kernel)
set_option maxRecDepth 100000 in
theorem ax_e40 : ax_All (fun pc e => ax_okb ax_q40 pc e = true) ax_t40 := ax_All.of (by decide +kernel)
set_option maxRecDepth 100000 in
theorem ax_e41 : ax_All (fun pc e => ax_okb ax_q41 pc e = true) ax_t41 := ax_All.of (by decide +kernel)
set_option maxRecDepth 100000 in
theorem ax_e42 : ax_All (fun pc e => ax_okb ax_q42 pc e = true) ax_t42 := ax_All.of (by decide +kernel)
set_option maxRecDepth 100000 in
theorem ax_e43 : ax_All (fun pc e => ax_okb ax_q43 pc e = true) ax_t43 := ax_All.of (by decide +kernel)
set_option maxRecDepth 100000 in
theorem ax_e44 : ax_All (fun pc e => ax_okb ax_q44 pc e = true) ax_t44 := ax_All.of (by decide +kernel)
set_option maxRecDepth 100000 in
theorem ax_e45 : ax_All (fun pc e => ax_okb ax_q45 pc e = true) ax_t45 := ax_All.of (by decide +kernel)
set_option maxRecDepth 100000 in
theorem ax_e46 : ax_All (fun pc e => ax_okb ax_q46 pc e = true) ax_t46 := ax_All.of (by decide +kernel)
set_option maxRecDepth 100000 in
theorem ax_e47 : ax_All (fun pc e => ax_okb ax_q47 pc e = true) ax_t47 := ax_All.of (by decide +kernel)
set_option maxRecDepth 100000 in
theorem ax_e48 : ax_All (fun pc e => ax_okb ax_q48 pc e = true) ax_t48 := ax_All.of (by decide +kernel)
set_option maxRecDepth 100000 in
theorem ax_e49 : ax_All (fun pc e => ax_okb ax_q49 pc e = true) ax_t49 := ax_All.of (by decide +kernel)
set_option maxRecDepth 100000 in
theorem ax_e50 : ax_All (fun pc e => ax_okb ax_q50 pc e = true) ax_t50 := ax_All.of (by decide +kernel)
set_option maxRecDepth 100000 in
theorem ax_e51 : ax_All (fun pc e => ax_okb ax_q51 pc e = true) ax_t51 := ax_All.of (by decide +kernel)
set_option maxRecDepth 100000 in
theorem ax_e52 : ax_All (fun pc e => ax_okb ax_q52 pc e = true) ax_t52 := ax_All.of (by decide +kernel)
set_option maxRecDepth 100000 in
theorem ax_e53 : ax_All (fun pc e => ax_okb ax_q53 pc e = true) ax_t53 := ax_All.of (by decide +kernel)
set_option maxRecDepth 100000 in
theorem ax_e54 : ax_All (fun pc e => ax_okb ax_q54 pc e = true) ax_t54 := ax_All.of (by decide +kernel)
set_option maxRecDepth 100000 in
theorem ax_e55 : ax_All (fun pc e => ax_okb ax_q55 pc e = true) ax_t55 := ax_All.of (by decide +kernel)
set_option maxRecDepth 100000 in
theorem ax_e56 : ax_All (fun pc e => ax_okb ax_q56 pc e = true) ax_t56 := ax_All.of (by decide +kernel)
set_option maxRecDepth 100000 in
theorem ax_e57 : ax_All (fun pc e => ax_okb ax_q57 pc e = true) ax_t57 := ax_All.of (by decide +kernel)
set_option maxRecDepth 100000 in
theorem ax_e58 : ax_All (fun pc e => ax_okb ax_q58 pc e = true) ax_t58 := ax_All.of (by decide +kernel)
set_option maxRecDepth 100000 in
theorem ax_e59 : ax_All (fun pc e => ax_okb ax_q59 pc e = true) ax_t59 := ax_All.of (by decide +kernel)
set_option maxRecDepth 100000 in
theorem ax_e60 : ax_All (fun pc e => ax_okb ax_q60 pc e = true) ax_t60 := ax_All.of (by decide +kernel)
set_option maxRecDepth 100000 in
theorem ax_e61 : ax_All (fun pc e => ax_okb ax_q61 pc e = true) ax_t61 := ax_All.of (by decide +kernel)
set_option maxRecDepth 100000 in
theorem ax_e62 : ax_All (fun pc e => ax_okb ax_q62 pc e = true) ax_t62 := ax_All.of (by decide +kernel)
set_option maxRecDepth 100000 in
theorem ax_e63 : ax_All (fun pc e => ax_okb ax_q63 pc e = true) ax_t63 := ax_All.of (by decide +kernel)
set_option maxRecDepth 100000 in
theorem ax_e64 : ax_All (fun pc e => ax_okb ax_q64 pc e = true) ax_t64 := ax_All.of (by decide +kernel)
end
section
/-! the rows of the linked code, 2 of 4 -/
set_option maxRecDepth 100000 in
theorem ax_e65 : ax_All (fun pc e => ax_okb ax_q65 pc e = true) ax_t65 := ax_All.of (by decide +kernel)
set_option maxRecDepth 100000 in
theorem ax_e66 : ax_All (fun pc e => ax_okb ax_q66 pc e = true) ax_t66 := ax_All.of (by decide +kernel)
set_option maxRecDepth 100000 in
theorem ax_e67 : ax_All (fun pc e => ax_okb ax_q67 pc e = true) ax_t67 := ax_All.of (by decide +kernel)
set_option maxRecDepth 100000 in
theorem ax_e68 : ax_All (fun pc e => ax_okb ax_q68 pc e = true) ax_t68 := ax_All.of (by decide +kernel)
set_option maxRecDepth 100000 in
theorem ax_e69 : ax_All (fun pc e => ax_okb ax_q69 pc e = true) ax_t69 := ax_All.of (by decide +kernel)
set_option maxRecDepth 100000 in
theorem ax_e70 : ax_All (fun pc e => ax_okb ax_q70 pc e = true) ax_t70 := ax_All.of (by decide +kernel)
set_option maxRecDepth 100000 in
theorem ax_e71 : ax_All (fun pc e => ax_okb ax_q71 pc e = true) ax_t71 := ax_All.of (by decide +kernel)
set_option maxRecDepth 100000 in
theorem ax_e72 : ax_All (fun pc e => ax_okb ax_q72 pc e = true) ax_t72 := ax_All.of (by decide +kernel)
set_option maxRecDepth 100000 in
theorem ax_e73 : ax_All (fun pc e => ax_okb ax_q73 pc e = true) ax_t73 := ax_All.of (by decide +kernel)
set_option maxRecDepth 100000 in
theorem ax_e74 : ax_All (fun pc e => ax_okb ax_q74 pc e = true) ax_t74 := ax_All.of (by decide +kernel)
set_option maxRecDepth 100000 in
theorem ax_e75 : ax_All (fun pc e => ax_okb ax_q75 pc e = true) ax_t75 := ax_All.of (by decide +kernel)
set_option maxRecDepth 100000 in
theorem ax_e76 : ax_All (fun pc e => ax_okb ax_q76 pc e = true) ax_t76 := ax_All.of (by decide +kernel)
set_option maxRecDepth 100000 in
theorem ax_e77 : ax_All (fun pc e => ax_okb ax_q77 pc e = true) ax_t77 := ax_All.of (by decide +kernel)
set_option maxRecDepth 100000 in
theorem ax_e78 : ax_All (fun pc e => ax_okb ax_q78 pc e = true) ax_t78 := ax_All.of (by decide +kernel)
set_option maxRecDepth 100000 in
theorem ax_e79 : ax_All (fun pc e => ax_okb ax_q79 pc e = true) ax_t79 := ax_All.of (by decide +kernel)
set_option maxRecDepth 100000 in
theorem ax_e80 : ax_All (fun pc e => ax_okb ax_q80 pc e = true) ax_t80 := ax_All.of (by decide +kernel)
set_option maxRecDepth 100000 in
theorem ax_e81 : ax_All (fun pc e => ax_okb ax_q81 pc e = true) ax_t81 := ax_All.of (by decide +kernel)
set_option maxRecDepth 100000 in
theorem ax_e82 : ax_All (fun pc e => ax_okb ax_q82 pc e = true) ax_t82 := ax_All.of (by decide +kernel)
set_option maxRecDepth 100000 in
theorem ax_e83 : ax_All (fun pc e => ax_okb ax_q83 pc e = true) ax_t83 := ax_All.of (by decide +kernel)
set_option maxRecDepth 100000 in
theorem ax_e84 : ax_All (fun pc e => ax_okb ax_q84 pc e = true) ax_t84 := ax_All.of (by decide +kernel)
set_option maxRecDepth 100000 in
theorem ax_e85 : ax_All (fun pc e => ax_okb ax_q85 pc e = true) ax_t85 := ax_All.of (by decide +kernel)
set_option maxRecDepth 100000 in
theorem ax_e86 : ax_All (fun pc e => ax_okb ax_q86 pc e = true) ax_t86 := ax_All.of (by decide +kernel)
set_option maxRecDepth 100000 in
theorem ax_e87 : ax_All (fun pc e => ax_okb ax_q87 pc e = true) ax_t87 := ax_All.of (by decide +kernel)
set_option maxRecDepth 100000 in
theorem ax_e88 : ax_All (fun pc e => ax_okb ax_q88 pc e = true) ax_t88 := ax_All.of (by decide +kernel)
set_option maxRecDepth 100000 in
theorem ax_e89 : ax_All (fun pc e => ax_okb ax_q89 pc e = true) ax_t89 := ax_All.of (by decide +kernel)
set_option maxRecDepth 100000 in
theorem ax_e90 : ax_All (fun pc e => ax_okb ax_q90 pc e = true) ax_t90 := ax_All.of (by decide +kernel)
set_option maxRecDepth 100000 in
theorem ax_e91 : ax_All (fun pc e => ax_okb ax_q91 pc e = true) ax_t91 := ax_All.of (by decide +kernel)
set_option maxRecDepth 100000 in
theorem ax_e92 : ax_All (fun pc e => ax_okb ax_q92 pc e = true) ax_t92 := ax_All.of (by decide +kernel)
set_option maxRecDepth 100000 in
theorem ax_e93 : ax_All (fun pc e => ax_okb ax_q93 pc e = true) ax_t93 := ax_All.of (by decide +kernel)
set_option maxRecDepth 100000 in
theorem ax_e94 : ax_All (fun pc e => ax_okb ax_q94 pc e = true) ax_t94 := ax_All.of (by decide +kernel)
set_option maxRecDepth 100000 in
theorem ax_e95 : ax_All (fun pc e => ax_okb ax_q95 pc e = true) ax_t95 := ax_All.of (by decide +kernel)
set_option maxRecDepth 100000 in
theorem ax_e96 : ax_All (fun pc e => ax_okb ax_q96 pc e = true) ax_t96 := ax_All.of (by decide +kernel)
set_option maxRecDepth 100000 in
theorem ax_e97 : ax_All (fun pc e => ax_okb ax_q97 pc e = true) ax_t97 := ax_All.of (by decide +kernel)
set_option maxRecDepth 100000 in
theorem ax_e98 : ax_All (fun pc e => ax_okb ax_q98 pc e = true) ax_t98 := ax_All.of (by decide +kernel)
set_option maxRecDepth 100000 in
theorem ax_e99 : ax_All (fun pc e => ax_okb ax_q99 pc e = true) ax_t99 := ax_All.of (by decide +kernel)
set_option maxRecDepth 100000 in
theorem ax_e100 : ax_All (fun pc e => ax_okb ax_q100 pc e = true) ax_t100 := ax_All.of (by decide +kernel)
set_option maxRecDepth 100000 in
theorem ax_e101 : ax_All (fun pc e => ax_okb ax_q101 pc e = true) ax_t101 := ax_All.of (by decide +kernel)
set_option maxRecDepth 100000 in
theorem ax_e102 : ax_All (fun pc e => ax_okb ax_q102 pc e = true) ax_t102 := ax_All.of (by decide +kernel)
set_option maxRecDepth 100000 in
theorem ax_e103 : ax_All (fun pc e => ax_okb ax_q103 pc e = true) ax_t103 := ax_All.of (by decide +kernel)
set_option maxRecDepth 100000 in
theorem ax_e104 : ax_All (fun pc e => ax_okb ax_q104 pc e = true) ax_t104 := ax_All.of (by decide +kernel)
set_option maxRecDepth 100000 in
theorem ax_e105 : ax_All (fun pc e => ax_okb ax_q105 pc e = true) ax_t105 := ax_All.of (by decide +kernel)
set_option maxRecDepth 100000 in
theorem ax_e106 : ax_All (fun pc e => ax_okb ax_q106 pc e = true) ax_t106 := ax_All.of (by decide +kernel)
set_option maxRecDepth 100000 in
theorem ax_e107 : ax_All (fun pc e => ax_okb ax_q107 pc e = true) ax_t107 := ax_All.of (by decide +kernel)
set_option maxRecDepth 100000 in
theorem ax_e108 : ax_All (fun pc e => ax_okb ax_q108 pc e = true) ax_t108 := ax_All.of (by decide +kernel)
set_option maxRecDepth 100000 in
theorem ax_e109 : ax_All (fun pc e => ax_okb ax_q109 pc e = true) ax_t109 := ax_All.of (by decide +kernel)
set_option maxRecDepth 100000 in
theorem ax_e110 : ax_All (fun pc e => ax_okb ax_q110 pc e = true) ax_t110 := ax_All.of (by decide +kernel)
set_option maxRecDepth 100000 in
theorem ax_e111 : ax_All (fun pc e => ax_okb ax_q111 pc e = true) ax_t111 := ax_All.of (by decide +kernel)
set_option maxRecDepth 100000 in
theorem ax_e112 : ax_All (fun pc e => ax_okb ax_q112 pc e = true) ax_t112 := ax_All.of (by decide +kernel)
set_option maxRecDepth 100000 in
theorem ax_e113 : ax_All (fun pc e => ax_okb ax_q113 pc e = true) ax_t113 := ax_All.of (by decide +kernel)
set_option maxRecDepth 100000 in
theorem ax_e114 : ax_All (fun pc e => ax_okb ax_q114 pc e = true) ax_t114 := ax_All.of (by decide +kernel)
set_option maxRecDepth 100000 in
theorem ax_e115 : ax_All (fun pc e => ax_okb ax_q115 pc e = true) ax_t115 := ax_All.of (by decide +kernel)
set_option maxRecDepth 100000 in
theorem ax_e116 : ax_All (fun pc e => ax_okb ax_q116 pc e = true) ax_t116 := ax_All.of (by decide +kernel)
set_option maxRecDepth 100000 in
theorem ax_e117 : ax_All (fun pc e => ax_okb ax_q117 pc e = true) ax_t117 := ax_All.of (by decide +kernel)
set_option maxRecDepth 100000 in
theorem ax_e118 : ax_All (fun pc e => ax_okb ax_q118 pc e = true) ax_t118 := ax_All.of (by decide +kernel)
set_option maxRecDepth 100000 in
theorem ax_e119 : ax_All (fun pc e => ax_okb ax_q119 pc e = true) ax_t119 := ax_All.of (by decide +kernel)
set_option maxRecDepth 100000 in
theorem ax_e120 : ax_All (fun pc e => ax_okb ax_q120 pc e = true) ax_t120 := ax_All.of (by decide +kernel)
set_option maxRecDepth 100000 in
theorem ax_e121 : ax_All (fun pc e => ax_okb ax_q121 pc e = true) ax_t121 := ax_All.of (by decide +kernel)
set_option maxRecDepth 100000 in
theorem ax_e122 : ax_All (fun pc e => ax_okb ax_q122 pc e = true) ax_t122 := ax_All.of (by decide +kernel)
set_option maxRecDepth 100000 in
theorem ax_e123 : ax_All (fun pc e => ax_okb ax_q123 pc e = true) ax_t123 := ax_All.of (by decide +kernel)
set_option maxRecDepth 100000 in
theorem ax_e124 : ax_All (fun pc e => ax_okb ax_q124 pc e = true) ax_t124 := ax_All.of (by decide +kernel)
set_option maxRecDepth 100000 in
theorem ax_e125 : ax_All (fun pc e => ax_okb ax_q125 pc e = true) ax_t125 := ax_All.of (by decide +kernel)
set_option maxRecDepth 100000 in
theorem ax_e126 : ax_All (fun pc e => ax_okb ax_q126 pc e = true) ax_t126 := ax_All.of (by decide +kernel)
set_option maxRecDepth 100000 in
theorem ax_e127 : ax_All (fun pc e => ax_okb ax_q127 pc e = true) ax_t127 := ax_All.of (by decide +kernel)
set_option maxRecDepth 100000 in
theorem ax_e128 : ax_All (fun pc e => ax_okb ax_q128 pc e = true) ax_t128 := ax_All.of (by decide +kernel)
end
section
/-! the rows of the linked code, 3 of 4 -/
set_option maxRecDepth 100000 in
theorem ax_e129 : ax_All (fun pc e => ax_okb ax_q129 pc e = true) ax_t129 := ax_All.of (by decide +kernel)
set_option maxRecDepth 100000 in
theorem ax_e130 : ax_All (fun pc e => ax_okb ax_q130 pc e = true) ax_t130 := ax_All.of (by decide +kernel)
set_option maxRecDepth 100000 in
theorem ax_e131 : ax_All (fun pc e => ax_okb ax_q131 pc e = true) ax_t131 := ax_All.of (by decide +kernel)
set_option maxRecDepth 100000 in
theorem ax_e132 : ax_All (fun pc e => ax_okb ax_q132 pc e = true) ax_t132 := ax_All.of (by decide +kernel)
set_option maxRecDepth 100000 in
theorem ax_e133 : ax_All (fun pc e => ax_okb ax_q133 pc e = true) ax_t133 := ax_All.of (by decide +kernel)
set_option maxRecDepth 100000 in
theorem ax_e134 : ax_All (fun pc e => ax_okb ax_q134 pc e = true) ax_t134 := ax_All.of (by decide +kernel)
set_option maxRecDepth 100000 in
theorem ax_e135 : ax_All (fun pc e => ax_okb ax_q135 pc e = true) ax_t135 := ax_All.of (by decide +kernel)
set_option maxRecDepth 100000 in
theorem ax_e136 : ax_All (fun pc e => ax_okb ax_q136 pc e = true) ax_t136 := ax_All.of (by decide +kernel)
set_option maxRecDepth 100000 in
theorem ax_e137 : ax_All (fun pc e => ax_okb ax_q137 pc e = true) ax_t137 := ax_All.of (by decide +kernel)
set_option maxRecDepth 100000 in
theorem ax_e138 : ax_All (fun pc e => ax_okb ax_q138 pc e = true) ax_t138 := ax_All.of (by decide +kernel)
set_option maxRecDepth 100000 in
theorem ax_e139 : ax_All (fun pc e => ax_okb ax_q139 pc e = true) ax_t139 := ax_All.of (by decide +kernel)
set_option maxRecDepth 100000 in
theorem ax_e140 : ax_All (fun pc e => ax_okb ax_q140 pc e = true) ax_t140 := ax_All.of (by decide +kernel)
set_option maxRecDepth 100000 in
theorem ax_e141 : ax_All (fun pc e => ax_okb ax_q141 pc e = true) ax_t141 := ax_All.of (by decide +kernel)
set_option maxRecDepth 100000 in
theorem ax_e142 : ax_All (fun pc e => ax_okb ax_q142 pc e = true) ax_t142 := ax_All.of (by decide +kernel)
set_option maxRecDepth 100000 in
theorem ax_e143 : ax_All (fun pc e => ax_okb ax_q143 pc e = true) ax_t143 := ax_All.of (by decide +kernel)
set_option maxRecDepth 100000 in
theorem ax_e144 : ax_All (fun pc e => ax_okb ax_q144 pc e = true) ax_t144 := ax_All.of (by decide +kernel)
set_option maxRecDepth 100000 in
theorem ax_e145 : ax_All (fun pc e => ax_okb ax_q145 pc e = true) ax_t145 := ax_All.of (by decide +kernel)
set_option maxRecDepth 100000 in
theorem ax_e146 : ax_All (fun pc e => ax_okb ax_q146 pc e = true) ax_t146 := ax_All.of (by decide +kernel)
set_option maxRecDepth 100000 in
theorem ax_e147 : ax_All (fun pc e => ax_okb ax_q147 pc e = true) ax_t147 := ax_All.of (by decide +kernel)
set_option maxRecDepth 100000 in
theorem ax_e148 : ax_All (fun pc e => ax_okb ax_q148 pc e = true) ax_t148 := ax_All.of (by decide +kernel)
set_option maxRecDepth 100000 in
theorem ax_e149 : ax_All (fun pc e => ax_okb ax_q149 pc e = true) ax_t149 := ax_All.of (by decide +kernel)
set_option maxRecDepth 100000 in
theorem ax_e150 : ax_All (fun pc e => ax_okb ax_q150 pc e = true) ax_t150 := ax_All.of (by decide +kernel)
set_option maxRecDepth 100000 in
theorem ax_e151 : ax_All (fun pc e => ax_okb ax_q151 pc e = true) ax_t151 := ax_All.of (by decide +kernel)
set_option maxRecDepth 100000 in
theorem ax_e152 : ax_All (fun pc e => ax_okb ax_q152 pc e = true) ax_t152 := ax_All.of (by decide +kernel)
set_option maxRecDepth 100000 in
theorem ax_e153 : ax_All (fun pc e => ax_okb ax_q153 pc e = true) ax_t153 := ax_All.of (by decide +kernel)
set_option maxRecDepth 100000 in
theorem ax_e154 : ax_All (fun pc e => ax_okb ax_q154 pc e = true) ax_t154 := ax_All.of (by decide +kernel)
set_option maxRecDepth 100000 in
theorem ax_e155 : ax_All (fun pc e => ax_okb ax_q155 pc e = true) ax_t155 := ax_All.of (by decide +kernel)
set_option maxRecDepth 100000 in
theorem ax_e156 : ax_All (fun pc e => ax_okb ax_q156 pc e = true) ax_t156 := ax_All.of (by decide +kernel)
set_option maxRecDepth 100000 in
theorem ax_e157 : ax_All (fun pc e => ax_okb ax_q157 pc e = true) ax_t157 := ax_All.of (by decide +kernel)
set_option maxRecDepth 100000 in
theorem ax_e158 : ax_All (fun pc e => ax_okb ax_q158 pc e = true) ax_t158 := ax_All.of (by decide +kernel)
set_option maxRecDepth 100000 in
theorem ax_e159 : ax_All (fun pc e => ax_okb ax_q159 pc e = true) ax_t159 := ax_All.of (by decide +kernel)
set_option maxRecDepth 100000 in
theorem ax_e160 : ax_All (fun pc e => ax_okb ax_q160 pc e = true) ax_t160 := ax_All.of (by decide +kernel)
set_option maxRecDepth 100000 in
theorem ax_e161 : ax_All (fun pc e => ax_okb ax_q161 pc e = true) ax_t161 := ax_All.of (by decide +kernel)
set_option maxRecDepth 100000 in
theorem ax_e162 : ax_All (fun pc e => ax_okb ax_q162 pc e = true) ax_t162 := ax_All.of (by decide +kernel)
set_option maxRecDepth 100000 in
theorem ax_e163 : ax_All (fun pc e => ax_okb ax_q163 pc e = true) ax_t163 := ax_All.of (by decide +kernel)
set_option maxRecDepth 100000 in
theorem ax_e164 : ax_All (fun pc e => ax_okb ax_q164 pc e = true) ax_t164 := ax_All.of (by decide +kernel)
set_option maxRecDepth 100000 in
theorem ax_e165 : ax_All (fun pc e => ax_okb ax_q165 pc e = true) ax_t165 := ax_All.of (by decide +kernel)
set_option maxRecDepth 100000 in
theorem ax_e166 : ax_All (fun pc e => ax_okb ax_q166 pc e = true) ax_t166 := ax_All.of (by decide +kernel)
set_option maxRecDepth 100000 in
theorem ax_e167 : ax_All (fun pc e => ax_okb ax_q167 pc e = true) ax_t167 := ax_All.of (by decide +kernel)
set_option maxRecDepth 100000 in
theorem ax_e168 : ax_All (fun pc e => ax_okb ax_q168 pc e = true) ax_t168 := ax_All.of (by decide +kernel)
set_option maxRecDepth 100000 in
theorem ax_e169 : ax_All (fun pc e => ax_okb ax_q169 pc e = true) ax_t169 := ax_All.of (by decide +kernel)
set_option maxRecDepth 100000 in
theorem ax_e170 : ax_All (fun pc e => ax_okb ax_q170 pc e = true) ax_t170 := ax_All.of (by decide +kernel)
set_option maxRecDepth 100000 in
theorem ax_e171 : ax_All (fun pc e => ax_okb ax_q171 pc e = true) ax_t171 := ax_All.of (by decide +kernel)
set_option maxRecDepth 100000 in
theorem ax_e172 : ax_All (fun pc e => ax_okb ax_q172 pc e = true) ax_t172 := ax_All.of (by decide +kernel)
set_option maxRecDepth 100000 in
theorem ax_e173 : ax_All (fun pc e => ax_okb ax_q173 pc e = true) ax_t173 := ax_All.of (by decide +kernel)
set_option maxRecDepth 100000 in
theorem ax_e174 : ax_All (fun pc e => ax_okb ax_q174 pc e = true) ax_t174 := ax_All.of (by decide +kernel)
set_option maxRecDepth 100000 in
theorem ax_e175 : ax_All (fun pc e => ax_okb ax_q175 pc e = true) ax_t175 := ax_All.of (by decide +kernel)
set_option maxRecDepth 100000 in
theorem ax_e176 : ax_All (fun pc e => ax_okb ax_q176 pc e = true) ax_t176 := ax_All.of (by decide +kernel)
set_option maxRecDepth 100000 in
theorem ax_e177 : ax_All (fun pc e => ax_okb ax_q177 pc e = true) ax_t177 := ax_All.of (by decide +kernel)
set_option maxRecDepth 100000 in
theorem ax_e178 : ax_All (fun pc e => ax_okb ax_q178 pc e = true) ax_t178 := ax_All.of (by decide +kernel)
set_option maxRecDepth 100000 in
theorem ax_e179 : ax_All (fun pc e => ax_okb ax_q179 pc e = true) ax_t179 := ax_All.of (by decide +kernel)
set_option maxRecDepth 100000 in
theorem ax_e180 : ax_All (fun pc e => ax_okb ax_q180 pc e = true) ax_t180 := ax_All.of (by decide +kernel)
set_option maxRecDepth 100000 in
theorem ax_e181 : ax_All (fun pc e => ax_okb ax_q181 pc e = true) ax_t181 := ax_All.of (by decide +kernel)
set_option maxRecDepth 100000 in
theorem ax_e182 : ax_All (fun pc e => ax_okb ax_q182 pc e = true) ax_t182 := ax_All.of (by decide +kernel)
set_option maxRecDepth 100000 in
theorem ax_e183 : ax_All (fun pc e => ax_okb ax_q183 pc e = true) ax_t183 := ax_All.of (by decide +kernel)
set_option maxRecDepth 100000 in
theorem ax_e184 : ax_All (fun pc e => ax_okb ax_q184 pc e = true) ax_t184 := ax_All.of (by decide +kernel)
set_option maxRecDepth 100000 in
theorem ax_e185 : ax_All (fun pc e => ax_okb ax_q185 pc e = true) ax_t185 := ax_All.of (by decide +kernel)
set_option maxRecDepth 100000 in
theorem ax_e186 : ax_All (fun pc e => ax_okb ax_q186 pc e = true) ax_t186 := ax_All.of (by decide +kernel)
set_option maxRecDepth 100000 in
theorem ax_e187 : ax_All (fun pc e => ax_okb ax_q187 pc e = true) ax_t187 := ax_All.of (by decide +kernel)
set_option maxRecDepth 100000 in
theorem ax_e188 : ax_All (fun pc e => ax_okb ax_q188 pc e = true) ax_t188 := ax_All.of (by decide +kernel)
set_option maxRecDepth 100000 in
theorem ax_e189 : ax_All (fun pc e => ax_okb ax_q189 pc e = true) ax_t189 := ax_All.of (by decide +kernel)
set_option maxRecDepth 100000 in
theorem ax_e190 : ax_All (fun pc e => ax_okb ax_q190 pc e = true) ax_t190 := ax_All.of (by decide +kernel)
set_option maxRecDepth 100000 in
theorem ax_e191 : ax_All (fun pc e => ax_okb ax_q191 pc e = true) ax_t191 := ax_All.of (by decide +kernel)
set_option maxRecDepth 100000 in
theorem ax_e192 : ax_All (fun pc e => ax_okb ax_q192 pc e = true) ax_t192 := ax_All.of (by decide +kernel)
set_option maxRecDepth 100000 in
theorem ax_e193 : ax_All (fun pc e => ax_okb ax_q193 pc e = true) ax_t193 := ax_All.of (by decide +kernel)
end
section
/-! the rows of the linked code, 4 of 4 -/
set_option maxRecDepth 100000 in
theorem ax_e194 : ax_All (fun pc e => ax_okb ax_q194 pc e = true) ax_t194 := ax_All.of (by decide +kernel)
set_option maxRecDepth 100000 in
theorem ax_e195 : ax_All (fun pc e => ax_okb ax_q195 pc e = true) ax_t195 := ax_All.of (by decide +kernel)
set_option maxRecDepth 100000 in
theorem ax_e196 : ax_All (fun pc e => ax_okb ax_q196 pc e = true) ax_t196 := ax_All.of (by decide +kernel)
set_option maxRecDepth 100000 in
theorem ax_e197 : ax_All (fun pc e => ax_okb ax_q197 pc e = true) ax_t197 := ax_All.of (by decide +kernel)
set_option maxRecDepth 100000 in
theorem ax_e198 : ax_All (fun pc e => ax_okb ax_q198 pc e = true) ax_t198 := ax_All.of (by decide +kernel)
set_option maxRecDepth 100000 in
theorem ax_e199 : ax_All (fun pc e => ax_okb ax_q199 pc e = true) ax_t199 := ax_All.of (by decide +kernel)
set_option maxRecDepth 100000 in
theorem ax_e200 : ax_All (fun pc e => ax_okb ax_q200 pc e = true) ax_t200 := ax_All.of (by decide +kernel)
set_option maxRecDepth 100000 in
theorem ax_e201 : ax_All (fun pc e => ax_okb ax_q201 pc e = true) ax_t201 := ax_All.of (by decide +kernel)
set_option maxRecDepth 100000 in
theorem ax_e202 : ax_All (fun pc e => ax_okb ax_q202 pc e = true) ax_t202 := ax_All.of (by decide +kernel)
set_option maxRecDepth 100000 in
theorem ax_e203 : ax_All (fun pc e => ax_okb ax_q203 pc e = true) ax_t203 := ax_All.of (by decide +kernel)
set_option maxRecDepth 100000 in
theorem ax_e204 : ax_All (fun pc e => ax_okb ax_q204 pc e = true) ax_t204 := ax_All.of (by decide +kernel)
set_option maxRecDepth 100000 in
theorem ax_e205 : ax_All (fun pc e => ax_okb ax_q205 pc e = true) ax_t205 := ax_All.of (by decide +kernel)
set_option maxRecDepth 100000 in
theorem ax_e206 : ax_All (fun pc e => ax_okb ax_q206 pc e = true) ax_t206 := ax_All.of (by decide +kernel)
set_option maxRecDepth 100000 in
theorem ax_e207 : ax_All (fun pc e => ax_okb ax_q207 pc e = true) ax_t207 := ax_All.of (by decide +kernel)
set_option maxRecDepth 100000 in
theorem ax_e208 : ax_All (fun pc e => ax_okb ax_q208 pc e = true) ax_t208 := ax_All.of (by decide +kernel)
set_option maxRecDepth 100000 in
theorem ax_e209 : ax_All (fun pc e => ax_okb ax_q209 pc e = true) ax_t209 := ax_All.of (by decide +kernel)
set_option maxRecDepth 100000 in
theorem ax_e210 : ax_All (fun pc e => ax_okb ax_q210 pc e = true) ax_t210 := ax_All.of (by decide +kernel)
set_option maxRecDepth 100000 in
theorem ax_e211 : ax_All (fun pc e => ax_okb ax_q211 pc e = true) ax_t211 := ax_All.of (by decide +kernel)
set_option maxRecDepth 100000 in
theorem ax_e212 : ax_All (fun pc e => ax_okb ax_q212 pc e = true) ax_t212 := ax_All.of (by decide +kernel)
set_option maxRecDepth 100000 in
theorem ax_e213 : ax_All (fun pc e => ax_okb ax_q213 pc e = true) ax_t213 := ax_All.of (by decide +kernel)
set_option maxRecDepth 100000 in
theorem ax_e214 : ax_All (fun pc e => ax_okb ax_q214 pc e = true) ax_t214 := ax_All.of (by decide +kernel)
set_option maxRecDepth 100000 in
theorem ax_e215 : ax_All (fun pc e => ax_okb ax_q215 pc e = true) ax_t215 := ax_All.of (by decide +kernel)
set_option maxRecDepth 100000 in
theorem ax_e216 : ax_All (fun pc e => ax_okb ax_q216 pc e = true) ax_t216 := ax_All.of (by decide +kernel)
set_option maxRecDepth 100000 in
theorem ax_e217 : ax_All (fun pc e => ax_okb ax_q217 pc e = true) ax_t217 := ax_All.of (by decide +kernel)
set_option maxRecDepth 100000 in
theorem ax_e218 : ax_All (fun pc e => ax_okb ax_q218 pc e = true) ax_t218 := ax_All.of (by decide +kernel)
set_option maxRecDepth 100000 in
theorem ax_e219 : ax_All (fun pc e => ax_okb ax_q219 pc e = true) ax_t219 := ax_All.of (by decide +kernel)
set_option maxRecDepth 100000 in
theorem ax_e220 : ax_All (fun pc e => ax_okb ax_q220 pc e = true) ax_t220 := ax_All.of (by decide +kernel)
set_option maxRecDepth 100000 in
theorem ax_e221 : ax_All (fun pc e => ax_okb ax_q221 pc e = true) ax_t221 := ax_All.of (by decide +kernel)
set_option maxRecDepth 100000 in
theorem ax_e222 : ax_All (fun pc e => ax_okb ax_q222 pc e = true) ax_t222 := ax_All.of (by decide +kernel)
set_option maxRecDepth 100000 in
theorem ax_e223 : ax_All (fun pc e => ax_okb ax_q223 pc e = true) ax_t223 := ax_All.of (by decide +kernel)
set_option maxRecDepth 100000 in
theorem ax_e224 : ax_All (fun pc e => ax_okb ax_q224 pc e = true) ax_t224 := ax_All.of (by decide +kernel)
set_option maxRecDepth 100000 in
theorem ax_e225 : ax_All (fun pc e => ax_okb ax_q225 pc e = true) ax_t225 := ax_All.of (by decide +kernel)
set_option maxRecDepth 100000 in
theorem ax_e226 : ax_All (fun pc e => ax_okb ax_q226 pc e = true) ax_t226 := ax_All.of (by decide +kernel)
set_option maxRecDepth 100000 in
theorem ax_e227 : ax_All (fun pc e => ax_okb ax_q227 pc e = true) ax_t227 := ax_All.of (by decide +kernel)
set_option maxRecDepth 100000 in
theorem ax_e228 : ax_All (fun pc e => ax_okb ax_q228 pc e = true) ax_t228 := ax_All.of (by decide +kernel)
set_option maxRecDepth 100000 in
theorem ax_e229 : ax_All (fun pc e => ax_okb ax_q229 pc e = true) ax_t229 := ax_All.of (by decide +kernel)
set_option maxRecDepth 100000 in
theorem ax_e230 : ax_All (fun pc e => ax_okb ax_q230 pc e = true) ax_t230 := ax_All.of (by decide +kernel)
set_option maxRecDepth 100000 in
theorem ax_e231 : ax_All (fun pc e => ax_okb ax_q231 pc e = true) ax_t231 := ax_All.of (by decide +kernel)
set_option maxRecDepth 100000 in
theorem ax_e232 : ax_All (fun pc e => ax_okb ax_q232 pc e = true) ax_t232 := ax_All.of (by decide +kernel)
set_option maxRecDepth 100000 in
theorem ax_e233 : ax_All (fun pc e => ax_okb ax_q233 pc e = true) ax_t233 := ax_All.of (by decide +kernel)
set_option maxRecDepth 100000 in
theorem ax_e234 : ax_All (fun pc e => ax_okb ax_q234 pc e = true) ax_t234 := ax_All.of (by decide +kernel)
set_option maxRecDepth 100000 in
theorem ax_e235 : ax_All (fun pc e => ax_okb ax_q235 pc e = true) ax_t235 := ax_All.of (by decide +kernel)
set_option maxRecDepth 100000 in
theorem ax_e236 : ax_All (fun pc e => ax_okb ax_q236 pc e = true) ax_t236 := ax_All.of (by decide +kernel)
set_option maxRecDepth 100000 in
theorem ax_e237 : ax_All (fun pc e => ax_okb ax_q237 pc e = true) ax_t237 := ax_All.of (by decide +kernel)
set_option maxRecDepth 100000 in
theorem ax_e238 : ax_All (fun pc e => ax_okb ax_q238 pc e = true) ax_t238 := ax_All.of (by decide +kernel)
set_option maxRecDepth 100000 in
theorem ax_e239 : ax_All (fun pc e => ax_okb ax_q239 pc e = true) ax_t239 := ax_All.of (by decide +kernel)
set_option maxRecDepth 100000 in
theorem ax_e240 : ax_All (fun pc e => ax_okb ax_q240 pc e = true) ax_t240 := ax_All.of (by decide +kernel)
set_option maxRecDepth 100000 in
theorem ax_e241 : ax_All (fun pc e => ax_okb ax_q241 pc e = true) ax_t241 := ax_All.of (by decide +kernel)
set_option maxRecDepth 100000 in
theorem ax_e242 : ax_All (fun pc e => ax_okb ax_q242 pc e = true) ax_t242 := ax_All.of (by decide +kernel)
set_option maxRecDepth 100000 in
theorem ax_e243 : ax_All (fun pc e => ax_okb ax_q243 pc e = true) ax_t243 := ax_All.of (by decide +kernel)
set_option maxRecDepth 100000 in
theorem ax_e244 : ax_All (fun pc e => ax_okb ax_q244 pc e = true) ax_t244 := ax_All.of (by decide +kernel)
set_option maxRecDepth 100000 in
theorem ax_e245 : ax_All (fun pc e => ax_okb ax_q245 pc e = true) ax_t245 := ax_All.of (by decide +kernel)
set_option maxRecDepth 100000 in
theorem ax_e246 : ax_All (fun pc e => ax_okb ax_q246 pc e = true) ax_t246 := ax_All.of (by decide +kernel)
set_option maxRecDepth 100000 in
theorem ax_e247 : ax_All (fun pc e => ax_okb ax_q247 pc e = true) ax_t247 := ax_All.of (by decide +kernel)
set_option maxRecDepth 100000 in
theorem ax_e248 : ax_All (fun pc e => ax_okb ax_q248 pc e = true) ax_t248 := ax_All.of (by decide +kernel)
set_option maxRecDepth 100000 in
theorem ax_e249 : ax_All (fun pc e => ax_okb ax_q249 pc e = true) ax_t249 := ax_All.of (by decide +kernel)
set_option maxRecDepth 100000 in
theorem ax_e250 : ax_All (fun pc e => ax_okb ax_q250 pc e = true) ax_t250 := ax_All.of (by decide +kernel)
set_option maxRecDepth 100000 in
theorem ax_e251 : ax_All (fun pc e => ax_okb ax_q251 pc e = true) ax_t251 := ax_All.of (by decide +kernel)
set_option maxRecDepth 100000 in
theorem ax_e252 : ax_All (fun pc e => ax_okb ax_q252 pc e = true) ax_t252 := ax_All.of (by decide +kernel)
set_option maxRecDepth 100000 in
theorem ax_e253 : ax_All (fun pc e => ax_okb ax_q253 pc e = true) ax_t253 := ax_All.of (by decide +kernel)
set_option maxRecDepth 100000 in
theorem ax_e254 : ax_All (fun pc e => ax_okb ax_q254 pc e = true) ax_t254 := ax_All.of (by decide +kernel)
set_option maxRecDepth 100000 in
theorem ax_e255 : ax_All (fun pc e => ax_okb ax_q255 pc e = true) ax_t255 := ax_All.of (by decide +kernel)
set_option maxRecDepth 100000 in
theorem ax_e256 : ax_All (fun pc e => ax_okb ax_q256 pc e = true) ax_t256 := ax_All.of (by decide +kernel)
set_option maxRecDepth 100000 in
theorem ax_e257 : ax_All (fun pc e => ax_okb ax_q257 pc e = true) ax_t257 := ax_All.of (by decide +kernel)
end
section
/-! the rows of the law, 1 of 6 -/
set_option maxRecDepth 100000 in
theorem ax_l0 : ∀ z ∈ ax_t258_0, ax_okb ax_q258 z.1 z.2 = true := ax_o1 (p := ax_okb ax_q258) (by decide +kernel)
set_option maxRecDepth 100000 in
theorem ax_l1 : ∀ z ∈ ax_t258_1, ax_okb ax_q258 z.1 z.2 = true := ax_o1 (p := ax_okb ax_q258) (by decide +kernel)
set_option maxRecDepth 100000 in
theorem ax_l2 : ∀ z ∈ ax_t258_2, ax_okb ax_q258 z.1 z.2 = true := ax_o1 (p := ax_okb ax_q258) (by decide +kernel)
set_option maxRecDepth 100000 in
theorem ax_l3 : ∀ z ∈ ax_t258_3, ax_okb ax_q258 z.1 z.2 = true := ax_o1 (p := ax_okb ax_q258) (by decide +kernel)
set_option maxRecDepth 100000 in
theorem ax_l4 : ∀ z ∈ ax_t258_4, ax_okb ax_q258 z.1 z.2 = true := ax_o1 (p := ax_okb ax_q258) (by decide +kernel)
set_option maxRecDepth 100000 in
theorem ax_l5 : ∀ z ∈ ax_t258_5, ax_okb ax_q258 z.1 z.2 = true := ax_o1 (p := ax_okb ax_q258) (by decide +kernel)
set_option maxRecDepth 100000 in
theorem ax_l6 : ∀ z ∈ ax_t258_6, ax_okb ax_q258 z.1 z.2 = true := ax_o1 (p := ax_okb ax_q258) (by decide +kernel)
end
section
/-! the rows of the law, 2 of 6 -/
set_option maxRecDepth 100000 in
theorem ax_l7 : ∀ z ∈ ax_t258_7, ax_okb ax_q258 z.1 z.2 = true := ax_o1 (p := ax_okb ax_q258) (by decide +kernel)
set_option maxRecDepth 100000 in
theorem ax_l8 : ∀ z ∈ ax_t258_8, ax_okb ax_q258 z.1 z.2 = true := ax_o1 (p := ax_okb ax_q258) (by decide +kernel)
set_option maxRecDepth 100000 in
theorem ax_l9 : ∀ z ∈ ax_t258_9, ax_okb ax_q258 z.1 z.2 = true := ax_o1 (p := ax_okb ax_q258) (by decide +kernel)
set_option maxRecDepth 100000 in
theorem ax_l10 : ∀ z ∈ ax_t258_10, ax_okb ax_q258 z.1 z.2 = true := ax_o1 (p := ax_okb ax_q258) (by decide +kernel)
set_option maxRecDepth 100000 in
theorem ax_l11 : ∀ z ∈ ax_t258_11, ax_okb ax_q258 z.1 z.2 = true := ax_o1 (p := ax_okb ax_q258) (by decide +kernel)
set_option maxRecDepth 100000 in
theorem ax_l12 : ∀ z ∈ ax_t258_12, ax_okb ax_q258 z.1 z.2 = true := ax_o1 (p := ax_okb ax_q258) (by decide +kernel)
end
section
/-! the rows of the law, 3 of 6 -/
set_option maxRecDepth 100000 in
theorem ax_l13 : ∀ z ∈ ax_t258_13, ax_okb ax_q258 z.1 z.2 = true := ax_o1 (p := ax_okb ax_q258) (by decide +kernel)
set_option maxRecDepth 100000 in
theorem ax_l14 : ∀ z ∈ ax_t258_14, ax_okb ax_q258 z.1 z.2 = true := ax_o1 (p := ax_okb ax_q258) (by decide +kernel)
set_option maxRecDepth 100000 in
theorem ax_l15 : ∀ z ∈ ax_t258_15, ax_okb ax_q258 z.1 z.2 = true := ax_o1 (p := ax_okb ax_q258) (by decide +kernel)
set_option maxRecDepth 100000 in
theorem ax_l16 : ∀ z ∈ ax_t258_16, ax_okb ax_q258 z.1 z.2 = true := ax_o1 (p := ax_okb ax_q258) (by decide +kernel)
set_option maxRecDepth 100000 in
theorem ax_l17 : ∀ z ∈ ax_t258_17, ax_okb ax_q258 z.1 z.2 = true := ax_o1 (p := ax_okb ax_q258) (by decide +kernel)
set_option maxRecDepth 100000 in
theorem ax_l18 : ∀ z ∈ ax_t258_18, ax_okb ax_q258 z.1 z.2 = true := ax_o1 (p := ax_okb ax_q258) (by decide +kernel)
end
section
/-! the rows of the law, 4 of 6 -/
set_option maxRecDepth 100000 in
theorem ax_l19 : ∀ z ∈ ax_t258_19, ax_okb ax_q258 z.1 z.2 = true := ax_o1 (p := ax_okb ax_q258) (by decide +kernel)
set_option maxRecDepth 100000 in
theorem ax_l20 : ∀ z ∈ ax_t258_20, ax_okb ax_q258 z.1 z.2 = true := ax_o1 (p := ax_okb ax_q258) (by decide +kernel)
set_option maxRecDepth 100000 in
theorem ax_l21 : ∀ z ∈ ax_t258_21, ax_okb ax_q258 z.1 z.2 = true := ax_o1 (p := ax_okb ax_q258) (by decide +kernel)
set_option maxRecDepth 100000 in
theorem ax_l22 : ∀ z ∈ ax_t258_22, ax_okb ax_q258 z.1 z.2 = true := ax_o1 (p := ax_okb ax_q258) (by decide +kernel)
set_option maxRecDepth 100000 in
theorem ax_l23 : ∀ z ∈ ax_t258_23, ax_okb ax_q258 z.1 z.2 = true := ax_o1 (p := ax_okb ax_q258) (by decide +kernel)
set_option maxRecDepth 100000 in
theorem ax_l24 : ∀ z ∈ ax_t258_24, ax_okb ax_q258 z.1 z.2 = true := ax_o1 (p := ax_okb ax_q258) (by decide +kernel)
end
section
/-! the rows of the law, 5 of 6 -/
set_option maxRecDepth 100000 in
theorem ax_l25 : ∀ z ∈ ax_t258_25, ax_okb ax_q258 z.1 z.2 = true := ax_o1 (p := ax_okb ax_q258) (by decide +kernel)
set_option maxRecDepth 100000 in
theorem ax_l26 : ∀ z ∈ ax_t258_26, ax_okb ax_q258 z.1 z.2 = true := ax_o1 (p := ax_okb ax_q258) (by decide +kernel)
set_option maxRecDepth 100000 in
theorem ax_l27 : ∀ z ∈ ax_t258_27, ax_okb ax_q258 z.1 z.2 = true := ax_o1 (p := ax_okb ax_q258) (by decide +kernel)
set_option maxRecDepth 100000 in
theorem ax_l28 : ∀ z ∈ ax_t258_28, ax_okb ax_q258 z.1 z.2 = true := ax_o1 (p := ax_okb ax_q258) (by decide +kernel)
set_option maxRecDepth 100000 in
theorem ax_l29 : ∀ z ∈ ax_t258_29, ax_okb ax_q258 z.1 z.2 = true := ax_o1 (p := ax_okb ax_q258) (by decide +kernel)
set_option maxRecDepth 100000 in
theorem ax_l30 : ∀ z ∈ ax_t258_30, ax_okb ax_q258 z.1 z.2 = true := ax_o1 (p := ax_okb ax_q258) (by decide +kernel)
end
section
/-! the rows of the law, 6 of 6 -/
set_option maxRecDepth 100000 in
theorem ax_l31 : ∀ z ∈ ax_t258_31, ax_okb ax_q258 z.1 z.2 = true := ax_o1 (p := ax_okb ax_q258) (by decide +kernel)
set_option maxRecDepth 100000 in
theorem ax_l32 : ∀ z ∈ ax_t258_32, ax_okb ax_q258 z.1 z.2 = true := ax_o1 (p := ax_okb ax_q258) (by decide +kernel)
set_option maxRecDepth 100000 in
theorem ax_l33 : ∀ z ∈ ax_t258_33, ax_okb ax_q258 z.1 z.2 = true := ax_o1 (p := ax_okb ax_q258) (by decide +kernel)
set_option maxRecDepth 100000 in
theorem ax_l34 : ∀ z ∈ ax_t258_34, ax_okb ax_q258 z.1 z.2 = true := ax_o1 (p := ax_okb ax_q258) (by decide +kernel)
set_option maxRecDepth 100000 in
theorem ax_l35 : ∀ z ∈ ax_t258_35, ax_okb ax_q258 z.1 z.2 = true := ax_o1 (p := ax_okb ax_q258) (by decide +kernel)
set_option maxRecDepth 100000 in
theorem ax_l36 : ∀ z ∈ ax_t258_36, ax_okb ax_q258 z.1 z.2 = true := ax_o1 (p := ax_okb ax_q258) (by decide +kernel)
end
section
/-! the linked code: all of it -/
theorem ax_e258 : ax_All (fun pc e => ax_okb ax_q258 pc e = true) ax_t258 := by
  unfold ax_t258
  exact (ax_All.c2 ax_l0 (ax_All.c2 ax_l1 (ax_All.c2 ax_l2 (ax_All.c2 ax_l3 (ax_All.c2 ax_l4 (ax_All.c2 ax_l5 (ax_All.c2 ax_l6 (ax_All.c2 ax_l7 (ax_All.c2 ax_l8 (ax_All.c2 ax_l9 (ax_All.c2 ax_l10 (ax_All.c2 ax_l11 (ax_All.c2 ax_l12 (ax_All.c2 ax_l13 (ax_All.c2 ax_l14 (ax_All.c2 ax_l15 (ax_All.c2 ax_l16 (ax_All.c2 ax_l17 (ax_All.c2 ax_l18 (ax_All.c2 ax_l19 (ax_All.c2 ax_l20 (ax_All.c2 ax_l21 (ax_All.c2 ax_l22 (ax_All.c2 ax_l23 (ax_All.c2 ax_l24 (ax_All.c2 ax_l25 (ax_All.c2 ax_l26 (ax_All.c2 ax_l27 (ax_All.c2 ax_l28 (ax_All.c2 ax_l29 (ax_All.c2 ax_l30 (ax_All.c2 ax_l31 (ax_All.c2 ax_l32 (ax_All.c2 ax_l33 (ax_All.c2 ax_l34 (ax_All.c2 ax_l35 (ax_All.c2 ax_l36 ax_All.n2)))))))))))))))))))))))))))))))))))))
set_option maxRecDepth 100000 in
theorem ax_all_tt : ax_All (fun i t => ax_All (fun pc e => ax_okb (ax_mm i) pc e = true) t) ax_tt := by
  unfold ax_tt
  exact (ax_All.c2 (ax_All.c1 ax_e0 (ax_All.c1 ax_e1 (ax_All.c1 ax_e2 (ax_All.c1 ax_e3 (ax_All.c1 ax_e4 (ax_All.c1 ax_e5 (ax_All.c1 ax_e6 (ax_All.c1 ax_e7 (ax_All.c1 ax_e8 (ax_All.c1 ax_e9 (ax_All.c1 ax_e10 (ax_All.c1 ax_e11 (ax_All.c1 ax_e12 (ax_All.c1 ax_e13 (ax_All.c1 ax_e14 (ax_All.c1 ax_e15 ax_All.n1)))))))))))))))) (ax_All.c2 (ax_All.c1 ax_e16 (ax_All.c1 ax_e17 (ax_All.c1 ax_e18 (ax_All.c1 ax_e19 (ax_All.c1 ax_e20 (ax_All.c1 ax_e21 (ax_All.c1 ax_e22 (ax_All.c1 ax_e23 (ax_All.c1 ax_e24 (ax_All.c1 ax_e25 (ax_All.c1 ax_e26 (ax_All.c1 ax_e27 (ax_All.c1 ax_e28 (ax_All.c1 ax_e29 (ax_All.c1 ax_e30 (ax_All.c1 ax_e31 ax_All.n1)))))))))))))))) (ax_All.c2 (ax_All.c1 ax_e32 (ax_All.c1 ax_e33 (ax_All.c1 ax_e34 (ax_All.c1 ax_e35 (ax_All.c1 ax_e36 (ax_All.c1 ax_e37 (ax_All.c1 ax_e38 (ax_All.c1 ax_e39 (ax_All.c1 ax_e40 (ax_All.c1 ax_e41 (ax_All.c1 ax_e42 (ax_All.c1 ax_e43 (ax_All.c1 ax_e44 (ax_All.c1 ax_e45 (ax_All.c1 ax_e46 (ax_All.c1 ax_e47 ax_All.n1)))))))))))))))) (ax_All.c2 (ax_All.c1 ax_e48 (ax_All.c1 ax_e49 (ax_All.c1 ax_e50 (ax_All.c1 ax_e51 (ax_All.c1 ax_e52 (ax_All.c1 ax_e53 (ax_All.c1 ax_e54 (ax_All.c1 ax_e55 (ax_All.c1 ax_e56 (ax_All.c1 ax_e57 (ax_All.c1 ax_e58 (ax_All.c1 ax_e59 (ax_All.c1 ax_e60 (ax_All.c1 ax_e61 (ax_All.c1 ax_e62 (ax_All.c1 ax_e63 ax_All.n1)))))))))))))))) (ax_All.c2 (ax_All.c1 ax_e64 (ax_All.c1 ax_e65 (ax_All.c1 ax_e66 (ax_All.c1 ax_e67 (ax_All.c1 ax_e68 (ax_All.c1 ax_e69 (ax_All.c1 ax_e70 (ax_All.c1 ax_e71 (ax_All.c1 ax_e72 (ax_All.c1 ax_e73 (ax_All.c1 ax_e74 (ax_All.c1 ax_e75 (ax_All.c1 ax_e76 (ax_All.c1 ax_e77 (ax_All.c1 ax_e78 (ax_All.c1 ax_e79 ax_All.n1)))))))))))))))) (ax_All.c2 (ax_All.c1 ax_e80 (ax_All.c1 ax_e81 (ax_All.c1 ax_e82 (ax_All.c1 ax_e83 (ax_All.c1 ax_e84 (ax_All.c1 ax_e85 (ax_All.c1 ax_e86 (ax_All.c1 ax_e87 (ax_All.c1 ax_e88 (ax_All.c1 ax_e89 (ax_All.c1 ax_e90 (ax_All.c1 ax_e91 (ax_All.c1 ax_e92 (ax_All.c1 ax_e93 (ax_All.c1 ax_e94 (ax_All.c1 ax_e95 ax_All.n1)))))))))))))))) (ax_All.c2 (ax_All.c1 ax_e96 (ax_All.c1 ax_e97 (ax_All.c1 ax_e98 (ax_All.c1 ax_e99 (ax_All.c1 ax_e100 (ax_All.c1 ax_e101 (ax_All.c1 ax_e102 (ax_All.c1 ax_e103 (ax_All.c1 ax_e104 (ax_All.c1 ax_e105 (ax_All.c1 ax_e106 (ax_All.c1 ax_e107 (ax_All.c1 ax_e108 (ax_All.c1 ax_e109 (ax_All.c1 ax_e110 (ax_All.c1 ax_e111 ax_All.n1)))))))))))))))) (ax_All.c2 (ax_All.c1 ax_e112 (ax_All.c1 ax_e113 (ax_All.c1 ax_e114 (ax_All.c1 ax_e115 (ax_All.c1 ax_e116 (ax_All.c1 ax_e117 (ax_All.c1 ax_e118 (ax_All.c1 ax_e119 (ax_All.c1 ax_e120 (ax_All.c1 ax_e121 (ax_All.c1 ax_e122 (ax_All.c1 ax_e123 (ax_All.c1 ax_e124 (ax_All.c1 ax_e125 (ax_All.c1 ax_e126 (ax_All.c1 ax_e127 ax_All.n1)))))))))))))))) (ax_All.c2 (ax_All.c1 ax_e128 (ax_All.c1 ax_e129 (ax_All.c1 ax_e130 (ax_All.c1 ax_e131 (ax_All.c1 ax_e132 (ax_All.c1 ax_e133 (ax_All.c1 ax_e134 (ax_All.c1 ax_e135 (ax_All.c1 ax_e136 (ax_All.c1 ax_e137 (ax_All.c1 ax_e138 (ax_All.c1 ax_e139 (ax_All.c1 ax_e140 (ax_All.c1 ax_e141 (ax_All.c1 ax_e142 (ax_All.c1 ax_e143 ax_All.n1)))))))))))))))) (ax_All.c2 (ax_All.c1 ax_e144 (ax_All.c1 ax_e145 (ax_All.c1 ax_e146 (ax_All.c1 ax_e147 (ax_All.c1 ax_e148 (ax_All.c1 ax_e149 (ax_All.c1 ax_e150 (ax_All.c1 ax_e151 (ax_All.c1 ax_e152 (ax_All.c1 ax_e153 (ax_All.c1 ax_e154 (ax_All.c1 ax_e155 (ax_All.c1 ax_e156 (ax_All.c1 ax_e157 (ax_All.c1 ax_e158 (ax_All.c1 ax_e159 ax_All.n1)))))))))))))))) (ax_All.c2 (ax_All.c1 ax_e160 (ax_All.c1 ax_e161 (ax_All.c1 ax_e162 (ax_All.c1 ax_e163 (ax_All.c1 ax_e164 (ax_All.c1 ax_e165 (ax_All.c1 ax_e166 (ax_All.c1 ax_e167 (ax_All.c1 ax_e168 (ax_All.c1 ax_e169 (ax_All.c1 ax_e170 (ax_All.c1 ax_e171 (ax_All.c1 ax_e172 (ax_All.c1 ax_e173 (ax_All.c1 ax_e174 (ax_All.c1 ax_e175 ax_All.n1)))))))))))))))) (ax_All.c2 (ax_All.c1 ax_e176 (ax_All.c1 ax_e177 (ax_All.c1 ax_e178 (ax_All.c1 ax_e179 (ax_All.c1 ax_e180 (ax_All.c1 ax_e181 (ax_All.c1 ax_e182 (ax_All.c1 ax_e183 (ax_All.c1 ax_e184 (ax_All.c1 ax_e185 (ax_All.c1 ax_e186 (ax_All.c1 ax_e187 (ax_All.c1 ax_e188 (ax_All.c1 ax_e189 (ax_All.c1 ax_e190 (ax_All.c1 ax_e191 ax_All.n1)))))))))))))))) (ax_All.c2 (ax_All.c1 ax_e192 (ax_All.c1 ax_e193 (ax_All.c1 ax_e194 (ax_All.c1 ax_e195 (ax_All.c1 ax_e196 (ax_All.c1 ax_e197 (ax_All.c1 ax_e198 (ax_All.c1 ax_e199 (ax_All.c1 ax_e200 (ax_All.c1 ax_e201 (ax_All.c1 ax_e202 (ax_All.c1 ax_e203 (ax_All.c1 ax_e204 (ax_All.c1 ax_e205 (ax_All.c1 ax_e206 (ax_All.c1 ax_e207 ax_All.n1)))))))))))))))) (ax_All.c2 (ax_All.c1 ax_e208 (ax_All.c1 ax_e209 (ax_All.c1 ax_e210 (ax_All.c1 ax_e211 (ax_All.c1 ax_e212 (ax_All.c1 ax_e213 (ax_All.c1 ax_e214 (ax_All.c1 ax_e215 (ax_All.c1 ax_e216 (ax_All.c1 ax_e217 (ax_All.c1 ax_e218 (ax_All.c1 ax_e219 (ax_All.c1 ax_e220 (ax_All.c1 ax_e221 (ax_All.c1 ax_e222 (ax_All.c1 ax_e223 ax_All.n1)))))))))))))))) (ax_All.c2 (ax_All.c1 ax_e224 (ax_All.c1 ax_e225 (ax_All.c1 ax_e226 (ax_All.c1 ax_e227 (ax_All.c1 ax_e228 (ax_All.c1 ax_e229 (ax_All.c1 ax_e230 (ax_All.c1 ax_e231 (ax_All.c1 ax_e232 (ax_All.c1 ax_e233 (ax_All.c1 ax_e234 (ax_All.c1 ax_e235 (ax_All.c1 ax_e236 (ax_All.c1 ax_e237 (ax_All.c1 ax_e238 (ax_All.c1 ax_e239 ax_All.n1)))))))))))))))) (ax_All.c2 (ax_All.c1 ax_e240 (ax_All.c1 ax_e241 (ax_All.c1 ax_e242 (ax_All.c1 ax_e243 (ax_All.c1 ax_e244 (ax_All.c1 ax_e245 (ax_All.c1 ax_e246 (ax_All.c1 ax_e247 (ax_All.c1 ax_e248 (ax_All.c1 ax_e249 (ax_All.c1 ax_e250 (ax_All.c1 ax_e251 (ax_All.c1 ax_e252 (ax_All.c1 ax_e253 (ax_All.c1 ax_e254 (ax_All.c1 ax_e255 ax_All.n1)))))))))))))))) (ax_All.c2 (ax_All.c1 ax_e256 (ax_All.c1 ax_e257 (ax_All.c1 ax_e258 ax_All.n1))) ax_All.n2)))))))))))))))))
set_option maxRecDepth 100000 in
theorem ax_f0 : ax_mkb ax_q0 (1197, 1012, false, 1196) = true := by decide +kernel
set_option maxRecDepth 100000 in
theorem ax_f1 : ax_mkb ax_q1 (3115, 1012, false, 3113) = true := by decide +kernel
set_option maxRecDepth 100000 in
theorem ax_f2 : ax_mkb ax_q2 (3136, 1012, false, 3134) = true := by decide +kernel
set_option maxRecDepth 100000 in
theorem ax_f3 : ax_mkb ax_q3 (3131, 1012, false, 3129) = true := by decide +kernel
set_option maxRecDepth 100000 in
theorem ax_f4 : ax_mkb ax_q4 (3119, 1012, false, 3117) = true := by decide +kernel
set_option maxRecDepth 100000 in
theorem ax_f5 : ax_mkb ax_q5 (6049, 1012, false, 6047) = true := by decide +kernel
set_option maxRecDepth 100000 in
theorem ax_f6 : ax_mkb ax_q6 (1148, 1009, false, 1147) = true := by decide +kernel
set_option maxRecDepth 100000 in
theorem ax_f7 : ax_mkb ax_q7 (3091, 1009, false, 3089) = true := by decide +kernel
set_option maxRecDepth 100000 in
theorem ax_f8 : ax_mkb ax_q8 (5047, 1009, false, 5045) = true := by decide +kernel
set_option maxRecDepth 100000 in
theorem ax_f9 : ax_mkb ax_q9 (5176, 1009, false, 5174) = true := by decide +kernel
set_option maxRecDepth 100000 in
theorem ax_f10 : ax_mkb ax_q10 (5172, 1009, false, 5170) = true := by decide +kernel
set_option maxRecDepth 100000 in
theorem ax_f11 : ax_mkb ax_q11 (3127, 1009, false, 3125) = true := by decide +kernel
set_option maxRecDepth 100000 in
theorem ax_f12 : ax_mkb ax_q12 (5217, 1009, false, 5215) = true := by decide +kernel
set_option maxRecDepth 100000 in
theorem ax_f13 : ax_mkb ax_q13 (3123, 1009, false, 3121) = true := by decide +kernel
set_option maxRecDepth 100000 in
theorem ax_f14 : ax_mkb ax_q14 (5084, 1009, false, 5082) = true := by decide +kernel
set_option maxRecDepth 100000 in
theorem ax_f15 : ax_mkb ax_q15 (5088, 1009, false, 5087) = true := by decide +kernel
set_option maxRecDepth 100000 in
theorem ax_f16 : ax_mkb ax_q16 (4227, 1009, false, 4225) = true := by decide +kernel
set_option maxRecDepth 100000 in
theorem ax_f17 : ax_mkb ax_q17 (4233, 1009, false, 4232) = true := by decide +kernel
set_option maxRecDepth 100000 in
theorem ax_f18 : ax_mkb ax_q18 (2115, 1009, false, 2113) = true := by decide +kernel
set_option maxRecDepth 100000 in
theorem ax_f19 : ax_mkb ax_q19 (1131, 1008, false, 1130) = true := by decide +kernel
set_option maxRecDepth 100000 in
theorem ax_f20 : ax_mkb ax_q20 (3068, 1008, false, 3066) = true := by decide +kernel
set_option maxRecDepth 100000 in
theorem ax_f21 : ax_mkb ax_q21 (3073, 1008, false, 3071) = true := by decide +kernel
set_option maxRecDepth 100000 in
theorem ax_f22 : ax_mkb ax_q22 (5114, 1008, false, 5112) = true := by decide +kernel
set_option maxRecDepth 100000 in
theorem ax_f23 : ax_mkb ax_q23 (5146, 1008, false, 5144) = true := by decide +kernel
set_option maxRecDepth 100000 in
theorem ax_f24 : ax_mkb ax_q24 (5157, 1008, false, 5155) = true := by decide +kernel
set_option maxRecDepth 100000 in
theorem ax_f25 : ax_mkb ax_q25 (5181, 1008, false, 5179) = true := by decide +kernel
set_option maxRecDepth 100000 in
theorem ax_f26 : ax_mkb ax_q26 (3081, 1008, false, 3079) = true := by decide +kernel
set_option maxRecDepth 100000 in
theorem ax_f27 : ax_mkb ax_q27 (5122, 1008, false, 5120) = true := by decide +kernel
set_option maxRecDepth 100000 in
theorem ax_f28 : ax_mkb ax_q28 (1182, 1011, false, 1181) = true := by decide +kernel
set_option maxRecDepth 100000 in
theorem ax_f29 : ax_mkb ax_q29 (5236, 1011, false, 5234) = true := by decide +kernel
set_option maxRecDepth 100000 in
theorem ax_f30 : ax_mkb ax_q30 (6045, 1011, false, 6043) = true := by decide +kernel
set_option maxRecDepth 100000 in
theorem ax_f31 : ax_mkb ax_q31 (6155, 1011, false, 6153) = true := by decide +kernel
set_option maxRecDepth 100000 in
theorem ax_f32 : ax_mkb ax_q32 (5232, 1011, false, 5230) = true := by decide +kernel
set_option maxRecDepth 100000 in
theorem ax_f33 : ax_mkb ax_q33 (2074, 1011, false, 2072) = true := by decide +kernel
set_option maxRecDepth 100000 in
theorem ax_f34 : ax_mkb ax_q34 (1169, 1010, false, 1168) = true := by decide +kernel
set_option maxRecDepth 100000 in
theorem ax_f35 : ax_mkb ax_q35 (6118, 1010, false, 6116) = true := by decide +kernel
set_option maxRecDepth 100000 in
theorem ax_f36 : ax_mkb ax_q36 (3107, 1010, false, 3105) = true := by decide +kernel
set_option maxRecDepth 100000 in
theorem ax_f37 : ax_mkb ax_q37 (3095, 1010, false, 3093) = true := by decide +kernel
set_option maxRecDepth 100000 in
theorem ax_f38 : ax_mkb ax_q38 (6110, 1010, false, 6108) = true := by decide +kernel
set_option maxRecDepth 100000 in
theorem ax_f39 : ax_mkb ax_q39 (3099, 1010, false, 3098) = true := by decide +kernel
set_option maxRecDepth 100000 in
theorem ax_f40 : ax_mkb ax_q40 (1218, 1014, false, 1217) = true := by decide +kernel
set_option maxRecDepth 100000 in
theorem ax_f41 : ax_mkb ax_q41 (6160, 1014, false, 6158) = true := by decide +kernel
set_option maxRecDepth 100000 in
theorem ax_f42 : ax_mkb ax_q42 (3103, 1014, false, 3101) = true := by decide +kernel
set_option maxRecDepth 100000 in
theorem ax_f43 : ax_mkb ax_q43 (3160, 1014, false, 3158) = true := by decide +kernel
set_option maxRecDepth 100000 in
theorem ax_f44 : ax_mkb ax_q44 (2082, 1014, false, 2080) = true := by decide +kernel
set_option maxRecDepth 100000 in
theorem ax_f45 : ax_mkb ax_q45 (2105, 1014, false, 2103) = true := by decide +kernel
set_option maxRecDepth 100000 in
theorem ax_f46 : ax_mkb ax_q46 (6114, 1014, false, 6112) = true := by decide +kernel
set_option maxRecDepth 100000 in
theorem ax_f47 : ax_mkb ax_q47 (2089, 1014, false, 2088) = true := by decide +kernel
set_option maxRecDepth 100000 in
theorem ax_f48 : ax_mkb ax_q48 (1061, 1003, false, 1060) = true := by decide +kernel
set_option maxRecDepth 100000 in
theorem ax_f49 : ax_mkb ax_q49 (3047, 1003, false, 3045) = true := by decide +kernel
set_option maxRecDepth 100000 in
theorem ax_f50 : ax_mkb ax_q50 (3056, 1003, false, 3054) = true := by decide +kernel
set_option maxRecDepth 100000 in
theorem ax_f51 : ax_mkb ax_q51 (3141, 1003, false, 3139) = true := by decide +kernel
set_option maxRecDepth 100000 in
theorem ax_f52 : ax_mkb ax_q52 (3060, 1003, false, 3058) = true := by decide +kernel
set_option maxRecDepth 100000 in
theorem ax_f53 : ax_mkb ax_q53 (3145, 1003, false, 3143) = true := by decide +kernel
set_option maxRecDepth 100000 in
theorem ax_f54 : ax_mkb ax_q54 (3064, 1003, false, 3063) = true := by decide +kernel
set_option maxRecDepth 100000 in
theorem ax_f55 : ax_mkb ax_q55 (2234, 1003, false, 2232) = true := by decide +kernel
set_option maxRecDepth 100000 in
theorem ax_f56 : ax_mkb ax_q56 (3022, 1003, false, 3021) = true := by decide +kernel
set_option maxRecDepth 100000 in
theorem ax_f57 : ax_mkb ax_q57 (3030, 1003, false, 3029) = true := by decide +kernel
set_option maxRecDepth 100000 in
theorem ax_f58 : ax_mkb ax_q58 (3034, 1003, false, 3033) = true := by decide +kernel
set_option maxRecDepth 100000 in
theorem ax_f59 : ax_mkb ax_q59 (3038, 1003, false, 3037) = true := by decide +kernel
set_option maxRecDepth 100000 in
theorem ax_f60 : ax_mkb ax_q60 (3026, 1003, false, 3025) = true := by decide +kernel
set_option maxRecDepth 100000 in
theorem ax_f61 : ax_mkb ax_q61 (2239, 1003, false, 2238) = true := by decide +kernel
set_option maxRecDepth 100000 in
theorem ax_f62 : ax_mkb ax_q62 (3010, 1003, false, 3009) = true := by decide +kernel
set_option maxRecDepth 100000 in
theorem ax_f63 : ax_mkb ax_q63 (3018, 1003, false, 3017) = true := by decide +kernel
set_option maxRecDepth 100000 in
theorem ax_f64 : ax_mkb ax_q64 (3014, 1003, false, 3013) = true := by decide +kernel
set_option maxRecDepth 100000 in
theorem ax_f65 : ax_mkb ax_q65 (3006, 1003, true, 3005) = true := by decide +kernel
set_option maxRecDepth 100000 in
theorem ax_f66 : ax_mkb ax_q66 (1046, 1002, false, 1045) = true := by decide +kernel
set_option maxRecDepth 100000 in
theorem ax_f67 : ax_mkb ax_q67 (2199, 1002, false, 2197) = true := by decide +kernel
set_option maxRecDepth 100000 in
theorem ax_f68 : ax_mkb ax_q68 (3003, 1002, false, 3001) = true := by decide +kernel
set_option maxRecDepth 100000 in
theorem ax_f69 : ax_mkb ax_q69 (1038, 1001, false, 1037) = true := by decide +kernel
set_option maxRecDepth 100000 in
theorem ax_f70 : ax_mkb ax_q70 (2124, 1001, false, 2122) = true := by decide +kernel
set_option maxRecDepth 100000 in
theorem ax_f71 : ax_mkb ax_q71 (2207, 1001, false, 2205) = true := by decide +kernel
set_option maxRecDepth 100000 in
theorem ax_f72 : ax_mkb ax_q72 (2230, 1001, false, 2228) = true := by decide +kernel
set_option maxRecDepth 100000 in
theorem ax_f73 : ax_mkb ax_q73 (3152, 1001, false, 3150) = true := by decide +kernel
set_option maxRecDepth 100000 in
theorem ax_f74 : ax_mkb ax_q74 (2046, 1001, false, 2044) = true := by decide +kernel
set_option maxRecDepth 100000 in
theorem ax_f75 : ax_mkb ax_q75 (3191, 1001, false, 3189) = true := by decide +kernel
set_option maxRecDepth 100000 in
theorem ax_f76 : ax_mkb ax_q76 (5025, 1001, false, 5023) = true := by decide +kernel
set_option maxRecDepth 100000 in
theorem ax_f77 : ax_mkb ax_q77 (2050, 1001, false, 2048) = true := by decide +kernel
set_option maxRecDepth 100000 in
theorem ax_f78 : ax_mkb ax_q78 (5043, 1001, false, 5041) = true := by decide +kernel
set_option maxRecDepth 100000 in
theorem ax_f79 : ax_mkb ax_q79 (5054, 1001, false, 5052) = true := by decide +kernel
set_option maxRecDepth 100000 in
theorem ax_f80 : ax_mkb ax_q80 (5061, 1001, false, 5059) = true := by decide +kernel
set_option maxRecDepth 100000 in
theorem ax_f81 : ax_mkb ax_q81 (5072, 1001, false, 5070) = true := by decide +kernel
set_option maxRecDepth 100000 in
theorem ax_f82 : ax_mkb ax_q82 (5080, 1001, false, 5078) = true := by decide +kernel
set_option maxRecDepth 100000 in
theorem ax_f83 : ax_mkb ax_q83 (5109, 1001, false, 5107) = true := by decide +kernel
set_option maxRecDepth 100000 in
theorem ax_f84 : ax_mkb ax_q84 (5133, 1001, false, 5131) = true := by decide +kernel
set_option maxRecDepth 100000 in
theorem ax_f85 : ax_mkb ax_q85 (5141, 1001, false, 5139) = true := by decide +kernel
set_option maxRecDepth 100000 in
theorem ax_f86 : ax_mkb ax_q86 (5153, 1001, false, 5151) = true := by decide +kernel
set_option maxRecDepth 100000 in
theorem ax_f87 : ax_mkb ax_q87 (5164, 1001, false, 5162) = true := by decide +kernel
set_option maxRecDepth 100000 in
theorem ax_f88 : ax_mkb ax_q88 (5188, 1001, false, 5186) = true := by decide +kernel
set_option maxRecDepth 100000 in
theorem ax_f89 : ax_mkb ax_q89 (5201, 1001, false, 5199) = true := by decide +kernel
set_option maxRecDepth 100000 in
theorem ax_f90 : ax_mkb ax_q90 (5209, 1001, false, 5207) = true := by decide +kernel
set_option maxRecDepth 100000 in
theorem ax_f91 : ax_mkb ax_q91 (5224, 1001, false, 5222) = true := by decide +kernel
set_option maxRecDepth 100000 in
theorem ax_f92 : ax_mkb ax_q92 (6003, 1001, false, 6001) = true := by decide +kernel
set_option maxRecDepth 100000 in
theorem ax_f93 : ax_mkb ax_q93 (6015, 1001, false, 6013) = true := by decide +kernel
set_option maxRecDepth 100000 in
theorem ax_f94 : ax_mkb ax_q94 (6038, 1001, false, 6036) = true := by decide +kernel
set_option maxRecDepth 100000 in
theorem ax_f95 : ax_mkb ax_q95 (6057, 1001, false, 6055) = true := by decide +kernel
set_option maxRecDepth 100000 in
theorem ax_f96 : ax_mkb ax_q96 (2054, 1001, false, 2052) = true := by decide +kernel
set_option maxRecDepth 100000 in
theorem ax_f97 : ax_mkb ax_q97 (2058, 1001, false, 2056) = true := by decide +kernel
set_option maxRecDepth 100000 in
theorem ax_f98 : ax_mkb ax_q98 (6065, 1001, false, 6063) = true := by decide +kernel
set_option maxRecDepth 100000 in
theorem ax_f99 : ax_mkb ax_q99 (2062, 1001, false, 2060) = true := by decide +kernel
set_option maxRecDepth 100000 in
theorem ax_f100 : ax_mkb ax_q100 (6072, 1001, false, 6070) = true := by decide +kernel
set_option maxRecDepth 100000 in
theorem ax_f101 : ax_mkb ax_q101 (2101, 1001, false, 2099) = true := by decide +kernel
set_option maxRecDepth 100000 in
theorem ax_f102 : ax_mkb ax_q102 (6083, 1001, false, 6081) = true := by decide +kernel
set_option maxRecDepth 100000 in
theorem ax_f103 : ax_mkb ax_q103 (6094, 1001, false, 6092) = true := by decide +kernel
set_option maxRecDepth 100000 in
theorem ax_f104 : ax_mkb ax_q104 (6102, 1001, false, 6100) = true := by decide +kernel
set_option maxRecDepth 100000 in
theorem ax_f105 : ax_mkb ax_q105 (6127, 1001, false, 6125) = true := by decide +kernel
set_option maxRecDepth 100000 in
theorem ax_f106 : ax_mkb ax_q106 (6134, 1001, false, 6132) = true := by decide +kernel
set_option maxRecDepth 100000 in
theorem ax_f107 : ax_mkb ax_q107 (6143, 1001, false, 6141) = true := by decide +kernel
set_option maxRecDepth 100000 in
theorem ax_f108 : ax_mkb ax_q108 (6150, 1001, false, 6148) = true := by decide +kernel
set_option maxRecDepth 100000 in
theorem ax_f109 : ax_mkb ax_q109 (6168, 1001, false, 6166) = true := by decide +kernel
set_option maxRecDepth 100000 in
theorem ax_f110 : ax_mkb ax_q110 (2109, 1001, false, 2107) = true := by decide +kernel
set_option maxRecDepth 100000 in
theorem ax_f111 : ax_mkb ax_q111 (3195, 1001, false, 3194) = true := by decide +kernel
set_option maxRecDepth 100000 in
theorem ax_f112 : ax_mkb ax_q112 (5064, 1001, true, 5063) = true := by decide +kernel
set_option maxRecDepth 100000 in
theorem ax_f113 : ax_mkb ax_q113 (5167, 1001, true, 5166) = true := by decide +kernel
set_option maxRecDepth 100000 in
theorem ax_f114 : ax_mkb ax_q114 (6006, 1001, true, 6005) = true := by decide +kernel
set_option maxRecDepth 100000 in
theorem ax_f115 : ax_mkb ax_q115 (3051, 1001, false, 3050) = true := by decide +kernel
set_option maxRecDepth 100000 in
theorem ax_f116 : ax_mkb ax_q116 (6075, 1001, true, 6074) = true := by decide +kernel
set_option maxRecDepth 100000 in
theorem ax_f117 : ax_mkb ax_q117 (3042, 1001, false, 3041) = true := by decide +kernel
set_option maxRecDepth 100000 in
theorem ax_f118 : ax_mkb ax_q118 (5118, 1001, false, 5117) = true := by decide +kernel
set_option maxRecDepth 100000 in
theorem ax_f119 : ax_mkb ax_q119 (3077, 1001, false, 3076) = true := by decide +kernel
set_option maxRecDepth 100000 in
theorem ax_f120 : ax_mkb ax_q120 (3156, 1001, false, 3155) = true := by decide +kernel
set_option maxRecDepth 100000 in
theorem ax_f121 : ax_mkb ax_q121 (3111, 1001, false, 3110) = true := by decide +kernel
set_option maxRecDepth 100000 in
theorem ax_f122 : ax_mkb ax_q122 (2066, 1001, false, 2065) = true := by decide +kernel
set_option maxRecDepth 100000 in
theorem ax_f123 : ax_mkb ax_q123 (2070, 1001, false, 2069) = true := by decide +kernel
set_option maxRecDepth 100000 in
theorem ax_f124 : ax_mkb ax_q124 (2078, 1001, false, 2077) = true := by decide +kernel
set_option maxRecDepth 100000 in
theorem ax_f125 : ax_mkb ax_q125 (6087, 1001, false, 6086) = true := by decide +kernel
set_option maxRecDepth 100000 in
theorem ax_f126 : ax_mkb ax_q126 (6106, 1001, false, 6105) = true := by decide +kernel
set_option maxRecDepth 100000 in
theorem ax_f127 : ax_mkb ax_q127 (5213, 1001, false, 5212) = true := by decide +kernel
set_option maxRecDepth 100000 in
theorem ax_f128 : ax_mkb ax_q128 (5228, 1001, false, 5227) = true := by decide +kernel
set_option maxRecDepth 100000 in
theorem ax_f129 : ax_mkb ax_q129 (5193, 1001, true, 5192) = true := by decide +kernel
set_option maxRecDepth 100000 in
theorem ax_f130 : ax_mkb ax_q130 (6174, 1015, false, 6173) = true := by decide +kernel
set_option maxRecDepth 100000 in
theorem ax_f131 : ax_mkb ax_q131 (7037, 1015, false, 7035) = true := by decide +kernel
set_option maxRecDepth 100000 in
theorem ax_f132 : ax_mkb ax_q132 (7045, 1015, false, 7044) = true := by decide +kernel
set_option maxRecDepth 100000 in
theorem ax_f133 : ax_mkb ax_q133 (7163, 1015, false, 7162) = true := by decide +kernel
set_option maxRecDepth 100000 in
theorem ax_f134 : ax_mkb ax_q134 (8010, 1015, true, 8009) = true := by decide +kernel
set_option maxRecDepth 100000 in
theorem ax_f135 : ax_mkb ax_q135 (7199, 1015, true, 7198) = true := by decide +kernel
set_option maxRecDepth 100000 in
theorem ax_f136 : ax_mkb ax_q136 (7124, 1015, false, 7123) = true := by decide +kernel
set_option maxRecDepth 100000 in
theorem ax_f137 : ax_mkb ax_q137 (7098, 1015, false, 7097) = true := by decide +kernel
set_option maxRecDepth 100000 in
theorem ax_f138 : ax_mkb ax_q138 (7102, 1015, false, 7101) = true := by decide +kernel
set_option maxRecDepth 100000 in
theorem ax_f139 : ax_mkb ax_q139 (7219, 1015, false, 7218) = true := by decide +kernel
set_option maxRecDepth 100000 in
theorem ax_f140 : ax_mkb ax_q140 (7106, 1015, false, 7105) = true := by decide +kernel
set_option maxRecDepth 100000 in
theorem ax_f141 : ax_mkb ax_q141 (7227, 1015, false, 7226) = true := by decide +kernel
set_option maxRecDepth 100000 in
theorem ax_f142 : ax_mkb ax_q142 (7112, 1015, false, 7111) = true := by decide +kernel
set_option maxRecDepth 100000 in
theorem ax_f143 : ax_mkb ax_q143 (7041, 1015, false, 7039) = true := by decide +kernel
set_option maxRecDepth 100000 in
theorem ax_f144 : ax_mkb ax_q144 (7049, 1015, false, 7047) = true := by decide +kernel
set_option maxRecDepth 100000 in
theorem ax_f145 : ax_mkb ax_q145 (7065, 1015, false, 7064) = true := by decide +kernel
set_option maxRecDepth 100000 in
theorem ax_f146 : ax_mkb ax_q146 (7068, 1015, true, 7067) = true := by decide +kernel
set_option maxRecDepth 100000 in
theorem ax_f147 : ax_mkb ax_q147 (7061, 1015, false, 7060) = true := by decide +kernel
set_option maxRecDepth 100000 in
theorem ax_f148 : ax_mkb ax_q148 (7080, 1015, false, 7079) = true := by decide +kernel
set_option maxRecDepth 100000 in
theorem ax_f149 : ax_mkb ax_q149 (7086, 1015, false, 7085) = true := by decide +kernel
set_option maxRecDepth 100000 in
theorem ax_f150 : ax_mkb ax_q150 (7076, 1015, false, 7075) = true := by decide +kernel
set_option maxRecDepth 100000 in
theorem ax_f151 : ax_mkb ax_q151 (7072, 1015, false, 7071) = true := by decide +kernel
set_option maxRecDepth 100000 in
theorem ax_f152 : ax_mkb ax_q152 (7057, 1015, false, 7056) = true := by decide +kernel
set_option maxRecDepth 100000 in
theorem ax_f153 : ax_mkb ax_q153 (7094, 1015, false, 7093) = true := by decide +kernel
set_option maxRecDepth 100000 in
theorem ax_f154 : ax_mkb ax_q154 (7090, 1015, false, 7089) = true := by decide +kernel
set_option maxRecDepth 100000 in
theorem ax_f155 : ax_mkb ax_q155 (7132, 1015, false, 7131) = true := by decide +kernel
set_option maxRecDepth 100000 in
theorem ax_f156 : ax_mkb ax_q156 (7053, 1015, false, 7051) = true := by decide +kernel
set_option maxRecDepth 100000 in
theorem ax_f157 : ax_mkb ax_q157 (7151, 1015, false, 7150) = true := by decide +kernel
set_option maxRecDepth 100000 in
theorem ax_f158 : ax_mkb ax_q158 (7140, 1015, false, 7139) = true := by decide +kernel
set_option maxRecDepth 100000 in
theorem ax_f159 : ax_mkb ax_q159 (7136, 1015, false, 7134) = true := by decide +kernel
set_option maxRecDepth 100000 in
theorem ax_f160 : ax_mkb ax_q160 (7155, 1015, false, 7153) = true := by decide +kernel
set_option maxRecDepth 100000 in
theorem ax_f161 : ax_mkb ax_q161 (7167, 1015, false, 7166) = true := by decide +kernel
set_option maxRecDepth 100000 in
theorem ax_f162 : ax_mkb ax_q162 (7171, 1015, false, 7170) = true := by decide +kernel
set_option maxRecDepth 100000 in
theorem ax_f163 : ax_mkb ax_q163 (7159, 1015, false, 7157) = true := by decide +kernel
set_option maxRecDepth 100000 in
theorem ax_f164 : ax_mkb ax_q164 (7176, 1015, false, 7174) = true := by decide +kernel
set_option maxRecDepth 100000 in
theorem ax_f165 : ax_mkb ax_q165 (7180, 1015, false, 7178) = true := by decide +kernel
set_option maxRecDepth 100000 in
theorem ax_f166 : ax_mkb ax_q166 (7188, 1015, false, 7187) = true := by decide +kernel
set_option maxRecDepth 100000 in
theorem ax_f167 : ax_mkb ax_q167 (7184, 1015, false, 7182) = true := by decide +kernel
set_option maxRecDepth 100000 in
theorem ax_f168 : ax_mkb ax_q168 (7192, 1015, false, 7190) = true := by decide +kernel
set_option maxRecDepth 100000 in
theorem ax_f169 : ax_mkb ax_q169 (7196, 1015, false, 7194) = true := by decide +kernel
set_option maxRecDepth 100000 in
theorem ax_f170 : ax_mkb ax_q170 (7120, 1015, false, 7119) = true := by decide +kernel
set_option maxRecDepth 100000 in
theorem ax_f171 : ax_mkb ax_q171 (7203, 1015, false, 7201) = true := by decide +kernel
set_option maxRecDepth 100000 in
theorem ax_f172 : ax_mkb ax_q172 (7211, 1015, false, 7210) = true := by decide +kernel
set_option maxRecDepth 100000 in
theorem ax_f173 : ax_mkb ax_q173 (7207, 1015, false, 7205) = true := by decide +kernel
set_option maxRecDepth 100000 in
theorem ax_f174 : ax_mkb ax_q174 (7223, 1015, false, 7222) = true := by decide +kernel
set_option maxRecDepth 100000 in
theorem ax_f175 : ax_mkb ax_q175 (7215, 1015, false, 7213) = true := by decide +kernel
set_option maxRecDepth 100000 in
theorem ax_f176 : ax_mkb ax_q176 (7232, 1015, false, 7230) = true := by decide +kernel
set_option maxRecDepth 100000 in
theorem ax_f177 : ax_mkb ax_q177 (7239, 1015, true, 7238) = true := by decide +kernel
set_option maxRecDepth 100000 in
theorem ax_f178 : ax_mkb ax_q178 (7236, 1015, false, 7234) = true := by decide +kernel
set_option maxRecDepth 100000 in
theorem ax_f179 : ax_mkb ax_q179 (8003, 1015, false, 8001) = true := by decide +kernel
set_option maxRecDepth 100000 in
theorem ax_f180 : ax_mkb ax_q180 (8007, 1015, false, 8005) = true := by decide +kernel
set_option maxRecDepth 100000 in
theorem ax_f181 : ax_mkb ax_q181 (8017, 1015, true, 8016) = true := by decide +kernel
set_option maxRecDepth 100000 in
theorem ax_f182 : ax_mkb ax_q182 (8014, 1015, false, 8012) = true := by decide +kernel
set_option maxRecDepth 100000 in
theorem ax_f183 : ax_mkb ax_q183 (8021, 1015, false, 8019) = true := by decide +kernel
set_option maxRecDepth 100000 in
theorem ax_f184 : ax_mkb ax_q184 (8029, 1015, false, 8028) = true := by decide +kernel
set_option maxRecDepth 100000 in
theorem ax_f185 : ax_mkb ax_q185 (8025, 1015, false, 8023) = true := by decide +kernel
set_option maxRecDepth 100000 in
theorem ax_f186 : ax_mkb ax_q186 (8033, 1015, false, 8031) = true := by decide +kernel
set_option maxRecDepth 100000 in
theorem ax_f187 : ax_mkb ax_q187 (8036, 1015, true, 8035) = true := by decide +kernel
set_option maxRecDepth 100000 in
theorem ax_f188 : ax_mkb ax_q188 (8043, 1015, true, 8042) = true := by decide +kernel
set_option maxRecDepth 100000 in
theorem ax_f189 : ax_mkb ax_q189 (8040, 1015, false, 8038) = true := by decide +kernel
set_option maxRecDepth 100000 in
theorem ax_f190 : ax_mkb ax_q190 (8047, 1015, false, 8045) = true := by decide +kernel
set_option maxRecDepth 100000 in
theorem ax_f191 : ax_mkb ax_q191 (7116, 1015, false, 7115) = true := by decide +kernel
set_option maxRecDepth 100000 in
theorem ax_f192 : ax_mkb ax_q192 (7128, 1015, false, 7127) = true := by decide +kernel
set_option maxRecDepth 100000 in
theorem ax_f193 : ax_mkb ax_q193 (8055, 1015, false, 8054) = true := by decide +kernel
set_option maxRecDepth 100000 in
theorem ax_f194 : ax_mkb ax_q194 (8051, 1015, false, 8049) = true := by decide +kernel
set_option maxRecDepth 100000 in
theorem ax_f195 : ax_mkb ax_q195 (8059, 1015, false, 8057) = true := by decide +kernel
set_option maxRecDepth 100000 in
theorem ax_f196 : ax_mkb ax_q196 (8063, 1015, false, 8061) = true := by decide +kernel
set_option maxRecDepth 100000 in
theorem ax_f197 : ax_mkb ax_q197 (8067, 1015, false, 8065) = true := by decide +kernel
set_option maxRecDepth 100000 in
theorem ax_f198 : ax_mkb ax_q198 (8071, 1015, false, 8069) = true := by decide +kernel
set_option maxRecDepth 100000 in
theorem ax_f199 : ax_mkb ax_q199 (7147, 1015, true, 7146) = true := by decide +kernel
set_option maxRecDepth 100000 in
theorem ax_f200 : ax_mkb ax_q200 (7144, 1015, false, 7143) = true := by decide +kernel
set_option maxRecDepth 100000 in
theorem ax_f201 : ax_mkb ax_q201 (8083, 1015, false, 8082) = true := by decide +kernel
set_option maxRecDepth 100000 in
theorem ax_f202 : ax_mkb ax_q202 (8079, 1015, false, 8078) = true := by decide +kernel
set_option maxRecDepth 100000 in
theorem ax_f203 : ax_mkb ax_q203 (8075, 1015, false, 8073) = true := by decide +kernel
set_option maxRecDepth 100000 in
theorem ax_f204 : ax_mkb ax_q204 (8090, 1015, true, 8089) = true := by decide +kernel
set_option maxRecDepth 100000 in
theorem ax_f205 : ax_mkb ax_q205 (8087, 1015, false, 8085) = true := by decide +kernel
set_option maxRecDepth 100000 in
theorem ax_f206 : ax_mkb ax_q206 (8094, 1015, false, 8092) = true := by decide +kernel
set_option maxRecDepth 100000 in
theorem ax_f207 : ax_mkb ax_q207 (8098, 1015, false, 8096) = true := by decide +kernel
set_option maxRecDepth 100000 in
theorem ax_f208 : ax_mkb ax_q208 (8102, 1015, false, 8100) = true := by decide +kernel
set_option maxRecDepth 100000 in
theorem ax_f209 : ax_mkb ax_q209 (8114, 1015, false, 8113) = true := by decide +kernel
set_option maxRecDepth 100000 in
theorem ax_f210 : ax_mkb ax_q210 (8110, 1015, false, 8109) = true := by decide +kernel
set_option maxRecDepth 100000 in
theorem ax_f211 : ax_mkb ax_q211 (8106, 1015, false, 8104) = true := by decide +kernel
set_option maxRecDepth 100000 in
theorem ax_f212 : ax_mkb ax_q212 (8118, 1015, false, 8116) = true := by decide +kernel
set_option maxRecDepth 100000 in
theorem ax_f213 : ax_mkb ax_q213 (8126, 1015, false, 8125) = true := by decide +kernel
set_option maxRecDepth 100000 in
theorem ax_f214 : ax_mkb ax_q214 (8122, 1015, false, 8120) = true := by decide +kernel
set_option maxRecDepth 100000 in
theorem ax_f215 : ax_mkb ax_q215 (8130, 1015, false, 8128) = true := by decide +kernel
set_option maxRecDepth 100000 in
theorem ax_f216 : ax_mkb ax_q216 (8134, 1015, false, 8132) = true := by decide +kernel
set_option maxRecDepth 100000 in
theorem ax_f217 : ax_mkb ax_q217 (8138, 1015, false, 8136) = true := by decide +kernel
set_option maxRecDepth 100000 in
theorem ax_f218 : ax_mkb ax_q218 (8142, 1015, false, 8140) = true := by decide +kernel
set_option maxRecDepth 100000 in
theorem ax_f219 : ax_mkb ax_q219 (2119, 1000, true, 2118) = true := by decide +kernel
set_option maxRecDepth 100000 in
theorem ax_f220 : ax_mkb ax_q220 (2202, 1000, true, 2201) = true := by decide +kernel
set_option maxRecDepth 100000 in
theorem ax_f221 : ax_mkb ax_q221 (2226, 1000, true, 2225) = true := by decide +kernel
set_option maxRecDepth 100000 in
theorem ax_f222 : ax_mkb ax_q222 (3148, 1000, true, 3147) = true := by decide +kernel
set_option maxRecDepth 100000 in
theorem ax_f223 : ax_mkb ax_q223 (3163, 1000, true, 3162) = true := by decide +kernel
set_option maxRecDepth 100000 in
theorem ax_f224 : ax_mkb ax_q224 (5021, 1000, true, 5020) = true := by decide +kernel
set_option maxRecDepth 100000 in
theorem ax_f225 : ax_mkb ax_q225 (5039, 1000, true, 5038) = true := by decide +kernel
set_option maxRecDepth 100000 in
theorem ax_f226 : ax_mkb ax_q226 (5050, 1000, true, 5049) = true := by decide +kernel
set_option maxRecDepth 100000 in
theorem ax_f227 : ax_mkb ax_q227 (5057, 1000, true, 5056) = true := by decide +kernel
set_option maxRecDepth 100000 in
theorem ax_f228 : ax_mkb ax_q228 (5068, 1000, true, 5067) = true := by decide +kernel
set_option maxRecDepth 100000 in
theorem ax_f229 : ax_mkb ax_q229 (5076, 1000, true, 5075) = true := by decide +kernel
set_option maxRecDepth 100000 in
theorem ax_f230 : ax_mkb ax_q230 (5091, 1000, true, 5090) = true := by decide +kernel
set_option maxRecDepth 100000 in
theorem ax_f231 : ax_mkb ax_q231 (5129, 1000, true, 5128) = true := by decide +kernel
set_option maxRecDepth 100000 in
theorem ax_f232 : ax_mkb ax_q232 (5137, 1000, true, 5136) = true := by decide +kernel
set_option maxRecDepth 100000 in
theorem ax_f233 : ax_mkb ax_q233 (5149, 1000, true, 5148) = true := by decide +kernel
set_option maxRecDepth 100000 in
theorem ax_f234 : ax_mkb ax_q234 (5160, 1000, true, 5159) = true := by decide +kernel
set_option maxRecDepth 100000 in
theorem ax_f235 : ax_mkb ax_q235 (5184, 1000, true, 5183) = true := by decide +kernel
set_option maxRecDepth 100000 in
theorem ax_f236 : ax_mkb ax_q236 (5197, 1000, true, 5196) = true := by decide +kernel
set_option maxRecDepth 100000 in
theorem ax_f237 : ax_mkb ax_q237 (5205, 1000, true, 5204) = true := by decide +kernel
set_option maxRecDepth 100000 in
theorem ax_f238 : ax_mkb ax_q238 (5220, 1000, true, 5219) = true := by decide +kernel
set_option maxRecDepth 100000 in
theorem ax_f239 : ax_mkb ax_q239 (5239, 1000, true, 5238) = true := by decide +kernel
set_option maxRecDepth 100000 in
theorem ax_f240 : ax_mkb ax_q240 (6010, 1000, true, 6009) = true := by decide +kernel
set_option maxRecDepth 100000 in
theorem ax_f241 : ax_mkb ax_q241 (6034, 1000, true, 6033) = true := by decide +kernel
set_option maxRecDepth 100000 in
theorem ax_f242 : ax_mkb ax_q242 (6053, 1000, true, 6052) = true := by decide +kernel
set_option maxRecDepth 100000 in
theorem ax_f243 : ax_mkb ax_q243 (6061, 1000, true, 6060) = true := by decide +kernel
set_option maxRecDepth 100000 in
theorem ax_f244 : ax_mkb ax_q244 (6068, 1000, true, 6067) = true := by decide +kernel
set_option maxRecDepth 100000 in
theorem ax_f245 : ax_mkb ax_q245 (6079, 1000, true, 6078) = true := by decide +kernel
set_option maxRecDepth 100000 in
theorem ax_f246 : ax_mkb ax_q246 (6090, 1000, true, 6089) = true := by decide +kernel
set_option maxRecDepth 100000 in
theorem ax_f247 : ax_mkb ax_q247 (6098, 1000, true, 6097) = true := by decide +kernel
set_option maxRecDepth 100000 in
theorem ax_f248 : ax_mkb ax_q248 (6123, 1000, true, 6122) = true := by decide +kernel
set_option maxRecDepth 100000 in
theorem ax_f249 : ax_mkb ax_q249 (6130, 1000, true, 6129) = true := by decide +kernel
set_option maxRecDepth 100000 in
theorem ax_f250 : ax_mkb ax_q250 (6139, 1000, true, 6138) = true := by decide +kernel
set_option maxRecDepth 100000 in
theorem ax_f251 : ax_mkb ax_q251 (6146, 1000, true, 6145) = true := by decide +kernel
set_option maxRecDepth 100000 in
theorem ax_f252 : ax_mkb ax_q252 (6164, 1000, true, 6163) = true := by decide +kernel
set_option maxRecDepth 100000 in
theorem ax_f253 : ax_mkb ax_q253 (1201, 1013, true, 1200) = true := by decide +kernel
set_option maxRecDepth 100000 in
theorem ax_f254 : ax_mkb ax_q254 (1223, 1013, true, 1222) = true := by decide +kernel
set_option maxRecDepth 100000 in
theorem ax_f255 : ax_mkb ax_q255 (2094, 1033, true, 2093) = true := by decide +kernel
set_option maxRecDepth 100000 in
theorem ax_f256 : ax_mkb ax_q256 (1096, 1005, false, 1095) = true := by decide +kernel
set_option maxRecDepth 100000 in
theorem ax_f257 : ax_mkb ax_q257 (1099, 1004, false, 1098) = true := by decide +kernel
set_option maxRecDepth 100000 in
theorem ax_all_mw : ax_All (fun i w => ax_mkb (ax_mm i) w = true) ax_mwt := by
  unfold ax_mwt
  exact (ax_All.c2 (ax_All.c1 ax_f0 (ax_All.c1 ax_f1 (ax_All.c1 ax_f2 (ax_All.c1 ax_f3 (ax_All.c1 ax_f4 (ax_All.c1 ax_f5 (ax_All.c1 ax_f6 (ax_All.c1 ax_f7 (ax_All.c1 ax_f8 (ax_All.c1 ax_f9 (ax_All.c1 ax_f10 (ax_All.c1 ax_f11 (ax_All.c1 ax_f12 (ax_All.c1 ax_f13 (ax_All.c1 ax_f14 (ax_All.c1 ax_f15 ax_All.n1)))))))))))))))) (ax_All.c2 (ax_All.c1 ax_f16 (ax_All.c1 ax_f17 (ax_All.c1 ax_f18 (ax_All.c1 ax_f19 (ax_All.c1 ax_f20 (ax_All.c1 ax_f21 (ax_All.c1 ax_f22 (ax_All.c1 ax_f23 (ax_All.c1 ax_f24 (ax_All.c1 ax_f25 (ax_All.c1 ax_f26 (ax_All.c1 ax_f27 (ax_All.c1 ax_f28 (ax_All.c1 ax_f29 (ax_All.c1 ax_f30 (ax_All.c1 ax_f31 ax_All.n1)))))))))))))))) (ax_All.c2 (ax_All.c1 ax_f32 (ax_All.c1 ax_f33 (ax_All.c1 ax_f34 (ax_All.c1 ax_f35 (ax_All.c1 ax_f36 (ax_All.c1 ax_f37 (ax_All.c1 ax_f38 (ax_All.c1 ax_f39 (ax_All.c1 ax_f40 (ax_All.c1 ax_f41 (ax_All.c1 ax_f42 (ax_All.c1 ax_f43 (ax_All.c1 ax_f44 (ax_All.c1 ax_f45 (ax_All.c1 ax_f46 (ax_All.c1 ax_f47 ax_All.n1)))))))))))))))) (ax_All.c2 (ax_All.c1 ax_f48 (ax_All.c1 ax_f49 (ax_All.c1 ax_f50 (ax_All.c1 ax_f51 (ax_All.c1 ax_f52 (ax_All.c1 ax_f53 (ax_All.c1 ax_f54 (ax_All.c1 ax_f55 (ax_All.c1 ax_f56 (ax_All.c1 ax_f57 (ax_All.c1 ax_f58 (ax_All.c1 ax_f59 (ax_All.c1 ax_f60 (ax_All.c1 ax_f61 (ax_All.c1 ax_f62 (ax_All.c1 ax_f63 ax_All.n1)))))))))))))))) (ax_All.c2 (ax_All.c1 ax_f64 (ax_All.c1 ax_f65 (ax_All.c1 ax_f66 (ax_All.c1 ax_f67 (ax_All.c1 ax_f68 (ax_All.c1 ax_f69 (ax_All.c1 ax_f70 (ax_All.c1 ax_f71 (ax_All.c1 ax_f72 (ax_All.c1 ax_f73 (ax_All.c1 ax_f74 (ax_All.c1 ax_f75 (ax_All.c1 ax_f76 (ax_All.c1 ax_f77 (ax_All.c1 ax_f78 (ax_All.c1 ax_f79 ax_All.n1)))))))))))))))) (ax_All.c2 (ax_All.c1 ax_f80 (ax_All.c1 ax_f81 (ax_All.c1 ax_f82 (ax_All.c1 ax_f83 (ax_All.c1 ax_f84 (ax_All.c1 ax_f85 (ax_All.c1 ax_f86 (ax_All.c1 ax_f87 (ax_All.c1 ax_f88 (ax_All.c1 ax_f89 (ax_All.c1 ax_f90 (ax_All.c1 ax_f91 (ax_All.c1 ax_f92 (ax_All.c1 ax_f93 (ax_All.c1 ax_f94 (ax_All.c1 ax_f95 ax_All.n1)))))))))))))))) (ax_All.c2 (ax_All.c1 ax_f96 (ax_All.c1 ax_f97 (ax_All.c1 ax_f98 (ax_All.c1 ax_f99 (ax_All.c1 ax_f100 (ax_All.c1 ax_f101 (ax_All.c1 ax_f102 (ax_All.c1 ax_f103 (ax_All.c1 ax_f104 (ax_All.c1 ax_f105 (ax_All.c1 ax_f106 (ax_All.c1 ax_f107 (ax_All.c1 ax_f108 (ax_All.c1 ax_f109 (ax_All.c1 ax_f110 (ax_All.c1 ax_f111 ax_All.n1)))))))))))))))) (ax_All.c2 (ax_All.c1 ax_f112 (ax_All.c1 ax_f113 (ax_All.c1 ax_f114 (ax_All.c1 ax_f115 (ax_All.c1 ax_f116 (ax_All.c1 ax_f117 (ax_All.c1 ax_f118 (ax_All.c1 ax_f119 (ax_All.c1 ax_f120 (ax_All.c1 ax_f121 (ax_All.c1 ax_f122 (ax_All.c1 ax_f123 (ax_All.c1 ax_f124 (ax_All.c1 ax_f125 (ax_All.c1 ax_f126 (ax_All.c1 ax_f127 ax_All.n1)))))))))))))))) (ax_All.c2 (ax_All.c1 ax_f128 (ax_All.c1 ax_f129 (ax_All.c1 ax_f130 (ax_All.c1 ax_f131 (ax_All.c1 ax_f132 (ax_All.c1 ax_f133 (ax_All.c1 ax_f134 (ax_All.c1 ax_f135 (ax_All.c1 ax_f136 (ax_All.c1 ax_f137 (ax_All.c1 ax_f138 (ax_All.c1 ax_f139 (ax_All.c1 ax_f140 (ax_All.c1 ax_f141 (ax_All.c1 ax_f142 (ax_All.c1 ax_f143 ax_All.n1)))))))))))))))) (ax_All.c2 (ax_All.c1 ax_f144 (ax_All.c1 ax_f145 (ax_All.c1 ax_f146 (ax_All.c1 ax_f147 (ax_All.c1 ax_f148 (ax_All.c1 ax_f149 (ax_All.c1 ax_f150 (ax_All.c1 ax_f151 (ax_All.c1 ax_f152 (ax_All.c1 ax_f153 (ax_All.c1 ax_f154 (ax_All.c1 ax_f155 (ax_All.c1 ax_f156 (ax_All.c1 ax_f157 (ax_All.c1 ax_f158 (ax_All.c1 ax_f159 ax_All.n1)))))))))))))))) (ax_All.c2 (ax_All.c1 ax_f160 (ax_All.c1 ax_f161 (ax_All.c1 ax_f162 (ax_All.c1 ax_f163 (ax_All.c1 ax_f164 (ax_All.c1 ax_f165 (ax_All.c1 ax_f166 (ax_All.c1 ax_f167 (ax_All.c1 ax_f168 (ax_All.c1 ax_f169 (ax_All.c1 ax_f170 (ax_All.c1 ax_f171 (ax_All.c1 ax_f172 (ax_All.c1 ax_f173 (ax_All.c1 ax_f174 (ax_All.c1 ax_f175 ax_All.n1)))))))))))))))) (ax_All.c2 (ax_All.c1 ax_f176 (ax_All.c1 ax_f177 (ax_All.c1 ax_f178 (ax_All.c1 ax_f179 (ax_All.c1 ax_f180 (ax_All.c1 ax_f181 (ax_All.c1 ax_f182 (ax_All.c1 ax_f183 (ax_All.c1 ax_f184 (ax_All.c1 ax_f185 (ax_All.c1 ax_f186 (ax_All.c1 ax_f187 (ax_All.c1 ax_f188 (ax_All.c1 ax_f189 (ax_All.c1 ax_f190 (ax_All.c1 ax_f191 ax_All.n1)))))))))))))))) (ax_All.c2 (ax_All.c1 ax_f192 (ax_All.c1 ax_f193 (ax_All.c1 ax_f194 (ax_All.c1 ax_f195 (ax_All.c1 ax_f196 (ax_All.c1 ax_f197 (ax_All.c1 ax_f198 (ax_All.c1 ax_f199 (ax_All.c1 ax_f200 (ax_All.c1 ax_f201 (ax_All.c1 ax_f202 (ax_All.c1 ax_f203 (ax_All.c1 ax_f204 (ax_All.c1 ax_f205 (ax_All.c1 ax_f206 (ax_All.c1 ax_f207 ax_All.n1)))))))))))))))) (ax_All.c2 (ax_All.c1 ax_f208 (ax_All.c1 ax_f209 (ax_All.c1 ax_f210 (ax_All.c1 ax_f211 (ax_All.c1 ax_f212 (ax_All.c1 ax_f213 (ax_All.c1 ax_f214 (ax_All.c1 ax_f215 (ax_All.c1 ax_f216 (ax_All.c1 ax_f217 (ax_All.c1 ax_f218 (ax_All.c1 ax_f219 (ax_All.c1 ax_f220 (ax_All.c1 ax_f221 (ax_All.c1 ax_f222 (ax_All.c1 ax_f223 ax_All.n1)))))))))))))))) (ax_All.c2 (ax_All.c1 ax_f224 (ax_All.c1 ax_f225 (ax_All.c1 ax_f226 (ax_All.c1 ax_f227 (ax_All.c1 ax_f228 (ax_All.c1 ax_f229 (ax_All.c1 ax_f230 (ax_All.c1 ax_f231 (ax_All.c1 ax_f232 (ax_All.c1 ax_f233 (ax_All.c1 ax_f234 (ax_All.c1 ax_f235 (ax_All.c1 ax_f236 (ax_All.c1 ax_f237 (ax_All.c1 ax_f238 (ax_All.c1 ax_f239 ax_All.n1)))))))))))))))) (ax_All.c2 (ax_All.c1 ax_f240 (ax_All.c1 ax_f241 (ax_All.c1 ax_f242 (ax_All.c1 ax_f243 (ax_All.c1 ax_f244 (ax_All.c1 ax_f245 (ax_All.c1 ax_f246 (ax_All.c1 ax_f247 (ax_All.c1 ax_f248 (ax_All.c1 ax_f249 (ax_All.c1 ax_f250 (ax_All.c1 ax_f251 (ax_All.c1 ax_f252 (ax_All.c1 ax_f253 (ax_All.c1 ax_f254 (ax_All.c1 ax_f255 ax_All.n1)))))))))))))))) (ax_All.c2 (ax_All.c1 ax_f256 (ax_All.c1 ax_f257 ax_All.n1)) ax_All.n2)))))))))))))))))
theorem ax_look_ok {i pc : Nat} {e : ax_E2} (h : ax_look i pc = some e) : decode (ax_mm i).2.1 pc = .ok (e.1, ax_len e.1) ∧ (¬ e.2.1.1 = 900 → ax_okx (ax_mm i) e.1 e.2.1.1 e.2.1.2.1 e.2.1.2.2 e.2.2.1 e.2.2.2 = true) := by
  have h3 : ax_okb (ax_mm i) pc e = true := by
    unfold ax_look at h
    cases ht : ax_f2 ax_tt i with
    | none => rw [ht] at h; cases h
    | some t =>
      rw [ht] at h
      exact ax_f2_ok (ax_f2_ok ax_all_tt ht) (show ax_f2 t pc = some e from h)
  simp only [ax_okb, Bool.and_eq_true, decide_eq_true_eq, Bool.or_eq_true] at h3
  refine ⟨h3.1, fun ha => ?_⟩
  rcases h3.2 with q | q
  · exact absurd (Nat.eq_of_beq_eq_true q) ha
  · exact q
noncomputable def ax_has (i : Nat) : Bool := (ax_f2 ax_mwt i).isSome
theorem ax_mfacts {i : Nat} (hi : ax_has i = true) : ax_hd (ax_mm i) ∈ ax_tb ∧ Cond.initialized (ax_mm i).1.cls ∈ ax_tb ∧ (Cond.static (ax_mm i).1 ∈ ax_tb ∨ Cond.instanceMethod (ax_mm i).1 ∈ ax_tb) ∧ (ax_mm i).1.cls ≠ "java/lang/invoke/MethodHandle" ∧ (ax_mm i).1.cls ≠ "java/lang/invoke/VarHandle" ∧ (ax_mm i).2.2.1 ≤ 21 ∧ plainName (ax_mm i).1.cls = true := by
  obtain ⟨w, hw⟩ := Option.isSome_iff_exists.mp hi
  have h1 := ax_f2_ok ax_all_mw hw
  generalize ax_mm i = y at h1 ⊢
  simp only [ax_mkb, Bool.and_eq_true, decide_eq_true_eq] at h1
  obtain ⟨⟨⟨⟨⟨⟨a1, a2⟩, a3⟩, a4⟩, a5⟩, a6⟩, a7⟩ := h1
  refine ⟨ax_wk_mem a1, ax_wk_mem a2, ?_, a4, a5, Nat.le_of_ble_eq_true a6, a7⟩
  split at a3
  · exact Or.inl (ax_wk_mem a3)
  · exact Or.inr (ax_wk_mem a3)
end
