section
/-! ===== BEGIN words of one list among another's, by their places ===== -/
theorem goodIn_r {big : List Cond} (ws : List Cond) (ps : List Nat) (hp : ws = ps.filterMap (fun i => big[i]?)) (h : ws.all goodWord = true) : GoodIn big ws := by
  intro w hw
  have h1 := List.all_eq_true.mp h w hw
  rw [hp] at hw
  obtain ⟨i, -, hi⟩ := List.mem_filterMap.mp hw
  have hm : w ∈ big := by first | exact List.mem_of_getElem? hi | exact List.getElem?_mem hi
  exact ⟨hm, good_of_word h1⟩
theorem goodIn_app {big a b : List Cond} (ha : GoodIn big a) (hb : GoodIn big b) : GoodIn big (a ++ b) := fun w h => (List.mem_append.mp h).elim (ha w) (hb w)
theorem goodIn_ca {big a b : List Cond} {c : Cond} (ha : GoodIn big (c :: a)) (hb : GoodIn big b) : GoodIn big (c :: (a ++ b)) := fun w h => (List.mem_cons.mp h).elim (fun e => ha w (List.mem_cons.mpr (Or.inl e))) (fun h => (List.mem_append.mp h).elim (fun h => ha w (List.mem_cons.mpr (Or.inr h))) (hb w))
theorem goodIn_sub {big ws : List Cond} (hm : ∀ w ∈ ws, w ∈ big) (h : ws.all goodWord = true) : GoodIn big ws := fun w hw => ⟨hm w hw, good_of_word (List.all_eq_true.mp h w hw)⟩
/-! ===== END ===== -/

/-! ===== BEGIN exceptions that leave a method, and their catching by the caller (launches without stack traces) ===== -/
section VXA
/-! The laws vx_back, vx_callV, vx_callS, vx_callSW, vx_throw0, vx_throwS follow proofs of the library, with one case more: JvmDerived/Free/Laws.lean (Back.of_free), Shelf42/LK1.lean (callV, callS), Shelf/KitTraced.lean (throwNew0V, throwNewS). -/
/-- where a method has thrown q: the class by its name, the cell, what was written, the world -/
def vx_T (XC : String → State → State → Prop) (st : State) (q : Addr) (t : State) (mc ms : Nat) (free : Addr → Prop) : Prop :=
  ∃ (E : String) (ce : Cell) (L : List Loc), XC E st t ∧ t.heap[q]? = some ce ∧ ce.vm = .none ∧ st.vm.findClass E = some ce.cls ∧ st.WarmedH t.vm ∧ st.sameButNew ({ t with vm := st.vm } : State) L mc ms ∧ ∀ z ∈ L, free z.base
def vx_Q (Qc : Array Value → State → Outcome → State → Prop) (XC : String → State → State → Prop) (mc ms : Nat) (free : Addr → Prop) : Array Value → State → Outcome → State → Prop := fun a st o t =>
  (Qc a st o t ∧ ∃ L, FrameEnd st o t L mc ms ∧ ∀ q ∈ L, free q.base) ∨ ∃ q, o = .threw q ∧ vx_T XC st q t mc ms free
/-- a callee that returns or throws -/
def vx_Met (l : Launch) (y : MethodName) (ws : List Cond) (rm : Room) (Pc : Array Value → State → Prop) (Qc : Array Value → State → Outcome → State → Prop) (XC : String → State → State → Prop) (mc ms : Nat) (free : Addr → Prop) : Prop :=
  MetFree l y (headSpec ws rm) Pc (fun _ _ _ _ _ => True) (vx_Q Qc XC mc ms free)
def vx_Post (XC : String → State → State → Prop) (mc ms : Nat) (free : Addr → Prop) : Pt → Array Value → Addr → Pt → Prop := fun A a q B =>
  ∃ (g : JFrame) (mk : MethodId) (t : State) (L : List Loc) (E : String) (ce : Cell), B.U.heap = t.heap ∧ B.U.vm = t.vm ∧ XC E (A.U.calling g mk a) t ∧ t.heap[q]? = some ce ∧ ce.vm = .none ∧ A.U.vm.findClass E = some ce.cls ∧ B.locs = A.locs ++ L ∧ (∀ z ∈ L, free z.base) ∧ B.cells = A.cells + mc ∧ B.slots = A.slots + ms
def vx_Back (l : Launch) (R : Room) (p : Program) (e : Env) (below : List Frame) (s : State) (sargs : Array Value) (y : MethodName) (len W9 : Nat)
    (Pre : Pt → Array Value → Prop) (Post : Pt → Array Value → Option Value → Pt → Prop) (PostX : Pt → Array Value → Addr → Pt → Prop) : Prop :=
  ∀ (m : MethodId) (meth : Method) (c : Code) (A : Pt) (g : JFrame) (ig : Instr) (mk : MethodId) (a : Array Value),
    Stand p l e R s m sargs below meth c A.U A.locs A.cells A.slots → g.method = m → g.locals.size = c.maxLocals → decode c.code g.pc = .ok (ig, len) →
    2 * g.monitorRoom + (g.stack.map fun v => v.category).sum ≤ W9 → A.U.methodNamed? y = some mk → Pre A a →
    (∃ (v : Option Value) (B : Pt), Stand p l e R s m sargs below meth c B.U B.locs B.cells B.slots ∧ Post A a v B ∧
      Steps p.tables e below (doInvoke e (A.U.setTop g) [] mk a).1 (B.U.setTop { g with pc := g.pc + len, stack := v.toList ++ g.stack })) ∨
    (∃ (q : Addr) (B : Pt), Stand p l e R s m sargs below meth c B.U B.locs B.cells B.slots ∧ PostX A a q B ∧
      Steps p.tables e below (doInvoke e (A.U.setTop g) [] mk a).1 ((B.U.setTop g).pushFrame (.throwing q)))
section Payer
variable {l : Launch} {R : Room} {p : Program} {e : Env} {below : List Frame} {s : State} {sargs : Array Value} {y : MethodName} {len W9 : Nat}
theorem vx_back {ws : List Cond} {rm : Room} {Pc : Array Value → State → Prop} {Qc : Array Value → State → Outcome → State → Prop} {XC : String → State → State → Prop} {mc ms : Nat} {free : Addr → Prop} {bytes : ByteArray} {maxL : Nat} {ret : Option FieldType}
    (hM : vx_Met l y ws rm Pc Qc XC mc ms free) (hblind : FrameBlind Pc) (hrc : rm.cells = mc) (hrs : rm.slots = ms)
    (hframes : rm.frames + 1 ≤ R.frames) (hlocals : W9 + (maxL + 11) + rm.locals ≤ R.locals)
    (hws : ∀ w ∈ ws, ∀ a' U, s.WarmedH U.vm → w.before a' U = true) (hcode : Cond.code y bytes maxL ret ∈ ws) (hinit : ∀ a' U, s.WarmedH U.vm → (Cond.initialized y.cls).before a' U = true) :
    vx_Back l R p e below s sargs y len W9 (PreOf R mc ms Pc) (PostOf Qc mc ms free) (vx_Post XC mc ms free) := by
  intro m meth c A g ig mk a X hg hsize hdg hW hn hp
  have h1 : (headSpec ws rm).pre.before a A.U = true := atoms_intro fun w hw => hws w hw _ _ X.warmed
  have h2 : (Cond.code y bytes maxL ret).before a A.U = true := hws _ hcode _ _ X.warmed
  have h3 : (Cond.initialized y.cls).before a A.U = true := hinit _ _ X.warmed
  have h4 : A.cells + (headSpec ws rm).room.cells ≤ R.cells := by rw [show (headSpec ws rm).room.cells = mc from hrc]; exact hp.1
  have h5 : A.slots + (headSpec ws rm).room.slots ≤ R.slots := by rw [show (headSpec ws rm).room.slots = ms from hrs]; exact hp.2.1
  have hPc : Pc a (A.U.calling g mk a) := hblind _ _ _ _ hp.2.2
  obtain ⟨U, Ls, c0, s0⟩ := A
  dsimp only [Pt.U, Pt.locs, Pt.cells, Pt.slots] at h1 h2 h3 h4 h5 X hn hPc ⊢
  obtain ⟨methY, cY, hmY, hcY, -, hlY, -, -, -, -⟩ := Cond.code_spec hn h2
  obtain ⟨kY, hkY, -⟩ := className_of_methodNamed hn
  have hinitY : kY.init = .initialized := Cond.initialized_spec (findClass_of_methodNamed hn) hkY h3
  have h : At U g.method c below := by rw [hg]; exact X.here
  have hlocals9 : W9 + (maxL + 11) + (headSpec ws rm).room.locals ≤ R.locals := hlocals
  have happ : (headSpec ws rm).appliesLoose y e.platform (U.calling g mk a) = true :=
    Spec.appliesLoose_calling (g := g) h hdg hn hkY hinitY
      (X.room_calling (g := g) (R' := (headSpec ws rm).room) hsize hmY hcY hframes (by rw [hlY]; omega) h4 h5) h1
  obtain ⟨mid, hmid⟩ := h.above
  have hfr : (U.setTop g).frames = (.java g :: mid) ++ below := by rw [State.frames_setTop' g h.top, hmid]; rfl
  obtain ⟨o, s₂, hsteps, -, hend, hq⟩ := Steps.callFree hM p X.admits X.cas X.clock (acts := []) hfr happ hPc trivial
  have hq' : vx_Q Qc XC mc ms free a (U.calling g mk a) o s₂ := hq
  rw [State.frames_setTop' g h.top] at hend
  obtain ⟨g₀, hg0⟩ := Option.isSome_iff_exists.mp h.top
  obtain ⟨r, hr⟩ := State.topJava?_eq_some.mp hg0
  have hr' : (({ U with heap := s₂.heap, slotsUsed := s₂.slotsUsed } : State).setVm s₂.vm).frames = .java g₀ :: r := hr
  rcases hq' with ⟨hqc, L, hfe, hL⟩ | ⟨q, rfl, E, ce, L, hx, hce, hcv, hcl, hW₂, hsm, hL⟩
  · obtain ⟨⟨v, rfl⟩, hW₂, e2, q2, q3, q4, q5, q6⟩ := id hfe
    have e3 : s₂ = ({ (U.calling g mk a).setFrames s₂.frames with heap := s₂.heap, slotsUsed := s₂.slotsUsed } : State).setVm s₂.vm := by
      have : s₂ = ({ s₂ with vm := (U.calling g mk a).vm } : State).setVm s₂.vm := rfl
      rw [e2] at this
      exact this
    obtain ⟨c₂, i₂, len₂, hc₂, hd₂, hf₂⟩ := hend
    have hW' : U.WarmedH s₂.vm := hW₂
    have hcc : c₂ = c := by
      have h1 : s₂.code? g.method = U.code? g.method := by
        rw [State.code?_eq, State.code?_eq, hW'.alike.method?]
      exact Option.some.inj (hc₂.symm.trans (h1.trans h.code))
    subst hcc
    have hlen : len₂ = len := by rw [hdg] at hd₂; cases hd₂; rfl
    subst hlen
    have hs₂ : s₂ = (({ U with heap := s₂.heap, slotsUsed := s₂.slotsUsed } : State).setVm s₂.vm).setTop { g with pc := g.pc + len₂, stack := v.toList ++ g.stack } := by
      refine e3.trans ?_
      rw [hf₂, State.calling_eq h.top, State.setFrames_setFrames, State.setTop_of_frames _ hr', hr]
      rfl
    have hsame : U.sameButNew ({ U with heap := s₂.heap, slotsUsed := s₂.slotsUsed } : State) L mc ms := by
      refine ⟨?_, q2, q3, q4, q5, q6⟩
      obtain ⟨t, ht, -⟩ := State.frames_cons hr
      show ({ U with heap := s₂.heap, slotsUsed := s₂.slotsUsed } : State) = { U.setFrames U.frames with heap := s₂.heap, slotsUsed := s₂.slotsUsed }
      rw [State.setFrames_self ht]
    subst hg
    refine Or.inl ⟨v, ⟨(({ U with heap := s₂.heap, slotsUsed := s₂.slotsUsed } : State).setVm s₂.vm), Ls ++ L, c0 + mc, s0 + ms⟩,
      ⟨X.admits, X.cas, X.clock, X.frames, X.room, X.hears, X.method, X.code, (X.here.setHeapUsed s₂.heap s₂.slotsUsed).setVm hW'.alike, X.tail, State.WarmedH.trans X.warmed hW', X.limits, X.bytes, X.same.trans (hsame.setVm s.vm)⟩,
      ⟨g, mk, s₂, L, rfl, rfl, hqc, rfl, hL, rfl, rfl⟩, ?_⟩
    show Steps p.tables e below _ ((({ U with heap := s₂.heap, slotsUsed := s₂.slotsUsed } : State).setVm s₂.vm).setTop { g with pc := g.pc + len₂, stack := v.toList ++ g.stack })
    rw [← hs₂]
    exact hsteps
  · obtain ⟨e2, q2, q3, q4, q5, q6⟩ := id hsm
    have e3 : s₂ = ({ (U.calling g mk a).setFrames s₂.frames with heap := s₂.heap, slotsUsed := s₂.slotsUsed } : State).setVm s₂.vm := by
      have : s₂ = ({ s₂ with vm := (U.calling g mk a).vm } : State).setVm s₂.vm := rfl
      rw [e2] at this
      exact this
    have hf₂ : s₂.frames = .throwing q :: .java g :: U.frames.tail := hend
    have hW' : U.WarmedH s₂.vm := hW₂
    have hs₂ : s₂ = ((({ U with heap := s₂.heap, slotsUsed := s₂.slotsUsed } : State).setVm s₂.vm).setTop g).pushFrame (.throwing q) := by
      refine e3.trans ?_
      rw [hf₂, State.calling_eq h.top, State.setFrames_setFrames, State.pushFrame, State.frames_setTop _ hr', State.setTop_of_frames _ hr', State.setFrames_setFrames, hr]
      rfl
    have hsame : U.sameButNew ({ U with heap := s₂.heap, slotsUsed := s₂.slotsUsed } : State) L mc ms := by
      refine ⟨?_, q2, q3, q4, q5, q6⟩
      obtain ⟨t, ht, -⟩ := State.frames_cons hr
      show ({ U with heap := s₂.heap, slotsUsed := s₂.slotsUsed } : State) = { U.setFrames U.frames with heap := s₂.heap, slotsUsed := s₂.slotsUsed }
      rw [State.setFrames_self ht]
    subst hg
    refine Or.inr ⟨q, ⟨(({ U with heap := s₂.heap, slotsUsed := s₂.slotsUsed } : State).setVm s₂.vm), Ls ++ L, c0 + mc, s0 + ms⟩,
      ⟨X.admits, X.cas, X.clock, X.frames, X.room, X.hears, X.method, X.code, (X.here.setHeapUsed s₂.heap s₂.slotsUsed).setVm hW'.alike, X.tail, State.WarmedH.trans X.warmed hW', X.limits, X.bytes, X.same.trans (hsame.setVm s.vm)⟩,
      ⟨g, mk, s₂, L, E, ce, rfl, rfl, hx, hce, hcv, hcl, rfl, hL, rfl, rfl⟩, ?_⟩
    show Steps p.tables e below _ (((({ U with heap := s₂.heap, slotsUsed := s₂.slotsUsed } : State).setVm s₂.vm).setTop g).pushFrame (.throwing q))
    rw [← hs₂]
    exact hsteps
end Payer
section Calls
variable {p : Program} {l : Launch} {e : Env} {R : Room} {s : State} {m : MethodId} {args : Array Value} {below : List Frame} {meth : Method} {c : Code} {T : State} {locs : List Loc} {cells slots : Nat}
theorem vx_callV (X : Stand p l e R s m args below meth c T locs cells slots) (hexec : p.tables.exec = Jvm.exec) {own C : String} {index : Nat} {y : MethodName} {bytes : ByteArray} {maxL : Nat} {ret : Option FieldType}
    (hown : s.vm.findClass own = some m.cls) (hlink : (Cond.methodLink own index y).before args s = true) (hinst : (Cond.instanceMethod y).before args s = true) (hsel : (Cond.selects C y y).before args s = true)
    (hcode : (Cond.code y bytes maxL ret).before args s = true) (hy : y.cls ≠ "java/lang/invoke/MethodHandle" ∧ y.cls ≠ "java/lang/invoke/VarHandle")
    {W9 : Nat} {Pre : Pt → Array Value → Prop} {Post : Pt → Array Value → Option Value → Pt → Prop} {PostX : Pt → Array Value → Addr → Pt → Prop} (hK : vx_Back l R p e below s args y 3 W9 Pre Post PostX)
    {b : Addr} {cellB : Cell} (hcell : T.heap[b]? = some cellB) (hobj : cellB.vm.isStatics = false) (hcls : s.vm.findClass C = some cellB.cls)
    {g : JFrame} (hg : g.method = m) (hsize : g.locals.size = c.maxLocals) {argsL rest : List Value} (hlen : ∀ sig, parseMethodDescriptor y.desc = some sig → argsL.length = sig.parameters.length)
    (hstack : g.stack = argsL.reverse ++ .ref b :: rest) (hW : 2 * g.monitorRoom + (rest.map fun v => v.category).sum ≤ W9) (hdg : decode c.code g.pc = .ok (.invokevirtual index, 3))
    (hpre : ∀ vm₁, s.WarmedH vm₁ → Pre ⟨T.setVm vm₁, locs, cells, slots⟩ (Value.ref b :: argsL).toArray) :
    (∃ (v : Option Value) (vm₁ : Vm) (B : Pt), s.WarmedH vm₁ ∧ Stand p l e R s m args below meth c B.U B.locs B.cells B.slots ∧ Post ⟨T.setVm vm₁, locs, cells, slots⟩ (Value.ref b :: argsL).toArray v B ∧
      ∀ target, Steps p.tables e below (B.U.setTop { g with pc := g.pc + 3, stack := v.toList ++ rest }) target → Steps p.tables e below (T.setTop g) target) ∨
    (∃ (q : Addr) (vm₁ : Vm) (B : Pt), s.WarmedH vm₁ ∧ Stand p l e R s m args below meth c B.U B.locs B.cells B.slots ∧ PostX ⟨T.setVm vm₁, locs, cells, slots⟩ (Value.ref b :: argsL).toArray q B ∧
      Steps p.tables e below (T.setTop g) ((B.U.setTop { g with stack := rest }).pushFrame (.throwing q))) := by
  obtain ⟨mk, methM, hnamed, hmethM, hstM, habM⟩ := Cond.instanceMethod_spec hinst
  obtain ⟨methM', cM, hmethM', -, -, -, -, -, -, hsigM⟩ := Cond.code_spec hnamed hcode
  cases hmethM.symm.trans hmethM'
  obtain ⟨c2, r2, m2, q1, q2, q3, q4, kP, hkP, hkPi⟩ := Cond.selects_spec hsel
  cases hcls.symm.trans q1
  cases (State.methodFound?_of_named hnamed hy).symm.trans q2
  cases hnamed.symm.trans q3
  have hselP : selectMethod e.platform s.vm cellB.cls mk = .method mk := by rw [Launch.admits_selectMethod X.admits]; exact q4
  obtain ⟨vm₁, X₁, hstep₁⟩ := X.invokevirtual hexec hown hlink hnamed hmethM hstM hkP hkPi hy (a := b) (cell := cellB) hcell
    (fun z h => by rw [h] at hobj; cases hobj) hselP hmethM habM hkP hkPi (g := g) hg (argsL := argsL) (rest := rest) (hlen _ hsigM) hstack hdg
  rcases hK m meth c ⟨T.setVm vm₁, locs, cells, slots⟩ { g with stack := rest } (.invokevirtual index) mk (Value.ref b :: argsL).toArray X₁ hg hsize hdg hW (X₁.named hnamed) (hpre vm₁ X₁.warmed) with ⟨v, B, X', hpost, hsteps⟩ | ⟨q, B, X', hpost, hsteps⟩
  · exact Or.inl ⟨v, vm₁, B, X₁.warmed, X', hpost, fun target h => hstep₁ _ fun acts => by rw [doInvoke_state]; exact hsteps.trans h⟩
  · exact Or.inr ⟨q, vm₁, B, X₁.warmed, X', hpost, hstep₁ _ fun acts => by rw [doInvoke_state]; exact hsteps⟩
theorem vx_callS (X : Stand p l e R s m args below meth c T locs cells slots) (hexec : p.tables.exec = Jvm.exec) {own : String} {index : Nat} {y : MethodName} {bytes : ByteArray} {maxL : Nat} {ret : Option FieldType}
    (hown : s.vm.findClass own = some m.cls) (hlink : (Cond.methodLink own index y).before args s = true) (hstat : (Cond.static y).before args s = true) (hinit : (Cond.initialized y.cls).before args s = true)
    (hcode : (Cond.code y bytes maxL ret).before args s = true) (hy : y.cls ≠ "java/lang/invoke/MethodHandle" ∧ y.cls ≠ "java/lang/invoke/VarHandle")
    {W9 : Nat} {Pre : Pt → Array Value → Prop} {Post : Pt → Array Value → Option Value → Pt → Prop} {PostX : Pt → Array Value → Addr → Pt → Prop} (hK : vx_Back l R p e below s args y 3 W9 Pre Post PostX)
    {g : JFrame} (hg : g.method = m) (hsize : g.locals.size = c.maxLocals) {argsL rest : List Value} (hlen : ∀ sig, parseMethodDescriptor y.desc = some sig → argsL.length = sig.parameters.length)
    (hstack : g.stack = argsL.reverse ++ rest) (hW : 2 * g.monitorRoom + (rest.map fun v => v.category).sum ≤ W9) (hdg : decode c.code g.pc = .ok (.invokestatic index, 3))
    (hpre : ∀ vm₁, s.WarmedH vm₁ → Pre ⟨T.setVm vm₁, locs, cells, slots⟩ argsL.toArray) :
    (∃ (v : Option Value) (vm₁ : Vm) (B : Pt), s.WarmedH vm₁ ∧ Stand p l e R s m args below meth c B.U B.locs B.cells B.slots ∧ Post ⟨T.setVm vm₁, locs, cells, slots⟩ argsL.toArray v B ∧
      ∀ target, Steps p.tables e below (B.U.setTop { g with pc := g.pc + 3, stack := v.toList ++ rest }) target → Steps p.tables e below (T.setTop g) target) ∨
    (∃ (q : Addr) (vm₁ : Vm) (B : Pt), s.WarmedH vm₁ ∧ Stand p l e R s m args below meth c B.U B.locs B.cells B.slots ∧ PostX ⟨T.setVm vm₁, locs, cells, slots⟩ argsL.toArray q B ∧
      Steps p.tables e below (T.setTop g) ((B.U.setTop { g with stack := rest }).pushFrame (.throwing q))) := by
  obtain ⟨mk, hnamed⟩ := Cond.code_named hcode
  obtain ⟨methM, cM, hmethM, -, -, -, -, -, -, hsigM⟩ := Cond.code_spec hnamed hcode
  have hstatic : methM.isStatic = true := Cond.static_spec hnamed hmethM hstat
  obtain ⟨kP, hkP, -⟩ := className_of_methodNamed hnamed
  have hinitP : kP.init = .initialized := Cond.initialized_spec (findClass_of_methodNamed hnamed) hkP hinit
  obtain ⟨vm₁, X₁, hstep₁⟩ := X.invokestatic hexec hown hlink hnamed hmethM hstatic hkP hinitP hy (g := g) hg (argsL := argsL) (rest := rest) (hlen _ hsigM) hstack hdg
  rcases hK m meth c ⟨T.setVm vm₁, locs, cells, slots⟩ { g with stack := rest } (.invokestatic index) mk argsL.toArray X₁ hg hsize hdg hW (X₁.named hnamed) (hpre vm₁ X₁.warmed) with ⟨v, B, X', hpost, hsteps⟩ | ⟨q, B, X', hpost, hsteps⟩
  · exact Or.inl ⟨v, vm₁, B, X₁.warmed, X', hpost, fun target h => hstep₁ _ fun acts => by rw [doInvoke_state]; exact hsteps.trans h⟩
  · exact Or.inr ⟨q, vm₁, B, X₁.warmed, X', hpost, hstep₁ _ fun acts => by rw [doInvoke_state]; exact hsteps⟩
end Calls
theorem vx_cls {s : State} {T : State} {vm₁ : Vm} {E : String} {k : ClassId} (hW : s.WarmedH vm₁) (h : (T.setVm vm₁).vm.findClass E = some k) : s.vm.findClass E = some k := by
  have h1 : vm₁.findClass E = some k := h
  rw [hW.alike.findClass] at h1
  exact h1
/-- the method's frame g, with q thrown over it -/
def vx_W (p : Program) (l : Launch) (e : Env) (R : Room) (s : State) (m : MethodId) (args : Array Value) (below : List Frame) (meth : Method) (c : Code) (H : Heap) (locs : List Loc) (cells slots : Nat) (Q : State → Prop) (g : JFrame) (q : Addr) : Prop :=
  ∀ T : State, T.heap = H → Stand p l e R s m args below meth c T locs cells slots → ∃ t, Steps p.tables e below ((T.setTop g).pushFrame (.throwing q)) t ∧ Q t
def vx_Run (p : Program) (l : Launch) (e : Env) (R : Room) (s : State) (m : MethodId) (args : Array Value) (below : List Frame) (meth : Method) (c : Code) (H : Heap) (locs : List Loc) (cells slots mc ms : Nat) (g : JFrame) (rest : List Value) (Qa : State → Outcome → State → Prop) (XC : String → State → State → Prop) (free : Addr → Prop) : Prop :=
  ∀ T : State, T.heap = H → Stand p l e R s m args below meth c T locs cells slots →
    (∃ (v : Option Value) (st₀ t T' : State) (L : List Loc), st₀.heap = H ∧ Stand p l e R s m args below meth c T' (locs ++ L) (cells + mc) (slots + ms) ∧ (∀ q ∈ L, free q.base) ∧ T'.heap = t.heap ∧ T'.vm = t.vm ∧ Qa st₀ (.returned v) t ∧
      Goes p e below T g T' { g with pc := g.pc + 3, stack := v.toList ++ rest }) ∨
    (∃ (q : Addr) (st₀ t T' : State) (L : List Loc) (E : String) (ce : Cell), st₀.heap = H ∧ Stand p l e R s m args below meth c T' (locs ++ L) (cells + mc) (slots + ms) ∧ (∀ z ∈ L, free z.base) ∧ T'.heap = t.heap ∧ T'.vm = t.vm ∧ XC E st₀ t ∧ t.heap[q]? = some ce ∧ ce.vm = .none ∧ s.vm.findClass E = some ce.cls ∧
      Steps p.tables e below (T.setTop g) ((T'.setTop { g with stack := rest }).pushFrame (.throwing q)))
def vx_X {S : Type} (px : S → Prop) (B : String → S → State → Prop) (A : Nat → Prop) : String → State → State → Prop := fun E st t => ∃ u : S, px u ∧ B E u t ∧ va_F A st t
section Runs
variable {p : Program} {l : Launch} {e : Env} {R : Room} {s : State} {m : MethodId} {args : Array Value} {below : List Frame} {meth : Method} {c : Code} {H : Heap} {locs : List Loc} {cells slots : Nat}
variable {y : MethodName} {bytes cc : ByteArray} {maxL nL mc ms n index : Nat} {ret : Option FieldType} {ws : List Cond} {rm : Room} {Pc : Array Value → State → Prop} {Qc : Array Value → State → Outcome → State → Prop} {XC : String → State → State → Prop} {free : Addr → Prop} {Ts : List Cond} {own C : String} {b : Addr} {As rest : List Value} {g : JFrame}
theorem vx_callBack (cb : CallB R s args own index y bytes maxL ret ws rm mc ms n) (hM : vx_Met l y ws rm Pc Qc XC mc ms free) (hbl : FrameBlind Pc) : vx_Back l R p e below s args y 3 8 (PreOf R mc ms Pc) (PostOf Qc mc ms free) (vx_Post XC mc ms free) := by
  obtain ⟨hrc, hrs, hfr, hlo, hws, hcw, -, hini, -⟩ := cb
  exact vx_back (bytes := bytes) (maxL := maxL) (ret := ret) hM hbl hrc hrs hfr hlo hws hcw (fun a' U hW => word_at hW (Or.inl (by first | rfl | simp [Cond.onTables, Cond.keeps, Cond.steady])) hini)
theorem vx_runV (S : CallFix p m c cc nL s args Ts own) (hM : vx_Met l y ws rm Pc Qc XC mc ms free) (cw : CallW R s args own C index y bytes maxL ret ws rm mc ms n) (hp : PreV s H C b Pc As)
    (hg : g.method = m) (hn : As.length = n) (hsize : g.locals.size = nL) (hstack : g.stack = As.reverse ++ .ref b :: rest) (hW : 2 * g.monitorRoom + (rest.map fun v => v.category).sum ≤ 8) (hdg : decode cc g.pc = .ok (.invokevirtual index, 3)) (hf : cells + mc ≤ R.cells ∧ slots + ms ≤ R.slots) :
    vx_Run p l e R s m args below meth c H locs cells slots mc ms g rest (Qc (Value.ref b :: As).toArray) XC free := by
  have hK : vx_Back l R p e below s args y 3 8 (PreOf R mc ms Pc) (PostOf Qc mc ms free) (vx_Post XC mc ms free) := vx_callBack cw.1 hM hp.1
  obtain ⟨⟨-, -, -, -, -, -, hcode, -, hy, hlen, hl⟩, hin, hse⟩ := cw
  obtain ⟨hx, hb, hml, ho, -⟩ := S
  obtain ⟨-, ⟨cellB, hcB, hoB, hclB⟩, hPc⟩ := hp
  intro T hT X
  rcases vx_callV X hx (C := C) (bytes := bytes) (maxL := maxL) (ret := ret) ho hl hin hse hcode hy hK (by rw [hT]; exact hcB) hoB hclB hg (hsize.trans hml.symm) (argsL := As) (rest := rest) (fun sig h => hn.trans (hlen sig h)) hstack hW (by rw [hb]; exact hdg)
    (fun vm₁ hW₁ => ⟨hf.1, hf.2, hPc (T.setVm vm₁) hT hW₁⟩) with ⟨v, vm₁, ⟨U', l2, c2, s2⟩, hW₁, X', ⟨g', mk, t, L, e1, e2, hq, h1, hL, h2, h3⟩, st⟩ | ⟨q, vm₁, ⟨U', l2, c2, s2⟩, hW₁, X', ⟨g', mk, t, L, E, ce, e1, e2, hq, hce, hcv, hcl, h1, hL, h2, h3⟩, st⟩
  · dsimp only [Pt.U, Pt.locs, Pt.cells, Pt.slots] at X' e1 e2 h1 h2 h3 st
    subst h1; subst h2; subst h3
    exact Or.inl ⟨v, (T.setVm vm₁).calling g' mk (Value.ref b :: As).toArray, t, U', L, hT, X', hL, e1, e2, hq, st⟩
  · dsimp only [Pt.U, Pt.locs, Pt.cells, Pt.slots] at X' e1 e2 h1 h2 h3 st hcl
    subst h1; subst h2; subst h3
    exact Or.inr ⟨q, (T.setVm vm₁).calling g' mk (Value.ref b :: As).toArray, t, U', L, E, ce, hT, X', hL, e1, e2, hq, hce, hcv, vx_cls hW₁ hcl, st⟩
theorem vx_runS (S : CallFix p m c cc nL s args Ts own) (hM : vx_Met l y ws rm Pc Qc XC mc ms free) (cw : CallB R s args own index y bytes maxL ret ws rm mc ms n ∧ (Cond.static y).before args s = true) (hp : PreS s H Pc As)
    (hg : g.method = m) (hn : As.length = n) (hsize : g.locals.size = nL) (hstack : g.stack = As.reverse ++ rest) (hW : 2 * g.monitorRoom + (rest.map fun v => v.category).sum ≤ 8) (hdg : decode cc g.pc = .ok (.invokestatic index, 3)) (hf : cells + mc ≤ R.cells ∧ slots + ms ≤ R.slots) :
    vx_Run p l e R s m args below meth c H locs cells slots mc ms g rest (Qc As.toArray) XC free := by
  have hK : vx_Back l R p e below s args y 3 8 (PreOf R mc ms Pc) (PostOf Qc mc ms free) (vx_Post XC mc ms free) := vx_callBack cw.1 hM hp.1
  obtain ⟨⟨-, -, -, -, -, -, hcode, hini, hy, hlen, hl⟩, hstt⟩ := cw
  obtain ⟨hx, hb, hml, ho, -⟩ := S
  intro T hT X
  rcases vx_callS X hx (bytes := bytes) (maxL := maxL) (ret := ret) ho hl hstt hini hcode hy hK hg (hsize.trans hml.symm) (argsL := As) (rest := rest) (fun sig h => hn.trans (hlen sig h)) hstack hW (by rw [hb]; exact hdg)
    (fun vm₁ hW₁ => ⟨hf.1, hf.2, hp.2 (T.setVm vm₁) hT hW₁⟩) with ⟨v, vm₁, ⟨U', l2, c2, s2⟩, hW₁, X', ⟨g', mk, t, L, e1, e2, hq, h1, hL, h2, h3⟩, st⟩ | ⟨q, vm₁, ⟨U', l2, c2, s2⟩, hW₁, X', ⟨g', mk, t, L, E, ce, e1, e2, hq, hce, hcv, hcl, h1, hL, h2, h3⟩, st⟩
  · dsimp only [Pt.U, Pt.locs, Pt.cells, Pt.slots] at X' e1 e2 h1 h2 h3 st
    subst h1; subst h2; subst h3
    exact Or.inl ⟨v, (T.setVm vm₁).calling g' mk As.toArray, t, U', L, hT, X', hL, e1, e2, hq, st⟩
  · dsimp only [Pt.U, Pt.locs, Pt.cells, Pt.slots] at X' e1 e2 h1 h2 h3 st hcl
    subst h1; subst h2; subst h3
    exact Or.inr ⟨q, (T.setVm vm₁).calling g' mk As.toArray, t, U', L, E, ce, hT, X', hL, e1, e2, hq, hce, hcv, vx_cls hW₁ hcl, st⟩
end Runs
section Rows
variable {p : Program} {l : Launch} {e : Env} {R : Room} {s : State} {m : MethodId} {args : Array Value} {below : List Frame} {meth : Method} {c : Code} {H : Heap} {locs : List Loc} {cells slots : Nat} {Q : State → Prop}
variable {mc ms : Nat} {free : Addr → Prop} {A0 A1 : Nat → Prop} {H0 : Heap} {a : Array Value} {pc : Nat} {ls : Array Slot} {st0 rest : List Value}
theorem vx_keep {st₀ t T' : State} {L : List Loc} (h0 : st₀.heap = H) (e1 : T'.heap = t.heap) (hS : va_S A0 H0 H locs) (hA : ∀ q, q < H.size → A1 q → A0 q) (hf : ∀ q, free q → A0 q) (hL : ∀ q ∈ L, free q.base) (hF : va_F A1 st₀ t) :
    H.size ≤ T'.heap.size ∧ (∀ q : Nat, q < H.size → ¬ A1 q → T'.heap[q]? = H[q]?) ∧ va_S A0 H0 T'.heap (locs ++ L) := by
  obtain ⟨hz, hk⟩ := hF
  rw [h0] at hz hk
  exact ⟨by rw [e1]; exact hz, fun q h1 h2 => by rw [e1]; exact hk q h1 h2,
    ⟨Nat.le_trans hS.1 (by rw [e1]; exact hz), fun q h1 h2 => by rw [e1, hk q (Nat.lt_of_lt_of_le h1 hS.1) (fun z => h2 (hA q (Nat.lt_of_lt_of_le h1 hS.1) z))]; exact hS.2.1 q h1 h2, fun q hq => by
      rcases List.mem_append.mp hq with h | h
      · exact hS.2.2 q h
      · exact hf _ (hL q h)⟩⟩
theorem vx_calli {S SX : Type} {post : Int32 → S → Prop} {px : SX → Prop} {B : S → State → Prop} {BX : String → SX → State → Prop} {AX : Nat → Prop} (hr : vx_Run p l e R s m args below meth c H locs cells slots mc ms (F0 m pc ls st0) rest (va_Qi post B A1 a) (vx_X px BX AX) free) (hS : va_S A0 H0 H locs) (hA : ∀ q, q < H.size → A1 q → A0 q) (hf : ∀ q, free q → A0 q) (hAX : ∀ q, q < H.size → AX q → A0 q)
    (kx : ∀ (E : String) (ce : Cell) (q9 : Addr) (u : SX) (t : State) (H1 : Heap) (locs1 : List Loc), t.heap = H1 → s.vm.Alike t.vm → px u → BX E u t → H.size ≤ H1.size → (∀ q : Nat, q < H.size → ¬ AX q → H1[q]? = H[q]?) → va_S A0 H0 H1 locs1 → H1[q9]? = some ce → ce.vm = .none → s.vm.findClass E = some ce.cls → vx_W p l e R s m args below meth c H1 locs1 (cells + mc) (slots + ms) Q (F0 m pc ls rest) q9)
    (kk : ∀ (r : Int32) (u : S) (t : State) (H1 : Heap) (locs1 : List Loc), t.heap = H1 → s.vm.Alike t.vm → post r u → B u t → H.size ≤ H1.size → (∀ q : Nat, q < H.size → ¬ A1 q → H1[q]? = H[q]?) → va_S A0 H0 H1 locs1 → W p l e R s m args below meth c H1 locs1 (cells + mc) (slots + ms) Q (F0 m (pc + 3) ls (.int r :: rest))) : W p l e R s m args below meth c H locs cells slots Q (F0 m pc ls st0) := by
  intro T hT X
  rcases hr T hT X with ⟨v, st₀, t, T', L, h0, X', hL, e1, e2, ⟨⟨r, u, hv, hp, hb⟩, hF⟩, st⟩ | ⟨q, st₀, t, T', L, E, ce, h0, X', hL, e1, e2, ⟨u, hp, hb, hF⟩, hce, hcv, hcl, st⟩
  · cases hv
    obtain ⟨k1, k2, k3⟩ := vx_keep h0 e1 hS hA hf hL hF
    obtain ⟨t2, a1, b1⟩ := kk r u t T'.heap (locs ++ L) e1.symm (by rw [← e2]; exact X'.warmed.alike) hp hb k1 k2 k3 T' rfl X'
    exact ⟨t2, st t2 a1, b1⟩
  · obtain ⟨k1, k2, k3⟩ := vx_keep h0 e1 hS hAX hf hL hF
    obtain ⟨t2, a1, b1⟩ := kx E ce q u t T'.heap (locs ++ L) e1.symm (by rw [← e2]; exact X'.warmed.alike) hp hb k1 k2 k3 (by rw [e1]; exact hce) hcv hcl T' rfl X'
    exact ⟨t2, st.trans a1, b1⟩
theorem vx_calll {S SX : Type} {post : Int64 → S → Prop} {px : SX → Prop} {B : S → State → Prop} {BX : String → SX → State → Prop} {AX : Nat → Prop} (hr : vx_Run p l e R s m args below meth c H locs cells slots mc ms (F0 m pc ls st0) rest (va_Ql post B A1 a) (vx_X px BX AX) free) (hS : va_S A0 H0 H locs) (hA : ∀ q, q < H.size → A1 q → A0 q) (hf : ∀ q, free q → A0 q) (hAX : ∀ q, q < H.size → AX q → A0 q)
    (kx : ∀ (E : String) (ce : Cell) (q9 : Addr) (u : SX) (t : State) (H1 : Heap) (locs1 : List Loc), t.heap = H1 → s.vm.Alike t.vm → px u → BX E u t → H.size ≤ H1.size → (∀ q : Nat, q < H.size → ¬ AX q → H1[q]? = H[q]?) → va_S A0 H0 H1 locs1 → H1[q9]? = some ce → ce.vm = .none → s.vm.findClass E = some ce.cls → vx_W p l e R s m args below meth c H1 locs1 (cells + mc) (slots + ms) Q (F0 m pc ls rest) q9)
    (kk : ∀ (r : Int64) (u : S) (t : State) (H1 : Heap) (locs1 : List Loc), t.heap = H1 → s.vm.Alike t.vm → post r u → B u t → H.size ≤ H1.size → (∀ q : Nat, q < H.size → ¬ A1 q → H1[q]? = H[q]?) → va_S A0 H0 H1 locs1 → W p l e R s m args below meth c H1 locs1 (cells + mc) (slots + ms) Q (F0 m (pc + 3) ls (.long r :: rest))) : W p l e R s m args below meth c H locs cells slots Q (F0 m pc ls st0) := by
  intro T hT X
  rcases hr T hT X with ⟨v, st₀, t, T', L, h0, X', hL, e1, e2, ⟨⟨r, u, hv, hp, hb⟩, hF⟩, st⟩ | ⟨q, st₀, t, T', L, E, ce, h0, X', hL, e1, e2, ⟨u, hp, hb, hF⟩, hce, hcv, hcl, st⟩
  · cases hv
    obtain ⟨k1, k2, k3⟩ := vx_keep h0 e1 hS hA hf hL hF
    obtain ⟨t2, a1, b1⟩ := kk r u t T'.heap (locs ++ L) e1.symm (by rw [← e2]; exact X'.warmed.alike) hp hb k1 k2 k3 T' rfl X'
    exact ⟨t2, st t2 a1, b1⟩
  · obtain ⟨k1, k2, k3⟩ := vx_keep h0 e1 hS hAX hf hL hF
    obtain ⟨t2, a1, b1⟩ := kx E ce q u t T'.heap (locs ++ L) e1.symm (by rw [← e2]; exact X'.warmed.alike) hp hb k1 k2 k3 (by rw [e1]; exact hce) hcv hcl T' rfl X'
    exact ⟨t2, st.trans a1, b1⟩
theorem vx_callf {S SX : Type} {post : UInt32 → S → Prop} {px : SX → Prop} {B : S → State → Prop} {BX : String → SX → State → Prop} {AX : Nat → Prop} (hr : vx_Run p l e R s m args below meth c H locs cells slots mc ms (F0 m pc ls st0) rest (va_Qf post B A1 a) (vx_X px BX AX) free) (hS : va_S A0 H0 H locs) (hA : ∀ q, q < H.size → A1 q → A0 q) (hf : ∀ q, free q → A0 q) (hAX : ∀ q, q < H.size → AX q → A0 q)
    (kx : ∀ (E : String) (ce : Cell) (q9 : Addr) (u : SX) (t : State) (H1 : Heap) (locs1 : List Loc), t.heap = H1 → s.vm.Alike t.vm → px u → BX E u t → H.size ≤ H1.size → (∀ q : Nat, q < H.size → ¬ AX q → H1[q]? = H[q]?) → va_S A0 H0 H1 locs1 → H1[q9]? = some ce → ce.vm = .none → s.vm.findClass E = some ce.cls → vx_W p l e R s m args below meth c H1 locs1 (cells + mc) (slots + ms) Q (F0 m pc ls rest) q9)
    (kk : ∀ (r : UInt32) (u : S) (t : State) (H1 : Heap) (locs1 : List Loc), t.heap = H1 → s.vm.Alike t.vm → post r u → B u t → H.size ≤ H1.size → (∀ q : Nat, q < H.size → ¬ A1 q → H1[q]? = H[q]?) → va_S A0 H0 H1 locs1 → W p l e R s m args below meth c H1 locs1 (cells + mc) (slots + ms) Q (F0 m (pc + 3) ls (.float r :: rest))) : W p l e R s m args below meth c H locs cells slots Q (F0 m pc ls st0) := by
  intro T hT X
  rcases hr T hT X with ⟨v, st₀, t, T', L, h0, X', hL, e1, e2, ⟨⟨r, u, hv, hp, hb⟩, hF⟩, st⟩ | ⟨q, st₀, t, T', L, E, ce, h0, X', hL, e1, e2, ⟨u, hp, hb, hF⟩, hce, hcv, hcl, st⟩
  · cases hv
    obtain ⟨k1, k2, k3⟩ := vx_keep h0 e1 hS hA hf hL hF
    obtain ⟨t2, a1, b1⟩ := kk r u t T'.heap (locs ++ L) e1.symm (by rw [← e2]; exact X'.warmed.alike) hp hb k1 k2 k3 T' rfl X'
    exact ⟨t2, st t2 a1, b1⟩
  · obtain ⟨k1, k2, k3⟩ := vx_keep h0 e1 hS hAX hf hL hF
    obtain ⟨t2, a1, b1⟩ := kx E ce q u t T'.heap (locs ++ L) e1.symm (by rw [← e2]; exact X'.warmed.alike) hp hb k1 k2 k3 (by rw [e1]; exact hce) hcv hcl T' rfl X'
    exact ⟨t2, st.trans a1, b1⟩
theorem vx_calld {S SX : Type} {post : UInt64 → S → Prop} {px : SX → Prop} {B : S → State → Prop} {BX : String → SX → State → Prop} {AX : Nat → Prop} (hr : vx_Run p l e R s m args below meth c H locs cells slots mc ms (F0 m pc ls st0) rest (va_Qd post B A1 a) (vx_X px BX AX) free) (hS : va_S A0 H0 H locs) (hA : ∀ q, q < H.size → A1 q → A0 q) (hf : ∀ q, free q → A0 q) (hAX : ∀ q, q < H.size → AX q → A0 q)
    (kx : ∀ (E : String) (ce : Cell) (q9 : Addr) (u : SX) (t : State) (H1 : Heap) (locs1 : List Loc), t.heap = H1 → s.vm.Alike t.vm → px u → BX E u t → H.size ≤ H1.size → (∀ q : Nat, q < H.size → ¬ AX q → H1[q]? = H[q]?) → va_S A0 H0 H1 locs1 → H1[q9]? = some ce → ce.vm = .none → s.vm.findClass E = some ce.cls → vx_W p l e R s m args below meth c H1 locs1 (cells + mc) (slots + ms) Q (F0 m pc ls rest) q9)
    (kk : ∀ (r : UInt64) (u : S) (t : State) (H1 : Heap) (locs1 : List Loc), t.heap = H1 → s.vm.Alike t.vm → post r u → B u t → H.size ≤ H1.size → (∀ q : Nat, q < H.size → ¬ A1 q → H1[q]? = H[q]?) → va_S A0 H0 H1 locs1 → W p l e R s m args below meth c H1 locs1 (cells + mc) (slots + ms) Q (F0 m (pc + 3) ls (.double r :: rest))) : W p l e R s m args below meth c H locs cells slots Q (F0 m pc ls st0) := by
  intro T hT X
  rcases hr T hT X with ⟨v, st₀, t, T', L, h0, X', hL, e1, e2, ⟨⟨r, u, hv, hp, hb⟩, hF⟩, st⟩ | ⟨q, st₀, t, T', L, E, ce, h0, X', hL, e1, e2, ⟨u, hp, hb, hF⟩, hce, hcv, hcl, st⟩
  · cases hv
    obtain ⟨k1, k2, k3⟩ := vx_keep h0 e1 hS hA hf hL hF
    obtain ⟨t2, a1, b1⟩ := kk r u t T'.heap (locs ++ L) e1.symm (by rw [← e2]; exact X'.warmed.alike) hp hb k1 k2 k3 T' rfl X'
    exact ⟨t2, st t2 a1, b1⟩
  · obtain ⟨k1, k2, k3⟩ := vx_keep h0 e1 hS hAX hf hL hF
    obtain ⟨t2, a1, b1⟩ := kx E ce q u t T'.heap (locs ++ L) e1.symm (by rw [← e2]; exact X'.warmed.alike) hp hb k1 k2 k3 (by rw [e1]; exact hce) hcv hcl T' rfl X'
    exact ⟨t2, st.trans a1, b1⟩
theorem vx_callv {S SX : Type} {post : S → Prop} {px : SX → Prop} {B : S → State → Prop} {BX : String → SX → State → Prop} {AX : Nat → Prop} (hr : vx_Run p l e R s m args below meth c H locs cells slots mc ms (F0 m pc ls st0) rest (va_Qv post B A1 a) (vx_X px BX AX) free) (hS : va_S A0 H0 H locs) (hA : ∀ q, q < H.size → A1 q → A0 q) (hf : ∀ q, free q → A0 q) (hAX : ∀ q, q < H.size → AX q → A0 q)
    (kx : ∀ (E : String) (ce : Cell) (q9 : Addr) (u : SX) (t : State) (H1 : Heap) (locs1 : List Loc), t.heap = H1 → s.vm.Alike t.vm → px u → BX E u t → H.size ≤ H1.size → (∀ q : Nat, q < H.size → ¬ AX q → H1[q]? = H[q]?) → va_S A0 H0 H1 locs1 → H1[q9]? = some ce → ce.vm = .none → s.vm.findClass E = some ce.cls → vx_W p l e R s m args below meth c H1 locs1 (cells + mc) (slots + ms) Q (F0 m pc ls rest) q9)
    (kk : ∀ (u : S) (t : State) (H1 : Heap) (locs1 : List Loc), t.heap = H1 → s.vm.Alike t.vm → post u → B u t → H.size ≤ H1.size → (∀ q : Nat, q < H.size → ¬ A1 q → H1[q]? = H[q]?) → va_S A0 H0 H1 locs1 → W p l e R s m args below meth c H1 locs1 (cells + mc) (slots + ms) Q (F0 m (pc + 3) ls (rest))) : W p l e R s m args below meth c H locs cells slots Q (F0 m pc ls st0) := by
  intro T hT X
  rcases hr T hT X with ⟨v, st₀, t, T', L, h0, X', hL, e1, e2, ⟨⟨u, hv, hp, hb⟩, hF⟩, st⟩ | ⟨q, st₀, t, T', L, E, ce, h0, X', hL, e1, e2, ⟨u, hp, hb, hF⟩, hce, hcv, hcl, st⟩
  · cases hv
    obtain ⟨k1, k2, k3⟩ := vx_keep h0 e1 hS hA hf hL hF
    obtain ⟨t2, a1, b1⟩ := kk u t T'.heap (locs ++ L) e1.symm (by rw [← e2]; exact X'.warmed.alike) hp hb k1 k2 k3 T' rfl X'
    exact ⟨t2, st t2 a1, b1⟩
  · obtain ⟨k1, k2, k3⟩ := vx_keep h0 e1 hS hAX hf hL hF
    obtain ⟨t2, a1, b1⟩ := kx E ce q u t T'.heap (locs ++ L) e1.symm (by rw [← e2]; exact X'.warmed.alike) hp hb k1 k2 k3 (by rw [e1]; exact hce) hcv hcl T' rfl X'
    exact ⟨t2, st.trans a1, b1⟩
/-- caught by the row x of this method's table; the rows ahead don't take it -/
theorem vx_catch {own name : String} {E : String} {ce : Cell} {q : Addr} (hown : s.vm.findClass own = some m.cls) (pre : List ExceptionTableEntry) (x : ExceptionTableEntry) (suf : List ExceptionTableEntry) (hsplit : c.exceptionTable.toList = pre ++ x :: suf)
    (hpass : ∀ z ∈ pre, covers z pc = false ∨ (z.catchType ≠ 0 ∧ ∃ nm : String, (Cond.classLink own z.catchType nm).before args s = true ∧ va_Nc E nm s)) (hx : covers x pc = true) (h0 : x.catchType ≠ 0)
    (hlink : (Cond.classLink own x.catchType name).before args s = true) (hcast : (Cond.castable E name).before args s = true) (hcell : H[q]? = some ce) (hv : ce.vm = .none) (hcl : s.vm.findClass E = some ce.cls)
    (kk : W p l e R s m args below meth c H locs cells slots Q (F0 m x.handlerPc ls [.ref q])) : vx_W p l e R s m args below meth c H locs cells slots Q (F0 m pc ls rest) q := by
  intro T hT X
  have hpl : e.platform.magicAccessors = ({} : Platform).magicAccessors := by rw [X.admits.platform]
  obtain ⟨c3, c4, hc3, hc4, hasg⟩ := Cond.castable_spec hcast
  cases Option.some.inj (hc3.symm.trans hcl)
  obtain ⟨c5, hc5, hcl5⟩ := Cond.classLink_spec hown hlink e.platform hpl
  cases Option.some.inj (hc4.symm.trans hc5)
  obtain ⟨vm', X', st⟩ := X.thenCaughtThrough q (g := F0 m pc ls rest) rfl (Steps.refl _) (by rw [hT]; exact hcell) (by rw [hv]; rfl) (by obtain ⟨k9, h9, -⟩ := Vm.findClass_spec hcl; exact ⟨k9, h9⟩) pre x suf hsplit
    (fun z hz => by
      rcases hpass z hz with h | ⟨hz0, nm, hl1, hn1⟩
      · exact Or.inl h
      · obtain ⟨c6, hc6, hcl6⟩ := Cond.classLink_spec hown hl1 e.platform hpl
        obtain ⟨a8, b8, h1, h2, h3⟩ := hn1
        cases Option.some.inj (h1.symm.trans hcl)
        cases Option.some.inj (h2.symm.trans hc6)
        exact Or.inr ⟨hz0, _, hcl6, h3⟩) hx (Or.inr ⟨h0, c4, hcl5, hasg⟩)
  obtain ⟨t, a1, b1⟩ := kk (T.setVm vm') hT X'
  exact ⟨t, st.trans a1, b1⟩
end Rows
section Ends
variable {p : Program} {l : Launch} {e : Env} {R : Room} {s : State} {m : MethodId} {args : Array Value} {below : List Frame} {meth : Method} {c : Code} {H : Heap} {locs : List Loc} {cells slots : Nat} {Q : State → Prop}
variable {mc ms : Nat} {free : Addr → Prop} {A0 A1 : Nat → Prop} {H0 : Heap} {a : Array Value} {ls : Array Slot} {st0 rest : List Value}
variable {Qc : Array Value → State → Outcome → State → Prop} {XC : String → State → State → Prop}
/-- what a body that may throw owes at its end -/
def vx_MQ (below : List Frame) (Qc : Array Value → State → Outcome → State → Prop) (XC : String → State → State → Prop) (a : Array Value) (s : State) (mc ms : Nat) (free : Addr → Prop) : State → Prop := fun t =>
  ∃ o, t.status = .running ∧ Ended t below o ∧ vx_Q Qc XC mc ms free a s o t
theorem vx_ret {g : JFrame} {mc ms : Nat} (k : W p l e R s m args below meth c H locs cells slots (MQ below Qc args s mc ms free) g) : W p l e R s m args below meth c H locs cells slots (vx_MQ below Qc XC args s mc ms free) g := by
  intro T hT X
  obtain ⟨t, a1, o, b1, b2, b3, b4⟩ := k T hT X
  exact ⟨t, a1, o, b1, b2, Or.inl ⟨b3, b4⟩⟩
/-- not caught here: it goes on to the caller -/
theorem vx_widen {g : JFrame} {q : Addr} {k n : Nat} (h1 : cells ≤ k) (h2 : slots ≤ n) (kk : vx_W p l e R s m args below meth c H locs k n Q g q) : vx_W p l e R s m args below meth c H locs cells slots Q g q := fun T hT X => kk T hT (stand_widen X h1 h2)
theorem vx_out {pc : Nat} {E : String} {ce : Cell} {q : Addr} {mc ms : Nat} (hout : ∀ x ∈ c.exceptionTable.toList, covers x pc = false) (hlocks : meth.locks = false) (hcell : H[q]? = some ce) (hv : ce.vm = .none) (hcl : s.vm.findClass E = some ce.cls)
    (hx : ∀ t : State, t.heap = H → s.vm.Alike t.vm → XC E s t) (hf : ∀ z ∈ locs, free z.base) (hc : cells ≤ mc) (hs : slots ≤ ms) :
    vx_W p l e R s m args below meth c H locs cells slots (vx_MQ below Qc XC args s mc ms free) (F0 m pc ls rest) q := by
  intro T hT X
  obtain ⟨st1, hrun, hend, hW, hsm⟩ := X.leaveThrown q (g := F0 m pc ls rest) rfl rfl rfl hout hlocks
  have hcell9 : (T.setFrames (.throwing q :: below)).heap[q]? = some ce := by
    show T.heap[q]? = some ce
    rw [hT]; exact hcell
  exact ⟨_, st1, .threw q, hrun, hend, Or.inr ⟨q, rfl, E, ce, locs, hx _ hT hW.alike, hcell9, hv, hcl, hW, hsm.mono hc hs, hf⟩⟩
theorem vx_frame {U : State} {k n : Nat} (h : s.sameButNew ({ U with vm := s.vm } : State) locs k n) : s.heap.size ≤ U.heap.size ∧ ∀ q : Nat, q < s.heap.size → (∀ z ∈ locs, z.base ≠ q) → U.heap[q]? = s.heap[q]? := by
  obtain ⟨-, h2, -, -, -, h6⟩ := h
  refine ⟨h2, fun q hq hz => ?_⟩
  obtain ⟨c9, e1, e2, e3, e4⟩ := h6 q _ (Array.getElem?_eq_getElem hq)
  have hs : c9.slots = (s.heap[q]).slots := Array.ext_getElem? fun i => e4 i fun hm => hz _ hm rfl
  have h9 : c9 = s.heap[q] := by
    rw [hs] at e2
    exact e2
  have e5 : U.heap[q]? = some c9 := e1
  rw [e5, h9, Array.getElem?_eq_getElem hq]
/-- the words of a throw but the four that speak of the heap -/
def vx_no (w : Cond) : Bool := decide (w ≠ .isRef (.static Bundle.tN "UNASSIGNED_STACK" Bundle.steD)) && decide (w ≠ .isRef (.static Bundle.tN "SUPPRESSED_SENTINEL" Bundle.listD)) && decide (w ≠ .laysStatic Bundle.tN "UNASSIGNED_STACK" Bundle.steD) && decide (w ≠ .laysStatic Bundle.tN "SUPPRESSED_SENTINEL" Bundle.listD)
def vx_at0 (own : String) (ic : Nat) (X : String) (names : List String) : List Cond := (Bundle.ownAtoms0 own ic X names).filter vx_no
def vx_atS (own : String) (ic : Nat) (X : String) (names : List String) : List Cond := (Bundle.ownAtoms own ic X names).filter vx_no
/-- a word that the tables alone decide, or a good one -/
def vx_ot (w : Cond) : Bool := w.onTables || goodWord w
theorem vx_ot_at {args a' : Array Value} {s U : State} {w : Cond} (hW : s.WarmedH U.vm) (hvm : s.vm = U.vm) (hg : vx_ot w = true) (h : w.before args s = true) : w.before a' U = true := by
  simp only [vx_ot, Bool.or_eq_true] at hg
  rcases hg with hg | hg
  · exact va_tabs hg hvm h
  · exact word_at hW (good_of_word hg) h
/-- a list's words: the good ones out of the method's own list, the others by premises of their own -/
theorem vx_hat {args : Array Value} {s : State} {L B : List Cond} (h1 : ∀ w ∈ L.filter goodWord, w.before args s = true) (h2 : ∀ w ∈ L.filter (fun w => !goodWord w), w ∈ B) (h3 : ∀ w ∈ B, w.before args s = true) : ∀ w ∈ L, w.before args s = true := by
  intro w hw
  by_cases g : goodWord w = true
  · exact h1 w (List.mem_filter.mpr ⟨hw, g⟩)
  · refine h3 w (h2 w (List.mem_filter.mpr ⟨hw, ?_⟩))
    show (!goodWord w) = true
    cases hgw : goodWord w
    · rfl
    · exact absurd hgw g
theorem vx_c {args : Array Value} {s : State} {w : Cond} {B : List Cond} (h : w.before args s = true) (t : ∀ w ∈ B, w.before args s = true) : ∀ w' ∈ w :: B, w'.before args s = true := fun w' h' => (List.mem_cons.mp h').elim (fun e => by rw [e]; exact h) (t w')
theorem vx_n {args : Array Value} {s : State} : ∀ w ∈ ([] : List Cond), w.before args s = true := fun _ h => nomatch h
theorem vx_own {args : Array Value} {s : State} {L : List Cond} (h1 : ∀ w ∈ L.filter vx_no, w.before args s = true)
    (hU : (Cond.isRef (.static Bundle.tN "UNASSIGNED_STACK" Bundle.steD)).before args s = true) (hN : (Cond.isRef (.static Bundle.tN "SUPPRESSED_SENTINEL" Bundle.listD)).before args s = true)
    (lU : (Cond.laysStatic Bundle.tN "UNASSIGNED_STACK" Bundle.steD).before args s = true) (lN : (Cond.laysStatic Bundle.tN "SUPPRESSED_SENTINEL" Bundle.listD).before args s = true) : ∀ w ∈ L, w.before args s = true := by
  intro w hw
  by_cases e1 : w = .isRef (.static Bundle.tN "UNASSIGNED_STACK" Bundle.steD)
  · rw [e1]; exact hU
  · by_cases e2 : w = .isRef (.static Bundle.tN "SUPPRESSED_SENTINEL" Bundle.listD)
    · rw [e2]; exact hN
    · by_cases e3 : w = .laysStatic Bundle.tN "UNASSIGNED_STACK" Bundle.steD
      · rw [e3]; exact lU
      · by_cases e4 : w = .laysStatic Bundle.tN "SUPPRESSED_SENTINEL" Bundle.listD
        · rw [e4]; exact lN
        · exact h1 w (List.mem_filter.mpr ⟨hw, by unfold vx_no; rw [decide_eq_true e1, decide_eq_true e2, decide_eq_true e3, decide_eq_true e4]; rfl⟩)
/-- where a static field lies, its class's statics cell in H -/
def vx_L (C n d : String) (A : Nat → Prop) (U : State) (H : Heap) : Prop := ∃ (c : ClassId) (k : Class) (i : Nat) (f : Field) (a : Nat) (cell : Cell), U.vm.findClass C = some c ∧ U.fieldFound? C n d = some (c, k, i, f) ∧ f.isStatic = true ∧ k.statics = some a ∧ H[a]? = some cell ∧ cell.vm.isStatics = true ∧ cell.cls = c ∧ f.slot < cell.slots.size ∧ k.staticTypes[f.slot]? = some f.type ∧ ¬ A a
theorem vx_L.moved {C n d : String} {A : Nat → Prop} {u U : State} {H : Heap} (hvm : u.vm.Alike U.vm) (h : vx_L C n d A u H) : vx_L C n d A U H := by
  obtain ⟨c, k, i, f, a, cell, h1, h2, h3, h4, h5, h6, h7, h8, h9, h10⟩ := h
  obtain ⟨k', hi', he⟩ := State.fieldFound?_setVm hvm h2
  exact ⟨c, k', i, f, a, cell, by rw [hvm.findClass]; exact h1, hi', h3, by rw [he]; exact h4, h5, h6, h7, h8, by rw [he]; exact h9, h10⟩
theorem vx_L.kept {C n d : String} {A : Nat → Prop} {U : State} {H H1 : Heap} (h : vx_L C n d A U H) (hq : ∀ a : Nat, a < H.size → ¬ A a → H1[a]? = H[a]?) : vx_L C n d A U H1 := by
  obtain ⟨c, k, i, f, a, cell, h1, h2, h3, h4, h5, h6, h7, h8, h9, h10⟩ := h
  exact ⟨c, k, i, f, a, cell, h1, h2, h3, h4, by rw [hq a (Array.getElem?_eq_some_iff.mp h5).1 h10]; exact h5, h6, h7, h8, h9, h10⟩
theorem vx_L.narrow {C n d : String} {A B : Nat → Prop} {U : State} {H : Heap} (h : vx_L C n d A U H) (hAB : ∀ q, B q → A q) : vx_L C n d B U H := by
  obtain ⟨c, k, i, f, a, cell, h1, h2, h3, h4, h5, h6, h7, h8, h9, h10⟩ := h
  exact ⟨c, k, i, f, a, cell, h1, h2, h3, h4, h5, h6, h7, h8, h9, fun z => h10 (hAB _ z)⟩
theorem vx_L.word {C n d : String} {A : Nat → Prop} {s : State} {args : Array Value} (h : vx_L C n d A s s.heap) : (Cond.laysStatic C n d).before args s = true := by
  obtain ⟨c, k, i, f, a, cell, h1, h2, h3, h4, h5, h6, h7, h8, h9, -⟩ := h
  show (Cond.laysStatic C n d).holds args s none s [] = true
  exact Cond.laysStatic_of h1 h2 h3 h4 h5 h6 h7 h8 h9
/-- .. and what it holds: null or some reference -/
def vx_Zq (C n d : String) (A : Nat → Prop) (U : State) (H : Heap) : Prop := va_Zq C n d A U H ∧ vx_L C n d A U H
theorem vx_Zq.moved {C n d : String} {A : Nat → Prop} {u U : State} {H : Heap} (hvm : u.vm.Alike U.vm) (h : vx_Zq C n d A u H) : vx_Zq C n d A U H := ⟨va_Zq.moved hvm h.1, vx_L.moved hvm h.2⟩
theorem vx_Zq.kept {C n d : String} {A : Nat → Prop} {U : State} {H H1 : Heap} (h : vx_Zq C n d A U H) (hq : ∀ a : Nat, a < H.size → ¬ A a → H1[a]? = H[a]?) : vx_Zq C n d A U H1 := ⟨va_Zq.kept h.1 hq, vx_L.kept h.2 hq⟩
theorem vx_Zq.narrow {C n d : String} {A B : Nat → Prop} {U : State} {H : Heap} (h : vx_Zq C n d A U H) (hAB : ∀ q, B q → A q) : vx_Zq C n d B U H := ⟨va_Zq.narrow h.1 hAB, vx_L.narrow h.2 hAB⟩
theorem vx_Zqof {args : Array Value} {s : State} {C n d : String} {A : Nat → Prop} (hl : (Cond.laysStatic C n d).before args s = true) (hini : (Cond.initialized C).before args s = true) (h : (Cond.isRef (.static C n d)).before args s = true) (hA : ∀ a : Nat, a < s.heap.size → ¬ A a) : vx_Zq C n d A s s.heap := by
  refine ⟨va_Zqof hl hini h hA, ?_⟩
  obtain ⟨c, k, i, f, a, cell, h1, h2, h3, h4, h5, h6, h7, h8, h9⟩ := Cond.laysStatic_spec hl
  exact ⟨c, k, i, f, a, cell, h1, h2, h3, h4, h5, h6, h7, h8, h9, hA a (Array.getElem?_eq_some_iff.mp h5).1⟩
theorem vx_isRef {C n d : String} {v : Value} {A : Nat → Prop} {s : State} {args : Array Value} (h : va_Z C n d v A s s.heap) (hv : v.isRef = true) : (Cond.isRef (.static C n d)).before args s = true := by
  obtain ⟨cf, kf, fi, f, a, cell, h1, h2, h3, h4, h5, h6, h7, -⟩ := h
  have he : (Term.static C n d).eval args s none [] s = some v := by
    simp [Term.eval, State.fieldNamed?, h1, h2, h4, h5, h6, h7]
  simp only [Cond.before, Cond.holds, Cond.value, he]
  cases v <;> simp_all [Value.isRef]
theorem vx_isRefq {C n d : String} {A : Nat → Prop} {s : State} {args : Array Value} (h : va_Zq C n d A s s.heap) : (Cond.isRef (.static C n d)).before args s = true := by
  rcases h with h | ⟨t, h⟩
  · exact vx_isRef h rfl
  · exact vx_isRef h rfl
/-- the same frame, seen from here: as if the method were called anew in this heap -/
theorem vx_rebase {T : State} (X : Stand p l e R s m args below meth c T locs cells slots) {R' : Room} (hf : R'.frames ≤ R.frames) (hl : R'.locals ≤ R.locals) (hc : cells + R'.cells ≤ R.cells) (hs : slots + R'.slots ≤ R.slots) :
    Stand p l e R' ((T.setVm s.vm).setFrames (.invoking m args :: below)) m args below meth c T [] 0 0 := by
  have htop : (T.setVm s.vm).topJava?.isSome := X.here.top
  have hF : ((T.setVm s.vm).setFrames (.invoking m args :: below)).frames = .invoking m args :: below := State.frames_setFrames _ (State.cur_lt_of_top htop)
  obtain ⟨g₀, hg0⟩ := Option.isSome_iff_exists.mp htop
  obtain ⟨r, hr⟩ := State.topJava?_eq_some.mp hg0
  have hl9 : e.platform.stackLimits (T.setVm s.vm).me = e.platform.stackLimits s.me := X.limits
  have hb9 : (T.setVm s.vm).me.stackBytes = s.me.stackBytes := X.bytes
  refine ⟨X.admits, X.cas, X.clock, hF, ?_, X.hears, X.method, X.code, X.here, X.tail, X.warmed, ?_, ?_, ?_⟩
  · have h := X.room
    have hU : ((T.setVm s.vm).setFrames (.invoking m args :: below)).localsInUse = s.localsInUse := by
      rw [State.localsInUse_invoking hF (meth := meth) (c := c) X.method X.code, State.localsInUse_invoking X.frames X.method X.code]
    simp only [State.hasRoom, Bool.and_eq_true, decide_eq_true_eq] at h ⊢
    obtain ⟨⟨⟨⟨h1, h2, h3, h4, h5, h6⟩, h7⟩, h8⟩, h9⟩ := h
    rw [X.frames, List.length_cons] at h2 h3
    have q1 := X.heapSize
    have q2 := X.used
    simp only [hF, hU, List.length_cons, State.stackLimits_setFrames, State.stackBytes_setFrames, hl9, hb9]
    refine ⟨⟨⟨⟨by omega, by omega, by omega, by omega, by omega, h6⟩, ?_⟩, ?_⟩, X.book⟩
    · show T.heap.size + R'.cells ≤ e.platform.maxCells
      omega
    · show T.slotsUsed + R'.slots ≤ e.platform.maxSlots
      omega
  · rw [State.stackLimits_setFrames]; rfl
  · rw [State.stackBytes_setFrames]; rfl
  · refine ⟨?_, Nat.le_refl _, Nat.le_refl _, ?_, ?_, fun a c9 h9 => ⟨c9, h9, rfl, rfl, fun _ _ => rfl⟩⟩
    · obtain ⟨t, ht, -⟩ := State.frames_cons hr
      show T.setVm s.vm = { ((T.setVm s.vm).setFrames (.invoking m args :: below)).setFrames (T.setVm s.vm).frames with heap := T.heap, slotsUsed := T.slotsUsed }
      rw [State.setFrames_setFrames, State.setFrames_self ht]
      rfl
    · show T.slotsUsed = T.slotsUsed + ((T.heap.toList.drop T.heap.size).map (·.slots.size)).sum
      rw [List.drop_eq_nil_of_le (Nat.le_of_eq Array.length_toList)]
      rfl
    · show ((T.heap.toList.drop T.heap.size).map (·.slots.size)).sum ≤ 0
      rw [List.drop_eq_nil_of_le (Nat.le_of_eq Array.length_toList)]
      exact Nat.le_refl _
/-- 'throw new E()': new; dup; invokespecial; athrow -/
theorem vx_throw0 {cc : ByteArray} {pc : Nat} (hexec : p.tables.exec = Jvm.exec) (hb : c.code = cc) (hl : l.stackTraces = false) {own cls : String} {names : List String} {ik ic mc ms : Nat} {A : Nat → Prop}
    (hown : s.vm.findClass own = some m.cls) (hcls : Bundle.fit cls = true) (hnames : ∀ n ∈ names, Bundle.fit n = true)
    (hk : (Cond.classLink own ik cls).before args s = true) (hini : (Cond.initialized cls).before args s = true) (hat : ∀ w ∈ vx_at0 own ic cls names, w.before args s = true)
    (hgood : ∀ w ∈ Cond.classLink own ik cls :: Cond.initialized cls :: vx_at0 own ic cls names, vx_ot w = true)
    (hU : vx_Zq Bundle.tN "UNASSIGNED_STACK" Bundle.steD A s s.heap) (hN : vx_Zq Bundle.tN "SUPPRESSED_SENTINEL" Bundle.listD A s s.heap) (hS : va_S A s.heap H locs) (hsize : ls.size = c.maxLocals)
    (d0 : decode cc pc = .ok (.new ik, 3)) (d3 : decode cc (pc + 3) = .ok (.dup, 1)) (d4 : decode cc (pc + 4) = .ok (.invokespecial ic, 3)) (d7 : decode cc (pc + 7) = .ok (.athrow, 1))
    (hout : ∀ x ∈ c.exceptionTable.toList, covers x (pc + 7) = false)
    (hRframes : names.length + 3 < R.frames) (hRlocals : (rest.map fun v => v.category).sum + (13 * (names.length + 1) + 42) ≤ R.locals) (hRcells : cells + 1 ≤ R.cells) (hRslots : slots + 6 ≤ R.slots) (hlocks : meth.locks = false)
    (hx : ∀ t : State, s.vm.Alike t.vm → H.size ≤ t.heap.size → (∀ q : Nat, q < H.size → t.heap[q]? = H[q]?) → XC cls s t)
    (hf : ∀ z ∈ locs, free z.base) (hc : cells + 1 ≤ mc) (hs : slots + 6 ≤ ms) :
    W p l e R s m args below meth c H locs cells slots (vx_MQ below Qc XC args s mc ms free) (F0 m pc ls rest) := by
  intro T hT X
  have htr : e.platform.stackTraces = false := (show e.platform.stackTraces = l.stackTraces by rw [X.admits.platform]).trans hl
  have Y := vx_rebase X (R' := { frames := R.frames, locals := R.locals, cells := 1, slots := 6 }) (Nat.le_refl _) (Nat.le_refl _) hRcells hRslots
  obtain ⟨s', hA⟩ : ∃ z, z = (T.setVm s.vm).setFrames (.invoking m args :: below) := ⟨_, rfl⟩
  rw [← hA] at Y
  have hvm : s'.vm = s.vm := by rw [hA]; rfl
  have hhp : s'.heap = H := by rw [hA]; exact hT
  have hW0 : s.WarmedH s'.vm := by rw [hvm]; exact State.WarmedH.refl s
  have hat' : ∀ w ∈ vx_at0 own ic cls names, w.before args s' = true := fun w hw => vx_ot_at hW0 hvm.symm (hgood w (List.mem_cons_of_mem _ (List.mem_cons_of_mem _ hw))) (hat w hw)
  have hk' : (Cond.classLink own ik cls).before args s' = true := vx_ot_at hW0 hvm.symm (hgood _ List.mem_cons_self) hk
  have hini' : (Cond.initialized cls).before args s' = true := vx_ot_at hW0 hvm.symm (hgood _ (List.mem_cons_of_mem _ List.mem_cons_self)) hini
  have hU' : vx_Zq Bundle.tN "UNASSIGNED_STACK" Bundle.steD A s' s'.heap := by rw [hhp]; exact vx_Zq.moved hW0.alike (hU.kept hS.2.1)
  have hN' : vx_Zq Bundle.tN "SUPPRESSED_SENTINEL" Bundle.listD A s' s'.heap := by rw [hhp]; exact vx_Zq.moved hW0.alike (hN.kept hS.2.1)
  have h : ∀ w ∈ Bundle.ownAtoms0 own ic cls names, w.before args s' = true := vx_own hat' (vx_isRefq hU'.1) (vx_isRefq hN'.1) hU'.2.word hN'.2.word
  have hown' : s'.vm.findClass own = some m.cls := by rw [hvm]; exact hown
  have hins : (Cond.instantiable cls 6).before args s' = true := h _ (by simp [Bundle.ownAtoms0])
  obtain ⟨vm₁, cX, kX, hfX, hkX, -, -, X₁, st1⟩ := Y.newCold hexec (own := own) (C := cls) (index := ik) (n := 6) hown' hk' hins hini'
    (g := F0 m pc ls rest) rfl (by rw [hb]; exact d0) (Nat.le_refl _) (Nat.le_refl _)
  generalize hT1 : (T.setVm vm₁).pushCell { cls := cX, slots := kX.instanceTypes.map defaultValue, vm := .none } = T1 at X₁ st1
  have hcat : (Value.ref T.heap.size).category = 1 := rfl
  have hcellA : T1.heap[T.heap.size]? = some (freshCell cX kX) := by rw [← hT1]; exact State.heap_pushCell_size _ _
  have d3' : decode c.code (pc + 3) = .ok (.dup, 1) := by rw [hb]; exact d3
  obtain ⟨U, hsteps, hrun, hend, hW, hsame, ce, hce, hO⟩ := X₁.ctorThrow0 hexec htr (own := own) (cls := cls) (names := names) (ic := ic) hown' hcls hnames h (fun x hx => nomatch hx) hfX hkX hcellA (by rw [hhp, hT]; exact Nat.le_refl _)
    (g := { method := m, pc := pc + 4, locals := ls, stack := .ref T.heap.size :: .ref T.heap.size :: rest, locked := none }) rfl hsize rfl rfl (rest := rest) rfl
    (by rw [hb]; exact d4) (by rw [hb]; exact d7) hout hRframes (by simp only [List.map_cons, List.sum_cons, hcat]; omega) hlocks
  obtain ⟨f1, f2⟩ := vx_frame hsame
  rw [hhp] at f1 f2
  have hWs : s.WarmedH U.vm := State.WarmedH.trans hW0 hW
  have hcl : s.vm.findClass cls = some ce.cls := by
    have h9 := hO.cls
    rw [hvm] at h9
    exact h9
  have hall : s.sameButNew ({ U with vm := s.vm } : State) locs mc ms := by
    subst hA
    obtain ⟨e1, e2⟩ := hsame
    rw [State.setFrames_setFrames] at e1
    have h2 : (T.setVm s.vm).sameButNew ({ U with vm := s.vm } : State) [] (0 + 1) (0 + 6) := ⟨e1, e2⟩
    have h3 := X.same.trans h2
    rw [List.append_nil] at h3
    exact h3.mono hc hs
  refine ⟨U, ?_, .threw T.heap.size, hrun, hend, Or.inr ⟨T.heap.size, rfl, cls, ce, locs, hx U hWs.alike f1 (fun q hq => f2 q hq (fun z hz => nomatch hz)), hce, hO.vm, hcl, hWs, hall, hf⟩⟩
  refine st1 _ ?_
  show Steps p.tables e below (T1.setTop { method := m, pc := pc + 3, locals := ls, stack := .ref T.heap.size :: rest, locked := none }) _
  jvm_step X₁.here [X₁.here.top, hexec, d3', Value.category]
  exact hsteps
/-- 'throw new E("text")': new; dup; ldc; invokespecial; athrow -/
theorem vx_throwS {cc : ByteArray} {pc : Nat} (hexec : p.tables.exec = Jvm.exec) (hb : c.code = cc) (hl : l.stackTraces = false) {own cls text : String} {names : List String} {ik is ic mc ms sa : Nat} {A : Nat → Prop}
    (hown : s.vm.findClass own = some m.cls) (hcls : Bundle.fit cls = true) (hnames : ∀ n ∈ names, Bundle.fit n = true)
    (hk : (Cond.classLink own ik cls).before args s = true) (hini : (Cond.initialized cls).before args s = true) (hstr : vk_R own is text sa s) (hat : ∀ w ∈ vx_atS own ic cls names, w.before args s = true)
    (hgood : ∀ w ∈ Cond.classLink own ik cls :: Cond.initialized cls :: vx_atS own ic cls names, vx_ot w = true)
    (hU : vx_Zq Bundle.tN "UNASSIGNED_STACK" Bundle.steD A s s.heap) (hN : vx_Zq Bundle.tN "SUPPRESSED_SENTINEL" Bundle.listD A s s.heap) (hS : va_S A s.heap H locs) (hsize : ls.size = c.maxLocals)
    (d0 : decode cc pc = .ok (.new ik, 3)) (d3 : decode cc (pc + 3) = .ok (.dup, 1)) (d4 : decode cc (pc + 4) = .ok (.ldc is, 2)) (d6 : decode cc (pc + 6) = .ok (.invokespecial ic, 3)) (d9 : decode cc (pc + 9) = .ok (.athrow, 1))
    (hout : ∀ x ∈ c.exceptionTable.toList, covers x (pc + 9) = false)
    (hRframes : names.length + 3 < R.frames) (hRlocals : (rest.map fun v => v.category).sum + (13 * (names.length + 1) + 43) ≤ R.locals) (hRcells : cells + 1 ≤ R.cells) (hRslots : slots + 6 ≤ R.slots) (hlocks : meth.locks = false)
    (hx : ∀ t : State, s.vm.Alike t.vm → H.size ≤ t.heap.size → (∀ q : Nat, q < H.size → t.heap[q]? = H[q]?) → XC cls s t)
    (hf : ∀ z ∈ locs, free z.base) (hc : cells + 1 ≤ mc) (hs : slots + 6 ≤ ms) :
    W p l e R s m args below meth c H locs cells slots (vx_MQ below Qc XC args s mc ms free) (F0 m pc ls rest) := by
  intro T hT X
  have htr : e.platform.stackTraces = false := (show e.platform.stackTraces = l.stackTraces by rw [X.admits.platform]).trans hl
  have Y := vx_rebase X (R' := { frames := R.frames, locals := R.locals, cells := 1, slots := 6 }) (Nat.le_refl _) (Nat.le_refl _) hRcells hRslots
  obtain ⟨s', hA⟩ : ∃ z, z = (T.setVm s.vm).setFrames (.invoking m args :: below) := ⟨_, rfl⟩
  rw [← hA] at Y
  have hvm : s'.vm = s.vm := by rw [hA]; rfl
  have hhp : s'.heap = H := by rw [hA]; exact hT
  have hW0 : s.WarmedH s'.vm := by rw [hvm]; exact State.WarmedH.refl s
  have hat' : ∀ w ∈ vx_atS own ic cls names, w.before args s' = true := fun w hw => vx_ot_at hW0 hvm.symm (hgood w (List.mem_cons_of_mem _ (List.mem_cons_of_mem _ hw))) (hat w hw)
  have hk' : (Cond.classLink own ik cls).before args s' = true := vx_ot_at hW0 hvm.symm (hgood _ List.mem_cons_self) hk
  have hini' : (Cond.initialized cls).before args s' = true := vx_ot_at hW0 hvm.symm (hgood _ (List.mem_cons_of_mem _ List.mem_cons_self)) hini
  have hU' : vx_Zq Bundle.tN "UNASSIGNED_STACK" Bundle.steD A s' s'.heap := by rw [hhp]; exact vx_Zq.moved hW0.alike (hU.kept hS.2.1)
  have hN' : vx_Zq Bundle.tN "SUPPRESSED_SENTINEL" Bundle.listD A s' s'.heap := by rw [hhp]; exact vx_Zq.moved hW0.alike (hN.kept hS.2.1)
  have h : ∀ w ∈ Bundle.ownAtoms own ic cls names, w.before args s' = true := vx_own hat' (vx_isRefq hU'.1) (vx_isRefq hN'.1) hU'.2.word hN'.2.word
  have hown' : s'.vm.findClass own = some m.cls := by rw [hvm]; exact hown
  have hins : (Cond.instantiable cls 6).before args s' = true := h _ (by simp [Bundle.ownAtoms])
  obtain ⟨vm₁, cX, kX, hfX, hkX, -, -, X₁, st1⟩ := Y.newCold hexec (own := own) (C := cls) (index := ik) (n := 6) hown' hk' hins hini'
    (g := F0 m pc ls rest) rfl (by rw [hb]; exact d0) (Nat.le_refl _) (Nat.le_refl _)
  generalize hT1 : (T.setVm vm₁).pushCell { cls := cX, slots := kX.instanceTypes.map defaultValue, vm := .none } = T1 at X₁ st1
  have hcat : (Value.ref T.heap.size).category = 1 := rfl
  have hcellA : T1.heap[T.heap.size]? = some (freshCell cX kX) := by rw [← hT1]; exact State.heap_pushCell_size _ _
  have d3' : decode c.code (pc + 3) = .ok (.dup, 1) := by rw [hb]; exact d3
  have d4' : decode c.code (pc + 4) = .ok (.ldc is, 2) := by rw [hb]; exact d4
  have hstr' : vk_R own is text sa s' := vk_R.warm hW0 hstr
  obtain ⟨U, hsteps, hrun, hend, hW, hsame, ce, hce, hO⟩ := X₁.ctorThrowS hexec htr (own := own) (cls := cls) (names := names) (ic := ic) hown' hcls hnames h (fun x hx => nomatch hx) hfX hkX hcellA (by rw [hhp, hT]; exact Nat.le_refl _) (msg := .ref sa) rfl
    (g := { method := m, pc := pc + 6, locals := ls, stack := .ref sa :: .ref T.heap.size :: .ref T.heap.size :: rest, locked := none }) rfl hsize rfl rfl (rest := rest) rfl
    (by rw [hb]; exact d6) (by rw [hb]; exact d9) hout hRframes (by simp only [List.map_cons, List.sum_cons, hcat]; omega) hlocks
  obtain ⟨f1, f2⟩ := vx_frame hsame
  rw [hhp] at f1 f2
  have hWs : s.WarmedH U.vm := State.WarmedH.trans hW0 hW
  have hcl : s.vm.findClass cls = some ce.cls := by
    have h9 := hO.cls
    rw [hvm] at h9
    exact h9
  have hall : s.sameButNew ({ U with vm := s.vm } : State) locs mc ms := by
    subst hA
    obtain ⟨e1, e2⟩ := hsame
    rw [State.setFrames_setFrames] at e1
    have h2 : (T.setVm s.vm).sameButNew ({ U with vm := s.vm } : State) [] (0 + 1) (0 + 6) := ⟨e1, e2⟩
    have h3 := X.same.trans h2
    rw [List.append_nil] at h3
    exact h3.mono hc hs
  refine ⟨U, ?_, .threw T.heap.size, hrun, hend, Or.inr ⟨T.heap.size, rfl, cls, ce, locs, hx U hWs.alike f1 (fun q hq => f2 q hq (fun z hz => nomatch hz)), hce, hO.vm, hcl, hWs, hall, hf⟩⟩
  refine st1 _ ?_
  show Steps p.tables e below (T1.setTop { method := m, pc := pc + 3, locals := ls, stack := .ref T.heap.size :: rest, locked := none }) _
  jvm_step X₁.here [X₁.here.top, hexec, d3', Value.category]
  exact X₁.ldcString hexec (own := own) (text := text) (index := is) (a := sa) hown' hstr'.1 hstr'.2
    (g := { method := m, pc := pc + 4, locals := ls, stack := .ref T.heap.size :: .ref T.heap.size :: rest, locked := none }) rfl d4' _ hsteps
/-- 'throw new E("text")', the text by a wide index -/
theorem vx_throwSW {cc : ByteArray} {pc : Nat} (hexec : p.tables.exec = Jvm.exec) (hb : c.code = cc) (hl : l.stackTraces = false) {own cls text : String} {names : List String} {ik is ic mc ms sa : Nat} {A : Nat → Prop}
    (hown : s.vm.findClass own = some m.cls) (hcls : Bundle.fit cls = true) (hnames : ∀ n ∈ names, Bundle.fit n = true)
    (hk : (Cond.classLink own ik cls).before args s = true) (hini : (Cond.initialized cls).before args s = true) (hstr : vk_R own is text sa s) (hat : ∀ w ∈ vx_atS own ic cls names, w.before args s = true)
    (hgood : ∀ w ∈ Cond.classLink own ik cls :: Cond.initialized cls :: vx_atS own ic cls names, vx_ot w = true)
    (hU : vx_Zq Bundle.tN "UNASSIGNED_STACK" Bundle.steD A s s.heap) (hN : vx_Zq Bundle.tN "SUPPRESSED_SENTINEL" Bundle.listD A s s.heap) (hS : va_S A s.heap H locs) (hsize : ls.size = c.maxLocals)
    (d0 : decode cc pc = .ok (.new ik, 3)) (d3 : decode cc (pc + 3) = .ok (.dup, 1)) (d4 : decode cc (pc + 4) = .ok (.ldc_w is, 3)) (d7 : decode cc (pc + 7) = .ok (.invokespecial ic, 3)) (d10 : decode cc (pc + 10) = .ok (.athrow, 1))
    (hout : ∀ x ∈ c.exceptionTable.toList, covers x (pc + 10) = false)
    (hRframes : names.length + 3 < R.frames) (hRlocals : (rest.map fun v => v.category).sum + (13 * (names.length + 1) + 43) ≤ R.locals) (hRcells : cells + 1 ≤ R.cells) (hRslots : slots + 6 ≤ R.slots) (hlocks : meth.locks = false)
    (hx : ∀ t : State, s.vm.Alike t.vm → H.size ≤ t.heap.size → (∀ q : Nat, q < H.size → t.heap[q]? = H[q]?) → XC cls s t)
    (hf : ∀ z ∈ locs, free z.base) (hc : cells + 1 ≤ mc) (hs : slots + 6 ≤ ms) :
    W p l e R s m args below meth c H locs cells slots (vx_MQ below Qc XC args s mc ms free) (F0 m pc ls rest) := by
  intro T hT X
  have htr : e.platform.stackTraces = false := (show e.platform.stackTraces = l.stackTraces by rw [X.admits.platform]).trans hl
  have Y := vx_rebase X (R' := { frames := R.frames, locals := R.locals, cells := 1, slots := 6 }) (Nat.le_refl _) (Nat.le_refl _) hRcells hRslots
  obtain ⟨s', hA⟩ : ∃ z, z = (T.setVm s.vm).setFrames (.invoking m args :: below) := ⟨_, rfl⟩
  rw [← hA] at Y
  have hvm : s'.vm = s.vm := by rw [hA]; rfl
  have hhp : s'.heap = H := by rw [hA]; exact hT
  have hW0 : s.WarmedH s'.vm := by rw [hvm]; exact State.WarmedH.refl s
  have hat' : ∀ w ∈ vx_atS own ic cls names, w.before args s' = true := fun w hw => vx_ot_at hW0 hvm.symm (hgood w (List.mem_cons_of_mem _ (List.mem_cons_of_mem _ hw))) (hat w hw)
  have hk' : (Cond.classLink own ik cls).before args s' = true := vx_ot_at hW0 hvm.symm (hgood _ List.mem_cons_self) hk
  have hini' : (Cond.initialized cls).before args s' = true := vx_ot_at hW0 hvm.symm (hgood _ (List.mem_cons_of_mem _ List.mem_cons_self)) hini
  have hU' : vx_Zq Bundle.tN "UNASSIGNED_STACK" Bundle.steD A s' s'.heap := by rw [hhp]; exact vx_Zq.moved hW0.alike (hU.kept hS.2.1)
  have hN' : vx_Zq Bundle.tN "SUPPRESSED_SENTINEL" Bundle.listD A s' s'.heap := by rw [hhp]; exact vx_Zq.moved hW0.alike (hN.kept hS.2.1)
  have h : ∀ w ∈ Bundle.ownAtoms own ic cls names, w.before args s' = true := vx_own hat' (vx_isRefq hU'.1) (vx_isRefq hN'.1) hU'.2.word hN'.2.word
  have hown' : s'.vm.findClass own = some m.cls := by rw [hvm]; exact hown
  have hins : (Cond.instantiable cls 6).before args s' = true := h _ (by simp [Bundle.ownAtoms])
  obtain ⟨vm₁, cX, kX, hfX, hkX, -, -, X₁, st1⟩ := Y.newCold hexec (own := own) (C := cls) (index := ik) (n := 6) hown' hk' hins hini'
    (g := F0 m pc ls rest) rfl (by rw [hb]; exact d0) (Nat.le_refl _) (Nat.le_refl _)
  generalize hT1 : (T.setVm vm₁).pushCell { cls := cX, slots := kX.instanceTypes.map defaultValue, vm := .none } = T1 at X₁ st1
  have hcat : (Value.ref T.heap.size).category = 1 := rfl
  have hcellA : T1.heap[T.heap.size]? = some (freshCell cX kX) := by rw [← hT1]; exact State.heap_pushCell_size _ _
  have d3' : decode c.code (pc + 3) = .ok (.dup, 1) := by rw [hb]; exact d3
  have d4' : decode c.code (pc + 4) = .ok (.ldc_w is, 3) := by rw [hb]; exact d4
  have hstr' : vk_R own is text sa s' := vk_R.warm hW0 hstr
  obtain ⟨U, hsteps, hrun, hend, hW, hsame, ce, hce, hO⟩ := X₁.ctorThrowS hexec htr (own := own) (cls := cls) (names := names) (ic := ic) hown' hcls hnames h (fun x hx => nomatch hx) hfX hkX hcellA (by rw [hhp, hT]; exact Nat.le_refl _) (msg := .ref sa) rfl
    (g := { method := m, pc := pc + 7, locals := ls, stack := .ref sa :: .ref T.heap.size :: .ref T.heap.size :: rest, locked := none }) rfl hsize rfl rfl (rest := rest) rfl
    (by rw [hb]; exact d7) (by rw [hb]; exact d10) hout hRframes (by simp only [List.map_cons, List.sum_cons, hcat]; omega) hlocks
  obtain ⟨f1, f2⟩ := vx_frame hsame
  rw [hhp] at f1 f2
  have hWs : s.WarmedH U.vm := State.WarmedH.trans hW0 hW
  have hcl : s.vm.findClass cls = some ce.cls := by
    have h9 := hO.cls
    rw [hvm] at h9
    exact h9
  have hall : s.sameButNew ({ U with vm := s.vm } : State) locs mc ms := by
    subst hA
    obtain ⟨e1, e2⟩ := hsame
    rw [State.setFrames_setFrames] at e1
    have h2 : (T.setVm s.vm).sameButNew ({ U with vm := s.vm } : State) [] (0 + 1) (0 + 6) := ⟨e1, e2⟩
    have h3 := X.same.trans h2
    rw [List.append_nil] at h3
    exact h3.mono hc hs
  refine ⟨U, ?_, .threw T.heap.size, hrun, hend, Or.inr ⟨T.heap.size, rfl, cls, ce, locs, hx U hWs.alike f1 (fun q hq => f2 q hq (fun z hz => nomatch hz)), hce, hO.vm, hcl, hWs, hall, hf⟩⟩
  refine st1 _ ?_
  show Steps p.tables e below (T1.setTop { method := m, pc := pc + 3, locals := ls, stack := .ref T.heap.size :: rest, locked := none }) _
  jvm_step X₁.here [X₁.here.top, hexec, d3', Value.category]
  exact X₁.ldcStringW hexec (own := own) (text := text) (index := is) (a := sa) hown' hstr'.1 hstr'.2
    (g := { method := m, pc := pc + 4, locals := ls, stack := .ref T.heap.size :: .ref T.heap.size :: rest, locked := none }) rfl d4' _ hsteps
end Ends
section Bodies
variable {l : Launch}
theorem vx_ofW {y : MethodName} {ws ws' : List Cond} {rm : Room} {Pc : Array Value → State → Prop} {Qc : Array Value → State → Outcome → State → Prop} {XC : String → State → State → Prop} {mc ms : Nat} {free : Addr → Prop} {cc : ByteArray} {maxL : Nat} {ret : Option FieldType}
    (hy : plainName y.cls = true) (hw : ws = Cond.code y cc maxL ret :: ws')
    (body : ∀ p e s m args below meth c s₁, BodyLoose p l y (headSpec ws rm) cc maxL ret e s m args below meth c s₁ → c.maxLocals = maxL → (∀ x ∈ c.exceptionTable.toList, False) → Pc args s →
      W p l e (headSpec ws rm).room s m args below meth c s.heap [] 0 0 (vx_MQ below Qc XC args s mc ms free) (entryFrame m args maxL)) : vx_Met l y ws rm Pc Qc XC mc ms free := by
  refine MetFree.of_bodyS (code := cc) (maxLocals := maxL) (ret := ret) hy ?_ ?_
  · intro args s m h hn
    obtain ⟨meth, c, h1, h2, h3, h4, h5, h6, -, -⟩ := Cond.code_spec hn (atoms_spec (ws := ws) h _ (by rw [hw]; exact List.mem_cons_self))
    exact ⟨meth, c, h1, h2, h3, h4, h5, h6⟩
  · intro p e s m args below meth c s₁ B hml hP _
    have hh0 : s₁.heap = s.heap := by rw [B.state]; rfl
    have ht : ∀ x ∈ c.exceptionTable.toList, False := by
      obtain ⟨meth9, c9, h1, h2, -, -, -, -, h7, -⟩ := Cond.code_spec B.named (atoms_spec (ws := ws) B.pre _ (by rw [hw]; exact List.mem_cons_self))
      cases Option.some.inj (h1.symm.trans B.method)
      cases Option.some.inj (h2.symm.trans (Stand.of_body B).code)
      intro x hx
      rw [Array.isEmpty_iff.mp h7] at hx
      cases hx
    obtain ⟨t, a1, o, b1, b2, b3⟩ := body p e s m args below meth c s₁ B hml ht hP s₁ hh0 (Stand.of_body B)
    exact ⟨t, o, a1, b1, b2, b3⟩
/-- the table of a body with handlers -/
theorem vx_table {p : Program} {x y : MethodName} {S : Spec} {cc bytes : ByteArray} {maxL maxL' : Nat} {ret ret' : Option FieldType} {e : Env} {s s₁ : State} {m : MethodId} {args : Array Value} {below : List Frame} {meth : Method} {c : Code} {hh : List (Nat × Nat × Nat × Nat)}
    (B : BodyLoose p l y S cc maxL ret e s m args below meth c s₁) (h : (Cond.codeWith y bytes maxL' ret' hh).before args s = true) : c.exceptionTable.toList = tableOf hh := by
  obtain ⟨m9, meth9, c9, hn9, h1, h2, -, -, h6, -⟩ := Cond.codeWith_spec h
  cases Option.some.inj (hn9.symm.trans B.named)
  cases Option.some.inj (h1.symm.trans B.method)
  cases Option.some.inj (h2.symm.trans (Stand.of_body B).code)
  rw [← h6, table_eq]
end Bodies
end VXA
/-! ===== END ===== -/
/-! ===== BEGIN a static call of a method with an exception table ===== -/
section VXS
variable {p : Program} {l : Launch} {e : Env} {R : Room} {s : State} {m : MethodId} {args : Array Value} {below : List Frame} {meth : Method} {c : Code} {T : State} {H : Heap} {locs : List Loc} {cells slots : Nat}
abbrev vx_CSW (R : Room) (s : State) (args : Array Value) (own : String) (index : Nat) (y : MethodName) (bytes : ByteArray) (maxL : Nat) (ret : Option FieldType) (hh : List (Nat × Nat × Nat × Nat)) (ws : List Cond) (rm : Room) (mc ms n : Nat) : Prop :=
  (rm.cells = mc ∧ rm.slots = ms ∧ rm.frames + 1 ≤ R.frames ∧ 8 + (maxL + 11) + rm.locals ≤ R.locals ∧ (∀ w ∈ ws, ∀ (a' : Array Value) (U : State), s.WarmedH U.vm → w.before a' U = true) ∧ Cond.codeWith y bytes maxL ret hh ∈ ws) ∧
  (Cond.codeWith y bytes maxL ret hh).before args s = true ∧ (Cond.initialized y.cls).before args s = true ∧ (y.cls ≠ "java/lang/invoke/MethodHandle" ∧ y.cls ≠ "java/lang/invoke/VarHandle") ∧
  (∀ sig, parseMethodDescriptor y.desc = some sig → n = sig.parameters.length) ∧ (Cond.methodLink own index y).before args s = true ∧ (Cond.static y).before args s = true
theorem vx_cwSW {own : String} {index maxL mc ms : Nat} {y : MethodName} {bytes : ByteArray} {ret : Option FieldType} {hh : List (Nat × Nat × Nat × Nat)} {Ts ws ws' : List Cond} {rm : Room} (n : Nat) (ht : ∀ w ∈ Ts, w.before args s = true) (hT : GoodIn Ts (va_wsS own index y ws)) (hw : ws = Cond.codeWith y bytes maxL ret hh :: ws') (hrc : rm.cells = mc) (hrs : rm.slots = ms)
    (hd : y.cls ≠ "java/lang/invoke/MethodHandle" ∧ y.cls ≠ "java/lang/invoke/VarHandle" ∧ (parseMethodDescriptor y.desc).map (fun d => d.parameters.length) = some n) (hR : rm.frames + 1 ≤ R.frames ∧ 8 + (maxL + 11) + rm.locals ≤ R.locals) :
    vx_CSW R s args own index y bytes maxL ret hh ws rm mc ms n := by
  have ok : ∀ w ∈ va_wsS own index y ws, w.before args s = true := fun w h => ht w (hT w h).1
  have hG : GoodIn Ts ws := fun w h => hT w (by unfold va_wsS; exact List.mem_append_right _ h)
  have hc : Cond.codeWith y bytes maxL ret hh ∈ ws := by rw [hw]; exact List.mem_cons_self
  refine ⟨⟨hrc, hrs, hR.1, hR.2, pay_in ht hG, hc⟩, ht _ (hG _ hc).1, ok _ (by simp [va_wsS]), ⟨hd.1, hd.2.1⟩, fun sig h => ?_, ok _ (by simp [va_wsS]), ok _ (by simp [va_wsS])⟩
  have h2 := hd.2.2
  rw [h] at h2
  exact (Option.some.inj h2).symm
theorem vx_callSW (X : Stand p l e R s m args below meth c T locs cells slots) (hexec : p.tables.exec = Jvm.exec) {own : String} {index : Nat} {y : MethodName} {bytes : ByteArray} {maxL : Nat} {ret : Option FieldType} {hh : List (Nat × Nat × Nat × Nat)}
    (hown : s.vm.findClass own = some m.cls) (hlink : (Cond.methodLink own index y).before args s = true) (hstat : (Cond.static y).before args s = true) (hinit : (Cond.initialized y.cls).before args s = true)
    (hcode : (Cond.codeWith y bytes maxL ret hh).before args s = true) (hy : y.cls ≠ "java/lang/invoke/MethodHandle" ∧ y.cls ≠ "java/lang/invoke/VarHandle")
    {W9 : Nat} {Pre : Pt → Array Value → Prop} {Post : Pt → Array Value → Option Value → Pt → Prop} (hK : Back l R p e below s args y 3 W9 Pre Post)
    {g : JFrame} (hg : g.method = m) (hsize : g.locals.size = c.maxLocals) {argsL rest : List Value} (hlen : ∀ sig, parseMethodDescriptor y.desc = some sig → argsL.length = sig.parameters.length)
    (hstack : g.stack = argsL.reverse ++ rest) (hW : 2 * g.monitorRoom + (rest.map fun v => v.category).sum ≤ W9) (hdg : decode c.code g.pc = .ok (.invokestatic index, 3))
    (hpre : ∀ vm₁, s.WarmedH vm₁ → Pre ⟨T.setVm vm₁, locs, cells, slots⟩ argsL.toArray) :
    ∃ (v : Option Value) (vm₁ : Vm) (B : Pt), s.WarmedH vm₁ ∧ Stand p l e R s m args below meth c B.U B.locs B.cells B.slots ∧ Post ⟨T.setVm vm₁, locs, cells, slots⟩ argsL.toArray v B ∧
      ∀ target, Steps p.tables e below (B.U.setTop { g with pc := g.pc + 3, stack := v.toList ++ rest }) target → Steps p.tables e below (T.setTop g) target := by
  obtain ⟨mk, methM, cM, hnamed, hmethM, -, -, -, -, -, -, hsigM⟩ := Cond.codeWith_spec hcode
  have hstatic : methM.isStatic = true := Cond.static_spec hnamed hmethM hstat
  obtain ⟨kP, hkP, -⟩ := className_of_methodNamed hnamed
  have hinitP : kP.init = .initialized := Cond.initialized_spec (findClass_of_methodNamed hnamed) hkP hinit
  obtain ⟨vm₁, X₁, hstep₁⟩ := X.invokestatic hexec hown hlink hnamed hmethM hstatic hkP hinitP hy (g := g) hg (argsL := argsL) (rest := rest) (hlen _ hsigM) hstack hdg
  obtain ⟨v, B, X', hpost, hsteps⟩ := hK m meth c ⟨T.setVm vm₁, locs, cells, slots⟩ { g with stack := rest } (.invokestatic index) mk argsL.toArray X₁ hg hsize hdg hW (X₁.named hnamed) (hpre vm₁ X₁.warmed)
  exact ⟨v, vm₁, B, X₁.warmed, X', hpost, fun target h => hstep₁ _ fun acts => by rw [doInvoke_state]; exact hsteps.trans h⟩
theorem vx_runSW {y : MethodName} {bytes cc : ByteArray} {maxL nL mc ms n index : Nat} {ret : Option FieldType} {hh : List (Nat × Nat × Nat × Nat)} {ws : List Cond} {rm : Room} {Pc : Array Value → State → Prop} {Qc : Array Value → State → Outcome → State → Prop} {free : Addr → Prop} {Ts : List Cond} {own : String} {As rest : List Value} {g : JFrame}
    (S : CallFix p m c cc nL s args Ts own) (hM : Met l y ws rm Pc Qc mc ms free) (cw : vx_CSW R s args own index y bytes maxL ret hh ws rm mc ms n) (hp : PreS s H Pc As)
    (hg : g.method = m) (hn : As.length = n) (hsize : g.locals.size = nL) (hstack : g.stack = As.reverse ++ rest) (hW : 2 * g.monitorRoom + (rest.map fun v => v.category).sum ≤ 8) (hdg : decode cc g.pc = .ok (.invokestatic index, 3)) (hf : cells + mc ≤ R.cells ∧ slots + ms ≤ R.slots) :
    va_Run p l e R s m args below meth c H locs cells slots mc ms g rest (Qc As.toArray) (free) := by
  obtain ⟨⟨hrc, hrs, hfr, hlo, hws, hcw⟩, hcode, hini, hy, hlen, hl, hstt⟩ := cw
  have hK : Back l R p e below s args y 3 8 (PreOf R mc ms Pc) (PostOf Qc mc ms free) := va_backW (hh := hh) (bytes := bytes) (maxL := maxL) (ret := ret) hM hp.1 hrc hrs hfr hlo hws hcw (fun a' U hW => word_at hW (Or.inl (by first | rfl | simp [Cond.onTables, Cond.keeps, Cond.steady])) hini)
  obtain ⟨hx, hb, hml, ho, -⟩ := S
  intro T hT X
  obtain ⟨v, vm₁, ⟨U', l2, c2, s2⟩, hW₁, X', ⟨g', mk, t, L, e1, e2, hq, h1, hL, h2, h3⟩, st⟩ := vx_callSW X hx (hh := hh) (bytes := bytes) (maxL := maxL) (ret := ret) ho hl hstt hini hcode hy hK hg (hsize.trans hml.symm) (argsL := As) (rest := rest) (fun sig h => hn.trans (hlen sig h)) hstack hW (by rw [hb]; exact hdg)
    (fun vm₁ hW₁ => ⟨hf.1, hf.2, hp.2 (T.setVm vm₁) hT hW₁⟩)
  dsimp only [Pt.U, Pt.locs, Pt.cells, Pt.slots] at X' e1 e2 h1 h2 h3 st
  subst h1; subst h2; subst h3
  exact ⟨v, (T.setVm vm₁).calling g' mk As.toArray, t, U', L, hT, X', hL, e1, e2, hq, st⟩
/-- not caught here, past rows that name other classes: it goes on to the caller -/
theorem vx_outP {p : Program} {l : Launch} {e : Env} {R : Room} {s : State} {m : MethodId} {args : Array Value} {below : List Frame} {meth : Method} {c : Code} {H : Heap} {locs : List Loc} {cells slots : Nat} {free : Addr → Prop} {ls : Array Slot} {rest : List Value} {Qc : Array Value → State → Outcome → State → Prop} {XC : String → State → State → Prop}
    {pc : Nat} {own E : String} {ce : Cell} {q : Addr} {mc ms : Nat} (hown : s.vm.findClass own = some m.cls) (hlocks : meth.locks = false)
    (hpass : ∀ z ∈ c.exceptionTable.toList, covers z pc = false ∨ (z.catchType ≠ 0 ∧ ∃ nm : String, (Cond.classLink own z.catchType nm).before args s = true ∧ va_Nc E nm s)) (hcell : H[q]? = some ce) (hv : ce.vm = .none) (hcl : s.vm.findClass E = some ce.cls)
    (hx : ∀ t : State, t.heap = H → s.vm.Alike t.vm → XC E s t) (hf : ∀ z ∈ locs, free z.base) (hc : cells ≤ mc) (hs : slots ≤ ms) :
    vx_W p l e R s m args below meth c H locs cells slots (vx_MQ below Qc XC args s mc ms free) (F0 m pc ls rest) q := by
  intro T hT X
  have hpl : e.platform.magicAccessors = ({} : Platform).magicAccessors := by rw [X.admits.platform]
  obtain ⟨vm', hW', X', st⟩ := X.outThrough hlocks q (g := F0 m pc ls rest) rfl rfl rfl (cell := ce) (by rw [hT]; exact hcell) (by rw [hv]; rfl)
    (by obtain ⟨k9, h9, -⟩ := Vm.findClass_spec hcl; exact ⟨k9, h9⟩) (fun z hz => by
      rcases hpass z hz with h | ⟨hz0, nm, hl1, hn1⟩
      · exact Or.inl h
      · obtain ⟨c6, hc6, hcl6⟩ := Cond.classLink_spec hown hl1 e.platform hpl
        obtain ⟨a8, b8, h1, h2, h3⟩ := hn1
        cases Option.some.inj (h1.symm.trans hcl)
        cases Option.some.inj (h2.symm.trans hc6)
        exact Or.inr ⟨hz0, _, hcl6, h3⟩)
  obtain ⟨g₀, hfr⟩ := X'.frames_eq
  have hcell9 : ((T.setVm vm').setFrames (.throwing q :: below)).heap[q]? = some ce := by
    show T.heap[q]? = some ce
    rw [hT]; exact hcell
  have hend : Ended ((T.setVm vm').setFrames (.throwing q :: below)) below (.threw q) := State.frames_setFrames _ (State.cur_lt_of_frames hfr)
  refine ⟨(T.setVm vm').setFrames (.throwing q :: below), ?_, .threw q, X'.here.running, hend, Or.inr ⟨q, rfl, E, ce, locs, hx _ hT (X'.ends _).1.alike, hcell9, hv, hcl, (X'.ends _).1, (X'.ends _).2.mono hc hs, hf⟩⟩
  rw [X.pushThrowing_eq]
  exact st
/-- a thing of a world lies in the heap -/
theorem vx_lt {D : va_G} {cl : List vw_C} {ws : va_W} {H1 : Heap} (h : va_P D cl ws H1) {k : Nat} {q : Nat × va_E} (hk : ws[k]? = some q) : q.1 < H1.size := (h k q hk).lt
end VXS
/-! ===== END ===== -/
/-! ===== BEGIN methods with a table of their own: called by a name, returning or throwing ===== -/
section VXH
/-! vx_backW, vx_callVX, vx_callSX, vx_callVW, vx_runVW, vx_runVX, vx_runSX, vx_ofWH follow the same proofs as their sisters above (Free/Laws.lean, Shelf42/LK1.lean); vx_outP calls Shelf42/NT130.lean (outThrough). -/
section
variable {l : Launch} {R : Room} {p : Program} {e : Env} {below : List Frame} {s : State} {sargs : Array Value} {y : MethodName} {len W9 : Nat}
theorem vx_backW {ws : List Cond} {rm : Room} {Pc : Array Value → State → Prop} {Qc : Array Value → State → Outcome → State → Prop} {XC : String → State → State → Prop} {mc ms : Nat} {free : Addr → Prop} {bytes : ByteArray} {maxL : Nat} {ret : Option FieldType} {hh : List (Nat × Nat × Nat × Nat)}
    (hM : vx_Met l y ws rm Pc Qc XC mc ms free) (hblind : FrameBlind Pc) (hrc : rm.cells = mc) (hrs : rm.slots = ms)
    (hframes : rm.frames + 1 ≤ R.frames) (hlocals : W9 + (maxL + 11) + rm.locals ≤ R.locals)
    (hws : ∀ w ∈ ws, ∀ a' U, s.WarmedH U.vm → w.before a' U = true) (hcode : Cond.codeWith y bytes maxL ret hh ∈ ws) (hinit : ∀ a' U, s.WarmedH U.vm → (Cond.initialized y.cls).before a' U = true) :
    vx_Back l R p e below s sargs y len W9 (PreOf R mc ms Pc) (PostOf Qc mc ms free) (vx_Post XC mc ms free) := by
  intro m meth c A g ig mk a X hg hsize hdg hW hn hp
  have h1 : (headSpec ws rm).pre.before a A.U = true := atoms_intro fun w hw => hws w hw _ _ X.warmed
  have h2 : (Cond.codeWith y bytes maxL ret hh).before a A.U = true := hws _ hcode _ _ X.warmed
  have h3 : (Cond.initialized y.cls).before a A.U = true := hinit _ _ X.warmed
  have h4 : A.cells + (headSpec ws rm).room.cells ≤ R.cells := by rw [show (headSpec ws rm).room.cells = mc from hrc]; exact hp.1
  have h5 : A.slots + (headSpec ws rm).room.slots ≤ R.slots := by rw [show (headSpec ws rm).room.slots = ms from hrs]; exact hp.2.1
  have hPc : Pc a (A.U.calling g mk a) := hblind _ _ _ _ hp.2.2
  obtain ⟨U, Ls, c0, s0⟩ := A
  dsimp only [Pt.U, Pt.locs, Pt.cells, Pt.slots] at h1 h2 h3 h4 h5 X hn hPc ⊢
  obtain ⟨m9, methY, cY, hn9, hmY, hcY, -, hlY, -⟩ := Cond.codeWith_spec h2
  cases Option.some.inj (hn9.symm.trans hn)
  obtain ⟨kY, hkY, -⟩ := className_of_methodNamed hn
  have hinitY : kY.init = .initialized := Cond.initialized_spec (findClass_of_methodNamed hn) hkY h3
  have h : At U g.method c below := by rw [hg]; exact X.here
  have hlocals9 : W9 + (maxL + 11) + (headSpec ws rm).room.locals ≤ R.locals := hlocals
  have happ : (headSpec ws rm).appliesLoose y e.platform (U.calling g mk a) = true :=
    Spec.appliesLoose_calling (g := g) h hdg hn hkY hinitY
      (X.room_calling (g := g) (R' := (headSpec ws rm).room) hsize hmY hcY hframes (by rw [hlY]; omega) h4 h5) h1
  obtain ⟨mid, hmid⟩ := h.above
  have hfr : (U.setTop g).frames = (.java g :: mid) ++ below := by rw [State.frames_setTop' g h.top, hmid]; rfl
  obtain ⟨o, s₂, hsteps, -, hend, hq⟩ := Steps.callFree hM p X.admits X.cas X.clock (acts := []) hfr happ hPc trivial
  have hq' : vx_Q Qc XC mc ms free a (U.calling g mk a) o s₂ := hq
  rw [State.frames_setTop' g h.top] at hend
  obtain ⟨g₀, hg0⟩ := Option.isSome_iff_exists.mp h.top
  obtain ⟨r, hr⟩ := State.topJava?_eq_some.mp hg0
  have hr' : (({ U with heap := s₂.heap, slotsUsed := s₂.slotsUsed } : State).setVm s₂.vm).frames = .java g₀ :: r := hr
  rcases hq' with ⟨hqc, L, hfe, hL⟩ | ⟨q, rfl, E, ce, L, hx, hce, hcv, hcl, hW₂, hsm, hL⟩
  · obtain ⟨⟨v, rfl⟩, hW₂, e2, q2, q3, q4, q5, q6⟩ := id hfe
    have e3 : s₂ = ({ (U.calling g mk a).setFrames s₂.frames with heap := s₂.heap, slotsUsed := s₂.slotsUsed } : State).setVm s₂.vm := by
      have : s₂ = ({ s₂ with vm := (U.calling g mk a).vm } : State).setVm s₂.vm := rfl
      rw [e2] at this
      exact this
    obtain ⟨c₂, i₂, len₂, hc₂, hd₂, hf₂⟩ := hend
    have hW' : U.WarmedH s₂.vm := hW₂
    have hcc : c₂ = c := by
      have h1 : s₂.code? g.method = U.code? g.method := by
        rw [State.code?_eq, State.code?_eq, hW'.alike.method?]
      exact Option.some.inj (hc₂.symm.trans (h1.trans h.code))
    subst hcc
    have hlen : len₂ = len := by rw [hdg] at hd₂; cases hd₂; rfl
    subst hlen
    have hs₂ : s₂ = (({ U with heap := s₂.heap, slotsUsed := s₂.slotsUsed } : State).setVm s₂.vm).setTop { g with pc := g.pc + len₂, stack := v.toList ++ g.stack } := by
      refine e3.trans ?_
      rw [hf₂, State.calling_eq h.top, State.setFrames_setFrames, State.setTop_of_frames _ hr', hr]
      rfl
    have hsame : U.sameButNew ({ U with heap := s₂.heap, slotsUsed := s₂.slotsUsed } : State) L mc ms := by
      refine ⟨?_, q2, q3, q4, q5, q6⟩
      obtain ⟨t, ht, -⟩ := State.frames_cons hr
      show ({ U with heap := s₂.heap, slotsUsed := s₂.slotsUsed } : State) = { U.setFrames U.frames with heap := s₂.heap, slotsUsed := s₂.slotsUsed }
      rw [State.setFrames_self ht]
    subst hg
    refine Or.inl ⟨v, ⟨(({ U with heap := s₂.heap, slotsUsed := s₂.slotsUsed } : State).setVm s₂.vm), Ls ++ L, c0 + mc, s0 + ms⟩,
      ⟨X.admits, X.cas, X.clock, X.frames, X.room, X.hears, X.method, X.code, (X.here.setHeapUsed s₂.heap s₂.slotsUsed).setVm hW'.alike, X.tail, State.WarmedH.trans X.warmed hW', X.limits, X.bytes, X.same.trans (hsame.setVm s.vm)⟩,
      ⟨g, mk, s₂, L, rfl, rfl, hqc, rfl, hL, rfl, rfl⟩, ?_⟩
    show Steps p.tables e below _ ((({ U with heap := s₂.heap, slotsUsed := s₂.slotsUsed } : State).setVm s₂.vm).setTop { g with pc := g.pc + len₂, stack := v.toList ++ g.stack })
    rw [← hs₂]
    exact hsteps
  · obtain ⟨e2, q2, q3, q4, q5, q6⟩ := id hsm
    have e3 : s₂ = ({ (U.calling g mk a).setFrames s₂.frames with heap := s₂.heap, slotsUsed := s₂.slotsUsed } : State).setVm s₂.vm := by
      have : s₂ = ({ s₂ with vm := (U.calling g mk a).vm } : State).setVm s₂.vm := rfl
      rw [e2] at this
      exact this
    have hf₂ : s₂.frames = .throwing q :: .java g :: U.frames.tail := hend
    have hW' : U.WarmedH s₂.vm := hW₂
    have hs₂ : s₂ = ((({ U with heap := s₂.heap, slotsUsed := s₂.slotsUsed } : State).setVm s₂.vm).setTop g).pushFrame (.throwing q) := by
      refine e3.trans ?_
      rw [hf₂, State.calling_eq h.top, State.setFrames_setFrames, State.pushFrame, State.frames_setTop _ hr', State.setTop_of_frames _ hr', State.setFrames_setFrames, hr]
      rfl
    have hsame : U.sameButNew ({ U with heap := s₂.heap, slotsUsed := s₂.slotsUsed } : State) L mc ms := by
      refine ⟨?_, q2, q3, q4, q5, q6⟩
      obtain ⟨t, ht, -⟩ := State.frames_cons hr
      show ({ U with heap := s₂.heap, slotsUsed := s₂.slotsUsed } : State) = { U.setFrames U.frames with heap := s₂.heap, slotsUsed := s₂.slotsUsed }
      rw [State.setFrames_self ht]
    subst hg
    refine Or.inr ⟨q, ⟨(({ U with heap := s₂.heap, slotsUsed := s₂.slotsUsed } : State).setVm s₂.vm), Ls ++ L, c0 + mc, s0 + ms⟩,
      ⟨X.admits, X.cas, X.clock, X.frames, X.room, X.hears, X.method, X.code, (X.here.setHeapUsed s₂.heap s₂.slotsUsed).setVm hW'.alike, X.tail, State.WarmedH.trans X.warmed hW', X.limits, X.bytes, X.same.trans (hsame.setVm s.vm)⟩,
      ⟨g, mk, s₂, L, E, ce, rfl, rfl, hx, hce, hcv, hcl, rfl, hL, rfl, rfl⟩, ?_⟩
    show Steps p.tables e below _ (((({ U with heap := s₂.heap, slotsUsed := s₂.slotsUsed } : State).setVm s₂.vm).setTop g).pushFrame (.throwing q))
    rw [← hs₂]
    exact hsteps
end
variable {p : Program} {l : Launch} {e : Env} {R : Room} {s : State} {m : MethodId} {args : Array Value} {below : List Frame} {meth : Method} {c : Code} {T : State} {H : Heap} {locs : List Loc} {cells slots : Nat}
theorem vx_callVX (X : Stand p l e R s m args below meth c T locs cells slots) (hexec : p.tables.exec = Jvm.exec) {own C : String} {index : Nat} {y : MethodName} {bytes : ByteArray} {maxL : Nat} {ret : Option FieldType} {hh : List (Nat × Nat × Nat × Nat)}
    (hown : s.vm.findClass own = some m.cls) (hlink : (Cond.methodLink own index y).before args s = true) (hinst : (Cond.instanceMethod y).before args s = true) (hsel : (Cond.selects C y y).before args s = true)
    (hcode : (Cond.codeWith y bytes maxL ret hh).before args s = true) (hy : y.cls ≠ "java/lang/invoke/MethodHandle" ∧ y.cls ≠ "java/lang/invoke/VarHandle")
    {W9 : Nat} {Pre : Pt → Array Value → Prop} {Post : Pt → Array Value → Option Value → Pt → Prop} {PostX : Pt → Array Value → Addr → Pt → Prop} (hK : vx_Back l R p e below s args y 3 W9 Pre Post PostX)
    {b : Addr} {cellB : Cell} (hcell : T.heap[b]? = some cellB) (hobj : cellB.vm.isStatics = false) (hcls : s.vm.findClass C = some cellB.cls)
    {g : JFrame} (hg : g.method = m) (hsize : g.locals.size = c.maxLocals) {argsL rest : List Value} (hlen : ∀ sig, parseMethodDescriptor y.desc = some sig → argsL.length = sig.parameters.length)
    (hstack : g.stack = argsL.reverse ++ .ref b :: rest) (hW : 2 * g.monitorRoom + (rest.map fun v => v.category).sum ≤ W9) (hdg : decode c.code g.pc = .ok (.invokevirtual index, 3))
    (hpre : ∀ vm₁, s.WarmedH vm₁ → Pre ⟨T.setVm vm₁, locs, cells, slots⟩ (Value.ref b :: argsL).toArray) :
    (∃ (v : Option Value) (vm₁ : Vm) (B : Pt), s.WarmedH vm₁ ∧ Stand p l e R s m args below meth c B.U B.locs B.cells B.slots ∧ Post ⟨T.setVm vm₁, locs, cells, slots⟩ (Value.ref b :: argsL).toArray v B ∧
      ∀ target, Steps p.tables e below (B.U.setTop { g with pc := g.pc + 3, stack := v.toList ++ rest }) target → Steps p.tables e below (T.setTop g) target) ∨
    (∃ (q : Addr) (vm₁ : Vm) (B : Pt), s.WarmedH vm₁ ∧ Stand p l e R s m args below meth c B.U B.locs B.cells B.slots ∧ PostX ⟨T.setVm vm₁, locs, cells, slots⟩ (Value.ref b :: argsL).toArray q B ∧
      Steps p.tables e below (T.setTop g) ((B.U.setTop { g with stack := rest }).pushFrame (.throwing q))) := by
  obtain ⟨mk, methM, hnamed, hmethM, hstM, habM⟩ := Cond.instanceMethod_spec hinst
  obtain ⟨m8, methM', cM, hn8, hmethM', -, -, -, -, -, -, hsigM⟩ := Cond.codeWith_spec hcode
  cases Option.some.inj (hn8.symm.trans hnamed)
  cases hmethM.symm.trans hmethM'
  obtain ⟨c2, r2, m2, q1, q2, q3, q4, kP, hkP, hkPi⟩ := Cond.selects_spec hsel
  cases hcls.symm.trans q1
  cases (State.methodFound?_of_named hnamed hy).symm.trans q2
  cases hnamed.symm.trans q3
  have hselP : selectMethod e.platform s.vm cellB.cls mk = .method mk := by rw [Launch.admits_selectMethod X.admits]; exact q4
  obtain ⟨vm₁, X₁, hstep₁⟩ := X.invokevirtual hexec hown hlink hnamed hmethM hstM hkP hkPi hy (a := b) (cell := cellB) hcell
    (fun z h => by rw [h] at hobj; cases hobj) hselP hmethM habM hkP hkPi (g := g) hg (argsL := argsL) (rest := rest) (hlen _ hsigM) hstack hdg
  rcases hK m meth c ⟨T.setVm vm₁, locs, cells, slots⟩ { g with stack := rest } (.invokevirtual index) mk (Value.ref b :: argsL).toArray X₁ hg hsize hdg hW (X₁.named hnamed) (hpre vm₁ X₁.warmed) with ⟨v, B, X', hpost, hsteps⟩ | ⟨q, B, X', hpost, hsteps⟩
  · exact Or.inl ⟨v, vm₁, B, X₁.warmed, X', hpost, fun target h => hstep₁ _ fun acts => by rw [doInvoke_state]; exact hsteps.trans h⟩
  · exact Or.inr ⟨q, vm₁, B, X₁.warmed, X', hpost, hstep₁ _ fun acts => by rw [doInvoke_state]; exact hsteps⟩
theorem vx_callSX (X : Stand p l e R s m args below meth c T locs cells slots) (hexec : p.tables.exec = Jvm.exec) {own : String} {index : Nat} {y : MethodName} {bytes : ByteArray} {maxL : Nat} {ret : Option FieldType} {hh : List (Nat × Nat × Nat × Nat)}
    (hown : s.vm.findClass own = some m.cls) (hlink : (Cond.methodLink own index y).before args s = true) (hstat : (Cond.static y).before args s = true) (hinit : (Cond.initialized y.cls).before args s = true)
    (hcode : (Cond.codeWith y bytes maxL ret hh).before args s = true) (hy : y.cls ≠ "java/lang/invoke/MethodHandle" ∧ y.cls ≠ "java/lang/invoke/VarHandle")
    {W9 : Nat} {Pre : Pt → Array Value → Prop} {Post : Pt → Array Value → Option Value → Pt → Prop} {PostX : Pt → Array Value → Addr → Pt → Prop} (hK : vx_Back l R p e below s args y 3 W9 Pre Post PostX)
    {g : JFrame} (hg : g.method = m) (hsize : g.locals.size = c.maxLocals) {argsL rest : List Value} (hlen : ∀ sig, parseMethodDescriptor y.desc = some sig → argsL.length = sig.parameters.length)
    (hstack : g.stack = argsL.reverse ++ rest) (hW : 2 * g.monitorRoom + (rest.map fun v => v.category).sum ≤ W9) (hdg : decode c.code g.pc = .ok (.invokestatic index, 3))
    (hpre : ∀ vm₁, s.WarmedH vm₁ → Pre ⟨T.setVm vm₁, locs, cells, slots⟩ argsL.toArray) :
    (∃ (v : Option Value) (vm₁ : Vm) (B : Pt), s.WarmedH vm₁ ∧ Stand p l e R s m args below meth c B.U B.locs B.cells B.slots ∧ Post ⟨T.setVm vm₁, locs, cells, slots⟩ argsL.toArray v B ∧
      ∀ target, Steps p.tables e below (B.U.setTop { g with pc := g.pc + 3, stack := v.toList ++ rest }) target → Steps p.tables e below (T.setTop g) target) ∨
    (∃ (q : Addr) (vm₁ : Vm) (B : Pt), s.WarmedH vm₁ ∧ Stand p l e R s m args below meth c B.U B.locs B.cells B.slots ∧ PostX ⟨T.setVm vm₁, locs, cells, slots⟩ argsL.toArray q B ∧
      Steps p.tables e below (T.setTop g) ((B.U.setTop { g with stack := rest }).pushFrame (.throwing q))) := by
  obtain ⟨mk, methM, cM, hnamed, hmethM, -, -, -, -, -, -, hsigM⟩ := Cond.codeWith_spec hcode
  have hstatic : methM.isStatic = true := Cond.static_spec hnamed hmethM hstat
  obtain ⟨kP, hkP, -⟩ := className_of_methodNamed hnamed
  have hinitP : kP.init = .initialized := Cond.initialized_spec (findClass_of_methodNamed hnamed) hkP hinit
  obtain ⟨vm₁, X₁, hstep₁⟩ := X.invokestatic hexec hown hlink hnamed hmethM hstatic hkP hinitP hy (g := g) hg (argsL := argsL) (rest := rest) (hlen _ hsigM) hstack hdg
  rcases hK m meth c ⟨T.setVm vm₁, locs, cells, slots⟩ { g with stack := rest } (.invokestatic index) mk argsL.toArray X₁ hg hsize hdg hW (X₁.named hnamed) (hpre vm₁ X₁.warmed) with ⟨v, B, X', hpost, hsteps⟩ | ⟨q, B, X', hpost, hsteps⟩
  · exact Or.inl ⟨v, vm₁, B, X₁.warmed, X', hpost, fun target h => hstep₁ _ fun acts => by rw [doInvoke_state]; exact hsteps.trans h⟩
  · exact Or.inr ⟨q, vm₁, B, X₁.warmed, X', hpost, hstep₁ _ fun acts => by rw [doInvoke_state]; exact hsteps⟩
theorem vx_callVW (X : Stand p l e R s m args below meth c T locs cells slots) (hexec : p.tables.exec = Jvm.exec) {own C : String} {index : Nat} {y : MethodName} {bytes : ByteArray} {maxL : Nat} {ret : Option FieldType} {hh : List (Nat × Nat × Nat × Nat)}
    (hown : s.vm.findClass own = some m.cls) (hlink : (Cond.methodLink own index y).before args s = true) (hinst : (Cond.instanceMethod y).before args s = true) (hsel : (Cond.selects C y y).before args s = true)
    (hcode : (Cond.codeWith y bytes maxL ret hh).before args s = true) (hy : y.cls ≠ "java/lang/invoke/MethodHandle" ∧ y.cls ≠ "java/lang/invoke/VarHandle")
    {W9 : Nat} {Pre : Pt → Array Value → Prop} {Post : Pt → Array Value → Option Value → Pt → Prop} (hK : Back l R p e below s args y 3 W9 Pre Post)
    {b : Addr} {cellB : Cell} (hcell : T.heap[b]? = some cellB) (hobj : cellB.vm.isStatics = false) (hcls : s.vm.findClass C = some cellB.cls)
    {g : JFrame} (hg : g.method = m) (hsize : g.locals.size = c.maxLocals) {argsL rest : List Value} (hlen : ∀ sig, parseMethodDescriptor y.desc = some sig → argsL.length = sig.parameters.length)
    (hstack : g.stack = argsL.reverse ++ .ref b :: rest) (hW : 2 * g.monitorRoom + (rest.map fun v => v.category).sum ≤ W9) (hdg : decode c.code g.pc = .ok (.invokevirtual index, 3))
    (hpre : ∀ vm₁, s.WarmedH vm₁ → Pre ⟨T.setVm vm₁, locs, cells, slots⟩ (Value.ref b :: argsL).toArray) :
    ∃ (v : Option Value) (vm₁ : Vm) (B : Pt), s.WarmedH vm₁ ∧ Stand p l e R s m args below meth c B.U B.locs B.cells B.slots ∧ Post ⟨T.setVm vm₁, locs, cells, slots⟩ (Value.ref b :: argsL).toArray v B ∧
      ∀ target, Steps p.tables e below (B.U.setTop { g with pc := g.pc + 3, stack := v.toList ++ rest }) target → Steps p.tables e below (T.setTop g) target := by
  obtain ⟨mk, methM, hnamed, hmethM, hstM, habM⟩ := Cond.instanceMethod_spec hinst
  obtain ⟨m8, methM', cM, hn8, hmethM', -, -, -, -, -, -, hsigM⟩ := Cond.codeWith_spec hcode
  cases Option.some.inj (hn8.symm.trans hnamed)
  cases hmethM.symm.trans hmethM'
  obtain ⟨c2, r2, m2, q1, q2, q3, q4, kP, hkP, hkPi⟩ := Cond.selects_spec hsel
  cases hcls.symm.trans q1
  cases (State.methodFound?_of_named hnamed hy).symm.trans q2
  cases hnamed.symm.trans q3
  have hselP : selectMethod e.platform s.vm cellB.cls mk = .method mk := by rw [Launch.admits_selectMethod X.admits]; exact q4
  obtain ⟨vm₁, X₁, hstep₁⟩ := X.invokevirtual hexec hown hlink hnamed hmethM hstM hkP hkPi hy (a := b) (cell := cellB) hcell
    (fun z h => by rw [h] at hobj; cases hobj) hselP hmethM habM hkP hkPi (g := g) hg (argsL := argsL) (rest := rest) (hlen _ hsigM) hstack hdg
  obtain ⟨v, B, X', hpost, hsteps⟩ := hK m meth c ⟨T.setVm vm₁, locs, cells, slots⟩ { g with stack := rest } (.invokevirtual index) mk (Value.ref b :: argsL).toArray X₁ hg hsize hdg hW (X₁.named hnamed) (hpre vm₁ X₁.warmed)
  exact ⟨v, vm₁, B, X₁.warmed, X', hpost, fun target h => hstep₁ _ fun acts => by rw [doInvoke_state]; exact hsteps.trans h⟩
abbrev vx_CVW (R : Room) (s : State) (args : Array Value) (own C : String) (index : Nat) (y : MethodName) (bytes : ByteArray) (maxL : Nat) (ret : Option FieldType) (hh : List (Nat × Nat × Nat × Nat)) (ws : List Cond) (rm : Room) (mc ms n : Nat) : Prop :=
  (rm.cells = mc ∧ rm.slots = ms ∧ rm.frames + 1 ≤ R.frames ∧ 8 + (maxL + 11) + rm.locals ≤ R.locals ∧ (∀ w ∈ ws, ∀ (a' : Array Value) (U : State), s.WarmedH U.vm → w.before a' U = true) ∧ Cond.codeWith y bytes maxL ret hh ∈ ws) ∧
  (Cond.codeWith y bytes maxL ret hh).before args s = true ∧ (Cond.initialized y.cls).before args s = true ∧ (y.cls ≠ "java/lang/invoke/MethodHandle" ∧ y.cls ≠ "java/lang/invoke/VarHandle") ∧
  (∀ sig, parseMethodDescriptor y.desc = some sig → n = sig.parameters.length) ∧ (Cond.methodLink own index y).before args s = true ∧ (Cond.instanceMethod y).before args s = true ∧ (Cond.selects C y y).before args s = true
theorem vx_cwVW {own C : String} {index maxL mc ms : Nat} {y : MethodName} {bytes : ByteArray} {ret : Option FieldType} {hh : List (Nat × Nat × Nat × Nat)} {Ts ws ws' : List Cond} {rm : Room} (n : Nat) (ht : ∀ w ∈ Ts, w.before args s = true) (hT : GoodIn Ts (wsV own index C y ws)) (hw : ws = Cond.codeWith y bytes maxL ret hh :: ws') (hrc : rm.cells = mc) (hrs : rm.slots = ms)
    (hd : y.cls = C ∧ y.cls ≠ "java/lang/invoke/MethodHandle" ∧ y.cls ≠ "java/lang/invoke/VarHandle" ∧ (parseMethodDescriptor y.desc).map (fun d => d.parameters.length) = some n) (hR : rm.frames + 1 ≤ R.frames ∧ 8 + (maxL + 11) + rm.locals ≤ R.locals) :
    vx_CVW R s args own C index y bytes maxL ret hh ws rm mc ms n := by
  obtain ⟨hC, hd⟩ := hd
  subst hC
  have ok : ∀ w ∈ wsV own index y.cls y ws, w.before args s = true := fun w h => ht w (hT w h).1
  have hG : GoodIn Ts ws := fun w h => hT w (by unfold wsV; exact List.mem_append_right _ h)
  have hc : Cond.codeWith y bytes maxL ret hh ∈ ws := by rw [hw]; exact List.mem_cons_self
  refine ⟨⟨hrc, hrs, hR.1, hR.2, pay_in ht hG, hc⟩, ht _ (hG _ hc).1, ok _ (by simp [wsV]), ⟨hd.1, hd.2.1⟩, fun sig h => ?_, ok _ (by simp [wsV]), ok _ (by simp [wsV]), ok _ (by simp [wsV])⟩
  have h2 := hd.2.2
  rw [h] at h2
  exact (Option.some.inj h2).symm
theorem vx_runVW {y : MethodName} {bytes cc : ByteArray} {maxL nL mc ms n index : Nat} {ret : Option FieldType} {hh : List (Nat × Nat × Nat × Nat)} {ws : List Cond} {rm : Room} {Pc : Array Value → State → Prop} {Qc : Array Value → State → Outcome → State → Prop} {free : Addr → Prop} {Ts : List Cond} {own C : String} {b : Addr} {As rest : List Value} {g : JFrame}
    (S : CallFix p m c cc nL s args Ts own) (hM : Met l y ws rm Pc Qc mc ms free) (cw : vx_CVW R s args own C index y bytes maxL ret hh ws rm mc ms n) (hp : PreV s H C b Pc As)
    (hg : g.method = m) (hn : As.length = n) (hsize : g.locals.size = nL) (hstack : g.stack = As.reverse ++ .ref b :: rest) (hW : 2 * g.monitorRoom + (rest.map fun v => v.category).sum ≤ 8) (hdg : decode cc g.pc = .ok (.invokevirtual index, 3)) (hf : cells + mc ≤ R.cells ∧ slots + ms ≤ R.slots) :
    va_Run p l e R s m args below meth c H locs cells slots mc ms g rest (Qc (Value.ref b :: As).toArray) free := by
  obtain ⟨⟨hrc, hrs, hfr, hlo, hws, hcw⟩, hcode, hini, hy, hlen, hl, hin, hse⟩ := cw
  have hK : Back l R p e below s args y 3 8 (PreOf R mc ms Pc) (PostOf Qc mc ms free) := va_backW (hh := hh) (bytes := bytes) (maxL := maxL) (ret := ret) hM hp.1 hrc hrs hfr hlo hws hcw (fun a' U hW => word_at hW (Or.inl (by first | rfl | simp [Cond.onTables, Cond.keeps, Cond.steady])) hini)
  obtain ⟨hx, hb, hml, ho, -⟩ := S
  obtain ⟨-, ⟨cellB, hcB, hoB, hclB⟩, hPc⟩ := hp
  intro T hT X
  obtain ⟨v, vm₁, ⟨U', l2, c2, s2⟩, hW₁, X', ⟨g', mk, t, L, e1, e2, hq, h1, hL, h2, h3⟩, st⟩ := vx_callVW X hx (C := C) (hh := hh) (bytes := bytes) (maxL := maxL) (ret := ret) ho hl hin hse hcode hy hK (by rw [hT]; exact hcB) hoB hclB hg (hsize.trans hml.symm) (argsL := As) (rest := rest) (fun sig h => hn.trans (hlen sig h)) hstack hW (by rw [hb]; exact hdg)
    (fun vm₁ hW₁ => ⟨hf.1, hf.2, hPc (T.setVm vm₁) hT hW₁⟩)
  dsimp only [Pt.U, Pt.locs, Pt.cells, Pt.slots] at X' e1 e2 h1 h2 h3 st
  subst h1; subst h2; subst h3
  exact ⟨v, (T.setVm vm₁).calling g' mk (Value.ref b :: As).toArray, t, U', L, hT, X', hL, e1, e2, hq, st⟩
section
variable {y : MethodName} {bytes cc : ByteArray} {maxL nL mc ms n index : Nat} {ret : Option FieldType} {ws : List Cond} {rm : Room} {Pc : Array Value → State → Prop} {Qc : Array Value → State → Outcome → State → Prop} {XC : String → State → State → Prop} {free : Addr → Prop} {Ts : List Cond} {own C : String} {b : Addr} {As rest : List Value} {g : JFrame}
theorem vx_runVX {hh : List (Nat × Nat × Nat × Nat)} (S : CallFix p m c cc nL s args Ts own) (hM : vx_Met l y ws rm Pc Qc XC mc ms free) (cw : vx_CVW R s args own C index y bytes maxL ret hh ws rm mc ms n) (hp : PreV s H C b Pc As)
    (hg : g.method = m) (hn : As.length = n) (hsize : g.locals.size = nL) (hstack : g.stack = As.reverse ++ .ref b :: rest) (hW : 2 * g.monitorRoom + (rest.map fun v => v.category).sum ≤ 8) (hdg : decode cc g.pc = .ok (.invokevirtual index, 3)) (hf : cells + mc ≤ R.cells ∧ slots + ms ≤ R.slots) :
    vx_Run p l e R s m args below meth c H locs cells slots mc ms g rest (Qc (Value.ref b :: As).toArray) XC free := by
  obtain ⟨⟨hrc, hrs, hfr, hlo, hws, hcw⟩, hcode, hini, hy, hlen, hl, hin, hse⟩ := cw
  have hK : vx_Back l R p e below s args y 3 8 (PreOf R mc ms Pc) (PostOf Qc mc ms free) (vx_Post XC mc ms free) := vx_backW (hh := hh) (bytes := bytes) (maxL := maxL) (ret := ret) hM hp.1 hrc hrs hfr hlo hws hcw (fun a' U hW => word_at hW (Or.inl (by first | rfl | simp [Cond.onTables, Cond.keeps, Cond.steady])) hini)
  obtain ⟨hx, hb, hml, ho, -⟩ := S
  obtain ⟨-, ⟨cellB, hcB, hoB, hclB⟩, hPc⟩ := hp
  intro T hT X
  rcases vx_callVX X hx (C := C) (hh := hh) (bytes := bytes) (maxL := maxL) (ret := ret) ho hl hin hse hcode hy hK (by rw [hT]; exact hcB) hoB hclB hg (hsize.trans hml.symm) (argsL := As) (rest := rest) (fun sig h => hn.trans (hlen sig h)) hstack hW (by rw [hb]; exact hdg)
    (fun vm₁ hW₁ => ⟨hf.1, hf.2, hPc (T.setVm vm₁) hT hW₁⟩) with ⟨v, vm₁, ⟨U', l2, c2, s2⟩, hW₁, X', ⟨g', mk, t, L, e1, e2, hq, h1, hL, h2, h3⟩, st⟩ | ⟨q, vm₁, ⟨U', l2, c2, s2⟩, hW₁, X', ⟨g', mk, t, L, E, ce, e1, e2, hq, hce, hcv, hcl, h1, hL, h2, h3⟩, st⟩
  · dsimp only [Pt.U, Pt.locs, Pt.cells, Pt.slots] at X' e1 e2 h1 h2 h3 st
    subst h1; subst h2; subst h3
    exact Or.inl ⟨v, (T.setVm vm₁).calling g' mk (Value.ref b :: As).toArray, t, U', L, hT, X', hL, e1, e2, hq, st⟩
  · dsimp only [Pt.U, Pt.locs, Pt.cells, Pt.slots] at X' e1 e2 h1 h2 h3 st hcl
    subst h1; subst h2; subst h3
    exact Or.inr ⟨q, (T.setVm vm₁).calling g' mk (Value.ref b :: As).toArray, t, U', L, E, ce, hT, X', hL, e1, e2, hq, hce, hcv, vx_cls hW₁ hcl, st⟩
theorem vx_runSX {hh : List (Nat × Nat × Nat × Nat)} (S : CallFix p m c cc nL s args Ts own) (hM : vx_Met l y ws rm Pc Qc XC mc ms free) (cw : vx_CSW R s args own index y bytes maxL ret hh ws rm mc ms n) (hp : PreS s H Pc As)
    (hg : g.method = m) (hn : As.length = n) (hsize : g.locals.size = nL) (hstack : g.stack = As.reverse ++ rest) (hW : 2 * g.monitorRoom + (rest.map fun v => v.category).sum ≤ 8) (hdg : decode cc g.pc = .ok (.invokestatic index, 3)) (hf : cells + mc ≤ R.cells ∧ slots + ms ≤ R.slots) :
    vx_Run p l e R s m args below meth c H locs cells slots mc ms g rest (Qc As.toArray) XC free := by
  obtain ⟨⟨hrc, hrs, hfr, hlo, hws, hcw⟩, hcode, hini, hy, hlen, hl, hstt⟩ := cw
  have hK : vx_Back l R p e below s args y 3 8 (PreOf R mc ms Pc) (PostOf Qc mc ms free) (vx_Post XC mc ms free) := vx_backW (hh := hh) (bytes := bytes) (maxL := maxL) (ret := ret) hM hp.1 hrc hrs hfr hlo hws hcw (fun a' U hW => word_at hW (Or.inl (by first | rfl | simp [Cond.onTables, Cond.keeps, Cond.steady])) hini)
  obtain ⟨hx, hb, hml, ho, -⟩ := S
  intro T hT X
  rcases vx_callSX X hx (hh := hh) (bytes := bytes) (maxL := maxL) (ret := ret) ho hl hstt hini hcode hy hK hg (hsize.trans hml.symm) (argsL := As) (rest := rest) (fun sig h => hn.trans (hlen sig h)) hstack hW (by rw [hb]; exact hdg)
    (fun vm₁ hW₁ => ⟨hf.1, hf.2, hp.2 (T.setVm vm₁) hT hW₁⟩) with ⟨v, vm₁, ⟨U', l2, c2, s2⟩, hW₁, X', ⟨g', mk, t, L, e1, e2, hq, h1, hL, h2, h3⟩, st⟩ | ⟨q, vm₁, ⟨U', l2, c2, s2⟩, hW₁, X', ⟨g', mk, t, L, E, ce, e1, e2, hq, hce, hcv, hcl, h1, hL, h2, h3⟩, st⟩
  · dsimp only [Pt.U, Pt.locs, Pt.cells, Pt.slots] at X' e1 e2 h1 h2 h3 st
    subst h1; subst h2; subst h3
    exact Or.inl ⟨v, (T.setVm vm₁).calling g' mk As.toArray, t, U', L, hT, X', hL, e1, e2, hq, st⟩
  · dsimp only [Pt.U, Pt.locs, Pt.cells, Pt.slots] at X' e1 e2 h1 h2 h3 st hcl
    subst h1; subst h2; subst h3
    exact Or.inr ⟨q, (T.setVm vm₁).calling g' mk As.toArray, t, U', L, E, ce, hT, X', hL, e1, e2, hq, hce, hcv, vx_cls hW₁ hcl, st⟩
end
end VXH
theorem vx_ofWH {l : Launch} {y : MethodName} {ws ws' : List Cond} {rm : Room} {Pc : Array Value → State → Prop} {Qc : Array Value → State → Outcome → State → Prop} {XC : String → State → State → Prop} {mc ms : Nat} {free : Addr → Prop} {cc : ByteArray} {maxL : Nat} {ret : Option FieldType} {hh : List (Nat × Nat × Nat × Nat)}
    (hy : plainName y.cls = true) (hw : ws = Cond.codeWith y cc maxL ret hh :: ws')
    (body : ∀ p e s m args below meth c s₁, BodyLoose p l y (headSpec ws rm) cc maxL ret e s m args below meth c s₁ → c.maxLocals = maxL → Pc args s →
      W p l e (headSpec ws rm).room s m args below meth c s.heap [] 0 0 (vx_MQ below Qc XC args s mc ms free) (entryFrame m args maxL)) : vx_Met l y ws rm Pc Qc XC mc ms free := by
  refine MetFree.of_bodyS (code := cc) (maxLocals := maxL) (ret := ret) hy ?_ ?_
  · intro args s m h hn
    obtain ⟨m9, meth, c, hn9, h1, h2, h3, h4, -, h5, h6, -⟩ := Cond.codeWith_spec (atoms_spec (ws := ws) h _ (by rw [hw]; exact List.mem_cons_self))
    cases hn.symm.trans hn9
    exact ⟨meth, c, h1, h2, h3, h4, h5, h6⟩
  · intro p e s m args below meth c s₁ B hml hP _
    have hh0 : s₁.heap = s.heap := by rw [B.state]; rfl
    obtain ⟨t, a1, o, b1, b2, b3⟩ := body p e s m args below meth c s₁ B hml hP s₁ hh0 (Stand.of_body B)
    exact ⟨t, o, a1, b1, b2, b3⟩
/-! ===== END ===== -/
/-! ===== BEGIN a constructor that throws (launches without stack traces) ===== -/
section VXIA
variable {p : Program} {l : Launch} {e : Env} {R : Room} {s : State} {m : MethodId} {args : Array Value} {below : List Frame} {meth : Method} {c : Code} {T : State} {locs : List Loc} {cells slots : Nat}
theorem vx_callI (X : Stand p l e R s m args below meth c T locs cells slots) (hexec : p.tables.exec = Jvm.exec) {own : String} {index : Nat} {y : MethodName} {bytes : ByteArray} {maxL : Nat}
    (hown : s.vm.findClass own = some m.cls) (hy1 : y.name = "<init>") (hlink : (Cond.methodLink own index y).before args s = true) (hinst : (Cond.instanceMethod y).before args s = true)
    (hcode : (Cond.code y bytes maxL none).before args s = true) (hy : y.cls ≠ "java/lang/invoke/MethodHandle" ∧ y.cls ≠ "java/lang/invoke/VarHandle")
    {W9 : Nat} {Pre : Pt → Array Value → Prop} {Post : Pt → Array Value → Option Value → Pt → Prop} {PostX : Pt → Array Value → Addr → Pt → Prop} (hK : vx_Back l R p e below s args y 3 W9 Pre Post PostX)
    {g : JFrame} (hg : g.method = m) (hsize : g.locals.size = c.maxLocals) {a : Addr} {argsL rest : List Value} (hlen : ∀ sig, parseMethodDescriptor y.desc = some sig → argsL.length = sig.parameters.length)
    (hstack : g.stack = argsL.reverse ++ .ref a :: rest) (hW : 2 * g.monitorRoom + (rest.map fun v => v.category).sum ≤ W9) (hdg : decode c.code g.pc = .ok (.invokespecial index, 3))
    (hpre : ∀ vm₁, s.WarmedH vm₁ → Pre ⟨T.setVm vm₁, locs, cells, slots⟩ (Value.ref a :: argsL).toArray) :
    (∃ (v : Option Value) (vm₁ : Vm) (B : Pt), s.WarmedH vm₁ ∧ Stand p l e R s m args below meth c B.U B.locs B.cells B.slots ∧ Post ⟨T.setVm vm₁, locs, cells, slots⟩ (Value.ref a :: argsL).toArray v B ∧
      ∀ target, Steps p.tables e below (B.U.setTop { g with pc := g.pc + 3, stack := v.toList ++ rest }) target → Steps p.tables e below (T.setTop g) target) ∨
    (∃ (q : Addr) (vm₁ : Vm) (B : Pt), s.WarmedH vm₁ ∧ Stand p l e R s m args below meth c B.U B.locs B.cells B.slots ∧ PostX ⟨T.setVm vm₁, locs, cells, slots⟩ (Value.ref a :: argsL).toArray q B ∧
      Steps p.tables e below (T.setTop g) ((B.U.setTop { g with stack := rest }).pushFrame (.throwing q))) := by
  subst hg
  have hpl : e.platform.magicAccessors = ({} : Platform).magicAccessors := by rw [X.admits.platform]
  obtain ⟨mk, methM, cM, kP, vm₁, hnamed, hmethM, hcodeM, -, hlocalsM, -, hkP, -, hW₁, hstep₁⟩ := Steps.initColdArgs (e := e) X.here hexec X.warmed hpl hown hy1 hy hlink hinst hcode (f := g) rfl hlen hstack hdg
  have X₁ := X.noted hW₁
  rcases hK g.method meth c ⟨T.setVm vm₁, locs, cells, slots⟩ { g with stack := rest } (.invokespecial index) mk (Value.ref a :: argsL).toArray X₁ rfl hsize hdg hW (X₁.named hnamed) (hpre vm₁ X₁.warmed) with ⟨v, B, X', hpost, hsteps⟩ | ⟨q, B, X', hpost, hsteps⟩
  · exact Or.inl ⟨v, vm₁, B, X₁.warmed, X', hpost, fun target h => hstep₁ _ fun acts => by rw [doInvoke_state]; exact hsteps.trans h⟩
  · exact Or.inr ⟨q, vm₁, B, X₁.warmed, X', hpost, hstep₁ _ fun acts => by rw [doInvoke_state]; exact hsteps⟩
end VXIA
section VXIB
variable {p : Program} {l : Launch} {e : Env} {R : Room} {s : State} {m : MethodId} {args : Array Value} {below : List Frame} {meth : Method} {c : Code} {H : Heap} {locs : List Loc} {cells slots : Nat}
variable {y : MethodName} {bytes cc : ByteArray} {maxL nL mc ms n index : Nat} {ret : Option FieldType} {ws : List Cond} {rm : Room} {Pc : Array Value → State → Prop} {Qc : Array Value → State → Outcome → State → Prop} {XC : String → State → State → Prop} {free : Addr → Prop} {Ts : List Cond} {own C : String} {b : Addr} {As rest : List Value} {g : JFrame}
theorem vx_runI (S : CallFix p m c cc nL s args Ts own) (hM : vx_Met l y ws rm Pc Qc XC mc ms free) (cw : CallB R s args own index y bytes maxL none ws rm mc ms n ∧ y.name = "<init>" ∧ (Cond.instanceMethod y).before args s = true) (hp : PreS s H Pc (.ref b :: As))
    (hg : g.method = m) (hn : As.length = n) (hsize : g.locals.size = nL) (hstack : g.stack = As.reverse ++ .ref b :: rest) (hW : 2 * g.monitorRoom + (rest.map fun v => v.category).sum ≤ 8) (hdg : decode cc g.pc = .ok (.invokespecial index, 3)) (hf : cells + mc ≤ R.cells ∧ slots + ms ≤ R.slots) :
    vx_Run p l e R s m args below meth c H locs cells slots mc ms g rest (Qc (Value.ref b :: As).toArray) XC free := by
  have hK : vx_Back l R p e below s args y 3 8 (PreOf R mc ms Pc) (PostOf Qc mc ms free) (vx_Post XC mc ms free) := vx_callBack cw.1 hM hp.1
  obtain ⟨⟨-, -, -, -, -, -, hcode, -, hy, hlen, hl⟩, hy1, hin⟩ := cw
  obtain ⟨hx, hb, hml, ho, -⟩ := S
  have hPc := hp.2
  intro T hT X
  rcases vx_callI X hx (bytes := bytes) (maxL := maxL) ho hy1 hl hin hcode hy hK hg (hsize.trans hml.symm) (a := b) (argsL := As) (rest := rest) (fun sig h => hn.trans (hlen sig h)) hstack hW (by rw [hb]; exact hdg)
    (fun vm₁ hW₁ => ⟨hf.1, hf.2, hPc (T.setVm vm₁) hT hW₁⟩) with ⟨v, vm₁, ⟨U', l2, c2, s2⟩, hW₁, X', ⟨g', mk, t, L, e1, e2, hq, h1, hL, h2, h3⟩, st⟩ | ⟨q, vm₁, ⟨U', l2, c2, s2⟩, hW₁, X', ⟨g', mk, t, L, E, ce, e1, e2, hq, hce, hcv, hcl, h1, hL, h2, h3⟩, st⟩
  · dsimp only [Pt.U, Pt.locs, Pt.cells, Pt.slots] at X' e1 e2 h1 h2 h3 st
    subst h1; subst h2; subst h3
    exact Or.inl ⟨v, (T.setVm vm₁).calling g' mk (Value.ref b :: As).toArray, t, U', L, hT, X', hL, e1, e2, hq, st⟩
  · dsimp only [Pt.U, Pt.locs, Pt.cells, Pt.slots] at X' e1 e2 h1 h2 h3 st hcl
    subst h1; subst h2; subst h3
    exact Or.inr ⟨q, (T.setVm vm₁).calling g' mk (Value.ref b :: As).toArray, t, U', L, E, ce, hT, X', hL, e1, e2, hq, hce, hcv, vx_cls hW₁ hcl, st⟩
end VXIB
/-! ===== END ===== -/
/-! ===== BEGIN a private constructor of a nest mate that throws ===== -/
section VXIC
variable {p : Program} {l : Launch} {e : Env} {R : Room} {s : State} {m : MethodId} {args : Array Value} {below : List Frame} {meth : Method} {c : Code} {T : State} {locs : List Loc} {cells slots : Nat}
theorem vx_callIN (X : Stand p l e R s m args below meth c T locs cells slots) (hexec : p.tables.exec = Jvm.exec) {own : String} {index : Nat} {host : String} {y : MethodName} {bytes : ByteArray} {maxL : Nat}
    (hown : s.vm.findClass own = some m.cls) (hy1 : y.name = "<init>") (hlink : (Cond.methodLinkNest own index y host).before args s = true) (hinst : (Cond.instanceMethod y).before args s = true)
    (hcode : (Cond.code y bytes maxL none).before args s = true) (hy : y.cls ≠ "java/lang/invoke/MethodHandle" ∧ y.cls ≠ "java/lang/invoke/VarHandle")
    {W9 : Nat} {Pre : Pt → Array Value → Prop} {Post : Pt → Array Value → Option Value → Pt → Prop} {PostX : Pt → Array Value → Addr → Pt → Prop} (hK : vx_Back l R p e below s args y 3 W9 Pre Post PostX)
    {g : JFrame} (hg : g.method = m) (hsize : g.locals.size = c.maxLocals) {a : Addr} {argsL rest : List Value} (hlen : ∀ sig, parseMethodDescriptor y.desc = some sig → argsL.length = sig.parameters.length)
    (hstack : g.stack = argsL.reverse ++ .ref a :: rest) (hW : 2 * g.monitorRoom + (rest.map fun v => v.category).sum ≤ W9) (hdg : decode c.code g.pc = .ok (.invokespecial index, 3))
    (hpre : ∀ vm₁, s.WarmedH vm₁ → Pre ⟨T.setVm vm₁, locs, cells, slots⟩ (Value.ref a :: argsL).toArray) :
    (∃ (v : Option Value) (vm₁ : Vm) (B : Pt), s.WarmedH vm₁ ∧ Stand p l e R s m args below meth c B.U B.locs B.cells B.slots ∧ Post ⟨T.setVm vm₁, locs, cells, slots⟩ (Value.ref a :: argsL).toArray v B ∧
      ∀ target, Steps p.tables e below (B.U.setTop { g with pc := g.pc + 3, stack := v.toList ++ rest }) target → Steps p.tables e below (T.setTop g) target) ∨
    (∃ (q : Addr) (vm₁ : Vm) (B : Pt), s.WarmedH vm₁ ∧ Stand p l e R s m args below meth c B.U B.locs B.cells B.slots ∧ PostX ⟨T.setVm vm₁, locs, cells, slots⟩ (Value.ref a :: argsL).toArray q B ∧
      Steps p.tables e below (T.setTop g) ((B.U.setTop { g with stack := rest }).pushFrame (.throwing q))) := by
  subst hg
  have hpl : e.platform.magicAccessors = ({} : Platform).magicAccessors := by rw [X.admits.platform]
  obtain ⟨mk, methM, cM, kP, vm₁, hnamed, hmethM, hcodeM, -, hlocalsM, -, hkP, -, hW₁, hstep₁⟩ := Steps.initColdArgsNest (e := e) X.here hexec X.warmed hpl hown hy1 hy hlink hinst hcode (f := g) rfl hlen hstack hdg
  have X₁ := X.noted hW₁
  rcases hK g.method meth c ⟨T.setVm vm₁, locs, cells, slots⟩ { g with stack := rest } (.invokespecial index) mk (Value.ref a :: argsL).toArray X₁ rfl hsize hdg hW (X₁.named hnamed) (hpre vm₁ X₁.warmed) with ⟨v, B, X', hpost, hsteps⟩ | ⟨q, B, X', hpost, hsteps⟩
  · exact Or.inl ⟨v, vm₁, B, X₁.warmed, X', hpost, fun target h => hstep₁ _ fun acts => by rw [doInvoke_state]; exact hsteps.trans h⟩
  · exact Or.inr ⟨q, vm₁, B, X₁.warmed, X', hpost, hstep₁ _ fun acts => by rw [doInvoke_state]; exact hsteps⟩
end VXIC
section VXID
variable {p : Program} {l : Launch} {e : Env} {R : Room} {s : State} {m : MethodId} {args : Array Value} {below : List Frame} {meth : Method} {c : Code} {H : Heap} {locs : List Loc} {cells slots : Nat}
theorem vx_runIN {y : MethodName} {bytes cc : ByteArray} {maxL nL mc ms n index : Nat} {ws : List Cond} {rm : Room} {Pc : Array Value → State → Prop} {Qc : Array Value → State → Outcome → State → Prop} {XC : String → State → State → Prop} {free : Addr → Prop} {Ts : List Cond} {own host : String} {b : Addr} {As rest : List Value} {g : JFrame}
    (S : CallFix p m c cc nL s args Ts own) (hM : vx_Met l y ws rm Pc Qc XC mc ms free) (cw : va_CN R s args own index y host bytes maxL none ws rm mc ms n ∧ y.name = "<init>" ∧ (Cond.instanceMethod y).before args s = true) (hp : PreS s H Pc (.ref b :: As))
    (hg : g.method = m) (hn : As.length = n) (hsize : g.locals.size = nL) (hstack : g.stack = As.reverse ++ .ref b :: rest) (hW : 2 * g.monitorRoom + (rest.map fun v => v.category).sum ≤ 8) (hdg : decode cc g.pc = .ok (.invokespecial index, 3)) (hf : cells + mc ≤ R.cells ∧ slots + ms ≤ R.slots) :
    vx_Run p l e R s m args below meth c H locs cells slots mc ms g rest (Qc (Value.ref b :: As).toArray) XC free := by
  obtain ⟨⟨⟨hrc, hrs, hfr, hlo, hws, hcw⟩, hcode, hini, hy, hlen, hl⟩, hx1, hx2⟩ := cw
  have hK : vx_Back l R p e below s args y 3 8 (PreOf R mc ms Pc) (PostOf Qc mc ms free) (vx_Post XC mc ms free) := vx_back (bytes := bytes) (maxL := maxL) (ret := none) hM hp.1 hrc hrs hfr hlo hws hcw (fun a' U hW => word_at hW (Or.inl (by first | rfl | simp [Cond.onTables, Cond.keeps, Cond.steady])) hini)
  obtain ⟨hx, hb, hml, ho, -⟩ := S
  have hPc := hp.2
  intro T hT X
  rcases vx_callIN X hx (bytes := bytes) (maxL := maxL) ho hx1 hl hx2 hcode hy hK hg (hsize.trans hml.symm) (a := b) (argsL := As) (rest := rest) (fun sig h => hn.trans (hlen sig h)) hstack hW (by rw [hb]; exact hdg)
    (fun vm₁ hW₁ => ⟨hf.1, hf.2, hPc (T.setVm vm₁) hT hW₁⟩) with ⟨v, vm₁, ⟨U', l2, c2, s2⟩, hW₁, X', ⟨g', mk, t, L, e1, e2, hq, h1, hL, h2, h3⟩, st⟩ | ⟨q, vm₁, ⟨U', l2, c2, s2⟩, hW₁, X', ⟨g', mk, t, L, E, ce, e1, e2, hq, hce, hcv, hcl, h1, hL, h2, h3⟩, st⟩
  · dsimp only [Pt.U, Pt.locs, Pt.cells, Pt.slots] at X' e1 e2 h1 h2 h3 st
    subst h1; subst h2; subst h3
    exact Or.inl ⟨v, (T.setVm vm₁).calling g' mk (Value.ref b :: As).toArray, t, U', L, hT, X', hL, e1, e2, hq, st⟩
  · dsimp only [Pt.U, Pt.locs, Pt.cells, Pt.slots] at X' e1 e2 h1 h2 h3 st hcl
    subst h1; subst h2; subst h3
    exact Or.inr ⟨q, (T.setVm vm₁).calling g' mk (Value.ref b :: As).toArray, t, U', L, E, ce, hT, X', hL, e1, e2, hq, hce, hcv, vx_cls hW₁ hcl, st⟩
end VXID
/-! ===== END ===== -/
/-! ===== BEGIN a method of a class above, found by the receiver, that may throw (follows va_callVU, va_runU of this kit) ===== -/
section
variable {p : Program} {l : Launch} {e : Env} {R : Room} {s : State} {m : MethodId} {args : Array Value} {below : List Frame} {meth : Method} {c : Code} {H : Heap} {locs : List Loc} {cells slots : Nat}
theorem vx_callVU {T : State} {locs : List Loc} {cells slots : Nat} (X : Stand p l e R s m args below meth c T locs cells slots) (hexec : p.tables.exec = Jvm.exec) {own C owner : String} {index : Nat} {x y : MethodName} {bytes : ByteArray} {maxL : Nat} {ret : Option FieldType}
    (hown : s.vm.findClass own = some m.cls) (hlink : (Cond.methodLink own index x).before args s = true) (hsame : (Cond.sameMethod x.cls owner x.name x.desc).before args s = true)
    (hd0 : va_Decl s ⟨owner, x.name, x.desc⟩) (howner : owner ≠ "java/lang/invoke/MethodHandle" ∧ owner ≠ "java/lang/invoke/VarHandle")
    (hsel : (Cond.selects C x y).before args s = true) (hinst : (Cond.instanceMethod y).before args s = true) (hcode : (Cond.code y bytes maxL ret).before args s = true)
    {W : Nat} {Pre : Pt → Array Value → Prop} {Post : Pt → Array Value → Option Value → Pt → Prop} {PostX : Pt → Array Value → Addr → Pt → Prop} (hK : vx_Back l R p e below s args y 3 W Pre Post PostX)
    {b : Addr} {cellB : Cell} (hcell : T.heap[b]? = some cellB) (hobj : cellB.vm.isStatics = false) (hcls : s.vm.findClass C = some cellB.cls)
    {g : JFrame} (hg : g.method = m) (hsize : g.locals.size = c.maxLocals) {argsL rest : List Value} (hlen : ∀ sig, parseMethodDescriptor x.desc = some sig → argsL.length = sig.parameters.length)
    (hstack : g.stack = argsL.reverse ++ .ref b :: rest) (hW : 2 * g.monitorRoom + (rest.map fun v => v.category).sum ≤ W) (hdg : decode c.code g.pc = .ok (.invokevirtual index, 3))
    (hpre : ∀ vm₁, s.WarmedH vm₁ → Pre ⟨T.setVm vm₁, locs, cells, slots⟩ (Value.ref b :: argsL).toArray) :
    (∃ (v : Option Value) (vm₁ : Vm) (B : Pt), s.WarmedH vm₁ ∧ Stand p l e R s m args below meth c B.U B.locs B.cells B.slots ∧ Post ⟨T.setVm vm₁, locs, cells, slots⟩ (Value.ref b :: argsL).toArray v B ∧
      ∀ target, Steps p.tables e below (B.U.setTop { g with pc := g.pc + 3, stack := v.toList ++ rest }) target → Steps p.tables e below (T.setTop g) target) ∨
    (∃ (q : Addr) (vm₁ : Vm) (B : Pt), s.WarmedH vm₁ ∧ Stand p l e R s m args below meth c B.U B.locs B.cells B.slots ∧ PostX ⟨T.setVm vm₁, locs, cells, slots⟩ (Value.ref b :: argsL).toArray q B ∧
      Steps p.tables e below (T.setTop g) ((B.U.setTop { g with stack := rest }).pushFrame (.throwing q))) := by
  obtain ⟨r0, r, hn, hrm, hstR, hsigR⟩ := hd0
  obtain ⟨cn, ck, r1, hcn, hck, hni, hf, hn1⟩ := Cond.sameMethod_found hsame
  cases hn.symm.trans hn1
  obtain ⟨mk, methM, hnamed, hmethM, -, habM⟩ := Cond.instanceMethod_spec hinst
  obtain ⟨c2, r2, m2, q1, q2, q3, q4, kP, hkP, hkPi⟩ := Cond.selects_spec hsel
  cases hcls.symm.trans q1
  cases hf.symm.trans q2
  cases hnamed.symm.trans q3
  have hselP : selectMethod e.platform s.vm cellB.cls r0 = .method mk := by rw [Launch.admits_selectMethod X.admits]; exact q4
  obtain ⟨vm₁, X₁, hstep₁⟩ := X.invokevirtualUp hexec hown hlink hsame howner hn hrm hstR (a := b) (cell := cellB) hcell
    (fun z h => by rw [h] at hobj; cases hobj) hselP hmethM habM hkP hkPi (g := g) hg (argsL := argsL) (rest := rest) (hlen _ hsigR) hstack hdg
  rcases hK m meth c ⟨T.setVm vm₁, locs, cells, slots⟩ { g with stack := rest } (.invokevirtual index) mk (Value.ref b :: argsL).toArray X₁ hg hsize hdg hW (X₁.named hnamed) (hpre vm₁ X₁.warmed) with ⟨v, B, X', hpost, hsteps⟩ | ⟨q, B, X', hpost, hsteps⟩
  · exact Or.inl ⟨v, vm₁, B, X₁.warmed, X', hpost, fun target h => hstep₁ _ fun acts => by rw [doInvoke_state]; exact hsteps.trans h⟩
  · exact Or.inr ⟨q, vm₁, B, X₁.warmed, X', hpost, hstep₁ _ fun acts => by rw [doInvoke_state]; exact hsteps⟩
theorem vx_runU {x y : MethodName} {bytes cc : ByteArray} {maxL nL mc ms n index : Nat} {ret : Option FieldType} {ws : List Cond} {rm : Room} {Pc : Array Value → State → Prop} {Qc : Array Value → State → Outcome → State → Prop} {XC : String → State → State → Prop} {free : Addr → Prop} {Ts : List Cond} {own C owner : String} {b : Addr} {As rest : List Value} {g : JFrame}
    (S : CallFix p m c cc nL s args Ts own) (hM : vx_Met l y ws rm Pc Qc XC mc ms free) (cw : va_CU R s args own C owner index x y bytes maxL ret ws rm mc ms n) (hp : PreV s H C b Pc As)
    (hg : g.method = m) (hn : As.length = n) (hsize : g.locals.size = nL) (hstack : g.stack = As.reverse ++ .ref b :: rest) (hW : 2 * g.monitorRoom + (rest.map fun v => v.category).sum ≤ 8) (hdg : decode cc g.pc = .ok (.invokevirtual index, 3)) (hf : cells + mc ≤ R.cells ∧ slots + ms ≤ R.slots) :
    vx_Run p l e R s m args below meth c H locs cells slots mc ms g rest (Qc (Value.ref b :: As).toArray) XC free := by
  obtain ⟨hrc, hrs, hfr, hlo, hws, hcw⟩ := cw.back
  have hini := cw.init
  have hK : vx_Back l R p e below s args y 3 8 (PreOf R mc ms Pc) (PostOf Qc mc ms free) (vx_Post XC mc ms free) := vx_back (bytes := bytes) (maxL := maxL) (ret := ret) hM hp.1 hrc hrs hfr hlo hws hcw (fun a' U hW => word_at hW (Or.inl (by first | rfl | simp [Cond.onTables, Cond.keeps, Cond.steady])) hini)
  obtain ⟨hx, hb, hml, ho, -⟩ := S
  obtain ⟨-, ⟨cellB, hcB, hoB, hclB⟩, hPc⟩ := hp
  intro T hT X
  rcases vx_callVU X hx (C := C) (owner := owner) (bytes := bytes) (maxL := maxL) (ret := ret) ho cw.link cw.same cw.decl cw.notMH cw.sel cw.inst cw.code hK (by rw [hT]; exact hcB) hoB hclB hg (hsize.trans hml.symm) (argsL := As) (rest := rest) (fun sig h => hn.trans (cw.len sig h)) hstack hW (by rw [hb]; exact hdg)
    (fun vm₁ hW₁ => ⟨hf.1, hf.2, hPc (T.setVm vm₁) hT hW₁⟩) with ⟨v, vm₁, ⟨U', l2, c2, s2⟩, hW₁, X', ⟨g', mk, t, L, e1, e2, hq, h1, hL, h2, h3⟩, st⟩ | ⟨q, vm₁, ⟨U', l2, c2, s2⟩, hW₁, X', ⟨g', mk, t, L, E, ce, e1, e2, hq, hce, hcv, hcl, h1, hL, h2, h3⟩, st⟩
  · dsimp only [Pt.U, Pt.locs, Pt.cells, Pt.slots] at X' e1 e2 h1 h2 h3 st
    subst h1; subst h2; subst h3
    exact Or.inl ⟨v, (T.setVm vm₁).calling g' mk (Value.ref b :: As).toArray, t, U', L, hT, X', hL, e1, e2, hq, st⟩
  · dsimp only [Pt.U, Pt.locs, Pt.cells, Pt.slots] at X' e1 e2 h1 h2 h3 st hcl
    subst h1; subst h2; subst h3
    exact Or.inr ⟨q, (T.setVm vm₁).calling g' mk (Value.ref b :: As).toArray, t, U', L, E, ce, hT, X', hL, e1, e2, hq, hce, hcv, vx_cls hW₁ hcl, st⟩
end
/-! ===== END ===== -/
/-! ===== BEGIN super.m(..) that may throw (follows va_callSU, va_runSU) ===== -/
section
variable {p : Program} {l : Launch} {e : Env} {R : Room} {s : State} {m : MethodId} {args : Array Value} {below : List Frame} {meth : Method} {c : Code} {H : Heap} {locs : List Loc} {cells slots : Nat}
theorem vx_callSU {T : State} {locs : List Loc} {cells slots : Nat} (X : Stand p l e R s m args below meth c T locs cells slots) (hexec : p.tables.exec = Jvm.exec) {own : String} {index : Nat} {y : MethodName} {bytes : ByteArray} {maxL : Nat} {ret : Option FieldType}
    (hown : s.vm.findClass own = some m.cls) (hlink : (Cond.methodLink own index y).before args s = true) (hsame : (Cond.sameMethod y.cls y.cls y.name y.desc).before args s = true) (hsup : (Cond.superclass own y.cls).before args s = true)
    (hinst : (Cond.instanceMethod y).before args s = true) (hcode : (Cond.code y bytes maxL ret).before args s = true) (hno : y.name ≠ "<init>")
    {W : Nat} {Pre : Pt → Array Value → Prop} {Post : Pt → Array Value → Option Value → Pt → Prop} {PostX : Pt → Array Value → Addr → Pt → Prop} (hK : vx_Back l R p e below s args y 3 W Pre Post PostX)
    {b : Addr} {cellB : Cell} {kB : Class} (hcell : T.heap[b]? = some cellB) (hobj : cellB.vm.isStatics = false) (hkB : s.vm.classes[cellB.cls]? = some kB)
    {g : JFrame} (hg : g.method = m) (hsize : g.locals.size = c.maxLocals) {argsL rest : List Value} (hlen : ∀ sig, parseMethodDescriptor y.desc = some sig → argsL.length = sig.parameters.length)
    (hstack : g.stack = argsL.reverse ++ .ref b :: rest) (hW : 2 * g.monitorRoom + (rest.map fun v => v.category).sum ≤ W) (hdg : decode c.code g.pc = .ok (.invokespecial index, 3))
    (hpre : ∀ vm₁, s.WarmedH vm₁ → Pre ⟨T.setVm vm₁, locs, cells, slots⟩ (Value.ref b :: argsL).toArray) :
    (∃ (v : Option Value) (vm₁ : Vm) (B : Pt), s.WarmedH vm₁ ∧ Stand p l e R s m args below meth c B.U B.locs B.cells B.slots ∧ Post ⟨T.setVm vm₁, locs, cells, slots⟩ (Value.ref b :: argsL).toArray v B ∧
      ∀ target, Steps p.tables e below (B.U.setTop { g with pc := g.pc + 3, stack := v.toList ++ rest }) target → Steps p.tables e below (T.setTop g) target) ∨
    (∃ (q : Addr) (vm₁ : Vm) (B : Pt), s.WarmedH vm₁ ∧ Stand p l e R s m args below meth c B.U B.locs B.cells B.slots ∧ PostX ⟨T.setVm vm₁, locs, cells, slots⟩ (Value.ref b :: argsL).toArray q B ∧
      Steps p.tables e below (T.setTop g) ((B.U.setTop { g with stack := rest }).pushFrame (.throwing q))) := by
  obtain ⟨mk, methM, hnamed, hmethM, hstM, habM⟩ := Cond.instanceMethod_spec hinst
  obtain ⟨methM', cM, hmethM', -, -, -, -, -, -, hsigM⟩ := Cond.code_spec hnamed hcode
  cases hmethM.symm.trans hmethM'
  obtain ⟨ps, dk, kp, hps, hdk, hkp, hsuper, -, -, hnid⟩ := Cond.superclass_spec hown hsup
  have hn : s.methodNamed? ⟨y.cls, y.name, y.desc⟩ = some mk := hnamed
  have hpm : ps = mk.cls := Option.some.inj (hps.symm.trans (findClass_of_methodNamed hnamed))
  have hsub : s.vm.isSubclass ps mk.cls = true := by rw [hpm]; simp [Vm.isSubclass, Vm.isSubclassAux]
  obtain ⟨vm₁, X₁, hstep₁⟩ := X.invokespecialUp hexec hown hlink hsame hn hmethM hstM habM hno hdk hnid hps hsuper hsub (a := b) (cell := cellB) hcell
    (fun z h => by rw [h] at hobj; cases hobj) hkB (g := g) hg (argsL := argsL) (rest := rest) (hlen _ hsigM) hstack hdg
  rcases hK m meth c ⟨T.setVm vm₁, locs, cells, slots⟩ { g with stack := rest } (.invokespecial index) mk (Value.ref b :: argsL).toArray X₁ hg hsize hdg hW (X₁.named hnamed) (hpre vm₁ X₁.warmed) with ⟨v, B, X', hpost, hsteps⟩ | ⟨q, B, X', hpost, hsteps⟩
  · exact Or.inl ⟨v, vm₁, B, X₁.warmed, X', hpost, fun target h => hstep₁ _ (by rw [doInvoke_state]; exact hsteps.trans h)⟩
  · exact Or.inr ⟨q, vm₁, B, X₁.warmed, X', hpost, hstep₁ _ (by rw [doInvoke_state]; exact hsteps)⟩
theorem vx_runSU {y : MethodName} {bytes cc : ByteArray} {maxL nL mc ms n index : Nat} {ret : Option FieldType} {ws : List Cond} {rm : Room} {Pc : Array Value → State → Prop} {Qc : Array Value → State → Outcome → State → Prop} {XC : String → State → State → Prop} {free : Addr → Prop} {Ts : List Cond} {own C : String} {cC : ClassId} {b : Addr} {As rest : List Value} {g : JFrame}
    (hat : ClassAt s C cC) (S : CallFix p m c cc nL s args Ts own) (hM : vx_Met l y ws rm Pc Qc XC mc ms free) (cw : va_CS R s args own index y bytes maxL ret ws rm mc ms n) (hp : PreV s H C b Pc As)
    (hg : g.method = m) (hn : As.length = n) (hsize : g.locals.size = nL) (hstack : g.stack = As.reverse ++ .ref b :: rest) (hW : 2 * g.monitorRoom + (rest.map fun v => v.category).sum ≤ 8) (hdg : decode cc g.pc = .ok (.invokespecial index, 3)) (hf : cells + mc ≤ R.cells ∧ slots + ms ≤ R.slots) :
    vx_Run p l e R s m args below meth c H locs cells slots mc ms g rest (Qc (Value.ref b :: As).toArray) XC free := by
  obtain ⟨⟨hrc, hrs, hfr, hlo, hws, hcw⟩, hl1, hl2, hl3, hl4, hini, hcode, hno, hlen⟩ := cw
  have hK : vx_Back l R p e below s args y 3 8 (PreOf R mc ms Pc) (PostOf Qc mc ms free) (vx_Post XC mc ms free) := vx_back (bytes := bytes) (maxL := maxL) (ret := ret) hM hp.1 hrc hrs hfr hlo hws hcw (fun a' U hW => word_at hW (Or.inl (by first | rfl | simp [Cond.onTables, Cond.keeps, Cond.steady])) hini)
  obtain ⟨hx, hb, hml, ho, -⟩ := S
  obtain ⟨-, ⟨cellB, hcB, hoB, hclB⟩, hPc⟩ := hp
  obtain ⟨hfc, kB, hkB, -⟩ := hat
  cases hfc.symm.trans hclB
  intro T hT X
  rcases vx_callSU X hx (bytes := bytes) (maxL := maxL) (ret := ret) ho hl1 hl2 hl3 hl4 hcode hno hK (by rw [hT]; exact hcB) hoB hkB hg (hsize.trans hml.symm) (argsL := As) (rest := rest) (fun sig h => hn.trans (hlen sig h)) hstack hW (by rw [hb]; exact hdg)
    (fun vm₁ hW₁ => ⟨hf.1, hf.2, hPc (T.setVm vm₁) hT hW₁⟩) with ⟨v, vm₁, ⟨U', l2, c2, s2⟩, hW₁, X', ⟨g', mk, t, L, e1, e2, hq, h1, hL, h2, h3⟩, st⟩ | ⟨q, vm₁, ⟨U', l2, c2, s2⟩, hW₁, X', ⟨g', mk, t, L, E, ce, e1, e2, hq, hce, hcv, hcl, h1, hL, h2, h3⟩, st⟩
  · dsimp only [Pt.U, Pt.locs, Pt.cells, Pt.slots] at X' e1 e2 h1 h2 h3 st
    subst h1; subst h2; subst h3
    exact Or.inl ⟨v, (T.setVm vm₁).calling g' mk (Value.ref b :: As).toArray, t, U', L, hT, X', hL, e1, e2, hq, st⟩
  · dsimp only [Pt.U, Pt.locs, Pt.cells, Pt.slots] at X' e1 e2 h1 h2 h3 st hcl
    subst h1; subst h2; subst h3
    exact Or.inr ⟨q, (T.setVm vm₁).calling g' mk (Value.ref b :: As).toArray, t, U', L, E, ce, hT, X', hL, e1, e2, hq, hce, hcv, vx_cls hW₁ hcl, st⟩
end
/-! ===== END ===== -/
end
section
-- ===== PART A: goes FIRST, ahead of the names: the tables' words, and 'selects' of the private methods out of them =====
/-- a private method of a class that the tables say can be made, by its rows of tables_1 -/
def lw_okq (q : MethodName × Nat) : Prop := (q.1.cls ≠ "java/lang/invoke/MethodHandle" ∧ q.1.cls ≠ "java/lang/invoke/VarHandle") ∧ Cond.instantiable q.1.cls q.2 ∈ tables_1 ∧ Cond.privateMethod q.1 ∈ tables_1 ∧ Cond.instanceMethod q.1 ∈ tables_1
theorem lw_p0 : lw_okq (⟨"PseudoBoolean", "models", "()LPseudoBoolean$ModelSet;"⟩, 18) := ⟨⟨by decide +kernel, by decide +kernel⟩, List.mem_of_getElem? (i := 35) (by decide +kernel), List.mem_of_getElem? (i := 304) (by decide +kernel), List.mem_of_getElem? (i := 305) (by decide +kernel)⟩
theorem lw_p1 : lw_okq (⟨"PseudoBoolean", "decidedTrue", "()I"⟩, 18) := ⟨⟨by decide +kernel, by decide +kernel⟩, List.mem_of_getElem? (i := 35) (by decide +kernel), List.mem_of_getElem? (i := 308) (by decide +kernel), List.mem_of_getElem? (i := 309) (by decide +kernel)⟩
theorem lw_p2 : lw_okq (⟨"PseudoBoolean", "decidedFalse", "()I"⟩, 18) := ⟨⟨by decide +kernel, by decide +kernel⟩, List.mem_of_getElem? (i := 35) (by decide +kernel), List.mem_of_getElem? (i := 316) (by decide +kernel), List.mem_of_getElem? (i := 317) (by decide +kernel)⟩
theorem lw_p3 : lw_okq (⟨"PseudoBoolean$ModelSet", "matching", "(III)J"⟩, 1) := ⟨⟨by decide +kernel, by decide +kernel⟩, List.mem_of_getElem? (i := 215) (by decide +kernel), List.mem_of_getElem? (i := 327) (by decide +kernel), List.mem_of_getElem? (i := 328) (by decide +kernel)⟩
theorem lw_p4 : lw_okq (⟨"java/lang/Throwable", "fillInStackTrace", "(I)Ljava/lang/Throwable;"⟩, 6) := ⟨⟨by decide +kernel, by decide +kernel⟩, List.mem_of_getElem? (i := 408) (by decide +kernel), List.mem_of_getElem? (i := 406) (by decide +kernel), List.mem_of_getElem? (i := 407) (by decide +kernel)⟩
theorem lw_p5 : lw_okq (⟨"PseudoBoolean$Reader", "nextToken", "()V"⟩, 9) := ⟨⟨by decide +kernel, by decide +kernel⟩, List.mem_of_getElem? (i := 58) (by decide +kernel), List.mem_of_getElem? (i := 477) (by decide +kernel), List.mem_of_getElem? (i := 478) (by decide +kernel)⟩
theorem lw_p6 : lw_okq (⟨"PseudoBoolean$Reader", "takeNumber", "()V"⟩, 9) := ⟨⟨by decide +kernel, by decide +kernel⟩, List.mem_of_getElem? (i := 58) (by decide +kernel), List.mem_of_getElem? (i := 488) (by decide +kernel), List.mem_of_getElem? (i := 489) (by decide +kernel)⟩
theorem lw_p7 : lw_okq (⟨"PseudoBoolean$Reader", "take", "(II)V"⟩, 9) := ⟨⟨by decide +kernel, by decide +kernel⟩, List.mem_of_getElem? (i := 58) (by decide +kernel), List.mem_of_getElem? (i := 492) (by decide +kernel), List.mem_of_getElem? (i := 493) (by decide +kernel)⟩
theorem lw_p8 : lw_okq (⟨"PseudoBoolean$Reader", "takeSymbol", "(I)V"⟩, 9) := ⟨⟨by decide +kernel, by decide +kernel⟩, List.mem_of_getElem? (i := 58) (by decide +kernel), List.mem_of_getElem? (i := 496) (by decide +kernel), List.mem_of_getElem? (i := 497) (by decide +kernel)⟩
theorem lw_p9 : lw_okq (⟨"PseudoBoolean$Reader", "readSum", "()Z"⟩, 9) := ⟨⟨by decide +kernel, by decide +kernel⟩, List.mem_of_getElem? (i := 58) (by decide +kernel), List.mem_of_getElem? (i := 500) (by decide +kernel), List.mem_of_getElem? (i := 501) (by decide +kernel)⟩
theorem lw_p10 : lw_okq (⟨"PseudoBoolean$Reader", "skipMinus", "()Z"⟩, 9) := ⟨⟨by decide +kernel, by decide +kernel⟩, List.mem_of_getElem? (i := 58) (by decide +kernel), List.mem_of_getElem? (i := 504) (by decide +kernel), List.mem_of_getElem? (i := 505) (by decide +kernel)⟩
theorem lw_p11 : lw_okq (⟨"PseudoBoolean$Reader", "readTerm", "(Z)Z"⟩, 9) := ⟨⟨by decide +kernel, by decide +kernel⟩, List.mem_of_getElem? (i := 58) (by decide +kernel), List.mem_of_getElem? (i := 508) (by decide +kernel), List.mem_of_getElem? (i := 509) (by decide +kernel)⟩
theorem lw_p12 : lw_okq (⟨"PseudoBoolean$Reader", "readRelation", "()Z"⟩, 9) := ⟨⟨by decide +kernel, by decide +kernel⟩, List.mem_of_getElem? (i := 58) (by decide +kernel), List.mem_of_getElem? (i := 512) (by decide +kernel), List.mem_of_getElem? (i := 513) (by decide +kernel)⟩
theorem lw_p13 : lw_okq (⟨"PseudoBoolean$Reader", "readBound", "()Z"⟩, 9) := ⟨⟨by decide +kernel, by decide +kernel⟩, List.mem_of_getElem? (i := 58) (by decide +kernel), List.mem_of_getElem? (i := 516) (by decide +kernel), List.mem_of_getElem? (i := 517) (by decide +kernel)⟩
theorem lw_p14 : lw_okq (⟨"PseudoBoolean", "closeText", "(Z)V"⟩, 18) := ⟨⟨by decide +kernel, by decide +kernel⟩, List.mem_of_getElem? (i := 35) (by decide +kernel), List.mem_of_getElem? (i := 520) (by decide +kernel), List.mem_of_getElem? (i := 521) (by decide +kernel)⟩
theorem lw_p15 : lw_okq (⟨"PseudoBoolean", "requireRoom", "(I)V"⟩, 18) := ⟨⟨by decide +kernel, by decide +kernel⟩, List.mem_of_getElem? (i := 35) (by decide +kernel), List.mem_of_getElem? (i := 529) (by decide +kernel), List.mem_of_getElem? (i := 530) (by decide +kernel)⟩
def lw_privs_1 : List (MethodName × Nat) := [(⟨"PseudoBoolean", "models", "()LPseudoBoolean$ModelSet;"⟩, 18), (⟨"PseudoBoolean", "decidedTrue", "()I"⟩, 18), (⟨"PseudoBoolean", "decidedFalse", "()I"⟩, 18), (⟨"PseudoBoolean$ModelSet", "matching", "(III)J"⟩, 1), (⟨"java/lang/Throwable", "fillInStackTrace", "(I)Ljava/lang/Throwable;"⟩, 6), (⟨"PseudoBoolean$Reader", "nextToken", "()V"⟩, 9), (⟨"PseudoBoolean$Reader", "takeNumber", "()V"⟩, 9), (⟨"PseudoBoolean$Reader", "take", "(II)V"⟩, 9), (⟨"PseudoBoolean$Reader", "takeSymbol", "(I)V"⟩, 9), (⟨"PseudoBoolean$Reader", "readSum", "()Z"⟩, 9), (⟨"PseudoBoolean$Reader", "skipMinus", "()Z"⟩, 9), (⟨"PseudoBoolean$Reader", "readTerm", "(Z)Z"⟩, 9), (⟨"PseudoBoolean$Reader", "readRelation", "()Z"⟩, 9), (⟨"PseudoBoolean$Reader", "readBound", "()Z"⟩, 9), (⟨"PseudoBoolean", "closeText", "(Z)V"⟩, 18), (⟨"PseudoBoolean", "requireRoom", "(I)V"⟩, 18)]
theorem lw_r1 : ∀ q ∈ lw_privs_1, lw_okq q := List.forall_mem_cons.mpr ⟨lw_p0, List.forall_mem_cons.mpr ⟨lw_p1, List.forall_mem_cons.mpr ⟨lw_p2, List.forall_mem_cons.mpr ⟨lw_p3, List.forall_mem_cons.mpr ⟨lw_p4, List.forall_mem_cons.mpr ⟨lw_p5, List.forall_mem_cons.mpr ⟨lw_p6, List.forall_mem_cons.mpr ⟨lw_p7, List.forall_mem_cons.mpr ⟨lw_p8, List.forall_mem_cons.mpr ⟨lw_p9, List.forall_mem_cons.mpr ⟨lw_p10, List.forall_mem_cons.mpr ⟨lw_p11, List.forall_mem_cons.mpr ⟨lw_p12, List.forall_mem_cons.mpr ⟨lw_p13, List.forall_mem_cons.mpr ⟨lw_p14, List.forall_mem_cons.mpr ⟨lw_p15, fun _ h => absurd h List.not_mem_nil⟩⟩⟩⟩⟩⟩⟩⟩⟩⟩⟩⟩⟩⟩⟩⟩
theorem lw_p16 : lw_okq (⟨"PseudoBoolean$Reader", "draftTimes", "(LPseudoBoolean$Draft;I)V"⟩, 9) := ⟨⟨by decide +kernel, by decide +kernel⟩, List.mem_of_getElem? (i := 58) (by decide +kernel), List.mem_of_getElem? (i := 542) (by decide +kernel), List.mem_of_getElem? (i := 543) (by decide +kernel)⟩
theorem lw_p17 : lw_okq (⟨"PseudoBoolean", "addDraft", "()I"⟩, 18) := ⟨⟨by decide +kernel, by decide +kernel⟩, List.mem_of_getElem? (i := 35) (by decide +kernel), List.mem_of_getElem? (i := 555) (by decide +kernel), List.mem_of_getElem? (i := 556) (by decide +kernel)⟩
theorem lw_p18 : lw_okq (⟨"PseudoBoolean$MaskSums", "addVariable", "(IJJ)V"⟩, 2) := ⟨⟨by decide +kernel, by decide +kernel⟩, List.mem_of_getElem? (i := 166) (by decide +kernel), List.mem_of_getElem? (i := 577) (by decide +kernel), List.mem_of_getElem? (i := 578) (by decide +kernel)⟩
theorem lw_p19 : lw_okq (⟨"PseudoBoolean", "propagate", "()V"⟩, 18) := ⟨⟨by decide +kernel, by decide +kernel⟩, List.mem_of_getElem? (i := 35) (by decide +kernel), List.mem_of_getElem? (i := 589) (by decide +kernel), List.mem_of_getElem? (i := 590) (by decide +kernel)⟩
theorem lw_p20 : lw_okq (⟨"PseudoBoolean", "draftIsImplied", "()Z"⟩, 18) := ⟨⟨by decide +kernel, by decide +kernel⟩, List.mem_of_getElem? (i := 35) (by decide +kernel), List.mem_of_getElem? (i := 634) (by decide +kernel), List.mem_of_getElem? (i := 635) (by decide +kernel)⟩
theorem lw_p21 : lw_okq (⟨"PseudoBoolean", "requireConstraint", "(I)V"⟩, 18) := ⟨⟨by decide +kernel, by decide +kernel⟩, List.mem_of_getElem? (i := 35) (by decide +kernel), List.mem_of_getElem? (i := 673) (by decide +kernel), List.mem_of_getElem? (i := 674) (by decide +kernel)⟩
theorem lw_p22 : lw_okq (⟨"PseudoBoolean$Constraint", "appendTermTo", "(Ljava/lang/StringBuilder;I)V"⟩, 3) := ⟨⟨by decide +kernel, by decide +kernel⟩, List.mem_of_getElem? (i := 145) (by decide +kernel), List.mem_of_getElem? (i := 951) (by decide +kernel), List.mem_of_getElem? (i := 952) (by decide +kernel)⟩
theorem lw_p23 : lw_okq (⟨"PseudoBoolean$Constraint", "greatestOutside", "(I)I"⟩, 3) := ⟨⟨by decide +kernel, by decide +kernel⟩, List.mem_of_getElem? (i := 145) (by decide +kernel), List.mem_of_getElem? (i := 1046) (by decide +kernel), List.mem_of_getElem? (i := 1047) (by decide +kernel)⟩
theorem lw_p24 : lw_okq (⟨"PseudoBoolean", "addBoundedDraft", "()I"⟩, 18) := ⟨⟨by decide +kernel, by decide +kernel⟩, List.mem_of_getElem? (i := 35) (by decide +kernel), List.mem_of_getElem? (i := 1076) (by decide +kernel), List.mem_of_getElem? (i := 1077) (by decide +kernel)⟩
theorem lw_p25 : lw_okq (⟨"PseudoBoolean", "areExclusive", "(II)Z"⟩, 18) := ⟨⟨by decide +kernel, by decide +kernel⟩, List.mem_of_getElem? (i := 35) (by decide +kernel), List.mem_of_getElem? (i := 1171) (by decide +kernel), List.mem_of_getElem? (i := 1172) (by decide +kernel)⟩
theorem lw_p26 : lw_okq (⟨"PseudoBoolean", "excludesAll", "(II)Z"⟩, 18) := ⟨⟨by decide +kernel, by decide +kernel⟩, List.mem_of_getElem? (i := 35) (by decide +kernel), List.mem_of_getElem? (i := 1186) (by decide +kernel), List.mem_of_getElem? (i := 1187) (by decide +kernel)⟩
theorem lw_p27 : lw_okq (⟨"PseudoBoolean", "hasModelWith", "(II)Z"⟩, 18) := ⟨⟨by decide +kernel, by decide +kernel⟩, List.mem_of_getElem? (i := 35) (by decide +kernel), List.mem_of_getElem? (i := 1285) (by decide +kernel), List.mem_of_getElem? (i := 1286) (by decide +kernel)⟩
theorem lw_p28 : lw_okq (⟨"PseudoBoolean", "findCheapest", "()I"⟩, 18) := ⟨⟨by decide +kernel, by decide +kernel⟩, List.mem_of_getElem? (i := 35) (by decide +kernel), List.mem_of_getElem? (i := 1304) (by decide +kernel), List.mem_of_getElem? (i := 1305) (by decide +kernel)⟩
theorem lw_p29 : lw_okq (⟨"PseudoBooleanModel", "no", "(I)I"⟩, 32) := ⟨⟨by decide +kernel, by decide +kernel⟩, List.mem_of_getElem? (i := 1371) (by decide +kernel), List.mem_of_getElem? (i := 1483) (by decide +kernel), List.mem_of_getElem? (i := 1484) (by decide +kernel)⟩
theorem lw_p30 : lw_okq (⟨"PseudoBooleanModel", "parse", "()Z"⟩, 32) := ⟨⟨by decide +kernel, by decide +kernel⟩, List.mem_of_getElem? (i := 1371) (by decide +kernel), List.mem_of_getElem? (i := 1495) (by decide +kernel), List.mem_of_getElem? (i := 1496) (by decide +kernel)⟩
theorem lw_p31 : lw_okq (⟨"PseudoBooleanModel", "next", "()V"⟩, 32) := ⟨⟨by decide +kernel, by decide +kernel⟩, List.mem_of_getElem? (i := 1371) (by decide +kernel), List.mem_of_getElem? (i := 1499) (by decide +kernel), List.mem_of_getElem? (i := 1500) (by decide +kernel)⟩
def lw_privs_2 : List (MethodName × Nat) := [(⟨"PseudoBoolean$Reader", "draftTimes", "(LPseudoBoolean$Draft;I)V"⟩, 9), (⟨"PseudoBoolean", "addDraft", "()I"⟩, 18), (⟨"PseudoBoolean$MaskSums", "addVariable", "(IJJ)V"⟩, 2), (⟨"PseudoBoolean", "propagate", "()V"⟩, 18), (⟨"PseudoBoolean", "draftIsImplied", "()Z"⟩, 18), (⟨"PseudoBoolean", "requireConstraint", "(I)V"⟩, 18), (⟨"PseudoBoolean$Constraint", "appendTermTo", "(Ljava/lang/StringBuilder;I)V"⟩, 3), (⟨"PseudoBoolean$Constraint", "greatestOutside", "(I)I"⟩, 3), (⟨"PseudoBoolean", "addBoundedDraft", "()I"⟩, 18), (⟨"PseudoBoolean", "areExclusive", "(II)Z"⟩, 18), (⟨"PseudoBoolean", "excludesAll", "(II)Z"⟩, 18), (⟨"PseudoBoolean", "hasModelWith", "(II)Z"⟩, 18), (⟨"PseudoBoolean", "findCheapest", "()I"⟩, 18), (⟨"PseudoBooleanModel", "no", "(I)I"⟩, 32), (⟨"PseudoBooleanModel", "parse", "()Z"⟩, 32), (⟨"PseudoBooleanModel", "next", "()V"⟩, 32)]
theorem lw_r2 : ∀ q ∈ lw_privs_2, lw_okq q := List.forall_mem_cons.mpr ⟨lw_p16, List.forall_mem_cons.mpr ⟨lw_p17, List.forall_mem_cons.mpr ⟨lw_p18, List.forall_mem_cons.mpr ⟨lw_p19, List.forall_mem_cons.mpr ⟨lw_p20, List.forall_mem_cons.mpr ⟨lw_p21, List.forall_mem_cons.mpr ⟨lw_p22, List.forall_mem_cons.mpr ⟨lw_p23, List.forall_mem_cons.mpr ⟨lw_p24, List.forall_mem_cons.mpr ⟨lw_p25, List.forall_mem_cons.mpr ⟨lw_p26, List.forall_mem_cons.mpr ⟨lw_p27, List.forall_mem_cons.mpr ⟨lw_p28, List.forall_mem_cons.mpr ⟨lw_p29, List.forall_mem_cons.mpr ⟨lw_p30, List.forall_mem_cons.mpr ⟨lw_p31, fun _ h => absurd h List.not_mem_nil⟩⟩⟩⟩⟩⟩⟩⟩⟩⟩⟩⟩⟩⟩⟩⟩
theorem lw_p32 : lw_okq (⟨"PseudoBooleanModel", "peek", "(I)I"⟩, 32) := ⟨⟨by decide +kernel, by decide +kernel⟩, List.mem_of_getElem? (i := 1371) (by decide +kernel), List.mem_of_getElem? (i := 1503) (by decide +kernel), List.mem_of_getElem? (i := 1504) (by decide +kernel)⟩
theorem lw_p33 : lw_okq (⟨"PseudoBooleanModel", "term", "(Z)V"⟩, 32) := ⟨⟨by decide +kernel, by decide +kernel⟩, List.mem_of_getElem? (i := 1371) (by decide +kernel), List.mem_of_getElem? (i := 1510) (by decide +kernel), List.mem_of_getElem? (i := 1511) (by decide +kernel)⟩
theorem lw_p34 : lw_okq (⟨"PseudoBooleanModel", "numberRead", "()J"⟩, 32) := ⟨⟨by decide +kernel, by decide +kernel⟩, List.mem_of_getElem? (i := 1371) (by decide +kernel), List.mem_of_getElem? (i := 1514) (by decide +kernel), List.mem_of_getElem? (i := 1515) (by decide +kernel)⟩
theorem lw_p35 : lw_okq (⟨"PseudoBooleanModel", "wrong", "()V"⟩, 32) := ⟨⟨by decide +kernel, by decide +kernel⟩, List.mem_of_getElem? (i := 1371) (by decide +kernel), List.mem_of_getElem? (i := 1518) (by decide +kernel), List.mem_of_getElem? (i := 1519) (by decide +kernel)⟩
theorem lw_p36 : lw_okq (⟨"PseudoBooleanModel", "isWell", "()Z"⟩, 32) := ⟨⟨by decide +kernel, by decide +kernel⟩, List.mem_of_getElem? (i := 1371) (by decide +kernel), List.mem_of_getElem? (i := 1524) (by decide +kernel), List.mem_of_getElem? (i := 1525) (by decide +kernel)⟩
theorem lw_p37 : lw_okq (⟨"PseudoBooleanModel", "isLow", "()Z"⟩, 32) := ⟨⟨by decide +kernel, by decide +kernel⟩, List.mem_of_getElem? (i := 1371) (by decide +kernel), List.mem_of_getElem? (i := 1528) (by decide +kernel), List.mem_of_getElem? (i := 1529) (by decide +kernel)⟩
theorem lw_p38 : lw_okq (⟨"PseudoBooleanModel", "make", "(Z)V"⟩, 32) := ⟨⟨by decide +kernel, by decide +kernel⟩, List.mem_of_getElem? (i := 1371) (by decide +kernel), List.mem_of_getElem? (i := 1532) (by decide +kernel), List.mem_of_getElem? (i := 1533) (by decide +kernel)⟩
theorem lw_p39 : lw_okq (⟨"PseudoBooleanModel", "clear", "()V"⟩, 32) := ⟨⟨by decide +kernel, by decide +kernel⟩, List.mem_of_getElem? (i := 1371) (by decide +kernel), List.mem_of_getElem? (i := 1536) (by decide +kernel), List.mem_of_getElem? (i := 1537) (by decide +kernel)⟩
theorem lw_p40 : lw_okq (⟨"PseudoBooleanModel", "addTerm", "(JI)V"⟩, 32) := ⟨⟨by decide +kernel, by decide +kernel⟩, List.mem_of_getElem? (i := 1371) (by decide +kernel), List.mem_of_getElem? (i := 1540) (by decide +kernel), List.mem_of_getElem? (i := 1541) (by decide +kernel)⟩
theorem lw_p41 : lw_okq (⟨"PseudoBooleanModel", "normalize", "()V"⟩, 32) := ⟨⟨by decide +kernel, by decide +kernel⟩, List.mem_of_getElem? (i := 1371) (by decide +kernel), List.mem_of_getElem? (i := 1544) (by decide +kernel), List.mem_of_getElem? (i := 1545) (by decide +kernel)⟩
theorem lw_p42 : lw_okq (⟨"PseudoBooleanModel", "add", "()I"⟩, 32) := ⟨⟨by decide +kernel, by decide +kernel⟩, List.mem_of_getElem? (i := 1371) (by decide +kernel), List.mem_of_getElem? (i := 1550) (by decide +kernel), List.mem_of_getElem? (i := 1551) (by decide +kernel)⟩
theorem lw_p43 : lw_okq (⟨"PseudoBooleanModel", "propagate", "()V"⟩, 32) := ⟨⟨by decide +kernel, by decide +kernel⟩, List.mem_of_getElem? (i := 1371) (by decide +kernel), List.mem_of_getElem? (i := 1554) (by decide +kernel), List.mem_of_getElem? (i := 1555) (by decide +kernel)⟩
theorem lw_p44 : lw_okq (⟨"PseudoBooleanModel", "slackOf", "(I[I)J"⟩, 32) := ⟨⟨by decide +kernel, by decide +kernel⟩, List.mem_of_getElem? (i := 1371) (by decide +kernel), List.mem_of_getElem? (i := 1558) (by decide +kernel), List.mem_of_getElem? (i := 1559) (by decide +kernel)⟩
theorem lw_p45 : lw_okq (⟨"PseudoBooleanModel", "of", "(II)J"⟩, 32) := ⟨⟨by decide +kernel, by decide +kernel⟩, List.mem_of_getElem? (i := 1371) (by decide +kernel), List.mem_of_getElem? (i := 1562) (by decide +kernel), List.mem_of_getElem? (i := 1563) (by decide +kernel)⟩
theorem lw_p46 : lw_okq (⟨"PseudoBooleanModel", "fill", "(I)Z"⟩, 32) := ⟨⟨by decide +kernel, by decide +kernel⟩, List.mem_of_getElem? (i := 1371) (by decide +kernel), List.mem_of_getElem? (i := 1566) (by decide +kernel), List.mem_of_getElem? (i := 1567) (by decide +kernel)⟩
theorem lw_p47 : lw_okq (⟨"PseudoBooleanModel", "isHigh", "()Z"⟩, 32) := ⟨⟨by decide +kernel, by decide +kernel⟩, List.mem_of_getElem? (i := 1371) (by decide +kernel), List.mem_of_getElem? (i := 1570) (by decide +kernel), List.mem_of_getElem? (i := 1571) (by decide +kernel)⟩
def lw_privs_3 : List (MethodName × Nat) := [(⟨"PseudoBooleanModel", "peek", "(I)I"⟩, 32), (⟨"PseudoBooleanModel", "term", "(Z)V"⟩, 32), (⟨"PseudoBooleanModel", "numberRead", "()J"⟩, 32), (⟨"PseudoBooleanModel", "wrong", "()V"⟩, 32), (⟨"PseudoBooleanModel", "isWell", "()Z"⟩, 32), (⟨"PseudoBooleanModel", "isLow", "()Z"⟩, 32), (⟨"PseudoBooleanModel", "make", "(Z)V"⟩, 32), (⟨"PseudoBooleanModel", "clear", "()V"⟩, 32), (⟨"PseudoBooleanModel", "addTerm", "(JI)V"⟩, 32), (⟨"PseudoBooleanModel", "normalize", "()V"⟩, 32), (⟨"PseudoBooleanModel", "add", "()I"⟩, 32), (⟨"PseudoBooleanModel", "propagate", "()V"⟩, 32), (⟨"PseudoBooleanModel", "slackOf", "(I[I)J"⟩, 32), (⟨"PseudoBooleanModel", "of", "(II)J"⟩, 32), (⟨"PseudoBooleanModel", "fill", "(I)Z"⟩, 32), (⟨"PseudoBooleanModel", "isHigh", "()Z"⟩, 32)]
theorem lw_r3 : ∀ q ∈ lw_privs_3, lw_okq q := List.forall_mem_cons.mpr ⟨lw_p32, List.forall_mem_cons.mpr ⟨lw_p33, List.forall_mem_cons.mpr ⟨lw_p34, List.forall_mem_cons.mpr ⟨lw_p35, List.forall_mem_cons.mpr ⟨lw_p36, List.forall_mem_cons.mpr ⟨lw_p37, List.forall_mem_cons.mpr ⟨lw_p38, List.forall_mem_cons.mpr ⟨lw_p39, List.forall_mem_cons.mpr ⟨lw_p40, List.forall_mem_cons.mpr ⟨lw_p41, List.forall_mem_cons.mpr ⟨lw_p42, List.forall_mem_cons.mpr ⟨lw_p43, List.forall_mem_cons.mpr ⟨lw_p44, List.forall_mem_cons.mpr ⟨lw_p45, List.forall_mem_cons.mpr ⟨lw_p46, List.forall_mem_cons.mpr ⟨lw_p47, fun _ h => absurd h List.not_mem_nil⟩⟩⟩⟩⟩⟩⟩⟩⟩⟩⟩⟩⟩⟩⟩⟩
theorem lw_p48 : lw_okq (⟨"PseudoBooleanModel", "isMadeImplied", "()Z"⟩, 32) := ⟨⟨by decide +kernel, by decide +kernel⟩, List.mem_of_getElem? (i := 1371) (by decide +kernel), List.mem_of_getElem? (i := 1578) (by decide +kernel), List.mem_of_getElem? (i := 1579) (by decide +kernel)⟩
theorem lw_p49 : lw_okq (⟨"PseudoBooleanModel", "isModel", "(I)Z"⟩, 32) := ⟨⟨by decide +kernel, by decide +kernel⟩, List.mem_of_getElem? (i := 1371) (by decide +kernel), List.mem_of_getElem? (i := 1582) (by decide +kernel), List.mem_of_getElem? (i := 1583) (by decide +kernel)⟩
theorem lw_p50 : lw_okq (⟨"PseudoBooleanModel", "isMadeTrue", "(I)Z"⟩, 32) := ⟨⟨by decide +kernel, by decide +kernel⟩, List.mem_of_getElem? (i := 1371) (by decide +kernel), List.mem_of_getElem? (i := 1589) (by decide +kernel), List.mem_of_getElem? (i := 1590) (by decide +kernel)⟩
theorem lw_p51 : lw_okq (⟨"PseudoBooleanModel", "isConstraint", "(I)Z"⟩, 32) := ⟨⟨by decide +kernel, by decide +kernel⟩, List.mem_of_getElem? (i := 1371) (by decide +kernel), List.mem_of_getElem? (i := 1601) (by decide +kernel), List.mem_of_getElem? (i := 1602) (by decide +kernel)⟩
theorem lw_p52 : lw_okq (⟨"PseudoBooleanModel", "put", "(I)V"⟩, 32) := ⟨⟨by decide +kernel, by decide +kernel⟩, List.mem_of_getElem? (i := 1371) (by decide +kernel), List.mem_of_getElem? (i := 1605) (by decide +kernel), List.mem_of_getElem? (i := 1606) (by decide +kernel)⟩
theorem lw_p53 : lw_okq (⟨"PseudoBooleanModel", "putNumber", "(J)V"⟩, 32) := ⟨⟨by decide +kernel, by decide +kernel⟩, List.mem_of_getElem? (i := 1371) (by decide +kernel), List.mem_of_getElem? (i := 1609) (by decide +kernel), List.mem_of_getElem? (i := 1610) (by decide +kernel)⟩
theorem lw_p54 : lw_okq (⟨"PseudoBooleanModel", "terms", "(I)I"⟩, 32) := ⟨⟨by decide +kernel, by decide +kernel⟩, List.mem_of_getElem? (i := 1371) (by decide +kernel), List.mem_of_getElem? (i := 1626) (by decide +kernel), List.mem_of_getElem? (i := 1627) (by decide +kernel)⟩
theorem lw_p55 : lw_okq (⟨"PseudoBooleanModel", "least", "(I)I"⟩, 32) := ⟨⟨by decide +kernel, by decide +kernel⟩, List.mem_of_getElem? (i := 1371) (by decide +kernel), List.mem_of_getElem? (i := 1649) (by decide +kernel), List.mem_of_getElem? (i := 1650) (by decide +kernel)⟩
theorem lw_p56 : lw_okq (⟨"PseudoBooleanModel", "addTimes", "(IJ)V"⟩, 32) := ⟨⟨by decide +kernel, by decide +kernel⟩, List.mem_of_getElem? (i := 1371) (by decide +kernel), List.mem_of_getElem? (i := 1657) (by decide +kernel), List.mem_of_getElem? (i := 1658) (by decide +kernel)⟩
theorem lw_p57 : lw_okq (⟨"PseudoBooleanModel", "keep", "(I)I"⟩, 32) := ⟨⟨by decide +kernel, by decide +kernel⟩, List.mem_of_getElem? (i := 1371) (by decide +kernel), List.mem_of_getElem? (i := 1661) (by decide +kernel), List.mem_of_getElem? (i := 1662) (by decide +kernel)⟩
theorem lw_p58 : lw_okq (⟨"PseudoBooleanModel", "isSmall", "()Z"⟩, 32) := ⟨⟨by decide +kernel, by decide +kernel⟩, List.mem_of_getElem? (i := 1371) (by decide +kernel), List.mem_of_getElem? (i := 1665) (by decide +kernel), List.mem_of_getElem? (i := 1666) (by decide +kernel)⟩
theorem lw_p59 : lw_okq (⟨"PseudoBooleanModel", "areApart", "(II)Z"⟩, 32) := ⟨⟨by decide +kernel, by decide +kernel⟩, List.mem_of_getElem? (i := 1371) (by decide +kernel), List.mem_of_getElem? (i := 1707) (by decide +kernel), List.mem_of_getElem? (i := 1708) (by decide +kernel)⟩
theorem lw_p60 : lw_okq (⟨"PseudoBooleanModel", "valued", "()I"⟩, 32) := ⟨⟨by decide +kernel, by decide +kernel⟩, List.mem_of_getElem? (i := 1371) (by decide +kernel), List.mem_of_getElem? (i := 1733) (by decide +kernel), List.mem_of_getElem? (i := 1734) (by decide +kernel)⟩
theorem lw_p61 : lw_okq (⟨"PseudoBooleanModel", "modelFrom", "(I)I"⟩, 32) := ⟨⟨by decide +kernel, by decide +kernel⟩, List.mem_of_getElem? (i := 1371) (by decide +kernel), List.mem_of_getElem? (i := 1757) (by decide +kernel), List.mem_of_getElem? (i := 1758) (by decide +kernel)⟩
theorem lw_p62 : lw_okq (⟨"PseudoBooleanModel", "isOurs", "(I)Z"⟩, 32) := ⟨⟨by decide +kernel, by decide +kernel⟩, List.mem_of_getElem? (i := 1371) (by decide +kernel), List.mem_of_getElem? (i := 1761) (by decide +kernel), List.mem_of_getElem? (i := 1762) (by decide +kernel)⟩
theorem lw_p63 : lw_okq (⟨"PseudoBooleanModel", "cheapest", "()I"⟩, 32) := ⟨⟨by decide +kernel, by decide +kernel⟩, List.mem_of_getElem? (i := 1371) (by decide +kernel), List.mem_of_getElem? (i := 1788) (by decide +kernel), List.mem_of_getElem? (i := 1789) (by decide +kernel)⟩
def lw_privs_4 : List (MethodName × Nat) := [(⟨"PseudoBooleanModel", "isMadeImplied", "()Z"⟩, 32), (⟨"PseudoBooleanModel", "isModel", "(I)Z"⟩, 32), (⟨"PseudoBooleanModel", "isMadeTrue", "(I)Z"⟩, 32), (⟨"PseudoBooleanModel", "isConstraint", "(I)Z"⟩, 32), (⟨"PseudoBooleanModel", "put", "(I)V"⟩, 32), (⟨"PseudoBooleanModel", "putNumber", "(J)V"⟩, 32), (⟨"PseudoBooleanModel", "terms", "(I)I"⟩, 32), (⟨"PseudoBooleanModel", "least", "(I)I"⟩, 32), (⟨"PseudoBooleanModel", "addTimes", "(IJ)V"⟩, 32), (⟨"PseudoBooleanModel", "keep", "(I)I"⟩, 32), (⟨"PseudoBooleanModel", "isSmall", "()Z"⟩, 32), (⟨"PseudoBooleanModel", "areApart", "(II)Z"⟩, 32), (⟨"PseudoBooleanModel", "valued", "()I"⟩, 32), (⟨"PseudoBooleanModel", "modelFrom", "(I)I"⟩, 32), (⟨"PseudoBooleanModel", "isOurs", "(I)Z"⟩, 32), (⟨"PseudoBooleanModel", "cheapest", "()I"⟩, 32)]
theorem lw_r4 : ∀ q ∈ lw_privs_4, lw_okq q := List.forall_mem_cons.mpr ⟨lw_p48, List.forall_mem_cons.mpr ⟨lw_p49, List.forall_mem_cons.mpr ⟨lw_p50, List.forall_mem_cons.mpr ⟨lw_p51, List.forall_mem_cons.mpr ⟨lw_p52, List.forall_mem_cons.mpr ⟨lw_p53, List.forall_mem_cons.mpr ⟨lw_p54, List.forall_mem_cons.mpr ⟨lw_p55, List.forall_mem_cons.mpr ⟨lw_p56, List.forall_mem_cons.mpr ⟨lw_p57, List.forall_mem_cons.mpr ⟨lw_p58, List.forall_mem_cons.mpr ⟨lw_p59, List.forall_mem_cons.mpr ⟨lw_p60, List.forall_mem_cons.mpr ⟨lw_p61, List.forall_mem_cons.mpr ⟨lw_p62, List.forall_mem_cons.mpr ⟨lw_p63, fun _ h => absurd h List.not_mem_nil⟩⟩⟩⟩⟩⟩⟩⟩⟩⟩⟩⟩⟩⟩⟩⟩
theorem lw_p64 : lw_okq (⟨"PseudoBooleanModel", "costOf", "(I)I"⟩, 32) := ⟨⟨by decide +kernel, by decide +kernel⟩, List.mem_of_getElem? (i := 1371) (by decide +kernel), List.mem_of_getElem? (i := 1792) (by decide +kernel), List.mem_of_getElem? (i := 1793) (by decide +kernel)⟩
theorem lw_p65 : lw_okq (⟨"PseudoBooleanModel", "hasModel", "([Z)Z"⟩, 32) := ⟨⟨by decide +kernel, by decide +kernel⟩, List.mem_of_getElem? (i := 1371) (by decide +kernel), List.mem_of_getElem? (i := 1804) (by decide +kernel), List.mem_of_getElem? (i := 1805) (by decide +kernel)⟩
def lw_privs_5 : List (MethodName × Nat) := [(⟨"PseudoBooleanModel", "costOf", "(I)I"⟩, 32), (⟨"PseudoBooleanModel", "hasModel", "([Z)Z"⟩, 32)]
theorem lw_r5 : ∀ q ∈ lw_privs_5, lw_okq q := List.forall_mem_cons.mpr ⟨lw_p64, List.forall_mem_cons.mpr ⟨lw_p65, fun _ h => absurd h List.not_mem_nil⟩⟩
def lw_privs : List (MethodName × Nat) := lw_privs_1 ++ (lw_privs_2 ++ (lw_privs_3 ++ (lw_privs_4 ++ (lw_privs_5))))
def lw_tbl : List Cond := k2_sels lw_privs ++ tables_1
theorem lw_privs_ok : ∀ q ∈ lw_privs, lw_okq q := by
  show ∀ q ∈ lw_privs_1 ++ (lw_privs_2 ++ (lw_privs_3 ++ (lw_privs_4 ++ (lw_privs_5)))), lw_okq q
  exact List.forall_mem_append.mpr ⟨lw_r1, List.forall_mem_append.mpr ⟨lw_r2, List.forall_mem_append.mpr ⟨lw_r3, List.forall_mem_append.mpr ⟨lw_r4, lw_r5⟩⟩⟩⟩
-- ===== end of PART A; then your names; then what follows =====
def RX0 : String := "PseudoBoolean$Assignment"
def TX0 : u_T := fun k => match k with
  | 0 => ("PseudoBoolean$Assignment", "valueOf", "[I", true)
  | _ => ("PseudoBoolean$Assignment", "conflict", "Z", false)
def tyX0 : Nat → FieldType := fun k => match k with
  | 0 => .array .int
  | _ => .boolean
abbrev wsX00 : List Cond := u_ws RX0 TX0 2
theorem nmX0 : ∀ a, a < 2 → ∀ b, b < 2 → a ≠ b → (TX0 a).2.1 ≠ (TX0 b).2.1 := by decide +kernel
theorem tyX0_ok : ∀ k, k < 2 → parseFieldDescriptor (TX0 k).2.2.1 = some (tyX0 k) := by decide +kernel
abbrev cX0_init : ByteArray := prog_2_method_1_code
def yX0_init : MethodName := ⟨RX0, "<init>", "()V"⟩
abbrev cX0_clear : ByteArray := prog_2_method_2_code
def yX0_clear : MethodName := ⟨RX0, "clear", "()V"⟩
abbrev cX0_hasValue : ByteArray := prog_2_method_3_code
def yX0_hasValue : MethodName := ⟨RX0, "hasValue", "(I)Z"⟩
abbrev cX0_isFalse : ByteArray := prog_2_method_4_code
def yX0_isFalse : MethodName := ⟨RX0, "isFalse", "(I)Z"⟩
abbrev cX0_makeTrue : ByteArray := prog_2_method_5_code
def yX0_makeTrue : MethodName := ⟨RX0, "makeTrue", "(I)V"⟩
abbrev cX0_countValues : ByteArray := prog_2_method_6_code
def yX0_countValues : MethodName := ⟨RX0, "countValues", "()I"⟩
def RX1 : String := "PseudoBoolean$Constraint"
def TX1 : u_T := fun k => match k with
  | 0 => ("PseudoBoolean$Constraint", "coefficients", "[I", true)
  | 1 => ("PseudoBoolean$Constraint", "degree", "I", false)
  | _ => ("PseudoBoolean$Constraint", "total", "J", false)
def tyX1 : Nat → FieldType := fun k => match k with
  | 0 => .array .int
  | 1 => .int
  | _ => .long
abbrev wsX10 : List Cond := u_ws RX1 TX1 3
theorem nmX1 : ∀ a, a < 3 → ∀ b, b < 3 → a ≠ b → (TX1 a).2.1 ≠ (TX1 b).2.1 := by decide +kernel
theorem tyX1_ok : ∀ k, k < 3 → parseFieldDescriptor (TX1 k).2.2.1 = some (tyX1 k) := by decide +kernel
abbrev cX1_init : ByteArray := prog_3_method_1_code
def yX1_init : MethodName := ⟨RX1, "<init>", "()V"⟩
abbrev cX1_setTo : ByteArray := prog_3_method_2_code
def yX1_setTo : MethodName := ⟨RX1, "setTo", "(LPseudoBoolean$Draft;)V"⟩
abbrev cX1_countTerms : ByteArray := prog_3_method_3_code
def yX1_countTerms : MethodName := ⟨RX1, "countTerms", "()I"⟩
abbrev cX1_literalOf : ByteArray := prog_3_method_4_code
def yX1_literalOf : MethodName := ⟨RX1, "literalOf", "(I)I"⟩
abbrev cX1_hasVariable : ByteArray := prog_3_method_5_code
def yX1_hasVariable : MethodName := ⟨RX1, "hasVariable", "(I)Z"⟩
abbrev cX1_slackWith : ByteArray := prog_3_method_6_code
def yX1_slackWith : MethodName := ⟨RX1, "slackWith", "(LPseudoBoolean$Assignment;)J"⟩
abbrev cX1_forbids : ByteArray := prog_3_method_7_code
def yX1_forbids : MethodName := ⟨RX1, "forbids", "(II)Z"⟩
abbrev cX1_propagateTo : ByteArray := prog_3_method_8_code
def yX1_propagateTo : MethodName := ⟨RX1, "propagateTo", "(LPseudoBoolean$Assignment;)Z"⟩
abbrev cX1_leastTrueLiterals : ByteArray := prog_3_method_9_code
def yX1_leastTrueLiterals : MethodName := ⟨RX1, "leastTrueLiterals", "()I"⟩
abbrev cX1_greatestOutside : ByteArray := prog_3_method_10_code
def yX1_greatestOutside : MethodName := ⟨RX1, "greatestOutside", "(I)I"⟩
abbrev cX1_appendTo : ByteArray := prog_3_method_11_code
def yX1_appendTo : MethodName := ⟨RX1, "appendTo", "(Ljava/lang/StringBuilder;)V"⟩
abbrev cX1_appendTermTo : ByteArray := prog_3_method_12_code
def yX1_appendTermTo : MethodName := ⟨RX1, "appendTermTo", "(Ljava/lang/StringBuilder;I)V"⟩
abbrev cX1_extendDigest : ByteArray := prog_3_method_13_code
def yX1_extendDigest : MethodName := ⟨RX1, "extendDigest", "(J)J"⟩
def RX2 : String := "PseudoBoolean$Draft"
def TX2 : u_T := fun k => match k with
  | 0 => ("PseudoBoolean$Draft", "coefficients", "[J", true)
  | _ => ("PseudoBoolean$Draft", "degree", "J", false)
def tyX2 : Nat → FieldType := fun k => match k with
  | 0 => .array .long
  | _ => .long
abbrev wsX20 : List Cond := u_ws RX2 TX2 2
theorem nmX2 : ∀ a, a < 2 → ∀ b, b < 2 → a ≠ b → (TX2 a).2.1 ≠ (TX2 b).2.1 := by decide +kernel
theorem tyX2_ok : ∀ k, k < 2 → parseFieldDescriptor (TX2 k).2.2.1 = some (tyX2 k) := by decide +kernel
abbrev cX2_init : ByteArray := prog_4_method_1_code
def yX2_init : MethodName := ⟨RX2, "<init>", "()V"⟩
abbrev cX2_clear : ByteArray := prog_4_method_2_code
def yX2_clear : MethodName := ⟨RX2, "clear", "()V"⟩
abbrev cX2_addTerm : ByteArray := prog_4_method_3_code
def yX2_addTerm : MethodName := ⟨RX2, "addTerm", "(IJ)V"⟩
abbrev cX2_addTimes : ByteArray := prog_4_method_4_code
def yX2_addTimes : MethodName := ⟨RX2, "addTimes", "(LPseudoBoolean$Constraint;J)V"⟩
abbrev cX2_divideRoundingUp : ByteArray := prog_4_method_5_code
def yX2_divideRoundingUp : MethodName := ⟨RX2, "divideRoundingUp", "(J)V"⟩
abbrev cX2_saturate : ByteArray := prog_4_method_6_code
def yX2_saturate : MethodName := ⟨RX2, "saturate", "()V"⟩
abbrev cX2_weaken : ByteArray := prog_4_method_7_code
def yX2_weaken : MethodName := ⟨RX2, "weaken", "(I)V"⟩
abbrev cX2_normalise : ByteArray := prog_4_method_8_code
def yX2_normalise : MethodName := ⟨RX2, "normalise", "()V"⟩
abbrev cX2_isInBounds : ByteArray := prog_4_method_9_code
def yX2_isInBounds : MethodName := ⟨RX2, "isInBounds", "()Z"⟩
def RX3 : String := "PseudoBoolean$LiteralList"
def TX3 : u_T := fun k => match k with
  | 0 => ("PseudoBoolean$LiteralList", "literals", "[I", true)
  | _ => ("PseudoBoolean$LiteralList", "count", "I", false)
def tyX3 : Nat → FieldType := fun k => match k with
  | 0 => .array .int
  | _ => .int
abbrev wsX30 : List Cond := u_ws RX3 TX3 2
theorem nmX3 : ∀ a, a < 2 → ∀ b, b < 2 → a ≠ b → (TX3 a).2.1 ≠ (TX3 b).2.1 := by decide +kernel
theorem tyX3_ok : ∀ k, k < 2 → parseFieldDescriptor (TX3 k).2.2.1 = some (tyX3 k) := by decide +kernel
abbrev cX3_init : ByteArray := prog_5_method_1_code
def yX3_init : MethodName := ⟨RX3, "<init>", "()V"⟩
abbrev cX3_add : ByteArray := prog_5_method_2_code
def yX3_add : MethodName := ⟨RX3, "add", "(I)V"⟩
abbrev cX3_removeLast : ByteArray := prog_5_method_3_code
def yX3_removeLast : MethodName := ⟨RX3, "removeLast", "()V"⟩
abbrev cX3_copyFrom : ByteArray := prog_5_method_4_code
def yX3_copyFrom : MethodName := ⟨RX3, "copyFrom", "(LPseudoBoolean$LiteralList;)V"⟩
abbrev cX3_setTo : ByteArray := prog_5_method_5_code
def yX3_setTo : MethodName := ⟨RX3, "setTo", "(I)V"⟩
abbrev cX3_variablesWithSign : ByteArray := prog_5_method_6_code
def yX3_variablesWithSign : MethodName := ⟨RX3, "variablesWithSign", "(I)I"⟩
def RX4 : String := "PseudoBoolean$MaskSums"
def TX4 : u_T := fun k => match k with
  | 0 => ("PseudoBoolean$MaskSums", "lower", "[J", true)
  | _ => ("PseudoBoolean$MaskSums", "upper", "[J", true)
def tyX4 : Nat → FieldType := fun k => match k with
  | 0 => .array .long
  | _ => .array .long
abbrev wsX40 : List Cond := u_ws RX4 TX4 2
theorem nmX4 : ∀ a, a < 2 → ∀ b, b < 2 → a ≠ b → (TX4 a).2.1 ≠ (TX4 b).2.1 := by decide +kernel
theorem tyX4_ok : ∀ k, k < 2 → parseFieldDescriptor (TX4 k).2.2.1 = some (tyX4 k) := by decide +kernel
abbrev cX4_init : ByteArray := prog_6_method_1_code
def yX4_init : MethodName := ⟨RX4, "<init>", "()V"⟩
abbrev cX4_ofMask : ByteArray := prog_6_method_2_code
def yX4_ofMask : MethodName := ⟨RX4, "ofMask", "(I)J"⟩
abbrev cX4_bitsReaching : ByteArray := prog_6_method_3_code
def yX4_bitsReaching : MethodName := ⟨RX4, "bitsReaching", "(IJ)J"⟩
abbrev cX4_setToFulfillment : ByteArray := prog_6_method_4_code
def yX4_setToFulfillment : MethodName := ⟨RX4, "setToFulfillment", "(LPseudoBoolean$Constraint;)V"⟩
abbrev cX4_setToCosts : ByteArray := prog_6_method_5_code
def yX4_setToCosts : MethodName := ⟨RX4, "setToCosts", "([I)V"⟩
abbrev cX4_addVariable : ByteArray := prog_6_method_6_code
def yX4_addVariable : MethodName := ⟨RX4, "addVariable", "(IJJ)V"⟩
def RX5 : String := "PseudoBoolean$ModelSet"
def TX5 : u_T := fun k => match k with
  | _ => ("PseudoBoolean$ModelSet", "words", "[J", true)
def tyX5 : Nat → FieldType := fun k => match k with
  | _ => .array .long
abbrev wsX50 : List Cond := u_ws RX5 TX5 1
theorem nmX5 : ∀ a, a < 1 → ∀ b, b < 1 → a ≠ b → (TX5 a).2.1 ≠ (TX5 b).2.1 := by decide +kernel
theorem tyX5_ok : ∀ k, k < 1 → parseFieldDescriptor (TX5 k).2.2.1 = some (tyX5 k) := by decide +kernel
abbrev cX5_init : ByteArray := prog_7_method_1_code
def yX5_init : MethodName := ⟨RX5, "<init>", "()V"⟩
abbrev cX5_copyFrom : ByteArray := prog_7_method_2_code
def yX5_copyFrom : MethodName := ⟨RX5, "copyFrom", "(LPseudoBoolean$ModelSet;)V"⟩
abbrev cX5_keepReaching : ByteArray := prog_7_method_3_code
def yX5_keepReaching : MethodName := ⟨RX5, "keepReaching", "(LPseudoBoolean$MaskSums;J)V"⟩
abbrev cX5_allReach : ByteArray := prog_7_method_4_code
def yX5_allReach : MethodName := ⟨RX5, "allReach", "(LPseudoBoolean$MaskSums;J)Z"⟩
abbrev cX5_leastFrom : ByteArray := prog_7_method_5_code
def yX5_leastFrom : MethodName := ⟨RX5, "leastFrom", "(III)I"⟩
abbrev cX5_countWith : ByteArray := prog_7_method_6_code
def yX5_countWith : MethodName := ⟨RX5, "countWith", "(II)I"⟩
abbrev cX5_cheapest : ByteArray := prog_7_method_7_code
def yX5_cheapest : MethodName := ⟨RX5, "cheapest", "(LPseudoBoolean$MaskSums;II)I"⟩
abbrev cX5_matching : ByteArray := prog_7_method_8_code
def yX5_matching : MethodName := ⟨RX5, "matching", "(III)J"⟩
def RX6 : String := "PseudoBoolean$Reader"
def TX6 : u_T := fun k => match k with
  | 0 => ("PseudoBoolean$Reader", "text", "LPseudoBoolean$Text;", true)
  | 1 => ("PseudoBoolean$Reader", "position", "I", false)
  | 2 => ("PseudoBoolean$Reader", "token", "I", false)
  | 3 => ("PseudoBoolean$Reader", "tokenStart", "I", false)
  | 4 => ("PseudoBoolean$Reader", "number", "I", false)
  | 5 => ("PseudoBoolean$Reader", "variable", "I", false)
  | 6 => ("PseudoBoolean$Reader", "coefficients", "[I", true)
  | 7 => ("PseudoBoolean$Reader", "relation", "I", false)
  | _ => ("PseudoBoolean$Reader", "bound", "I", false)
def tyX6 : Nat → FieldType := fun k => match k with
  | 0 => .object "PseudoBoolean$Text"
  | 1 => .int
  | 2 => .int
  | 3 => .int
  | 4 => .int
  | 5 => .int
  | 6 => .array .int
  | 7 => .int
  | _ => .int
abbrev wsX60 : List Cond := u_ws RX6 TX6 9
theorem nmX6 : ∀ a, a < 9 → ∀ b, b < 9 → a ≠ b → (TX6 a).2.1 ≠ (TX6 b).2.1 := by decide +kernel
theorem tyX6_ok : ∀ k, k < 9 → parseFieldDescriptor (TX6 k).2.2.1 = some (tyX6 k) := by decide +kernel
abbrev cX6_init : ByteArray := prog_8_method_1_code
def yX6_init : MethodName := ⟨RX6, "<init>", "(LPseudoBoolean$Text;)V"⟩
abbrev cX6_isEquation : ByteArray := prog_8_method_2_code
def yX6_isEquation : MethodName := ⟨RX6, "isEquation", "()Z"⟩
abbrev cX6_hasLowerBound : ByteArray := prog_8_method_3_code
def yX6_hasLowerBound : MethodName := ⟨RX6, "hasLowerBound", "()Z"⟩
abbrev cX6_hasUpperBound : ByteArray := prog_8_method_4_code
def yX6_hasUpperBound : MethodName := ⟨RX6, "hasUpperBound", "()Z"⟩
abbrev cX6_draftLowerBound : ByteArray := prog_8_method_5_code
def yX6_draftLowerBound : MethodName := ⟨RX6, "draftLowerBound", "(LPseudoBoolean$Draft;)V"⟩
abbrev cX6_draftUpperBound : ByteArray := prog_8_method_6_code
def yX6_draftUpperBound : MethodName := ⟨RX6, "draftUpperBound", "(LPseudoBoolean$Draft;)V"⟩
abbrev cX6_draftTimes : ByteArray := prog_8_method_7_code
def yX6_draftTimes : MethodName := ⟨RX6, "draftTimes", "(LPseudoBoolean$Draft;I)V"⟩
abbrev cX6_readConstraint : ByteArray := prog_8_method_8_code
def yX6_readConstraint : MethodName := ⟨RX6, "readConstraint", "()Z"⟩
abbrev cX6_readSum : ByteArray := prog_8_method_9_code
def yX6_readSum : MethodName := ⟨RX6, "readSum", "()Z"⟩
abbrev cX6_readTerm : ByteArray := prog_8_method_10_code
def yX6_readTerm : MethodName := ⟨RX6, "readTerm", "(Z)Z"⟩
abbrev cX6_readRelation : ByteArray := prog_8_method_11_code
def yX6_readRelation : MethodName := ⟨RX6, "readRelation", "()Z"⟩
abbrev cX6_readBound : ByteArray := prog_8_method_12_code
def yX6_readBound : MethodName := ⟨RX6, "readBound", "()Z"⟩
abbrev cX6_skipMinus : ByteArray := prog_8_method_13_code
def yX6_skipMinus : MethodName := ⟨RX6, "skipMinus", "()Z"⟩
abbrev cX6_nextToken : ByteArray := prog_8_method_14_code
def yX6_nextToken : MethodName := ⟨RX6, "nextToken", "()V"⟩
abbrev cX6_takeNumber : ByteArray := prog_8_method_15_code
def yX6_takeNumber : MethodName := ⟨RX6, "takeNumber", "()V"⟩
abbrev cX6_takeSymbol : ByteArray := prog_8_method_16_code
def yX6_takeSymbol : MethodName := ⟨RX6, "takeSymbol", "(I)V"⟩
abbrev cX6_take : ByteArray := prog_8_method_17_code
def yX6_take : MethodName := ⟨RX6, "take", "(II)V"⟩
abbrev cX6_isDigit : ByteArray := prog_8_method_18_code
def yX6_isDigit : MethodName := ⟨RX6, "isDigit", "(I)Z"⟩
def RX7 : String := "PseudoBoolean$Text"
def TX7 : u_T := fun k => match k with
  | 0 => ("PseudoBoolean$Text", "bytes", "[I", true)
  | _ => ("PseudoBoolean$Text", "length", "I", false)
def tyX7 : Nat → FieldType := fun k => match k with
  | 0 => .array .int
  | _ => .int
abbrev wsX70 : List Cond := u_ws RX7 TX7 2
theorem nmX7 : ∀ a, a < 2 → ∀ b, b < 2 → a ≠ b → (TX7 a).2.1 ≠ (TX7 b).2.1 := by decide +kernel
theorem tyX7_ok : ∀ k, k < 2 → parseFieldDescriptor (TX7 k).2.2.1 = some (tyX7 k) := by decide +kernel
abbrev cX7_init : ByteArray := prog_9_method_1_code
def yX7_init : MethodName := ⟨RX7, "<init>", "()V"⟩
abbrev cX7_appendFourBytes : ByteArray := prog_9_method_2_code
def yX7_appendFourBytes : MethodName := ⟨RX7, "appendFourBytes", "(I)V"⟩
abbrev cX7_byteAt : ByteArray := prog_9_method_3_code
def yX7_byteAt : MethodName := ⟨RX7, "byteAt", "(I)I"⟩
def RX8 : String := "PseudoBoolean"
def TX8 : u_T := fun k => match k with
  | 0 => ("PseudoBoolean", "text", "LPseudoBoolean$Text;", true)
  | 1 => ("PseudoBoolean", "reader", "LPseudoBoolean$Reader;", true)
  | 2 => ("PseudoBoolean", "positionOfError", "I", false)
  | 3 => ("PseudoBoolean", "output", "Ljava/lang/StringBuilder;", true)
  | 4 => ("PseudoBoolean", "constraints", "[LPseudoBoolean$Constraint;", true)
  | 5 => ("PseudoBoolean", "constraintsUsed", "I", false)
  | 6 => ("PseudoBoolean", "draft", "LPseudoBoolean$Draft;", true)
  | 7 => ("PseudoBoolean", "question", "LPseudoBoolean$Constraint;", true)
  | 8 => ("PseudoBoolean", "sums", "LPseudoBoolean$MaskSums;", true)
  | 9 => ("PseudoBoolean", "decisions", "LPseudoBoolean$LiteralList;", true)
  | 10 => ("PseudoBoolean", "assignment", "LPseudoBoolean$Assignment;", true)
  | 11 => ("PseudoBoolean", "keptGroup", "LPseudoBoolean$LiteralList;", true)
  | 12 => ("PseudoBoolean", "keptReason", "LPseudoBoolean$LiteralList;", true)
  | 13 => ("PseudoBoolean", "costs", "[I", true)
  | 14 => ("PseudoBoolean", "modelsOfLevel", "[LPseudoBoolean$ModelSet;", true)
  | 15 => ("PseudoBoolean", "constraintsBelow", "[I", true)
  | 16 => ("PseudoBoolean", "decisionsBelow", "[LPseudoBoolean$LiteralList;", true)
  | _ => ("PseudoBoolean", "levels", "I", false)
def tyX8 : Nat → FieldType := fun k => match k with
  | 0 => .object "PseudoBoolean$Text"
  | 1 => .object "PseudoBoolean$Reader"
  | 2 => .int
  | 3 => .object "java/lang/StringBuilder"
  | 4 => .array (.object "PseudoBoolean$Constraint")
  | 5 => .int
  | 6 => .object "PseudoBoolean$Draft"
  | 7 => .object "PseudoBoolean$Constraint"
  | 8 => .object "PseudoBoolean$MaskSums"
  | 9 => .object "PseudoBoolean$LiteralList"
  | 10 => .object "PseudoBoolean$Assignment"
  | 11 => .object "PseudoBoolean$LiteralList"
  | 12 => .object "PseudoBoolean$LiteralList"
  | 13 => .array .int
  | 14 => .array (.object "PseudoBoolean$ModelSet")
  | 15 => .array .int
  | 16 => .array (.object "PseudoBoolean$LiteralList")
  | _ => .int
abbrev wsX80 : List Cond := u_ws RX8 TX8 18
theorem nmX8 : ∀ a, a < 18 → ∀ b, b < 18 → a ≠ b → (TX8 a).2.1 ≠ (TX8 b).2.1 := by decide +kernel
theorem tyX8_ok : ∀ k, k < 18 → parseFieldDescriptor (TX8 k).2.2.1 = some (tyX8 k) := by decide +kernel
abbrev cX8_init : ByteArray := prog_1_method_1_code
def yX8_init : MethodName := ⟨RX8, "<init>", "()V"⟩
abbrev cX8_feed : ByteArray := prog_1_method_2_code
def yX8_feed : MethodName := ⟨RX8, "feed", "(IIIII)I"⟩
abbrev cX8_trim : ByteArray := prog_1_method_3_code
def yX8_trim : MethodName := ⟨RX8, "trim", "(I)I"⟩
abbrev cX8_post : ByteArray := prog_1_method_4_code
def yX8_post : MethodName := ⟨RX8, "post", "()I"⟩
abbrev cX8_isImplied : ByteArray := prog_1_method_5_code
def yX8_isImplied : MethodName := ⟨RX8, "isImplied", "()Z"⟩
abbrev cX8_errorPosition : ByteArray := prog_1_method_6_code
def yX8_errorPosition : MethodName := ⟨RX8, "errorPosition", "()I"⟩
abbrev cX8_write : ByteArray := prog_1_method_7_code
def yX8_write : MethodName := ⟨RX8, "write", "(I)I"⟩
abbrev cX8_outputByte : ByteArray := prog_1_method_8_code
def yX8_outputByte : MethodName := ⟨RX8, "outputByte", "(I)I"⟩
abbrev cX8_constraintCount : ByteArray := prog_1_method_9_code
def yX8_constraintCount : MethodName := ⟨RX8, "constraintCount", "()I"⟩
abbrev cX8_termCount : ByteArray := prog_1_method_10_code
def yX8_termCount : MethodName := ⟨RX8, "termCount", "(I)I"⟩
abbrev cX8_degree : ByteArray := prog_1_method_11_code
def yX8_degree : MethodName := ⟨RX8, "degree", "(I)I"⟩
abbrev cX8_coefficient : ByteArray := prog_1_method_12_code
def yX8_coefficient : MethodName := ⟨RX8, "coefficient", "(II)I"⟩
abbrev cX8_slack : ByteArray := prog_1_method_13_code
def yX8_slack : MethodName := ⟨RX8, "slack", "(I)J"⟩
abbrev cX8_cardinality : ByteArray := prog_1_method_14_code
def yX8_cardinality : MethodName := ⟨RX8, "cardinality", "(I)I"⟩
abbrev cX8_sum : ByteArray := prog_1_method_15_code
def yX8_sum : MethodName := ⟨RX8, "sum", "(II)I"⟩
abbrev cX8_multiple : ByteArray := prog_1_method_16_code
def yX8_multiple : MethodName := ⟨RX8, "multiple", "(II)I"⟩
abbrev cX8_quotient : ByteArray := prog_1_method_17_code
def yX8_quotient : MethodName := ⟨RX8, "quotient", "(II)I"⟩
abbrev cX8_saturation : ByteArray := prog_1_method_18_code
def yX8_saturation : MethodName := ⟨RX8, "saturation", "(I)I"⟩
abbrev cX8_weakening : ByteArray := prog_1_method_19_code
def yX8_weakening : MethodName := ⟨RX8, "weakening", "(II)I"⟩
abbrev cX8_resolvent : ByteArray := prog_1_method_20_code
def yX8_resolvent : MethodName := ⟨RX8, "resolvent", "(III)I"⟩
abbrev cX8_cardinalityConstraint : ByteArray := prog_1_method_21_code
def yX8_cardinalityConstraint : MethodName := ⟨RX8, "cardinalityConstraint", "(I)I"⟩
abbrev cX8_exclude : ByteArray := prog_1_method_22_code
def yX8_exclude : MethodName := ⟨RX8, "exclude", "(II)Z"⟩
abbrev cX8_group : ByteArray := prog_1_method_23_code
def yX8_group : MethodName := ⟨RX8, "group", "(I)I"⟩
abbrev cX8_groupLiteral : ByteArray := prog_1_method_24_code
def yX8_groupLiteral : MethodName := ⟨RX8, "groupLiteral", "(I)I"⟩
abbrev cX8_addGroup : ByteArray := prog_1_method_25_code
def yX8_addGroup : MethodName := ⟨RX8, "addGroup", "()I"⟩
abbrev cX8_decide : ByteArray := prog_1_method_26_code
def yX8_decide : MethodName := ⟨RX8, "decide", "(I)I"⟩
abbrev cX8_undo : ByteArray := prog_1_method_27_code
def yX8_undo : MethodName := ⟨RX8, "undo", "()I"⟩
abbrev cX8_decisionCount : ByteArray := prog_1_method_28_code
def yX8_decisionCount : MethodName := ⟨RX8, "decisionCount", "()I"⟩
abbrev cX8_isConflicting : ByteArray := prog_1_method_29_code
def yX8_isConflicting : MethodName := ⟨RX8, "isConflicting", "()Z"⟩
abbrev cX8_value : ByteArray := prog_1_method_30_code
def yX8_value : MethodName := ⟨RX8, "value", "(I)I"⟩
abbrev cX8_firstModel : ByteArray := prog_1_method_31_code
def yX8_firstModel : MethodName := ⟨RX8, "firstModel", "()I"⟩
abbrev cX8_nextModel : ByteArray := prog_1_method_32_code
def yX8_nextModel : MethodName := ⟨RX8, "nextModel", "(I)I"⟩
abbrev cX8_modelCount : ByteArray := prog_1_method_33_code
def yX8_modelCount : MethodName := ⟨RX8, "modelCount", "()I"⟩
abbrev cX8_isForced : ByteArray := prog_1_method_34_code
def yX8_isForced : MethodName := ⟨RX8, "isForced", "(I)Z"⟩
abbrev cX8_setCost : ByteArray := prog_1_method_35_code
def yX8_setCost : MethodName := ⟨RX8, "setCost", "(II)I"⟩
abbrev cX8_leastCost : ByteArray := prog_1_method_36_code
def yX8_leastCost : MethodName := ⟨RX8, "leastCost", "()I"⟩
abbrev cX8_cheapestModel : ByteArray := prog_1_method_37_code
def yX8_cheapestModel : MethodName := ⟨RX8, "cheapestModel", "()I"⟩
abbrev cX8_explain : ByteArray := prog_1_method_38_code
def yX8_explain : MethodName := ⟨RX8, "explain", "(II)I"⟩
abbrev cX8_reasonLiteral : ByteArray := prog_1_method_39_code
def yX8_reasonLiteral : MethodName := ⟨RX8, "reasonLiteral", "(I)I"⟩
abbrev cX8_push : ByteArray := prog_1_method_40_code
def yX8_push : MethodName := ⟨RX8, "push", "()I"⟩
abbrev cX8_pop : ByteArray := prog_1_method_41_code
def yX8_pop : MethodName := ⟨RX8, "pop", "()I"⟩
abbrev cX8_digest : ByteArray := prog_1_method_42_code
def yX8_digest : MethodName := ⟨RX8, "digest", "()J"⟩
abbrev cX8_requireConstraint : ByteArray := prog_1_method_43_code
def yX8_requireConstraint : MethodName := ⟨RX8, "requireConstraint", "(I)V"⟩
abbrev cX8_requireLiteral : ByteArray := prog_1_method_44_code
def yX8_requireLiteral : MethodName := ⟨RX8, "requireLiteral", "(I)V"⟩
abbrev cX8_requireVariable : ByteArray := prog_1_method_45_code
def yX8_requireVariable : MethodName := ⟨RX8, "requireVariable", "(I)V"⟩
abbrev cX8_requireIndex : ByteArray := prog_1_method_46_code
def yX8_requireIndex : MethodName := ⟨RX8, "requireIndex", "(ILPseudoBoolean$LiteralList;)V"⟩
abbrev cX8_requireRoom : ByteArray := prog_1_method_47_code
def yX8_requireRoom : MethodName := ⟨RX8, "requireRoom", "(I)V"⟩
abbrev cX8_isMask : ByteArray := prog_1_method_48_code
def yX8_isMask : MethodName := ⟨RX8, "isMask", "(I)Z"⟩
abbrev cX8_closeText : ByteArray := prog_1_method_49_code
def yX8_closeText : MethodName := ⟨RX8, "closeText", "(Z)V"⟩
abbrev cX8_addBoundedDraft : ByteArray := prog_1_method_50_code
def yX8_addBoundedDraft : MethodName := ⟨RX8, "addBoundedDraft", "()I"⟩
abbrev cX8_addDraft : ByteArray := prog_1_method_51_code
def yX8_addDraft : MethodName := ⟨RX8, "addDraft", "()I"⟩
abbrev cX8_draftIsImplied : ByteArray := prog_1_method_52_code
def yX8_draftIsImplied : MethodName := ⟨RX8, "draftIsImplied", "()Z"⟩
abbrev cX8_propagate : ByteArray := prog_1_method_53_code
def yX8_propagate : MethodName := ⟨RX8, "propagate", "()V"⟩
abbrev cX8_models : ByteArray := prog_1_method_54_code
def yX8_models : MethodName := ⟨RX8, "models", "()LPseudoBoolean$ModelSet;"⟩
abbrev cX8_decidedTrue : ByteArray := prog_1_method_55_code
def yX8_decidedTrue : MethodName := ⟨RX8, "decidedTrue", "()I"⟩
abbrev cX8_decidedFalse : ByteArray := prog_1_method_56_code
def yX8_decidedFalse : MethodName := ⟨RX8, "decidedFalse", "()I"⟩
abbrev cX8_hasModelWith : ByteArray := prog_1_method_57_code
def yX8_hasModelWith : MethodName := ⟨RX8, "hasModelWith", "(II)Z"⟩
abbrev cX8_findCheapest : ByteArray := prog_1_method_58_code
def yX8_findCheapest : MethodName := ⟨RX8, "findCheapest", "()I"⟩
abbrev cX8_areExclusive : ByteArray := prog_1_method_59_code
def yX8_areExclusive : MethodName := ⟨RX8, "areExclusive", "(II)Z"⟩
abbrev cX8_excludesAll : ByteArray := prog_1_method_60_code
def yX8_excludesAll : MethodName := ⟨RX8, "excludesAll", "(II)Z"⟩
abbrev cX8_greatestCommonDivisor : ByteArray := prog_1_method_61_code
def yX8_greatestCommonDivisor : MethodName := ⟨RX8, "greatestCommonDivisor", "(II)I"⟩
def RX9 : String := "PseudoBooleanModel"
def TX9 : u_T := fun k => match k with
  | 0 => ("PseudoBooleanModel", "thrown", "I", false)
  | 1 => ("PseudoBooleanModel", "constraints", "I", false)
  | 2 => ("PseudoBooleanModel", "coefficients", "[J", true)
  | 3 => ("PseudoBooleanModel", "degrees", "[J", true)
  | 4 => ("PseudoBooleanModel", "made", "[J", true)
  | 5 => ("PseudoBooleanModel", "madeDegree", "J", false)
  | 6 => ("PseudoBooleanModel", "text", "[I", true)
  | 7 => ("PseudoBooleanModel", "size", "I", false)
  | 8 => ("PseudoBooleanModel", "at", "I", false)
  | 9 => ("PseudoBooleanModel", "from", "I", false)
  | 10 => ("PseudoBooleanModel", "token", "I", false)
  | 11 => ("PseudoBooleanModel", "errorPosition", "I", false)
  | 12 => ("PseudoBooleanModel", "read", "[J", true)
  | 13 => ("PseudoBooleanModel", "readLiterals", "[I", true)
  | 14 => ("PseudoBooleanModel", "reads", "I", false)
  | 15 => ("PseudoBooleanModel", "relation", "I", false)
  | 16 => ("PseudoBooleanModel", "number", "J", false)
  | 17 => ("PseudoBooleanModel", "output", "[I", true)
  | 18 => ("PseudoBooleanModel", "written", "I", false)
  | 19 => ("PseudoBooleanModel", "hasGroup", "Z", false)
  | 20 => ("PseudoBooleanModel", "isInGroup", "[Z", true)
  | 21 => ("PseudoBooleanModel", "decisions", "I", false)
  | 22 => ("PseudoBooleanModel", "decided", "[I", true)
  | 23 => ("PseudoBooleanModel", "values", "[I", true)
  | 24 => ("PseudoBooleanModel", "isConflict", "Z", false)
  | 25 => ("PseudoBooleanModel", "costs", "[I", true)
  | 26 => ("PseudoBooleanModel", "hasReason", "Z", false)
  | 27 => ("PseudoBooleanModel", "isReason", "[Z", true)
  | 28 => ("PseudoBooleanModel", "levels", "I", false)
  | 29 => ("PseudoBooleanModel", "levelConstraints", "[I", true)
  | 30 => ("PseudoBooleanModel", "levelDecisions", "[I", true)
  | _ => ("PseudoBooleanModel", "levelDecided", "[I", true)
def tyX9 : Nat → FieldType := fun k => match k with
  | 0 => .int
  | 1 => .int
  | 2 => .array .long
  | 3 => .array .long
  | 4 => .array .long
  | 5 => .long
  | 6 => .array .int
  | 7 => .int
  | 8 => .int
  | 9 => .int
  | 10 => .int
  | 11 => .int
  | 12 => .array .long
  | 13 => .array .int
  | 14 => .int
  | 15 => .int
  | 16 => .long
  | 17 => .array .int
  | 18 => .int
  | 19 => .boolean
  | 20 => .array .boolean
  | 21 => .int
  | 22 => .array .int
  | 23 => .array .int
  | 24 => .boolean
  | 25 => .array .int
  | 26 => .boolean
  | 27 => .array .boolean
  | 28 => .int
  | 29 => .array .int
  | 30 => .array .int
  | _ => .array .int
abbrev wsX90 : List Cond := u_ws RX9 TX9 32
theorem nmX9 : ∀ a, a < 32 → ∀ b, b < 32 → a ≠ b → (TX9 a).2.1 ≠ (TX9 b).2.1 := by decide +kernel
theorem tyX9_ok : ∀ k, k < 32 → parseFieldDescriptor (TX9 k).2.2.1 = some (tyX9 k) := by decide +kernel
abbrev cX9_init : ByteArray := prog_11_method_1_code
def yX9_init : MethodName := ⟨RX9, "<init>", "()V"⟩
abbrev cX9_thrown : ByteArray := prog_11_method_2_code
def yX9_thrown : MethodName := ⟨RX9, "thrown", "()I"⟩
abbrev cX9_no : ByteArray := prog_11_method_3_code
def yX9_no : MethodName := ⟨RX9, "no", "(I)I"⟩
abbrev cX9_isConstraint : ByteArray := prog_11_method_4_code
def yX9_isConstraint : MethodName := ⟨RX9, "isConstraint", "(I)Z"⟩
abbrev cX9_isVariable : ByteArray := prog_11_method_5_code
def yX9_isVariable : MethodName := ⟨RX9, "isVariable", "(I)Z"⟩
abbrev cX9_isLiteral : ByteArray := prog_11_method_6_code
def yX9_isLiteral : MethodName := ⟨RX9, "isLiteral", "(I)Z"⟩
abbrev cX9_of : ByteArray := prog_11_method_7_code
def yX9_of : MethodName := ⟨RX9, "of", "(II)J"⟩
abbrev cX9_clear : ByteArray := prog_11_method_8_code
def yX9_clear : MethodName := ⟨RX9, "clear", "()V"⟩
abbrev cX9_addTerm : ByteArray := prog_11_method_9_code
def yX9_addTerm : MethodName := ⟨RX9, "addTerm", "(JI)V"⟩
abbrev cX9_addTimes : ByteArray := prog_11_method_10_code
def yX9_addTimes : MethodName := ⟨RX9, "addTimes", "(IJ)V"⟩
abbrev cX9_normalize : ByteArray := prog_11_method_11_code
def yX9_normalize : MethodName := ⟨RX9, "normalize", "()V"⟩
abbrev cX9_isSmall : ByteArray := prog_11_method_12_code
def yX9_isSmall : MethodName := ⟨RX9, "isSmall", "()Z"⟩
abbrev cX9_add : ByteArray := prog_11_method_13_code
def yX9_add : MethodName := ⟨RX9, "add", "()I"⟩
abbrev cX9_feed : ByteArray := prog_11_method_14_code
def yX9_feed : MethodName := ⟨RX9, "feed", "(IIIII)I"⟩
abbrev cX9_trim : ByteArray := prog_11_method_15_code
def yX9_trim : MethodName := ⟨RX9, "trim", "(I)I"⟩
abbrev cX9_peek : ByteArray := prog_11_method_16_code
def yX9_peek : MethodName := ⟨RX9, "peek", "(I)I"⟩
abbrev cX9_isDigit : ByteArray := prog_11_method_17_code
def yX9_isDigit : MethodName := ⟨RX9, "isDigit", "(I)Z"⟩
abbrev cX9_next : ByteArray := prog_11_method_18_code
def yX9_next : MethodName := ⟨RX9, "next", "()V"⟩
abbrev cX9_wrong : ByteArray := prog_11_method_19_code
def yX9_wrong : MethodName := ⟨RX9, "wrong", "()V"⟩
abbrev cX9_isWell : ByteArray := prog_11_method_20_code
def yX9_isWell : MethodName := ⟨RX9, "isWell", "()Z"⟩
abbrev cX9_numberRead : ByteArray := prog_11_method_21_code
def yX9_numberRead : MethodName := ⟨RX9, "numberRead", "()J"⟩
abbrev cX9_term : ByteArray := prog_11_method_22_code
def yX9_term : MethodName := ⟨RX9, "term", "(Z)V"⟩
abbrev cX9_parse : ByteArray := prog_11_method_23_code
def yX9_parse : MethodName := ⟨RX9, "parse", "()Z"⟩
abbrev cX9_make : ByteArray := prog_11_method_24_code
def yX9_make : MethodName := ⟨RX9, "make", "(Z)V"⟩
abbrev cX9_isLow : ByteArray := prog_11_method_25_code
def yX9_isLow : MethodName := ⟨RX9, "isLow", "()Z"⟩
abbrev cX9_isHigh : ByteArray := prog_11_method_26_code
def yX9_isHigh : MethodName := ⟨RX9, "isHigh", "()Z"⟩
abbrev cX9_post : ByteArray := prog_11_method_27_code
def yX9_post : MethodName := ⟨RX9, "post", "()I"⟩
abbrev cX9_isMadeTrue : ByteArray := prog_11_method_28_code
def yX9_isMadeTrue : MethodName := ⟨RX9, "isMadeTrue", "(I)Z"⟩
abbrev cX9_isMadeImplied : ByteArray := prog_11_method_29_code
def yX9_isMadeImplied : MethodName := ⟨RX9, "isMadeImplied", "()Z"⟩
abbrev cX9_isImplied : ByteArray := prog_11_method_30_code
def yX9_isImplied : MethodName := ⟨RX9, "isImplied", "()Z"⟩
abbrev cX9_errorPosition : ByteArray := prog_11_method_31_code
def yX9_errorPosition : MethodName := ⟨RX9, "errorPosition", "()I"⟩
abbrev cX9_put : ByteArray := prog_11_method_32_code
def yX9_put : MethodName := ⟨RX9, "put", "(I)V"⟩
abbrev cX9_putNumber : ByteArray := prog_11_method_33_code
def yX9_putNumber : MethodName := ⟨RX9, "putNumber", "(J)V"⟩
abbrev cX9_write : ByteArray := prog_11_method_34_code
def yX9_write : MethodName := ⟨RX9, "write", "(I)I"⟩
abbrev cX9_outputByte : ByteArray := prog_11_method_35_code
def yX9_outputByte : MethodName := ⟨RX9, "outputByte", "(I)I"⟩
abbrev cX9_constraintCount : ByteArray := prog_11_method_36_code
def yX9_constraintCount : MethodName := ⟨RX9, "constraintCount", "()I"⟩
abbrev cX9_terms : ByteArray := prog_11_method_37_code
def yX9_terms : MethodName := ⟨RX9, "terms", "(I)I"⟩
abbrev cX9_termCount : ByteArray := prog_11_method_38_code
def yX9_termCount : MethodName := ⟨RX9, "termCount", "(I)I"⟩
abbrev cX9_degree : ByteArray := prog_11_method_39_code
def yX9_degree : MethodName := ⟨RX9, "degree", "(I)I"⟩
abbrev cX9_coefficient : ByteArray := prog_11_method_40_code
def yX9_coefficient : MethodName := ⟨RX9, "coefficient", "(II)I"⟩
abbrev cX9_slackOf : ByteArray := prog_11_method_41_code
def yX9_slackOf : MethodName := ⟨RX9, "slackOf", "(I[I)J"⟩
abbrev cX9_slack : ByteArray := prog_11_method_42_code
def yX9_slack : MethodName := ⟨RX9, "slack", "(I)J"⟩
abbrev cX9_least : ByteArray := prog_11_method_43_code
def yX9_least : MethodName := ⟨RX9, "least", "(I)I"⟩
abbrev cX9_cardinality : ByteArray := prog_11_method_44_code
def yX9_cardinality : MethodName := ⟨RX9, "cardinality", "(I)I"⟩
abbrev cX9_keep : ByteArray := prog_11_method_45_code
def yX9_keep : MethodName := ⟨RX9, "keep", "(I)I"⟩
abbrev cX9_sum : ByteArray := prog_11_method_46_code
def yX9_sum : MethodName := ⟨RX9, "sum", "(II)I"⟩
abbrev cX9_multiple : ByteArray := prog_11_method_47_code
def yX9_multiple : MethodName := ⟨RX9, "multiple", "(II)I"⟩
abbrev cX9_up : ByteArray := prog_11_method_48_code
def yX9_up : MethodName := ⟨RX9, "up", "(JJ)J"⟩
abbrev cX9_quotient : ByteArray := prog_11_method_49_code
def yX9_quotient : MethodName := ⟨RX9, "quotient", "(II)I"⟩
abbrev cX9_saturation : ByteArray := prog_11_method_50_code
def yX9_saturation : MethodName := ⟨RX9, "saturation", "(I)I"⟩
abbrev cX9_weakening : ByteArray := prog_11_method_51_code
def yX9_weakening : MethodName := ⟨RX9, "weakening", "(II)I"⟩
abbrev cX9_divisorOf : ByteArray := prog_11_method_52_code
def yX9_divisorOf : MethodName := ⟨RX9, "divisorOf", "(JJ)J"⟩
abbrev cX9_resolvent : ByteArray := prog_11_method_53_code
def yX9_resolvent : MethodName := ⟨RX9, "resolvent", "(III)I"⟩
abbrev cX9_cardinalityConstraint : ByteArray := prog_11_method_54_code
def yX9_cardinalityConstraint : MethodName := ⟨RX9, "cardinalityConstraint", "(I)I"⟩
abbrev cX9_areApart : ByteArray := prog_11_method_55_code
def yX9_areApart : MethodName := ⟨RX9, "areApart", "(II)Z"⟩
abbrev cX9_exclude : ByteArray := prog_11_method_56_code
def yX9_exclude : MethodName := ⟨RX9, "exclude", "(II)Z"⟩
abbrev cX9_group : ByteArray := prog_11_method_57_code
def yX9_group : MethodName := ⟨RX9, "group", "(I)I"⟩
abbrev cX9_many : ByteArray := prog_11_method_58_code
def yX9_many : MethodName := ⟨RX9, "many", "([Z)I"⟩
abbrev cX9_at : ByteArray := prog_11_method_59_code
def yX9_at : MethodName := ⟨RX9, "at", "([ZI)I"⟩
abbrev cX9_groupLiteral : ByteArray := prog_11_method_60_code
def yX9_groupLiteral : MethodName := ⟨RX9, "groupLiteral", "(I)I"⟩
abbrev cX9_addGroup : ByteArray := prog_11_method_61_code
def yX9_addGroup : MethodName := ⟨RX9, "addGroup", "()I"⟩
abbrev cX9_propagate : ByteArray := prog_11_method_62_code
def yX9_propagate : MethodName := ⟨RX9, "propagate", "()V"⟩
abbrev cX9_fill : ByteArray := prog_11_method_63_code
def yX9_fill : MethodName := ⟨RX9, "fill", "(I)Z"⟩
abbrev cX9_valued : ByteArray := prog_11_method_64_code
def yX9_valued : MethodName := ⟨RX9, "valued", "()I"⟩
abbrev cX9_decide : ByteArray := prog_11_method_65_code
def yX9_decide : MethodName := ⟨RX9, "decide", "(I)I"⟩
abbrev cX9_undo : ByteArray := prog_11_method_66_code
def yX9_undo : MethodName := ⟨RX9, "undo", "()I"⟩
abbrev cX9_decisionCount : ByteArray := prog_11_method_67_code
def yX9_decisionCount : MethodName := ⟨RX9, "decisionCount", "()I"⟩
abbrev cX9_isConflicting : ByteArray := prog_11_method_68_code
def yX9_isConflicting : MethodName := ⟨RX9, "isConflicting", "()Z"⟩
abbrev cX9_value : ByteArray := prog_11_method_69_code
def yX9_value : MethodName := ⟨RX9, "value", "(I)I"⟩
abbrev cX9_isTrue : ByteArray := prog_11_method_70_code
def yX9_isTrue : MethodName := ⟨RX9, "isTrue", "(II)Z"⟩
abbrev cX9_isModel : ByteArray := prog_11_method_71_code
def yX9_isModel : MethodName := ⟨RX9, "isModel", "(I)Z"⟩
abbrev cX9_isOurs : ByteArray := prog_11_method_72_code
def yX9_isOurs : MethodName := ⟨RX9, "isOurs", "(I)Z"⟩
abbrev cX9_modelFrom : ByteArray := prog_11_method_73_code
def yX9_modelFrom : MethodName := ⟨RX9, "modelFrom", "(I)I"⟩
abbrev cX9_firstModel : ByteArray := prog_11_method_74_code
def yX9_firstModel : MethodName := ⟨RX9, "firstModel", "()I"⟩
abbrev cX9_isMask : ByteArray := prog_11_method_75_code
def yX9_isMask : MethodName := ⟨RX9, "isMask", "(I)Z"⟩
abbrev cX9_nextModel : ByteArray := prog_11_method_76_code
def yX9_nextModel : MethodName := ⟨RX9, "nextModel", "(I)I"⟩
abbrev cX9_modelCount : ByteArray := prog_11_method_77_code
def yX9_modelCount : MethodName := ⟨RX9, "modelCount", "()I"⟩
abbrev cX9_isForced : ByteArray := prog_11_method_78_code
def yX9_isForced : MethodName := ⟨RX9, "isForced", "(I)Z"⟩
abbrev cX9_setCost : ByteArray := prog_11_method_79_code
def yX9_setCost : MethodName := ⟨RX9, "setCost", "(II)I"⟩
abbrev cX9_costOf : ByteArray := prog_11_method_80_code
def yX9_costOf : MethodName := ⟨RX9, "costOf", "(I)I"⟩
abbrev cX9_cheapest : ByteArray := prog_11_method_81_code
def yX9_cheapest : MethodName := ⟨RX9, "cheapest", "()I"⟩
abbrev cX9_leastCost : ByteArray := prog_11_method_82_code
def yX9_leastCost : MethodName := ⟨RX9, "leastCost", "()I"⟩
abbrev cX9_cheapestModel : ByteArray := prog_11_method_83_code
def yX9_cheapestModel : MethodName := ⟨RX9, "cheapestModel", "()I"⟩
abbrev cX9_hasModel : ByteArray := prog_11_method_84_code
def yX9_hasModel : MethodName := ⟨RX9, "hasModel", "([Z)Z"⟩
abbrev cX9_explain : ByteArray := prog_11_method_85_code
def yX9_explain : MethodName := ⟨RX9, "explain", "(II)I"⟩
abbrev cX9_reasonLiteral : ByteArray := prog_11_method_86_code
def yX9_reasonLiteral : MethodName := ⟨RX9, "reasonLiteral", "(I)I"⟩
abbrev cX9_push : ByteArray := prog_11_method_87_code
def yX9_push : MethodName := ⟨RX9, "push", "()I"⟩
abbrev cX9_pop : ByteArray := prog_11_method_88_code
def yX9_pop : MethodName := ⟨RX9, "pop", "()I"⟩
abbrev cX9_digest : ByteArray := prog_11_method_89_code
def yX9_digest : MethodName := ⟨RX9, "digest", "()J"⟩
def RJx145de : String := "java/io/Serializable"
def TJx145de : u_T := fun k => match k with
  | _ => ("", "", "", false)
def tyJx145de : Nat → FieldType := fun k => match k with
  | _ => .int
abbrev wsJx145de0 : List Cond := u_ws RJx145de TJx145de 0
theorem nmJx145de : ∀ a, a < 0 → ∀ b, b < 0 → a ≠ b → (TJx145de a).2.1 ≠ (TJx145de b).2.1 := by decide +kernel
theorem tyJx145de_ok : ∀ k, k < 0 → parseFieldDescriptor (TJx145de k).2.2.1 = some (tyJx145de k) := by decide +kernel
def RJ5 : String := "java/lang/AbstractStringBuilder"
def TJ5 : u_T := fun k => match k with
  | _ => ("", "", "", false)
def tyJ5 : Nat → FieldType := fun k => match k with
  | _ => .int
abbrev wsJ50 : List Cond := u_ws RJ5 TJ5 0
theorem nmJ5 : ∀ a, a < 0 → ∀ b, b < 0 → a ≠ b → (TJ5 a).2.1 ≠ (TJ5 b).2.1 := by decide +kernel
theorem tyJ5_ok : ∀ k, k < 0 → parseFieldDescriptor (TJ5 k).2.2.1 = some (tyJ5 k) := by decide +kernel
abbrev cJ5_init_d00df : ByteArray := prog_13_method_2_code
def yJ5_init_d00df : MethodName := ⟨RJ5, "<init>", "(I)V"⟩
abbrev cJ5_length_8abf5 : ByteArray := prog_13_method_6_code
def yJ5_length_8abf5 : MethodName := ⟨RJ5, "length", "()I"⟩
abbrev cJ5_ensureCapacityInternal_d00df : ByteArray := prog_13_method_9_code
def yJ5_ensureCapacityInternal_d00df : MethodName := ⟨RJ5, "ensureCapacityInternal", "(I)V"⟩
abbrev cJ5_newCapacity_0f7a4 : ByteArray := prog_13_method_10_code
def yJ5_newCapacity_0f7a4 : MethodName := ⟨RJ5, "newCapacity", "(I)I"⟩
abbrev cJ5_inflate_da8c8 : ByteArray := prog_13_method_11_code
def yJ5_inflate_da8c8 : MethodName := ⟨RJ5, "inflate", "()V"⟩
abbrev cJ5_setLength_d00df : ByteArray := prog_13_method_13_code
def yJ5_setLength_d00df : MethodName := ⟨RJ5, "setLength", "(I)V"⟩
abbrev cJ5_charAt_5068e : ByteArray := prog_13_method_14_code
def yJ5_charAt_5068e : MethodName := ⟨RJ5, "charAt", "(I)C"⟩
abbrev cJ5_append_cf1ce : ByteArray := prog_13_method_22_code
def yJ5_append_cf1ce : MethodName := ⟨RJ5, "append", "(Ljava/lang/String;)Ljava/lang/AbstractStringBuilder;"⟩
abbrev cJ5_appendNull_278bc : ByteArray := prog_13_method_26_code
def yJ5_appendNull_278bc : MethodName := ⟨RJ5, "appendNull", "()Ljava/lang/AbstractStringBuilder;"⟩
abbrev cJ5_append_3fe6f : ByteArray := prog_13_method_31_code
def yJ5_append_3fe6f : MethodName := ⟨RJ5, "append", "(C)Ljava/lang/AbstractStringBuilder;"⟩
abbrev cJ5_append_c97b9 : ByteArray := prog_13_method_32_code
def yJ5_append_c97b9 : MethodName := ⟨RJ5, "append", "(I)Ljava/lang/AbstractStringBuilder;"⟩
abbrev cJ5_getValue_6d5f1 : ByteArray := prog_13_method_64_code
def yJ5_getValue_6d5f1 : MethodName := ⟨RJ5, "getValue", "()[B"⟩
abbrev cJ5_isLatin1_aae02 : ByteArray := prog_13_method_68_code
def yJ5_isLatin1_aae02 : MethodName := ⟨RJ5, "isLatin1", "()Z"⟩
abbrev cJ5_inflateIfNeededFor_a7421 : ByteArray := prog_13_method_71_code
def yJ5_inflateIfNeededFor_a7421 : MethodName := ⟨RJ5, "inflateIfNeededFor", "(Ljava/lang/String;)V"⟩
abbrev cJ5_putStringAt_47b60 : ByteArray := prog_13_method_73_code
def yJ5_putStringAt_47b60 : MethodName := ⟨RJ5, "putStringAt", "(ILjava/lang/String;)V"⟩
def RJx2cfe8 : String := "java/lang/Appendable"
def TJx2cfe8 : u_T := fun k => match k with
  | _ => ("", "", "", false)
def tyJx2cfe8 : Nat → FieldType := fun k => match k with
  | _ => .int
abbrev wsJx2cfe80 : List Cond := u_ws RJx2cfe8 TJx2cfe8 0
theorem nmJx2cfe8 : ∀ a, a < 0 → ∀ b, b < 0 → a ≠ b → (TJx2cfe8 a).2.1 ≠ (TJx2cfe8 b).2.1 := by decide +kernel
theorem tyJx2cfe8_ok : ∀ k, k < 0 → parseFieldDescriptor (TJx2cfe8 k).2.2.1 = some (tyJx2cfe8 k) := by decide +kernel
def RJx00060 : String := "java/lang/ArrayIndexOutOfBoundsException"
def TJx00060 : u_T := fun k => match k with
  | 0 => ("java/lang/Throwable", "backtrace", "Ljava/lang/Object;", false)
  | 1 => ("java/lang/Throwable", "detailMessage", "Ljava/lang/String;", false)
  | 2 => ("java/lang/Throwable", "cause", "Ljava/lang/Throwable;", false)
  | 3 => ("java/lang/Throwable", "stackTrace", "[Ljava/lang/StackTraceElement;", false)
  | 4 => ("java/lang/Throwable", "depth", "I", false)
  | _ => ("java/lang/Throwable", "suppressedExceptions", "Ljava/util/List;", false)
def tyJx00060 : Nat → FieldType := fun k => match k with
  | 0 => .object "java/lang/Object"
  | 1 => .object "java/lang/String"
  | 2 => .object "java/lang/Throwable"
  | 3 => .array (.object "java/lang/StackTraceElement")
  | 4 => .int
  | _ => .object "java/util/List"
abbrev wsJx000600 : List Cond := u_ws RJx00060 TJx00060 6
theorem nmJx00060 : ∀ a, a < 6 → ∀ b, b < 6 → a ≠ b → (TJx00060 a).2.1 ≠ (TJx00060 b).2.1 := by decide +kernel
theorem tyJx00060_ok : ∀ k, k < 6 → parseFieldDescriptor (TJx00060 k).2.2.1 = some (tyJx00060 k) := by decide +kernel
abbrev cJx00060_init_a7421 : ByteArray := prog_16_method_2_code
def yJx00060_init_a7421 : MethodName := ⟨RJx00060, "<init>", "(Ljava/lang/String;)V"⟩
abbrev cJx00060_init_d00df : ByteArray := prog_16_method_3_code
def yJx00060_init_d00df : MethodName := ⟨RJx00060, "<init>", "(I)V"⟩
def RJx9f9b0 : String := "java/lang/CharSequence"
def TJx9f9b0 : u_T := fun k => match k with
  | _ => ("", "", "", false)
def tyJx9f9b0 : Nat → FieldType := fun k => match k with
  | _ => .int
abbrev wsJx9f9b00 : List Cond := u_ws RJx9f9b0 TJx9f9b0 0
theorem nmJx9f9b0 : ∀ a, a < 0 → ∀ b, b < 0 → a ≠ b → (TJx9f9b0 a).2.1 ≠ (TJx9f9b0 b).2.1 := by decide +kernel
theorem tyJx9f9b0_ok : ∀ k, k < 0 → parseFieldDescriptor (TJx9f9b0 k).2.2.1 = some (tyJx9f9b0 k) := by decide +kernel
def RJx8e188 : String := "java/lang/Cloneable"
def TJx8e188 : u_T := fun k => match k with
  | _ => ("", "", "", false)
def tyJx8e188 : Nat → FieldType := fun k => match k with
  | _ => .int
abbrev wsJx8e1880 : List Cond := u_ws RJx8e188 TJx8e188 0
theorem nmJx8e188 : ∀ a, a < 0 → ∀ b, b < 0 → a ≠ b → (TJx8e188 a).2.1 ≠ (TJx8e188 b).2.1 := by decide +kernel
theorem tyJx8e188_ok : ∀ k, k < 0 → parseFieldDescriptor (TJx8e188 k).2.2.1 = some (tyJx8e188 k) := by decide +kernel
def RJxb160c : String := "java/lang/Comparable"
def TJxb160c : u_T := fun k => match k with
  | _ => ("", "", "", false)
def tyJxb160c : Nat → FieldType := fun k => match k with
  | _ => .int
abbrev wsJxb160c0 : List Cond := u_ws RJxb160c TJxb160c 0
theorem nmJxb160c : ∀ a, a < 0 → ∀ b, b < 0 → a ≠ b → (TJxb160c a).2.1 ≠ (TJxb160c b).2.1 := by decide +kernel
theorem tyJxb160c_ok : ∀ k, k < 0 → parseFieldDescriptor (TJxb160c k).2.2.1 = some (tyJxb160c k) := by decide +kernel
def RJ6 : String := "java/lang/Integer"
def TJ6 : u_T := fun k => match k with
  | _ => ("", "", "", false)
def tyJ6 : Nat → FieldType := fun k => match k with
  | _ => .int
abbrev wsJ60 : List Cond := u_ws RJ6 TJ6 0
theorem nmJ6 : ∀ a, a < 0 → ∀ b, b < 0 → a ≠ b → (TJ6 a).2.1 ≠ (TJ6 b).2.1 := by decide +kernel
theorem tyJ6_ok : ∀ k, k < 0 → parseFieldDescriptor (TJ6 k).2.2.1 = some (tyJ6 k) := by decide +kernel
abbrev cJ6_getChars_ba4f3 : ByteArray := prog_24_method_12_code
def yJ6_getChars_ba4f3 : MethodName := ⟨RJ6, "getChars", "(II[B)I"⟩
abbrev cJ6_stringSize_0f7a4 : ByteArray := prog_24_method_13_code
def yJ6_stringSize_0f7a4 : MethodName := ⟨RJ6, "stringSize", "(I)I"⟩
def RJ13 : String := "java/lang/Long"
def TJ13 : u_T := fun k => match k with
  | _ => ("", "", "", false)
def tyJ13 : Nat → FieldType := fun k => match k with
  | _ => .int
abbrev wsJ130 : List Cond := u_ws RJ13 TJ13 0
theorem nmJ13 : ∀ a, a < 0 → ∀ b, b < 0 → a ≠ b → (TJ13 a).2.1 ≠ (TJ13 b).2.1 := by decide +kernel
theorem tyJ13_ok : ∀ k, k < 0 → parseFieldDescriptor (TJ13 k).2.2.1 = some (tyJ13 k) := by decide +kernel
abbrev cJ13_bitCount_95d88 : ByteArray := prog_25_method_50_code
def yJ13_bitCount_95d88 : MethodName := ⟨RJ13, "bitCount", "(J)I"⟩
def RJ9 : String := "java/lang/Math"
def TJ9 : u_T := fun k => match k with
  | _ => ("", "", "", false)
def tyJ9 : Nat → FieldType := fun k => match k with
  | _ => .int
abbrev wsJ90 : List Cond := u_ws RJ9 TJ9 0
theorem nmJ9 : ∀ a, a < 0 → ∀ b, b < 0 → a ≠ b → (TJ9 a).2.1 ≠ (TJ9 b).2.1 := by decide +kernel
theorem tyJ9_ok : ∀ k, k < 0 → parseFieldDescriptor (TJ9 k).2.2.1 = some (tyJ9 k) := by decide +kernel
abbrev cJ9_max_7cf53 : ByteArray := prog_26_method_65_code
def yJ9_max_7cf53 : MethodName := ⟨RJ9, "max", "(II)I"⟩
abbrev cJ9_max_f86c9 : ByteArray := prog_26_method_66_code
def yJ9_max_f86c9 : MethodName := ⟨RJ9, "max", "(JJ)J"⟩
abbrev cJ9_min_7cf53 : ByteArray := prog_26_method_69_code
def yJ9_min_7cf53 : MethodName := ⟨RJ9, "min", "(II)I"⟩
abbrev cJ9_min_f86c9 : ByteArray := prog_26_method_70_code
def yJ9_min_f86c9 : MethodName := ⟨RJ9, "min", "(JJ)J"⟩
def RJxd2413 : String := "java/lang/Number"
def TJxd2413 : u_T := fun k => match k with
  | _ => ("", "", "", false)
def tyJxd2413 : Nat → FieldType := fun k => match k with
  | _ => .int
abbrev wsJxd24130 : List Cond := u_ws RJxd2413 TJxd2413 0
theorem nmJxd2413 : ∀ a, a < 0 → ∀ b, b < 0 → a ≠ b → (TJxd2413 a).2.1 ≠ (TJxd2413 b).2.1 := by decide +kernel
theorem tyJxd2413_ok : ∀ k, k < 0 → parseFieldDescriptor (TJxd2413 k).2.2.1 = some (tyJxd2413 k) := by decide +kernel
def RJ0 : String := "java/lang/String"
def TJ0 : u_T := fun k => match k with
  | 0 => ("java/lang/String", "value", "[B", true)
  | 1 => ("java/lang/String", "coder", "B", true)
  | 2 => ("java/lang/String", "hash", "I", false)
  | _ => ("java/lang/String", "hashIsZero", "Z", false)
def tyJ0 : Nat → FieldType := fun k => match k with
  | 0 => .array .byte
  | 1 => .byte
  | 2 => .int
  | _ => .boolean
abbrev wsJ00 : List Cond := u_ws RJ0 TJ0 4
theorem nmJ0 : ∀ a, a < 4 → ∀ b, b < 4 → a ≠ b → (TJ0 a).2.1 ≠ (TJ0 b).2.1 := by decide +kernel
theorem tyJ0_ok : ∀ k, k < 4 → parseFieldDescriptor (TJ0 k).2.2.1 = some (tyJ0 k) := by decide +kernel
abbrev cJ0_init_81219 : ByteArray := prog_29_method_53_code
def yJ0_init_81219 : MethodName := ⟨RJ0, "<init>", "(Ljava/lang/StringBuilder;)V"⟩
abbrev cJ0_length_8abf5 : ByteArray := prog_29_method_54_code
def yJ0_length_8abf5 : MethodName := ⟨RJ0, "length", "()I"⟩
abbrev cJ0_getBytes_840e7 : ByteArray := prog_29_method_147_code
def yJ0_getBytes_840e7 : MethodName := ⟨RJ0, "getBytes", "([BIB)V"⟩
abbrev cJ0_init_db425 : ByteArray := prog_29_method_150_code
def yJ0_init_db425 : MethodName := ⟨RJ0, "<init>", "(Ljava/lang/AbstractStringBuilder;Ljava/lang/Void;)V"⟩
abbrev cJ0_coder_7d493 : ByteArray := prog_29_method_152_code
def yJ0_coder_7d493 : MethodName := ⟨RJ0, "coder", "()B"⟩
abbrev cJ0_checkIndex_df160 : ByteArray := prog_29_method_155_code
def yJ0_checkIndex_df160 : MethodName := ⟨RJ0, "checkIndex", "(II)V"⟩
abbrev cJ0_checkBoundsOffCount_cabcc : ByteArray := prog_29_method_157_code
def yJ0_checkBoundsOffCount_cabcc : MethodName := ⟨RJ0, "checkBoundsOffCount", "(III)I"⟩
abbrev cJ0_checkBoundsBeginEnd_23922 : ByteArray := prog_29_method_158_code
def yJ0_checkBoundsBeginEnd_23922 : MethodName := ⟨RJ0, "checkBoundsBeginEnd", "(III)V"⟩
def RJ4 : String := "java/lang/StringBuilder"
def TJ4 : u_T := fun k => match k with
  | 0 => ("java/lang/AbstractStringBuilder", "value", "[B", false)
  | 1 => ("java/lang/AbstractStringBuilder", "coder", "B", false)
  | 2 => ("java/lang/AbstractStringBuilder", "maybeLatin1", "Z", false)
  | _ => ("java/lang/AbstractStringBuilder", "count", "I", false)
def tyJ4 : Nat → FieldType := fun k => match k with
  | 0 => .array .byte
  | 1 => .byte
  | 2 => .boolean
  | _ => .int
abbrev wsJ40 : List Cond := u_ws RJ4 TJ4 4
theorem nmJ4 : ∀ a, a < 4 → ∀ b, b < 4 → a ≠ b → (TJ4 a).2.1 ≠ (TJ4 b).2.1 := by decide +kernel
theorem tyJ4_ok : ∀ k, k < 4 → parseFieldDescriptor (TJ4 k).2.2.1 = some (tyJ4 k) := by decide +kernel
abbrev cJ4_init_da8c8 : ByteArray := prog_30_method_1_code
def yJ4_init_da8c8 : MethodName := ⟨RJ4, "<init>", "()V"⟩
abbrev cJ4_append_15ec4 : ByteArray := prog_30_method_7_code
def yJ4_append_15ec4 : MethodName := ⟨RJ4, "append", "(Ljava/lang/String;)Ljava/lang/StringBuilder;"⟩
abbrev cJ4_append_cf468 : ByteArray := prog_30_method_14_code
def yJ4_append_cf468 : MethodName := ⟨RJ4, "append", "(C)Ljava/lang/StringBuilder;"⟩
abbrev cJ4_append_bf812 : ByteArray := prog_30_method_15_code
def yJ4_append_bf812 : MethodName := ⟨RJ4, "append", "(I)Ljava/lang/StringBuilder;"⟩
abbrev cJ4_toString_0e30d : ByteArray := prog_30_method_42_code
def yJ4_toString_0e30d : MethodName := ⟨RJ4, "toString", "()Ljava/lang/String;"⟩
abbrev cJ4_charAt_5068e : ByteArray := prog_30_method_88_code
def yJ4_charAt_5068e : MethodName := ⟨RJ4, "charAt", "(I)C"⟩
abbrev cJ4_setLength_d00df : ByteArray := prog_30_method_89_code
def yJ4_setLength_d00df : MethodName := ⟨RJ4, "setLength", "(I)V"⟩
abbrev cJ4_length_8abf5 : ByteArray := prog_30_method_93_code
def yJ4_length_8abf5 : MethodName := ⟨RJ4, "length", "()I"⟩
def RJx7c733 : String := "java/lang/StringIndexOutOfBoundsException"
def TJx7c733 : u_T := fun k => match k with
  | 0 => ("java/lang/Throwable", "backtrace", "Ljava/lang/Object;", false)
  | 1 => ("java/lang/Throwable", "detailMessage", "Ljava/lang/String;", false)
  | 2 => ("java/lang/Throwable", "cause", "Ljava/lang/Throwable;", false)
  | 3 => ("java/lang/Throwable", "stackTrace", "[Ljava/lang/StackTraceElement;", false)
  | 4 => ("java/lang/Throwable", "depth", "I", false)
  | _ => ("java/lang/Throwable", "suppressedExceptions", "Ljava/util/List;", false)
def tyJx7c733 : Nat → FieldType := fun k => match k with
  | 0 => .object "java/lang/Object"
  | 1 => .object "java/lang/String"
  | 2 => .object "java/lang/Throwable"
  | 3 => .array (.object "java/lang/StackTraceElement")
  | 4 => .int
  | _ => .object "java/util/List"
abbrev wsJx7c7330 : List Cond := u_ws RJx7c733 TJx7c733 6
theorem nmJx7c733 : ∀ a, a < 6 → ∀ b, b < 6 → a ≠ b → (TJx7c733 a).2.1 ≠ (TJx7c733 b).2.1 := by decide +kernel
theorem tyJx7c733_ok : ∀ k, k < 6 → parseFieldDescriptor (TJx7c733 k).2.2.1 = some (tyJx7c733 k) := by decide +kernel
abbrev cJx7c733_init_d00df : ByteArray := prog_31_method_3_code
def yJx7c733_init_d00df : MethodName := ⟨RJx7c733, "<init>", "(I)V"⟩
def RJ1 : String := "java/lang/StringLatin1"
def TJ1 : u_T := fun k => match k with
  | _ => ("", "", "", false)
def tyJ1 : Nat → FieldType := fun k => match k with
  | _ => .int
abbrev wsJ10 : List Cond := u_ws RJ1 TJ1 0
theorem nmJ1 : ∀ a, a < 0 → ∀ b, b < 0 → a ≠ b → (TJ1 a).2.1 ≠ (TJ1 b).2.1 := by decide +kernel
theorem tyJ1_ok : ∀ k, k < 0 → parseFieldDescriptor (TJ1 k).2.2.1 = some (tyJ1 k) := by decide +kernel
abbrev cJ1_canEncode_fc78d : ByteArray := prog_32_method_3_code
def yJ1_canEncode_fc78d : MethodName := ⟨RJ1, "canEncode", "(C)Z"⟩
abbrev cJ1_fillNull_b72d1 : ByteArray := prog_32_method_48_code
def yJ1_fillNull_b72d1 : MethodName := ⟨RJ1, "fillNull", "([BII)V"⟩
abbrev cJ1_inflate_0e8fd : ByteArray := prog_32_method_50_code
def yJ1_inflate_0e8fd : MethodName := ⟨RJ1, "inflate", "([BI[BII)V"⟩
def RJ2 : String := "java/lang/StringUTF16"
def TJ2 : u_T := fun k => match k with
  | _ => ("", "", "", false)
def tyJ2 : Nat → FieldType := fun k => match k with
  | _ => .int
abbrev wsJ20 : List Cond := u_ws RJ2 TJ2 0
theorem nmJ2 : ∀ a, a < 0 → ∀ b, b < 0 → a ≠ b → (TJ2 a).2.1 ≠ (TJ2 b).2.1 := by decide +kernel
theorem tyJ2_ok : ∀ k, k < 0 → parseFieldDescriptor (TJ2 k).2.2.1 = some (tyJ2 k) := by decide +kernel
abbrev cJ2_newBytesFor_77867 : ByteArray := prog_33_method_2_code
def yJ2_newBytesFor_77867 : MethodName := ⟨RJ2, "newBytesFor", "(I)[B"⟩
abbrev cJ2_newBytesLength_0f7a4 : ByteArray := prog_33_method_3_code
def yJ2_newBytesLength_0f7a4 : MethodName := ⟨RJ2, "newBytesLength", "(I)I"⟩
abbrev cJ2_putChar_b72d1 : ByteArray := prog_33_method_4_code
def yJ2_putChar_b72d1 : MethodName := ⟨RJ2, "putChar", "([BII)V"⟩
abbrev cJ2_getChar_3b067 : ByteArray := prog_33_method_5_code
def yJ2_getChar_3b067 : MethodName := ⟨RJ2, "getChar", "([BI)C"⟩
abbrev cJ2_length_9d52b : ByteArray := prog_33_method_6_code
def yJ2_length_9d52b : MethodName := ⟨RJ2, "length", "([B)I"⟩
abbrev cJ2_coderFromArrayLen_85cad : ByteArray := prog_33_method_15_code
def yJ2_coderFromArrayLen_85cad : MethodName := ⟨RJ2, "coderFromArrayLen", "([BI)B"⟩
abbrev cJ2_compress_39247 : ByteArray := prog_33_method_17_code
def yJ2_compress_39247 : MethodName := ⟨RJ2, "compress", "([BII)[B"⟩
abbrev cJ2_compress_5af95 : ByteArray := prog_33_method_22_code
def yJ2_compress_5af95 : MethodName := ⟨RJ2, "compress", "([BI[BII)I"⟩
abbrev cJ2_fillNull_b72d1 : ByteArray := prog_33_method_70_code
def yJ2_fillNull_b72d1 : MethodName := ⟨RJ2, "fillNull", "([BII)V"⟩
abbrev cJ2_putCharSB_b72d1 : ByteArray := prog_33_method_71_code
def yJ2_putCharSB_b72d1 : MethodName := ⟨RJ2, "putCharSB", "([BII)V"⟩
abbrev cJ2_getChars_46870 : ByteArray := prog_33_method_77_code
def yJ2_getChars_46870 : MethodName := ⟨RJ2, "getChars", "(III[B)I"⟩
abbrev cJ2_putCharsAt_cd4e5 : ByteArray := prog_33_method_81_code
def yJ2_putCharsAt_cd4e5 : MethodName := ⟨RJ2, "putCharsAt", "([BICCCC)I"⟩
abbrev cJ2_inflate_0e8fd : ByteArray := prog_33_method_86_code
def yJ2_inflate_0e8fd : MethodName := ⟨RJ2, "inflate", "([BI[BII)V"⟩
abbrev cJ2_getChars_ba4f3 : ByteArray := prog_33_method_89_code
def yJ2_getChars_ba4f3 : MethodName := ⟨RJ2, "getChars", "(II[B)I"⟩
abbrev cJ2_checkIndex_2214a : ByteArray := prog_33_method_91_code
def yJ2_checkIndex_2214a : MethodName := ⟨RJ2, "checkIndex", "(I[B)V"⟩
abbrev cJ2_checkBoundsBeginEnd_d044e : ByteArray := prog_33_method_93_code
def yJ2_checkBoundsBeginEnd_d044e : MethodName := ⟨RJ2, "checkBoundsBeginEnd", "(II[B)V"⟩
abbrev cJ2_checkBoundsOffCount_d044e : ByteArray := prog_33_method_94_code
def yJ2_checkBoundsOffCount_d044e : MethodName := ⟨RJ2, "checkBoundsOffCount", "(II[B)V"⟩
def RJ10 : String := "java/lang/System"
def TJ10 : u_T := fun k => match k with
  | _ => ("", "", "", false)
def tyJ10 : Nat → FieldType := fun k => match k with
  | _ => .int
abbrev wsJ100 : List Cond := u_ws RJ10 TJ10 0
theorem nmJ10 : ∀ a, a < 0 → ∀ b, b < 0 → a ≠ b → (TJ10 a).2.1 ≠ (TJ10 b).2.1 := by decide +kernel
theorem tyJ10_ok : ∀ k, k < 0 → parseFieldDescriptor (TJ10 k).2.2.1 = some (tyJ10 k) := by decide +kernel
def RJxfd54e : String := "java/lang/constant/Constable"
def TJxfd54e : u_T := fun k => match k with
  | _ => ("", "", "", false)
def tyJxfd54e : Nat → FieldType := fun k => match k with
  | _ => .int
abbrev wsJxfd54e0 : List Cond := u_ws RJxfd54e TJxfd54e 0
theorem nmJxfd54e : ∀ a, a < 0 → ∀ b, b < 0 → a ≠ b → (TJxfd54e a).2.1 ≠ (TJxfd54e b).2.1 := by decide +kernel
theorem tyJxfd54e_ok : ∀ k, k < 0 → parseFieldDescriptor (TJxfd54e k).2.2.1 = some (tyJxfd54e k) := by decide +kernel
def RJx3cf43 : String := "java/lang/constant/ConstantDesc"
def TJx3cf43 : u_T := fun k => match k with
  | _ => ("", "", "", false)
def tyJx3cf43 : Nat → FieldType := fun k => match k with
  | _ => .int
abbrev wsJx3cf430 : List Cond := u_ws RJx3cf43 TJx3cf43 0
theorem nmJx3cf43 : ∀ a, a < 0 → ∀ b, b < 0 → a ≠ b → (TJx3cf43 a).2.1 ≠ (TJx3cf43 b).2.1 := by decide +kernel
theorem tyJx3cf43_ok : ∀ k, k < 0 → parseFieldDescriptor (TJx3cf43 k).2.2.1 = some (tyJx3cf43 k) := by decide +kernel
def RJ7 : String := "java/util/Arrays"
def TJ7 : u_T := fun k => match k with
  | _ => ("", "", "", false)
def tyJ7 : Nat → FieldType := fun k => match k with
  | _ => .int
abbrev wsJ70 : List Cond := u_ws RJ7 TJ7 0
theorem nmJ7 : ∀ a, a < 0 → ∀ b, b < 0 → a ≠ b → (TJ7 a).2.1 ≠ (TJ7 b).2.1 := by decide +kernel
theorem tyJ7_ok : ∀ k, k < 0 → parseFieldDescriptor (TJ7 k).2.2.1 = some (tyJ7 k) := by decide +kernel
abbrev cJ7_rangeCheck_23922 : ByteArray := prog_38_method_30_code
def yJ7_rangeCheck_23922 : MethodName := ⟨RJ7, "rangeCheck", "(III)V"⟩
abbrev cJ7_fill_d0a16 : ByteArray := prog_38_method_101_code
def yJ7_fill_d0a16 : MethodName := ⟨RJ7, "fill", "([JJ)V"⟩
abbrev cJ7_fill_53178 : ByteArray := prog_38_method_103_code
def yJ7_fill_53178 : MethodName := ⟨RJ7, "fill", "([II)V"⟩
abbrev cJ7_fill_eb02e : ByteArray := prog_38_method_110_code
def yJ7_fill_eb02e : MethodName := ⟨RJ7, "fill", "([BIIB)V"⟩
abbrev cJ7_copyOf_9075b : ByteArray := prog_38_method_121_code
def yJ7_copyOf_9075b : MethodName := ⟨RJ7, "copyOf", "([BI)[B"⟩
abbrev cJ7_checkLength_df160 : ByteArray := prog_38_method_131_code
def yJ7_checkLength_df160 : MethodName := ⟨RJ7, "checkLength", "(II)V"⟩
abbrev cJ7_copyOfRange_39247 : ByteArray := prog_38_method_132_code
def yJ7_copyOfRange_39247 : MethodName := ⟨RJ7, "copyOfRange", "([BII)[B"⟩
abbrev cJ7_copyOfRangeByte_39247 : ByteArray := prog_38_method_133_code
def yJ7_copyOfRangeByte_39247 : MethodName := ⟨RJ7, "copyOfRangeByte", "([BII)[B"⟩
def RJ8 : String := "jdk/internal/util/ArraysSupport"
def TJ8 : u_T := fun k => match k with
  | _ => ("", "", "", false)
def tyJ8 : Nat → FieldType := fun k => match k with
  | _ => .int
abbrev wsJ80 : List Cond := u_ws RJ8 TJ8 0
theorem nmJ8 : ∀ a, a < 0 → ∀ b, b < 0 → a ≠ b → (TJ8 a).2.1 ≠ (TJ8 b).2.1 := by decide +kernel
theorem tyJ8_ok : ∀ k, k < 0 → parseFieldDescriptor (TJ8 k).2.2.1 = some (tyJ8 k) := by decide +kernel
abbrev cJ8_newLength_cabcc : ByteArray := prog_40_method_27_code
def yJ8_newLength_cabcc : MethodName := ⟨RJ8, "newLength", "(III)I"⟩
abbrev cJ8_hugeLength_7cf53 : ByteArray := prog_40_method_28_code
def yJ8_hugeLength_7cf53 : MethodName := ⟨RJ8, "hugeLength", "(II)I"⟩
def RJ3 : String := "jdk/internal/util/Preconditions"
def TJ3 : u_T := fun k => match k with
  | _ => ("", "", "", false)
def tyJ3 : Nat → FieldType := fun k => match k with
  | _ => .int
abbrev wsJ30 : List Cond := u_ws RJ3 TJ3 0
theorem nmJ3 : ∀ a, a < 0 → ∀ b, b < 0 → a ≠ b → (TJ3 a).2.1 ≠ (TJ3 b).2.1 := by decide +kernel
theorem tyJ3_ok : ∀ k, k < 0 → parseFieldDescriptor (TJ3 k).2.2.1 = some (tyJ3 k) := by decide +kernel
abbrev cJ3_checkIndex_8e157 : ByteArray := prog_41_method_11_code
def yJ3_checkIndex_8e157 : MethodName := ⟨RJ3, "checkIndex", "(IILjava/util/function/BiFunction;)I"⟩
abbrev cJ3_checkFromToIndex_8c36e : ByteArray := prog_41_method_12_code
def yJ3_checkFromToIndex_8c36e : MethodName := ⟨RJ3, "checkFromToIndex", "(IIILjava/util/function/BiFunction;)I"⟩
abbrev cJ3_checkFromIndexSize_8c36e : ByteArray := prog_41_method_13_code
def yJ3_checkFromIndexSize_8c36e : MethodName := ⟨RJ3, "checkFromIndexSize", "(IIILjava/util/function/BiFunction;)I"⟩
def RL : String := "PseudoBooleanLaw"
abbrev cL_feed : ByteArray := method_3_code
def yL_feed : MethodName := ⟨RL, "feed", "(LPseudoBoolean;IIIII[J)I"⟩
abbrev cL_trim : ByteArray := method_4_code
def yL_trim : MethodName := ⟨RL, "trim", "(LPseudoBoolean;I[J)I"⟩
abbrev cL_post : ByteArray := method_5_code
def yL_post : MethodName := ⟨RL, "post", "(LPseudoBoolean;[J)I"⟩
abbrev cL_isImplied : ByteArray := method_6_code
def yL_isImplied : MethodName := ⟨RL, "isImplied", "(LPseudoBoolean;[J)I"⟩
abbrev cL_write : ByteArray := method_7_code
def yL_write : MethodName := ⟨RL, "write", "(LPseudoBoolean;I[J)I"⟩
abbrev cL_outputByte : ByteArray := method_8_code
def yL_outputByte : MethodName := ⟨RL, "outputByte", "(LPseudoBoolean;I[J)I"⟩
abbrev cL_termCount : ByteArray := method_9_code
def yL_termCount : MethodName := ⟨RL, "termCount", "(LPseudoBoolean;I[J)I"⟩
abbrev cL_degree : ByteArray := method_10_code
def yL_degree : MethodName := ⟨RL, "degree", "(LPseudoBoolean;I[J)I"⟩
abbrev cL_coefficient : ByteArray := method_11_code
def yL_coefficient : MethodName := ⟨RL, "coefficient", "(LPseudoBoolean;II[J)I"⟩
abbrev cL_slack : ByteArray := method_12_code
def yL_slack : MethodName := ⟨RL, "slack", "(LPseudoBoolean;I[J)I"⟩
abbrev cL_cardinality : ByteArray := method_13_code
def yL_cardinality : MethodName := ⟨RL, "cardinality", "(LPseudoBoolean;I[J)I"⟩
abbrev cL_sum : ByteArray := method_14_code
def yL_sum : MethodName := ⟨RL, "sum", "(LPseudoBoolean;II[J)I"⟩
abbrev cL_multiple : ByteArray := method_15_code
def yL_multiple : MethodName := ⟨RL, "multiple", "(LPseudoBoolean;II[J)I"⟩
abbrev cL_quotient : ByteArray := method_16_code
def yL_quotient : MethodName := ⟨RL, "quotient", "(LPseudoBoolean;II[J)I"⟩
abbrev cL_saturation : ByteArray := method_17_code
def yL_saturation : MethodName := ⟨RL, "saturation", "(LPseudoBoolean;I[J)I"⟩
abbrev cL_weakening : ByteArray := method_18_code
def yL_weakening : MethodName := ⟨RL, "weakening", "(LPseudoBoolean;II[J)I"⟩
abbrev cL_resolvent : ByteArray := method_19_code
def yL_resolvent : MethodName := ⟨RL, "resolvent", "(LPseudoBoolean;III[J)I"⟩
abbrev cL_cardinalityConstraint : ByteArray := method_20_code
def yL_cardinalityConstraint : MethodName := ⟨RL, "cardinalityConstraint", "(LPseudoBoolean;I[J)I"⟩
abbrev cL_exclude : ByteArray := method_21_code
def yL_exclude : MethodName := ⟨RL, "exclude", "(LPseudoBoolean;II[J)I"⟩
abbrev cL_group : ByteArray := method_22_code
def yL_group : MethodName := ⟨RL, "group", "(LPseudoBoolean;I[J)I"⟩
abbrev cL_groupLiteral : ByteArray := method_23_code
def yL_groupLiteral : MethodName := ⟨RL, "groupLiteral", "(LPseudoBoolean;I[J)I"⟩
abbrev cL_addGroup : ByteArray := method_24_code
def yL_addGroup : MethodName := ⟨RL, "addGroup", "(LPseudoBoolean;[J)I"⟩
abbrev cL_decide : ByteArray := method_25_code
def yL_decide : MethodName := ⟨RL, "decide", "(LPseudoBoolean;I[J)I"⟩
abbrev cL_undo : ByteArray := method_26_code
def yL_undo : MethodName := ⟨RL, "undo", "(LPseudoBoolean;[J)I"⟩
abbrev cL_value : ByteArray := method_27_code
def yL_value : MethodName := ⟨RL, "value", "(LPseudoBoolean;I[J)I"⟩
abbrev cL_nextModel : ByteArray := method_28_code
def yL_nextModel : MethodName := ⟨RL, "nextModel", "(LPseudoBoolean;I[J)I"⟩
abbrev cL_isForced : ByteArray := method_29_code
def yL_isForced : MethodName := ⟨RL, "isForced", "(LPseudoBoolean;I[J)I"⟩
abbrev cL_setCost : ByteArray := method_30_code
def yL_setCost : MethodName := ⟨RL, "setCost", "(LPseudoBoolean;II[J)I"⟩
abbrev cL_leastCost : ByteArray := method_31_code
def yL_leastCost : MethodName := ⟨RL, "leastCost", "(LPseudoBoolean;[J)I"⟩
abbrev cL_cheapestModel : ByteArray := method_32_code
def yL_cheapestModel : MethodName := ⟨RL, "cheapestModel", "(LPseudoBoolean;[J)I"⟩
abbrev cL_explain : ByteArray := method_33_code
def yL_explain : MethodName := ⟨RL, "explain", "(LPseudoBoolean;II[J)I"⟩
abbrev cL_reasonLiteral : ByteArray := method_34_code
def yL_reasonLiteral : MethodName := ⟨RL, "reasonLiteral", "(LPseudoBoolean;I[J)I"⟩
abbrev cL_push : ByteArray := method_35_code
def yL_push : MethodName := ⟨RL, "push", "(LPseudoBoolean;[J)I"⟩
abbrev cL_pop : ByteArray := method_36_code
def yL_pop : MethodName := ⟨RL, "pop", "(LPseudoBoolean;[J)I"⟩
abbrev cL_law : ByteArray := code
def yL_law : MethodName := ⟨RL, "law", "([I)Z"⟩
end
section
/-! THE ABSTRACT MACHINE: a frame and a heap of plain data; what it is of the machine's. Addresses are counted from b (the heap's size at the law's start); those from 1000000000 on are things that were there before. In an abstract value .float stands for any int, .double for any long, .retAddr for any reference. -/
abbrev ax_H : Type := List (Nat × List Value)
abbrev ax_M : Type := MethodName × ByteArray × Nat × Option FieldType × List (Nat × Nat × Nat × Nat)
def ax_ad (b : Nat) (o : Nat → Nat) (a : Nat) : Nat := if a < 1000000000 then b + a else o (a - 1000000000)
def ax_v (b : Nat) (o : Nat → Nat) (x v : Value) : Prop := match x with
  | .ref a => v = .ref (ax_ad b o a)
  | .float _ => ∃ i, v = .int i
  | .double _ => ∃ i, v = .long i
  | .retAddr _ => ∃ a, v = .ref a
  | .int i => v = .int i
  | .long i => v = .long i
  | .null => v = .null
def ax_vs (b : Nat) (o : Nat → Nat) : List Value → List Value → Prop
  | [], vs => vs = []
  | x :: xs, vs => ∃ v t, vs = v :: t ∧ ax_v b o x v ∧ ax_vs b o xs t
def ax_ls (b : Nat) (o : Nat → Nat) : List (Nat × Value) → List (Nat × Value) → Prop
  | [], vs => vs = []
  | x :: xs, vs => ∃ v t, vs = (x.1, v) :: t ∧ ax_v b o x.2 v ∧ ax_ls b o xs t
def ax_c (D : va_G) (b : Nat) (o : Nat → Nat) (q : Nat × List Value) (cell : Cell) : Prop :=
  q.1 = 99 ∨ (cell.vm = .none ∧ cell.cls = D.1 q.1 ∧ (100 ≤ q.1 → cell.slots.size = q.2.length) ∧ ∀ k x, q.2[k]? = some x → ∃ v, cell.slots[D.2 q.1 k]? = some v ∧ ax_v b o x v)
def ax_R (D : va_G) (b : Nat) (o : Nat → Nat) (h : ax_H) (H : Heap) : Prop := H.size = b + h.length ∧ ∀ k q, h[k]? = some q → ∃ cell, H[b + k]? = some cell ∧ ax_c D b o q cell
-- values
theorem ax_v_cat {b : Nat} {o : Nat → Nat} {x v : Value} (h : ax_v b o x v) : v.category = x.category := by
  cases x <;> simp only [ax_v] at h
  case int i => subst h; rfl
  case long i => subst h; rfl
  case float i => obtain ⟨i, rfl⟩ := h; rfl
  case double i => obtain ⟨i, rfl⟩ := h; rfl
  case null => subst h; rfl
  case ref a => subst h; rfl
  case retAddr a => obtain ⟨i, rfl⟩ := h; rfl
def ax_isI : Value → Bool
  | .int _ => true
  | .float _ => true
  | _ => false
def ax_isL : Value → Bool
  | .long _ => true
  | .double _ => true
  | _ => false
def ax_isA : Value → Bool
  | .ref _ => true
  | .retAddr _ => true
  | _ => false
theorem ax_v_I {b : Nat} {o : Nat → Nat} {x v : Value} (h : ax_v b o x v) (hx : ax_isI x = true) : ∃ i, v = .int i := by
  cases x <;> simp only [ax_v, ax_isI] at h hx
  case int i => exact ⟨i, h⟩
  case float i => exact h
  all_goals cases hx
theorem ax_v_L {b : Nat} {o : Nat → Nat} {x v : Value} (h : ax_v b o x v) (hx : ax_isL x = true) : ∃ i, v = .long i := by
  cases x <;> simp only [ax_v, ax_isL] at h hx
  case long i => exact ⟨i, h⟩
  case double i => exact h
  all_goals cases hx
theorem ax_v_A {b : Nat} {o : Nat → Nat} {x v : Value} (h : ax_v b o x v) (hx : ax_isA x = true) : ∃ i, v = .ref i := by
  cases x <;> simp only [ax_v, ax_isA] at h hx
  case ref a => exact ⟨_, h⟩
  case retAddr i => exact h
  all_goals cases hx
def ax_b2 (f : Int32 → Int32 → Int32) (x y : Value) : Option Value := match x, y with
  | .int i, .int j => some (.int (f i j))
  | x, y => if ax_isI x && ax_isI y then some (.float 0) else none
theorem ax_b2_spec {f : Int32 → Int32 → Int32} {b : Nat} {o : Nat → Nat} {x y z vx vy : Value} (h : ax_b2 f x y = some z) (hx : ax_v b o x vx) (hy : ax_v b o y vy) : ∃ i j, vx = .int i ∧ vy = .int j ∧ ax_v b o z (.int (f i j)) := by
  unfold ax_b2 at h
  split at h
  · cases h; exact ⟨_, _, hx, hy, rfl⟩
  · split at h
    next hc =>
      cases h
      simp only [Bool.and_eq_true] at hc
      obtain ⟨i, rfl⟩ := ax_v_I hx hc.1
      obtain ⟨j, rfl⟩ := ax_v_I hy hc.2
      exact ⟨i, j, rfl, rfl, ⟨_, rfl⟩⟩
    next => cases h
def ax_d2 (f : Int32 → Int32 → Int32) (x y : Value) : Option Value := match y with
  | .int j => if j = 0 then none else ax_b2 f x (.int j)
  | _ => none
theorem ax_d2_spec {f : Int32 → Int32 → Int32} {b : Nat} {o : Nat → Nat} {x y z vx vy : Value} (h : ax_d2 f x y = some z) (hx : ax_v b o x vx) (hy : ax_v b o y vy) : ∃ i j, vx = .int i ∧ vy = .int j ∧ ¬ j = 0 ∧ ax_v b o z (.int (f i j)) := by
  unfold ax_d2 at h
  split at h
  · split at h
    next => cases h
    next hj =>
      obtain ⟨i, j, e1, e2, e3⟩ := ax_b2_spec h hx hy
      cases hy
      cases e2
      exact ⟨i, _, e1, rfl, hj, e3⟩
  · cases h
def ax_l2 (f : Int64 → Int64 → Int64) (x y : Value) : Option Value := match x, y with
  | .long i, .long j => some (.long (f i j))
  | x, y => if ax_isL x && ax_isL y then some (.double 0) else none
theorem ax_l2_spec {f : Int64 → Int64 → Int64} {b : Nat} {o : Nat → Nat} {x y z vx vy : Value} (h : ax_l2 f x y = some z) (hx : ax_v b o x vx) (hy : ax_v b o y vy) : ∃ i j, vx = .long i ∧ vy = .long j ∧ ax_v b o z (.long (f i j)) := by
  unfold ax_l2 at h
  split at h
  · cases h; exact ⟨_, _, hx, hy, rfl⟩
  · split at h
    next hc =>
      cases h
      simp only [Bool.and_eq_true] at hc
      obtain ⟨i, rfl⟩ := ax_v_L hx hc.1
      obtain ⟨j, rfl⟩ := ax_v_L hy hc.2
      exact ⟨i, j, rfl, rfl, ⟨_, rfl⟩⟩
    next => cases h
def ax_m2 (f : Int64 → Int64 → Int64) (x y : Value) : Option Value := match y with
  | .long j => if j = 0 then none else ax_l2 f x (.long j)
  | _ => none
theorem ax_m2_spec {f : Int64 → Int64 → Int64} {b : Nat} {o : Nat → Nat} {x y z vx vy : Value} (h : ax_m2 f x y = some z) (hx : ax_v b o x vx) (hy : ax_v b o y vy) : ∃ i j, vx = .long i ∧ vy = .long j ∧ ¬ j = 0 ∧ ax_v b o z (.long (f i j)) := by
  unfold ax_m2 at h
  split at h
  · split at h
    next => cases h
    next hj =>
      obtain ⟨i, j, e1, e2, e3⟩ := ax_l2_spec h hx hy
      cases hy
      cases e2
      exact ⟨i, _, e1, rfl, hj, e3⟩
  · cases h
/-- a long by an int: shifts -/
def ax_li (f : Int64 → Int32 → Int64) (x y : Value) : Option Value := match x, y with
  | .long i, .int j => some (.long (f i j))
  | x, y => if ax_isL x && ax_isI y then some (.double 0) else none
theorem ax_li_spec {f : Int64 → Int32 → Int64} {b : Nat} {o : Nat → Nat} {x y z vx vy : Value} (h : ax_li f x y = some z) (hx : ax_v b o x vx) (hy : ax_v b o y vy) : ∃ i j, vx = .long i ∧ vy = .int j ∧ ax_v b o z (.long (f i j)) := by
  unfold ax_li at h
  split at h
  · cases h; exact ⟨_, _, hx, hy, rfl⟩
  · split at h
    next hc =>
      cases h
      simp only [Bool.and_eq_true] at hc
      obtain ⟨i, rfl⟩ := ax_v_L hx hc.1
      obtain ⟨j, rfl⟩ := ax_v_I hy hc.2
      exact ⟨i, j, rfl, rfl, ⟨_, rfl⟩⟩
    next => cases h
def ax_u1 (f : Int32 → Int32) (x : Value) : Option Value := match x with
  | .int i => some (.int (f i))
  | .float _ => some (.float 0)
  | _ => none
theorem ax_u1_spec {f : Int32 → Int32} {b : Nat} {o : Nat → Nat} {x z vx : Value} (h : ax_u1 f x = some z) (hx : ax_v b o x vx) : ∃ i, vx = .int i ∧ ax_v b o z (.int (f i)) := by
  cases x <;> simp only [ax_u1] at h <;> cases h
  · exact ⟨_, hx, rfl⟩
  · obtain ⟨i, rfl⟩ := hx; exact ⟨i, rfl, _, rfl⟩
def ax_ul (f : Int64 → Int64) (x : Value) : Option Value := match x with
  | .long i => some (.long (f i))
  | .double _ => some (.double 0)
  | _ => none
theorem ax_ul_spec {f : Int64 → Int64} {b : Nat} {o : Nat → Nat} {x z vx : Value} (h : ax_ul f x = some z) (hx : ax_v b o x vx) : ∃ i, vx = .long i ∧ ax_v b o z (.long (f i)) := by
  cases x <;> simp only [ax_ul] at h <;> cases h
  · exact ⟨_, hx, rfl⟩
  · obtain ⟨i, rfl⟩ := hx; exact ⟨i, rfl, _, rfl⟩
def ax_i2l (x : Value) : Option Value := match x with
  | .int i => some (.long i.toInt64)
  | .float _ => some (.double 0)
  | _ => none
theorem ax_i2l_spec {b : Nat} {o : Nat → Nat} {x z vx : Value} (h : ax_i2l x = some z) (hx : ax_v b o x vx) : ∃ i, vx = .int i ∧ ax_v b o z (.long i.toInt64) := by
  cases x <;> simp only [ax_i2l] at h <;> cases h
  · exact ⟨_, hx, rfl⟩
  · obtain ⟨i, rfl⟩ := hx; exact ⟨i, rfl, _, rfl⟩
def ax_l2i (x : Value) : Option Value := match x with
  | .long i => some (.int i.toInt32)
  | .double _ => some (.float 0)
  | _ => none
theorem ax_l2i_spec {b : Nat} {o : Nat → Nat} {x z vx : Value} (h : ax_l2i x = some z) (hx : ax_v b o x vx) : ∃ i, vx = .long i ∧ ax_v b o z (.int i.toInt32) := by
  cases x <;> simp only [ax_l2i] at h <;> cases h
  · exact ⟨_, hx, rfl⟩
  · obtain ⟨i, rfl⟩ := hx; exact ⟨i, rfl, _, rfl⟩
def ax_lc (x y : Value) : Option Value := match x, y with
  | .long i, .long j => some (.int (lg_cmp i j))
  | x, y => if ax_isL x && ax_isL y then some (.float 0) else none
theorem ax_lc_spec {b : Nat} {o : Nat → Nat} {x y z vx vy : Value} (h : ax_lc x y = some z) (hx : ax_v b o x vx) (hy : ax_v b o y vy) : ∃ i j, vx = .long i ∧ vy = .long j ∧ ax_v b o z (.int (lg_cmp i j)) := by
  unfold ax_lc at h
  split at h
  · cases h; exact ⟨_, _, hx, hy, rfl⟩
  · split at h
    next hc =>
      cases h
      simp only [Bool.and_eq_true] at hc
      obtain ⟨i, rfl⟩ := ax_v_L hx hc.1
      obtain ⟨j, rfl⟩ := ax_v_L hy hc.2
      exact ⟨i, j, rfl, rfl, ⟨_, rfl⟩⟩
    next => cases h
/-- what may be stored under a type -/
def ax_fit (ty : FieldType) (x : Value) : Bool := match ty, x with
  | .int, .int _ => true
  | .int, .float _ => true
  | .long, .long _ => true
  | .long, .double _ => true
  | .boolean, .int i => i == 0 || i == 1
  | .byte, .int i => decide (-128 ≤ i) && decide (i ≤ 127) && (i.toInt8.toInt32 == i)
  | .object _, .ref _ => true
  | .object _, .null => true
  | .array _, .ref _ => true
  | .array _, .null => true
  | _, _ => false
theorem ax_fit_spec {b : Nat} {o : Nat → Nat} {ty : FieldType} {x v : Value} (h : ax_fit ty x = true) (hx : ax_v b o x v) : narrow ty v = v ∧ fits ty v = true := by
  unfold ax_fit at h
  split at h
  · cases hx; exact ⟨rfl, rfl⟩
  · obtain ⟨i, rfl⟩ := hx; exact ⟨rfl, rfl⟩
  · cases hx; exact ⟨rfl, rfl⟩
  · obtain ⟨i, rfl⟩ := hx; exact ⟨rfl, rfl⟩
  · cases hx
    simp only [Bool.or_eq_true, beq_iff_eq] at h
    rcases h with rfl | rfl <;> exact ⟨rfl, rfl⟩
  · cases hx
    simp only [Bool.and_eq_true, beq_iff_eq, decide_eq_true_eq] at h
    refine ⟨?_, ?_⟩
    · show Value.int _ = _
      rw [h.2]
    · simp only [fits, Bool.and_eq_true, decide_eq_true_eq]
      exact h.1
  · cases hx; exact ⟨rfl, rfl⟩
  · cases hx; exact ⟨rfl, rfl⟩
  · cases hx; exact ⟨rfl, rfl⟩
  · cases hx; exact ⟨rfl, rfl⟩
  · cases h
theorem ax_v_default {b : Nat} {o : Nat → Nat} {ty : FieldType} (hf : ty ≠ .float) (hd : ty ≠ .double) : ax_v b o (defaultValue ty) (defaultValue ty) := by
  cases ty <;> first | rfl | exact absurd rfl hf | exact absurd rfl hd
-- stacks and locals
theorem ax_vs_app {b : Nat} {o : Nat → Nat} : ∀ {xs ys vs ws : List Value}, ax_vs b o xs vs → ax_vs b o ys ws → ax_vs b o (xs ++ ys) (vs ++ ws)
  | [], _, vs, _, h, h2 => by cases h; exact h2
  | x :: xs, ys, vs, ws, h, h2 => by
    obtain ⟨v, t, rfl, h3, h4⟩ := h
    exact ⟨v, t ++ ws, rfl, h3, ax_vs_app h4 h2⟩
theorem ax_vs_len {b : Nat} {o : Nat → Nat} : ∀ {xs vs : List Value}, ax_vs b o xs vs → vs.length = xs.length
  | [], vs, h => by cases h; rfl
  | x :: xs, vs, h => by
    obtain ⟨v, t, rfl, h3, h4⟩ := h
    simp [ax_vs_len h4]
theorem ax_vs_rev {b : Nat} {o : Nat → Nat} : ∀ {xs vs : List Value}, ax_vs b o xs vs → ax_vs b o xs.reverse vs.reverse
  | [], vs, h => by cases h; rfl
  | x :: xs, vs, h => by
    obtain ⟨v, t, rfl, h3, h4⟩ := h
    rw [List.reverse_cons, List.reverse_cons]
    exact ax_vs_app (ax_vs_rev h4) ⟨v, [], rfl, h3, rfl⟩
theorem ax_vs_cat {b : Nat} {o : Nat → Nat} : ∀ {xs vs : List Value}, ax_vs b o xs vs → (vs.map fun v => v.category).sum = (xs.map fun v => v.category).sum
  | [], vs, h => by cases h; rfl
  | x :: xs, vs, h => by
    obtain ⟨v, t, rfl, h3, h4⟩ := h
    simp [ax_vs_cat h4, ax_v_cat h3]
/-- the first n of a stack, and the rest -/
theorem ax_vs_split {b : Nat} {o : Nat → Nat} : ∀ {xs ys vs : List Value}, ax_vs b o (xs ++ ys) vs → ∃ v1 v2, vs = v1 ++ v2 ∧ ax_vs b o xs v1 ∧ ax_vs b o ys v2
  | [], ys, vs, h => ⟨[], vs, rfl, rfl, h⟩
  | x :: xs, ys, vs, h => by
    obtain ⟨v, t, rfl, h3, h4⟩ := h
    obtain ⟨v1, v2, rfl, h5, h6⟩ := ax_vs_split h4
    exact ⟨v :: v1, v2, rfl, ⟨v, v1, rfl, h3, h5⟩, h6⟩
def ax_at : List (Nat × Value) → Nat → Option Value
  | [], _ => none
  | q :: t, i => bif Nat.beq q.1 i then some q.2 else ax_at t i
theorem ax_at_spec {b : Nat} {o : Nat → Nat} : ∀ {lv lvc : List (Nat × Value)} {i : Nat} {x : Value}, ax_ls b o lv lvc → ax_at lv i = some x → ∃ v, (i, v) ∈ lvc ∧ ax_v b o x v
  | [], _, _, _, _, h => by cases h
  | q :: t, lvc, i, x, hl, h => by
    obtain ⟨v, t', rfl, h3, h4⟩ := hl
    simp only [ax_at] at h
    cases hq : Nat.beq q.1 i with
    | true =>
      rw [hq] at h
      cases h
      have := Nat.eq_of_beq_eq_true hq
      subst this
      exact ⟨v, List.mem_cons_self, h3⟩
    | false =>
      rw [hq] at h
      obtain ⟨v', h5, h6⟩ := ax_at_spec h4 h
      exact ⟨v', List.mem_cons_of_mem _ h5, h6⟩
def ax_k1 (i : Nat) (q : Nat × Value) : Bool := !(q.1 == i) && !(q.1 + 1 == i && q.2.category == 2)
def ax_k2 (i : Nat) (q : Nat × Value) : Bool := !(q.1 == i) && (!(q.1 == i + 1) && !(q.1 + 1 == i && q.2.category == 2))
def ax_s1 (i : Nat) (x : Value) (lv : List (Nat × Value)) : List (Nat × Value) := (i, x) :: lv.filter (ax_k1 i)
def ax_s2 (i : Nat) (x : Value) (lv : List (Nat × Value)) : List (Nat × Value) := (i, x) :: lv.filter (ax_k2 i)
theorem ax_ls_filter {b : Nat} {o : Nat → Nat} {f : Nat × Value → Bool} (hf : ∀ i x v, ax_v b o x v → f (i, v) = f (i, x)) : ∀ {lv lvc : List (Nat × Value)}, ax_ls b o lv lvc → ax_ls b o (lv.filter f) (lvc.filter f)
  | [], lvc, h => by cases h; rfl
  | q :: t, lvc, h => by
    obtain ⟨v, t', rfl, h3, h4⟩ := h
    have e : f (q.1, v) = f q := hf q.1 q.2 v h3
    cases hq : f q with
    | true =>
      rw [List.filter_cons_of_pos hq, List.filter_cons_of_pos (by rw [e]; exact hq)]
      exact ⟨v, _, rfl, h3, ax_ls_filter hf h4⟩
    | false =>
      rw [List.filter_cons_of_neg (by simp [hq]), List.filter_cons_of_neg (by rw [e]; simp [hq])]
      exact ax_ls_filter hf h4
theorem ax_s1_spec {b : Nat} {o : Nat → Nat} {lv lvc : List (Nat × Value)} {i : Nat} {x v : Value} (h : ax_ls b o lv lvc) (hx : ax_v b o x v) : ax_ls b o (ax_s1 i x lv) (ax_s1 i v lvc) :=
  ⟨v, _, rfl, hx, ax_ls_filter (fun j y w hy => by simp only [ax_k1, ax_v_cat hy]) h⟩
theorem ax_s2_spec {b : Nat} {o : Nat → Nat} {lv lvc : List (Nat × Value)} {i : Nat} {x v : Value} (h : ax_ls b o lv lvc) (hx : ax_v b o x v) : ax_ls b o (ax_s2 i x lv) (ax_s2 i v lvc) :=
  ⟨v, _, rfl, hx, ax_ls_filter (fun j y w hy => by simp only [ax_k2, ax_v_cat hy]) h⟩
theorem ax_args {b : Nat} {o : Nat → Nat} : ∀ {xs vs : List Value} (n : Nat), ax_vs b o xs vs → ax_ls b o (lv_args n xs) (lv_args n vs)
  | [], vs, n, h => by cases h; rfl
  | x :: xs, vs, n, h => by
    obtain ⟨v, t, rfl, h3, h4⟩ := h
    simp only [lv_args, ax_v_cat h3]
    exact ⟨v, _, rfl, h3, ax_args _ h4⟩
theorem ax_sl_len {b : Nat} {o : Nat → Nat} : ∀ {xs vs : List Value}, ax_vs b o xs vs → (lg_sl vs).length = (lg_sl xs).length
  | [], vs, h => by cases h; rfl
  | x :: xs, vs, h => by
    obtain ⟨v, t, rfl, h3, h4⟩ := h
    have := ax_sl_len h4
    simp only [lg_sl, List.flatMap_cons, List.length_append, ax_v_cat h3] at this ⊢
    rw [this]
    split <;> rfl
-- heaps
theorem ax_ad_lt {b a : Nat} {o : Nat → Nat} (h : a < 1000000000) : ax_ad b o a = b + a := by simp [ax_ad, h]
theorem ax_R.lt {D : va_G} {b : Nat} {o : Nat → Nat} {h : ax_H} {H : Heap} (hR : ax_R D b o h H) {k : Nat} {q : Nat × List Value} (hk : h[k]? = some q) : b + k < H.size := by
  obtain ⟨cell, h1, -⟩ := hR.2 k q hk
  exact (Array.getElem?_eq_some_iff.mp h1).1
theorem ax_R.set {D : va_G} {b : Nat} {o : Nat → Nat} {h : ax_H} {H H1 : Heap} (hR : ax_R D b o h H) {a : Nat} {q : Nat × List Value} {cell : Cell} (h1 : H1[b + a]? = some cell) (hz : H1.size = H.size) (ho : ∀ x, x ≠ b + a → H1[x]? = H[x]?) (hc : ax_c D b o q cell) : ax_R D b o (h.set a q) H1 := by
  refine ⟨by rw [hz, hR.1, List.length_set], fun k q' hk => ?_⟩
  by_cases hka : k = a
  · subst hka
    have hl : k < h.length := by
      have := (List.getElem?_eq_some_iff.mp hk).1
      rwa [List.length_set] at this
    rw [List.getElem?_set_self hl] at hk
    cases hk
    exact ⟨cell, h1, hc⟩
  · rw [List.getElem?_set_ne (Ne.symm hka)] at hk
    obtain ⟨c', e1, e2⟩ := hR.2 k q' hk
    exact ⟨c', by rw [ho _ (by omega)]; exact e1, e2⟩
theorem ax_R.push {D : va_G} {b : Nat} {o : Nat → Nat} {h : ax_H} {H H1 : Heap} (hR : ax_R D b o h H) {q : Nat × List Value} {cell : Cell} (h1 : H1[H.size]? = some cell) (hz : H1.size = H.size + 1) (ho : ∀ x, x < H.size → H1[x]? = H[x]?) (hc : ax_c D b o q cell) : ax_R D b o (h ++ [q]) H1 := by
  refine ⟨by rw [hz, hR.1]; simp [Nat.add_assoc], fun k q' hk => ?_⟩
  by_cases hl : k < h.length
  · rw [List.getElem?_append_left hl] at hk
    obtain ⟨c', e1, e2⟩ := hR.2 k q' hk
    exact ⟨c', by rw [ho _ (by rw [hR.1]; omega)]; exact e1, e2⟩
  · rw [List.getElem?_append_right (by omega)] at hk
    have hz2 : k - h.length < 1 := (List.getElem?_eq_some_iff.mp hk).1
    have hk0 : k = h.length := by omega
    subst hk0
    rw [Nat.sub_self] at hk
    cases hk
    exact ⟨cell, by rw [← hR.1]; exact h1, hc⟩
theorem ax_c.set {D : va_G} {b : Nat} {o : Nat → Nat} {t : Nat} {vs : List Value} {cell : Cell} (hc : ax_c D b o (t, vs) cell) (ht : t ≠ 99) (hap : ∀ i j, i < vs.length → j < vs.length → i ≠ j → D.2 t i ≠ D.2 t j) {k : Nat} (hk : k < vs.length) {x v : Value} (hx : ax_v b o x v) : ax_c D b o (t, vs.set k x) (cell.setSlot (D.2 t k) v) := by
  rcases hc with hc | ⟨h1, h2, h3, h4⟩
  · exact absurd hc ht
  refine Or.inr ⟨h1, h2, fun h => by simp only [List.length_set]; rw [k2_slotsz]; exact h3 h, fun j y hj => ?_⟩
  obtain ⟨w, e1, e2⟩ := h4 k _ (List.getElem?_eq_getElem hk)
  have hlt := k2_hasslot e1
  by_cases hjk : j = k
  · subst hjk
    rw [List.getElem?_set_self hk] at hj
    cases hj
    refine ⟨v, ?_, hx⟩
    simp [Cell.setSlot, hlt]
  · rw [List.getElem?_set_ne (Ne.symm hjk)] at hj
    obtain ⟨w2, e3, e4⟩ := h4 j y hj
    have hjl := (List.getElem?_eq_some_iff.mp hj).1
    refine ⟨w2, ?_, e4⟩
    rw [slot_ne _ _ (hap k j hk hjl (Ne.symm hjk))]
    exact e3
end
section
/-! THE TABLES as the abstract machine takes them: classes, arrays, words -/
def ax_tb : List Cond := lw_tbl.filter goodWord
theorem ax_mem {w : Cond} (i : Nat) (h : lw_tbl[i]? = some w) (g : goodWord w = true) : w ∈ ax_tb := List.mem_filter.mpr ⟨List.mem_of_getElem? h, g⟩
theorem ax_good : GoodIn ax_tb ax_tb := fun w h => ⟨h, good_of_word (List.mem_filter.mp h).2⟩
abbrev ax_Cl : Type := String × u_T × Nat × (Nat → FieldType)
def ax_cls : List ax_Cl := [(RX0, TX0, 2, tyX0), (RX1, TX1, 3, tyX1), (RX2, TX2, 2, tyX2), (RX3, TX3, 2, tyX3), (RX4, TX4, 2, tyX4), (RX5, TX5, 1, tyX5), (RX6, TX6, 9, tyX6), (RX7, TX7, 2, tyX7), (RX8, TX8, 18, tyX8), (RX9, TX9, 32, tyX9), (RJ4, TJ4, 4, tyJ4)]
def ax_tys : List FieldType := [.int, .long, .boolean, .byte, .object RX1, .object RX5, .object RX3]
def ax_nwk : Cond → Bool
  | .methodLinkNest .. => true
  | .declares _ => true
  | .castable .. => true
  | _ => false
theorem ax_nw_warm {w : Cond} (h : ax_nwk w = true) {s U : State} (hW : s.WarmedH U.vm) (hw : va_Nw w s) : va_Nw w U := by
  cases w <;> first | (simp [ax_nwk] at h; done) | exact va_Nw.warmM hW hw | exact va_Nw.warmD hW hw | exact va_Nw.warmC hW hw
abbrev ax_O (D : va_G) (b : Nat) (o : Nat → Nat) (r : ax_H) (H : Heap) : Prop := ∀ k q, r[k]? = some q → o k < b ∧ ∃ cell, H[o k]? = some cell ∧ ax_c D b o q cell
/-- static fields that nobody writes -/
def ax_stat : List (String × String × String × Value) := [("PseudoBoolean$ModelSet", "BITS_WITH_VARIABLE", "[J", .ref 1000000000), ("java/lang/String", "COMPACT_STRINGS", "Z", .int 1)]
/-- words that hold but aren't kept by themselves; the texts -/
abbrev ax_NS : Type := List Cond × List (String × Nat × String)
def ax_T (ns : ax_NS) (r : ax_H) (D : va_G) (b : Nat) (o : Nat → Nat) (U : State) : Prop :=
  (∀ (ci : Nat) (q : ax_Cl), ax_cls[ci]? = some q → u_Kn U q.1 q.2.1 q.2.2.1 (D.1 ci) (D.2 ci)) ∧
  (∀ (t : Nat) (ty : FieldType), ax_tys[t]? = some ty → ArrOfT U (D.1 (100 + t)) ty ∧ va_RA U (D.1 (100 + t)) ty ∧ ∀ j, D.2 (100 + t) j = j) ∧
  (∀ w ∈ ns.1, ax_nwk w = true ∧ va_Nw w U) ∧ (∀ q ∈ ns.2, ∃ a, vk_R q.1 q.2.1 q.2.2 a U) ∧
  vx_Zq Bundle.tN "UNASSIGNED_STACK" Bundle.steD (fun q => b ≤ q) U U.heap ∧ vx_Zq Bundle.tN "SUPPRESSED_SENTINEL" Bundle.listD (fun q => b ≤ q) U U.heap ∧
  (∀ q ∈ ax_stat, ∃ v, ax_v b o q.2.2.2 v ∧ va_Z q.1 q.2.1 q.2.2.1 v (fun q => b ≤ q) U U.heap) ∧
  ax_O D b o r U.heap ∧ b ≤ U.heap.size
theorem ax_T.warm {ns : ax_NS} {r : ax_H} {D : va_G} {b : Nat} {o : Nat → Nat} {s U : State} (h : ax_T ns r D b o s) (hW : s.WarmedH U.vm) (hz : s.heap.size ≤ U.heap.size) (hk : ∀ q : Nat, q < s.heap.size → ¬ b ≤ q → U.heap[q]? = s.heap[q]?) : ax_T ns r D b o U := by
  obtain ⟨h1, h2, h3, h4, h5, h6, h7, h8, h9⟩ := h
  have hal := hW.alike
  refine ⟨fun ci q hq => u_Kn_moved hal (h1 ci q hq), fun t ty ht => ?_, fun w hw => ⟨(h3 w hw).1, ax_nw_warm (h3 w hw).1 hW (h3 w hw).2⟩, fun q hq => ?_, (vx_Zq.moved hal h5).kept hk, (vx_Zq.moved hal h6).kept hk, fun q hq => ?_, fun k q hq => ?_, Nat.le_trans h9 hz⟩
  · obtain ⟨a1, a2, a3⟩ := h2 t ty ht
    exact ⟨arrOfT_moved hal a1, a2.moved hal, a3⟩
  · obtain ⟨a, ha⟩ := h4 q hq
    exact ⟨a, ha.warm hW⟩
  · obtain ⟨v, hv, hZ⟩ := h7 q hq
    exact ⟨v, hv, (va_Z.moved hal hZ).kept hk⟩
  · obtain ⟨a1, cell, a2, a3⟩ := h8 k q hq
    exact ⟨a1, cell, by rw [hk _ (by omega) (by omega)]; exact a2, a3⟩
/-! THE FRAME -/
/-- what stands fast while a method's frame is at work -/
def ax_X (ns : ax_NS) (l : Launch) (k : ax_M) (d : Nat) (r : ax_H) (D : va_G) (b : Nat) (o : Nat → Nat) (TC TS : Nat) (p : Program) (R : Room) (s : State) (m : MethodId) (args : Array Value) (meth : Method) (c : Code) : Prop :=
  p.tables.exec = Jvm.exec ∧ c.code = k.2.1 ∧ c.maxLocals = k.2.2.1 ∧ s.vm.findClass k.1.cls = some m.cls ∧ (∀ w ∈ ax_tb, w.before args s = true) ∧ ax_T ns r D b o s ∧ d + 12 ≤ R.frames ∧ 40 * d + 300 ≤ R.locals ∧ TC ≤ R.cells ∧ TS ≤ R.slots ∧ meth.locks = false ∧ meth.name = k.1.name ∧ l.stackTraces = false ∧ c.exceptionTable.toList = tableOf k.2.2.2.2 ∧ s.heap.size + TC < b + 1000000000
def ax_G (nL : Nat) (D : va_G) (b : Nat) (o : Nat → Nat) (TC TS : Nat) (s : State) (lv : List (Nat × Value)) (st : List Value) (h : ax_H) (bc bs : Nat) (lvc : List (Nat × Value)) (ls : Array Slot) (stc : List Value) (H : Heap) (locs : List Loc) (cells slots : Nat) : Prop :=
  lv_has ls nL lvc ∧ ax_ls b o lv lvc ∧ ax_vs b o st stc ∧ ax_R D b o h H ∧ va_S (fun q => b ≤ q) s.heap H locs ∧ cells + bc ≤ TC ∧ slots + bs ≤ TS
/-- from this place, with whatever stands for it, the machine goes on to Z -/
def AC (l : Launch) (nL : Nat) (D : va_G) (b : Nat) (o : Nat → Nat) (TC TS : Nat) (p : Program) (e : Env) (R : Room) (s : State) (m : MethodId) (args : Array Value) (below : List Frame) (meth : Method) (c : Code) (Z : State → Prop) (pc : Nat) (lv : List (Nat × Value)) (st : List Value) (h : ax_H) (bc bs : Nat) : Prop :=
  ∀ (lvc : List (Nat × Value)) (ls : Array Slot) (stc : List Value) (H : Heap) (locs : List Loc) (cells slots : Nat), ax_G nL D b o TC TS s lv st h bc bs lvc ls stc H locs cells slots → W p l e R s m args below meth c H locs cells slots Z (F0 m pc ls stc)
/-- the same where E has been thrown over the frame -/
def ACX (l : Launch) (nL : Nat) (D : va_G) (b : Nat) (o : Nat → Nat) (TC TS : Nat) (p : Program) (e : Env) (R : Room) (s : State) (m : MethodId) (args : Array Value) (below : List Frame) (meth : Method) (c : Code) (Z : State → Prop) (pc : Nat) (lv : List (Nat × Value)) (E : String) (h : ax_H) (bc bs : Nat) : Prop :=
  ∀ (lvc : List (Nat × Value)) (ls : Array Slot) (stc : List Value) (H : Heap) (locs : List Loc) (cells slots : Nat) (q : Addr) (ce : Cell), ax_G nL D b o TC TS s lv [] h bc bs lvc ls [] H locs cells slots → H[q]? = some ce → ce.vm = .none → s.vm.findClass E = some ce.cls → vx_W p l e R s m args below meth c H locs cells slots Z (F0 m pc ls stc) q
abbrev ax_P : Type := Nat → List (Nat × Value) → List Value → ax_H → Nat → Nat → Prop
abbrev ax_PX : Type := Nat → List (Nat × Value) → String → ax_H → Nat → Nat → Prop
/-- the machine gets from this place to one with P, or throws with X -/
def AR (ns : ax_NS) (l : Launch) (k : ax_M) (d : Nat) (r : ax_H) (P : ax_P) (X : ax_PX) (pc : Nat) (lv : List (Nat × Value)) (st : List Value) (h : ax_H) (bc bs : Nat) : Prop :=
  ∀ (D : va_G) (b : Nat) (o : Nat → Nat) (TC TS : Nat) (p : Program) (e : Env) (R : Room) (s : State) (m : MethodId) (args : Array Value) (below : List Frame) (meth : Method) (c : Code) (Z : State → Prop), ax_X ns l k d r D b o TC TS p R s m args meth c →
    (∀ pc lv st h bc bs, P pc lv st h bc bs → AC l k.2.2.1 D b o TC TS p e R s m args below meth c Z pc lv st h bc bs) → (∀ pc lv E h bc bs, X pc lv E h bc bs → ACX l k.2.2.1 D b o TC TS p e R s m args below meth c Z pc lv E h bc bs) → AC l k.2.2.1 D b o TC TS p e R s m args below meth c Z pc lv st h bc bs
theorem ax_size {D : va_G} {b : Nat} {o : Nat → Nat} {TC : Nat} {p : Program} {l : Launch} {e : Env} {R : Room} {s : State} {m : MethodId} {args : Array Value} {below : List Frame} {meth : Method} {c : Code} {Z : State → Prop} {g : JFrame} {h : ax_H} {bc : Nat} {H : Heap} {locs : List Loc} {cells slots : Nat} (hz : s.heap.size + TC < b + 1000000000) (hR : ax_R D b o h H) (hc : cells + bc ≤ TC) (K : h.length < 1000000000 → W p l e R s m args below meth c H locs cells slots Z g) : W p l e R s m args below meth c H locs cells slots Z g := by
  intro T hT X
  refine K ?_ T hT X
  have h1 := X.heapSize
  rw [hT, hR.1] at h1
  omega
section AXR
variable {ns : ax_NS} {l : Launch} {k : ax_M} {d : Nat} {r : ax_H} {P P' : ax_P} {X : ax_PX} {pc : Nat} {lv : List (Nat × Value)} {st : List Value} {h : ax_H} {bc bs : Nat}
theorem AR.at (hp : P pc lv st h bc bs) : AR ns l k d r P X pc lv st h bc bs := fun _ _ _ _ _ _ _ _ _ _ _ _ _ _ _ _ hP _ => hP _ _ _ _ _ _ hp
theorem AR.then (ha : AR ns l k d r P X pc lv st h bc bs) (hb : ∀ pc lv st h bc bs, P pc lv st h bc bs → AR ns l k d r P' X pc lv st h bc bs) : AR ns l k d r P' X pc lv st h bc bs :=
  fun D b o TC TS p e R s m args below meth c Z hX hP hXX => ha D b o TC TS p e R s m args below meth c Z hX (fun pc lv st h bc bs hp => hb pc lv st h bc bs hp D b o TC TS p e R s m args below meth c Z hX hP hXX) hXX
theorem AR.lt {bc' bs' : Nat} (h1 : bc' ≤ bc) (h2 : bs' ≤ bs) (ha : AR ns l k d r P X pc lv st h bc' bs') : AR ns l k d r P X pc lv st h bc bs := by
  intro D b o TC TS p e R s m args below meth c Z hX hP hXX lvc ls stc H locs cells slots hG
  obtain ⟨g1, g2, g3, g4, g5, g6, g7⟩ := hG
  exact ha D b o TC TS p e R s m args below meth c Z hX hP hXX lvc ls stc H locs cells slots ⟨g1, g2, g3, g4, g5, by omega, by omega⟩
end AXR
end
section
/-! RULES of the abstract machine: one instruction each -/
section AXI
variable {ns : ax_NS} {l : Launch} {k : ax_M} {d : Nat} {r : ax_H} {P : ax_P} {X : ax_PX} {pc : Nat} {lv : List (Nat × Value)} {st : List Value} {h : ax_H} {bc bs : Nat}
theorem AR.push0 {n : Nat} {v : Value} (hv : ∀ b o, ax_v b o v v) (hW : ∀ {p : Program} {e : Env} {R : Room} {s : State} {m : MethodId} {args : Array Value} {below : List Frame} {meth : Method} {c : Code} {H : Heap} {locs : List Loc} {cells slots : Nat} {Z : State → Prop} {ls : Array Slot} {rest : List Value}, p.tables.exec = Jvm.exec → c.code = k.2.1 → W p l e R s m args below meth c H locs cells slots Z (F0 m (pc + n) ls (v :: rest)) → W p l e R s m args below meth c H locs cells slots Z (F0 m pc ls rest)) (K : AR ns l k d r P X (pc + n) lv (v :: st) h bc bs) : AR ns l k d r P X pc lv st h bc bs := by
  intro D b o TC TS p e R s m args below meth c Z hX hP hXX lvc ls stc H locs cells slots hG
  have hx := hX.1
  have hb := hX.2.1
  obtain ⟨g1, g2, g3, g4, g5, g6, g7⟩ := hG
  exact hW hx hb (K D b o TC TS p e R s m args below meth c Z hX hP hXX _ _ _ _ _ _ _ ⟨g1, g2, ⟨_, _, rfl, hv b o, g3⟩, g4, g5, g6, g7⟩)
theorem AR.iconst {n : Int} (hd : decode k.2.1 pc = .ok (.iconst n, 1)) (K : AR ns l k d r P X (pc + 1) lv (.int (Int32.ofInt n) :: st) h bc bs) : AR ns l k d r P X pc lv st h bc bs := AR.push0 (v := .int (Int32.ofInt n)) (fun _ _ => rfl) (fun hx hb q => lv_iconst hx hb hd rfl q) K
theorem AR.bipush {n : Int} (hd : decode k.2.1 pc = .ok (.bipush n, 2)) (K : AR ns l k d r P X (pc + 2) lv (.int (Int8.ofInt n).toInt32 :: st) h bc bs) : AR ns l k d r P X pc lv st h bc bs := AR.push0 (v := .int (Int8.ofInt n).toInt32) (fun _ _ => rfl) (fun hx hb q => lv_bipush hx hb hd rfl q) K
theorem AR.sipush {n : Int} (hd : decode k.2.1 pc = .ok (.sipush n, 3)) (K : AR ns l k d r P X (pc + 3) lv (.int (Int16.ofInt n).toInt32 :: st) h bc bs) : AR ns l k d r P X pc lv st h bc bs := AR.push0 (v := .int (Int16.ofInt n).toInt32) (fun _ _ => rfl) (fun hx hb q => lv_sipush hx hb hd rfl q) K
theorem AR.lconst {n : Fin 2} (hd : decode k.2.1 pc = .ok (.lconst n, 1)) (K : AR ns l k d r P X (pc + 1) lv (.long (Int64.ofNat (n : Nat)) :: st) h bc bs) : AR ns l k d r P X pc lv st h bc bs := AR.push0 (v := .long (Int64.ofNat (n : Nat))) (fun _ _ => rfl) (fun hx hb q => lv_lconst hx hb hd rfl q) K
theorem AR.loadI {n i : Nat} {x : Value} (hl : ax_at lv i = some x) (ht : ax_isI x = true) (hW : ∀ {p : Program} {e : Env} {R : Room} {s : State} {m : MethodId} {args : Array Value} {below : List Frame} {meth : Method} {c : Code} {H : Heap} {locs : List Loc} {cells slots : Nat} {Z : State → Prop} {ls : Array Slot} {rest : List Value} {y : Int32}, p.tables.exec = Jvm.exec → c.code = k.2.1 → ls[i]? = some (.val (.int y)) → W p l e R s m args below meth c H locs cells slots Z (F0 m (pc + n) ls (.int y :: rest)) → W p l e R s m args below meth c H locs cells slots Z (F0 m pc ls rest)) (K : AR ns l k d r P X (pc + n) lv (x :: st) h bc bs) : AR ns l k d r P X pc lv st h bc bs := by
  intro D b o TC TS p e R s m args below meth c Z hX hP hXX lvc ls stc H locs cells slots hG
  have hx := hX.1
  have hb := hX.2.1
  obtain ⟨g1, g2, g3, g4, g5, g6, g7⟩ := hG
  obtain ⟨v, hm, hv⟩ := ax_at_spec g2 hl
  obtain ⟨y, rfl⟩ := ax_v_I hv ht
  exact hW hx hb (g1.2.2 _ hm) (K D b o TC TS p e R s m args below meth c Z hX hP hXX _ _ _ _ _ _ _ ⟨g1, g2, ⟨_, _, rfl, hv, g3⟩, g4, g5, g6, g7⟩)
theorem AR.iload_n {j : Fin 4} {x : Value} (hd : decode k.2.1 pc = .ok (.iload_n j, 1)) (hl : ax_at lv (j : Nat) = some x) (ht : ax_isI x = true) (K : AR ns l k d r P X (pc + 1) lv (x :: st) h bc bs) : AR ns l k d r P X pc lv st h bc bs := AR.loadI hl ht (fun hx hb q w => lv_iload_n hx hb hd rfl q w) K
theorem AR.iload {j : Nat} {x : Value} (hd : decode k.2.1 pc = .ok (.iload j, 2)) (hl : ax_at lv j = some x) (ht : ax_isI x = true) (K : AR ns l k d r P X (pc + 2) lv (x :: st) h bc bs) : AR ns l k d r P X pc lv st h bc bs := AR.loadI hl ht (fun hx hb q w => lv_iload hx hb hd q w) K
theorem AR.storeI {n i : Nat} {x : Value} (hn : i < k.2.2.1) (ht : ax_isI x = true) (hW : ∀ {p : Program} {e : Env} {R : Room} {s : State} {m : MethodId} {args : Array Value} {below : List Frame} {meth : Method} {c : Code} {H : Heap} {locs : List Loc} {cells slots : Nat} {Z : State → Prop} {ls : Array Slot} {rest : List Value} {y : Int32} {lv0 : List (Nat × Value)}, p.tables.exec = Jvm.exec → c.code = k.2.1 → lv_has ls k.2.2.1 lv0 → (∀ ls' : Array Slot, lv_has ls' k.2.2.1 (ax_s1 i (.int y) lv0) → W p l e R s m args below meth c H locs cells slots Z (F0 m (pc + n) ls' rest)) → W p l e R s m args below meth c H locs cells slots Z (F0 m pc ls (.int y :: rest))) (K : AR ns l k d r P X (pc + n) (ax_s1 i x lv) st h bc bs) : AR ns l k d r P X pc lv (x :: st) h bc bs := by
  intro D b o TC TS p e R s m args below meth c Z hX hP hXX lvc ls stc H locs cells slots hG
  have hx := hX.1
  have hb := hX.2.1
  obtain ⟨g1, g2, g3, g4, g5, g6, g7⟩ := hG
  obtain ⟨v, t, rfl, hv, hs⟩ := g3
  obtain ⟨y, rfl⟩ := ax_v_I hv ht
  exact hW hx hb g1 (fun ls' h' => K D b o TC TS p e R s m args below meth c Z hX hP hXX _ _ _ _ _ _ _ ⟨h', ax_s1_spec g2 hv, hs, g4, g5, g6, g7⟩)
theorem AR.istore_n {j : Fin 4} {x : Value} (hd : decode k.2.1 pc = .ok (.istore_n j, 1)) (hn : (j : Nat) < k.2.2.1) (ht : ax_isI x = true) (K : AR ns l k d r P X (pc + 1) (ax_s1 (j : Nat) x lv) st h bc bs) : AR ns l k d r P X pc lv (x :: st) h bc bs := AR.storeI hn ht (fun hx hb q w => lv_istore_n hx hb hd rfl q hn rfl w) K
theorem AR.istore {j : Nat} {x : Value} (hd : decode k.2.1 pc = .ok (.istore j, 2)) (hn : j < k.2.2.1) (ht : ax_isI x = true) (K : AR ns l k d r P X (pc + 2) (ax_s1 j x lv) st h bc bs) : AR ns l k d r P X pc lv (x :: st) h bc bs := AR.storeI hn ht (fun hx hb q w => lv_istore hx hb hd q hn rfl w) K
theorem AR.loadL {n i : Nat} {x : Value} (hl : ax_at lv i = some x) (ht : ax_isL x = true) (hW : ∀ {p : Program} {e : Env} {R : Room} {s : State} {m : MethodId} {args : Array Value} {below : List Frame} {meth : Method} {c : Code} {H : Heap} {locs : List Loc} {cells slots : Nat} {Z : State → Prop} {ls : Array Slot} {rest : List Value} {y : Int64}, p.tables.exec = Jvm.exec → c.code = k.2.1 → ls[i]? = some (.val (.long y)) → W p l e R s m args below meth c H locs cells slots Z (F0 m (pc + n) ls (.long y :: rest)) → W p l e R s m args below meth c H locs cells slots Z (F0 m pc ls rest)) (K : AR ns l k d r P X (pc + n) lv (x :: st) h bc bs) : AR ns l k d r P X pc lv st h bc bs := by
  intro D b o TC TS p e R s m args below meth c Z hX hP hXX lvc ls stc H locs cells slots hG
  have hx := hX.1
  have hb := hX.2.1
  obtain ⟨g1, g2, g3, g4, g5, g6, g7⟩ := hG
  obtain ⟨v, hm, hv⟩ := ax_at_spec g2 hl
  obtain ⟨y, rfl⟩ := ax_v_L hv ht
  exact hW hx hb (g1.2.2 _ hm) (K D b o TC TS p e R s m args below meth c Z hX hP hXX _ _ _ _ _ _ _ ⟨g1, g2, ⟨_, _, rfl, hv, g3⟩, g4, g5, g6, g7⟩)
theorem AR.lload_n {j : Fin 4} {x : Value} (hd : decode k.2.1 pc = .ok (.lload_n j, 1)) (hl : ax_at lv (j : Nat) = some x) (ht : ax_isL x = true) (K : AR ns l k d r P X (pc + 1) lv (x :: st) h bc bs) : AR ns l k d r P X pc lv st h bc bs := AR.loadL hl ht (fun hx hb q w => lv_lload_n hx hb hd rfl q w) K
theorem AR.lload {j : Nat} {x : Value} (hd : decode k.2.1 pc = .ok (.lload j, 2)) (hl : ax_at lv j = some x) (ht : ax_isL x = true) (K : AR ns l k d r P X (pc + 2) lv (x :: st) h bc bs) : AR ns l k d r P X pc lv st h bc bs := AR.loadL hl ht (fun hx hb q w => lv_lload hx hb hd q w) K
theorem AR.storeL {n i : Nat} {x : Value} (hn : i + 1 < k.2.2.1) (ht : ax_isL x = true) (hW : ∀ {p : Program} {e : Env} {R : Room} {s : State} {m : MethodId} {args : Array Value} {below : List Frame} {meth : Method} {c : Code} {H : Heap} {locs : List Loc} {cells slots : Nat} {Z : State → Prop} {ls : Array Slot} {rest : List Value} {y : Int64} {lv0 : List (Nat × Value)}, p.tables.exec = Jvm.exec → c.code = k.2.1 → lv_has ls k.2.2.1 lv0 → (∀ ls' : Array Slot, lv_has ls' k.2.2.1 (ax_s2 i (.long y) lv0) → W p l e R s m args below meth c H locs cells slots Z (F0 m (pc + n) ls' rest)) → W p l e R s m args below meth c H locs cells slots Z (F0 m pc ls (.long y :: rest))) (K : AR ns l k d r P X (pc + n) (ax_s2 i x lv) st h bc bs) : AR ns l k d r P X pc lv (x :: st) h bc bs := by
  intro D b o TC TS p e R s m args below meth c Z hX hP hXX lvc ls stc H locs cells slots hG
  have hx := hX.1
  have hb := hX.2.1
  obtain ⟨g1, g2, g3, g4, g5, g6, g7⟩ := hG
  obtain ⟨v, t, rfl, hv, hs⟩ := g3
  obtain ⟨y, rfl⟩ := ax_v_L hv ht
  exact hW hx hb g1 (fun ls' h' => K D b o TC TS p e R s m args below meth c Z hX hP hXX _ _ _ _ _ _ _ ⟨h', ax_s2_spec g2 hv, hs, g4, g5, g6, g7⟩)
theorem AR.lstore_n {j : Fin 4} {x : Value} (hd : decode k.2.1 pc = .ok (.lstore_n j, 1)) (hn : (j : Nat) + 1 < k.2.2.1) (ht : ax_isL x = true) (K : AR ns l k d r P X (pc + 1) (ax_s2 (j : Nat) x lv) st h bc bs) : AR ns l k d r P X pc lv (x :: st) h bc bs := AR.storeL hn ht (fun hx hb q w => lv_lstore_n hx hb hd rfl q hn rfl w) K
theorem AR.lstore {j : Nat} {x : Value} (hd : decode k.2.1 pc = .ok (.lstore j, 2)) (hn : j + 1 < k.2.2.1) (ht : ax_isL x = true) (K : AR ns l k d r P X (pc + 2) (ax_s2 j x lv) st h bc bs) : AR ns l k d r P X pc lv (x :: st) h bc bs := AR.storeL hn ht (fun hx hb q w => lv_lstore hx hb hd q hn rfl w) K
theorem AR.loadA {n i : Nat} {x : Value} (hl : ax_at lv i = some x) (ht : ax_isA x = true) (hW : ∀ {p : Program} {e : Env} {R : Room} {s : State} {m : MethodId} {args : Array Value} {below : List Frame} {meth : Method} {c : Code} {H : Heap} {locs : List Loc} {cells slots : Nat} {Z : State → Prop} {ls : Array Slot} {rest : List Value} {y : Nat}, p.tables.exec = Jvm.exec → c.code = k.2.1 → ls[i]? = some (.val (.ref y)) → W p l e R s m args below meth c H locs cells slots Z (F0 m (pc + n) ls (.ref y :: rest)) → W p l e R s m args below meth c H locs cells slots Z (F0 m pc ls rest)) (K : AR ns l k d r P X (pc + n) lv (x :: st) h bc bs) : AR ns l k d r P X pc lv st h bc bs := by
  intro D b o TC TS p e R s m args below meth c Z hX hP hXX lvc ls stc H locs cells slots hG
  have hx := hX.1
  have hb := hX.2.1
  obtain ⟨g1, g2, g3, g4, g5, g6, g7⟩ := hG
  obtain ⟨v, hm, hv⟩ := ax_at_spec g2 hl
  obtain ⟨y, rfl⟩ := ax_v_A hv ht
  exact hW hx hb (g1.2.2 _ hm) (K D b o TC TS p e R s m args below meth c Z hX hP hXX _ _ _ _ _ _ _ ⟨g1, g2, ⟨_, _, rfl, hv, g3⟩, g4, g5, g6, g7⟩)
theorem AR.aload_n {j : Fin 4} {x : Value} (hd : decode k.2.1 pc = .ok (.aload_n j, 1)) (hl : ax_at lv (j : Nat) = some x) (ht : ax_isA x = true) (K : AR ns l k d r P X (pc + 1) lv (x :: st) h bc bs) : AR ns l k d r P X pc lv st h bc bs := AR.loadA hl ht (fun hx hb q w => lv_aload_n hx hb hd rfl q w) K
theorem AR.aload {j : Nat} {x : Value} (hd : decode k.2.1 pc = .ok (.aload j, 2)) (hl : ax_at lv j = some x) (ht : ax_isA x = true) (K : AR ns l k d r P X (pc + 2) lv (x :: st) h bc bs) : AR ns l k d r P X pc lv st h bc bs := AR.loadA hl ht (fun hx hb q w => lv_aload hx hb hd q w) K
theorem AR.storeA {n i : Nat} {x : Value} (hn : i < k.2.2.1) (ht : ax_isA x = true) (hW : ∀ {p : Program} {e : Env} {R : Room} {s : State} {m : MethodId} {args : Array Value} {below : List Frame} {meth : Method} {c : Code} {H : Heap} {locs : List Loc} {cells slots : Nat} {Z : State → Prop} {ls : Array Slot} {rest : List Value} {y : Nat} {lv0 : List (Nat × Value)}, p.tables.exec = Jvm.exec → c.code = k.2.1 → lv_has ls k.2.2.1 lv0 → (∀ ls' : Array Slot, lv_has ls' k.2.2.1 (ax_s1 i (.ref y) lv0) → W p l e R s m args below meth c H locs cells slots Z (F0 m (pc + n) ls' rest)) → W p l e R s m args below meth c H locs cells slots Z (F0 m pc ls (.ref y :: rest))) (K : AR ns l k d r P X (pc + n) (ax_s1 i x lv) st h bc bs) : AR ns l k d r P X pc lv (x :: st) h bc bs := by
  intro D b o TC TS p e R s m args below meth c Z hX hP hXX lvc ls stc H locs cells slots hG
  have hx := hX.1
  have hb := hX.2.1
  obtain ⟨g1, g2, g3, g4, g5, g6, g7⟩ := hG
  obtain ⟨v, t, rfl, hv, hs⟩ := g3
  obtain ⟨y, rfl⟩ := ax_v_A hv ht
  exact hW hx hb g1 (fun ls' h' => K D b o TC TS p e R s m args below meth c Z hX hP hXX _ _ _ _ _ _ _ ⟨h', ax_s1_spec g2 hv, hs, g4, g5, g6, g7⟩)
theorem AR.astore_n {j : Fin 4} {x : Value} (hd : decode k.2.1 pc = .ok (.astore_n j, 1)) (hn : (j : Nat) < k.2.2.1) (ht : ax_isA x = true) (K : AR ns l k d r P X (pc + 1) (ax_s1 (j : Nat) x lv) st h bc bs) : AR ns l k d r P X pc lv (x :: st) h bc bs := AR.storeA hn ht (fun hx hb q w => lv_astore_n hx hb hd rfl q hn rfl w) K
theorem AR.astore {j : Nat} {x : Value} (hd : decode k.2.1 pc = .ok (.astore j, 2)) (hn : j < k.2.2.1) (ht : ax_isA x = true) (K : AR ns l k d r P X (pc + 2) (ax_s1 j x lv) st h bc bs) : AR ns l k d r P X pc lv (x :: st) h bc bs := AR.storeA hn ht (fun hx hb q w => lv_astore hx hb hd q hn rfl w) K
theorem AR.iinc {j : Nat} {n : Int} {x z : Value} (hd : decode k.2.1 pc = .ok (.iinc j n, 3)) (hn : j < k.2.2.1) (hl : ax_at lv j = some x) (hz : ax_b2 (· + ·) x (.int (Int32.ofInt n)) = some z) (K : AR ns l k d r P X (pc + 3) (ax_s1 j z lv) st h bc bs) : AR ns l k d r P X pc lv st h bc bs := by
  intro D b o TC TS p e R s m args below meth c Z hX hP hXX lvc ls stc H locs cells slots hG
  have hx := hX.1
  have hb := hX.2.1
  obtain ⟨g1, g2, g3, g4, g5, g6, g7⟩ := hG
  obtain ⟨v, hm, hv⟩ := ax_at_spec g2 hl
  obtain ⟨i, i2, rfl, e2, hv2⟩ := ax_b2_spec (b := b) (o := o) hz hv (rfl : ax_v b o (.int (Int32.ofInt n)) (.int (Int32.ofInt n)))
  cases e2
  obtain ⟨q, hq⟩ := List.getElem?_of_mem hm
  exact lv_iinc (lv' := ax_s1 j (.int (i + Int32.ofInt n)) lvc) hx hb hd g1 hq rfl hn rfl (fun ls' h' => K D b o TC TS p e R s m args below meth c Z hX hP hXX _ _ _ _ _ _ _ ⟨h', ax_s1_spec g2 hv2, g3, g4, g5, g6, g7⟩)
theorem AR.r_ib {f : Int32 → Int32 → Int32} {x y z : Value} (hW : ∀ {p : Program} {e : Env} {R : Room} {s : State} {m : MethodId} {args : Array Value} {below : List Frame} {meth : Method} {c : Code} {H : Heap} {locs : List Loc} {cells slots : Nat} {Z : State → Prop} {ls : Array Slot} {rest : List Value} {i : Int32} {j : Int32}, p.tables.exec = Jvm.exec → c.code = k.2.1 → W p l e R s m args below meth c H locs cells slots Z (F0 m (pc + 1) ls (.int (f i j) :: rest)) → W p l e R s m args below meth c H locs cells slots Z (F0 m pc ls (.int j :: .int i :: rest))) (hz : ax_b2 f x y = some z) (K : AR ns l k d r P X (pc + 1) lv (z :: st) h bc bs) : AR ns l k d r P X pc lv (y :: x :: st) h bc bs := by
  intro D b o TC TS p e R s m args below meth c Z hX hP hXX lvc ls stc H locs cells slots hG
  have hx := hX.1
  have hb := hX.2.1
  obtain ⟨g1, g2, g3, g4, g5, g6, g7⟩ := hG
  obtain ⟨v2, t2, rfl, hv2, hs2⟩ := g3
  obtain ⟨v1, t1, rfl, hv1, hs1⟩ := hs2
  obtain ⟨i, j, rfl, rfl, hv⟩ := ax_b2_spec hz hv1 hv2
  exact hW hx hb (K D b o TC TS p e R s m args below meth c Z hX hP hXX _ _ _ _ _ _ _ ⟨g1, g2, ⟨_, _, rfl, hv, hs1⟩, g4, g5, g6, g7⟩)
theorem AR.r_id {f : Int32 → Int32 → Int32} {x y z : Value} (hW : ∀ {p : Program} {e : Env} {R : Room} {s : State} {m : MethodId} {args : Array Value} {below : List Frame} {meth : Method} {c : Code} {H : Heap} {locs : List Loc} {cells slots : Nat} {Z : State → Prop} {ls : Array Slot} {rest : List Value} {i : Int32} {j : Int32}, p.tables.exec = Jvm.exec → c.code = k.2.1 → ¬ j = 0 → W p l e R s m args below meth c H locs cells slots Z (F0 m (pc + 1) ls (.int (f i j) :: rest)) → W p l e R s m args below meth c H locs cells slots Z (F0 m pc ls (.int j :: .int i :: rest))) (hz : ax_d2 f x y = some z) (K : AR ns l k d r P X (pc + 1) lv (z :: st) h bc bs) : AR ns l k d r P X pc lv (y :: x :: st) h bc bs := by
  intro D b o TC TS p e R s m args below meth c Z hX hP hXX lvc ls stc H locs cells slots hG
  have hx := hX.1
  have hb := hX.2.1
  obtain ⟨g1, g2, g3, g4, g5, g6, g7⟩ := hG
  obtain ⟨v2, t2, rfl, hv2, hs2⟩ := g3
  obtain ⟨v1, t1, rfl, hv1, hs1⟩ := hs2
  obtain ⟨i, j, rfl, rfl, hne, hv⟩ := ax_d2_spec hz hv1 hv2
  exact hW hx hb hne (K D b o TC TS p e R s m args below meth c Z hX hP hXX _ _ _ _ _ _ _ ⟨g1, g2, ⟨_, _, rfl, hv, hs1⟩, g4, g5, g6, g7⟩)
theorem AR.r_lb {f : Int64 → Int64 → Int64} {x y z : Value} (hW : ∀ {p : Program} {e : Env} {R : Room} {s : State} {m : MethodId} {args : Array Value} {below : List Frame} {meth : Method} {c : Code} {H : Heap} {locs : List Loc} {cells slots : Nat} {Z : State → Prop} {ls : Array Slot} {rest : List Value} {i : Int64} {j : Int64}, p.tables.exec = Jvm.exec → c.code = k.2.1 → W p l e R s m args below meth c H locs cells slots Z (F0 m (pc + 1) ls (.long (f i j) :: rest)) → W p l e R s m args below meth c H locs cells slots Z (F0 m pc ls (.long j :: .long i :: rest))) (hz : ax_l2 f x y = some z) (K : AR ns l k d r P X (pc + 1) lv (z :: st) h bc bs) : AR ns l k d r P X pc lv (y :: x :: st) h bc bs := by
  intro D b o TC TS p e R s m args below meth c Z hX hP hXX lvc ls stc H locs cells slots hG
  have hx := hX.1
  have hb := hX.2.1
  obtain ⟨g1, g2, g3, g4, g5, g6, g7⟩ := hG
  obtain ⟨v2, t2, rfl, hv2, hs2⟩ := g3
  obtain ⟨v1, t1, rfl, hv1, hs1⟩ := hs2
  obtain ⟨i, j, rfl, rfl, hv⟩ := ax_l2_spec hz hv1 hv2
  exact hW hx hb (K D b o TC TS p e R s m args below meth c Z hX hP hXX _ _ _ _ _ _ _ ⟨g1, g2, ⟨_, _, rfl, hv, hs1⟩, g4, g5, g6, g7⟩)
theorem AR.r_ld {f : Int64 → Int64 → Int64} {x y z : Value} (hW : ∀ {p : Program} {e : Env} {R : Room} {s : State} {m : MethodId} {args : Array Value} {below : List Frame} {meth : Method} {c : Code} {H : Heap} {locs : List Loc} {cells slots : Nat} {Z : State → Prop} {ls : Array Slot} {rest : List Value} {i : Int64} {j : Int64}, p.tables.exec = Jvm.exec → c.code = k.2.1 → ¬ j = 0 → W p l e R s m args below meth c H locs cells slots Z (F0 m (pc + 1) ls (.long (f i j) :: rest)) → W p l e R s m args below meth c H locs cells slots Z (F0 m pc ls (.long j :: .long i :: rest))) (hz : ax_m2 f x y = some z) (K : AR ns l k d r P X (pc + 1) lv (z :: st) h bc bs) : AR ns l k d r P X pc lv (y :: x :: st) h bc bs := by
  intro D b o TC TS p e R s m args below meth c Z hX hP hXX lvc ls stc H locs cells slots hG
  have hx := hX.1
  have hb := hX.2.1
  obtain ⟨g1, g2, g3, g4, g5, g6, g7⟩ := hG
  obtain ⟨v2, t2, rfl, hv2, hs2⟩ := g3
  obtain ⟨v1, t1, rfl, hv1, hs1⟩ := hs2
  obtain ⟨i, j, rfl, rfl, hne, hv⟩ := ax_m2_spec hz hv1 hv2
  exact hW hx hb hne (K D b o TC TS p e R s m args below meth c Z hX hP hXX _ _ _ _ _ _ _ ⟨g1, g2, ⟨_, _, rfl, hv, hs1⟩, g4, g5, g6, g7⟩)
theorem AR.r_li {f : Int64 → Int32 → Int64} {x y z : Value} (hW : ∀ {p : Program} {e : Env} {R : Room} {s : State} {m : MethodId} {args : Array Value} {below : List Frame} {meth : Method} {c : Code} {H : Heap} {locs : List Loc} {cells slots : Nat} {Z : State → Prop} {ls : Array Slot} {rest : List Value} {i : Int64} {j : Int32}, p.tables.exec = Jvm.exec → c.code = k.2.1 → W p l e R s m args below meth c H locs cells slots Z (F0 m (pc + 1) ls (.long (f i j) :: rest)) → W p l e R s m args below meth c H locs cells slots Z (F0 m pc ls (.int j :: .long i :: rest))) (hz : ax_li f x y = some z) (K : AR ns l k d r P X (pc + 1) lv (z :: st) h bc bs) : AR ns l k d r P X pc lv (y :: x :: st) h bc bs := by
  intro D b o TC TS p e R s m args below meth c Z hX hP hXX lvc ls stc H locs cells slots hG
  have hx := hX.1
  have hb := hX.2.1
  obtain ⟨g1, g2, g3, g4, g5, g6, g7⟩ := hG
  obtain ⟨v2, t2, rfl, hv2, hs2⟩ := g3
  obtain ⟨v1, t1, rfl, hv1, hs1⟩ := hs2
  obtain ⟨i, j, rfl, rfl, hv⟩ := ax_li_spec hz hv1 hv2
  exact hW hx hb (K D b o TC TS p e R s m args below meth c Z hX hP hXX _ _ _ _ _ _ _ ⟨g1, g2, ⟨_, _, rfl, hv, hs1⟩, g4, g5, g6, g7⟩)
theorem AR.iadd {x y z : Value} (hd : decode k.2.1 pc = .ok (.iadd, 1)) (hz : ax_b2 (fun i j => i + j) x y = some z) (K : AR ns l k d r P X (pc + 1) lv (z :: st) h bc bs) : AR ns l k d r P X pc lv (y :: x :: st) h bc bs := AR.r_ib (fun hx hb q => lv_iadd hx hb hd q) hz K
theorem AR.isub {x y z : Value} (hd : decode k.2.1 pc = .ok (.isub, 1)) (hz : ax_b2 (fun i j => i - j) x y = some z) (K : AR ns l k d r P X (pc + 1) lv (z :: st) h bc bs) : AR ns l k d r P X pc lv (y :: x :: st) h bc bs := AR.r_ib (fun hx hb q => lv_isub hx hb hd q) hz K
theorem AR.imul {x y z : Value} (hd : decode k.2.1 pc = .ok (.imul, 1)) (hz : ax_b2 (fun i j => i * j) x y = some z) (K : AR ns l k d r P X (pc + 1) lv (z :: st) h bc bs) : AR ns l k d r P X pc lv (y :: x :: st) h bc bs := AR.r_ib (fun hx hb q => lv_imul hx hb hd q) hz K
theorem AR.iand {x y z : Value} (hd : decode k.2.1 pc = .ok (.iand, 1)) (hz : ax_b2 (fun i j => i &&& j) x y = some z) (K : AR ns l k d r P X (pc + 1) lv (z :: st) h bc bs) : AR ns l k d r P X pc lv (y :: x :: st) h bc bs := AR.r_ib (fun hx hb q => lv_iand hx hb hd q) hz K
theorem AR.ior {x y z : Value} (hd : decode k.2.1 pc = .ok (.ior, 1)) (hz : ax_b2 (fun i j => i ||| j) x y = some z) (K : AR ns l k d r P X (pc + 1) lv (z :: st) h bc bs) : AR ns l k d r P X pc lv (y :: x :: st) h bc bs := AR.r_ib (fun hx hb q => lv_ior hx hb hd q) hz K
theorem AR.ixor {x y z : Value} (hd : decode k.2.1 pc = .ok (.ixor, 1)) (hz : ax_b2 (fun i j => i ^^^ j) x y = some z) (K : AR ns l k d r P X (pc + 1) lv (z :: st) h bc bs) : AR ns l k d r P X pc lv (y :: x :: st) h bc bs := AR.r_ib (fun hx hb q => lv_ixor hx hb hd q) hz K
theorem AR.ishl {x y z : Value} (hd : decode k.2.1 pc = .ok (.ishl, 1)) (hz : ax_b2 (fun i j => i <<< (j &&& 31)) x y = some z) (K : AR ns l k d r P X (pc + 1) lv (z :: st) h bc bs) : AR ns l k d r P X pc lv (y :: x :: st) h bc bs := AR.r_ib (fun hx hb q => lv_ishl hx hb hd q) hz K
theorem AR.ishr {x y z : Value} (hd : decode k.2.1 pc = .ok (.ishr, 1)) (hz : ax_b2 (fun i j => i >>> (j &&& 31)) x y = some z) (K : AR ns l k d r P X (pc + 1) lv (z :: st) h bc bs) : AR ns l k d r P X pc lv (y :: x :: st) h bc bs := AR.r_ib (fun hx hb q => lv_ishr hx hb hd q) hz K
theorem AR.iushr {x y z : Value} (hd : decode k.2.1 pc = .ok (.iushr, 1)) (hz : ax_b2 (fun i j => (i.toUInt32 >>> (j.toUInt32 &&& Int32.toUInt32 31)).toInt32) x y = some z) (K : AR ns l k d r P X (pc + 1) lv (z :: st) h bc bs) : AR ns l k d r P X pc lv (y :: x :: st) h bc bs := AR.r_ib (fun hx hb q => lv_iushr hx hb hd rfl q) hz K
theorem AR.ladd {x y z : Value} (hd : decode k.2.1 pc = .ok (.ladd, 1)) (hz : ax_l2 (fun i j => i + j) x y = some z) (K : AR ns l k d r P X (pc + 1) lv (z :: st) h bc bs) : AR ns l k d r P X pc lv (y :: x :: st) h bc bs := AR.r_lb (fun hx hb q => lv_ladd hx hb hd q) hz K
theorem AR.lsub {x y z : Value} (hd : decode k.2.1 pc = .ok (.lsub, 1)) (hz : ax_l2 (fun i j => i - j) x y = some z) (K : AR ns l k d r P X (pc + 1) lv (z :: st) h bc bs) : AR ns l k d r P X pc lv (y :: x :: st) h bc bs := AR.r_lb (fun hx hb q => lv_lsub hx hb hd q) hz K
theorem AR.lmul {x y z : Value} (hd : decode k.2.1 pc = .ok (.lmul, 1)) (hz : ax_l2 (fun i j => i * j) x y = some z) (K : AR ns l k d r P X (pc + 1) lv (z :: st) h bc bs) : AR ns l k d r P X pc lv (y :: x :: st) h bc bs := AR.r_lb (fun hx hb q => lv_lmul hx hb hd q) hz K
theorem AR.land {x y z : Value} (hd : decode k.2.1 pc = .ok (.land, 1)) (hz : ax_l2 (fun i j => i &&& j) x y = some z) (K : AR ns l k d r P X (pc + 1) lv (z :: st) h bc bs) : AR ns l k d r P X pc lv (y :: x :: st) h bc bs := AR.r_lb (fun hx hb q => lv_land hx hb hd q) hz K
theorem AR.lor {x y z : Value} (hd : decode k.2.1 pc = .ok (.lor, 1)) (hz : ax_l2 (fun i j => i ||| j) x y = some z) (K : AR ns l k d r P X (pc + 1) lv (z :: st) h bc bs) : AR ns l k d r P X pc lv (y :: x :: st) h bc bs := AR.r_lb (fun hx hb q => lv_lor hx hb hd q) hz K
theorem AR.lxor {x y z : Value} (hd : decode k.2.1 pc = .ok (.lxor, 1)) (hz : ax_l2 (fun i j => i ^^^ j) x y = some z) (K : AR ns l k d r P X (pc + 1) lv (z :: st) h bc bs) : AR ns l k d r P X pc lv (y :: x :: st) h bc bs := AR.r_lb (fun hx hb q => lv_lxor hx hb hd q) hz K
theorem AR.lshl {x y z : Value} (hd : decode k.2.1 pc = .ok (.lshl, 1)) (hz : ax_li (fun i j => i <<< (j.toInt64 &&& 63)) x y = some z) (K : AR ns l k d r P X (pc + 1) lv (z :: st) h bc bs) : AR ns l k d r P X pc lv (y :: x :: st) h bc bs := AR.r_li (fun hx hb q => lv_lshl hx hb hd rfl q) hz K
theorem AR.lshr {x y z : Value} (hd : decode k.2.1 pc = .ok (.lshr, 1)) (hz : ax_li (fun i j => i >>> (j.toInt64 &&& 63)) x y = some z) (K : AR ns l k d r P X (pc + 1) lv (z :: st) h bc bs) : AR ns l k d r P X pc lv (y :: x :: st) h bc bs := AR.r_li (fun hx hb q => lv_lshr hx hb hd rfl q) hz K
theorem AR.lushr {x y z : Value} (hd : decode k.2.1 pc = .ok (.lushr, 1)) (hz : ax_li (fun i j => (i.toUInt64 >>> (j.toInt64.toUInt64 &&& Int64.toUInt64 63)).toInt64) x y = some z) (K : AR ns l k d r P X (pc + 1) lv (z :: st) h bc bs) : AR ns l k d r P X pc lv (y :: x :: st) h bc bs := AR.r_li (fun hx hb q => lv_lushr hx hb hd rfl q) hz K
theorem AR.idiv {x y z : Value} (hd : decode k.2.1 pc = .ok (.idiv, 1)) (hz : ax_d2 (fun i j => i / j) x y = some z) (K : AR ns l k d r P X (pc + 1) lv (z :: st) h bc bs) : AR ns l k d r P X pc lv (y :: x :: st) h bc bs := AR.r_id (fun hx hb hne q => lv_idiv hx hb hd hne q) hz K
theorem AR.irem {x y z : Value} (hd : decode k.2.1 pc = .ok (.irem, 1)) (hz : ax_d2 (fun i j => i - i / j * j) x y = some z) (K : AR ns l k d r P X (pc + 1) lv (z :: st) h bc bs) : AR ns l k d r P X pc lv (y :: x :: st) h bc bs := AR.r_id (fun hx hb hne q => lv_irem hx hb hd hne q) hz K
theorem AR.ldiv {x y z : Value} (hd : decode k.2.1 pc = .ok (.ldiv, 1)) (hz : ax_m2 (fun i j => i / j) x y = some z) (K : AR ns l k d r P X (pc + 1) lv (z :: st) h bc bs) : AR ns l k d r P X pc lv (y :: x :: st) h bc bs := AR.r_ld (fun hx hb hne q => lv_ldiv hx hb hd hne q) hz K
theorem AR.lrem {x y z : Value} (hd : decode k.2.1 pc = .ok (.lrem, 1)) (hz : ax_m2 (fun i j => i - i / j * j) x y = some z) (K : AR ns l k d r P X (pc + 1) lv (z :: st) h bc bs) : AR ns l k d r P X pc lv (y :: x :: st) h bc bs := AR.r_ld (fun hx hb hne q => lv_lrem hx hb hd hne q) hz K
theorem AR.ineg {x z : Value} (hd : decode k.2.1 pc = .ok (.ineg, 1)) (hz : ax_u1 (fun i => -i) x = some z) (K : AR ns l k d r P X (pc + 1) lv (z :: st) h bc bs) : AR ns l k d r P X pc lv (x :: st) h bc bs := by
  intro D b o TC TS p e R s m args below meth c Z hX hP hXX lvc ls stc H locs cells slots hG
  have hx := hX.1
  have hb := hX.2.1
  obtain ⟨g1, g2, g3, g4, g5, g6, g7⟩ := hG
  obtain ⟨v1, t1, rfl, hv1, hs1⟩ := g3
  obtain ⟨i, rfl, hv⟩ := ax_u1_spec hz hv1
  exact lv_ineg hx hb hd (K D b o TC TS p e R s m args below meth c Z hX hP hXX _ _ _ _ _ _ _ ⟨g1, g2, ⟨_, _, rfl, hv, hs1⟩, g4, g5, g6, g7⟩)
theorem AR.lneg {x z : Value} (hd : decode k.2.1 pc = .ok (.lneg, 1)) (hz : ax_ul (fun i => -i) x = some z) (K : AR ns l k d r P X (pc + 1) lv (z :: st) h bc bs) : AR ns l k d r P X pc lv (x :: st) h bc bs := by
  intro D b o TC TS p e R s m args below meth c Z hX hP hXX lvc ls stc H locs cells slots hG
  have hx := hX.1
  have hb := hX.2.1
  obtain ⟨g1, g2, g3, g4, g5, g6, g7⟩ := hG
  obtain ⟨v1, t1, rfl, hv1, hs1⟩ := g3
  obtain ⟨i, rfl, hv⟩ := ax_ul_spec hz hv1
  exact lv_lneg hx hb hd (K D b o TC TS p e R s m args below meth c Z hX hP hXX _ _ _ _ _ _ _ ⟨g1, g2, ⟨_, _, rfl, hv, hs1⟩, g4, g5, g6, g7⟩)
theorem AR.i2l {x z : Value} (hd : decode k.2.1 pc = .ok (.i2l, 1)) (hz : ax_i2l x = some z) (K : AR ns l k d r P X (pc + 1) lv (z :: st) h bc bs) : AR ns l k d r P X pc lv (x :: st) h bc bs := by
  intro D b o TC TS p e R s m args below meth c Z hX hP hXX lvc ls stc H locs cells slots hG
  have hx := hX.1
  have hb := hX.2.1
  obtain ⟨g1, g2, g3, g4, g5, g6, g7⟩ := hG
  obtain ⟨v1, t1, rfl, hv1, hs1⟩ := g3
  obtain ⟨i, rfl, hv⟩ := ax_i2l_spec hz hv1
  exact lv_i2l hx hb hd rfl (K D b o TC TS p e R s m args below meth c Z hX hP hXX _ _ _ _ _ _ _ ⟨g1, g2, ⟨_, _, rfl, hv, hs1⟩, g4, g5, g6, g7⟩)
theorem AR.l2i {x z : Value} (hd : decode k.2.1 pc = .ok (.l2i, 1)) (hz : ax_l2i x = some z) (K : AR ns l k d r P X (pc + 1) lv (z :: st) h bc bs) : AR ns l k d r P X pc lv (x :: st) h bc bs := by
  intro D b o TC TS p e R s m args below meth c Z hX hP hXX lvc ls stc H locs cells slots hG
  have hx := hX.1
  have hb := hX.2.1
  obtain ⟨g1, g2, g3, g4, g5, g6, g7⟩ := hG
  obtain ⟨v1, t1, rfl, hv1, hs1⟩ := g3
  obtain ⟨i, rfl, hv⟩ := ax_l2i_spec hz hv1
  exact lv_l2i hx hb hd rfl (K D b o TC TS p e R s m args below meth c Z hX hP hXX _ _ _ _ _ _ _ ⟨g1, g2, ⟨_, _, rfl, hv, hs1⟩, g4, g5, g6, g7⟩)
theorem AR.i2c {x z : Value} (hd : decode k.2.1 pc = .ok (.i2c, 1)) (hz : ax_u1 (fun i => (i.toUInt32 % 65536).toInt32) x = some z) (K : AR ns l k d r P X (pc + 1) lv (z :: st) h bc bs) : AR ns l k d r P X pc lv (x :: st) h bc bs := by
  intro D b o TC TS p e R s m args below meth c Z hX hP hXX lvc ls stc H locs cells slots hG
  have hx := hX.1
  have hb := hX.2.1
  obtain ⟨g1, g2, g3, g4, g5, g6, g7⟩ := hG
  obtain ⟨v1, t1, rfl, hv1, hs1⟩ := g3
  obtain ⟨i, rfl, hv⟩ := ax_u1_spec hz hv1
  exact lv_i2c hx hb hd rfl (K D b o TC TS p e R s m args below meth c Z hX hP hXX _ _ _ _ _ _ _ ⟨g1, g2, ⟨_, _, rfl, hv, hs1⟩, g4, g5, g6, g7⟩)
theorem AR.i2b {x z : Value} (hd : decode k.2.1 pc = .ok (.i2b, 1)) (hz : ax_u1 (fun i => i.toInt8.toInt32) x = some z) (K : AR ns l k d r P X (pc + 1) lv (z :: st) h bc bs) : AR ns l k d r P X pc lv (x :: st) h bc bs := by
  intro D b o TC TS p e R s m args below meth c Z hX hP hXX lvc ls stc H locs cells slots hG
  have hx := hX.1
  have hb := hX.2.1
  obtain ⟨g1, g2, g3, g4, g5, g6, g7⟩ := hG
  obtain ⟨v1, t1, rfl, hv1, hs1⟩ := g3
  obtain ⟨i, rfl, hv⟩ := ax_u1_spec hz hv1
  exact lv_i2b hx hb hd rfl (K D b o TC TS p e R s m args below meth c Z hX hP hXX _ _ _ _ _ _ _ ⟨g1, g2, ⟨_, _, rfl, hv, hs1⟩, g4, g5, g6, g7⟩)
theorem AR.lcmp {x y z : Value} (hd : decode k.2.1 pc = .ok (.lcmp, 1)) (hz : ax_lc x y = some z) (K : AR ns l k d r P X (pc + 1) lv (z :: st) h bc bs) : AR ns l k d r P X pc lv (y :: x :: st) h bc bs := by
  intro D b o TC TS p e R s m args below meth c Z hX hP hXX lvc ls stc H locs cells slots hG
  have hx := hX.1
  have hb := hX.2.1
  obtain ⟨g1, g2, g3, g4, g5, g6, g7⟩ := hG
  obtain ⟨v2, t2, rfl, hv2, hs2⟩ := g3
  obtain ⟨v1, t1, rfl, hv1, hs1⟩ := hs2
  obtain ⟨i, j, rfl, rfl, hv⟩ := ax_lc_spec hz hv1 hv2
  exact W.lcmp hx hb hd (K D b o TC TS p e R s m args below meth c Z hX hP hXX _ _ _ _ _ _ _ ⟨g1, g2, ⟨_, _, rfl, hv, hs1⟩, g4, g5, g6, g7⟩)
theorem AR.dup {x : Value} (hd : decode k.2.1 pc = .ok (.dup, 1)) (hc : x.category = 1) (K : AR ns l k d r P X (pc + 1) lv (x :: x :: st) h bc bs) : AR ns l k d r P X pc lv (x :: st) h bc bs := by
  intro D b o TC TS p e R s m args below meth c Z hX hP hXX lvc ls stc H locs cells slots hG
  have hx := hX.1
  have hb := hX.2.1
  obtain ⟨g1, g2, g3, g4, g5, g6, g7⟩ := hG
  obtain ⟨v1, t1, rfl, hv1, hs1⟩ := g3
  exact lv_dup hx hb hd ((ax_v_cat hv1).trans hc) (K D b o TC TS p e R s m args below meth c Z hX hP hXX _ _ _ _ _ _ _ ⟨g1, g2, ⟨_, _, rfl, hv1, _, _, rfl, hv1, hs1⟩, g4, g5, g6, g7⟩)
theorem AR.pop {x : Value} (hd : decode k.2.1 pc = .ok (.pop, 1)) (hc : x.category = 1) (K : AR ns l k d r P X (pc + 1) lv st h bc bs) : AR ns l k d r P X pc lv (x :: st) h bc bs := by
  intro D b o TC TS p e R s m args below meth c Z hX hP hXX lvc ls stc H locs cells slots hG
  have hx := hX.1
  have hb := hX.2.1
  obtain ⟨g1, g2, g3, g4, g5, g6, g7⟩ := hG
  obtain ⟨v1, t1, rfl, hv1, hs1⟩ := g3
  exact lv_pop hx hb hd ((ax_v_cat hv1).trans hc) (K D b o TC TS p e R s m args below meth c Z hX hP hXX _ _ _ _ _ _ _ ⟨g1, g2, hs1, g4, g5, g6, g7⟩)
theorem AR.dup2 {x y : Value} (hd : decode k.2.1 pc = .ok (.dup2, 1)) (hc : x.category = 1) (hc2 : y.category = 1) (K : AR ns l k d r P X (pc + 1) lv (x :: y :: x :: y :: st) h bc bs) : AR ns l k d r P X pc lv (x :: y :: st) h bc bs := by
  intro D b o TC TS p e R s m args below meth c Z hX hP hXX lvc ls stc H locs cells slots hG
  have hx := hX.1
  have hb := hX.2.1
  obtain ⟨g1, g2, g3, g4, g5, g6, g7⟩ := hG
  obtain ⟨v1, t1, rfl, hv1, hs1⟩ := g3
  obtain ⟨v2, t2, rfl, hv2, hs2⟩ := hs1
  exact lv_dup2_11 hx hb hd ((ax_v_cat hv1).trans hc) ((ax_v_cat hv2).trans hc2) (K D b o TC TS p e R s m args below meth c Z hX hP hXX _ _ _ _ _ _ _ ⟨g1, g2, ⟨_, _, rfl, hv1, _, _, rfl, hv2, _, _, rfl, hv1, _, _, rfl, hv2, hs2⟩, g4, g5, g6, g7⟩)
theorem AR.if_eq {x : Int32} {off : Int} {tgt : Nat} (hd : decode k.2.1 pc = .ok (.ifCond .eq off, 3)) (ht : (pc : Int) + off = (tgt : Int)) (kt : x = 0 → AR ns l k d r P X tgt lv st h bc bs) (kf : ¬ (x = 0) → AR ns l k d r P X (pc + 3) lv st h bc bs) : AR ns l k d r P X pc lv (.int x :: st) h bc bs := by
  intro D b o TC TS p e R s m args below meth c Z hX hP hXX lvc ls stc H locs cells slots hG
  have hx := hX.1
  have hb := hX.2.1
  obtain ⟨g1, g2, g3, g4, g5, g6, g7⟩ := hG
  obtain ⟨v1, t1, rfl, hv1, hs1⟩ := g3
  cases hv1
  exact lv_if_eq hx hb hd ht (fun hc => kt hc D b o TC TS p e R s m args below meth c Z hX hP hXX _ _ _ _ _ _ _ ⟨g1, g2, hs1, g4, g5, g6, g7⟩) (fun hc => kf hc D b o TC TS p e R s m args below meth c Z hX hP hXX _ _ _ _ _ _ _ ⟨g1, g2, hs1, g4, g5, g6, g7⟩)
theorem AR.icmp_eq {x y : Int32} {off : Int} {tgt : Nat} (hd : decode k.2.1 pc = .ok (.if_icmp .eq off, 3)) (ht : (pc : Int) + off = (tgt : Int)) (kt : x = y → AR ns l k d r P X tgt lv st h bc bs) (kf : ¬ (x = y) → AR ns l k d r P X (pc + 3) lv st h bc bs) : AR ns l k d r P X pc lv (.int y :: .int x :: st) h bc bs := by
  intro D b o TC TS p e R s m args below meth c Z hX hP hXX lvc ls stc H locs cells slots hG
  have hx := hX.1
  have hb := hX.2.1
  obtain ⟨g1, g2, g3, g4, g5, g6, g7⟩ := hG
  obtain ⟨v1, t1, rfl, hv1, hs1⟩ := g3
  obtain ⟨v2, t2, rfl, hv2, hs2⟩ := hs1
  cases hv1
  cases hv2
  exact lv_icmp_eq hx hb hd ht (fun hc => kt hc D b o TC TS p e R s m args below meth c Z hX hP hXX _ _ _ _ _ _ _ ⟨g1, g2, hs2, g4, g5, g6, g7⟩) (fun hc => kf hc D b o TC TS p e R s m args below meth c Z hX hP hXX _ _ _ _ _ _ _ ⟨g1, g2, hs2, g4, g5, g6, g7⟩)
theorem AR.if_ne {x : Int32} {off : Int} {tgt : Nat} (hd : decode k.2.1 pc = .ok (.ifCond .ne off, 3)) (ht : (pc : Int) + off = (tgt : Int)) (kt : ¬ x = 0 → AR ns l k d r P X tgt lv st h bc bs) (kf : x = 0 → AR ns l k d r P X (pc + 3) lv st h bc bs) : AR ns l k d r P X pc lv (.int x :: st) h bc bs := by
  intro D b o TC TS p e R s m args below meth c Z hX hP hXX lvc ls stc H locs cells slots hG
  have hx := hX.1
  have hb := hX.2.1
  obtain ⟨g1, g2, g3, g4, g5, g6, g7⟩ := hG
  obtain ⟨v1, t1, rfl, hv1, hs1⟩ := g3
  cases hv1
  exact lv_if_ne hx hb hd ht (fun hc => kt hc D b o TC TS p e R s m args below meth c Z hX hP hXX _ _ _ _ _ _ _ ⟨g1, g2, hs1, g4, g5, g6, g7⟩) (fun hc => kf hc D b o TC TS p e R s m args below meth c Z hX hP hXX _ _ _ _ _ _ _ ⟨g1, g2, hs1, g4, g5, g6, g7⟩)
theorem AR.icmp_ne {x y : Int32} {off : Int} {tgt : Nat} (hd : decode k.2.1 pc = .ok (.if_icmp .ne off, 3)) (ht : (pc : Int) + off = (tgt : Int)) (kt : ¬ x = y → AR ns l k d r P X tgt lv st h bc bs) (kf : x = y → AR ns l k d r P X (pc + 3) lv st h bc bs) : AR ns l k d r P X pc lv (.int y :: .int x :: st) h bc bs := by
  intro D b o TC TS p e R s m args below meth c Z hX hP hXX lvc ls stc H locs cells slots hG
  have hx := hX.1
  have hb := hX.2.1
  obtain ⟨g1, g2, g3, g4, g5, g6, g7⟩ := hG
  obtain ⟨v1, t1, rfl, hv1, hs1⟩ := g3
  obtain ⟨v2, t2, rfl, hv2, hs2⟩ := hs1
  cases hv1
  cases hv2
  exact lv_icmp_ne hx hb hd ht (fun hc => kt hc D b o TC TS p e R s m args below meth c Z hX hP hXX _ _ _ _ _ _ _ ⟨g1, g2, hs2, g4, g5, g6, g7⟩) (fun hc => kf hc D b o TC TS p e R s m args below meth c Z hX hP hXX _ _ _ _ _ _ _ ⟨g1, g2, hs2, g4, g5, g6, g7⟩)
theorem AR.if_lt {x : Int32} {off : Int} {tgt : Nat} (hd : decode k.2.1 pc = .ok (.ifCond .lt off, 3)) (ht : (pc : Int) + off = (tgt : Int)) (kt : x < 0 → AR ns l k d r P X tgt lv st h bc bs) (kf : ¬ (x < 0) → AR ns l k d r P X (pc + 3) lv st h bc bs) : AR ns l k d r P X pc lv (.int x :: st) h bc bs := by
  intro D b o TC TS p e R s m args below meth c Z hX hP hXX lvc ls stc H locs cells slots hG
  have hx := hX.1
  have hb := hX.2.1
  obtain ⟨g1, g2, g3, g4, g5, g6, g7⟩ := hG
  obtain ⟨v1, t1, rfl, hv1, hs1⟩ := g3
  cases hv1
  exact lv_if_lt hx hb hd ht (fun hc => kt hc D b o TC TS p e R s m args below meth c Z hX hP hXX _ _ _ _ _ _ _ ⟨g1, g2, hs1, g4, g5, g6, g7⟩) (fun hc => kf hc D b o TC TS p e R s m args below meth c Z hX hP hXX _ _ _ _ _ _ _ ⟨g1, g2, hs1, g4, g5, g6, g7⟩)
theorem AR.icmp_lt {x y : Int32} {off : Int} {tgt : Nat} (hd : decode k.2.1 pc = .ok (.if_icmp .lt off, 3)) (ht : (pc : Int) + off = (tgt : Int)) (kt : x < y → AR ns l k d r P X tgt lv st h bc bs) (kf : ¬ (x < y) → AR ns l k d r P X (pc + 3) lv st h bc bs) : AR ns l k d r P X pc lv (.int y :: .int x :: st) h bc bs := by
  intro D b o TC TS p e R s m args below meth c Z hX hP hXX lvc ls stc H locs cells slots hG
  have hx := hX.1
  have hb := hX.2.1
  obtain ⟨g1, g2, g3, g4, g5, g6, g7⟩ := hG
  obtain ⟨v1, t1, rfl, hv1, hs1⟩ := g3
  obtain ⟨v2, t2, rfl, hv2, hs2⟩ := hs1
  cases hv1
  cases hv2
  exact lv_icmp_lt hx hb hd ht (fun hc => kt hc D b o TC TS p e R s m args below meth c Z hX hP hXX _ _ _ _ _ _ _ ⟨g1, g2, hs2, g4, g5, g6, g7⟩) (fun hc => kf hc D b o TC TS p e R s m args below meth c Z hX hP hXX _ _ _ _ _ _ _ ⟨g1, g2, hs2, g4, g5, g6, g7⟩)
theorem AR.if_ge {x : Int32} {off : Int} {tgt : Nat} (hd : decode k.2.1 pc = .ok (.ifCond .ge off, 3)) (ht : (pc : Int) + off = (tgt : Int)) (kt : 0 ≤ x → AR ns l k d r P X tgt lv st h bc bs) (kf : ¬ (0 ≤ x) → AR ns l k d r P X (pc + 3) lv st h bc bs) : AR ns l k d r P X pc lv (.int x :: st) h bc bs := by
  intro D b o TC TS p e R s m args below meth c Z hX hP hXX lvc ls stc H locs cells slots hG
  have hx := hX.1
  have hb := hX.2.1
  obtain ⟨g1, g2, g3, g4, g5, g6, g7⟩ := hG
  obtain ⟨v1, t1, rfl, hv1, hs1⟩ := g3
  cases hv1
  exact lv_if_ge hx hb hd ht (fun hc => kt hc D b o TC TS p e R s m args below meth c Z hX hP hXX _ _ _ _ _ _ _ ⟨g1, g2, hs1, g4, g5, g6, g7⟩) (fun hc => kf hc D b o TC TS p e R s m args below meth c Z hX hP hXX _ _ _ _ _ _ _ ⟨g1, g2, hs1, g4, g5, g6, g7⟩)
theorem AR.icmp_ge {x y : Int32} {off : Int} {tgt : Nat} (hd : decode k.2.1 pc = .ok (.if_icmp .ge off, 3)) (ht : (pc : Int) + off = (tgt : Int)) (kt : y ≤ x → AR ns l k d r P X tgt lv st h bc bs) (kf : ¬ (y ≤ x) → AR ns l k d r P X (pc + 3) lv st h bc bs) : AR ns l k d r P X pc lv (.int y :: .int x :: st) h bc bs := by
  intro D b o TC TS p e R s m args below meth c Z hX hP hXX lvc ls stc H locs cells slots hG
  have hx := hX.1
  have hb := hX.2.1
  obtain ⟨g1, g2, g3, g4, g5, g6, g7⟩ := hG
  obtain ⟨v1, t1, rfl, hv1, hs1⟩ := g3
  obtain ⟨v2, t2, rfl, hv2, hs2⟩ := hs1
  cases hv1
  cases hv2
  exact lv_icmp_ge hx hb hd ht (fun hc => kt hc D b o TC TS p e R s m args below meth c Z hX hP hXX _ _ _ _ _ _ _ ⟨g1, g2, hs2, g4, g5, g6, g7⟩) (fun hc => kf hc D b o TC TS p e R s m args below meth c Z hX hP hXX _ _ _ _ _ _ _ ⟨g1, g2, hs2, g4, g5, g6, g7⟩)
theorem AR.if_gt {x : Int32} {off : Int} {tgt : Nat} (hd : decode k.2.1 pc = .ok (.ifCond .gt off, 3)) (ht : (pc : Int) + off = (tgt : Int)) (kt : 0 < x → AR ns l k d r P X tgt lv st h bc bs) (kf : ¬ (0 < x) → AR ns l k d r P X (pc + 3) lv st h bc bs) : AR ns l k d r P X pc lv (.int x :: st) h bc bs := by
  intro D b o TC TS p e R s m args below meth c Z hX hP hXX lvc ls stc H locs cells slots hG
  have hx := hX.1
  have hb := hX.2.1
  obtain ⟨g1, g2, g3, g4, g5, g6, g7⟩ := hG
  obtain ⟨v1, t1, rfl, hv1, hs1⟩ := g3
  cases hv1
  exact lv_if_gt hx hb hd ht (fun hc => kt hc D b o TC TS p e R s m args below meth c Z hX hP hXX _ _ _ _ _ _ _ ⟨g1, g2, hs1, g4, g5, g6, g7⟩) (fun hc => kf hc D b o TC TS p e R s m args below meth c Z hX hP hXX _ _ _ _ _ _ _ ⟨g1, g2, hs1, g4, g5, g6, g7⟩)
theorem AR.icmp_gt {x y : Int32} {off : Int} {tgt : Nat} (hd : decode k.2.1 pc = .ok (.if_icmp .gt off, 3)) (ht : (pc : Int) + off = (tgt : Int)) (kt : y < x → AR ns l k d r P X tgt lv st h bc bs) (kf : ¬ (y < x) → AR ns l k d r P X (pc + 3) lv st h bc bs) : AR ns l k d r P X pc lv (.int y :: .int x :: st) h bc bs := by
  intro D b o TC TS p e R s m args below meth c Z hX hP hXX lvc ls stc H locs cells slots hG
  have hx := hX.1
  have hb := hX.2.1
  obtain ⟨g1, g2, g3, g4, g5, g6, g7⟩ := hG
  obtain ⟨v1, t1, rfl, hv1, hs1⟩ := g3
  obtain ⟨v2, t2, rfl, hv2, hs2⟩ := hs1
  cases hv1
  cases hv2
  exact lv_icmp_gt hx hb hd ht (fun hc => kt hc D b o TC TS p e R s m args below meth c Z hX hP hXX _ _ _ _ _ _ _ ⟨g1, g2, hs2, g4, g5, g6, g7⟩) (fun hc => kf hc D b o TC TS p e R s m args below meth c Z hX hP hXX _ _ _ _ _ _ _ ⟨g1, g2, hs2, g4, g5, g6, g7⟩)
theorem AR.if_le {x : Int32} {off : Int} {tgt : Nat} (hd : decode k.2.1 pc = .ok (.ifCond .le off, 3)) (ht : (pc : Int) + off = (tgt : Int)) (kt : x ≤ 0 → AR ns l k d r P X tgt lv st h bc bs) (kf : ¬ (x ≤ 0) → AR ns l k d r P X (pc + 3) lv st h bc bs) : AR ns l k d r P X pc lv (.int x :: st) h bc bs := by
  intro D b o TC TS p e R s m args below meth c Z hX hP hXX lvc ls stc H locs cells slots hG
  have hx := hX.1
  have hb := hX.2.1
  obtain ⟨g1, g2, g3, g4, g5, g6, g7⟩ := hG
  obtain ⟨v1, t1, rfl, hv1, hs1⟩ := g3
  cases hv1
  exact lv_if_le hx hb hd ht (fun hc => kt hc D b o TC TS p e R s m args below meth c Z hX hP hXX _ _ _ _ _ _ _ ⟨g1, g2, hs1, g4, g5, g6, g7⟩) (fun hc => kf hc D b o TC TS p e R s m args below meth c Z hX hP hXX _ _ _ _ _ _ _ ⟨g1, g2, hs1, g4, g5, g6, g7⟩)
theorem AR.icmp_le {x y : Int32} {off : Int} {tgt : Nat} (hd : decode k.2.1 pc = .ok (.if_icmp .le off, 3)) (ht : (pc : Int) + off = (tgt : Int)) (kt : x ≤ y → AR ns l k d r P X tgt lv st h bc bs) (kf : ¬ (x ≤ y) → AR ns l k d r P X (pc + 3) lv st h bc bs) : AR ns l k d r P X pc lv (.int y :: .int x :: st) h bc bs := by
  intro D b o TC TS p e R s m args below meth c Z hX hP hXX lvc ls stc H locs cells slots hG
  have hx := hX.1
  have hb := hX.2.1
  obtain ⟨g1, g2, g3, g4, g5, g6, g7⟩ := hG
  obtain ⟨v1, t1, rfl, hv1, hs1⟩ := g3
  obtain ⟨v2, t2, rfl, hv2, hs2⟩ := hs1
  cases hv1
  cases hv2
  exact lv_icmp_le hx hb hd ht (fun hc => kt hc D b o TC TS p e R s m args below meth c Z hX hP hXX _ _ _ _ _ _ _ ⟨g1, g2, hs2, g4, g5, g6, g7⟩) (fun hc => kf hc D b o TC TS p e R s m args below meth c Z hX hP hXX _ _ _ _ _ _ _ ⟨g1, g2, hs2, g4, g5, g6, g7⟩)
theorem AR.goto {off : Int} {tgt : Nat} (hd : decode k.2.1 pc = .ok (.goto off, 3)) (ht : (pc : Int) + off = (tgt : Int)) (K : AR ns l k d r P X tgt lv st h bc bs) : AR ns l k d r P X pc lv st h bc bs := by
  intro D b o TC TS p e R s m args below meth c Z hX hP hXX lvc ls stc H locs cells slots hG
  have hx := hX.1
  have hb := hX.2.1
  obtain ⟨g1, g2, g3, g4, g5, g6, g7⟩ := hG
  exact lv_goto hx hb hd ht (K D b o TC TS p e R s m args below meth c Z hX hP hXX _ _ _ _ _ _ _ ⟨g1, g2, g3, g4, g5, g6, g7⟩)
theorem AR.tableIn {dflt lo hi : Int} {offs : Array Int} {len : Nat} {x : Int32} {off : Int} {tgt : Nat} (hd : decode k.2.1 pc = .ok (.tableswitch dflt lo hi offs, len)) (h1 : ¬ x.toInt < lo) (h2 : ¬ hi < x.toInt) (ho : offs[(x.toInt - lo).toNat]? = some off) (ht : (pc : Int) + off = (tgt : Int)) (K : AR ns l k d r P X tgt lv st h bc bs) : AR ns l k d r P X pc lv (.int x :: st) h bc bs := by
  intro D b o TC TS p e R s m args below meth c Z hX hP hXX lvc ls stc H locs cells slots hG
  have hx := hX.1
  have hb := hX.2.1
  obtain ⟨g1, g2, g3, g4, g5, g6, g7⟩ := hG
  obtain ⟨v1, t1, rfl, hv1, hs1⟩ := g3
  cases hv1
  exact lv_tableIn hx hb hd h1 h2 ho ht (K D b o TC TS p e R s m args below meth c Z hX hP hXX _ _ _ _ _ _ _ ⟨g1, g2, hs1, g4, g5, g6, g7⟩)
theorem AR.tableOut {dflt lo hi : Int} {offs : Array Int} {len : Nat} {x : Int32} {tgt : Nat} (hd : decode k.2.1 pc = .ok (.tableswitch dflt lo hi offs, len)) (hr : x.toInt < lo ∨ hi < x.toInt) (ht : (pc : Int) + dflt = (tgt : Int)) (K : AR ns l k d r P X tgt lv st h bc bs) : AR ns l k d r P X pc lv (.int x :: st) h bc bs := by
  intro D b o TC TS p e R s m args below meth c Z hX hP hXX lvc ls stc H locs cells slots hG
  have hx := hX.1
  have hb := hX.2.1
  obtain ⟨g1, g2, g3, g4, g5, g6, g7⟩ := hG
  obtain ⟨v1, t1, rfl, hv1, hs1⟩ := g3
  cases hv1
  exact lv_tableOut hx hb hd hr ht (K D b o TC TS p e R s m args below meth c Z hX hP hXX _ _ _ _ _ _ _ ⟨g1, g2, hs1, g4, g5, g6, g7⟩)
theorem AR.ldc2 {i : Nat} {v : Int64} (hd : decode k.2.1 pc = .ok (.ldc2_w i, 3)) (hw : Cond.constantLong k.1.cls i v ∈ ax_tb) (K : AR ns l k d r P X (pc + 3) lv (.long v :: st) h bc bs) : AR ns l k d r P X pc lv st h bc bs := by
  intro D b o TC TS p e R s m args below meth c Z hX hP hXX lvc ls stc H locs cells slots hG
  have hx := hX.1
  have hb := hX.2.1
  obtain ⟨g1, g2, g3, g4, g5, g6, g7⟩ := hG
  exact lv_ldc2 hx hb hX.2.2.2.1 (hX.2.2.2.2.1 _ hw) hd (K D b o TC TS p e R s m args below meth c Z hX hP hXX _ _ _ _ _ _ _ ⟨g1, g2, ⟨_, _, rfl, rfl, g3⟩, g4, g5, g6, g7⟩)
theorem AR.ldci {i : Nat} {v : Int32} (hd : decode k.2.1 pc = .ok (.ldc i, 2)) (hw : Cond.constant k.1.cls i v ∈ ax_tb) (K : AR ns l k d r P X (pc + 2) lv (.int v :: st) h bc bs) : AR ns l k d r P X pc lv st h bc bs := by
  intro D b o TC TS p e R s m args below meth c Z hX hP hXX lvc ls stc H locs cells slots hG
  have hx := hX.1
  have hb := hX.2.1
  obtain ⟨g1, g2, g3, g4, g5, g6, g7⟩ := hG
  exact lv_ldc hx hb hX.2.2.2.1 (hX.2.2.2.2.1 _ hw) hd (K D b o TC TS p e R s m args below meth c Z hX hP hXX _ _ _ _ _ _ _ ⟨g1, g2, ⟨_, _, rfl, rfl, g3⟩, g4, g5, g6, g7⟩)
end AXI
end
section
/-! the classes: their words, types and names -/
set_option maxRecDepth 20000 in
theorem ax_wsX0 : ∀ w ∈ u_ws RX0 TX0 2, w ∈ ax_tb := fun w h => by
  have hg := goodIn_r (big := lw_tbl) (u_ws RX0 TX0 2) [273, 275] (by decide +kernel) (by decide +kernel) w h
  exact List.mem_filter.mpr ⟨hg.1, List.all_eq_true.mp (show (u_ws RX0 TX0 2).all goodWord = true by decide +kernel) w h⟩
set_option maxRecDepth 20000 in
theorem ax_wsX1 : ∀ w ∈ u_ws RX1 TX1 3, w ∈ ax_tb := fun w h => by
  have hg := goodIn_r (big := lw_tbl) (u_ws RX1 TX1 3) [224, 226, 228] (by decide +kernel) (by decide +kernel) w h
  exact List.mem_filter.mpr ⟨hg.1, List.all_eq_true.mp (show (u_ws RX1 TX1 3).all goodWord = true by decide +kernel) w h⟩
set_option maxRecDepth 20000 in
theorem ax_wsX2 : ∀ w ∈ u_ws RX2 TX2 2, w ∈ ax_tb := fun w h => by
  have hg := goodIn_r (big := lw_tbl) (u_ws RX2 TX2 2) [205, 207] (by decide +kernel) (by decide +kernel) w h
  exact List.mem_filter.mpr ⟨hg.1, List.all_eq_true.mp (show (u_ws RX2 TX2 2).all goodWord = true by decide +kernel) w h⟩
set_option maxRecDepth 20000 in
theorem ax_wsX3 : ∀ w ∈ u_ws RX3 TX3 2, w ∈ ax_tb := fun w h => by
  have hg := goodIn_r (big := lw_tbl) (u_ws RX3 TX3 2) [254, 256] (by decide +kernel) (by decide +kernel) w h
  exact List.mem_filter.mpr ⟨hg.1, List.all_eq_true.mp (show (u_ws RX3 TX3 2).all goodWord = true by decide +kernel) w h⟩
set_option maxRecDepth 20000 in
theorem ax_wsX4 : ∀ w ∈ u_ws RX4 TX4 2, w ∈ ax_tb := fun w h => by
  have hg := goodIn_r (big := lw_tbl) (u_ws RX4 TX4 2) [239, 241] (by decide +kernel) (by decide +kernel) w h
  exact List.mem_filter.mpr ⟨hg.1, List.all_eq_true.mp (show (u_ws RX4 TX4 2).all goodWord = true by decide +kernel) w h⟩
set_option maxRecDepth 20000 in
theorem ax_wsX5 : ∀ w ∈ u_ws RX5 TX5 1, w ∈ ax_tb := fun w h => by
  have hg := goodIn_r (big := lw_tbl) (u_ws RX5 TX5 1) [291] (by decide +kernel) (by decide +kernel) w h
  exact List.mem_filter.mpr ⟨hg.1, List.all_eq_true.mp (show (u_ws RX5 TX5 1).all goodWord = true by decide +kernel) w h⟩
set_option maxRecDepth 20000 in
theorem ax_wsX6 : ∀ w ∈ u_ws RX6 TX6 9, w ∈ ax_tb := fun w h => by
  have hg := goodIn_r (big := lw_tbl) (u_ws RX6 TX6 9) [139, 141, 143, 145, 147, 149, 151, 153, 155] (by decide +kernel) (by decide +kernel) w h
  exact List.mem_filter.mpr ⟨hg.1, List.all_eq_true.mp (show (u_ws RX6 TX6 9).all goodWord = true by decide +kernel) w h⟩
set_option maxRecDepth 20000 in
theorem ax_wsX7 : ∀ w ∈ u_ws RX7 TX7 2, w ∈ ax_tb := fun w h => by
  have hg := goodIn_r (big := lw_tbl) (u_ws RX7 TX7 2) [117, 119] (by decide +kernel) (by decide +kernel) w h
  exact List.mem_filter.mpr ⟨hg.1, List.all_eq_true.mp (show (u_ws RX7 TX7 2).all goodWord = true by decide +kernel) w h⟩
set_option maxRecDepth 20000 in
theorem ax_wsX8 : ∀ w ∈ u_ws RX8 TX8 18, w ∈ ax_tb := fun w h => by
  have hg := goodIn_r (big := lw_tbl) (u_ws RX8 TX8 18) [312, 314, 316, 318, 320, 322, 324, 326, 328, 330, 332, 334, 336, 338, 340, 342, 344, 346] (by decide +kernel) (by decide +kernel) w h
  exact List.mem_filter.mpr ⟨hg.1, List.all_eq_true.mp (show (u_ws RX8 TX8 18).all goodWord = true by decide +kernel) w h⟩
set_option maxRecDepth 20000 in
theorem ax_wsX9 : ∀ w ∈ u_ws RX9 TX9 32, w ∈ ax_tb := fun w h => by
  have hg := goodIn_r (big := lw_tbl) (u_ws RX9 TX9 32) [1474, 1476, 1478, 1480, 1482, 1484, 1486, 1488, 1490, 1492, 1494, 1496, 1498, 1500, 1502, 1504, 1506, 1508, 1510, 1512, 1514, 1516, 1518, 1520, 1522, 1524, 1526, 1528, 1530, 1532, 1534, 1536] (by decide +kernel) (by decide +kernel) w h
  exact List.mem_filter.mpr ⟨hg.1, List.all_eq_true.mp (show (u_ws RX9 TX9 32).all goodWord = true by decide +kernel) w h⟩
set_option maxRecDepth 20000 in
theorem ax_wsJ4 : ∀ w ∈ u_ws RJ4 TJ4 4, w ∈ ax_tb := fun w h => by
  have hg := goodIn_r (big := lw_tbl) (u_ws RJ4 TJ4 4) [181, 183, 185, 187] (by decide +kernel) (by decide +kernel) w h
  exact List.mem_filter.mpr ⟨hg.1, List.all_eq_true.mp (show (u_ws RJ4 TJ4 4).all goodWord = true by decide +kernel) w h⟩
theorem ax_cls_ws {ci : Nat} {q : ax_Cl} (hq : ax_cls[ci]? = some q) : ∀ w ∈ u_ws q.1 q.2.1 q.2.2.1, w ∈ ax_tb := by
  match ci, hq with
  | 0, hq => cases hq; exact ax_wsX0
  | 1, hq => cases hq; exact ax_wsX1
  | 2, hq => cases hq; exact ax_wsX2
  | 3, hq => cases hq; exact ax_wsX3
  | 4, hq => cases hq; exact ax_wsX4
  | 5, hq => cases hq; exact ax_wsX5
  | 6, hq => cases hq; exact ax_wsX6
  | 7, hq => cases hq; exact ax_wsX7
  | 8, hq => cases hq; exact ax_wsX8
  | 9, hq => cases hq; exact ax_wsX9
  | 10, hq => cases hq; exact ax_wsJ4
  | ci + 11, hq => simp [ax_cls] at hq

theorem ax_cls_ty {ci : Nat} {q : ax_Cl} (hq : ax_cls[ci]? = some q) : ∀ k, k < q.2.2.1 → parseFieldDescriptor (q.2.1 k).2.2.1 = some (q.2.2.2 k) := by
  match ci, hq with
  | 0, hq => cases hq; exact tyX0_ok
  | 1, hq => cases hq; exact tyX1_ok
  | 2, hq => cases hq; exact tyX2_ok
  | 3, hq => cases hq; exact tyX3_ok
  | 4, hq => cases hq; exact tyX4_ok
  | 5, hq => cases hq; exact tyX5_ok
  | 6, hq => cases hq; exact tyX6_ok
  | 7, hq => cases hq; exact tyX7_ok
  | 8, hq => cases hq; exact tyX8_ok
  | 9, hq => cases hq; exact tyX9_ok
  | 10, hq => cases hq; exact tyJ4_ok
  | ci + 11, hq => simp [ax_cls] at hq

theorem ax_cls_nm {ci : Nat} {q : ax_Cl} (hq : ax_cls[ci]? = some q) : ∀ a, a < q.2.2.1 → ∀ b, b < q.2.2.1 → a ≠ b → (q.2.1 a).2.1 ≠ (q.2.1 b).2.1 := by
  match ci, hq with
  | 0, hq => cases hq; exact nmX0
  | 1, hq => cases hq; exact nmX1
  | 2, hq => cases hq; exact nmX2
  | 3, hq => cases hq; exact nmX3
  | 4, hq => cases hq; exact nmX4
  | 5, hq => cases hq; exact nmX5
  | 6, hq => cases hq; exact nmX6
  | 7, hq => cases hq; exact nmX7
  | 8, hq => cases hq; exact nmX8
  | 9, hq => cases hq; exact nmX9
  | 10, hq => cases hq; exact nmJ4
  | ci + 11, hq => simp [ax_cls] at hq

theorem ax_cls_fl {ci : Nat} {q : ax_Cl} (hq : ax_cls[ci]? = some q) : ∀ k, k < q.2.2.1 → q.2.2.2 k ≠ .float ∧ q.2.2.2 k ≠ .double := by
  match ci, hq with
  | 0, hq => cases hq; exact by decide +kernel
  | 1, hq => cases hq; exact by decide +kernel
  | 2, hq => cases hq; exact by decide +kernel
  | 3, hq => cases hq; exact by decide +kernel
  | 4, hq => cases hq; exact by decide +kernel
  | 5, hq => cases hq; exact by decide +kernel
  | 6, hq => cases hq; exact by decide +kernel
  | 7, hq => cases hq; exact by decide +kernel
  | 8, hq => cases hq; exact by decide +kernel
  | 9, hq => cases hq; exact by decide +kernel
  | 10, hq => cases hq; exact by decide +kernel
  | ci + 11, hq => simp [ax_cls] at hq

theorem ax_cls_lt {ci : Nat} {q : ax_Cl} (hq : ax_cls[ci]? = some q) : ci < 11 := by
  have := (List.getElem?_eq_some_iff.mp hq).1
  exact this
def ax_get (r h : ax_H) (a : Nat) : Option (Nat × List Value) := if a < 1000000000 then h[a]? else r[a - 1000000000]?
theorem ax_get_lt {r h : ax_H} {a : Nat} (ha : a < 1000000000) : ax_get r h a = h[a]? := by simp [ax_get, ha]
section AXG
variable {ns : ax_NS} {r h : ax_H} {D : va_G} {b : Nat} {o : Nat → Nat} {s : State} {H : Heap} {locs : List Loc}
theorem ax_got (hT : ax_T ns r D b o s) (hR : ax_R D b o h H) (hS : va_S (fun q => b ≤ q) s.heap H locs) {a : Nat} {q : Nat × List Value} (hg : ax_get r h a = some q) : ∃ cell, H[ax_ad b o a]? = some cell ∧ ax_c D b o q cell := by
  unfold ax_get at hg
  unfold ax_ad
  by_cases ha : a < 1000000000
  · rw [if_pos ha] at hg ⊢
    exact hR.2 a q hg
  · rw [if_neg ha] at hg ⊢
    obtain ⟨-, -, -, -, -, -, -, h8, h9⟩ := hT
    obtain ⟨e1, cell, e2, e3⟩ := h8 _ _ hg
    exact ⟨cell, by rw [hS.2.1 _ (by omega) (by omega)]; exact e2, e3⟩
theorem ax_arr (hT : ax_T ns r D b o s) {t : Nat} {ty : FieldType} (ht : ax_tys[t]? = some ty) {vs : List Value} {cell : Cell} (hc : ax_c D b o (100 + t, vs) cell) : s.isArrayOf cell ty ∧ cell.vm = .none ∧ cell.slots.size = vs.length ∧ cell.cls = D.1 (100 + t) ∧ ∀ (k : Nat) (x : Value), vs[k]? = some x → ∃ v, cell.slots[k]? = some v ∧ ax_v b o x v := by
  obtain ⟨-, h2, -⟩ := hT
  obtain ⟨a1, a2, a3⟩ := h2 t ty ht
  rcases hc with hc | ⟨h3, h4, h5, h6⟩
  · have : 100 + t = 99 := hc
    omega
  · refine ⟨?_, h3, h5 (Nat.le_add_right _ _), h4, fun k x hx => ?_⟩
    · have hA := a1 0 (fun _ => .null)
      refine ⟨fun q e => (by rw [h3] at e; cases e), ?_⟩
      rw [h4]
      exact hA.2
    · obtain ⟨v, e1, e2⟩ := h6 k x hx
      rw [a3 k] at e1
      exact ⟨v, e1, e2⟩
theorem ax_obj (hT : ax_T ns r D b o s) {ci : Nat} {q : ax_Cl} (hq : ax_cls[ci]? = some q) {vs : List Value} {cell : Cell} (hc : ax_c D b o (ci, vs) cell) : cell.vm = .none ∧ cell.cls = D.1 ci ∧ u_Kn s q.1 q.2.1 q.2.2.1 (D.1 ci) (D.2 ci) ∧ ∀ (k : Nat) (x : Value), vs[k]? = some x → ∃ v, cell.slots[D.2 ci k]? = some v ∧ ax_v b o x v := by
  have hl := ax_cls_lt hq
  rcases hc with hc | ⟨h3, h4, h5, h6⟩
  · have : ci = 99 := hc
    omega
  · exact ⟨h3, h4, hT.1 ci q hq, h6⟩
end AXG
section AXS
variable {ns : ax_NS} {l : Launch} {k : ax_M} {d : Nat} {r : ax_H} {P : ax_P} {X : ax_PX} {pc : Nat} {lv : List (Nat × Value)} {st : List Value} {h : ax_H} {bc bs : Nat}
theorem AR.getfield {ci j i a : Nat} {q : ax_Cl} {vs : List Value} {x : Value} (hd : decode k.2.1 pc = .ok (.getfield i, 3)) (hq : ax_cls[ci]? = some q) (hj : j < q.2.2.1) (hw : Cond.fieldLink k.1.cls i (q.2.1 j).1 (q.2.1 j).2.1 (q.2.1 j).2.2.1 ∈ ax_tb) (hg : ax_get r h a = some (ci, vs)) (hv : vs[j]? = some x) (K : AR ns l k d r P X (pc + 3) lv (x :: st) h bc bs) : AR ns l k d r P X pc lv (.ref a :: st) h bc bs := by
  intro D b o TC TS p e R s m args below meth c Z hX hP hXX lvc ls stc H locs cells slots hG
  have hx := hX.1
  have hb := hX.2.1
  obtain ⟨g1, g2, g3, g4, g5, g6, g7⟩ := hG
  obtain ⟨v1, t1, rfl, hv1, hs1⟩ := g3
  cases hv1
  obtain ⟨-, -, -, hown, hts, hT, -⟩ := id hX
  obtain ⟨cell, e1, e2⟩ := ax_got hT g4 g5 hg
  obtain ⟨c1, c2, ⟨hS, hfc, kC, hkC, hkind⟩, c4⟩ := ax_obj hT hq e2
  obtain ⟨cf, kf, fi, f, hi, hsl⟩ := hS j hj
  obtain ⟨v, hv2, hv3⟩ := c4 j x hv
  refine W.getf hx hb hown (hts _ hw) hi (u_facts hfc hkC (u_lays hts (ax_cls_ws hq) hj) hi).1 e1 (by rw [c1]; exact fun h => by cases h) (v := v) (by rw [hsl]; exact hv2) rfl rfl hd ?_
  exact K D b o TC TS p e R s m args below meth c Z hX hP hXX _ _ _ _ _ _ _ ⟨g1, g2, ⟨_, _, rfl, hv3, hs1⟩, g4, g5, g6, g7⟩
theorem ax_apart {args : Array Value} {s : State} {D : va_G} {ci : Nat} {q : ax_Cl} (hts : ∀ w ∈ ax_tb, w.before args s = true) (hq : ax_cls[ci]? = some q) (hK : u_Kn s q.1 q.2.1 q.2.2.1 (D.1 ci) (D.2 ci)) : ∀ x y, x < q.2.2.1 → y < q.2.2.1 → x ≠ y → D.2 ci x ≠ D.2 ci y := by
  intro x y hx hy hne
  obtain ⟨hS, -⟩ := hK
  obtain ⟨_, _, _, fa, hia, ea⟩ := hS x hx
  obtain ⟨_, _, _, fb, hib, eb⟩ := hS y hy
  rw [← ea, ← eb]
  refine u_apart (u_lays hts (ax_cls_ws hq) hx) (u_lays hts (ax_cls_ws hq) hy) hia hib ?_
  rw [(State.fieldFound?_type hia (ax_cls_ty hq x hx)).1, (State.fieldFound?_type hib (ax_cls_ty hq y hy)).1]
  exact ax_cls_nm hq x hx y hy hne
theorem AR.putfield {ci j i a : Nat} {q : ax_Cl} {vs : List Value} {x : Value} (hd : decode k.2.1 pc = .ok (.putfield i, 3)) (hq : ax_cls[ci]? = some q) (hj : j < q.2.2.1) (hw : Cond.fieldLink k.1.cls i (q.2.1 j).1 (q.2.1 j).2.1 (q.2.1 j).2.2.1 ∈ ax_tb) (hfin : (q.2.1 j).2.2.2 = false ∨ (q.2.1 j).2.2.2 = true ∧ k.1.name = "<init>" ∧ (q.2.1 j).1 = k.1.cls) (ha : a < 1000000000) (hg : h[a]? = some (ci, vs)) (hl : vs.length = q.2.2.1) (hf : ax_fit (q.2.2.2 j) x = true) (K : AR ns l k d r P X (pc + 3) lv st (h.set a (ci, vs.set j x)) bc bs) : AR ns l k d r P X pc lv (x :: .ref a :: st) h bc bs := by
  intro D b o TC TS p e R s m args below meth c Z hX hP hXX lvc ls stc H locs cells slots hG
  have hx := hX.1
  have hb := hX.2.1
  obtain ⟨g1, g2, g3, g4, g5, g6, g7⟩ := hG
  obtain ⟨v1, t1, rfl, hv1, hs1⟩ := g3
  obtain ⟨v2, t2, rfl, hv2, hs2⟩ := hs1
  cases hv2
  obtain ⟨-, -, -, hown, hts, hT, -, -, -, -, -, hnm, -⟩ := id hX
  rw [ax_ad_lt ha]
  obtain ⟨cell, e1, e2⟩ := g4.2 a _ hg
  obtain ⟨c1, c2, hKn, c4⟩ := ax_obj hT hq e2
  obtain ⟨hS, hfc, kC, hkC, hkind⟩ := id hKn
  obtain ⟨cf, kf, fi, f, hi, hsl⟩ := hS j hj
  obtain ⟨v, hv3, hv4⟩ := c4 j _ (List.getElem?_eq_getElem (by rw [hl]; exact hj))
  obtain ⟨hn, hfit⟩ := ax_fit_spec hf hv1
  have hap := ax_apart hts hq hKn
  have hlt : f.slot < cell.slots.size := by rw [hsl]; exact k2_hasslot hv3
  have fin : ∀ H' : Heap, H'[b + a]? = some (cell.setSlot f.slot v1) → H'.size = H.size → (∀ q, q ≠ b + a → H'[q]? = H[q]?) → W p l e R s m args below meth c H' (locs ++ [⟨b + a, f.slot⟩]) cells slots Z (F0 m (pc + 3) ls t2) := by
    intro H1 q1 q2 q3
    refine K D b o TC TS p e R s m args below meth c Z hX hP hXX _ _ _ _ _ _ _ ⟨g1, g2, hs2, ?_, g5.put q2 q3 (Nat.le_add_right _ _), g6, g7⟩
    refine g4.set q1 q2 q3 ?_
    rw [hsl]
    have hci := ax_cls_lt hq
    exact e2.set (by omega) (fun i j hi hj hne => hap i j (by rw [← hl]; exact hi) (by rw [← hl]; exact hj) hne) (by rw [hl]; exact hj) hv1
  have hst := (u_facts hfc hkC (u_lays hts (ax_cls_ws hq) hj) hi).1
  have hlay := hts _ (ax_cls_ws hq _ (u_in_lay hj))
  unfold u_lay at hlay
  rcases hfin with hfin | ⟨hfin, hin, hdc⟩
  · rw [if_neg (by rw [hfin]; decide)] at hlay
    have h6 := u_store hfc hkC hkind hlay hi (ax_cls_ty hq j hj) hn hfit
    exact W.putK hx hb (f := f) ⟨hown, hts _ hw, ⟨_, _, _, hi⟩, hst⟩ (by rw [c2]; exact h6) e1 c1 hlt rfl rfl hd fin
  · rw [if_pos hfin] at hlay
    have hcf : m.cls = cf := by
      obtain ⟨_, _, c', _, _, _, -, -, hf', -, -, -, hown2, -⟩ := Cond.laysFinal_spec hlay
      have e1 : c' = cf := by have := hi.symm.trans hf'; simp at this; exact this.1.symm
      rw [hdc] at hown2
      rw [← e1]; exact Option.some.inj (hown.symm.trans hown2)
    have h6 := u_fits hfc hkC hkind (Or.inr hlay) hi (ax_cls_ty hq j hj) hn hfit
    exact W.putFinK hx hb hown (hts _ hw) hi hst hcf (hnm.trans hin) (by rw [c2]; exact h6) e1 c1 hlt rfl rfl hd fin
-- arrays: loads
theorem AR.iaload {a : Nat} {i : Int32} {vs : List Value} {x : Value} (hd : decode k.2.1 pc = .ok (.iaload, 1)) (hg : ax_get r h a = some (100, vs)) (hi : ¬ i < 0) (hv : vs[i.toNatClampNeg]? = some x) (K : AR ns l k d r P X (pc + 1) lv (x :: st) h bc bs) : AR ns l k d r P X pc lv (.int i :: .ref a :: st) h bc bs := by
  intro D b o TC TS p e R s m args below meth c Z hX hP hXX lvc ls stc H locs cells slots hG
  have hx := hX.1
  have hb := hX.2.1
  obtain ⟨g1, g2, g3, g4, g5, g6, g7⟩ := hG
  obtain ⟨-, -, -, hown, hts, hT, -⟩ := id hX
  obtain ⟨v1, t1, rfl, hv1, hs1⟩ := g3
  obtain ⟨v2, t2, rfl, hv2, hs2⟩ := hs1
  cases hv1
  cases hv2
  obtain ⟨cell, e1, e2⟩ := ax_got hT g4 g5 hg
  obtain ⟨c1, c2, c3, c4, c5⟩ := ax_arr (t := 0) hT rfl e2
  obtain ⟨v, h2, h3⟩ := c5 _ _ hv
  have hlt := (List.getElem?_eq_some_iff.mp hv).1
  refine W.iald hx hb e1 c1 (by rw [c2]; exact fun q => by cases q) (fun q => q.elim hi (fun z => by rw [c3] at z; omega)) h2 rfl rfl hd ?_
  exact K D b o TC TS p e R s m args below meth c Z hX hP hXX _ _ _ _ _ _ _ ⟨g1, g2, ⟨_, _, rfl, h3, hs2⟩, g4, g5, g6, g7⟩
theorem AR.laload {a : Nat} {i : Int32} {vs : List Value} {x : Value} (hd : decode k.2.1 pc = .ok (.laload, 1)) (hg : ax_get r h a = some (101, vs)) (hi : ¬ i < 0) (hv : vs[i.toNatClampNeg]? = some x) (K : AR ns l k d r P X (pc + 1) lv (x :: st) h bc bs) : AR ns l k d r P X pc lv (.int i :: .ref a :: st) h bc bs := by
  intro D b o TC TS p e R s m args below meth c Z hX hP hXX lvc ls stc H locs cells slots hG
  have hx := hX.1
  have hb := hX.2.1
  obtain ⟨g1, g2, g3, g4, g5, g6, g7⟩ := hG
  obtain ⟨-, -, -, hown, hts, hT, -⟩ := id hX
  obtain ⟨v1, t1, rfl, hv1, hs1⟩ := g3
  obtain ⟨v2, t2, rfl, hv2, hs2⟩ := hs1
  cases hv1
  cases hv2
  obtain ⟨cell, e1, e2⟩ := ax_got hT g4 g5 hg
  obtain ⟨c1, c2, c3, c4, c5⟩ := ax_arr (t := 1) hT rfl e2
  obtain ⟨v, h2, h3⟩ := c5 _ _ hv
  have hlt := (List.getElem?_eq_some_iff.mp hv).1
  refine W.lald hx hb e1 c1 (by rw [c2]; exact fun q => by cases q) (fun q => q.elim hi (fun z => by rw [c3] at z; omega)) h2 rfl rfl hd ?_
  exact K D b o TC TS p e R s m args below meth c Z hX hP hXX _ _ _ _ _ _ _ ⟨g1, g2, ⟨_, _, rfl, h3, hs2⟩, g4, g5, g6, g7⟩
theorem AR.zaload {a : Nat} {i : Int32} {vs : List Value} {x : Value} (hd : decode k.2.1 pc = .ok (.baload, 1)) (hg : ax_get r h a = some (102, vs)) (hi : ¬ i < 0) (hv : vs[i.toNatClampNeg]? = some x) (K : AR ns l k d r P X (pc + 1) lv (x :: st) h bc bs) : AR ns l k d r P X pc lv (.int i :: .ref a :: st) h bc bs := by
  intro D b o TC TS p e R s m args below meth c Z hX hP hXX lvc ls stc H locs cells slots hG
  have hx := hX.1
  have hb := hX.2.1
  obtain ⟨g1, g2, g3, g4, g5, g6, g7⟩ := hG
  obtain ⟨-, -, -, hown, hts, hT, -⟩ := id hX
  obtain ⟨v1, t1, rfl, hv1, hs1⟩ := g3
  obtain ⟨v2, t2, rfl, hv2, hs2⟩ := hs1
  cases hv1
  cases hv2
  obtain ⟨cell, e1, e2⟩ := ax_got hT g4 g5 hg
  obtain ⟨c1, c2, c3, c4, c5⟩ := ax_arr (t := 2) hT rfl e2
  obtain ⟨v, h2, h3⟩ := c5 _ _ hv
  have hlt := (List.getElem?_eq_some_iff.mp hv).1
  refine W.zald hx hb e1 c1 (by rw [c2]; exact fun q => by cases q) (fun q => q.elim hi (fun z => by rw [c3] at z; omega)) h2 rfl rfl hd ?_
  exact K D b o TC TS p e R s m args below meth c Z hX hP hXX _ _ _ _ _ _ _ ⟨g1, g2, ⟨_, _, rfl, h3, hs2⟩, g4, g5, g6, g7⟩
theorem AR.baload {a : Nat} {i : Int32} {vs : List Value} {x : Value} (hd : decode k.2.1 pc = .ok (.baload, 1)) (hg : ax_get r h a = some (103, vs)) (hi : ¬ i < 0) (hv : vs[i.toNatClampNeg]? = some x) (K : AR ns l k d r P X (pc + 1) lv (x :: st) h bc bs) : AR ns l k d r P X pc lv (.int i :: .ref a :: st) h bc bs := by
  intro D b o TC TS p e R s m args below meth c Z hX hP hXX lvc ls stc H locs cells slots hG
  have hx := hX.1
  have hb := hX.2.1
  obtain ⟨g1, g2, g3, g4, g5, g6, g7⟩ := hG
  obtain ⟨-, -, -, hown, hts, hT, -⟩ := id hX
  obtain ⟨v1, t1, rfl, hv1, hs1⟩ := g3
  obtain ⟨v2, t2, rfl, hv2, hs2⟩ := hs1
  cases hv1
  cases hv2
  obtain ⟨cell, e1, e2⟩ := ax_got hT g4 g5 hg
  obtain ⟨c1, c2, c3, c4, c5⟩ := ax_arr (t := 3) hT rfl e2
  obtain ⟨v, h2, h3⟩ := c5 _ _ hv
  have hlt := (List.getElem?_eq_some_iff.mp hv).1
  refine W.bald hx hb e1 c1 (by rw [c2]; exact fun q => by cases q) (fun q => q.elim hi (fun z => by rw [c3] at z; omega)) h2 rfl rfl hd ?_
  exact K D b o TC TS p e R s m args below meth c Z hX hP hXX _ _ _ _ _ _ _ ⟨g1, g2, ⟨_, _, rfl, h3, hs2⟩, g4, g5, g6, g7⟩
theorem AR.aaload {a t : Nat} {ty : FieldType} {i : Int32} {vs : List Value} {x : Value} (hd : decode k.2.1 pc = .ok (.aaload, 1)) (ht : ax_tys[t]? = some ty) (hr : ty.isReference = true) (hg : ax_get r h a = some (100 + t, vs)) (hi : ¬ i < 0) (hv : vs[i.toNatClampNeg]? = some x) (K : AR ns l k d r P X (pc + 1) lv (x :: st) h bc bs) : AR ns l k d r P X pc lv (.int i :: .ref a :: st) h bc bs := by
  intro D b o TC TS p e R s m args below meth c Z hX hP hXX lvc ls stc H locs cells slots hG
  have hx := hX.1
  have hb := hX.2.1
  obtain ⟨g1, g2, g3, g4, g5, g6, g7⟩ := hG
  obtain ⟨-, -, -, hown, hts, hT, -⟩ := id hX
  obtain ⟨v1, t1, rfl, hv1, hs1⟩ := g3
  obtain ⟨v2, t2, rfl, hv2, hs2⟩ := hs1
  cases hv1
  cases hv2
  obtain ⟨cell, e1, e2⟩ := ax_got hT g4 g5 hg
  obtain ⟨c1, c2, c3, c4, c5⟩ := ax_arr hT ht e2
  obtain ⟨v, h2, h3⟩ := c5 _ _ hv
  have hlt := (List.getElem?_eq_some_iff.mp hv).1
  refine W.aald hx hb e1 c1 hr (by rw [c2]; exact fun q => by cases q) (fun q => q.elim hi (fun z => by rw [c3] at z; omega)) h2 rfl rfl hd ?_
  exact K D b o TC TS p e R s m args below meth c Z hX hP hXX _ _ _ _ _ _ _ ⟨g1, g2, ⟨_, _, rfl, h3, hs2⟩, g4, g5, g6, g7⟩
theorem AR.arraylength {a t : Nat} {ty : FieldType} {vs : List Value} (hd : decode k.2.1 pc = .ok (.arraylength, 1)) (ht : ax_tys[t]? = some ty) (hg : ax_get r h a = some (100 + t, vs)) (K : AR ns l k d r P X (pc + 1) lv (.int vs.length.toInt32 :: st) h bc bs) : AR ns l k d r P X pc lv (.ref a :: st) h bc bs := by
  intro D b o TC TS p e R s m args below meth c Z hX hP hXX lvc ls stc H locs cells slots hG
  have hx := hX.1
  have hb := hX.2.1
  obtain ⟨g1, g2, g3, g4, g5, g6, g7⟩ := hG
  obtain ⟨-, -, -, hown, hts, hT, -⟩ := id hX
  obtain ⟨v1, t1, rfl, hv1, hs1⟩ := g3
  cases hv1
  obtain ⟨cell, e1, e2⟩ := ax_got hT g4 g5 hg
  obtain ⟨c1, c2, c3, c4, c5⟩ := ax_arr hT ht e2
  refine W.alen hx hb e1 c1 (by rw [c3]) rfl rfl hd ?_
  exact K D b o TC TS p e R s m args below meth c Z hX hP hXX _ _ _ _ _ _ _ ⟨g1, g2, ⟨_, _, rfl, rfl, hs1⟩, g4, g5, g6, g7⟩
theorem AR.iastore {a : Nat} {i : Int32} {vs : List Value} {x : Value} (hd : decode k.2.1 pc = .ok (.iastore, 1)) (ha : a < 1000000000) (hg : h[a]? = some (100, vs)) (hi : ¬ i < 0) (hl : i.toNatClampNeg < vs.length) (ht : ax_isI x = true) (K : AR ns l k d r P X (pc + 1) lv st (h.set a (100, vs.set i.toNatClampNeg x)) bc bs) : AR ns l k d r P X pc lv (x :: .int i :: .ref a :: st) h bc bs := by
  intro D b o TC TS p e R s m args below meth c Z hX hP hXX lvc ls stc H locs cells slots hG
  have hx := hX.1
  have hb := hX.2.1
  obtain ⟨g1, g2, g3, g4, g5, g6, g7⟩ := hG
  obtain ⟨-, -, -, hown, hts, hT, -⟩ := id hX
  obtain ⟨v0, t0, rfl, hv0, hs0⟩ := g3
  obtain ⟨v1, t1, rfl, hv1, hs1⟩ := hs0
  obtain ⟨v2, t2, rfl, hv2, hs2⟩ := hs1
  cases hv1
  cases hv2
  obtain ⟨y, rfl⟩ := ax_v_I hv0 ht
  rw [ax_ad_lt ha]
  obtain ⟨cell, e1, e2⟩ := g4.2 a _ hg
  obtain ⟨c1, c2, c3, c4, c5⟩ := ax_arr (t := 0) hT rfl e2
  refine W.iast hx hb e1 c1 (by rw [c2]; exact fun q => by cases q) (fun q => q.elim hi (fun z => by rw [c3] at z; omega)) rfl rfl hd fun H1 q1 q2 q3 => ?_
  · skip
    refine K D b o TC TS p e R s m args below meth c Z hX hP hXX _ _ _ _ _ _ _ ⟨g1, g2, hs2, ?_, g5.put q2 q3 (Nat.le_add_right _ _), g6, g7⟩
    refine g4.set q1 q2 q3 ?_
    have := e2.set (k := i.toNatClampNeg) (x := x) (by decide) (fun i j hi hj hne => by rw [(hT.2.1 0 _ rfl).2.2 i, (hT.2.1 0 _ rfl).2.2 j]; exact hne) hl hv0
    rw [(hT.2.1 0 _ rfl).2.2] at this
    exact this
theorem AR.lastore {a : Nat} {i : Int32} {vs : List Value} {x : Value} (hd : decode k.2.1 pc = .ok (.lastore, 1)) (ha : a < 1000000000) (hg : h[a]? = some (101, vs)) (hi : ¬ i < 0) (hl : i.toNatClampNeg < vs.length) (ht : ax_isL x = true) (K : AR ns l k d r P X (pc + 1) lv st (h.set a (101, vs.set i.toNatClampNeg x)) bc bs) : AR ns l k d r P X pc lv (x :: .int i :: .ref a :: st) h bc bs := by
  intro D b o TC TS p e R s m args below meth c Z hX hP hXX lvc ls stc H locs cells slots hG
  have hx := hX.1
  have hb := hX.2.1
  obtain ⟨g1, g2, g3, g4, g5, g6, g7⟩ := hG
  obtain ⟨-, -, -, hown, hts, hT, -⟩ := id hX
  obtain ⟨v0, t0, rfl, hv0, hs0⟩ := g3
  obtain ⟨v1, t1, rfl, hv1, hs1⟩ := hs0
  obtain ⟨v2, t2, rfl, hv2, hs2⟩ := hs1
  cases hv1
  cases hv2
  obtain ⟨y, rfl⟩ := ax_v_L hv0 ht
  rw [ax_ad_lt ha]
  obtain ⟨cell, e1, e2⟩ := g4.2 a _ hg
  obtain ⟨c1, c2, c3, c4, c5⟩ := ax_arr (t := 1) hT rfl e2
  refine W.last hx hb e1 c1 (by rw [c2]; exact fun q => by cases q) (fun q => q.elim hi (fun z => by rw [c3] at z; omega)) rfl rfl hd fun H1 q1 q2 q3 => ?_
  · skip
    refine K D b o TC TS p e R s m args below meth c Z hX hP hXX _ _ _ _ _ _ _ ⟨g1, g2, hs2, ?_, g5.put q2 q3 (Nat.le_add_right _ _), g6, g7⟩
    refine g4.set q1 q2 q3 ?_
    have := e2.set (k := i.toNatClampNeg) (x := x) (by decide) (fun i j hi hj hne => by rw [(hT.2.1 1 _ rfl).2.2 i, (hT.2.1 1 _ rfl).2.2 j]; exact hne) hl hv0
    rw [(hT.2.1 1 _ rfl).2.2] at this
    exact this
theorem AR.zastore {a : Nat} {i : Int32} {vs : List Value} {x : Value} (hd : decode k.2.1 pc = .ok (.bastore, 1)) (ha : a < 1000000000) (hg : h[a]? = some (102, vs)) (hi : ¬ i < 0) (hl : i.toNatClampNeg < vs.length) (ht : ax_fit .boolean x = true) (K : AR ns l k d r P X (pc + 1) lv st (h.set a (102, vs.set i.toNatClampNeg x)) bc bs) : AR ns l k d r P X pc lv (x :: .int i :: .ref a :: st) h bc bs := by
  intro D b o TC TS p e R s m args below meth c Z hX hP hXX lvc ls stc H locs cells slots hG
  have hx := hX.1
  have hb := hX.2.1
  obtain ⟨g1, g2, g3, g4, g5, g6, g7⟩ := hG
  obtain ⟨-, -, -, hown, hts, hT, -⟩ := id hX
  obtain ⟨v0, t0, rfl, hv0, hs0⟩ := g3
  obtain ⟨v1, t1, rfl, hv1, hs1⟩ := hs0
  obtain ⟨v2, t2, rfl, hv2, hs2⟩ := hs1
  cases hv1
  cases hv2
  obtain ⟨hn, -⟩ := ax_fit_spec ht hv0
  obtain ⟨y, rfl⟩ := ax_v_I hv0 (by cases x <;> simp [ax_fit] at ht <;> rfl)
  rw [ax_ad_lt ha]
  obtain ⟨cell, e1, e2⟩ := g4.2 a _ hg
  obtain ⟨c1, c2, c3, c4, c5⟩ := ax_arr (t := 2) hT rfl e2
  refine W.zast hx hb e1 c1 (by rw [c2]; exact fun q => by cases q) (fun q => q.elim hi (fun z => by rw [c3] at z; omega)) rfl rfl hd fun H1 q1 q2 q3 => ?_
  · rw [hn] at q1
    refine K D b o TC TS p e R s m args below meth c Z hX hP hXX _ _ _ _ _ _ _ ⟨g1, g2, hs2, ?_, g5.put q2 q3 (Nat.le_add_right _ _), g6, g7⟩
    refine g4.set q1 q2 q3 ?_
    have := e2.set (k := i.toNatClampNeg) (x := x) (by decide) (fun i j hi hj hne => by rw [(hT.2.1 2 _ rfl).2.2 i, (hT.2.1 2 _ rfl).2.2 j]; exact hne) hl hv0
    rw [(hT.2.1 2 _ rfl).2.2] at this
    exact this
theorem AR.bastore {a : Nat} {i : Int32} {vs : List Value} {x : Value} (hd : decode k.2.1 pc = .ok (.bastore, 1)) (ha : a < 1000000000) (hg : h[a]? = some (103, vs)) (hi : ¬ i < 0) (hl : i.toNatClampNeg < vs.length) (ht : ax_fit .byte x = true) (K : AR ns l k d r P X (pc + 1) lv st (h.set a (103, vs.set i.toNatClampNeg x)) bc bs) : AR ns l k d r P X pc lv (x :: .int i :: .ref a :: st) h bc bs := by
  intro D b o TC TS p e R s m args below meth c Z hX hP hXX lvc ls stc H locs cells slots hG
  have hx := hX.1
  have hb := hX.2.1
  obtain ⟨g1, g2, g3, g4, g5, g6, g7⟩ := hG
  obtain ⟨-, -, -, hown, hts, hT, -⟩ := id hX
  obtain ⟨v0, t0, rfl, hv0, hs0⟩ := g3
  obtain ⟨v1, t1, rfl, hv1, hs1⟩ := hs0
  obtain ⟨v2, t2, rfl, hv2, hs2⟩ := hs1
  cases hv1
  cases hv2
  obtain ⟨hn, -⟩ := ax_fit_spec ht hv0
  obtain ⟨y, rfl⟩ := ax_v_I hv0 (by cases x <;> simp [ax_fit] at ht <;> rfl)
  rw [ax_ad_lt ha]
  obtain ⟨cell, e1, e2⟩ := g4.2 a _ hg
  obtain ⟨c1, c2, c3, c4, c5⟩ := ax_arr (t := 3) hT rfl e2
  refine W.bast hx hb e1 c1 (by rw [c2]; exact fun q => by cases q) (fun q => q.elim hi (fun z => by rw [c3] at z; omega)) rfl rfl hd fun H1 q1 q2 q3 => ?_
  · rw [hn] at q1
    refine K D b o TC TS p e R s m args below meth c Z hX hP hXX _ _ _ _ _ _ _ ⟨g1, g2, hs2, ?_, g5.put q2 q3 (Nat.le_add_right _ _), g6, g7⟩
    refine g4.set q1 q2 q3 ?_
    have := e2.set (k := i.toNatClampNeg) (x := x) (by decide) (fun i j hi hj hne => by rw [(hT.2.1 3 _ rfl).2.2 i, (hT.2.1 3 _ rfl).2.2 j]; exact hne) hl hv0
    rw [(hT.2.1 3 _ rfl).2.2] at this
    exact this
theorem AR.aastore {a t v : Nat} {ci : Nat} {q : ax_Cl} {i : Int32} {vs ws : List Value} (hd : decode k.2.1 pc = .ok (.aastore, 1)) (ha : a < 1000000000) (hva : v < 1000000000) (hq : ax_cls[ci]? = some q) (ht : ax_tys[t]? = some (.object q.1)) (hg : h[a]? = some (100 + t, vs)) (hgv : h[v]? = some (ci, ws)) (hi : ¬ i < 0) (hl : i.toNatClampNeg < vs.length) (K : AR ns l k d r P X (pc + 1) lv st (h.set a (100 + t, vs.set i.toNatClampNeg (.ref v))) bc bs) : AR ns l k d r P X pc lv (.ref v :: .int i :: .ref a :: st) h bc bs := by
  intro D b o TC TS p e R s m args below meth c Z hX hP hXX lvc ls stc H locs cells slots hG
  have hx := hX.1
  have hb := hX.2.1
  obtain ⟨g1, g2, g3, g4, g5, g6, g7⟩ := hG
  obtain ⟨-, -, -, hown, hts, hT, -⟩ := id hX
  obtain ⟨v0, t0, rfl, hv0, hs0⟩ := g3
  obtain ⟨v1, t1, rfl, hv1, hs1⟩ := hs0
  obtain ⟨v2, t2, rfl, hv2, hs2⟩ := hs1
  cases hv1
  cases hv2
  have hv0' := hv0
  cases hv0
  obtain ⟨cell, e1, e2⟩ := g4.2 a _ hg
  obtain ⟨cv, f1, f2⟩ := g4.2 v _ hgv
  obtain ⟨c1, c2, c3, c4, c5⟩ := ax_arr hT ht e2
  obtain ⟨d1, d2, d3, d4⟩ := ax_obj hT hq f2
  obtain ⟨kA, comp, k1, k2, k3, -⟩ := (hT.2.1 t _ ht).2.1
  have hcomp := k3.symm.trans d3.2.1
  cases hcomp
  obtain ⟨kC, hkC, -⟩ := d3.2.2
  rw [ax_ad_lt ha, ax_ad_lt hva]
  rw [ax_ad_lt hva] at hv0'
  refine W.aast hx hb e1 (fun q e => by rw [c2] at e; cases e) (by rw [c2]; exact fun q => by cases q) (by rw [c4]; exact k1) k2 rfl hkC ⟨hi, by rw [c3]; exact hl⟩ f1 (fun q e => by rw [d1] at e; cases e) (by rw [d2]; exact hkC) (by rw [d2]; exact va_asg _ _) rfl rfl hd fun H1 q1 q2 q3 => ?_
  refine K D b o TC TS p e R s m args below meth c Z hX hP hXX _ _ _ _ _ _ _ ⟨g1, g2, hs2, ?_, g5.put q2 q3 (Nat.le_add_right _ _), g6, g7⟩
  refine g4.set q1 q2 q3 ?_
  have := e2.set (k := i.toNatClampNeg) (x := .ref v) (by show 100 + t ≠ 99; omega) (fun i j hi hj hne => by rw [(hT.2.1 t _ ht).2.2 i, (hT.2.1 t _ ht).2.2 j]; exact hne) hl hv0'
  rw [(hT.2.1 t _ ht).2.2] at this
  exact this
theorem AR.new {ci i : Nat} {q : ax_Cl} (hd : decode k.2.1 pc = .ok (.new i, 3)) (hq : ax_cls[ci]? = some q) (hw1 : Cond.classLink k.1.cls i q.1 ∈ ax_tb) (hw2 : Cond.instantiable q.1 q.2.2.1 ∈ ax_tb) (hw3 : Cond.initialized q.1 ∈ ax_tb) (h1 : 1 ≤ bc) (h2 : q.2.2.1 ≤ bs) (K : AR ns l k d r P X (pc + 3) lv (.ref h.length :: st) (h ++ [(ci, (List.range q.2.2.1).map (fun j => defaultValue (q.2.2.2 j)))]) (bc - 1) (bs - q.2.2.1)) : AR ns l k d r P X pc lv st h bc bs := by
  intro D b o TC TS p e R s m args below meth c Z hX hP hXX lvc ls stc H locs cells slots hG
  have hx := hX.1
  have hb := hX.2.1
  obtain ⟨g1, g2, g3, g4, g5, g6, g7⟩ := hG
  obtain ⟨-, -, -, hown, hts, hT, -⟩ := id hX
  obtain ⟨-, -, -, -, -, -, -, -, hTC, hTS, -, -, -, -, hsz⟩ := id hX
  refine ax_size hsz g4 g6 (fun hh => ?_)
  have hKn := hT.1 ci q hq
  have hci := ax_cls_lt hq
  refine W.newcK hx hb hown (hts _ hw1) (hts _ hw2) (hts _ hw3) rfl hd (by omega) (by omega) hKn.2.1 rfl fun H1 kC hkC e1 z1 o1 => ?_
  rw [show H.size = b + h.length from g4.1]
  refine K D b o TC TS p e R s m args below meth c Z hX hP hXX _ _ _ _ _ _ _ ⟨g1, g2, ⟨_, _, rfl, by rw [ax_v, ax_ad_lt hh], g3⟩, ?_, ⟨Nat.le_trans g5.1 (by omega), fun x h1 h2 => (o1 x (Nat.lt_of_lt_of_le h1 g5.1)).trans (g5.2.1 x h1 h2), g5.2.2⟩, by omega, by omega⟩
  refine g4.push (cell := blank (D.1 ci) kC) e1 z1 o1 (Or.inr ⟨rfl, rfl, fun h => absurd h (show ¬ 100 ≤ ci by omega), fun j x hj => ?_⟩)
  have hj2 : ((List.range q.2.2.1).map (fun j => defaultValue (q.2.2.2 j)))[j]? = some x := hj
  rw [List.getElem?_map] at hj2
  have hjN : j < q.2.2.1 := by
    rcases Nat.lt_or_ge j q.2.2.1 with h | h
    · exact h
    · rw [List.getElem?_eq_none (by simpa using h)] at hj2; cases hj2
  rw [List.getElem?_range hjN] at hj2
  cases hj2
  obtain ⟨hS, hfc, -⟩ := id hKn
  obtain ⟨cf, kf, fi, fd, hi, he⟩ := hS j hjN
  have h3 := (u_facts hfc hkC (u_lays hts (ax_cls_ws hq) hjN) hi).2.2
  rw [(State.fieldFound?_type hi (ax_cls_ty hq j hjN)).2] at h3
  obtain ⟨f1, f2⟩ := ax_cls_fl hq j hjN
  exact ⟨_, by show (blank (D.1 ci) kC).slots[D.2 ci j]? = _; rw [← he]; exact k2_blank h3, ax_v_default f1 f2⟩
theorem AR.newarray {t N : Nat} {atype : ArrayType} {ty : FieldType} {n : Int32} (hd : decode k.2.1 pc = .ok (.newarray atype, 2)) (ht : ax_tys[t]? = some ty) (hty : newarray.typeOf atype = ty) (hw : Cond.arrayClass ty ∈ ax_tb) (hn : ¬ n < 0) (hN : n.toNatClampNeg = N) (hs : N ≤ 60000000) (h1 : 1 ≤ bc) (h2 : N ≤ bs) (hf : ty ≠ .float ∧ ty ≠ .double) (K : AR ns l k d r P X (pc + 2) lv (.ref h.length :: st) (h ++ [(100 + t, List.replicate N (defaultValue ty))]) (bc - 1) (bs - N)) : AR ns l k d r P X pc lv (.int n :: st) h bc bs := by
  intro D b o TC TS p e R s m args below meth c Z hX hP hXX lvc ls stc H locs cells slots hG
  have hx := hX.1
  have hb := hX.2.1
  obtain ⟨g1, g2, g3, g4, g5, g6, g7⟩ := hG
  obtain ⟨-, -, -, hown, hts, hT, -⟩ := id hX
  obtain ⟨-, -, -, -, -, -, -, -, hTC, hTS, -, -, -, -, hsz⟩ := id hX
  refine ax_size hsz g4 g6 (fun hh => ?_)
  obtain ⟨v1, t1, rfl, hv1, hs1⟩ := g3
  cases hv1
  subst hty
  obtain ⟨a1, a2, a3⟩ := hT.2.1 t _ ht
  refine va_newaK hx hb (hts _ hw) rfl hd rfl hn hN (by cases atype <;> simp only [newarray.typeOf, componentBytes] <;> omega) (by omega) (by omega) rfl fun H1 cA e1 z1 o1 hAr hNm => ?_
  have hcA : cA = D.1 (100 + t) := by
    have h9 : s.vm.findClass ("[" ++ (newarray.typeOf atype).toString) = some (D.1 (100 + t)) := by cases atype <;> exact a2
    exact Option.some.inj (hNm.symm.trans h9)
  subst hcA
  rw [show H.size = b + h.length from g4.1]
  refine K D b o TC TS p e R s m args below meth c Z hX hP hXX _ _ _ _ _ _ _ ⟨g1, g2, ⟨_, _, rfl, by rw [ax_v, ax_ad_lt hh], hs1⟩, ?_, ⟨Nat.le_trans g5.1 (by omega), fun x h1 h2 => (o1 x (Nat.lt_of_lt_of_le h1 g5.1)).trans (g5.2.1 x h1 h2), g5.2.2⟩, by omega, by omega⟩
  refine g4.push e1 z1 o1 (Or.inr ⟨rfl, rfl, fun _ => by rw [arrV_size, List.length_replicate], fun j x hj => ?_⟩)
  have hj2 : (List.replicate N (defaultValue (newarray.typeOf atype)))[j]? = some x := hj
  have hjl : j < N := by have := (List.getElem?_eq_some_iff.mp hj2).1; rwa [List.length_replicate] at this
  rw [List.getElem?_replicate_of_lt hjl] at hj2
  cases hj2
  exact ⟨_, by rw [a3 j]; exact arrV_read _ _ hjl, ax_v_default hf.1 hf.2⟩
theorem AR.anewarray {t N i : Nat} {C : String} {n : Int32} (hd : decode k.2.1 pc = .ok (.anewarray i, 3)) (ht : ax_tys[t]? = some (.object C)) (hw1 : Cond.classLink k.1.cls i C ∈ ax_tb) (hw2 : Cond.arrayOver (.object C) ∈ ax_tb) (hn : ¬ n < 0) (hN : n.toNatClampNeg = N) (hs : N ≤ 60000000) (h1 : 1 ≤ bc) (h2 : N ≤ bs) (K : AR ns l k d r P X (pc + 3) lv (.ref h.length :: st) (h ++ [(100 + t, List.replicate N .null)]) (bc - 1) (bs - N)) : AR ns l k d r P X pc lv (.int n :: st) h bc bs := by
  intro D b o TC TS p e R s m args below meth c Z hX hP hXX lvc ls stc H locs cells slots hG
  have hx := hX.1
  have hb := hX.2.1
  obtain ⟨g1, g2, g3, g4, g5, g6, g7⟩ := hG
  obtain ⟨-, -, -, hown, hts, hT, -⟩ := id hX
  obtain ⟨-, -, -, -, -, -, -, -, hTC, hTS, -, -, -, -, hsz⟩ := id hX
  refine ax_size hsz g4 g6 (fun hh => ?_)
  obtain ⟨v1, t1, rfl, hv1, hs1⟩ := g3
  cases hv1
  subst hN
  obtain ⟨a1, ⟨kA, comp, b1, b2, b3, b4⟩, a3⟩ := hT.2.1 t _ ht
  refine W.anew hx hb hown (hts _ hw1) (hts _ hw2) rfl hd rfl hn (by omega) (by omega) (by omega) fun cA kA2 comp2 q1 q2 q3 q4 => ?_
  have hcA : cA = D.1 (100 + t) := Option.some.inj (q1.symm.trans b4)
  subst hcA
  rw [show H.size = b + h.length from g4.1]
  refine K D b o TC TS p e R s m args below meth c Z hX hP hXX _ _ _ _ _ _ _ ⟨g1, g2, ⟨_, _, rfl, by rw [ax_v, ax_ad_lt hh], hs1⟩, ?_, ⟨Nat.le_trans g5.1 (by simp), fun x h1 h2 => by rw [← g5.2.1 x h1 h2]; have := Nat.lt_of_lt_of_le h1 g5.1; simp [Array.getElem?_push, Nat.ne_of_lt this], g5.2.2⟩, by omega, by omega⟩
  refine g4.push (cell := { cls := D.1 (100 + t), slots := Array.replicate n.toNatClampNeg .null, vm := .none }) (by simp) (by simp) (fun x h => by simp [Array.getElem?_push, Nat.ne_of_lt h]) (Or.inr ⟨rfl, rfl, fun _ => by simp, fun j x hj => ?_⟩)
  have hj2 : (List.replicate n.toNatClampNeg Value.null)[j]? = some x := hj
  have hjl : j < n.toNatClampNeg := by have := (List.getElem?_eq_some_iff.mp hj2).1; rwa [List.length_replicate] at this
  rw [List.getElem?_replicate_of_lt hjl] at hj2
  cases hj2
  exact ⟨.null, by rw [a3 j]; simp [hjl], rfl⟩
theorem AR.getstatic {i : Nat} {q : String × String × String × Value} (hd : decode k.2.1 pc = .ok (.getstatic i, 3)) (hq : q ∈ ax_stat) (hw : Cond.fieldLink k.1.cls i q.1 q.2.1 q.2.2.1 ∈ ax_tb) (K : AR ns l k d r P X (pc + 3) lv (q.2.2.2 :: st) h bc bs) : AR ns l k d r P X pc lv st h bc bs := by
  intro D b o TC TS p e R s m args below meth c Z hX hP hXX lvc ls stc H locs cells slots hG
  have hx := hX.1
  have hb := hX.2.1
  obtain ⟨g1, g2, g3, g4, g5, g6, g7⟩ := hG
  obtain ⟨-, -, -, hown, hts, hT, -⟩ := id hX
  obtain ⟨-, -, -, -, -, -, h7, -, -⟩ := hT
  obtain ⟨v, hv, hZ⟩ := h7 q hq
  exact va_gets hx hb hZ g5 hown (hts _ hw) (fun _ h => h) hd (K D b o TC TS p e R s m args below meth c Z hX hP hXX _ _ _ _ _ _ _ ⟨g1, g2, ⟨_, _, rfl, hv, g3⟩, g4, g5, g6, g7⟩)
theorem AR.objInit {i a : Nat} (hd : decode k.2.1 pc = .ok (.invokespecial i, 3)) (hw1 : Cond.methodLink k.1.cls i Lib.objectInit ∈ ax_tb) (hw2 : Cond.instanceMethod Lib.objectInit ∈ ax_tb) (hw3 : Cond.code Lib.objectInit ⟨#[0xb1]⟩ 1 none ∈ ax_tb) (hc : (st.map fun v => v.category).sum ≤ 8) (K : AR ns l k d r P X (pc + 3) lv st h bc bs) : AR ns l k d r P X pc lv (.ref a :: st) h bc bs := by
  intro D b o TC TS p e R s m args below meth c Z hX hP hXX lvc ls stc H locs cells slots hG
  have hx := hX.1
  have hb := hX.2.1
  obtain ⟨g1, g2, g3, g4, g5, g6, g7⟩ := hG
  obtain ⟨-, -, -, hown, hts, hT, -⟩ := id hX
  obtain ⟨-, -, hml, -, -, -, hfr, hlo, -⟩ := id hX
  obtain ⟨v1, t1, rfl, hv1, hs1⟩ := g3
  cases hv1
  refine W.objInit hx hb hown (hts _ hw1) (hts _ hw2) (hts _ hw3) rfl (g1.1.trans hml.symm) rfl hd (by omega) ?_ ?_
  · rw [ax_vs_cat hs1]
    show 2 * 0 + _ + 12 ≤ _
    omega
  · exact W.eq (g2 := F0 m (pc + 3) ls t1) rfl (K D b o TC TS p e R s m args below meth c Z hX hP hXX _ _ _ _ _ _ _ ⟨g1, g2, hs1, g4, g5, g6, g7⟩)
end AXS
end
section
/-! CONTRACTS, and calls by them -/
def ax_ov (b : Nat) (o : Nat → Nat) : Option Value → Option Value → Prop
  | none, v => v = none
  | some x, v => ∃ w, v = some w ∧ ax_v b o x w
theorem ax_ov_vs {b : Nat} {o : Nat → Nat} {x v : Option Value} {xs vs : List Value} (h : ax_ov b o x v) (hs : ax_vs b o xs vs) : ax_vs b o (x.toList ++ xs) (v.toList ++ vs) := by
  cases x with
  | none => cases h; exact hs
  | some x =>
    obtain ⟨w, rfl, hw⟩ := h
    exact ⟨w, vs, rfl, hw, hs⟩
abbrev ax_Q : Type := (Option Value ⊕ String) → ax_H → Prop
def ax_hd (k : ax_M) : Cond := match k.2.2.2.2 with
  | [] => .code k.1 k.2.1 k.2.2.1 k.2.2.2.1
  | hh => .codeWith k.1 k.2.1 k.2.2.1 k.2.2.2.1 hh
def ax_ws (k : ax_M) : List Cond := ax_hd k :: ax_tb
def ax_rm (d mc ms : Nat) : Room := { frames := d + 12, cells := mc, slots := ms, locals := 40 * d + 300 }
def ax_Pc (ns : ax_NS) (r : ax_H) (D : va_G) (b : Nat) (o : Nat → Nat) (mc : Nat) (as : List Value) (h : ax_H) : Array Value → State → Prop := fun a U => ∃ ac : List Value, a = ac.toArray ∧ ax_vs b o as ac ∧ ax_R D b o h U.heap ∧ ax_T ns r D b o U ∧ U.heap.size + mc < b + 1000000000
def ax_Qc (D : va_G) (b : Nat) (o : Nat → Nat) (Q : ax_Q) : Array Value → State → Outcome → State → Prop := fun _ st oc t => ∃ (v vc : Option Value) (h : ax_H), oc = .returned vc ∧ ax_ov b o v vc ∧ Q (.inl v) h ∧ ax_R D b o h t.heap ∧ va_F (fun q => b ≤ q) st t
def ax_XC (D : va_G) (b : Nat) (o : Nat → Nat) (Q : ax_Q) : String → State → State → Prop := fun E st t => ∃ h : ax_H, Q (.inr E) h ∧ ax_R D b o h t.heap ∧ va_F (fun q => b ≤ q) st t
/-- the method, called with as over the heap h, comes to an end with Q -/
def AM (ns : ax_NS) (l : Launch) (k : ax_M) (d : Nat) (r : ax_H) (mc ms : Nat) (as : List Value) (h : ax_H) (Q : ax_Q) : Prop :=
  ∀ (D : va_G) (b : Nat) (o : Nat → Nat), vx_Met l k.1 (ax_ws k) (ax_rm d mc ms) (ax_Pc ns r D b o mc as h) (ax_Qc D b o Q) (ax_XC D b o Q) mc ms (fun q => b ≤ q)
theorem ax_blind {ns : ax_NS} {r : ax_H} {D : va_G} {b : Nat} {o : Nat → Nat} {mc : Nat} {as : List Value} {h : ax_H} : FrameBlind (ax_Pc ns r D b o mc as h) := by
  intro a U g mk hp
  obtain ⟨ac, h1, h2, h3, h4, h5⟩ := hp
  exact ⟨ac, h1, h2, h3, h4.warm (s := U) (U := U.calling g mk a) (State.WarmedH.refl U) (Nat.le_refl _) (fun _ _ _ => rfl), h5⟩
section AXC
variable {ns : ax_NS} {l : Launch} {k y : ax_M} {d dy : Nat} {r : ax_H} {P : ax_P} {X : ax_PX} {pc : Nat} {lv : List (Nat × Value)} {st stk as : List Value} {h : ax_H} {bc bs mc ms : Nat} {Q : ax_Q}
variable {D : va_G} {b : Nat} {o : Nat → Nat} {TC TS : Nat} {p : Program} {e : Env} {R : Room} {s : State} {m : MethodId} {args : Array Value} {below : List Frame} {meth : Method} {c : Code} {Z : State → Prop}
/-- behind a call -/
theorem ax_behind {nL : Nat} {lvc : List (Nat × Value)} {ls : Array Slot} {rest st0 : List Value} {H : Heap} {locs : List Loc} {cells slots : Nat} {a : Array Value}
    (hr : vx_Run p l e R s m args below meth c H locs cells slots mc ms (F0 m pc ls st0) rest (ax_Qc D b o Q a) (ax_XC D b o Q) (fun q => b ≤ q))
    (g1 : lv_has ls nL lvc) (g2 : ax_ls b o lv lvc) (g3 : ax_vs b o st rest) (g5 : va_S (fun q => b ≤ q) s.heap H locs) (g6 : cells + bc ≤ TC) (g7 : slots + bs ≤ TS) (hmc : mc ≤ bc) (hms : ms ≤ bs)
    (kk : ∀ v h', Q (.inl v) h' → AC l nL D b o TC TS p e R s m args below meth c Z (pc + 3) lv (v.toList ++ st) h' (bc - mc) (bs - ms))
    (kx : ∀ E h', Q (.inr E) h' → ACX l nL D b o TC TS p e R s m args below meth c Z pc lv E h' (bc - mc) (bs - ms)) : W p l e R s m args below meth c H locs cells slots Z (F0 m pc ls st0) := by
  intro T hT X
  rcases hr T hT X with ⟨v, st₀, t, T', L, h0, X', hL, e1, e2, ⟨va, vc, h', hvc, hov, hQ, hR, hF⟩, hst⟩ | ⟨q, st₀, t, T', L, E, ce, h0, X', hL, e1, e2, ⟨h', hQ, hR, hF⟩, hce, hcv, hcl, hst⟩
  · cases hvc
    obtain ⟨k1, k2, k3⟩ := vx_keep h0 e1 g5 (fun q _ hq => hq) (fun q hq => hq) hL hF
    obtain ⟨t2, a1, b1⟩ := kk va h' hQ lvc ls (v.toList ++ rest) T'.heap (locs ++ L) (cells + mc) (slots + ms) ⟨g1, g2, ax_ov_vs hov g3, by rw [e1]; exact hR, k3, by omega, by omega⟩ T' rfl X'
    exact ⟨t2, hst t2 a1, b1⟩
  · obtain ⟨k1, k2, k3⟩ := vx_keep h0 e1 g5 (fun q _ hq => hq) (fun q hq => hq) hL hF
    obtain ⟨t2, a1, b1⟩ := kx E h' hQ lvc ls rest T'.heap (locs ++ L) (cells + mc) (slots + ms) q ce ⟨g1, g2, rfl, by rw [e1]; exact hR, k3, by omega, by omega⟩ (by rw [e1]; exact hce) hcv hcl T' rfl X'
    exact ⟨t2, hst.trans a1, b1⟩
theorem ax_pcs (hX : ax_X ns l k d r D b o TC TS p R s m args meth c) {H : Heap} {locs : List Loc} {cells slots : Nat} {T : State} (X : Stand p l e R s m args below meth c T locs cells slots) (hT : T.heap = H) (g4 : ax_R D b o h H) (g5 : va_S (fun q => b ≤ q) s.heap H locs) (g6 : cells + bc ≤ TC) (hmc : mc ≤ bc) {ac : List Value} (ha : ax_vs b o as ac) :
    ∀ U : State, U.heap = H → s.WarmedH U.vm → ax_Pc ns r D b o mc as h ac.toArray U := by
  intro U hU hW
  obtain ⟨-, -, -, -, -, hT9, -, -, -, -, -, -, -, -, hsz⟩ := hX
  refine ⟨ac, rfl, ha, by rw [hU]; exact g4, hT9.warm hW (by rw [hU]; exact g5.1) (fun q h1 h2 => by rw [hU]; exact g5.2.1 q h1 h2), ?_⟩
  have h1 := X.heapSize
  rw [hT] at h1
  rw [hU]
  omega
/-- what a call's site says of the callee, but how it is found -/
def ax_site (k y : ax_M) (i n : Nat) : Prop := y.2.2.2.2 = [] ∧ ax_hd y ∈ ax_tb ∧ Cond.initialized y.1.cls ∈ ax_tb ∧ Cond.methodLink k.1.cls i y.1 ∈ ax_tb ∧ (y.1.cls ≠ "java/lang/invoke/MethodHandle" ∧ y.1.cls ≠ "java/lang/invoke/VarHandle" ∧ (parseMethodDescriptor y.1.desc).map (fun d => d.parameters.length) = some n) ∧ y.2.2.1 ≤ 21
theorem ax_ws_good (h : ax_hd y ∈ ax_tb) : GoodIn ax_tb (ax_ws y) := by
  intro w hw
  rcases List.mem_cons.mp hw with rfl | hw
  · exact ax_good _ h
  · exact ax_good w hw
theorem ax_hd_nil (h : y.2.2.2.2 = []) : ax_hd y = .code y.1 y.2.1 y.2.2.1 y.2.2.2.1 := by simp only [ax_hd, h]
set_option maxRecDepth 20000 in
theorem ax_loc {x dy d L : Nat} (h5 : x ≤ 21) (hd : dy + 1 ≤ d) (hlo : 40 * d + 300 ≤ L) : 8 + (x + 11) + (40 * dy + 300) ≤ L := by omega
theorem ax_cb {i n : Nat} (hX : ax_X ns l k d r D b o TC TS p R s m args meth c) (hs : ax_site k y i n) (hd : dy + 1 ≤ d) : CallB R s args k.1.cls i y.1 y.2.1 y.2.2.1 y.2.2.2.1 (ax_ws y) (ax_rm dy mc ms) mc ms n := by
  obtain ⟨h0, h1, h2, h3, h4, h5⟩ := hs
  obtain ⟨-, -, -, -, hts, -, hfr, hlo, -⟩ := hX
  refine callB_of n hts (ax_ws_good h1) (ws' := ax_tb) (by rw [ax_ws, ax_hd_nil h0]) rfl rfl (hts _ h2) (hts _ h3) h4 ⟨?_, ?_⟩
  · show dy + 12 + 1 ≤ R.frames
    omega
  · exact ax_loc h5 hd hlo
theorem ax_fix (hX : ax_X ns l k d r D b o TC TS p R s m args meth c) : CallFix p m c k.2.1 k.2.2.1 s args ax_tb k.1.cls := ⟨hX.1, hX.2.1, hX.2.2.1, hX.2.2.2.1, hX.2.2.2.2.1⟩
theorem AR.invokestatic {i n : Nat} (hd : decode k.2.1 pc = .ok (.invokestatic i, 3)) (hs : ax_site k y i n) (hstat : Cond.static y.1 ∈ ax_tb) (hst : stk = as.reverse ++ st) (hn : as.length = n) (hM : AM ns l y dy r mc ms as h Q) (hdy : dy + 1 ≤ d) (hmc : mc ≤ bc) (hms : ms ≤ bs) (hcat : (st.map fun v => v.category).sum ≤ 8)
    (K : ∀ v h', Q (.inl v) h' → AR ns l k d r P X (pc + 3) lv (v.toList ++ st) h' (bc - mc) (bs - ms)) (KX : ∀ E h', Q (.inr E) h' → X pc lv E h' (bc - mc) (bs - ms)) : AR ns l k d r P X pc lv stk h bc bs := by
  intro D b o TC TS p e R s m args below meth c Z hX hP hXX lvc ls stc H locs cells slots hG T hT X9
  subst hst
  obtain ⟨g1, g2, g3, g4, g5, g6, g7⟩ := hG
  obtain ⟨v1, v2, rfl, hv1, hv2⟩ := ax_vs_split g3
  have ha := ax_vs_rev hv1
  rw [List.reverse_reverse] at ha
  obtain ⟨-, -, -, -, hts, -, -, -, hTC, hTS, -⟩ := id hX
  refine ax_behind (vx_runS (ax_fix hX) (hM D b o) ⟨ax_cb hX hs hdy, hts _ hstat⟩ ⟨ax_blind, ax_pcs hX X9 hT g4 g5 g6 hmc ha⟩ rfl ((ax_vs_len ha).trans hn) (g1.1) (by rw [List.reverse_reverse]) (lv_room (by rw [ax_vs_cat hv2]; exact hcat)) hd ⟨by omega, by omega⟩) g1 g2 hv2 g5 g6 g7 hmc hms (fun v h' hq => K v h' hq D b o TC TS p e R s m args below meth c Z hX hP hXX) (fun E h' hq => hXX _ _ _ _ _ _ (KX E h' hq)) T hT X9
/-- the receiver's class is known -/
theorem ax_recv (hX : ax_X ns l k d r D b o TC TS p R s m args meth c) {H : Heap} {locs : List Loc} (g4 : ax_R D b o h H) (g5 : va_S (fun q => b ≤ q) s.heap H locs) {a ci : Nat} {q : ax_Cl} {vs : List Value} (hq : ax_cls[ci]? = some q) (hg : ax_get r h a = some (ci, vs)) : ∃ cell : Cell, H[ax_ad b o a]? = some cell ∧ cell.vm.isStatics = false ∧ s.vm.findClass q.1 = some cell.cls := by
  obtain ⟨-, -, -, -, -, hT, -⟩ := hX
  obtain ⟨cell, e1, e2⟩ := ax_got hT g4 g5 hg
  obtain ⟨c1, c2, c3, -⟩ := ax_obj hT hq e2
  exact ⟨cell, e1, by rw [c1]; rfl, by rw [c2]; exact c3.2.1⟩
theorem AR.invokevirtual {i n a ci : Nat} {q : ax_Cl} {vs : List Value} (hd : decode k.2.1 pc = .ok (.invokevirtual i, 3)) (hs : ax_site k y i n) (hin : Cond.instanceMethod y.1 ∈ ax_tb) (hse : Cond.selects q.1 y.1 y.1 ∈ ax_tb) (hq : ax_cls[ci]? = some q) (hg : ax_get r h a = some (ci, vs)) (hst : stk = as.reverse ++ .ref a :: st) (hn : as.length = n) (hM : AM ns l y dy r mc ms (.ref a :: as) h Q) (hdy : dy + 1 ≤ d) (hmc : mc ≤ bc) (hms : ms ≤ bs) (hcat : (st.map fun v => v.category).sum ≤ 8)
    (K : ∀ v h', Q (.inl v) h' → AR ns l k d r P X (pc + 3) lv (v.toList ++ st) h' (bc - mc) (bs - ms)) (KX : ∀ E h', Q (.inr E) h' → X pc lv E h' (bc - mc) (bs - ms)) : AR ns l k d r P X pc lv stk h bc bs := by
  intro D b o TC TS p e R s m args below meth c Z hX hP hXX lvc ls stc H locs cells slots hG T hT X9
  subst hst
  obtain ⟨g1, g2, g3, g4, g5, g6, g7⟩ := hG
  obtain ⟨v1, v2, rfl, hv1, w0, t0, rfl, hw0, hv2⟩ := ax_vs_split g3
  cases hw0
  have ha := ax_vs_rev hv1
  rw [List.reverse_reverse] at ha
  have ha2 : ax_vs b o (.ref a :: as) (.ref (ax_ad b o a) :: v1.reverse) := ⟨_, _, rfl, rfl, ha⟩
  obtain ⟨-, -, -, -, hts, -, -, -, hTC, hTS, -⟩ := id hX
  refine ax_behind (vx_runV (ax_fix hX) (hM D b o) ⟨ax_cb hX hs hdy, hts _ hin, hts _ hse⟩ ⟨ax_blind, ax_recv hX g4 g5 hq hg, ax_pcs hX X9 hT g4 g5 g6 hmc ha2⟩ rfl ((ax_vs_len ha).trans hn) (g1.1) (by rw [List.reverse_reverse]) (lv_room (by rw [ax_vs_cat hv2]; exact hcat)) hd ⟨by omega, by omega⟩) g1 g2 hv2 g5 g6 g7 hmc hms (fun v h' hq => K v h' hq D b o TC TS p e R s m args below meth c Z hX hP hXX) (fun E h' hq => hXX _ _ _ _ _ _ (KX E h' hq)) T hT X9
theorem AR.invokespecial {i n a : Nat} (hd : decode k.2.1 pc = .ok (.invokespecial i, 3)) (hs : ax_site k y i n) (hin : Cond.instanceMethod y.1 ∈ ax_tb) (hini : y.1.name = "<init>") (hret : y.2.2.2.1 = none) (hst : stk = as.reverse ++ .ref a :: st) (hn : as.length = n) (hM : AM ns l y dy r mc ms (.ref a :: as) h Q) (hdy : dy + 1 ≤ d) (hmc : mc ≤ bc) (hms : ms ≤ bs) (hcat : (st.map fun v => v.category).sum ≤ 8)
    (K : ∀ v h', Q (.inl v) h' → AR ns l k d r P X (pc + 3) lv (v.toList ++ st) h' (bc - mc) (bs - ms)) (KX : ∀ E h', Q (.inr E) h' → X pc lv E h' (bc - mc) (bs - ms)) : AR ns l k d r P X pc lv stk h bc bs := by
  intro D b o TC TS p e R s m args below meth c Z hX hP hXX lvc ls stc H locs cells slots hG T hT X9
  subst hst
  obtain ⟨g1, g2, g3, g4, g5, g6, g7⟩ := hG
  obtain ⟨v1, v2, rfl, hv1, w0, t0, rfl, hw0, hv2⟩ := ax_vs_split g3
  cases hw0
  have ha := ax_vs_rev hv1
  rw [List.reverse_reverse] at ha
  have ha2 : ax_vs b o (.ref a :: as) (.ref (ax_ad b o a) :: v1.reverse) := ⟨_, _, rfl, rfl, ha⟩
  obtain ⟨-, -, -, -, hts, -, -, -, hTC, hTS, -⟩ := id hX
  have hcb := ax_cb (mc := mc) (ms := ms) hX hs hdy
  rw [hret] at hcb
  refine ax_behind (vx_runI (ax_fix hX) (hM D b o) ⟨hcb, hini, hts _ hin⟩ ⟨ax_blind, ax_pcs hX X9 hT g4 g5 g6 hmc ha2⟩ rfl ((ax_vs_len ha).trans hn) (g1.1) (by rw [List.reverse_reverse]) (lv_room (by rw [ax_vs_cat hv2]; exact hcat)) hd ⟨by omega, by omega⟩) g1 g2 hv2 g5 g6 g7 hmc hms (fun v h' hq => K v h' hq D b o TC TS p e R s m args below meth c Z hX hP hXX) (fun E h' hq => hXX _ _ _ _ _ _ (KX E h' hq)) T hT X9
/-- a private constructor of a nest mate -/
theorem AR.invokenest {i n a : Nat} {host : String} (hd : decode k.2.1 pc = .ok (.invokespecial i, 3)) (hs0 : y.2.2.2.2 = []) (hs1 : ax_hd y ∈ ax_tb) (hs2 : Cond.initialized y.1.cls ∈ ax_tb) (hs3 : Cond.methodLinkNest k.1.cls i y.1 host ∈ ns.1) (hs4 : y.1.cls ≠ "java/lang/invoke/MethodHandle" ∧ y.1.cls ≠ "java/lang/invoke/VarHandle" ∧ (parseMethodDescriptor y.1.desc).map (fun d => d.parameters.length) = some n) (hs5 : y.2.2.1 ≤ 21) (hin : Cond.instanceMethod y.1 ∈ ax_tb) (hini : y.1.name = "<init>") (hret : y.2.2.2.1 = none) (hst : stk = as.reverse ++ .ref a :: st) (hn : as.length = n) (hM : AM ns l y dy r mc ms (.ref a :: as) h Q) (hdy : dy + 1 ≤ d) (hmc : mc ≤ bc) (hms : ms ≤ bs) (hcat : (st.map fun v => v.category).sum ≤ 8)
    (K : ∀ v h', Q (.inl v) h' → AR ns l k d r P X (pc + 3) lv (v.toList ++ st) h' (bc - mc) (bs - ms)) (KX : ∀ E h', Q (.inr E) h' → X pc lv E h' (bc - mc) (bs - ms)) : AR ns l k d r P X pc lv stk h bc bs := by
  intro D b o TC TS p e R s m args below meth c Z hX hP hXX lvc ls stc H locs cells slots hG T hT X9
  subst hst
  obtain ⟨g1, g2, g3, g4, g5, g6, g7⟩ := hG
  obtain ⟨v1, v2, rfl, hv1, w0, t0, rfl, hw0, hv2⟩ := ax_vs_split g3
  cases hw0
  have ha := ax_vs_rev hv1
  rw [List.reverse_reverse] at ha
  have ha2 : ax_vs b o (.ref a :: as) (.ref (ax_ad b o a) :: v1.reverse) := ⟨_, _, rfl, rfl, ha⟩
  obtain ⟨-, -, -, -, hts, hT9, hfr, hlo, hTC, hTS, -⟩ := id hX
  have hcb : va_CN R s args k.1.cls i y.1 host y.2.1 y.2.2.1 y.2.2.2.1 (ax_ws y) (ax_rm dy mc ms) mc ms n := by
    refine va_cnB n hts (ax_ws_good hs1) (ws' := ax_tb) (by rw [ax_ws, ax_hd_nil hs0]) rfl rfl (hT9.2.2.1 _ hs3).2 (hts _ hs2) hs4 ⟨?_, ?_⟩
    · show dy + 12 + 1 ≤ R.frames
      omega
    · exact ax_loc hs5 hdy hlo
  rw [hret] at hcb
  refine ax_behind (vx_runIN (ax_fix hX) (hM D b o) ⟨hcb, hini, hts _ hin⟩ ⟨ax_blind, ax_pcs hX X9 hT g4 g5 g6 hmc ha2⟩ rfl ((ax_vs_len ha).trans hn) (g1.1) (by rw [List.reverse_reverse]) (lv_room (by rw [ax_vs_cat hv2]; exact hcat)) hd ⟨by omega, by omega⟩) g1 g2 hv2 g5 g6 g7 hmc hms (fun v h' hq => K v h' hq D b o TC TS p e R s m args below meth c Z hX hP hXX) (fun E h' hq => hXX _ _ _ _ _ _ (KX E h' hq)) T hT X9
end AXC
end
section
/-! ENDS of methods, and a contract out of a walk -/
/-- this place is 'throw new E(text)' -/
def ax_thr (ns : ax_NS) (k : ax_M) (pc : Nat) (E : String) : Prop :=
  ∃ (ik is ic : Nat) (text : String) (names : List String) (wide : Bool), decode k.2.1 pc = .ok (.new ik, 3) ∧ decode k.2.1 (pc + 3) = .ok (.dup, 1) ∧
    (if wide then decode k.2.1 (pc + 4) = .ok (.ldc_w is, 3) ∧ decode k.2.1 (pc + 7) = .ok (.invokespecial ic, 3) ∧ decode k.2.1 (pc + 10) = .ok (.athrow, 1) else decode k.2.1 (pc + 4) = .ok (.ldc is, 2) ∧ decode k.2.1 (pc + 6) = .ok (.invokespecial ic, 3) ∧ decode k.2.1 (pc + 9) = .ok (.athrow, 1)) ∧
    Bundle.fit E = true ∧ (∀ n ∈ names, Bundle.fit n = true) ∧ names.length ≤ 8 ∧ Cond.classLink k.1.cls ik E ∈ ax_tb ∧ Cond.initialized E ∈ ax_tb ∧ (k.1.cls, is, text) ∈ ns.2 ∧
    (∀ w ∈ vx_atS k.1.cls ic E names, w ∈ ax_tb ∨ w ∈ ns.1) ∧ (∀ w ∈ Cond.classLink k.1.cls ik E :: Cond.initialized E :: vx_atS k.1.cls ic E names, vx_ot w = true)
/-- the walk's end: an answer, or a throw -/
def ax_ret (ns : ax_NS) (k : ax_M) (Q : ax_Q) : ax_P := fun pc _ st h bc bs =>
  (∃ x, st = [x] ∧ ax_isI x = true ∧ decode k.2.1 pc = .ok (.ireturn, 1) ∧ k.2.2.2.1 = some .int ∧ Q (.inl (some x)) h) ∨
  (∃ x ty, st = [x] ∧ ax_fit ty x = true ∧ ax_isI x = true ∧ decode k.2.1 pc = .ok (.ireturn, 1) ∧ k.2.2.2.1 = some ty ∧ Q (.inl (some x)) h) ∨
  (∃ x, st = [x] ∧ ax_isL x = true ∧ decode k.2.1 pc = .ok (.lreturn, 1) ∧ k.2.2.2.1 = some .long ∧ Q (.inl (some x)) h) ∨
  (∃ x rt, st = [x] ∧ ax_isA x = true ∧ decode k.2.1 pc = .ok (.areturn, 1) ∧ k.2.2.2.1 = some rt ∧ ((∃ n, rt = .object n) ∨ ∃ t, rt = .array t) ∧ Q (.inl (some x)) h) ∨
  (st = [] ∧ decode k.2.1 pc = .ok (.return_, 1) ∧ k.2.2.2.1 = none ∧ Q (.inl none) h) ∨
  (∃ E, ax_thr ns k pc E ∧ k.2.2.2.2 = [] ∧ 1 ≤ bc ∧ 6 ≤ bs ∧ (st.map fun v => v.category).sum ≤ 100 ∧ ∀ j, Q (.inr E) (h ++ List.replicate j (99, [])))
theorem ax_R.grow {D : va_G} {b : Nat} {o : Nat → Nat} {h : ax_H} {H H1 : Heap} (hR : ax_R D b o h H) (hz : H.size ≤ H1.size) (ho : ∀ x, x < H.size → H1[x]? = H[x]?) : ax_R D b o (h ++ List.replicate (H1.size - H.size) (99, [])) H1 := by
  refine ⟨by rw [List.length_append, List.length_replicate, ← Nat.add_assoc, ← hR.1]; omega, fun k q hk => ?_⟩
  by_cases hl : k < h.length
  · rw [List.getElem?_append_left hl] at hk
    obtain ⟨c', e1, e2⟩ := hR.2 k q hk
    exact ⟨c', by rw [ho _ (by rw [hR.1]; omega)]; exact e1, e2⟩
  · rw [List.getElem?_append_right (by omega)] at hk
    have h1 := (List.getElem?_eq_some_iff.mp hk).1
    rw [List.length_replicate] at h1
    rw [List.getElem?_replicate_of_lt h1] at hk
    cases hk
    have h2 : b + k < H1.size := by have := hR.1; omega
    exact ⟨H1[b + k], Array.getElem?_eq_getElem h2, Or.inl rfl⟩
section AXE
variable {ns : ax_NS} {l : Launch} {k : ax_M} {d : Nat} {r : ax_H} {X : ax_PX} {pc : Nat} {lv : List (Nat × Value)} {st as : List Value} {h : ax_H} {bc bs mc ms : Nat} {Q : ax_Q}
variable {D : va_G} {b : Nat} {o : Nat → Nat} {TC TS : Nat} {p : Program} {e : Env} {R : Room} {s : State} {m : MethodId} {args : Array Value} {below : List Frame} {meth : Method} {c : Code} {Z : State → Prop}
theorem ax_end (hX : ax_X ns l k d r D b o mc ms p R s m args meth c) (hr : meth.sig.returnType = k.2.2.2.1) (hp : ax_ret ns k Q pc lv st h bc bs) : AC l k.2.2.1 D b o mc ms p e R s m args below meth c (vx_MQ below (ax_Qc D b o Q) (ax_XC D b o Q) args s mc ms (fun q => b ≤ q)) pc lv st h bc bs := by
  intro lvc ls stc H locs cells slots hG
  obtain ⟨g1, g2, g3, g4, g5, g6, g7⟩ := hG
  obtain ⟨hx, hb, hml, hown, hts, hT, hfr, hlo, -, -, hlk, -, htr, hex, -⟩ := id hX
  have hF : ∀ t : State, t.heap = H → va_F (fun q => b ≤ q) s t := fun t ht => g5.F ht
  rcases hp with ⟨x, rfl, hI, hd, hk, hQ⟩ | ⟨x, ty, rfl, hft, hI, hd, hk, hQ⟩ | ⟨x, rfl, hI, hd, hk, hQ⟩ | ⟨x, rt, rfl, hI, hd, hk, hrt, hQ⟩ | ⟨rfl, hd, hk, hQ⟩ | ⟨E, hthr, hnil, h1, h2, hcat, hQ⟩
  · obtain ⟨v, t1, rfl, hv, ht1⟩ := g3
    cases ht1
    obtain ⟨i, rfl⟩ := ax_v_I hv hI
    refine W.widen (k := mc) (n := ms) (by omega) (by omega) (vx_ret (W.iret hx hb (by rw [hr]; exact hk) (fun t ht hW => ?_) g5.2.2 hd hlk))
    exact ⟨some x, _, h, rfl, ⟨_, rfl, hv⟩, hQ, by rw [ht]; exact g4, hF t ht⟩
  · obtain ⟨v, t1, rfl, hv, ht1⟩ := g3
    cases ht1
    obtain ⟨i, rfl⟩ := ax_v_I hv hI
    refine W.widen (k := mc) (n := ms) (by omega) (by omega) (vx_ret (W.zret hx hb (by rw [hr]; exact hk) (ax_fit_spec hft hv).1 (fun t ht hW => ?_) g5.2.2 hd hlk))
    exact ⟨some x, _, h, rfl, ⟨_, rfl, hv⟩, hQ, by rw [ht]; exact g4, hF t ht⟩
  · obtain ⟨v, t1, rfl, hv, ht1⟩ := g3
    cases ht1
    obtain ⟨i, rfl⟩ := ax_v_L hv hI
    refine W.widen (k := mc) (n := ms) (by omega) (by omega) (vx_ret (W.lret hx hb (by rw [hr]; exact hk) (fun t ht hW => ?_) g5.2.2 hd hlk))
    exact ⟨some x, _, h, rfl, ⟨_, rfl, hv⟩, hQ, by rw [ht]; exact g4, hF t ht⟩
  · obtain ⟨v, t1, rfl, hv, ht1⟩ := g3
    cases ht1
    obtain ⟨i, rfl⟩ := ax_v_A hv hI
    refine W.widen (k := mc) (n := ms) (by omega) (by omega) (vx_ret (W.aret hx hb (by rw [hr]; exact hk) hrt (Or.inr ⟨_, rfl⟩) (fun t ht hW => ?_) g5.2.2 hd hlk))
    exact ⟨some x, _, h, rfl, ⟨_, rfl, hv⟩, hQ, by rw [ht]; exact g4, hF t ht⟩
  · cases g3
    refine W.widen (k := mc) (n := ms) (by omega) (by omega) (vx_ret (W.vret hx hb (by rw [hr]; exact hk) (fun t ht hW => ?_) g5.2.2 hd hlk))
    exact ⟨none, _, h, rfl, rfl, hQ, by rw [ht]; exact g4, hF t ht⟩
  · obtain ⟨ik, is, ic, text, names, wide, d0, d3, dw, hfit, hnames, hnl, hw1, hw2, hstr, hat, hgood⟩ := hthr
    obtain ⟨-, -, hT3, hT4, hU, hN, -⟩ := hT
    obtain ⟨sa, hsa⟩ := hT4 _ hstr
    have hat' : ∀ w ∈ vx_atS k.1.cls ic E names, w.before args s = true := fun w hw => by
      rcases hat w hw with h9 | h9
      · exact hts w h9
      · obtain ⟨n1, n2⟩ := hT3 w h9
        exact va_Nw.use (by cases w <;> first | rfl | (simp [ax_nwk] at n1)) n2
    have hout : ∀ pc, ∀ x ∈ c.exceptionTable.toList, covers x pc = false := fun pc x hx' => by
      rw [hex, hnil] at hx'
      simp [tableOf] at hx'
    have hxc : ∀ t : State, s.vm.Alike t.vm → H.size ≤ t.heap.size → (∀ q : Nat, q < H.size → t.heap[q]? = H[q]?) → ax_XC D b o Q E s t := fun t _ hz hk => by
      refine ⟨_, hQ (t.heap.size - H.size), g4.grow hz hk, ⟨Nat.le_trans g5.1 hz, fun q q1 q2 => ?_⟩⟩
      rw [hk q (Nat.lt_of_lt_of_le q1 g5.1)]
      exact g5.2.1 q q1 q2
    have hrl : ((stc.map fun v => v.category).sum) + (13 * (names.length + 1) + 43) ≤ R.locals := by
      rw [ax_vs_cat g3]
      omega
    have hcx : cells + 1 ≤ R.cells := by have := hX.2.2.2.2.2.2.2.2.1; omega
    have hsx : slots + 6 ≤ R.slots := by have := hX.2.2.2.2.2.2.2.2.2.1; omega
    cases wide with
    | false =>
      simp only [Bool.false_eq_true, if_false] at dw
      exact vx_throwS hx hb htr hown hfit hnames (hts _ hw1) (hts _ hw2) hsa hat' hgood hU hN g5 (g1.1.trans hml.symm) d0 d3 dw.1 dw.2.1 dw.2.2 (hout _) (by omega) hrl hcx hsx hlk hxc g5.2.2 (by omega) (by omega)
    | true =>
      simp only [if_true] at dw
      exact vx_throwSW hx hb htr hown hfit hnames (hts _ hw1) (hts _ hw2) hsa hat' hgood hU hN g5 (g1.1.trans hml.symm) d0 d3 dw.1 dw.2.1 dw.2.2 (hout _) (by omega) hrl hcx hsx hlk hxc g5.2.2 (by omega) (by omega)
/-- an exception goes on to the caller -/
theorem ax_endx {E : String} (hX : ax_X ns l k d r D b o mc ms p R s m args meth c) (hnil : k.2.2.2.2 = []) (hQ : Q (.inr E) h) : ACX l k.2.2.1 D b o mc ms p e R s m args below meth c (vx_MQ below (ax_Qc D b o Q) (ax_XC D b o Q) args s mc ms (fun q => b ≤ q)) pc lv E h bc bs := by
  intro lvc ls stc H locs cells slots q ce hG hce hcv hcl
  obtain ⟨g1, g2, g3, g4, g5, g6, g7⟩ := hG
  obtain ⟨hx, hb, hml, hown, hts, hT, hfr, hlo, -, -, hlk, -, htr, hex, -⟩ := id hX
  refine vx_out (fun x hx' => ?_) hlk hce hcv hcl (fun t ht _ => ⟨h, hQ, by rw [ht]; exact g4, g5.F ht⟩) g5.2.2 (by omega) (by omega)
  rw [hex, hnil] at hx'
  simp [tableOf] at hx'
/-- a method without handlers: its contract, by its walk -/
theorem AM.of (hy : plainName k.1.cls = true) (hnil : k.2.2.2.2 = []) (hl : l.stackTraces = false) (hlen : (lg_sl as).length ≤ k.2.2.1) (hbody : AR ns l k d r (ax_ret ns k Q) (fun _ _ E h _ _ => Q (.inr E) h) 0 (lv_args 0 as) [] h mc ms) : AM ns l k d r mc ms as h Q := by
  intro D b o
  refine vx_ofW (cc := k.2.1) (maxL := k.2.2.1) (ret := k.2.2.2.1) hy (ws' := ax_tb) (by rw [ax_ws, ax_hd_nil hnil]) ?_
  intro p e s m args below meth c s₁ B hml hex hv
  obtain ⟨ac, rfl, ha, hR, hT, hz⟩ := hv
  have hts0 := atoms_spec (ws := ax_ws k) B.pre
  have hX : ax_X ns l k d r D b o mc ms p (headSpec (ax_ws k) (ax_rm d mc ms)).room s m ac.toArray meth c := by
    refine ⟨B.exec, B.bytes, hml, findClass_of_methodNamed B.named, fun w hw => hts0 w (List.mem_cons_of_mem _ hw), hT, Nat.le_refl _, Nat.le_refl _, Nat.le_refl _, Nat.le_refl _, B.notSynchronized, (name_of_methodNamed B.named B.method).1, hl, ?_, hz⟩
    rw [hnil]
    cases he : c.exceptionTable.toList with
    | nil => rfl
    | cons x t => exact (hex x (by rw [he]; exact List.mem_cons_self)).elim
  rw [lg_entry_eq]
  have hlc : (lg_sl ac).length ≤ k.2.2.1 := by rw [ax_sl_len ha]; exact hlen
  have hl0 := lv_entry ac (n := k.2.2.1) hlc
  exact hbody D b o mc ms p e _ s m ac.toArray below meth c _ hX (fun pc lv st h bc bs hp => ax_end hX B.returns hp) (fun pc lv E h bc bs hq => ax_endx hX hnil hq) _ _ _ _ [] 0 0 ⟨hl0, ax_args 0 ha, rfl, hR, va_S.rf, by omega, by omega⟩
end AXE
end
