/-! ENDS of methods, and a contract out of a walk -/
/-- this place is 'throw new E(text)' -/
def ax_thr (ns : ax_NS) (k : ax_M) (pc : Nat) (E : String) : Prop :=
  ∃ (ik is ic : Nat) (text : String) (names : List String) (wide : Bool), decode k.2.1 pc = .ok (.new ik, 3) ∧ decode k.2.1 (pc + 3) = .ok (.dup, 1) ∧
    (if wide then decode k.2.1 (pc + 4) = .ok (.ldc_w is, 3) ∧ decode k.2.1 (pc + 7) = .ok (.invokespecial ic, 3) ∧ decode k.2.1 (pc + 10) = .ok (.athrow, 1) else decode k.2.1 (pc + 4) = .ok (.ldc is, 2) ∧ decode k.2.1 (pc + 6) = .ok (.invokespecial ic, 3) ∧ decode k.2.1 (pc + 9) = .ok (.athrow, 1)) ∧
    Bundle.fit E = true ∧ (∀ n ∈ names, Bundle.fit n = true) ∧ names.length ≤ 8 ∧ Cond.classLink k.1.cls ik E ∈ ax_tb ∧ Cond.initialized E ∈ ax_tb ∧ (k.1.cls, is, text) ∈ ns.2 ∧
    (∀ w ∈ vx_atS k.1.cls ic E names, w ∈ ax_tb ∨ w ∈ ns.1) ∧ (∀ w ∈ Cond.classLink k.1.cls ik E :: Cond.initialized E :: vx_atS k.1.cls ic E names, vx_ot w = true)
/-- the walk's end: an answer, or a throw -/
def ax_ret (ns : ax_NS) (k : ax_M) (Q : ax_Q) : ax_P := fun pc _ st h bc bs =>
  (∃ x, st = [x] ∧ ax_isI x = true ∧ decode k.2.1 pc = .ok (.ireturn, 1) ∧ k.2.2.2.1 = some .int ∧ Q (.inl (some x)) h) ∨
  (∃ x ty, st = [x] ∧ ax_fit ty x = true ∧ ax_isI x = true ∧ decode k.2.1 pc = .ok (.ireturn, 1) ∧ k.2.2.2.1 = some ty ∧ Q (.inl (some x)) h) ∨
  (∃ x, st = [x] ∧ ax_isL x = true ∧ decode k.2.1 pc = .ok (.lreturn, 1) ∧ k.2.2.2.1 = some .long ∧ Q (.inl (some x)) h) ∨
  (∃ x rt, st = [x] ∧ ax_isA x = true ∧ decode k.2.1 pc = .ok (.areturn, 1) ∧ k.2.2.2.1 = some rt ∧ ((∃ n, rt = .object n) ∨ ∃ t, rt = .array t) ∧ Q (.inl (some x)) h) ∨
  (st = [] ∧ decode k.2.1 pc = .ok (.return_, 1) ∧ k.2.2.2.1 = none ∧ Q (.inl none) h) ∨
  (∃ E, ax_thr ns k pc E ∧ k.2.2.2.2 = [] ∧ 1 ≤ bc ∧ 6 ≤ bs ∧ (st.map fun v => v.category).sum ≤ 100 ∧ ∀ j, Q (.inr E) (h ++ List.replicate j (99, [])))
theorem ax_R.grow {D : va_G} {b : Nat} {o : Nat → Nat} {h : ax_H} {H H1 : Heap} (hR : ax_R D b o h H) (hz : H.size ≤ H1.size) (ho : ∀ x, x < H.size → H1[x]? = H[x]?) : ax_R D b o (h ++ List.replicate (H1.size - H.size) (99, [])) H1 := by
  refine ⟨by rw [List.length_append, List.length_replicate, ← Nat.add_assoc, ← hR.1]; omega, fun k q hk => ?_⟩
  by_cases hl : k < h.length
  · rw [List.getElem?_append_left hl] at hk
    obtain ⟨c', e1, e2⟩ := hR.2 k q hk
    exact ⟨c', by rw [ho _ (by rw [hR.1]; omega)]; exact e1, e2⟩
  · rw [List.getElem?_append_right (by omega)] at hk
    have h1 := (List.getElem?_eq_some_iff.mp hk).1
    rw [List.length_replicate] at h1
    rw [List.getElem?_replicate_of_lt h1] at hk
    cases hk
    have h2 : b + k < H1.size := by have := hR.1; omega
    exact ⟨H1[b + k], Array.getElem?_eq_getElem h2, Or.inl rfl⟩
section AXE
variable {ns : ax_NS} {l : Launch} {k : ax_M} {d : Nat} {r : ax_H} {X : ax_PX} {pc : Nat} {lv : List (Nat × Value)} {st as : List Value} {h : ax_H} {bc bs mc ms : Nat} {Q : ax_Q}
variable {D : va_G} {b : Nat} {o : Nat → Nat} {TC TS : Nat} {p : Program} {e : Env} {R : Room} {s : State} {m : MethodId} {args : Array Value} {below : List Frame} {meth : Method} {c : Code} {Z : State → Prop}
theorem ax_end (hX : ax_X ns l k d r D b o mc ms p R s m args meth c) (hr : meth.sig.returnType = k.2.2.2.1) (hp : ax_ret ns k Q pc lv st h bc bs) : AC l k.2.2.1 D b o mc ms p e R s m args below meth c (vx_MQ below (ax_Qc D b o Q) (ax_XC D b o Q) args s mc ms (fun q => b ≤ q)) pc lv st h bc bs := by
  intro lvc ls stc H locs cells slots hG
  obtain ⟨g1, g2, g3, g4, g5, g6, g7⟩ := hG
  obtain ⟨hx, hb, hml, hown, hts, hT, hfr, hlo, -, -, hlk, -, htr, hex, -⟩ := id hX
  have hF : ∀ t : State, t.heap = H → va_F (fun q => b ≤ q) s t := fun t ht => g5.F ht
  rcases hp with ⟨x, rfl, hI, hd, hk, hQ⟩ | ⟨x, ty, rfl, hft, hI, hd, hk, hQ⟩ | ⟨x, rfl, hI, hd, hk, hQ⟩ | ⟨x, rt, rfl, hI, hd, hk, hrt, hQ⟩ | ⟨rfl, hd, hk, hQ⟩ | ⟨E, hthr, hnil, h1, h2, hcat, hQ⟩
  · obtain ⟨v, t1, rfl, hv, ht1⟩ := g3
    cases ht1
    obtain ⟨i, rfl⟩ := ax_v_I hv hI
    refine W.widen (k := mc) (n := ms) (by omega) (by omega) (vx_ret (W.iret hx hb (by rw [hr]; exact hk) (fun t ht hW => ?_) g5.2.2 hd hlk))
    exact ⟨some x, _, h, rfl, ⟨_, rfl, hv⟩, hQ, by rw [ht]; exact g4, hF t ht⟩
  · obtain ⟨v, t1, rfl, hv, ht1⟩ := g3
    cases ht1
    obtain ⟨i, rfl⟩ := ax_v_I hv hI
    refine W.widen (k := mc) (n := ms) (by omega) (by omega) (vx_ret (W.zret hx hb (by rw [hr]; exact hk) (ax_fit_spec hft hv).1 (fun t ht hW => ?_) g5.2.2 hd hlk))
    exact ⟨some x, _, h, rfl, ⟨_, rfl, hv⟩, hQ, by rw [ht]; exact g4, hF t ht⟩
  · obtain ⟨v, t1, rfl, hv, ht1⟩ := g3
    cases ht1
    obtain ⟨i, rfl⟩ := ax_v_L hv hI
    refine W.widen (k := mc) (n := ms) (by omega) (by omega) (vx_ret (W.lret hx hb (by rw [hr]; exact hk) (fun t ht hW => ?_) g5.2.2 hd hlk))
    exact ⟨some x, _, h, rfl, ⟨_, rfl, hv⟩, hQ, by rw [ht]; exact g4, hF t ht⟩
  · obtain ⟨v, t1, rfl, hv, ht1⟩ := g3
    cases ht1
    obtain ⟨i, rfl⟩ := ax_v_A hv hI
    refine W.widen (k := mc) (n := ms) (by omega) (by omega) (vx_ret (W.aret hx hb (by rw [hr]; exact hk) hrt (Or.inr ⟨_, rfl⟩) (fun t ht hW => ?_) g5.2.2 hd hlk))
    exact ⟨some x, _, h, rfl, ⟨_, rfl, hv⟩, hQ, by rw [ht]; exact g4, hF t ht⟩
  · cases g3
    refine W.widen (k := mc) (n := ms) (by omega) (by omega) (vx_ret (W.vret hx hb (by rw [hr]; exact hk) (fun t ht hW => ?_) g5.2.2 hd hlk))
    exact ⟨none, _, h, rfl, rfl, hQ, by rw [ht]; exact g4, hF t ht⟩
  · obtain ⟨ik, is, ic, text, names, wide, d0, d3, dw, hfit, hnames, hnl, hw1, hw2, hstr, hat, hgood⟩ := hthr
    obtain ⟨-, -, hT3, hT4, hU, hN, -⟩ := hT
    obtain ⟨sa, hsa⟩ := hT4 _ hstr
    have hat' : ∀ w ∈ vx_atS k.1.cls ic E names, w.before args s = true := fun w hw => by
      rcases hat w hw with h9 | h9
      · exact hts w h9
      · obtain ⟨n1, n2⟩ := hT3 w h9
        exact ax_nw_use n1 n2
    have hout : ∀ pc, ∀ x ∈ c.exceptionTable.toList, covers x pc = false := fun pc x hx' => by
      rw [hex, hnil] at hx'
      simp [tableOf] at hx'
    have hxc : ∀ t : State, s.vm.Alike t.vm → H.size ≤ t.heap.size → (∀ q : Nat, q < H.size → t.heap[q]? = H[q]?) → ax_XC D b o Q E s t := fun t _ hz hk => by
      refine ⟨_, hQ (t.heap.size - H.size), g4.grow hz hk, ⟨Nat.le_trans g5.1 hz, fun q q1 q2 => ?_⟩⟩
      rw [hk q (Nat.lt_of_lt_of_le q1 g5.1)]
      exact g5.2.1 q q1 q2
    have hrl : ((stc.map fun v => v.category).sum) + (13 * (names.length + 1) + 43) ≤ R.locals := by
      rw [ax_vs_cat g3]
      omega
    have hcx : cells + 1 ≤ R.cells := by have := hX.2.2.2.2.2.2.2.2.1; omega
    have hsx : slots + 6 ≤ R.slots := by have := hX.2.2.2.2.2.2.2.2.2.1; omega
    cases wide with
    | false =>
      simp only [Bool.false_eq_true, if_false] at dw
      exact vx_throwS hx hb htr hown hfit hnames (hts _ hw1) (hts _ hw2) hsa hat' hgood hU hN g5 (g1.1.trans hml.symm) d0 d3 dw.1 dw.2.1 dw.2.2 (hout _) (by omega) hrl hcx hsx hlk hxc g5.2.2 (by omega) (by omega)
    | true =>
      simp only [if_true] at dw
      exact vx_throwSW hx hb htr hown hfit hnames (hts _ hw1) (hts _ hw2) hsa hat' hgood hU hN g5 (g1.1.trans hml.symm) d0 d3 dw.1 dw.2.1 dw.2.2 (hout _) (by omega) hrl hcx hsx hlk hxc g5.2.2 (by omega) (by omega)
/-- an exception goes on to the caller -/
theorem ax_endx {E : String} (hX : ax_X ns l k d r D b o mc ms p R s m args meth c) (hnil : k.2.2.2.2 = []) (hQ : Q (.inr E) h) : ACX l k.2.2.1 D b o mc ms p e R s m args below meth c (vx_MQ below (ax_Qc D b o Q) (ax_XC D b o Q) args s mc ms (fun q => b ≤ q)) pc lv E h bc bs := by
  intro lvc ls stc H locs cells slots q ce hG hce hcv hcl
  obtain ⟨g1, g2, g3, g4, g5, g6, g7⟩ := hG
  obtain ⟨hx, hb, hml, hown, hts, hT, hfr, hlo, -, -, hlk, -, htr, hex, -⟩ := id hX
  refine vx_out (fun x hx' => ?_) hlk hce hcv hcl (fun t ht _ => ⟨h, hQ, by rw [ht]; exact g4, g5.F ht⟩) g5.2.2 (by omega) (by omega)
  rw [hex, hnil] at hx'
  simp [tableOf] at hx'
/-- a method without handlers: its contract, by its walk -/
theorem AM.of (hy : plainName k.1.cls = true) (hnil : k.2.2.2.2 = []) (hl : l.stackTraces = false) (hlen : (lg_sl as).length ≤ k.2.2.1) (hbody : AR ns l k d r (ax_ret ns k Q) (fun _ _ E h _ _ => Q (.inr E) h) 0 (lv_args 0 as) [] h mc ms) : AM ns l k d r mc ms as h Q := by
  intro D b o
  refine vx_ofW (cc := k.2.1) (maxL := k.2.2.1) (ret := k.2.2.2.1) hy (ws' := ax_tb) (by rw [ax_ws, ax_hd_nil hnil]) ?_
  intro p e s m args below meth c s₁ B hml hex hv
  obtain ⟨ac, rfl, ha, hR, hT, hz⟩ := hv
  have hts0 := atoms_spec (ws := ax_ws k) B.pre
  have hX : ax_X ns l k d r D b o mc ms p (headSpec (ax_ws k) (ax_rm d mc ms)).room s m ac.toArray meth c := by
    refine ⟨B.exec, B.bytes, hml, findClass_of_methodNamed B.named, fun w hw => hts0 w (List.mem_cons_of_mem _ hw), hT, Nat.le_refl _, Nat.le_refl _, Nat.le_refl _, Nat.le_refl _, B.notSynchronized, (name_of_methodNamed B.named B.method).1, hl, ?_, hz⟩
    rw [hnil]
    cases he : c.exceptionTable.toList with
    | nil => rfl
    | cons x t => exact (hex x (by rw [he]; exact List.mem_cons_self)).elim
  rw [lg_entry_eq]
  have hlc : (lg_sl ac).length ≤ k.2.2.1 := by rw [ax_sl_len ha]; exact hlen
  have hl0 := lv_entry ac (n := k.2.2.1) hlc
  exact hbody D b o mc ms p e _ s m ac.toArray below meth c _ hX (fun pc lv st h bc bs hp => ax_end hX B.returns hp) (fun pc lv E h bc bs hq => ax_endx hX hnil hq) _ _ _ _ [] 0 0 ⟨hl0, ax_args 0 ha, rfl, hR, va_S.rf, by omega, by omega⟩
end AXE
