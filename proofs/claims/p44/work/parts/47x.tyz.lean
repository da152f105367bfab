/-! THE TYPED MACHINE, 19: contracts where more is known of the cells from before -/
theorem AM.weak {ns : ax_NS} {l : Launch} {k : ax_M} {d : Nat} {r r' : ax_H} {mc ms : Nat} {as : List Value} {h : ax_H} {Q : ax_Q} (hr : ∀ (s : State) (b : Nat) (o : Nat → Nat) (H : Heap), ax_O s b o r' H → ax_O s b o r H) (K : AM ns l k d r mc ms as h Q) : AM ns l k d r' mc ms as h Q := by
  intro D b o
  refine MetFree.mono (K D b o) (fun a U hp => ?_) (fun _ _ _ _ _ h9 => h9) (fun _ _ _ _ _ hq => hq)
  obtain ⟨ac, e1, e2, e3, ⟨t1, t2, t3, t4, t5, t6, t7, t8, t9, t10⟩, e5⟩ := hp
  exact ⟨ac, e1, e2, e3, ⟨t1, t2, t3, t4, t5, t6, t7, hr _ _ _ _ t8, t9, t10⟩, e5⟩
theorem ty_R_O {s : State} {b L : Nat} {o : Nat → Nat} {H : Heap} {xs : Nat → Int32} (q : ax_O s b o (ax_r L xs) H) : ax_O s b o ty_R H := fun k z hz => q k z (by
  rcases k with _ | k
  · exact hz
  · cases hz)
