/-! p44, 2: the parser -/
theorem hy_t3_3 : ty_tt 3 3 = (0, 0, 0, 0, 201) := by decide +kernel
theorem hy_t3_5 : ty_tt 3 5 = (0, 0, 0, 0, 11) := by decide +kernel
theorem hy_t3_7 : ty_tt 3 7 = (0, 0, 0, (-2147483648), 2147483647) := by decide +kernel
theorem hy_t0_2 : ty_tt 0 2 = (0, 0, 0, (-2147483648), 2147483647) := by decide +kernel
theorem hy_t0_0 : ty_tt 0 0 = (2, 1, 0, 0, 0) := by decide +kernel
theorem hy_t0_1 : ty_tt 0 1 = (2, 3, 0, 0, 0) := by decide +kernel

section PG
variable {l : Launch} {h : ax_H} {x y : Int32} {u : Int32}
/-- where the reader stands: position, token, number, variable -/
abbrev q_S : Type := Int × Int × Int × Int
def q_sp (B : Int → Int) (p : Int) : Int := if B p = 32 then p + 1 else p
def q_nx (B : Int → Int) (s : q_S) : q_S :=
  if t_dig (B (q_sp B s.1)) = true then (q_sp B s.1 + 1, 2, B (q_sp B s.1) - 48, s.2.2.2)
  else if 97 ≤ B (q_sp B s.1) ∧ B (q_sp B s.1) ≤ 108 then (q_sp B s.1 + 1, 3, s.2.2.1, B (q_sp B s.1) - 97)
  else (q_sp B s.1 + (t_sy (B (q_sp B s.1)) (B (q_sp B s.1 + 1))).2, (t_sy (B (q_sp B s.1)) (B (q_sp B s.1 + 1))).1, s.2.2.1, s.2.2.2)
/-- a place at which a token of the law's texts begins -/
def q_ok (B : Int → Int) (p : Int) : Prop := 0 ≤ p ∧ p ≤ 190 ∧ B (q_sp B p) ≠ 32 ∧ (t_dig (B (q_sp B p)) = true → t_dig (B (q_sp B p + 1)) = false)
def q_R (g : ax_H) (s : q_S) : Prop := hy_z g 3 1 = s.1 ∧ hy_z g 3 2 = s.2.1 ∧ hy_z g 3 4 = s.2.2.1 ∧ hy_z g 3 5 = s.2.2.2
def pq_61 (h : ax_H) (s : q_S) : ax_Q := fun res g => res = .inl none ∧ hy_H 0 g ∧ pf [3] h g ∧ q_k h g ∧ q_R g (q_nx (t_B h) s)
theorem q61_c (hlst : l.stackTraces = false) {X : ax_PX} {s : q_S} (ok : q_ok (t_B h) s.1) : ∀ g, hy_H 0 g → pf [3] h g → q_k h g → hy_z g 3 1 = q_sp (t_B h) s.1 → hy_z g 3 4 = s.2.2.1 → hy_z g 3 5 = s.2.2.2 → AR ax_ns l (ax_mm 61) 2 ty_R (ax_ret ax_ns (ax_mm 61) (pq_61 h s)) X 39 [(0, .ref 3)] [] g 0 0 := by
  intro g Hg Pg Kg gp g4 g5
  obtain ⟨o1, o2, o3, o4⟩ := ok
  have pr : 0 ≤ q_sp (t_B h) s.1 ∧ q_sp (t_B h) s.1 ≤ 191 := by unfold q_sp; split <;> omega
  unfold q_k at Kg
  have Fg : ty_F pW g g := ty_F_refl _ _
  refine AR.s (pc' := 40) (lv' := [(0, .ref 3)]) (st' := [.ref 3]) (h' := g) _ hn_61 hk_61_39 rfl ?_
  refine AR.s (pc' := 41) (lv' := [(0, .ref 3)]) (st' := [.ref 3, .ref 3]) (h' := g) _ hn_61 hk_61_40 rfl ?_
  refine AR.gI hk_61_41 (by decide) Hg (q := 3) (n := 9) (by decide) (by decide +kernel) (by decide +kernel) (by decide) hy_t3_1 (fun x965 dx965 lx965 ux965 => ?_)
  show AR _ _ _ _ _ _ _ 44 [(0, .ref 3)] [.int x965, .ref 3] g _ _
  have sx965 := hy_zi dx965
  have r966a := Int32.le_toInt x965
  have r966b := Int32.toInt_lt x965
  refine AR.pT hk_61_44 (by decide) Hg Fg (q := 3) (by decide) (by decide +kernel) (show ax_cls[6]? = some hy_c6 from rfl) (by decide +kernel) (by decide) rfl (by rw [hy_t3_3]; exact ⟨_, rfl, by omega, by omega, Or.inl rfl⟩) (by decide +kernel) (by decide +kernel) ?_
  rintro g967 ⟨Hg967, Fg967, Gg967, Eg967⟩
  show AR _ _ _ _ _ _ _ 47 [(0, .ref 3)] [] g967 _ _
  have pg967 : pf [3] h g967 := pf_st Pg Gg967.1 Eg967 (by simp)
  have zg967_1 : hy_z g967 3 1 = hy_z g 3 1 := (hf_put Eg967 1).trans (if_neg (by decide))
  have zg967_2 : hy_z g967 3 2 = hy_z g 3 2 := (hf_put Eg967 2).trans (if_neg (by decide))
  have zg967_4 : hy_z g967 3 4 = hy_z g 3 4 := (hf_put Eg967 4).trans (if_neg (by decide))
  have zg967_5 : hy_z g967 3 5 = hy_z g 3 5 := (hf_put Eg967 5).trans (if_neg (by decide))
  have zg967_7 : hy_z g967 3 7 = hy_z g 3 7 := (hf_put Eg967 7).trans (if_neg (by decide))
  have zg967_8 : hy_z g967 3 8 = hy_z g 3 8 := (hf_put Eg967 8).trans (if_neg (by decide))
  show AR _ _ _ _ _ _ _ 47 [(0, .ref 3)] [] g967 _ _
  refine AR.s (pc' := 48) (lv' := [(0, .ref 3)]) (st' := [.ref 3]) (h' := g967) _ hn_61 hk_61_47 rfl ?_
  refine AR.gR hk_61_48 (by decide) Hg967 (q := 3) (n := 9) (by decide) (by decide +kernel) (by decide +kernel) (by decide) hy_t3_0 ?_
  show AR _ _ _ _ _ _ _ 51 [(0, .ref 3)] [.ref 1] g967 _ _
  refine AR.s (pc' := 52) (lv' := [(0, .ref 3)]) (st' := [.ref 3, .ref 1]) (h' := g967) _ hn_61 hk_61_51 rfl ?_
  refine AR.gI hk_61_52 (by decide) Hg967 (q := 3) (n := 9) (by decide) (by decide +kernel) (by decide +kernel) (by decide) hy_t3_1 (fun x968 dx968 lx968 ux968 => ?_)
  show AR _ _ _ _ _ _ _ 55 [(0, .ref 3)] [.int x968, .ref 1] g967 _ _
  have sx968 := hy_zi dx968
  have eB : t_B g967 = t_B h := t_Bp pg967 (by decide) (by decide)
  obtain ⟨vc972, cc972⟩ := q_c1 Hg967
  refine AR.jr (r := 1) (as := [.int x968]) (rest := []) hk_61_55 (by decide) (by decide +kernel) (by decide) cc972 rfl rfl (Nat.le_of_ble_eq_true rfl) (q_68 hlst Hg967) (by decide) (Nat.zero_le _) (Nat.zero_le _) ?_ (fun E h' q => by obtain ⟨-, x, e, -⟩ := q; cases e)
  rintro w970 g971 ⟨eg971, z969, e, ez969⟩
  cases e
  obtain rfl := eg971.symm
  show AR _ _ _ _ _ _ _ 58 [(0, .ref 3)] [.int z969] g967 _ _
  have eb : z969.toInt = t_B h (q_sp (t_B h) s.1) := by rw [ez969, eB]; congr 1; omega
  have p1 : hy_z g967 3 1 = q_sp (t_B h) s.1 := by omega
  show AR _ _ _ _ _ _ _ 58 [(0, .ref 3)] [.int z969] g967 _ _
  refine AR.s (pc' := 59) (lv' := [(1, .int z969), (0, .ref 3)]) (st' := []) (h' := g967) _ hn_61 hk_61_58 rfl ?_
  refine AR.s (pc' := 60) (lv' := [(1, .int z969), (0, .ref 3)]) (st' := [.int z969]) (h' := g967) _ hn_61 hk_61_59 rfl ?_
  refine AR.cs (as := [.int z969]) (rest := []) hk_61_60 (by decide +kernel) rfl rfl (Nat.le_of_ble_eq_true rfl) (q_65 hlst) (by decide) (Nat.zero_le _) (Nat.zero_le _) (fun E h' q => by obtain ⟨-, x, e, -⟩ := q; cases e) ?_
  rintro w974 g975 ⟨eg975, z973, e, Az973⟩
  cases e
  obtain rfl := eg975.symm
  show AR _ _ _ _ _ _ _ 63 [(1, .int z969), (0, .ref 3)] [.int z973] g967 _ _
  show AR _ _ _ _ _ _ _ 63 [(1, .int z969), (0, .ref 3)] [.int z973] g967 _ _
  refine AR.zeq hk_61_63 (tgt := 73) (by decide) (fun p2 => ?_) (fun p3 => ?_)
  · have dg : ¬ (t_dig (t_B h (q_sp (t_B h) s.1)) = true) := by rw [← eb]; rcases Az973 with ⟨e, -⟩ | ⟨-, e⟩; exact absurd e (by omega); rw [e]; decide
    show AR _ _ _ _ _ _ _ 73 [(1, .int z969), (0, .ref 3)] [] g967 _ _
    refine AR.s (pc' := 74) (lv' := [(1, .int z969), (0, .ref 3)]) (st' := [.int z969]) (h' := g967) _ hn_61 hk_61_73 rfl ?_
    refine AR.bipushT hk_61_74 (by decide) (fun z977 ez977 => ?_)
    show AR _ _ _ _ _ _ _ 76 [(1, .int z969), (0, .ref 3)] [.int z977, .int z969] g967 _ _
    refine AR.jlt hk_61_76 (tgt := 102) (by decide) (fun n1 => ?_) (fun n2 => ?_)
    · have en : q_nx (t_B h) s = (q_sp (t_B h) s.1 + (t_sy (t_B h (q_sp (t_B h) s.1)) (t_B h (q_sp (t_B h) s.1 + 1))).2, (t_sy (t_B h (q_sp (t_B h) s.1)) (t_B h (q_sp (t_B h) s.1 + 1))).1, s.2.2.1, s.2.2.2) := by unfold q_nx; rw [if_neg dg, if_neg (by omega)]
      show AR _ _ _ _ _ _ _ 102 [(1, .int z969), (0, .ref 3)] [] g967 _ _
      refine AR.s (pc' := 103) (lv' := [(1, .int z969), (0, .ref 3)]) (st' := [.ref 3]) (h' := g967) _ hn_61 hk_61_102 rfl ?_
      refine AR.s (pc' := 104) (lv' := [(1, .int z969), (0, .ref 3)]) (st' := [.int z969, .ref 3]) (h' := g967) _ hn_61 hk_61_103 rfl ?_
      obtain ⟨vc978, cc978⟩ := q_c3 Hg967
      refine AR.jr (r := 3) (as := [.int z969]) (rest := []) hk_61_104 (by decide) (by decide +kernel) (by decide) cc978 rfl rfl (Nat.le_of_ble_eq_true rfl) (q_63 hlst Hg967 (by omega) (by omega) (by rw [eB, p1]; exact eb)) (by decide) (Nat.zero_le _) (Nat.zero_le _) ?_ (fun E h' q => by cases q.1)
      rintro w g2 ⟨e, H2, P2, K2, a1, a2, a3, a4⟩
      cases e
      show AR _ _ _ _ _ _ _ 107 [(1, .int z969), (0, .ref 3)] [] g2 _ _
      rw [eB, p1] at a1 a2
      have Q : pf [3] h g2 := pf.tr pg967 P2 (fun _ q => q)
      unfold q_k at K2
      exact AR.vret hk_61_107 hr_61 ⟨rfl, H2, Q, ⟨by omega, by omega⟩, by rw [en]; exact ⟨a1, a2, (by show _ = s.2.2.1; omega), (by show _ = s.2.2.2; omega)⟩⟩
    · refine AR.s (pc' := 80) (lv' := [(1, .int z969), (0, .ref 3)]) (st' := [.int z969]) (h' := g967) _ hn_61 hk_61_79 rfl ?_
      refine AR.bipushT hk_61_80 (by decide) (fun z979 ez979 => ?_)
      show AR _ _ _ _ _ _ _ 82 [(1, .int z969), (0, .ref 3)] [.int z979, .int z969] g967 _ _
      refine AR.jgt hk_61_82 (tgt := 102) (by decide) (fun n3 => ?_) (fun n4 => ?_)
      · have en : q_nx (t_B h) s = (q_sp (t_B h) s.1 + (t_sy (t_B h (q_sp (t_B h) s.1)) (t_B h (q_sp (t_B h) s.1 + 1))).2, (t_sy (t_B h (q_sp (t_B h) s.1)) (t_B h (q_sp (t_B h) s.1 + 1))).1, s.2.2.1, s.2.2.2) := by unfold q_nx; rw [if_neg dg, if_neg (by omega)]
        show AR _ _ _ _ _ _ _ 102 [(1, .int z969), (0, .ref 3)] [] g967 _ _
        refine AR.s (pc' := 103) (lv' := [(1, .int z969), (0, .ref 3)]) (st' := [.ref 3]) (h' := g967) _ hn_61 hk_61_102 rfl ?_
        refine AR.s (pc' := 104) (lv' := [(1, .int z969), (0, .ref 3)]) (st' := [.int z969, .ref 3]) (h' := g967) _ hn_61 hk_61_103 rfl ?_
        obtain ⟨vc980, cc980⟩ := q_c3 Hg967
        refine AR.jr (r := 3) (as := [.int z969]) (rest := []) hk_61_104 (by decide) (by decide +kernel) (by decide) cc980 rfl rfl (Nat.le_of_ble_eq_true rfl) (q_63 hlst Hg967 (by omega) (by omega) (by rw [eB, p1]; exact eb)) (by decide) (Nat.zero_le _) (Nat.zero_le _) ?_ (fun E h' q => by cases q.1)
        rintro w g2 ⟨e, H2, P2, K2, a1, a2, a3, a4⟩
        cases e
        show AR _ _ _ _ _ _ _ 107 [(1, .int z969), (0, .ref 3)] [] g2 _ _
        rw [eB, p1] at a1 a2
        have Q : pf [3] h g2 := pf.tr pg967 P2 (fun _ q => q)
        unfold q_k at K2
        exact AR.vret hk_61_107 hr_61 ⟨rfl, H2, Q, ⟨by omega, by omega⟩, by rw [en]; exact ⟨a1, a2, (by show _ = s.2.2.1; omega), (by show _ = s.2.2.2; omega)⟩⟩
      · have en : q_nx (t_B h) s = (q_sp (t_B h) s.1 + 1, 3, s.2.2.1, t_B h (q_sp (t_B h) s.1) - 97) := by unfold q_nx; rw [if_neg dg, if_pos (by omega)]
        show AR _ _ _ _ _ _ _ 85 [(1, .int z969), (0, .ref 3)] [] g967 _ _
        refine AR.s (pc' := 86) (lv' := [(1, .int z969), (0, .ref 3)]) (st' := [.ref 3]) (h' := g967) _ hn_61 hk_61_85 rfl ?_
        refine AR.s (pc' := 87) (lv' := [(1, .int z969), (0, .ref 3)]) (st' := [.int z969, .ref 3]) (h' := g967) _ hn_61 hk_61_86 rfl ?_
        refine AR.bipushT hk_61_87 (by decide) (fun z981 ez981 => ?_)
        show AR _ _ _ _ _ _ _ 89 [(1, .int z969), (0, .ref 3)] [.int z981, .int z969, .ref 3] g967 _ _
        refine AR.subT hk_61_89 (by omega) (by omega) (fun z982 ez982 => ?_)
        show AR _ _ _ _ _ _ _ 90 [(1, .int z969), (0, .ref 3)] [.int z982, .ref 3] g967 _ _
        have r983a := Int32.le_toInt z982
        have r983b := Int32.toInt_lt z982
        refine AR.pT hk_61_90 (by decide) Hg967 Fg967 (q := 3) (by decide) (by decide +kernel) (show ax_cls[6]? = some hy_c6 from rfl) (by decide +kernel) (by decide) rfl (by rw [hy_t3_5]; exact ⟨_, rfl, by omega, by omega, Or.inl rfl⟩) (by decide +kernel) (by decide +kernel) ?_
        rintro g984 ⟨Hg984, Fg984, Gg984, Eg984⟩
        show AR _ _ _ _ _ _ _ 93 [(1, .int z969), (0, .ref 3)] [] g984 _ _
        have pg984 : pf [3] h g984 := pf_st pg967 Gg984.1 Eg984 (by simp)
        have zg984_1 : hy_z g984 3 1 = hy_z g967 3 1 := (hf_put Eg984 1).trans (if_neg (by decide))
        have zg984_2 : hy_z g984 3 2 = hy_z g967 3 2 := (hf_put Eg984 2).trans (if_neg (by decide))
        have zg984_4 : hy_z g984 3 4 = hy_z g967 3 4 := (hf_put Eg984 4).trans (if_neg (by decide))
        have zg984_5 : hy_z g984 3 5 = z982.toInt := (hf_put Eg984 5).trans (if_pos rfl)
        have zg984_7 : hy_z g984 3 7 = hy_z g967 3 7 := (hf_put Eg984 7).trans (if_neg (by decide))
        have zg984_8 : hy_z g984 3 8 = hy_z g967 3 8 := (hf_put Eg984 8).trans (if_neg (by decide))
        show AR _ _ _ _ _ _ _ 93 [(1, .int z969), (0, .ref 3)] [] g984 _ _
        refine AR.s (pc' := 94) (lv' := [(1, .int z969), (0, .ref 3)]) (st' := [.ref 3]) (h' := g984) _ hn_61 hk_61_93 rfl ?_
        refine AR.iconstT hk_61_94 (by decide) (fun z985 ez985 => ?_)
        show AR _ _ _ _ _ _ _ 95 [(1, .int z969), (0, .ref 3)] [.int z985, .ref 3] g984 _ _
        refine AR.iconstT hk_61_95 (by decide) (fun z986 ez986 => ?_)
        show AR _ _ _ _ _ _ _ 96 [(1, .int z969), (0, .ref 3)] [.int z986, .int z985, .ref 3] g984 _ _
        obtain ⟨vc987, cc987⟩ := q_c3 Hg984
        refine AR.jr (r := 3) (as := [.int z985, .int z986]) (rest := []) hk_61_96 (by decide) (by decide +kernel) (by decide) cc987 rfl rfl (Nat.le_of_ble_eq_true rfl) (q_64 hlst Hg984 (by omega) (by omega) (by omega) (by omega) (by omega)) (by decide) (Nat.zero_le _) (Nat.zero_le _) ?_ (fun E h' q => by cases q.1)
        rintro w g2 ⟨e, H2, P2, K2, a1, a2, a3, a4⟩
        cases e
        show AR _ _ _ _ _ _ _ 99 [(1, .int z969), (0, .ref 3)] [] g2 _ _
        refine AR.gotoT hk_61_99 (tgt := 107) (by decide) ?_
        have Q : pf [3] h g2 := pf.tr pg984 P2 (fun _ q => q)
        unfold q_k at K2
        exact AR.vret hk_61_107 hr_61 ⟨rfl, H2, Q, ⟨by omega, by omega⟩, by rw [en]; exact ⟨(by show _ = q_sp (t_B h) s.1 + 1; omega), (by show _ = (3 : Int); omega), (by show _ = s.2.2.1; omega), (by show _ = t_B h (q_sp (t_B h) s.1) - 97; omega)⟩⟩
  · have dg : t_dig (t_B h (q_sp (t_B h) s.1)) = true := by rw [← eb]; rcases Az973 with ⟨-, e⟩ | ⟨e, -⟩; exact e; exact absurd e (by omega)
    have en : q_nx (t_B h) s = (q_sp (t_B h) s.1 + 1, 2, t_B h (q_sp (t_B h) s.1) - 48, s.2.2.2) := by unfold q_nx; rw [if_pos dg]
    show AR _ _ _ _ _ _ _ 66 [(1, .int z969), (0, .ref 3)] [] g967 _ _
    refine AR.s (pc' := 67) (lv' := [(1, .int z969), (0, .ref 3)]) (st' := [.ref 3]) (h' := g967) _ hn_61 hk_61_66 rfl ?_
    obtain ⟨vc976, cc976⟩ := q_c3 Hg967
    refine AR.jr (r := 3) (as := []) (rest := []) hk_61_67 (by decide) (by decide +kernel) (by decide) cc976 rfl rfl (Nat.le_of_ble_eq_true rfl) (q_62 hlst Hg967 (by omega) (by omega) (by rw [eB, p1]; exact dg) (by rw [eB, p1]; exact o4 dg)) (by decide) (Nat.zero_le _) (Nat.zero_le _) ?_ (fun E h' q => by cases q.1)
    rintro w g2 ⟨e, H2, P2, K2, a1, a2, a3, a4⟩
    cases e
    show AR _ _ _ _ _ _ _ 70 [(1, .int z969), (0, .ref 3)] [] g2 _ _
    refine AR.gotoT hk_61_70 (tgt := 107) (by decide) ?_
    rw [eB, p1] at a3
    have Q : pf [3] h g2 := pf.tr pg967 P2 (fun _ q => q)
    unfold q_k at K2
    exact AR.vret hk_61_107 hr_61 ⟨rfl, H2, Q, ⟨by omega, by omega⟩, by rw [en]; exact ⟨(by show _ = q_sp (t_B h) s.1 + 1; omega), a2, a3, (by show _ = s.2.2.2; omega)⟩⟩
theorem q_61 (hlst : l.stackTraces = false) {s : q_S} (hH : hy_H 0 h) (ok : q_ok (t_B h) s.1) (R : q_R h s) : AM ax_ns l (ax_mm 61) 2 ty_R (0) (0) [.ref 3] h (pq_61 h s) := by
  refine AM.of (ax_mfacts (by decide +kernel : ax_has 61 = true)).2.2.2.2.2.2 hlst (by rw [hn_61]; exact Nat.le_of_ble_eq_true rfl) ?_
  show AR ax_ns l (ax_mm 61) 2 ty_R _ _ 0 [(0, .ref 3)] [] h (0) (0)
  have F : ty_F pW h h := ty_F_refl _ _
  have P0 : pf [3] h h := pf_r _ _
  obtain ⟨R1, R2, R4, R5⟩ := R
  have ok2 := ok
  obtain ⟨o1, o2, o3, o4⟩ := ok2
  show AR _ _ _ _ _ _ _ 0 [(0, .ref 3)] [] h _ _
  refine AR.s (pc' := 1) (lv' := [(0, .ref 3)]) (st' := [.ref 3]) (h' := h) _ hn_61 hk_61_0 rfl ?_
  refine AR.gI hk_61_1 (by decide) hH (q := 3) (n := 9) (by decide) (by decide +kernel) (by decide +kernel) (by decide) hy_t3_1 (fun x988 dx988 lx988 ux988 => ?_)
  show AR _ _ _ _ _ _ _ 4 [(0, .ref 3)] [.int x988] h _ _
  have sx988 := hy_zi dx988
  refine AR.sipushT hk_61_4 (by decide) (fun z989 ez989 => ?_)
  show AR _ _ _ _ _ _ _ 7 [(0, .ref 3)] [.int z989, .int x988] h _ _
  refine AR.jge hk_61_7 (tgt := 39) (by decide) (fun p1 => ?_) (fun p2 => ?_)
  · exact absurd p1 (by omega)
  · refine AR.s (pc' := 11) (lv' := [(0, .ref 3)]) (st' := [.ref 3]) (h' := h) _ hn_61 hk_61_10 rfl ?_
    refine AR.gR hk_61_11 (by decide) hH (q := 3) (n := 9) (by decide) (by decide +kernel) (by decide +kernel) (by decide) hy_t3_0 ?_
    show AR _ _ _ _ _ _ _ 14 [(0, .ref 3)] [.ref 1] h _ _
    refine AR.s (pc' := 15) (lv' := [(0, .ref 3)]) (st' := [.ref 3, .ref 1]) (h' := h) _ hn_61 hk_61_14 rfl ?_
    refine AR.gI hk_61_15 (by decide) hH (q := 3) (n := 9) (by decide) (by decide +kernel) (by decide +kernel) (by decide) hy_t3_1 (fun x990 dx990 lx990 ux990 => ?_)
    show AR _ _ _ _ _ _ _ 18 [(0, .ref 3)] [.int x990, .ref 1] h _ _
    have sx990 := hy_zi dx990
    obtain ⟨vc994, cc994⟩ := q_c1 hH
    refine AR.jr (r := 1) (as := [.int x990]) (rest := []) hk_61_18 (by decide) (by decide +kernel) (by decide) cc994 rfl rfl (Nat.le_of_ble_eq_true rfl) (q_68 hlst hH) (by decide) (Nat.zero_le _) (Nat.zero_le _) ?_ (fun E h' q => by obtain ⟨-, x, e, -⟩ := q; cases e)
    rintro w992 g993 ⟨eg993, z991, e, ez991⟩
    cases e
    obtain rfl := eg993.symm
    show AR _ _ _ _ _ _ _ 21 [(0, .ref 3)] [.int z991] h _ _
    have eb : z991.toInt = t_B h s.1 := by rw [ez991]; congr 1; omega
    show AR _ _ _ _ _ _ _ 21 [(0, .ref 3)] [.int z991] h _ _
    refine AR.bipushT hk_61_21 (by decide) (fun z995 ez995 => ?_)
    show AR _ _ _ _ _ _ _ 23 [(0, .ref 3)] [.int z995, .int z991] h _ _
    refine AR.jne hk_61_23 (tgt := 39) (by decide) (fun q1 => ?_) (fun q2 => ?_)
    · have sp : q_sp (t_B h) s.1 = s.1 := by unfold q_sp; rw [if_neg (by omega)]
      exact q61_c hlst ok h hH (pf_r _ _) ⟨rfl, rfl⟩ (by omega) (by omega) (by omega)
    · have sp : q_sp (t_B h) s.1 = s.1 + 1 := by unfold q_sp; rw [if_pos (by omega)]
      show AR _ _ _ _ _ _ _ 26 [(0, .ref 3)] [] h _ _
      refine AR.s (pc' := 27) (lv' := [(0, .ref 3)]) (st' := [.ref 3]) (h' := h) _ hn_61 hk_61_26 rfl ?_
      refine AR.s (pc' := 28) (lv' := [(0, .ref 3)]) (st' := [.ref 3, .ref 3]) (h' := h) _ hn_61 hk_61_27 rfl ?_
      refine AR.gI hk_61_28 (by decide) hH (q := 3) (n := 9) (by decide) (by decide +kernel) (by decide +kernel) (by decide) hy_t3_1 (fun x996 dx996 lx996 ux996 => ?_)
      show AR _ _ _ _ _ _ _ 31 [(0, .ref 3)] [.int x996, .ref 3] h _ _
      have sx996 := hy_zi dx996
      refine AR.iconstT hk_61_31 (by decide) (fun z997 ez997 => ?_)
      show AR _ _ _ _ _ _ _ 32 [(0, .ref 3)] [.int z997, .int x996, .ref 3] h _ _
      refine AR.addT hk_61_32 (by omega) (by omega) (fun z998 ez998 => ?_)
      show AR _ _ _ _ _ _ _ 33 [(0, .ref 3)] [.int z998, .ref 3] h _ _
      have r999a := Int32.le_toInt z998
      have r999b := Int32.toInt_lt z998
      refine AR.pT hk_61_33 (by decide) hH F (q := 3) (by decide) (by decide +kernel) (show ax_cls[6]? = some hy_c6 from rfl) (by decide +kernel) (by decide) rfl (by rw [hy_t3_1]; exact ⟨_, rfl, by omega, by omega, Or.inl rfl⟩) (by decide +kernel) (by decide +kernel) ?_
      rintro g1000 ⟨Hg1000, Fg1000, Gg1000, Eg1000⟩
      show AR _ _ _ _ _ _ _ 36 [(0, .ref 3)] [] g1000 _ _
      have pg1000 : pf [3] h g1000 := pf_st P0 Gg1000.1 Eg1000 (by simp)
      have zg1000_1 : hy_z g1000 3 1 = z998.toInt := (hf_put Eg1000 1).trans (if_pos rfl)
      have zg1000_2 : hy_z g1000 3 2 = hy_z h 3 2 := (hf_put Eg1000 2).trans (if_neg (by decide))
      have zg1000_4 : hy_z g1000 3 4 = hy_z h 3 4 := (hf_put Eg1000 4).trans (if_neg (by decide))
      have zg1000_5 : hy_z g1000 3 5 = hy_z h 3 5 := (hf_put Eg1000 5).trans (if_neg (by decide))
      have zg1000_7 : hy_z g1000 3 7 = hy_z h 3 7 := (hf_put Eg1000 7).trans (if_neg (by decide))
      have zg1000_8 : hy_z g1000 3 8 = hy_z h 3 8 := (hf_put Eg1000 8).trans (if_neg (by decide))
      show AR _ _ _ _ _ _ _ 36 [(0, .ref 3)] [] g1000 _ _
      refine AR.gotoT hk_61_36 (tgt := 0) (by decide) ?_
      have eB : t_B g1000 = t_B h := t_Bp pg1000 (by decide) (by decide)
      show AR _ _ _ _ _ _ _ 0 [(0, .ref 3)] [] g1000 _ _
      refine AR.s (pc' := 1) (lv' := [(0, .ref 3)]) (st' := [.ref 3]) (h' := g1000) _ hn_61 hk_61_0 rfl ?_
      refine AR.gI hk_61_1 (by decide) Hg1000 (q := 3) (n := 9) (by decide) (by decide +kernel) (by decide +kernel) (by decide) hy_t3_1 (fun x1001 dx1001 lx1001 ux1001 => ?_)
      show AR _ _ _ _ _ _ _ 4 [(0, .ref 3)] [.int x1001] g1000 _ _
      have sx1001 := hy_zi dx1001
      refine AR.sipushT hk_61_4 (by decide) (fun z1002 ez1002 => ?_)
      show AR _ _ _ _ _ _ _ 7 [(0, .ref 3)] [.int z1002, .int x1001] g1000 _ _
      refine AR.jge hk_61_7 (tgt := 39) (by decide) (fun r1 => ?_) (fun r2 => ?_)
      · exact absurd r1 (by omega)
      · refine AR.s (pc' := 11) (lv' := [(0, .ref 3)]) (st' := [.ref 3]) (h' := g1000) _ hn_61 hk_61_10 rfl ?_
        refine AR.gR hk_61_11 (by decide) Hg1000 (q := 3) (n := 9) (by decide) (by decide +kernel) (by decide +kernel) (by decide) hy_t3_0 ?_
        show AR _ _ _ _ _ _ _ 14 [(0, .ref 3)] [.ref 1] g1000 _ _
        refine AR.s (pc' := 15) (lv' := [(0, .ref 3)]) (st' := [.ref 3, .ref 1]) (h' := g1000) _ hn_61 hk_61_14 rfl ?_
        refine AR.gI hk_61_15 (by decide) Hg1000 (q := 3) (n := 9) (by decide) (by decide +kernel) (by decide +kernel) (by decide) hy_t3_1 (fun x1003 dx1003 lx1003 ux1003 => ?_)
        show AR _ _ _ _ _ _ _ 18 [(0, .ref 3)] [.int x1003, .ref 1] g1000 _ _
        have sx1003 := hy_zi dx1003
        obtain ⟨vc1007, cc1007⟩ := q_c1 Hg1000
        refine AR.jr (r := 1) (as := [.int x1003]) (rest := []) hk_61_18 (by decide) (by decide +kernel) (by decide) cc1007 rfl rfl (Nat.le_of_ble_eq_true rfl) (q_68 hlst Hg1000) (by decide) (Nat.zero_le _) (Nat.zero_le _) ?_ (fun E h' q => by obtain ⟨-, x, e, -⟩ := q; cases e)
        rintro w1005 g1006 ⟨eg1006, z1004, e, ez1004⟩
        cases e
        obtain rfl := eg1006.symm
        show AR _ _ _ _ _ _ _ 21 [(0, .ref 3)] [.int z1004] g1000 _ _
        have eb2 : z1004.toInt = t_B h (q_sp (t_B h) s.1) := by rw [ez1004, eB]; congr 1; omega
        show AR _ _ _ _ _ _ _ 21 [(0, .ref 3)] [.int z1004] g1000 _ _
        refine AR.bipushT hk_61_21 (by decide) (fun z1008 ez1008 => ?_)
        show AR _ _ _ _ _ _ _ 23 [(0, .ref 3)] [.int z1008, .int z1004] g1000 _ _
        refine AR.jne hk_61_23 (tgt := 39) (by decide) (fun s1 => ?_) (fun s2 => ?_)
        · exact q61_c hlst ok g1000 Hg1000 pg1000 ⟨by omega, by omega⟩ (by omega) (by omega) (by omega)
        · exact absurd o3 (by omega)
theorem q_60 (hlst : l.stackTraces = false) {s : q_S} (hH : hy_H 0 h) (ok : s.2.1 = 5 → q_ok (t_B h) s.1) (R : q_R h s) : AM ax_ns l (ax_mm 60) 3 ty_R (0) (0) [.ref 3] h (fun res g => hy_H 0 g ∧ pf [3] h g ∧ q_k h g ∧ ∃ z : Int32, res = .inl (some (.int z)) ∧ ((z.toInt = 1 ∧ s.2.1 = 5 ∧ q_R g (q_nx (t_B h) s)) ∨ (z.toInt = 0 ∧ s.2.1 ≠ 5 ∧ q_R g s))) := by
  refine AM.of (ax_mfacts (by decide +kernel : ax_has 60 = true)).2.2.2.2.2.2 hlst (by rw [hn_60]; exact Nat.le_of_ble_eq_true rfl) ?_
  show AR ax_ns l (ax_mm 60) 3 ty_R _ _ 0 [(0, .ref 3)] [] h (0) (0)
  have P0 : pf [3] h h := pf_r _ _
  have R0 := R
  obtain ⟨R1, R2, R4, R5⟩ := R
  have B0 : t_B h = t_B h := rfl
  show AR _ _ _ _ _ _ _ 0 [(0, .ref 3)] [] h _ _
  refine AR.s (pc' := 1) (lv' := [(0, .ref 3)]) (st' := [.ref 3]) (h' := h) _ hn_60 hk_60_0 rfl ?_
  refine AR.gI hk_60_1 (by decide) hH (q := 3) (n := 9) (by decide) (by decide +kernel) (by decide +kernel) (by decide) hy_t3_2 (fun x1009 dx1009 lx1009 ux1009 => ?_)
  show AR _ _ _ _ _ _ _ 4 [(0, .ref 3)] [.int x1009] h _ _
  have sx1009 := hy_zi dx1009
  refine AR.iconstT hk_60_4 (by decide) (fun z1010 ez1010 => ?_)
  show AR _ _ _ _ _ _ _ 5 [(0, .ref 3)] [.int z1010, .int x1009] h _ _
  refine AR.jeq hk_60_5 (tgt := 10) (by decide) (fun p1 => ?_) (fun p2 => ?_)
  · refine AR.s (pc' := 11) (lv' := [(0, .ref 3)]) (st' := [.ref 3]) (h' := h) _ hn_60 hk_60_10 rfl ?_
    obtain ⟨vc1012, cc1012⟩ := q_c3 hH
    refine AR.jr (r := 3) (as := []) (rest := []) hk_60_11 (by decide) (by decide +kernel) (by decide) cc1012 rfl rfl (Nat.le_of_ble_eq_true rfl) (q_61 hlst hH (by rw [B0]; exact ok (by omega)) R0) (by decide) (Nat.zero_le _) (Nat.zero_le _) ?_ (fun E h' q => by cases q.1)
    rintro w g1 ⟨e, Hg1, Tg1, Kg1, Rg1⟩
    cases e
    rw [B0] at Rg1
    have Pg1 : pf [3] h g1 := pf.tr P0 Tg1 (by simp)
    have Bg1 : t_B g1 = t_B h := t_Bp Pg1 (by decide) (by decide)
    have Fg1 : ty_F pW g1 g1 := ty_F_refl _ _
    unfold q_k at Kg1
    show AR _ _ _ _ _ _ _ 14 [(0, .ref 3)] [] g1 _ _
    refine AR.iconstT hk_60_14 (by decide) (fun z1013 ez1013 => ?_)
    show AR _ _ _ _ _ _ _ 15 [(0, .ref 3)] [.int z1013] g1 _ _
    exact AR.zret hk_60_15 hr_60 (Or.inr (by omega)) ⟨Hg1, Pg1, Kg1, _, rfl, Or.inl ⟨by omega, by omega, Rg1⟩⟩
  · refine AR.iconstT hk_60_8 (by decide) (fun z1011 ez1011 => ?_)
    show AR _ _ _ _ _ _ _ 9 [(0, .ref 3)] [.int z1011] h _ _
    exact AR.zret hk_60_9 hr_60 (Or.inl (by omega)) ⟨hH, P0, ⟨rfl, rfl⟩, _, rfl, Or.inr ⟨by omega, by omega, R0⟩⟩
def pq_57 (h : ax_H) (s : q_S) (i : Nat) (d : Int) : ax_Q := fun res g => hy_H 0 g ∧ pf [3, 4] h g ∧ q_k h g ∧ q_R g s ∧ (∃ z : Int32, res = .inl (some (.int z)) ∧ z.toInt = 1) ∧ ∀ k, hy_z g 4 k = if k = i then hy_z h 4 k + d else hy_z h 4 k
theorem q57_c (hlst : l.stackTraces = false) {X : ax_PX} {u : q_S} {v i : Nat} {d : Int} {n o : Int32} (u3 : u.2.1 = 3) (uv : u.2.2.2 = v) (v12 : v < 12) (ok : q_ok (t_B h) u.1) (hi : (i : Int) = 2 * v + o.toInt) (o0 : 0 ≤ o.toInt) (o1 : o.toInt ≤ 1) (n0 : 0 ≤ n.toInt) (n9 : n.toInt ≤ 9) (hd : (x.toInt = 0 ∧ d = n.toInt) ∨ (x.toInt ≠ 0 ∧ d = -n.toInt)) (c4 : ∀ k, k < 24 → -1000 ≤ hy_z h 4 k ∧ hy_z h 4 k ≤ 1000) : ∀ g, hy_H 0 g → pf [3, 4] h g → q_k h g → q_R g u → (∀ k, hy_z g 4 k = hy_z h 4 k) → AR ax_ns l (ax_mm 57) 3 ty_R (ax_ret ax_ns (ax_mm 57) (pq_57 h (q_nx (t_B h) u) i d)) X 36 [(3, .int o), (2, .int n), (1, .int x), (0, .ref 3)] [] g 0 0 := by
  intro g Hg Pg Kg Rg hg4
  have R0 := Rg
  obtain ⟨R1, R2, R4, R5⟩ := Rg
  unfold q_k at Kg
  have Fg : ty_F pW g g := ty_F_refl _ _
  have c4i := c4 i (by omega)
  show AR _ _ _ _ _ _ _ 36 [(3, .int o), (2, .int n), (1, .int x), (0, .ref 3)] [] g _ _
  refine AR.s (pc' := 37) (lv' := [(3, .int o), (2, .int n), (1, .int x), (0, .ref 3)]) (st' := [.ref 3]) (h' := g) _ hn_57 hk_57_36 rfl ?_
  refine AR.gI hk_57_37 (by decide) Hg (q := 3) (n := 9) (by decide) (by decide +kernel) (by decide +kernel) (by decide) hy_t3_2 (fun x1014 dx1014 lx1014 ux1014 => ?_)
  show AR _ _ _ _ _ _ _ 40 [(3, .int o), (2, .int n), (1, .int x), (0, .ref 3)] [.int x1014] g _ _
  have sx1014 := hy_zi dx1014
  refine AR.iconstT hk_57_40 (by decide) (fun z1015 ez1015 => ?_)
  show AR _ _ _ _ _ _ _ 41 [(3, .int o), (2, .int n), (1, .int x), (0, .ref 3)] [.int z1015, .int x1014] g _ _
  refine AR.jeq hk_57_41 (tgt := 46) (by decide) (fun p1 => ?_) (fun p2 => ?_)
  · refine AR.s (pc' := 47) (lv' := [(3, .int o), (2, .int n), (1, .int x), (0, .ref 3)]) (st' := [.ref 3]) (h' := g) _ hn_57 hk_57_46 rfl ?_
    refine AR.gR hk_57_47 (by decide) Hg (q := 3) (n := 9) (by decide) (by decide +kernel) (by decide +kernel) (by decide) hy_t3_6 ?_
    show AR _ _ _ _ _ _ _ 50 [(3, .int o), (2, .int n), (1, .int x), (0, .ref 3)] [.ref 4] g _ _
    refine AR.iconstT hk_57_50 (by decide) (fun z1016 ez1016 => ?_)
    show AR _ _ _ _ _ _ _ 51 [(3, .int o), (2, .int n), (1, .int x), (0, .ref 3)] [.int z1016, .ref 4] g _ _
    refine AR.s (pc' := 52) (lv' := [(3, .int o), (2, .int n), (1, .int x), (0, .ref 3)]) (st' := [.ref 3, .int z1016, .ref 4]) (h' := g) _ hn_57 hk_57_51 rfl ?_
    refine AR.gI hk_57_52 (by decide) Hg (q := 3) (n := 9) (by decide) (by decide +kernel) (by decide +kernel) (by decide) hy_t3_5 (fun x1017 dx1017 lx1017 ux1017 => ?_)
    show AR _ _ _ _ _ _ _ 55 [(3, .int o), (2, .int n), (1, .int x), (0, .ref 3)] [.int x1017, .int z1016, .ref 4] g _ _
    have sx1017 := hy_zi dx1017
    refine AR.mulcT hk_57_55 ez1016 (by omega) (by omega) (fun z1018 ez1018 => ?_)
    show AR _ _ _ _ _ _ _ 56 [(3, .int o), (2, .int n), (1, .int x), (0, .ref 3)] [.int z1018, .ref 4] g _ _
    refine AR.s (pc' := 57) (lv' := [(3, .int o), (2, .int n), (1, .int x), (0, .ref 3)]) (st' := [.int o, .int z1018, .ref 4]) (h' := g) _ hn_57 hk_57_56 rfl ?_
    refine AR.addT hk_57_57 (by omega) (by omega) (fun z1019 ez1019 => ?_)
    show AR _ _ _ _ _ _ _ 58 [(3, .int o), (2, .int n), (1, .int x), (0, .ref 3)] [.int z1019, .ref 4] g _ _
    refine AR.dup2 (ax_look_ok hk_57_58).1 rfl rfl ?_
    show AR _ _ _ _ _ _ _ 59 [(3, .int o), (2, .int n), (1, .int x), (0, .ref 3)] [.int z1019, .ref 4, .int z1019, .ref 4] g _ _
    have ik : z1019.toInt = i := by omega
    show AR _ _ _ _ _ _ _ 59 [(3, .int o), (2, .int n), (1, .int x), (0, .ref 3)] [.int z1019, .ref 4, .int z1019, .ref 4] g _ _
    refine AR.iaI hk_57_59 Hg (q := 4) (n := 24) (by decide) (by decide +kernel) (by decide +kernel) (by decide +kernel) hy_t4_0 (by omega) (by omega) (fun x1020 dx1020 lx1020 ux1020 => ?_)
    show AR _ _ _ _ _ _ _ 60 [(3, .int o), (2, .int n), (1, .int x), (0, .ref 3)] [.int x1020, .int z1019, .ref 4] g _ _
    rw [show z1019.toNatClampNeg = i from by show z1019.toInt.toNat = i; omega] at dx1020
    have yx1020 := hy_zi dx1020
    rw [hg4] at yx1020
    show AR _ _ _ _ _ _ _ 60 [(3, .int o), (2, .int n), (1, .int x), (0, .ref 3)] [.int x1020, .int z1019, .ref 4] g _ _
    refine AR.s (pc' := 61) (lv' := [(3, .int o), (2, .int n), (1, .int x), (0, .ref 3)]) (st' := [.int x, .int x1020, .int z1019, .ref 4]) (h' := g) _ hn_57 hk_57_60 rfl ?_
    refine AR.zeq hk_57_61 (tgt := 69) (by decide) (fun q1 => ?_) (fun q2 => ?_)
    · have dd : d = n.toInt := by rcases hd with ⟨e1, e2⟩ | ⟨e1, e2⟩ <;> omega
      show AR _ _ _ _ _ _ _ 69 [(3, .int o), (2, .int n), (1, .int x), (0, .ref 3)] [.int x1020, .int z1019, .ref 4] g _ _
      refine AR.s (pc' := 70) (lv' := [(3, .int o), (2, .int n), (1, .int x), (0, .ref 3)]) (st' := [.int n, .int x1020, .int z1019, .ref 4]) (h' := g) _ hn_57 hk_57_69 rfl ?_
      refine AR.addT hk_57_70 (by omega) (by omega) (fun z1021 ez1021 => ?_)
      show AR _ _ _ _ _ _ _ 71 [(3, .int o), (2, .int n), (1, .int x), (0, .ref 3)] [.int z1021, .int z1019, .ref 4] g _ _
      refine AR.isT hk_57_71 Hg Fg (q := 4) (n := 24) (by decide) (by decide +kernel) (by decide +kernel) (by decide +kernel) hy_t4_0 (by omega) (by omega) (by omega) (by omega) (by decide +kernel) ?_
      rintro g1022 ⟨Hg1022, Fg1022, Gg1022, Eg1022⟩
      show AR _ _ _ _ _ _ _ 72 [(3, .int o), (2, .int n), (1, .int x), (0, .ref 3)] [] g1022 _ _
      have pg1022 : pf [3, 4] h g1022 := pf_st Pg Gg1022.1 Eg1022 (by simp)
      have y1 : ∀ k, hy_z g1022 4 k = if k = z1019.toInt.toNat then z1021.toInt else hy_z g 4 k := fun k => hi_put Eg1022 k
      have z3 : ∀ j, hy_z g1022 3 j = hy_z g 3 j := fun j => hy_ze (by rw [Eg1022, if_neg (fun c => absurd c.1 (by decide))])
      have R8 : q_R g1022 u := ⟨(z3 1).trans R1, (z3 2).trans R2, (z3 4).trans R4, (z3 5).trans R5⟩
      have z7 := z3 7
      have z8 := z3 8
      have B8 : t_B g1022 = t_B h := t_Bp pg1022 (by decide) (by decide)
      show AR _ _ _ _ _ _ _ 72 [(3, .int o), (2, .int n), (1, .int x), (0, .ref 3)] [] g1022 _ _
      refine AR.s (pc' := 73) (lv' := [(3, .int o), (2, .int n), (1, .int x), (0, .ref 3)]) (st' := [.ref 3]) (h' := g1022) _ hn_57 hk_57_72 rfl ?_
      obtain ⟨vc1023, cc1023⟩ := q_c3 Hg1022
      refine AR.jr (r := 3) (as := []) (rest := []) hk_57_73 (by decide) (by decide +kernel) (by decide) cc1023 rfl rfl (Nat.le_of_ble_eq_true rfl) (q_61 hlst Hg1022 (by rw [B8]; exact ok) R8) (by decide) (Nat.zero_le _) (Nat.zero_le _) ?_ (fun E h' q => by cases q.1)
      rintro w g9 ⟨e, Hg9, Tg9, Kg9, Rg9⟩
      cases e
      rw [B8] at Rg9
      have Pg9 : pf [3, 4] h g9 := pf.tr pg1022 Tg9 (by simp)
      have Bg9 : t_B g9 = t_B h := t_Bp Pg9 (by decide) (by decide)
      have Fg9 : ty_F pW g9 g9 := ty_F_refl _ _
      unfold q_k at Kg9
      show AR _ _ _ _ _ _ _ 76 [(3, .int o), (2, .int n), (1, .int x), (0, .ref 3)] [] g9 _ _
      refine AR.iconstT hk_57_76 (by decide) (fun z1024 ez1024 => ?_)
      show AR _ _ _ _ _ _ _ 77 [(3, .int o), (2, .int n), (1, .int x), (0, .ref 3)] [.int z1024] g9 _ _
      refine AR.zret hk_57_77 hr_57 (Or.inr (by omega)) ⟨Hg9, Pg9, ⟨by omega, by omega⟩, Rg9, ⟨_, rfl, by omega⟩, fun k => ?_⟩
      rw [Tg9.z (by decide), y1]
      by_cases e : k = i
      · rw [if_pos (by omega), if_pos e, e]; omega
      · rw [if_neg (by omega), if_neg e]; exact hg4 k
    · have dd : d = -n.toInt := by rcases hd with ⟨e1, e2⟩ | ⟨e1, e2⟩ <;> omega
      show AR _ _ _ _ _ _ _ 64 [(3, .int o), (2, .int n), (1, .int x), (0, .ref 3)] [.int x1020, .int z1019, .ref 4] g _ _
      refine AR.s (pc' := 65) (lv' := [(3, .int o), (2, .int n), (1, .int x), (0, .ref 3)]) (st' := [.int n, .int x1020, .int z1019, .ref 4]) (h' := g) _ hn_57 hk_57_64 rfl ?_
      refine AR.negT hk_57_65 (by omega) (fun z1025 ez1025 => ?_)
      show AR _ _ _ _ _ _ _ 66 [(3, .int o), (2, .int n), (1, .int x), (0, .ref 3)] [.int z1025, .int x1020, .int z1019, .ref 4] g _ _
      refine AR.gotoT hk_57_66 (tgt := 70) (by decide) ?_
      refine AR.addT hk_57_70 (by omega) (by omega) (fun z1026 ez1026 => ?_)
      show AR _ _ _ _ _ _ _ 71 [(3, .int o), (2, .int n), (1, .int x), (0, .ref 3)] [.int z1026, .int z1019, .ref 4] g _ _
      refine AR.isT hk_57_71 Hg Fg (q := 4) (n := 24) (by decide) (by decide +kernel) (by decide +kernel) (by decide +kernel) hy_t4_0 (by omega) (by omega) (by omega) (by omega) (by decide +kernel) ?_
      rintro g1027 ⟨Hg1027, Fg1027, Gg1027, Eg1027⟩
      show AR _ _ _ _ _ _ _ 72 [(3, .int o), (2, .int n), (1, .int x), (0, .ref 3)] [] g1027 _ _
      have pg1027 : pf [3, 4] h g1027 := pf_st Pg Gg1027.1 Eg1027 (by simp)
      have y1 : ∀ k, hy_z g1027 4 k = if k = z1019.toInt.toNat then z1026.toInt else hy_z g 4 k := fun k => hi_put Eg1027 k
      have z3 : ∀ j, hy_z g1027 3 j = hy_z g 3 j := fun j => hy_ze (by rw [Eg1027, if_neg (fun c => absurd c.1 (by decide))])
      have R8 : q_R g1027 u := ⟨(z3 1).trans R1, (z3 2).trans R2, (z3 4).trans R4, (z3 5).trans R5⟩
      have z7 := z3 7
      have z8 := z3 8
      have B8 : t_B g1027 = t_B h := t_Bp pg1027 (by decide) (by decide)
      show AR _ _ _ _ _ _ _ 72 [(3, .int o), (2, .int n), (1, .int x), (0, .ref 3)] [] g1027 _ _
      refine AR.s (pc' := 73) (lv' := [(3, .int o), (2, .int n), (1, .int x), (0, .ref 3)]) (st' := [.ref 3]) (h' := g1027) _ hn_57 hk_57_72 rfl ?_
      obtain ⟨vc1028, cc1028⟩ := q_c3 Hg1027
      refine AR.jr (r := 3) (as := []) (rest := []) hk_57_73 (by decide) (by decide +kernel) (by decide) cc1028 rfl rfl (Nat.le_of_ble_eq_true rfl) (q_61 hlst Hg1027 (by rw [B8]; exact ok) R8) (by decide) (Nat.zero_le _) (Nat.zero_le _) ?_ (fun E h' q => by cases q.1)
      rintro w g9 ⟨e, Hg9, Tg9, Kg9, Rg9⟩
      cases e
      rw [B8] at Rg9
      have Pg9 : pf [3, 4] h g9 := pf.tr pg1027 Tg9 (by simp)
      have Bg9 : t_B g9 = t_B h := t_Bp Pg9 (by decide) (by decide)
      have Fg9 : ty_F pW g9 g9 := ty_F_refl _ _
      unfold q_k at Kg9
      show AR _ _ _ _ _ _ _ 76 [(3, .int o), (2, .int n), (1, .int x), (0, .ref 3)] [] g9 _ _
      refine AR.iconstT hk_57_76 (by decide) (fun z1029 ez1029 => ?_)
      show AR _ _ _ _ _ _ _ 77 [(3, .int o), (2, .int n), (1, .int x), (0, .ref 3)] [.int z1029] g9 _ _
      refine AR.zret hk_57_77 hr_57 (Or.inr (by omega)) ⟨Hg9, Pg9, ⟨by omega, by omega⟩, Rg9, ⟨_, rfl, by omega⟩, fun k => ?_⟩
      rw [Tg9.z (by decide), y1]
      by_cases e : k = i
      · rw [if_pos (by omega), if_pos e, e]; omega
      · rw [if_neg (by omega), if_neg e]; exact hg4 k
  · exact absurd p2 (by omega)
theorem q57_b (hlst : l.stackTraces = false) {X : ax_PX} {s1 u : q_S} {v i : Nat} {d sg : Int} {n : Int32} (T2 : (s1.2.1 = 6 ∧ q_ok (t_B h) s1.1 ∧ u = q_nx (t_B h) s1 ∧ sg = 1) ∨ (s1.2.1 ≠ 6 ∧ u = s1 ∧ sg = 0)) (u3 : u.2.1 = 3) (uv : u.2.2.2 = v) (v12 : v < 12) (ok : q_ok (t_B h) u.1) (hi : (i : Int) = 2 * v + sg) (n0 : 0 ≤ n.toInt) (n9 : n.toInt ≤ 9) (hd : (x.toInt = 0 ∧ d = n.toInt) ∨ (x.toInt ≠ 0 ∧ d = -n.toInt)) (c4 : ∀ k, k < 24 → -1000 ≤ hy_z h 4 k ∧ hy_z h 4 k ≤ 1000) : ∀ g, hy_H 0 g → pf [3, 4] h g → q_k h g → q_R g s1 → (∀ k, hy_z g 4 k = hy_z h 4 k) → AR ax_ns l (ax_mm 57) 3 ty_R (ax_ret ax_ns (ax_mm 57) (pq_57 h (q_nx (t_B h) u) i d)) X 19 [(2, .int n), (1, .int x), (0, .ref 3)] [] g 0 0 := by
  intro g Hg Pg Kg Rg hg4
  have R0 := Rg
  have K0 := Kg
  obtain ⟨R1, R2, R4, R5⟩ := Rg
  unfold q_k at Kg
  have Fg : ty_F pW g g := ty_F_refl _ _
  have Bg : t_B g = t_B h := t_Bp Pg (by decide) (by decide)
  show AR _ _ _ _ _ _ _ 19 [(2, .int n), (1, .int x), (0, .ref 3)] [] g _ _
  refine AR.iconstT hk_57_19 (by decide) (fun z1030 ez1030 => ?_)
  show AR _ _ _ _ _ _ _ 20 [(2, .int n), (1, .int x), (0, .ref 3)] [.int z1030] g _ _
  refine AR.s (pc' := 21) (lv' := [(3, .int z1030), (2, .int n), (1, .int x), (0, .ref 3)]) (st' := []) (h' := g) _ hn_57 hk_57_20 rfl ?_
  refine AR.s (pc' := 22) (lv' := [(3, .int z1030), (2, .int n), (1, .int x), (0, .ref 3)]) (st' := [.ref 3]) (h' := g) _ hn_57 hk_57_21 rfl ?_
  refine AR.gI hk_57_22 (by decide) Hg (q := 3) (n := 9) (by decide) (by decide +kernel) (by decide +kernel) (by decide) hy_t3_2 (fun x1031 dx1031 lx1031 ux1031 => ?_)
  show AR _ _ _ _ _ _ _ 25 [(3, .int z1030), (2, .int n), (1, .int x), (0, .ref 3)] [.int x1031] g _ _
  have sx1031 := hy_zi dx1031
  refine AR.bipushT hk_57_25 (by decide) (fun z1032 ez1032 => ?_)
  show AR _ _ _ _ _ _ _ 27 [(3, .int z1030), (2, .int n), (1, .int x), (0, .ref 3)] [.int z1032, .int x1031] g _ _
  refine AR.jne hk_57_27 (tgt := 36) (by decide) (fun p1 => ?_) (fun p2 => ?_)
  · rcases T2 with ⟨e1, -⟩ | ⟨e1, rfl, e3⟩
    · exact absurd p1 (by omega)
    refine AR.lessL (lv' := [(3, .int z1030), (2, .int n), (1, .int x), (0, .ref 3)]) (List.forall_mem_cons.mpr ⟨⟨_, by simp, ax_le_rfl rfl⟩, (List.forall_mem_cons.mpr ⟨⟨_, by simp, ax_le_rfl rfl⟩, (List.forall_mem_cons.mpr ⟨⟨_, by simp, ax_le_rfl rfl⟩, (List.forall_mem_cons.mpr ⟨⟨_, by simp, ax_le_rfl rfl⟩, (fun _ h => absurd h List.not_mem_nil)⟩)⟩)⟩)⟩) ?_
    exact q57_c hlst u3 uv v12 ok (by omega) (by omega) (by omega) n0 n9 hd c4 g Hg Pg K0 R0 hg4
  · rcases T2.symm with ⟨e1, -⟩ | ⟨e1, e2, e3, e4⟩
    · exact absurd p2 (by omega)
    show AR _ _ _ _ _ _ _ 30 [(3, .int z1030), (2, .int n), (1, .int x), (0, .ref 3)] [] g _ _
    refine AR.iconstT hk_57_30 (by decide) (fun z1033 ez1033 => ?_)
    show AR _ _ _ _ _ _ _ 31 [(3, .int z1030), (2, .int n), (1, .int x), (0, .ref 3)] [.int z1033] g _ _
    refine AR.s (pc' := 32) (lv' := [(3, .int z1033), (2, .int n), (1, .int x), (0, .ref 3)]) (st' := []) (h' := g) _ hn_57 hk_57_31 rfl ?_
    refine AR.s (pc' := 33) (lv' := [(3, .int z1033), (2, .int n), (1, .int x), (0, .ref 3)]) (st' := [.ref 3]) (h' := g) _ hn_57 hk_57_32 rfl ?_
    obtain ⟨vc1034, cc1034⟩ := q_c3 Hg
    refine AR.jr (r := 3) (as := []) (rest := []) hk_57_33 (by decide) (by decide +kernel) (by decide) cc1034 rfl rfl (Nat.le_of_ble_eq_true rfl) (q_61 hlst Hg (by rw [Bg]; exact e2) R0) (by decide) (Nat.zero_le _) (Nat.zero_le _) ?_ (fun E h' q => by cases q.1)
    rintro w g9 ⟨e, Hg9, Tg9, Kg9, Rg9⟩
    cases e
    rw [Bg] at Rg9
    have Pg9 : pf [3, 4] h g9 := pf.tr Pg Tg9 (by simp)
    have Bg9 : t_B g9 = t_B h := t_Bp Pg9 (by decide) (by decide)
    have Fg9 : ty_F pW g9 g9 := ty_F_refl _ _
    unfold q_k at Kg9
    show AR _ _ _ _ _ _ _ 36 [(3, .int z1033), (2, .int n), (1, .int x), (0, .ref 3)] [] g9 _ _
    refine AR.lessL (lv' := [(3, .int z1033), (2, .int n), (1, .int x), (0, .ref 3)]) (List.forall_mem_cons.mpr ⟨⟨_, by simp, ax_le_rfl rfl⟩, (List.forall_mem_cons.mpr ⟨⟨_, by simp, ax_le_rfl rfl⟩, (List.forall_mem_cons.mpr ⟨⟨_, by simp, ax_le_rfl rfl⟩, (List.forall_mem_cons.mpr ⟨⟨_, by simp, ax_le_rfl rfl⟩, (fun _ h => absurd h List.not_mem_nil)⟩)⟩)⟩)⟩) ?_
    exact q57_c hlst u3 uv v12 ok (by omega) (by omega) (by omega) n0 n9 hd c4 g9 Hg9 Pg9 ⟨by omega, by omega⟩ (by rw [e3]; exact Rg9) (fun k => by rw [Tg9.z (by decide)]; exact hg4 k)
/-- a term at the state s: the literal i gets sz; then s' -/
def q_T (B : Int → Int) (s s' : q_S) (i : Nat) (sz : Int) : Prop := ∃ (s1 u : q_S) (v : Nat) (sg : Int), ((s.2.1 = 2 ∧ q_ok B s.1 ∧ s1 = q_nx B s ∧ sz = s.2.2.1) ∨ (s.2.1 ≠ 2 ∧ s1 = s ∧ sz = 1)) ∧ ((s1.2.1 = 6 ∧ q_ok B s1.1 ∧ u = q_nx B s1 ∧ sg = 1) ∨ (s1.2.1 ≠ 6 ∧ u = s1 ∧ sg = 0)) ∧ u.2.1 = 3 ∧ u.2.2.2 = v ∧ v < 12 ∧ q_ok B u.1 ∧ (i : Int) = 2 * v + sg ∧ 0 ≤ sz ∧ sz ≤ 9 ∧ s' = q_nx B u
theorem q_57 (hlst : l.stackTraces = false) {s s' : q_S} {i : Nat} {sz d : Int} (hH : hy_H 0 h) (R : q_R h s) (T : q_T (t_B h) s s' i sz) (hd : (x.toInt = 0 ∧ d = sz) ∨ (x.toInt ≠ 0 ∧ d = -sz)) (c4 : ∀ k, k < 24 → -1000 ≤ hy_z h 4 k ∧ hy_z h 4 k ≤ 1000) : AM ax_ns l (ax_mm 57) 3 ty_R (0) (0) [.ref 3, .int x] h (pq_57 h s' i d) := by
  refine AM.of (ax_mfacts (by decide +kernel : ax_has 57 = true)).2.2.2.2.2.2 hlst (by rw [hn_57]; exact Nat.le_of_ble_eq_true rfl) ?_
  show AR ax_ns l (ax_mm 57) 3 ty_R _ _ 0 [(0, .ref 3), (1, .int x)] [] h (0) (0)
  have P0 : pf [3, 4] h h := pf_r _ _
  have F : ty_F pW h h := ty_F_refl _ _
  have R0 := R
  obtain ⟨R1, R2, R4, R5⟩ := R
  obtain ⟨s1, u, v, sg, T1, T2, u3, uv, v12, ok, hi, sz0, sz9, rfl⟩ := T
  have B0 : t_B h = t_B h := rfl
  show AR _ _ _ _ _ _ _ 0 [(0, .ref 3), (1, .int x)] [] h _ _
  refine AR.iconstT hk_57_0 (by decide) (fun z1035 ez1035 => ?_)
  show AR _ _ _ _ _ _ _ 1 [(0, .ref 3), (1, .int x)] [.int z1035] h _ _
  refine AR.s (pc' := 2) (lv' := [(2, .int z1035), (0, .ref 3), (1, .int x)]) (st' := []) (h' := h) _ hn_57 hk_57_1 rfl ?_
  refine AR.s (pc' := 3) (lv' := [(2, .int z1035), (0, .ref 3), (1, .int x)]) (st' := [.ref 3]) (h' := h) _ hn_57 hk_57_2 rfl ?_
  refine AR.gI hk_57_3 (by decide) hH (q := 3) (n := 9) (by decide) (by decide +kernel) (by decide +kernel) (by decide) hy_t3_2 (fun x1036 dx1036 lx1036 ux1036 => ?_)
  show AR _ _ _ _ _ _ _ 6 [(2, .int z1035), (0, .ref 3), (1, .int x)] [.int x1036] h _ _
  have sx1036 := hy_zi dx1036
  refine AR.iconstT hk_57_6 (by decide) (fun z1037 ez1037 => ?_)
  show AR _ _ _ _ _ _ _ 7 [(2, .int z1035), (0, .ref 3), (1, .int x)] [.int z1037, .int x1036] h _ _
  refine AR.jne hk_57_7 (tgt := 19) (by decide) (fun p1 => ?_) (fun p2 => ?_)
  · rcases T1 with ⟨e1, -⟩ | ⟨e1, e2, e3⟩
    · exact absurd p1 (by omega)
    subst e2
    refine AR.lessL (lv' := [(2, .int z1035), (1, .int x), (0, .ref 3)]) (List.forall_mem_cons.mpr ⟨⟨_, by simp, ax_le_rfl rfl⟩, (List.forall_mem_cons.mpr ⟨⟨_, by simp, ax_le_rfl rfl⟩, (List.forall_mem_cons.mpr ⟨⟨_, by simp, ax_le_rfl rfl⟩, (fun _ h => absurd h List.not_mem_nil)⟩)⟩)⟩) ?_
    exact q57_b hlst T2 u3 uv v12 ok hi (by omega) (by omega) (by rcases hd with ⟨f1, f2⟩ | ⟨f1, f2⟩; exact Or.inl ⟨f1, by omega⟩; exact Or.inr ⟨f1, by omega⟩) c4 h hH P0 ⟨rfl, rfl⟩ R0 (fun _ => rfl)
  · rcases T1.symm with ⟨e1, -⟩ | ⟨e1, e2, e3, e4⟩
    · exact absurd p2 (by omega)
    show AR _ _ _ _ _ _ _ 10 [(2, .int z1035), (0, .ref 3), (1, .int x)] [] h _ _
    refine AR.s (pc' := 11) (lv' := [(2, .int z1035), (0, .ref 3), (1, .int x)]) (st' := [.ref 3]) (h' := h) _ hn_57 hk_57_10 rfl ?_
    refine AR.gI hk_57_11 (by decide) hH (q := 3) (n := 9) (by decide) (by decide +kernel) (by decide +kernel) (by decide) hy_t3_4 (fun x1038 dx1038 lx1038 ux1038 => ?_)
    show AR _ _ _ _ _ _ _ 14 [(2, .int z1035), (0, .ref 3), (1, .int x)] [.int x1038] h _ _
    have sx1038 := hy_zi dx1038
    refine AR.s (pc' := 15) (lv' := [(2, .int x1038), (0, .ref 3), (1, .int x)]) (st' := []) (h' := h) _ hn_57 hk_57_14 rfl ?_
    refine AR.s (pc' := 16) (lv' := [(2, .int x1038), (0, .ref 3), (1, .int x)]) (st' := [.ref 3]) (h' := h) _ hn_57 hk_57_15 rfl ?_
    obtain ⟨vc1039, cc1039⟩ := q_c3 hH
    refine AR.jr (r := 3) (as := []) (rest := []) hk_57_16 (by decide) (by decide +kernel) (by decide) cc1039 rfl rfl (Nat.le_of_ble_eq_true rfl) (q_61 hlst hH (by rw [B0]; exact e2) R0) (by decide) (Nat.zero_le _) (Nat.zero_le _) ?_ (fun E h' q => by cases q.1)
    rintro w g9 ⟨e, Hg9, Tg9, Kg9, Rg9⟩
    cases e
    rw [B0] at Rg9
    have Pg9 : pf [3, 4] h g9 := pf.tr P0 Tg9 (by simp)
    have Bg9 : t_B g9 = t_B h := t_Bp Pg9 (by decide) (by decide)
    have Fg9 : ty_F pW g9 g9 := ty_F_refl _ _
    unfold q_k at Kg9
    show AR _ _ _ _ _ _ _ 19 [(2, .int x1038), (0, .ref 3), (1, .int x)] [] g9 _ _
    refine AR.lessL (lv' := [(2, .int x1038), (1, .int x), (0, .ref 3)]) (List.forall_mem_cons.mpr ⟨⟨_, by simp, ax_le_rfl rfl⟩, (List.forall_mem_cons.mpr ⟨⟨_, by simp, ax_le_rfl rfl⟩, (List.forall_mem_cons.mpr ⟨⟨_, by simp, ax_le_rfl rfl⟩, (fun _ h => absurd h List.not_mem_nil)⟩)⟩)⟩) ?_
    exact q57_b hlst T2 u3 uv v12 ok hi (by omega) (by omega) (by rcases hd with ⟨f1, f2⟩ | ⟨f1, f2⟩; exact Or.inl ⟨f1, by omega⟩; exact Or.inr ⟨f1, by omega⟩) c4 g9 Hg9 Pg9 ⟨Kg9.1, Kg9.2⟩ (by rw [e3]; exact Rg9) (fun k => Tg9.z (by decide) k)
/-- terms behind the first: each with its sign before it -/
def q_M (B : Int → Int) : q_S → List (Nat × Int) → q_S → Prop
  | s, [], s' => s.2.1 ≠ 4 ∧ s.2.1 ≠ 5 ∧ s' = s
  | s, t :: ts, s' => ∃ (s1 : q_S) (sz : Int), ((s.2.1 = 4 ∧ t.2 = sz) ∨ (s.2.1 = 5 ∧ t.2 = -sz)) ∧ q_ok B s.1 ∧ q_T B (q_nx B s) s1 t.1 sz ∧ q_M B s1 ts s'
def q_A (f : Nat → Int) : List (Nat × Int) → Nat → Int
  | [] => f
  | t :: ts => q_A (fun k => if k = t.1 then f k + t.2 else f k) ts
/-- the sum: the first term, which may have a minus before it, and the others -/
def q_U (B : Int → Int) (s : q_S) (ts : List (Nat × Int)) (s' : q_S) : Prop := ∃ (t : Nat × Int) (tl : List (Nat × Int)) (s1 : q_S) (sz : Int), ts = t :: tl ∧ ((s.2.1 = 5 ∧ q_ok B s.1 ∧ q_T B (q_nx B s) s1 t.1 sz ∧ t.2 = -sz) ∨ (s.2.1 ≠ 5 ∧ q_T B s s1 t.1 sz ∧ t.2 = sz)) ∧ q_M B s1 tl s'
theorem q_T9 {B : Int → Int} {s s' : q_S} {i : Nat} {sz : Int} (T : q_T B s s' i sz) : 0 ≤ sz ∧ sz ≤ 9 := by
  obtain ⟨s1, u, v, sg, -, -, -, -, -, -, -, a, b, -⟩ := T
  exact ⟨a, b⟩
def pq_56 (h : ax_H) (s : q_S) (f : Nat → Int) : ax_Q := fun res g => hy_H 0 g ∧ pf [3, 4] h g ∧ q_k h g ∧ q_R g s ∧ (∃ z : Int32, res = .inl (some (.int z)) ∧ z.toInt = 1) ∧ ∀ k, hy_z g 4 k = f k
theorem q56_L (hlst : l.stackTraces = false) {X : ax_PX} {s' : q_S} : ∀ (ts : List (Nat × Int)) (g : ax_H) (i c : Int32) (s : q_S) (f : Nat → Int) (b : Int), 0 ≤ i.toInt → i.toInt + ts.length < 100 → c.toInt = 1 → hy_H 0 g → pf [3, 4] h g → q_k h g → q_R g s → (∀ k, hy_z g 4 k = f k) → b + 9 * ts.length ≤ 1000 → (∀ k, k < 24 → -b ≤ f k ∧ f k ≤ b) → q_M (t_B h) s ts s' → AR ax_ns l (ax_mm 56) 4 ty_R (ax_ret ax_ns (ax_mm 56) (pq_56 h s' (q_A f ts))) X 11 [(2, .int i), (1, .int c), (0, .ref 3)] [] g 0 0 := by
  intro ts
  induction ts with
  | nil =>
    intro g i c s f b i0 hn c1 Hg Pg Kg Rg hf hb hfb M
    have K0 := Kg
    unfold q_k at Kg
    have R0 := Rg
    obtain ⟨R1, R2, R4, R5⟩ := Rg
    have Fg : ty_F pW g g := ty_F_refl _ _
    have Bg : t_B g = t_B h := t_Bp Pg (by decide) (by decide)
    simp only [List.length_nil] at hn hb
    show AR _ _ _ _ _ _ _ 11 [(2, .int i), (1, .int c), (0, .ref 3)] [] g _ _
    refine AR.s (pc' := 12) (lv' := [(2, .int i), (1, .int c), (0, .ref 3)]) (st' := [.int i]) (h' := g) _ hn_56 hk_56_11 rfl ?_
    refine AR.sipushT hk_56_12 (by decide) (fun z1040 ez1040 => ?_)
    show AR _ _ _ _ _ _ _ 15 [(2, .int i), (1, .int c), (0, .ref 3)] [.int z1040, .int i] g _ _
    refine AR.jge hk_56_15 (tgt := 70) (by decide) (fun p1 => ?_) (fun p2 => ?_)
    · exact absurd p1 (by omega)
    · refine AR.s (pc' := 19) (lv' := [(2, .int i), (1, .int c), (0, .ref 3)]) (st' := [.int c]) (h' := g) _ hn_56 hk_56_18 rfl ?_
      refine AR.zeq hk_56_19 (tgt := 70) (by decide) (fun q1 => ?_) (fun q2 => ?_)
      · exact absurd q1 (by omega)
      · obtain ⟨m4, m5, rfl⟩ := M
        show AR _ _ _ _ _ _ _ 22 [(2, .int i), (1, .int c), (0, .ref 3)] [] g _ _
        refine AR.s (pc' := 23) (lv' := [(2, .int i), (1, .int c), (0, .ref 3)]) (st' := [.ref 3]) (h' := g) _ hn_56 hk_56_22 rfl ?_
        refine AR.gI hk_56_23 (by decide) Hg (q := 3) (n := 9) (by decide) (by decide +kernel) (by decide +kernel) (by decide) hy_t3_2 (fun x1041 dx1041 lx1041 ux1041 => ?_)
        show AR _ _ _ _ _ _ _ 26 [(2, .int i), (1, .int c), (0, .ref 3)] [.int x1041] g _ _
        have sx1041 := hy_zi dx1041
        refine AR.iconstT hk_56_26 (by decide) (fun z1042 ez1042 => ?_)
        show AR _ _ _ _ _ _ _ 27 [(2, .int i), (1, .int c), (0, .ref 3)] [.int z1042, .int x1041] g _ _
        refine AR.jeq hk_56_27 (tgt := 40) (by decide) (fun r1 => ?_) (fun r2 => ?_)
        · exact absurd r1 (by omega)
        · refine AR.s (pc' := 31) (lv' := [(2, .int i), (1, .int c), (0, .ref 3)]) (st' := [.ref 3]) (h' := g) _ hn_56 hk_56_30 rfl ?_
          refine AR.gI hk_56_31 (by decide) Hg (q := 3) (n := 9) (by decide) (by decide +kernel) (by decide +kernel) (by decide) hy_t3_2 (fun x1043 dx1043 lx1043 ux1043 => ?_)
          show AR _ _ _ _ _ _ _ 34 [(2, .int i), (1, .int c), (0, .ref 3)] [.int x1043] g _ _
          have sx1043 := hy_zi dx1043
          refine AR.iconstT hk_56_34 (by decide) (fun z1044 ez1044 => ?_)
          show AR _ _ _ _ _ _ _ 35 [(2, .int i), (1, .int c), (0, .ref 3)] [.int z1044, .int x1043] g _ _
          refine AR.jeq hk_56_35 (tgt := 40) (by decide) (fun t1 => ?_) (fun t2 => ?_)
          · exact absurd t1 (by omega)
          · refine AR.iconstT hk_56_38 (by decide) (fun z1045 ez1045 => ?_)
            show AR _ _ _ _ _ _ _ 39 [(2, .int i), (1, .int c), (0, .ref 3)] [.int z1045] g _ _
            exact AR.zret hk_56_39 hr_56 (Or.inr (by omega)) ⟨Hg, Pg, K0, R0, ⟨_, rfl, by omega⟩, hf⟩
  | cons t ts ih =>
    intro g i c s f b i0 hn c1 Hg Pg Kg Rg hf hb hfb M
    have K0 := Kg
    unfold q_k at Kg
    have R0 := Rg
    obtain ⟨R1, R2, R4, R5⟩ := Rg
    have Fg : ty_F pW g g := ty_F_refl _ _
    have Bg : t_B g = t_B h := t_Bp Pg (by decide) (by decide)
    simp only [List.length_cons] at hn hb
    show AR _ _ _ _ _ _ _ 11 [(2, .int i), (1, .int c), (0, .ref 3)] [] g _ _
    refine AR.s (pc' := 12) (lv' := [(2, .int i), (1, .int c), (0, .ref 3)]) (st' := [.int i]) (h' := g) _ hn_56 hk_56_11 rfl ?_
    refine AR.sipushT hk_56_12 (by decide) (fun z1046 ez1046 => ?_)
    show AR _ _ _ _ _ _ _ 15 [(2, .int i), (1, .int c), (0, .ref 3)] [.int z1046, .int i] g _ _
    refine AR.jge hk_56_15 (tgt := 70) (by decide) (fun p1 => ?_) (fun p2 => ?_)
    · exact absurd p1 (by omega)
    · refine AR.s (pc' := 19) (lv' := [(2, .int i), (1, .int c), (0, .ref 3)]) (st' := [.int c]) (h' := g) _ hn_56 hk_56_18 rfl ?_
      refine AR.zeq hk_56_19 (tgt := 70) (by decide) (fun q1 => ?_) (fun q2 => ?_)
      · exact absurd q1 (by omega)
      · obtain ⟨s1, sz, M1, ok, T, M2⟩ := M
        have T9 := q_T9 T
        show AR _ _ _ _ _ _ _ 22 [(2, .int i), (1, .int c), (0, .ref 3)] [] g _ _
        refine AR.s (pc' := 23) (lv' := [(2, .int i), (1, .int c), (0, .ref 3)]) (st' := [.ref 3]) (h' := g) _ hn_56 hk_56_22 rfl ?_
        refine AR.gI hk_56_23 (by decide) Hg (q := 3) (n := 9) (by decide) (by decide +kernel) (by decide +kernel) (by decide) hy_t3_2 (fun x1047 dx1047 lx1047 ux1047 => ?_)
        show AR _ _ _ _ _ _ _ 26 [(2, .int i), (1, .int c), (0, .ref 3)] [.int x1047] g _ _
        have sx1047 := hy_zi dx1047
        refine AR.iconstT hk_56_26 (by decide) (fun z1048 ez1048 => ?_)
        show AR _ _ _ _ _ _ _ 27 [(2, .int i), (1, .int c), (0, .ref 3)] [.int z1048, .int x1047] g _ _
        refine AR.jeq hk_56_27 (tgt := 40) (by decide) (fun r1 => ?_) (fun r2 => ?_)
        · refine AR.s (pc' := 41) (lv' := [(2, .int i), (1, .int c), (0, .ref 3)]) (st' := [.ref 3]) (h' := g) _ hn_56 hk_56_40 rfl ?_
          refine AR.gI hk_56_41 (by decide) Hg (q := 3) (n := 9) (by decide) (by decide +kernel) (by decide +kernel) (by decide) hy_t3_2 (fun x1049 dx1049 lx1049 ux1049 => ?_)
          show AR _ _ _ _ _ _ _ 44 [(2, .int i), (1, .int c), (0, .ref 3)] [.int x1049] g _ _
          have sx1049 := hy_zi dx1049
          refine AR.iconstT hk_56_44 (by decide) (fun z1050 ez1050 => ?_)
          show AR _ _ _ _ _ _ _ 45 [(2, .int i), (1, .int c), (0, .ref 3)] [.int z1050, .int x1049] g _ _
          refine AR.jne hk_56_45 (tgt := 52) (by decide) (fun t1 => ?_) (fun t2 => ?_)
          · refine AR.iconstT hk_56_52 (by decide) (fun z1051 ez1051 => ?_)
            show AR _ _ _ _ _ _ _ 53 [(2, .int i), (1, .int c), (0, .ref 3)] [.int z1051] g _ _
            refine AR.s (pc' := 54) (lv' := [(3, .int z1051), (2, .int i), (1, .int c), (0, .ref 3)]) (st' := []) (h' := g) _ hn_56 hk_56_53 rfl ?_
            refine AR.s (pc' := 55) (lv' := [(3, .int z1051), (2, .int i), (1, .int c), (0, .ref 3)]) (st' := [.ref 3]) (h' := g) _ hn_56 hk_56_54 rfl ?_
            obtain ⟨vc1052, cc1052⟩ := q_c3 Hg
            refine AR.jr (r := 3) (as := []) (rest := []) hk_56_55 (by decide) (by decide +kernel) (by decide) cc1052 rfl rfl (Nat.le_of_ble_eq_true rfl) (q_61 hlst Hg (by rw [Bg]; exact ok) R0) (by decide) (Nat.zero_le _) (Nat.zero_le _) ?_ (fun E h' q => by cases q.1)
            rintro w g9 ⟨e, Hg9, Tg9, Kg9, Rg9⟩
            cases e
            rw [Bg] at Rg9
            have Pg9 : pf [3, 4] h g9 := pf.tr Pg Tg9 (by simp)
            have Bg9 : t_B g9 = t_B h := t_Bp Pg9 (by decide) (by decide)
            have Fg9 : ty_F pW g9 g9 := ty_F_refl _ _
            unfold q_k at Kg9
            show AR _ _ _ _ _ _ _ 58 [(3, .int z1051), (2, .int i), (1, .int c), (0, .ref 3)] [] g9 _ _
            refine AR.s (pc' := 59) (lv' := [(3, .int z1051), (2, .int i), (1, .int c), (0, .ref 3)]) (st' := [.ref 3]) (h' := g9) _ hn_56 hk_56_58 rfl ?_
            refine AR.s (pc' := 60) (lv' := [(3, .int z1051), (2, .int i), (1, .int c), (0, .ref 3)]) (st' := [.int z1051, .ref 3]) (h' := g9) _ hn_56 hk_56_59 rfl ?_
            obtain ⟨vc1053, cc1053⟩ := q_c3 Hg9
            refine AR.jr (r := 3) (as := [.int z1051]) (rest := []) hk_56_60 (by decide) (by decide +kernel) (by decide) cc1053 rfl rfl (Nat.le_of_ble_eq_true rfl) (q_57 hlst (d := t.2) Hg9 Rg9 (by rw [Bg9]; exact T) (by rcases M1 with ⟨e1, e2⟩ | ⟨e1, e2⟩ <;> omega) (fun k hk => by rw [Tg9.z (by decide), hf]; have := hfb k hk; omega)) (by decide) (Nat.zero_le _) (Nat.zero_le _) ?_ (fun E h' q => by obtain ⟨-, -, -, -, ⟨_, e, -⟩, -⟩ := q; cases e)
            rintro w g8 ⟨Hg8, P8, K8, Rg8, ⟨z, er, ez⟩, v8⟩
            cases er
            unfold q_k at K8
            show AR _ _ _ _ _ _ _ 63 [(3, .int z1051), (2, .int i), (1, .int c), (0, .ref 3)] [.int z] g8 _ _
            refine AR.s (pc' := 64) (lv' := [(1, .int z), (3, .int z1051), (2, .int i), (0, .ref 3)]) (st' := []) (h' := g8) _ hn_56 hk_56_63 rfl ?_
            refine AR.iincT hk_56_64 (x := i) rfl (by rw [hn_56]; decide) (by decide) (by omega) (by omega) (fun z1054 ez1054 => ?_)
            show AR _ _ _ _ _ _ _ 67 [(2, .int z1054), (1, .int z), (3, .int z1051), (0, .ref 3)] [] g8 _ _
            refine AR.gotoT hk_56_67 (tgt := 11) (by decide) ?_
            refine AR.lessL (lv' := [(2, .int z1054), (1, .int z), (0, .ref 3)]) (List.forall_mem_cons.mpr ⟨⟨_, by simp, ax_le_rfl rfl⟩, (List.forall_mem_cons.mpr ⟨⟨_, by simp, ax_le_rfl rfl⟩, (List.forall_mem_cons.mpr ⟨⟨_, by simp, ax_le_rfl rfl⟩, (fun _ h => absurd h List.not_mem_nil)⟩)⟩)⟩) ?_
            refine ih g8 z1054 z s1 (fun k => if k = t.1 then f k + t.2 else f k) (b + 9) (by omega) (by omega) (by omega) Hg8 (pf.tr Pg9 P8 (fun _ q => q)) ⟨by omega, by omega⟩ Rg8 (fun k => ?_) (by omega) (fun k hk => ?_) M2
            · rw [v8, Tg9.z (by decide), hf]
            · have := hfb k hk
              show -(b + 9) ≤ (if k = t.1 then f k + t.2 else f k) ∧ (if k = t.1 then f k + t.2 else f k) ≤ b + 9
              rcases M1 with ⟨e1, e2⟩ | ⟨e1, e2⟩ <;> split <;> omega
          · exact absurd t2 (by omega)
        · refine AR.s (pc' := 31) (lv' := [(2, .int i), (1, .int c), (0, .ref 3)]) (st' := [.ref 3]) (h' := g) _ hn_56 hk_56_30 rfl ?_
          refine AR.gI hk_56_31 (by decide) Hg (q := 3) (n := 9) (by decide) (by decide +kernel) (by decide +kernel) (by decide) hy_t3_2 (fun x1055 dx1055 lx1055 ux1055 => ?_)
          show AR _ _ _ _ _ _ _ 34 [(2, .int i), (1, .int c), (0, .ref 3)] [.int x1055] g _ _
          have sx1055 := hy_zi dx1055
          refine AR.iconstT hk_56_34 (by decide) (fun z1056 ez1056 => ?_)
          show AR _ _ _ _ _ _ _ 35 [(2, .int i), (1, .int c), (0, .ref 3)] [.int z1056, .int x1055] g _ _
          refine AR.jeq hk_56_35 (tgt := 40) (by decide) (fun y1 => ?_) (fun y2 => ?_)
          · refine AR.s (pc' := 41) (lv' := [(2, .int i), (1, .int c), (0, .ref 3)]) (st' := [.ref 3]) (h' := g) _ hn_56 hk_56_40 rfl ?_
            refine AR.gI hk_56_41 (by decide) Hg (q := 3) (n := 9) (by decide) (by decide +kernel) (by decide +kernel) (by decide) hy_t3_2 (fun x1057 dx1057 lx1057 ux1057 => ?_)
            show AR _ _ _ _ _ _ _ 44 [(2, .int i), (1, .int c), (0, .ref 3)] [.int x1057] g _ _
            have sx1057 := hy_zi dx1057
            refine AR.iconstT hk_56_44 (by decide) (fun z1058 ez1058 => ?_)
            show AR _ _ _ _ _ _ _ 45 [(2, .int i), (1, .int c), (0, .ref 3)] [.int z1058, .int x1057] g _ _
            refine AR.jne hk_56_45 (tgt := 52) (by decide) (fun t1 => ?_) (fun t2 => ?_)
            · exact absurd t1 (by omega)
            · refine AR.iconstT hk_56_48 (by decide) (fun z1059 ez1059 => ?_)
              show AR _ _ _ _ _ _ _ 49 [(2, .int i), (1, .int c), (0, .ref 3)] [.int z1059] g _ _
              refine AR.gotoT hk_56_49 (tgt := 53) (by decide) ?_
              refine AR.s (pc' := 54) (lv' := [(3, .int z1059), (2, .int i), (1, .int c), (0, .ref 3)]) (st' := []) (h' := g) _ hn_56 hk_56_53 rfl ?_
              refine AR.s (pc' := 55) (lv' := [(3, .int z1059), (2, .int i), (1, .int c), (0, .ref 3)]) (st' := [.ref 3]) (h' := g) _ hn_56 hk_56_54 rfl ?_
              obtain ⟨vc1060, cc1060⟩ := q_c3 Hg
              refine AR.jr (r := 3) (as := []) (rest := []) hk_56_55 (by decide) (by decide +kernel) (by decide) cc1060 rfl rfl (Nat.le_of_ble_eq_true rfl) (q_61 hlst Hg (by rw [Bg]; exact ok) R0) (by decide) (Nat.zero_le _) (Nat.zero_le _) ?_ (fun E h' q => by cases q.1)
              rintro w g9 ⟨e, Hg9, Tg9, Kg9, Rg9⟩
              cases e
              rw [Bg] at Rg9
              have Pg9 : pf [3, 4] h g9 := pf.tr Pg Tg9 (by simp)
              have Bg9 : t_B g9 = t_B h := t_Bp Pg9 (by decide) (by decide)
              have Fg9 : ty_F pW g9 g9 := ty_F_refl _ _
              unfold q_k at Kg9
              show AR _ _ _ _ _ _ _ 58 [(3, .int z1059), (2, .int i), (1, .int c), (0, .ref 3)] [] g9 _ _
              refine AR.s (pc' := 59) (lv' := [(3, .int z1059), (2, .int i), (1, .int c), (0, .ref 3)]) (st' := [.ref 3]) (h' := g9) _ hn_56 hk_56_58 rfl ?_
              refine AR.s (pc' := 60) (lv' := [(3, .int z1059), (2, .int i), (1, .int c), (0, .ref 3)]) (st' := [.int z1059, .ref 3]) (h' := g9) _ hn_56 hk_56_59 rfl ?_
              obtain ⟨vc1061, cc1061⟩ := q_c3 Hg9
              refine AR.jr (r := 3) (as := [.int z1059]) (rest := []) hk_56_60 (by decide) (by decide +kernel) (by decide) cc1061 rfl rfl (Nat.le_of_ble_eq_true rfl) (q_57 hlst (d := t.2) Hg9 Rg9 (by rw [Bg9]; exact T) (by rcases M1 with ⟨e1, e2⟩ | ⟨e1, e2⟩ <;> omega) (fun k hk => by rw [Tg9.z (by decide), hf]; have := hfb k hk; omega)) (by decide) (Nat.zero_le _) (Nat.zero_le _) ?_ (fun E h' q => by obtain ⟨-, -, -, -, ⟨_, e, -⟩, -⟩ := q; cases e)
              rintro w g8 ⟨Hg8, P8, K8, Rg8, ⟨z, er, ez⟩, v8⟩
              cases er
              unfold q_k at K8
              show AR _ _ _ _ _ _ _ 63 [(3, .int z1059), (2, .int i), (1, .int c), (0, .ref 3)] [.int z] g8 _ _
              refine AR.s (pc' := 64) (lv' := [(1, .int z), (3, .int z1059), (2, .int i), (0, .ref 3)]) (st' := []) (h' := g8) _ hn_56 hk_56_63 rfl ?_
              refine AR.iincT hk_56_64 (x := i) rfl (by rw [hn_56]; decide) (by decide) (by omega) (by omega) (fun z1062 ez1062 => ?_)
              show AR _ _ _ _ _ _ _ 67 [(2, .int z1062), (1, .int z), (3, .int z1059), (0, .ref 3)] [] g8 _ _
              refine AR.gotoT hk_56_67 (tgt := 11) (by decide) ?_
              refine AR.lessL (lv' := [(2, .int z1062), (1, .int z), (0, .ref 3)]) (List.forall_mem_cons.mpr ⟨⟨_, by simp, ax_le_rfl rfl⟩, (List.forall_mem_cons.mpr ⟨⟨_, by simp, ax_le_rfl rfl⟩, (List.forall_mem_cons.mpr ⟨⟨_, by simp, ax_le_rfl rfl⟩, (fun _ h => absurd h List.not_mem_nil)⟩)⟩)⟩) ?_
              refine ih g8 z1062 z s1 (fun k => if k = t.1 then f k + t.2 else f k) (b + 9) (by omega) (by omega) (by omega) Hg8 (pf.tr Pg9 P8 (fun _ q => q)) ⟨by omega, by omega⟩ Rg8 (fun k => ?_) (by omega) (fun k hk => ?_) M2
              · rw [v8, Tg9.z (by decide), hf]
              · have := hfb k hk
                show -(b + 9) ≤ (if k = t.1 then f k + t.2 else f k) ∧ (if k = t.1 then f k + t.2 else f k) ≤ b + 9
                rcases M1 with ⟨e1, e2⟩ | ⟨e1, e2⟩ <;> split <;> omega
          · exact absurd M1 (by omega)
theorem q_56 (hlst : l.stackTraces = false) {s s' : q_S} {ts : List (Nat × Int)} (hH : hy_H 0 h) (R : q_R h s) (U : q_U (t_B h) s ts s') (hl : ts.length ≤ 20) (c4 : ∀ k, k < 24 → hy_z h 4 k = 0) : AM ax_ns l (ax_mm 56) 4 ty_R (0) (0) [.ref 3] h (pq_56 h s' (q_A (hy_z h 4) ts)) := by
  refine AM.of (ax_mfacts (by decide +kernel : ax_has 56 = true)).2.2.2.2.2.2 hlst (by rw [hn_56]; exact Nat.le_of_ble_eq_true rfl) ?_
  show AR ax_ns l (ax_mm 56) 4 ty_R _ _ 0 [(0, .ref 3)] [] h (0) (0)
  have P0 : pf [3, 4] h h := pf_r _ _
  obtain ⟨t, tl, s1, sz, rfl, U1, M⟩ := U
  simp only [List.length_cons] at hl
  show AR _ _ _ _ _ _ _ 0 [(0, .ref 3)] [] h _ _
  refine AR.s (pc' := 1) (lv' := [(0, .ref 3)]) (st' := [.ref 3]) (h' := h) _ hn_56 hk_56_0 rfl ?_
  refine AR.s (pc' := 2) (lv' := [(0, .ref 3)]) (st' := [.ref 3, .ref 3]) (h' := h) _ hn_56 hk_56_1 rfl ?_
  obtain ⟨vc1063, cc1063⟩ := q_c3 hH
  refine AR.jr (r := 3) (as := []) (rest := [.ref 3]) hk_56_2 (by decide) (by decide +kernel) (by decide) cc1063 rfl rfl (Nat.le_of_ble_eq_true rfl) (q_60 hlst hH (fun e => by rcases U1 with ⟨-, e2, -⟩ | ⟨e1, -⟩; exact e2; exact absurd e e1) R) (by decide) (Nat.zero_le _) (Nat.zero_le _) ?_ (fun E h' q => by obtain ⟨-, -, -, ⟨_, e, -⟩⟩ := q; cases e)
  rintro w g9 ⟨Hg9, T9, K9, ⟨z, er, hz⟩⟩
  cases er
  unfold q_k at K9
  have B9 : t_B g9 = t_B h := t_Bp T9 (by decide) (by decide)
  show AR _ _ _ _ _ _ _ 5 [(0, .ref 3)] [.int z, .ref 3] g9 _ _
  have W : ∃ s2, q_R g9 s2 ∧ q_T (t_B h) s2 s1 t.1 sz ∧ ((z.toInt = 0 ∧ t.2 = sz) ∨ (z.toInt ≠ 0 ∧ t.2 = -sz)) := by
    rcases U1 with ⟨e1, e2, e3, e4⟩ | ⟨e1, e3, e4⟩ <;> rcases hz with ⟨f1, f2, f3⟩ | ⟨f1, f2, f3⟩
    · exact ⟨_, f3, e3, Or.inr ⟨by omega, e4⟩⟩
    · exact absurd e1 f2
    · exact absurd f2 e1
    · exact ⟨_, f3, e3, Or.inl ⟨f1, e4⟩⟩
  obtain ⟨s2, R2, T2, hd⟩ := W
  have S9 := q_T9 T2
  show AR _ _ _ _ _ _ _ 5 [(0, .ref 3)] [.int z, .ref 3] g9 _ _
  obtain ⟨vc1064, cc1064⟩ := q_c3 Hg9
  refine AR.jr (r := 3) (as := [.int z]) (rest := []) hk_56_5 (by decide) (by decide +kernel) (by decide) cc1064 rfl rfl (Nat.le_of_ble_eq_true rfl) (q_57 hlst (d := t.2) Hg9 R2 (by rw [B9]; exact T2) hd (fun k hk => by rw [T9.z (by decide), c4 k hk]; omega)) (by decide) (Nat.zero_le _) (Nat.zero_le _) ?_ (fun E h' q => by obtain ⟨-, -, -, -, ⟨_, e, -⟩, -⟩ := q; cases e)
  rintro w g8 ⟨Hg8, P8, K8, Rg8, ⟨z2, er, ez⟩, v8⟩
  cases er
  unfold q_k at K8
  show AR _ _ _ _ _ _ _ 8 [(0, .ref 3)] [.int z2] g8 _ _
  refine AR.s (pc' := 9) (lv' := [(1, .int z2), (0, .ref 3)]) (st' := []) (h' := g8) _ hn_56 hk_56_8 rfl ?_
  refine AR.iconstT hk_56_9 (by decide) (fun z1065 ez1065 => ?_)
  show AR _ _ _ _ _ _ _ 10 [(1, .int z2), (0, .ref 3)] [.int z1065] g8 _ _
  refine AR.s (pc' := 11) (lv' := [(2, .int z1065), (1, .int z2), (0, .ref 3)]) (st' := []) (h' := g8) _ hn_56 hk_56_10 rfl ?_
  refine AR.lessL (lv' := [(2, .int z1065), (1, .int z2), (0, .ref 3)]) (List.forall_mem_cons.mpr ⟨⟨_, by simp, ax_le_rfl rfl⟩, (List.forall_mem_cons.mpr ⟨⟨_, by simp, ax_le_rfl rfl⟩, (List.forall_mem_cons.mpr ⟨⟨_, by simp, ax_le_rfl rfl⟩, (fun _ h => absurd h List.not_mem_nil)⟩)⟩)⟩) ?_
  exact q56_L hlst tl g8 z1065 z2 s1 (fun k => if k = t.1 then hy_z h 4 k + t.2 else hy_z h 4 k) 9 (by omega) (by omega) (by omega) Hg8 (pf.tr (pf.tr P0 T9 (by simp)) P8 (fun _ q => q)) ⟨by omega, by omega⟩ Rg8 (fun k => by rw [v8, T9.z (by decide)]) (by omega) (fun k hk => by show -9 ≤ (if k = t.1 then hy_z h 4 k + t.2 else hy_z h 4 k) ∧ (if k = t.1 then hy_z h 4 k + t.2 else hy_z h 4 k) ≤ 9; rw [c4 k hk]; rcases hd with ⟨e1, e2⟩ | ⟨e1, e2⟩ <;> split <;> omega) M
theorem q_58 (hlst : l.stackTraces = false) {s : q_S} (hH : hy_H 0 h) (R : q_R h s) (hr : s.2.1 = 7 ∨ s.2.1 = 8) (ok : q_ok (t_B h) s.1) : AM ax_ns l (ax_mm 58) 3 ty_R (0) (0) [.ref 3] h (fun res g => hy_H 0 g ∧ pf [3] h g ∧ hy_z g 3 7 = s.2.1 ∧ q_R g (q_nx (t_B h) s) ∧ ∃ z : Int32, res = .inl (some (.int z)) ∧ z.toInt = 1) := by
  refine AM.of (ax_mfacts (by decide +kernel : ax_has 58 = true)).2.2.2.2.2.2 hlst (by rw [hn_58]; exact Nat.le_of_ble_eq_true rfl) ?_
  show AR ax_ns l (ax_mm 58) 3 ty_R _ _ 0 [(0, .ref 3)] [] h (0) (0)
  have P0 : pf [3] h h := pf_r _ _
  have F : ty_F pW h h := ty_F_refl _ _
  obtain ⟨R1, R2, R4, R5⟩ := R
  show AR _ _ _ _ _ _ _ 0 [(0, .ref 3)] [] h _ _
  refine AR.s (pc' := 1) (lv' := [(0, .ref 3)]) (st' := [.ref 3]) (h' := h) _ hn_58 hk_58_0 rfl ?_
  refine AR.gI hk_58_1 (by decide) hH (q := 3) (n := 9) (by decide) (by decide +kernel) (by decide +kernel) (by decide) hy_t3_2 (fun x1066 dx1066 lx1066 ux1066 => ?_)
  show AR _ _ _ _ _ _ _ 4 [(0, .ref 3)] [.int x1066] h _ _
  have sx1066 := hy_zi dx1066
  refine AR.bipushT hk_58_4 (by decide) (fun z1067 ez1067 => ?_)
  show AR _ _ _ _ _ _ _ 6 [(0, .ref 3)] [.int z1067, .int x1066] h _ _
  refine AR.jeq hk_58_6 (tgt := 29) (by decide) (fun p1 => ?_) (fun p2 => ?_)
  · refine AR.s (pc' := 30) (lv' := [(0, .ref 3)]) (st' := [.ref 3]) (h' := h) _ hn_58 hk_58_29 rfl ?_
    refine AR.s (pc' := 31) (lv' := [(0, .ref 3)]) (st' := [.ref 3, .ref 3]) (h' := h) _ hn_58 hk_58_30 rfl ?_
    refine AR.gI hk_58_31 (by decide) hH (q := 3) (n := 9) (by decide) (by decide +kernel) (by decide +kernel) (by decide) hy_t3_2 (fun x1068 dx1068 lx1068 ux1068 => ?_)
    show AR _ _ _ _ _ _ _ 34 [(0, .ref 3)] [.int x1068, .ref 3] h _ _
    have sx1068 := hy_zi dx1068
    have r1069a := Int32.le_toInt x1068
    have r1069b := Int32.toInt_lt x1068
    refine AR.pT hk_58_34 (by decide) hH F (q := 3) (by decide) (by decide +kernel) (show ax_cls[6]? = some hy_c6 from rfl) (by decide +kernel) (by decide) rfl (by rw [hy_t3_7]; exact ⟨_, rfl, by omega, by omega, Or.inl rfl⟩) (by decide +kernel) (by decide +kernel) ?_
    rintro g1070 ⟨Hg1070, Fg1070, Gg1070, Eg1070⟩
    show AR _ _ _ _ _ _ _ 37 [(0, .ref 3)] [] g1070 _ _
    have pg1070 : pf [3] h g1070 := pf_st P0 Gg1070.1 Eg1070 (by simp)
    have zg1070_1 : hy_z g1070 3 1 = hy_z h 3 1 := (hf_put Eg1070 1).trans (if_neg (by decide))
    have zg1070_2 : hy_z g1070 3 2 = hy_z h 3 2 := (hf_put Eg1070 2).trans (if_neg (by decide))
    have zg1070_4 : hy_z g1070 3 4 = hy_z h 3 4 := (hf_put Eg1070 4).trans (if_neg (by decide))
    have zg1070_5 : hy_z g1070 3 5 = hy_z h 3 5 := (hf_put Eg1070 5).trans (if_neg (by decide))
    have zg1070_7 : hy_z g1070 3 7 = x1068.toInt := (hf_put Eg1070 7).trans (if_pos rfl)
    have zg1070_8 : hy_z g1070 3 8 = hy_z h 3 8 := (hf_put Eg1070 8).trans (if_neg (by decide))
    show AR _ _ _ _ _ _ _ 37 [(0, .ref 3)] [] g1070 _ _
    refine AR.s (pc' := 38) (lv' := [(0, .ref 3)]) (st' := [.ref 3]) (h' := g1070) _ hn_58 hk_58_37 rfl ?_
    have R8 : q_R g1070 s := ⟨by omega, by omega, by omega, by omega⟩
    have B8 : t_B g1070 = t_B h := t_Bp pg1070 (by decide) (by decide)
    show AR _ _ _ _ _ _ _ 38 [(0, .ref 3)] [.ref 3] g1070 _ _
    obtain ⟨vc1071, cc1071⟩ := q_c3 Hg1070
    refine AR.jr (r := 3) (as := []) (rest := []) hk_58_38 (by decide) (by decide +kernel) (by decide) cc1071 rfl rfl (Nat.le_of_ble_eq_true rfl) (q_61 hlst Hg1070 (by rw [B8]; exact ok) R8) (by decide) (Nat.zero_le _) (Nat.zero_le _) ?_ (fun E h' q => by cases q.1)
    rintro w g9 ⟨e, Hg9, Tg9, Kg9, Rg9⟩
    cases e
    rw [B8] at Rg9
    have Pg9 : pf [3] h g9 := pf.tr pg1070 Tg9 (by simp)
    have Bg9 : t_B g9 = t_B h := t_Bp Pg9 (by decide) (by decide)
    have Fg9 : ty_F pW g9 g9 := ty_F_refl _ _
    unfold q_k at Kg9
    show AR _ _ _ _ _ _ _ 41 [(0, .ref 3)] [] g9 _ _
    refine AR.iconstT hk_58_41 (by decide) (fun z1072 ez1072 => ?_)
    show AR _ _ _ _ _ _ _ 42 [(0, .ref 3)] [.int z1072] g9 _ _
    exact AR.zret hk_58_42 hr_58 (Or.inr (by omega)) ⟨Hg9, Pg9, by omega, Rg9, _, rfl, by omega⟩
  · refine AR.s (pc' := 10) (lv' := [(0, .ref 3)]) (st' := [.ref 3]) (h' := h) _ hn_58 hk_58_9 rfl ?_
    refine AR.gI hk_58_10 (by decide) hH (q := 3) (n := 9) (by decide) (by decide +kernel) (by decide +kernel) (by decide) hy_t3_2 (fun x1073 dx1073 lx1073 ux1073 => ?_)
    show AR _ _ _ _ _ _ _ 13 [(0, .ref 3)] [.int x1073] h _ _
    have sx1073 := hy_zi dx1073
    refine AR.bipushT hk_58_13 (by decide) (fun z1074 ez1074 => ?_)
    show AR _ _ _ _ _ _ _ 15 [(0, .ref 3)] [.int z1074, .int x1073] h _ _
    refine AR.jeq hk_58_15 (tgt := 29) (by decide) (fun q1 => ?_) (fun q2 => ?_)
    · refine AR.s (pc' := 30) (lv' := [(0, .ref 3)]) (st' := [.ref 3]) (h' := h) _ hn_58 hk_58_29 rfl ?_
      refine AR.s (pc' := 31) (lv' := [(0, .ref 3)]) (st' := [.ref 3, .ref 3]) (h' := h) _ hn_58 hk_58_30 rfl ?_
      refine AR.gI hk_58_31 (by decide) hH (q := 3) (n := 9) (by decide) (by decide +kernel) (by decide +kernel) (by decide) hy_t3_2 (fun x1075 dx1075 lx1075 ux1075 => ?_)
      show AR _ _ _ _ _ _ _ 34 [(0, .ref 3)] [.int x1075, .ref 3] h _ _
      have sx1075 := hy_zi dx1075
      have r1076a := Int32.le_toInt x1075
      have r1076b := Int32.toInt_lt x1075
      refine AR.pT hk_58_34 (by decide) hH F (q := 3) (by decide) (by decide +kernel) (show ax_cls[6]? = some hy_c6 from rfl) (by decide +kernel) (by decide) rfl (by rw [hy_t3_7]; exact ⟨_, rfl, by omega, by omega, Or.inl rfl⟩) (by decide +kernel) (by decide +kernel) ?_
      rintro g1077 ⟨Hg1077, Fg1077, Gg1077, Eg1077⟩
      show AR _ _ _ _ _ _ _ 37 [(0, .ref 3)] [] g1077 _ _
      have pg1077 : pf [3] h g1077 := pf_st P0 Gg1077.1 Eg1077 (by simp)
      have zg1077_1 : hy_z g1077 3 1 = hy_z h 3 1 := (hf_put Eg1077 1).trans (if_neg (by decide))
      have zg1077_2 : hy_z g1077 3 2 = hy_z h 3 2 := (hf_put Eg1077 2).trans (if_neg (by decide))
      have zg1077_4 : hy_z g1077 3 4 = hy_z h 3 4 := (hf_put Eg1077 4).trans (if_neg (by decide))
      have zg1077_5 : hy_z g1077 3 5 = hy_z h 3 5 := (hf_put Eg1077 5).trans (if_neg (by decide))
      have zg1077_7 : hy_z g1077 3 7 = x1075.toInt := (hf_put Eg1077 7).trans (if_pos rfl)
      have zg1077_8 : hy_z g1077 3 8 = hy_z h 3 8 := (hf_put Eg1077 8).trans (if_neg (by decide))
      show AR _ _ _ _ _ _ _ 37 [(0, .ref 3)] [] g1077 _ _
      refine AR.s (pc' := 38) (lv' := [(0, .ref 3)]) (st' := [.ref 3]) (h' := g1077) _ hn_58 hk_58_37 rfl ?_
      have R8 : q_R g1077 s := ⟨by omega, by omega, by omega, by omega⟩
      have B8 : t_B g1077 = t_B h := t_Bp pg1077 (by decide) (by decide)
      show AR _ _ _ _ _ _ _ 38 [(0, .ref 3)] [.ref 3] g1077 _ _
      obtain ⟨vc1078, cc1078⟩ := q_c3 Hg1077
      refine AR.jr (r := 3) (as := []) (rest := []) hk_58_38 (by decide) (by decide +kernel) (by decide) cc1078 rfl rfl (Nat.le_of_ble_eq_true rfl) (q_61 hlst Hg1077 (by rw [B8]; exact ok) R8) (by decide) (Nat.zero_le _) (Nat.zero_le _) ?_ (fun E h' q => by cases q.1)
      rintro w g9 ⟨e, Hg9, Tg9, Kg9, Rg9⟩
      cases e
      rw [B8] at Rg9
      have Pg9 : pf [3] h g9 := pf.tr pg1077 Tg9 (by simp)
      have Bg9 : t_B g9 = t_B h := t_Bp Pg9 (by decide) (by decide)
      have Fg9 : ty_F pW g9 g9 := ty_F_refl _ _
      unfold q_k at Kg9
      show AR _ _ _ _ _ _ _ 41 [(0, .ref 3)] [] g9 _ _
      refine AR.iconstT hk_58_41 (by decide) (fun z1079 ez1079 => ?_)
      show AR _ _ _ _ _ _ _ 42 [(0, .ref 3)] [.int z1079] g9 _ _
      exact AR.zret hk_58_42 hr_58 (Or.inr (by omega)) ⟨Hg9, Pg9, by omega, Rg9, _, rfl, by omega⟩
    · exact absurd hr (by omega)
theorem q_59 (hlst : l.stackTraces = false) {s s' : q_S} {d : Int} (hH : hy_H 0 h) (R : q_R h s) (hb : (s.2.1 = 5 ∧ q_ok (t_B h) s.1 ∧ s' = q_nx (t_B h) s ∧ d = -s'.2.2.1) ∨ (s.2.1 ≠ 5 ∧ s' = s ∧ d = s'.2.2.1)) (n2 : s'.2.1 = 2) (n9 : 0 ≤ s'.2.2.1 ∧ s'.2.2.1 ≤ 9) (ok : q_ok (t_B h) s'.1) : AM ax_ns l (ax_mm 59) 4 ty_R (0) (0) [.ref 3] h (fun res g => hy_H 0 g ∧ pf [3] h g ∧ hy_z g 3 7 = hy_z h 3 7 ∧ hy_z g 3 8 = d ∧ q_R g (q_nx (t_B h) s') ∧ ∃ z : Int32, res = .inl (some (.int z)) ∧ z.toInt = 1) := by
  refine AM.of (ax_mfacts (by decide +kernel : ax_has 59 = true)).2.2.2.2.2.2 hlst (by rw [hn_59]; exact Nat.le_of_ble_eq_true rfl) ?_
  show AR ax_ns l (ax_mm 59) 4 ty_R _ _ 0 [(0, .ref 3)] [] h (0) (0)
  have P0 : pf [3] h h := pf_r _ _
  show AR _ _ _ _ _ _ _ 0 [(0, .ref 3)] [] h _ _
  refine AR.s (pc' := 1) (lv' := [(0, .ref 3)]) (st' := [.ref 3]) (h' := h) _ hn_59 hk_59_0 rfl ?_
  obtain ⟨vc1080, cc1080⟩ := q_c3 hH
  refine AR.jr (r := 3) (as := []) (rest := []) hk_59_1 (by decide) (by decide +kernel) (by decide) cc1080 rfl rfl (Nat.le_of_ble_eq_true rfl) (q_60 hlst hH (fun e => by rcases hb with ⟨-, e2, -⟩ | ⟨e1, -⟩; exact e2; exact absurd e e1) R) (by decide) (Nat.zero_le _) (Nat.zero_le _) ?_ (fun E h' q => by obtain ⟨-, -, -, ⟨_, e, -⟩⟩ := q; cases e)
  rintro w g9 ⟨Hg9, T9, K9, ⟨z, er, hz⟩⟩
  cases er
  unfold q_k at K9
  have Fg9 : ty_F pW g9 g9 := ty_F_refl _ _
  have W : q_R g9 s' ∧ ((z.toInt = 0 ∧ d = s'.2.2.1) ∨ (z.toInt = 1 ∧ d = -s'.2.2.1)) := by
    rcases hb with ⟨e1, e2, e3, e4⟩ | ⟨e1, e3, e4⟩ <;> rcases hz with ⟨f1, f2, f3⟩ | ⟨f1, f2, f3⟩
    · exact ⟨by rw [e3]; exact f3, Or.inr ⟨f1, e4⟩⟩
    · exact absurd e1 f2
    · exact absurd f2 e1
    · exact ⟨by rw [e3]; exact f3, Or.inl ⟨f1, e4⟩⟩
  obtain ⟨⟨R1, R2, R4, R5⟩, hd⟩ := W
  show AR _ _ _ _ _ _ _ 4 [(0, .ref 3)] [.int z] g9 _ _
  refine AR.s (pc' := 5) (lv' := [(1, .int z), (0, .ref 3)]) (st' := []) (h' := g9) _ hn_59 hk_59_4 rfl ?_
  refine AR.s (pc' := 6) (lv' := [(1, .int z), (0, .ref 3)]) (st' := [.ref 3]) (h' := g9) _ hn_59 hk_59_5 rfl ?_
  refine AR.gI hk_59_6 (by decide) Hg9 (q := 3) (n := 9) (by decide) (by decide +kernel) (by decide +kernel) (by decide) hy_t3_2 (fun x1081 dx1081 lx1081 ux1081 => ?_)
  show AR _ _ _ _ _ _ _ 9 [(1, .int z), (0, .ref 3)] [.int x1081] g9 _ _
  have sx1081 := hy_zi dx1081
  refine AR.iconstT hk_59_9 (by decide) (fun z1082 ez1082 => ?_)
  show AR _ _ _ _ _ _ _ 10 [(1, .int z), (0, .ref 3)] [.int z1082, .int x1081] g9 _ _
  refine AR.jeq hk_59_10 (tgt := 15) (by decide) (fun p1 => ?_) (fun p2 => ?_)
  · refine AR.s (pc' := 16) (lv' := [(1, .int z), (0, .ref 3)]) (st' := [.ref 3]) (h' := g9) _ hn_59 hk_59_15 rfl ?_
    refine AR.s (pc' := 17) (lv' := [(1, .int z), (0, .ref 3)]) (st' := [.int z, .ref 3]) (h' := g9) _ hn_59 hk_59_16 rfl ?_
    refine AR.zeq hk_59_17 (tgt := 28) (by decide) (fun q1 => ?_) (fun q2 => ?_)
    · refine AR.s (pc' := 29) (lv' := [(1, .int z), (0, .ref 3)]) (st' := [.ref 3, .ref 3]) (h' := g9) _ hn_59 hk_59_28 rfl ?_
      refine AR.gI hk_59_29 (by decide) Hg9 (q := 3) (n := 9) (by decide) (by decide +kernel) (by decide +kernel) (by decide) hy_t3_4 (fun x1083 dx1083 lx1083 ux1083 => ?_)
      show AR _ _ _ _ _ _ _ 32 [(1, .int z), (0, .ref 3)] [.int x1083, .ref 3] g9 _ _
      have sx1083 := hy_zi dx1083
      have r1084a := Int32.le_toInt x1083
      have r1084b := Int32.toInt_lt x1083
      refine AR.pT hk_59_32 (by decide) Hg9 Fg9 (q := 3) (by decide) (by decide +kernel) (show ax_cls[6]? = some hy_c6 from rfl) (by decide +kernel) (by decide) rfl (by rw [hy_t3_8]; exact ⟨_, rfl, by omega, by omega, Or.inl rfl⟩) (by decide +kernel) (by decide +kernel) ?_
      rintro g1085 ⟨Hg1085, Fg1085, Gg1085, Eg1085⟩
      show AR _ _ _ _ _ _ _ 35 [(1, .int z), (0, .ref 3)] [] g1085 _ _
      have pg1085 : pf [3] h g1085 := pf_st T9 Gg1085.1 Eg1085 (by simp)
      have zg1085_1 : hy_z g1085 3 1 = hy_z g9 3 1 := (hf_put Eg1085 1).trans (if_neg (by decide))
      have zg1085_2 : hy_z g1085 3 2 = hy_z g9 3 2 := (hf_put Eg1085 2).trans (if_neg (by decide))
      have zg1085_4 : hy_z g1085 3 4 = hy_z g9 3 4 := (hf_put Eg1085 4).trans (if_neg (by decide))
      have zg1085_5 : hy_z g1085 3 5 = hy_z g9 3 5 := (hf_put Eg1085 5).trans (if_neg (by decide))
      have zg1085_7 : hy_z g1085 3 7 = hy_z g9 3 7 := (hf_put Eg1085 7).trans (if_neg (by decide))
      have zg1085_8 : hy_z g1085 3 8 = x1083.toInt := (hf_put Eg1085 8).trans (if_pos rfl)
      show AR _ _ _ _ _ _ _ 35 [(1, .int z), (0, .ref 3)] [] g1085 _ _
      refine AR.s (pc' := 36) (lv' := [(1, .int z), (0, .ref 3)]) (st' := [.ref 3]) (h' := g1085) _ hn_59 hk_59_35 rfl ?_
      have R8 : q_R g1085 s' := ⟨by omega, by omega, by omega, by omega⟩
      have B8 : t_B g1085 = t_B h := t_Bp pg1085 (by decide) (by decide)
      show AR _ _ _ _ _ _ _ 36 [(1, .int z), (0, .ref 3)] [.ref 3] g1085 _ _
      obtain ⟨vc1086, cc1086⟩ := q_c3 Hg1085
      refine AR.jr (r := 3) (as := []) (rest := []) hk_59_36 (by decide) (by decide +kernel) (by decide) cc1086 rfl rfl (Nat.le_of_ble_eq_true rfl) (q_61 hlst Hg1085 (by rw [B8]; exact ok) R8) (by decide) (Nat.zero_le _) (Nat.zero_le _) ?_ (fun E h' q => by cases q.1)
      rintro w g7 ⟨e, Hg7, Tg7, Kg7, Rg7⟩
      cases e
      rw [B8] at Rg7
      have Pg7 : pf [3] h g7 := pf.tr pg1085 Tg7 (by simp)
      have Bg7 : t_B g7 = t_B h := t_Bp Pg7 (by decide) (by decide)
      have Fg7 : ty_F pW g7 g7 := ty_F_refl _ _
      unfold q_k at Kg7
      show AR _ _ _ _ _ _ _ 39 [(1, .int z), (0, .ref 3)] [] g7 _ _
      refine AR.iconstT hk_59_39 (by decide) (fun z1087 ez1087 => ?_)
      show AR _ _ _ _ _ _ _ 40 [(1, .int z), (0, .ref 3)] [.int z1087] g7 _ _
      exact AR.zret hk_59_40 hr_59 (Or.inr (by omega)) ⟨Hg7, Pg7, by omega, by omega, Rg7, _, rfl, by omega⟩
    · refine AR.s (pc' := 21) (lv' := [(1, .int z), (0, .ref 3)]) (st' := [.ref 3, .ref 3]) (h' := g9) _ hn_59 hk_59_20 rfl ?_
      refine AR.gI hk_59_21 (by decide) Hg9 (q := 3) (n := 9) (by decide) (by decide +kernel) (by decide +kernel) (by decide) hy_t3_4 (fun x1088 dx1088 lx1088 ux1088 => ?_)
      show AR _ _ _ _ _ _ _ 24 [(1, .int z), (0, .ref 3)] [.int x1088, .ref 3] g9 _ _
      have sx1088 := hy_zi dx1088
      refine AR.negT hk_59_24 (by omega) (fun z1089 ez1089 => ?_)
      show AR _ _ _ _ _ _ _ 25 [(1, .int z), (0, .ref 3)] [.int z1089, .ref 3] g9 _ _
      refine AR.gotoT hk_59_25 (tgt := 32) (by decide) ?_
      have r1090a := Int32.le_toInt z1089
      have r1090b := Int32.toInt_lt z1089
      refine AR.pT hk_59_32 (by decide) Hg9 Fg9 (q := 3) (by decide) (by decide +kernel) (show ax_cls[6]? = some hy_c6 from rfl) (by decide +kernel) (by decide) rfl (by rw [hy_t3_8]; exact ⟨_, rfl, by omega, by omega, Or.inl rfl⟩) (by decide +kernel) (by decide +kernel) ?_
      rintro g1091 ⟨Hg1091, Fg1091, Gg1091, Eg1091⟩
      show AR _ _ _ _ _ _ _ 35 [(1, .int z), (0, .ref 3)] [] g1091 _ _
      have pg1091 : pf [3] h g1091 := pf_st T9 Gg1091.1 Eg1091 (by simp)
      have zg1091_1 : hy_z g1091 3 1 = hy_z g9 3 1 := (hf_put Eg1091 1).trans (if_neg (by decide))
      have zg1091_2 : hy_z g1091 3 2 = hy_z g9 3 2 := (hf_put Eg1091 2).trans (if_neg (by decide))
      have zg1091_4 : hy_z g1091 3 4 = hy_z g9 3 4 := (hf_put Eg1091 4).trans (if_neg (by decide))
      have zg1091_5 : hy_z g1091 3 5 = hy_z g9 3 5 := (hf_put Eg1091 5).trans (if_neg (by decide))
      have zg1091_7 : hy_z g1091 3 7 = hy_z g9 3 7 := (hf_put Eg1091 7).trans (if_neg (by decide))
      have zg1091_8 : hy_z g1091 3 8 = z1089.toInt := (hf_put Eg1091 8).trans (if_pos rfl)
      show AR _ _ _ _ _ _ _ 35 [(1, .int z), (0, .ref 3)] [] g1091 _ _
      refine AR.s (pc' := 36) (lv' := [(1, .int z), (0, .ref 3)]) (st' := [.ref 3]) (h' := g1091) _ hn_59 hk_59_35 rfl ?_
      have R8 : q_R g1091 s' := ⟨by omega, by omega, by omega, by omega⟩
      have B8 : t_B g1091 = t_B h := t_Bp pg1091 (by decide) (by decide)
      show AR _ _ _ _ _ _ _ 36 [(1, .int z), (0, .ref 3)] [.ref 3] g1091 _ _
      obtain ⟨vc1092, cc1092⟩ := q_c3 Hg1091
      refine AR.jr (r := 3) (as := []) (rest := []) hk_59_36 (by decide) (by decide +kernel) (by decide) cc1092 rfl rfl (Nat.le_of_ble_eq_true rfl) (q_61 hlst Hg1091 (by rw [B8]; exact ok) R8) (by decide) (Nat.zero_le _) (Nat.zero_le _) ?_ (fun E h' q => by cases q.1)
      rintro w g7 ⟨e, Hg7, Tg7, Kg7, Rg7⟩
      cases e
      rw [B8] at Rg7
      have Pg7 : pf [3] h g7 := pf.tr pg1091 Tg7 (by simp)
      have Bg7 : t_B g7 = t_B h := t_Bp Pg7 (by decide) (by decide)
      have Fg7 : ty_F pW g7 g7 := ty_F_refl _ _
      unfold q_k at Kg7
      show AR _ _ _ _ _ _ _ 39 [(1, .int z), (0, .ref 3)] [] g7 _ _
      refine AR.iconstT hk_59_39 (by decide) (fun z1093 ez1093 => ?_)
      show AR _ _ _ _ _ _ _ 40 [(1, .int z), (0, .ref 3)] [.int z1093] g7 _ _
      exact AR.zret hk_59_40 hr_59 (Or.inr (by omega)) ⟨Hg7, Pg7, by omega, by omega, Rg7, _, rfl, by omega⟩
  · exact absurd p2 (by omega)
theorem hy_fill4 : (ty_tab 4).1 = 100 := by decide +kernel
theorem q253_L (hlst : l.stackTraces = false) {X : ax_PX} (hu : u.toInt = 24) (y0 : y.toInt = 0) : ∀ (n : Nat) (g : ax_H) (i : Int32), i.toInt + n = 24 → 0 ≤ i.toInt → hy_H 0 g → pf [4] h g → (∀ k : Nat, (k : Int) < i.toInt → hy_z g 4 k = 0) → AR ax_ns l (ax_mm 253) 0 ty_R (ax_ret ax_ns (ax_mm 253) (fun res g => res = .inl none ∧ hy_H 0 g ∧ pf [4] h g ∧ ∀ k, k < 24 → hy_z g 4 k = 0)) X 5 [(3, .int u), (2, .int i), (1, .int y), (0, .ref 4)] [] g 0 0 := by
  intro n
  induction n with
  | zero =>
    intro g i hn i0 Hg Pg hv
    have Fg : ty_F pW g g := ty_F_refl _ _
    show AR _ _ _ _ _ _ _ 5 [(3, .int u), (2, .int i), (1, .int y), (0, .ref 4)] [] g _ _
    refine AR.s (pc' := 6) (lv' := [(3, .int u), (2, .int i), (1, .int y), (0, .ref 4)]) (st' := [.int i]) (h' := g) _ hn_253 hk_253_5 rfl ?_
    refine AR.s (pc' := 7) (lv' := [(3, .int u), (2, .int i), (1, .int y), (0, .ref 4)]) (st' := [.int u, .int i]) (h' := g) _ hn_253 hk_253_6 rfl ?_
    refine AR.jge hk_253_7 (tgt := 20) (by decide) (fun p1 => ?_) (fun p2 => ?_)
    · exact AR.vret hk_253_20 hr_253 ⟨rfl, Hg, Pg, fun k hk => hv k (by omega)⟩
    · exact absurd p2 (by omega)
  | succ n ih =>
    intro g i hn i0 Hg Pg hv
    have Fg : ty_F pW g g := ty_F_refl _ _
    show AR _ _ _ _ _ _ _ 5 [(3, .int u), (2, .int i), (1, .int y), (0, .ref 4)] [] g _ _
    refine AR.s (pc' := 6) (lv' := [(3, .int u), (2, .int i), (1, .int y), (0, .ref 4)]) (st' := [.int i]) (h' := g) _ hn_253 hk_253_5 rfl ?_
    refine AR.s (pc' := 7) (lv' := [(3, .int u), (2, .int i), (1, .int y), (0, .ref 4)]) (st' := [.int u, .int i]) (h' := g) _ hn_253 hk_253_6 rfl ?_
    refine AR.jge hk_253_7 (tgt := 20) (by decide) (fun p1 => ?_) (fun p2 => ?_)
    · exact absurd p1 (by omega)
    · refine AR.s (pc' := 11) (lv' := [(3, .int u), (2, .int i), (1, .int y), (0, .ref 4)]) (st' := [.ref 4]) (h' := g) _ hn_253 hk_253_10 rfl ?_
      refine AR.s (pc' := 12) (lv' := [(3, .int u), (2, .int i), (1, .int y), (0, .ref 4)]) (st' := [.int i, .ref 4]) (h' := g) _ hn_253 hk_253_11 rfl ?_
      refine AR.s (pc' := 13) (lv' := [(3, .int u), (2, .int i), (1, .int y), (0, .ref 4)]) (st' := [.int y, .int i, .ref 4]) (h' := g) _ hn_253 hk_253_12 rfl ?_
      refine AR.isT hk_253_13 Hg Fg (q := 4) (n := 24) (by decide) (by decide +kernel) (by decide +kernel) (by decide +kernel) hy_t4_0 (by omega) (by omega) (by omega) (by omega) (by decide +kernel) ?_
      rintro g1094 ⟨Hg1094, Fg1094, Gg1094, Eg1094⟩
      show AR _ _ _ _ _ _ _ 14 [(3, .int u), (2, .int i), (1, .int y), (0, .ref 4)] [] g1094 _ _
      have pg1094 : pf [4] h g1094 := pf_st Pg Gg1094.1 Eg1094 (by simp)
      have y1 : ∀ k, hy_z g1094 4 k = if k = i.toInt.toNat then y.toInt else hy_z g 4 k := fun k => hi_put Eg1094 k
      refine AR.iincT hk_253_14 (x := i) rfl (by rw [hn_253]; decide) (by decide) (by omega) (by omega) (fun z1095 ez1095 => ?_)
      show AR _ _ _ _ _ _ _ 17 [(2, .int z1095), (3, .int u), (1, .int y), (0, .ref 4)] [] g1094 _ _
      refine AR.gotoT hk_253_17 (tgt := 5) (by decide) ?_
      refine AR.lessL (lv' := [(3, .int u), (2, .int z1095), (1, .int y), (0, .ref 4)]) (List.forall_mem_cons.mpr ⟨⟨_, by simp, ax_le_rfl rfl⟩, (List.forall_mem_cons.mpr ⟨⟨_, by simp, ax_le_rfl rfl⟩, (List.forall_mem_cons.mpr ⟨⟨_, by simp, ax_le_rfl rfl⟩, (List.forall_mem_cons.mpr ⟨⟨_, by simp, ax_le_rfl rfl⟩, (fun _ h => absurd h List.not_mem_nil)⟩)⟩)⟩)⟩) ?_
      exact ih g1094 z1095 (by omega) (by omega) Hg1094 pg1094 (fun k hk => by rw [y1]; by_cases e : k = i.toInt.toNat; rw [if_pos e]; exact y0; rw [if_neg e]; exact hv k (by omega))
theorem q_253 (hlst : l.stackTraces = false) (hH : hy_H 0 h) (y0 : y.toInt = 0) : AM ax_ns l (ax_mm 253) 0 ty_R (0) (0) [.ref 4, .int y] h (fun res g => res = .inl none ∧ hy_H 0 g ∧ pf [4] h g ∧ ∀ k, k < 24 → hy_z g 4 k = 0) := by
  refine AM.of (ax_mfacts (by decide +kernel : ax_has 253 = true)).2.2.2.2.2.2 hlst (by rw [hn_253]; exact Nat.le_of_ble_eq_true rfl) ?_
  show AR ax_ns l (ax_mm 253) 0 ty_R _ _ 0 [(0, .ref 4), (1, .int y)] [] h (0) (0)
  refine AR.iconstT hk_253_0 (by decide) (fun z1096 ez1096 => ?_)
  show AR _ _ _ _ _ _ _ 1 [(0, .ref 4), (1, .int y)] [.int z1096] h _ _
  refine AR.s (pc' := 2) (lv' := [(2, .int z1096), (0, .ref 4), (1, .int y)]) (st' := []) (h' := h) _ hn_253 hk_253_1 rfl ?_
  refine AR.s (pc' := 3) (lv' := [(2, .int z1096), (0, .ref 4), (1, .int y)]) (st' := [.ref 4]) (h' := h) _ hn_253 hk_253_2 rfl ?_
  refine AR.alI hk_253_3 hH (q := 4) (n := 24) (by decide) (by decide +kernel) (by decide +kernel) (by decide) (fun z1097 ez1097 => ?_)
  show AR _ _ _ _ _ _ _ 4 [(2, .int z1096), (0, .ref 4), (1, .int y)] [.int z1097] h _ _
  refine AR.s (pc' := 5) (lv' := [(3, .int z1097), (2, .int z1096), (0, .ref 4), (1, .int y)]) (st' := []) (h' := h) _ hn_253 hk_253_4 rfl ?_
  refine AR.lessL (lv' := [(3, .int z1097), (2, .int z1096), (1, .int y), (0, .ref 4)]) (List.forall_mem_cons.mpr ⟨⟨_, by simp, ax_le_rfl rfl⟩, (List.forall_mem_cons.mpr ⟨⟨_, by simp, ax_le_rfl rfl⟩, (List.forall_mem_cons.mpr ⟨⟨_, by simp, ax_le_rfl rfl⟩, (List.forall_mem_cons.mpr ⟨⟨_, by simp, ax_le_rfl rfl⟩, (fun _ h => absurd h List.not_mem_nil)⟩)⟩)⟩)⟩) ?_
  exact q253_L hlst (by omega) y0 24 h z1096 (by omega) (by omega) hH (pf_r _ _) (fun k hk => absurd hk (by omega))
/-- the text is a constraint: its terms, its relation (7 or 8), its bound -/
def q_C (B : Int → Int) (ts : List (Nat × Int)) (r d : Int) : Prop := q_ok B 0 ∧ ts.length ≤ 20 ∧ (r = 7 ∨ r = 8) ∧ ∀ a b c : Int, ∃ s1 s2 s3 : q_S, q_U B (q_nx B (0, a, b, c)) ts s1 ∧ s1.2.1 = r ∧ q_ok B s1.1 ∧ s2 = q_nx B s1 ∧ ((s2.2.1 = 5 ∧ q_ok B s2.1 ∧ s3 = q_nx B s2 ∧ d = -s3.2.2.1) ∨ (s2.2.1 ≠ 5 ∧ s3 = s2 ∧ d = s3.2.2.1)) ∧ s3.2.1 = 2 ∧ (0 ≤ s3.2.2.1 ∧ s3.2.2.1 ≤ 9) ∧ q_ok B s3.1 ∧ (q_nx B s3).2.1 = 0
theorem q_Ac {f f' : Nat → Int} (e : ∀ k, k < 24 → f k = f' k) : ∀ (ts : List (Nat × Int)) (k : Nat), k < 24 → q_A f ts k = q_A f' ts k := by
  intro ts
  induction ts generalizing f f' with
  | nil => intro k hk; exact e k hk
  | cons t ts ih =>
    intro k hk
    refine ih (fun j hj => ?_) k hk
    show (if j = t.1 then f j + t.2 else f j) = if j = t.1 then f' j + t.2 else f' j
    rw [e j hj]
def pq_55 (h : ax_H) (ts : List (Nat × Int)) (r d : Int) : ax_Q := fun res g => hy_H 0 g ∧ pf [3, 4] h g ∧ hy_z g 3 7 = r ∧ hy_z g 3 8 = d ∧ (∀ k, k < 24 → hy_z g 4 k = q_A (fun _ => 0) ts k) ∧ ∃ z : Int32, res = .inl (some (.int z)) ∧ z.toInt = 1
theorem q_55 (hlst : l.stackTraces = false) {ts : List (Nat × Int)} {r d : Int} (hH : hy_H 0 h) (C : q_C (t_B h) ts r d) : AM ax_ns l (ax_mm 55) 5 ty_R (0) (0) [.ref 3] h (pq_55 h ts r d) := by
  refine AM.of (ax_mfacts (by decide +kernel : ax_has 55 = true)).2.2.2.2.2.2 hlst (by rw [hn_55]; exact Nat.le_of_ble_eq_true rfl) ?_
  show AR ax_ns l (ax_mm 55) 5 ty_R _ _ 0 [(0, .ref 3)] [] h (0) (0)
  obtain ⟨k0, tl, rr, CC⟩ := C
  show AR _ _ _ _ _ _ _ 0 [(0, .ref 3)] [] h _ _
  refine AR.s (pc' := 1) (lv' := [(0, .ref 3)]) (st' := [.ref 3]) (h' := h) _ hn_55 hk_55_0 rfl ?_
  refine AR.gR hk_55_1 (by decide) hH (q := 3) (n := 9) (by decide) (by decide +kernel) (by decide +kernel) (by decide) hy_t3_6 ?_
  show AR _ _ _ _ _ _ _ 4 [(0, .ref 3)] [.ref 4] h _ _
  refine AR.iconstT hk_55_4 (by decide) (fun z1098 ez1098 => ?_)
  show AR _ _ _ _ _ _ _ 5 [(0, .ref 3)] [.int z1098, .ref 4] h _ _
  refine AR.cs (as := [.ref 4, .int z1098]) (rest := []) hk_55_5 (by decide +kernel) rfl rfl (Nat.le_of_ble_eq_true rfl) (q_253 hlst hH (by omega)) (by decide) (Nat.zero_le _) (Nat.zero_le _) (fun E h' q => by cases q.1) ?_
  rintro w g1 ⟨e, Hg1, Q1, v1⟩
  cases e
  have Fg1 : ty_F pW g1 g1 := ty_F_refl _ _
  have Pg1 : pf [3, 4] h g1 := pf.tr (pf_r _ _) Q1 (by simp)
  show AR _ _ _ _ _ _ _ 8 [(0, .ref 3)] [] g1 _ _
  refine AR.s (pc' := 9) (lv' := [(0, .ref 3)]) (st' := [.ref 3]) (h' := g1) _ hn_55 hk_55_8 rfl ?_
  refine AR.iconstT hk_55_9 (by decide) (fun z1099 ez1099 => ?_)
  show AR _ _ _ _ _ _ _ 10 [(0, .ref 3)] [.int z1099, .ref 3] g1 _ _
  have r1100a := Int32.le_toInt z1099
  have r1100b := Int32.toInt_lt z1099
  refine AR.pT hk_55_10 (by decide) Hg1 Fg1 (q := 3) (by decide) (by decide +kernel) (show ax_cls[6]? = some hy_c6 from rfl) (by decide +kernel) (by decide) rfl (by rw [hy_t3_1]; exact ⟨_, rfl, by omega, by omega, Or.inl rfl⟩) (by decide +kernel) (by decide +kernel) ?_
  rintro g1101 ⟨Hg1101, Fg1101, Gg1101, Eg1101⟩
  show AR _ _ _ _ _ _ _ 13 [(0, .ref 3)] [] g1101 _ _
  have pg1101 : pf [3, 4] h g1101 := pf_st Pg1 Gg1101.1 Eg1101 (by simp)
  have zg1101_1 : hy_z g1101 3 1 = z1099.toInt := (hf_put Eg1101 1).trans (if_pos rfl)
  have zg1101_2 : hy_z g1101 3 2 = hy_z g1 3 2 := (hf_put Eg1101 2).trans (if_neg (by decide))
  have zg1101_4 : hy_z g1101 3 4 = hy_z g1 3 4 := (hf_put Eg1101 4).trans (if_neg (by decide))
  have zg1101_5 : hy_z g1101 3 5 = hy_z g1 3 5 := (hf_put Eg1101 5).trans (if_neg (by decide))
  have zg1101_7 : hy_z g1101 3 7 = hy_z g1 3 7 := (hf_put Eg1101 7).trans (if_neg (by decide))
  have zg1101_8 : hy_z g1101 3 8 = hy_z g1 3 8 := (hf_put Eg1101 8).trans (if_neg (by decide))
  show AR _ _ _ _ _ _ _ 13 [(0, .ref 3)] [] g1101 _ _
  refine AR.s (pc' := 14) (lv' := [(0, .ref 3)]) (st' := [.ref 3]) (h' := g1101) _ hn_55 hk_55_13 rfl ?_
  have B2 : t_B g1101 = t_B h := t_Bp pg1101 (by decide) (by decide)
  have R0 : q_R g1101 (0, hy_z g1101 3 2, hy_z g1101 3 4, hy_z g1101 3 5) := ⟨by show _ = (0 : Int); omega, rfl, rfl, rfl⟩
  obtain ⟨s1, s2, s3, U, sr, ok1, e2, hb, n2, n9, ok3, en⟩ := CC (hy_z g1101 3 2) (hy_z g1101 3 4) (hy_z g1101 3 5)
  have c42 : ∀ k, k < 24 → hy_z g1101 4 k = 0 := fun k hk => (hy_ze (by rw [Eg1101, if_neg (fun c => absurd c.1 (by decide))])).trans (v1 k hk)
  show AR _ _ _ _ _ _ _ 14 [(0, .ref 3)] [.ref 3] g1101 _ _
  obtain ⟨vc1102, cc1102⟩ := q_c3 Hg1101
  refine AR.jr (r := 3) (as := []) (rest := []) hk_55_14 (by decide) (by decide +kernel) (by decide) cc1102 rfl rfl (Nat.le_of_ble_eq_true rfl) (q_61 hlst Hg1101 (by rw [B2]; exact k0) R0) (by decide) (Nat.zero_le _) (Nat.zero_le _) ?_ (fun E h' q => by cases q.1)
  rintro w g3 ⟨e, Hg3, Tg3, Kg3, Rg3⟩
  cases e
  rw [B2] at Rg3
  have Pg3 : pf [3, 4] h g3 := pf.tr pg1101 Tg3 (by simp)
  have Bg3 : t_B g3 = t_B h := t_Bp Pg3 (by decide) (by decide)
  have Fg3 : ty_F pW g3 g3 := ty_F_refl _ _
  unfold q_k at Kg3
  show AR _ _ _ _ _ _ _ 17 [(0, .ref 3)] [] g3 _ _
  have c43 : ∀ k, k < 24 → hy_z g3 4 k = 0 := fun k hk => by rw [Tg3.z (by decide)]; exact c42 k hk
  refine AR.s (pc' := 18) (lv' := [(0, .ref 3)]) (st' := [.ref 3]) (h' := g3) _ hn_55 hk_55_17 rfl ?_
  obtain ⟨vc1103, cc1103⟩ := q_c3 Hg3
  refine AR.jr (r := 3) (as := []) (rest := []) hk_55_18 (by decide) (by decide +kernel) (by decide) cc1103 rfl rfl (Nat.le_of_ble_eq_true rfl) (q_56 hlst Hg3 Rg3 (by rw [Bg3]; exact U) tl c43) (by decide) (Nat.zero_le _) (Nat.zero_le _) ?_ (fun E h' q => by obtain ⟨-, -, -, -, ⟨_, e, -⟩, -⟩ := q; cases e)
  rintro w g4 ⟨Hg4, T4, K4, Rg4, ⟨z, er, ez⟩, v4⟩
  cases er
  have Pg4 : pf [3, 4] h g4 := pf.tr Pg3 T4 (fun _ q => q)
  have B4 : t_B g4 = t_B h := t_Bp Pg4 (by decide) (by decide)
  show AR _ _ _ _ _ _ _ 21 [(0, .ref 3)] [.int z] g4 _ _
  refine AR.zeq hk_55_21 (tgt := 49) (by decide) (fun p1 => ?_) (fun p2 => ?_)
  · exact absurd p1 (by omega)
  · refine AR.s (pc' := 25) (lv' := [(0, .ref 3)]) (st' := [.ref 3]) (h' := g4) _ hn_55 hk_55_24 rfl ?_
    obtain ⟨vc1104, cc1104⟩ := q_c3 Hg4
    refine AR.jr (r := 3) (as := []) (rest := []) hk_55_25 (by decide) (by decide +kernel) (by decide) cc1104 rfl rfl (Nat.le_of_ble_eq_true rfl) (q_58 hlst Hg4 Rg4 (by omega) (by rw [B4]; exact ok1)) (by decide) (Nat.zero_le _) (Nat.zero_le _) ?_ (fun E h' q => by obtain ⟨-, -, -, -, ⟨_, e, -⟩⟩ := q; cases e)
    rintro w g5 ⟨Hg5, T5, r5, Rg5, ⟨z5, er, ez5⟩⟩
    cases er
    rw [B4, ← e2] at Rg5
    have Pg5 : pf [3, 4] h g5 := pf.tr Pg4 T5 (by simp)
    have B5 : t_B g5 = t_B h := t_Bp Pg5 (by decide) (by decide)
    show AR _ _ _ _ _ _ _ 28 [(0, .ref 3)] [.int z5] g5 _ _
    refine AR.zeq hk_55_28 (tgt := 49) (by decide) (fun q1 => ?_) (fun q2 => ?_)
    · exact absurd q1 (by omega)
    · refine AR.s (pc' := 32) (lv' := [(0, .ref 3)]) (st' := [.ref 3]) (h' := g5) _ hn_55 hk_55_31 rfl ?_
      obtain ⟨vc1105, cc1105⟩ := q_c3 Hg5
      refine AR.jr (r := 3) (as := []) (rest := []) hk_55_32 (by decide) (by decide +kernel) (by decide) cc1105 rfl rfl (Nat.le_of_ble_eq_true rfl) (q_59 hlst (d := d) Hg5 Rg5 (by rw [B5]; exact hb) n2 n9 (by rw [B5]; exact ok3)) (by decide) (Nat.zero_le _) (Nat.zero_le _) ?_ (fun E h' q => by obtain ⟨-, -, -, -, -, ⟨_, e, -⟩⟩ := q; cases e)
      rintro w g6 ⟨Hg6, T6, r6, d6, Rg6, ⟨z6, er, ez6⟩⟩
      cases er
      rw [B5] at Rg6
      have Pg6 : pf [3, 4] h g6 := pf.tr Pg5 T6 (by simp)
      obtain ⟨Ra, Rb, Rc, Rd⟩ := Rg6
      show AR _ _ _ _ _ _ _ 35 [(0, .ref 3)] [.int z6] g6 _ _
      refine AR.zeq hk_55_35 (tgt := 49) (by decide) (fun r1 => ?_) (fun r2 => ?_)
      · exact absurd r1 (by omega)
      · refine AR.s (pc' := 39) (lv' := [(0, .ref 3)]) (st' := [.ref 3]) (h' := g6) _ hn_55 hk_55_38 rfl ?_
        refine AR.gI hk_55_39 (by decide) Hg6 (q := 3) (n := 9) (by decide) (by decide +kernel) (by decide +kernel) (by decide) hy_t3_2 (fun x1106 dx1106 lx1106 ux1106 => ?_)
        show AR _ _ _ _ _ _ _ 42 [(0, .ref 3)] [.int x1106] g6 _ _
        have sx1106 := hy_zi dx1106
        refine AR.zne hk_55_42 (tgt := 49) (by decide) (fun x1 => ?_) (fun x2 => ?_)
        · exact absurd x1 (by omega)
        · refine AR.iconstT hk_55_45 (by decide) (fun z1107 ez1107 => ?_)
          show AR _ _ _ _ _ _ _ 46 [(0, .ref 3)] [.int z1107] g6 _ _
          refine AR.gotoT hk_55_46 (tgt := 50) (by decide) ?_
          exact AR.zret hk_55_50 hr_55 (Or.inr (by omega)) ⟨Hg6, Pg6, by omega, d6, fun k hk => by rw [T6.z (by decide), T5.z (by decide), v4]; exact q_Ac c43 ts k hk, _, rfl, by omega⟩
theorem q_49 (hlst : l.stackTraces = false) (hH : hy_H 0 h) : AM ax_ns l (ax_mm 49) 0 ty_R (0) (0) [.ref 3] h (fun res g => g = h ∧ ∃ z : Int32, res = .inl (some (.int z)) ∧ (z.toInt = 0 ∨ z.toInt = 1) ∧ (z.toInt = 1 ↔ hy_z h 3 7 = 9)) := by
  refine AM.of (ax_mfacts (by decide +kernel : ax_has 49 = true)).2.2.2.2.2.2 hlst (by rw [hn_49]; exact Nat.le_of_ble_eq_true rfl) ?_
  show AR ax_ns l (ax_mm 49) 0 ty_R _ _ 0 [(0, .ref 3)] [] h (0) (0)
  refine AR.s (pc' := 1) (lv' := [(0, .ref 3)]) (st' := [.ref 3]) (h' := h) _ hn_49 hk_49_0 rfl ?_
  refine AR.gI hk_49_1 (by decide) hH (q := 3) (n := 9) (by decide) (by decide +kernel) (by decide +kernel) (by decide) hy_t3_7 (fun x1108 dx1108 lx1108 ux1108 => ?_)
  show AR _ _ _ _ _ _ _ 4 [(0, .ref 3)] [.int x1108] h _ _
  have sx1108 := hy_zi dx1108
  refine AR.bipushT hk_49_4 (by decide) (fun z1109 ez1109 => ?_)
  show AR _ _ _ _ _ _ _ 6 [(0, .ref 3)] [.int z1109, .int x1108] h _ _
  refine AR.jne hk_49_6 (tgt := 13) (by decide) (fun p1 => ?_) (fun p2 => ?_)
  · refine AR.iconstT hk_49_13 (by decide) (fun z1110 ez1110 => ?_)
    show AR _ _ _ _ _ _ _ 14 [(0, .ref 3)] [.int z1110] h _ _
    exact AR.zret hk_49_14 hr_49 (by omega) ⟨rfl, _, rfl, by omega, by omega⟩
  · refine AR.iconstT hk_49_9 (by decide) (fun z1111 ez1111 => ?_)
    show AR _ _ _ _ _ _ _ 10 [(0, .ref 3)] [.int z1111] h _ _
    refine AR.gotoT hk_49_10 (tgt := 14) (by decide) ?_
    exact AR.zret hk_49_14 hr_49 (by omega) ⟨rfl, _, rfl, by omega, by omega⟩
theorem q_50 (hlst : l.stackTraces = false) (hH : hy_H 0 h) : AM ax_ns l (ax_mm 50) 0 ty_R (0) (0) [.ref 3] h (fun res g => g = h ∧ ∃ z : Int32, res = .inl (some (.int z)) ∧ (z.toInt = 0 ∨ z.toInt = 1) ∧ (z.toInt = 0 ↔ hy_z h 3 7 = 8)) := by
  refine AM.of (ax_mfacts (by decide +kernel : ax_has 50 = true)).2.2.2.2.2.2 hlst (by rw [hn_50]; exact Nat.le_of_ble_eq_true rfl) ?_
  show AR ax_ns l (ax_mm 50) 0 ty_R _ _ 0 [(0, .ref 3)] [] h (0) (0)
  refine AR.s (pc' := 1) (lv' := [(0, .ref 3)]) (st' := [.ref 3]) (h' := h) _ hn_50 hk_50_0 rfl ?_
  refine AR.gI hk_50_1 (by decide) hH (q := 3) (n := 9) (by decide) (by decide +kernel) (by decide +kernel) (by decide) hy_t3_7 (fun x1112 dx1112 lx1112 ux1112 => ?_)
  show AR _ _ _ _ _ _ _ 4 [(0, .ref 3)] [.int x1112] h _ _
  have sx1112 := hy_zi dx1112
  refine AR.bipushT hk_50_4 (by decide) (fun z1113 ez1113 => ?_)
  show AR _ _ _ _ _ _ _ 6 [(0, .ref 3)] [.int z1113, .int x1112] h _ _
  refine AR.jeq hk_50_6 (tgt := 13) (by decide) (fun p1 => ?_) (fun p2 => ?_)
  · refine AR.iconstT hk_50_13 (by decide) (fun z1114 ez1114 => ?_)
    show AR _ _ _ _ _ _ _ 14 [(0, .ref 3)] [.int z1114] h _ _
    exact AR.zret hk_50_14 hr_50 (by omega) ⟨rfl, _, rfl, by omega, by omega⟩
  · refine AR.iconstT hk_50_9 (by decide) (fun z1115 ez1115 => ?_)
    show AR _ _ _ _ _ _ _ 10 [(0, .ref 3)] [.int z1115] h _ _
    refine AR.gotoT hk_50_10 (tgt := 14) (by decide) ?_
    exact AR.zret hk_50_14 hr_50 (by omega) ⟨rfl, _, rfl, by omega, by omega⟩
theorem q_51 (hlst : l.stackTraces = false) (hH : hy_H 0 h) : AM ax_ns l (ax_mm 51) 0 ty_R (0) (0) [.ref 3] h (fun res g => g = h ∧ ∃ z : Int32, res = .inl (some (.int z)) ∧ (z.toInt = 0 ∨ z.toInt = 1) ∧ (z.toInt = 0 ↔ hy_z h 3 7 = 7)) := by
  refine AM.of (ax_mfacts (by decide +kernel : ax_has 51 = true)).2.2.2.2.2.2 hlst (by rw [hn_51]; exact Nat.le_of_ble_eq_true rfl) ?_
  show AR ax_ns l (ax_mm 51) 0 ty_R _ _ 0 [(0, .ref 3)] [] h (0) (0)
  refine AR.s (pc' := 1) (lv' := [(0, .ref 3)]) (st' := [.ref 3]) (h' := h) _ hn_51 hk_51_0 rfl ?_
  refine AR.gI hk_51_1 (by decide) hH (q := 3) (n := 9) (by decide) (by decide +kernel) (by decide +kernel) (by decide) hy_t3_7 (fun x1116 dx1116 lx1116 ux1116 => ?_)
  show AR _ _ _ _ _ _ _ 4 [(0, .ref 3)] [.int x1116] h _ _
  have sx1116 := hy_zi dx1116
  refine AR.bipushT hk_51_4 (by decide) (fun z1117 ez1117 => ?_)
  show AR _ _ _ _ _ _ _ 6 [(0, .ref 3)] [.int z1117, .int x1116] h _ _
  refine AR.jeq hk_51_6 (tgt := 13) (by decide) (fun p1 => ?_) (fun p2 => ?_)
  · refine AR.iconstT hk_51_13 (by decide) (fun z1118 ez1118 => ?_)
    show AR _ _ _ _ _ _ _ 14 [(0, .ref 3)] [.int z1118] h _ _
    exact AR.zret hk_51_14 hr_51 (by omega) ⟨rfl, _, rfl, by omega, by omega⟩
  · refine AR.iconstT hk_51_9 (by decide) (fun z1119 ez1119 => ?_)
    show AR _ _ _ _ _ _ _ 10 [(0, .ref 3)] [.int z1119] h _ _
    refine AR.gotoT hk_51_10 (tgt := 14) (by decide) ?_
    exact AR.zret hk_51_14 hr_51 (by omega) ⟨rfl, _, rfl, by omega, by omega⟩
theorem q_52 (hlst : l.stackTraces = false) (hH : hy_H 0 h) (c4 : ∀ k, k < 24 → -1000 ≤ hy_z h 4 k ∧ hy_z h 4 k ≤ 1000) (c3 : -1000000 ≤ hy_z h 3 8 ∧ hy_z h 3 8 ≤ 1000000) : AM ax_ns l (ax_mm 52) 3 ty_R (0) (0) [.ref 3, .ref 8] h (pq_54 h (1)) := by
  refine AM.of (ax_mfacts (by decide +kernel : ax_has 52 = true)).2.2.2.2.2.2 hlst (by rw [hn_52]; exact Nat.le_of_ble_eq_true rfl) ?_
  show AR ax_ns l (ax_mm 52) 3 ty_R _ _ 0 [(0, .ref 3), (1, .ref 8)] [] h (0) (0)
  refine AR.s (pc' := 1) (lv' := [(0, .ref 3), (1, .ref 8)]) (st' := [.ref 3]) (h' := h) _ hn_52 hk_52_0 rfl ?_
  refine AR.s (pc' := 2) (lv' := [(0, .ref 3), (1, .ref 8)]) (st' := [.ref 8, .ref 3]) (h' := h) _ hn_52 hk_52_1 rfl ?_
  refine AR.iconstT hk_52_2 (by decide) (fun z1120 ez1120 => ?_)
  show AR _ _ _ _ _ _ _ 3 [(0, .ref 3), (1, .ref 8)] [.int z1120, .ref 8, .ref 3] h _ _
  obtain ⟨vc1121, cc1121⟩ := q_c3 hH
  refine AR.jr (r := 3) (as := [.ref 8, .int z1120]) (rest := []) hk_52_3 (by decide) (by decide +kernel) (by decide) cc1121 rfl rfl (Nat.le_of_ble_eq_true rfl) (p_54 hlst hH (by omega) c4 c3) (by decide) (Nat.zero_le _) (Nat.zero_le _) ?_ (fun E h' q => by cases q.1)
  rintro w g9 ⟨e, H9, P9, d9, v9⟩
  cases e
  rw [show z1120.toInt = 1 from by omega] at d9 v9
  have Hg9 := H9
  show AR _ _ _ _ _ _ _ 6 [(0, .ref 3), (1, .ref 8)] [] g9 _ _
  exact AR.vret hk_52_6 hr_52 ⟨rfl, H9, P9, d9, v9⟩
theorem q_53 (hlst : l.stackTraces = false) (hH : hy_H 0 h) (c4 : ∀ k, k < 24 → -1000 ≤ hy_z h 4 k ∧ hy_z h 4 k ≤ 1000) (c3 : -1000000 ≤ hy_z h 3 8 ∧ hy_z h 3 8 ≤ 1000000) : AM ax_ns l (ax_mm 53) 3 ty_R (0) (0) [.ref 3, .ref 8] h (pq_54 h (-1)) := by
  refine AM.of (ax_mfacts (by decide +kernel : ax_has 53 = true)).2.2.2.2.2.2 hlst (by rw [hn_53]; exact Nat.le_of_ble_eq_true rfl) ?_
  show AR ax_ns l (ax_mm 53) 3 ty_R _ _ 0 [(0, .ref 3), (1, .ref 8)] [] h (0) (0)
  refine AR.s (pc' := 1) (lv' := [(0, .ref 3), (1, .ref 8)]) (st' := [.ref 3]) (h' := h) _ hn_53 hk_53_0 rfl ?_
  refine AR.s (pc' := 2) (lv' := [(0, .ref 3), (1, .ref 8)]) (st' := [.ref 8, .ref 3]) (h' := h) _ hn_53 hk_53_1 rfl ?_
  refine AR.iconstT hk_53_2 (by decide) (fun z1122 ez1122 => ?_)
  show AR _ _ _ _ _ _ _ 3 [(0, .ref 3), (1, .ref 8)] [.int z1122, .ref 8, .ref 3] h _ _
  obtain ⟨vc1123, cc1123⟩ := q_c3 hH
  refine AR.jr (r := 3) (as := [.ref 8, .int z1122]) (rest := []) hk_53_3 (by decide) (by decide +kernel) (by decide) cc1123 rfl rfl (Nat.le_of_ble_eq_true rfl) (p_54 hlst hH (by omega) c4 c3) (by decide) (Nat.zero_le _) (Nat.zero_le _) ?_ (fun E h' q => by cases q.1)
  rintro w g9 ⟨e, H9, P9, d9, v9⟩
  cases e
  rw [show z1122.toInt = -1 from by omega] at d9 v9
  have Hg9 := H9
  show AR _ _ _ _ _ _ _ 6 [(0, .ref 3), (1, .ref 8)] [] g9 _ _
  exact AR.vret hk_53_6 hr_53 ⟨rfl, H9, P9, d9, v9⟩
abbrev hy_c7 : ax_Cl := (RX7, TX7, 2, tyX7)
def pq_117 (h : ax_H) : ax_Q := fun res g => res = .inl none ∧ hy_H 0 g ∧ pf [0, 1] h g ∧ (∀ j, hy_z g 0 j = if j = 2 then -1 else hy_z h 0 j) ∧ hy_z g 1 1 = 0
theorem sd_c {e e' : Nat → Int} {b : Int} (he : ∀ k, k < 24 → e k = e' k) : ∀ n, n ≤ 24 → sd e b n = sd e' b n
  | 0, _ => rfl
  | n + 1, h => by
    show sd e b n + max 0 (-(e n)) = sd e' b n + max 0 (-(e' n))
    rw [sd_c he n (by omega), he n (by omega)]
theorem ft_c {e e' : Nat → Int} (he : ∀ k, k < 24 → e k = e' k) {k : Nat} (hk : k < 24) : ft e 24 k = ft e' 24 k := by
  unfold ft
  rw [he k hk, he (k ^^^ 1) (p_xi k hk).2.1]
/-- what post leaves -/
def pP (h : ax_H) (n p : Nat) (f : Nat → Int) (d : Int) : ax_Q := fun res g => hy_H 0 g ∧ pI g ∧ pC g ∧ pf [0, 1, 3, 4, 8, 9, 13, 14, 17, 18, 148, p, p + 1] h g ∧ (∃ z : Int32, res = .inl (some (.int z)) ∧ z.toInt = n) ∧ hy_z g 0 5 = (n : Int) + 1 ∧ hy_z g 1 1 = 0 ∧ hy_z g p 1 = nd f d 12 ∧ (∀ k, k < 24 → hy_z g (p + 1) k = nf f k) ∧ ∀ w, w < 64 → ∀ k, k < 64 → pb (hw g 148 w) k = (pb (hw h 148 w) k && decide (nd f d 12 ≤ sm (hy_z g (p + 1)) w k))
theorem q_117 (hlst : l.stackTraces = false) (hH : hy_H 0 h) (hx : x.toInt = 1) : AM ax_ns l (ax_mm 117) 0 ty_R (0) (0) [.ref 0, .int x] h (pq_117 h) := by
  refine AM.of (ax_mfacts (by decide +kernel : ax_has 117 = true)).2.2.2.2.2.2 hlst (by rw [hn_117]; exact Nat.le_of_ble_eq_true rfl) ?_
  show AR ax_ns l (ax_mm 117) 0 ty_R _ _ 0 [(0, .ref 0), (1, .int x)] [] h (0) (0)
  have F : ty_F pW h h := ty_F_refl _ _
  have P0 : pf [0, 1] h h := pf_r _ _
  show AR _ _ _ _ _ _ _ 0 [(0, .ref 0), (1, .int x)] [] h _ _
  refine AR.s (pc' := 1) (lv' := [(0, .ref 0), (1, .int x)]) (st' := [.ref 0]) (h' := h) _ hn_117 hk_117_0 rfl ?_
  refine AR.s (pc' := 2) (lv' := [(0, .ref 0), (1, .int x)]) (st' := [.int x, .ref 0]) (h' := h) _ hn_117 hk_117_1 rfl ?_
  refine AR.zeq hk_117_2 (tgt := 9) (by decide) (fun p1 => ?_) (fun p2 => ?_)
  · exact absurd p1 (by omega)
  · refine AR.iconstT hk_117_5 (by decide) (fun z1124 ez1124 => ?_)
    show AR _ _ _ _ _ _ _ 6 [(0, .ref 0), (1, .int x)] [.int z1124, .ref 0] h _ _
    refine AR.gotoT hk_117_6 (tgt := 16) (by decide) ?_
    refine AR.pT hk_117_16 (by decide) hH F (q := 0) (by decide) (by decide +kernel) (show ax_cls[8]? = some hy_c8 from rfl) (by decide +kernel) (by decide) rfl (by rw [hy_t0_2]; exact ⟨_, rfl, by omega, by omega, Or.inl rfl⟩) (by decide +kernel) (by decide +kernel) ?_
    rintro g1125 ⟨Hg1125, Fg1125, Gg1125, Eg1125⟩
    show AR _ _ _ _ _ _ _ 19 [(0, .ref 0), (1, .int x)] [] g1125 _ _
    have pg1125 : pf [0, 1] h g1125 := pf_st P0 Gg1125.1 Eg1125 (by simp)
    have z0 := hf_put Eg1125
    show AR _ _ _ _ _ _ _ 19 [(0, .ref 0), (1, .int x)] [] g1125 _ _
    refine AR.s (pc' := 20) (lv' := [(0, .ref 0), (1, .int x)]) (st' := [.ref 0]) (h' := g1125) _ hn_117 hk_117_19 rfl ?_
    refine AR.gR hk_117_20 (by decide) Hg1125 (q := 0) (n := 18) (by decide) (by decide +kernel) (by decide +kernel) (by decide) hy_t0_0 ?_
    show AR _ _ _ _ _ _ _ 23 [(0, .ref 0), (1, .int x)] [.ref 1] g1125 _ _
    refine AR.iconstT hk_117_23 (by decide) (fun z1126 ez1126 => ?_)
    show AR _ _ _ _ _ _ _ 24 [(0, .ref 0), (1, .int x)] [.int z1126, .ref 1] g1125 _ _
    refine AR.pT hk_117_24 (by decide) Hg1125 Fg1125 (q := 1) (by decide) (by decide +kernel) (show ax_cls[7]? = some hy_c7 from rfl) (by decide +kernel) (by decide) rfl (by rw [hy_t1_1]; exact ⟨_, rfl, by omega, by omega, Or.inl rfl⟩) (by decide +kernel) (by decide +kernel) ?_
    rintro g1127 ⟨Hg1127, Fg1127, Gg1127, Eg1127⟩
    show AR _ _ _ _ _ _ _ 27 [(0, .ref 0), (1, .int x)] [] g1127 _ _
    have pg1127 : pf [0, 1] h g1127 := pf_st pg1125 Gg1127.1 Eg1127 (by simp)
    have z1 := hf_put Eg1127 1
    rw [if_pos rfl] at z1
    have z2 : ∀ j, hy_z g1127 0 j = hy_z g1125 0 j := fun j => hy_ze (by rw [Eg1127, if_neg (fun c => absurd c.1 (by decide))])
    show AR _ _ _ _ _ _ _ 27 [(0, .ref 0), (1, .int x)] [] g1127 _ _
    refine AR.s (pc' := 28) (lv' := [(0, .ref 0), (1, .int x)]) (st' := [.int x]) (h' := g1127) _ hn_117 hk_117_27 rfl ?_
    refine AR.zne hk_117_28 (tgt := 42) (by decide) (fun q1 => ?_) (fun q2 => ?_)
    · refine AR.vret hk_117_42 hr_117 ⟨rfl, Hg1127, pg1127, fun j => ?_, by omega⟩
      rw [z2, z0]
      by_cases e : j = 2
      · rw [if_pos e, if_pos e]; omega
      · rw [if_neg e, if_neg e]
    · exact absurd q2 (by omega)
theorem q_72_7 (hlst : l.stackTraces = false) {n p : Nat} {ts : List (Nat × Int)} {d : Int} (hH : hy_H 0 h) (hI : pI h) (hC : pC h) (C : q_C (t_B h) ts 7 d) (hA : ∀ k, k < 24 → -1000 ≤ q_A (fun _ => 0) ts k ∧ q_A (fun _ => 0) ts k ≤ 1000) (hd : -9 ≤ d ∧ d ≤ 9) (hn : hy_z h 0 5 = n) (hn2 : n < 60) (hp : p = 27 + 2 * n) : AM ax_ns l (ax_mm 72) 6 ty_R (0) (0) [.ref 0] h (pP h n p (ft (fun k => (1) * q_A (fun _ => 0) ts k) 24) (sd (fun k => (1) * q_A (fun _ => 0) ts k) ((1) * d) 24)) := by
  refine AM.of (ax_mfacts (by decide +kernel : ax_has 72 = true)).2.2.2.2.2.2 hlst (by rw [hn_72]; exact Nat.le_of_ble_eq_true rfl) ?_
  show AR ax_ns l (ax_mm 72) 6 ty_R _ _ 0 [(0, .ref 0)] [] h (0) (0)
  refine AR.s (pc' := 1) (lv' := [(0, .ref 0)]) (st' := [.ref 0]) (h' := h) _ hn_72 hk_72_0 rfl ?_
  refine AR.s (pc' := 2) (lv' := [(0, .ref 0)]) (st' := [.ref 0, .ref 0]) (h' := h) _ hn_72 hk_72_1 rfl ?_
  refine AR.gR hk_72_2 (by decide) hH (q := 0) (n := 18) (by decide) (by decide +kernel) (by decide +kernel) (by decide) hy_t0_1 ?_
  show AR _ _ _ _ _ _ _ 5 [(0, .ref 0)] [.ref 3, .ref 0] h _ _
  obtain ⟨vc1128, cc1128⟩ := q_c3 hH
  refine AR.jr (r := 3) (as := []) (rest := [.ref 0]) hk_72_5 (by decide) (by decide +kernel) (by decide) cc1128 rfl rfl (Nat.le_of_ble_eq_true rfl) (q_55 hlst hH C) (by decide) (Nat.zero_le _) (Nat.zero_le _) ?_ (fun E h' q => by obtain ⟨-, -, -, -, -, ⟨_, e, -⟩⟩ := q; cases e)
  rintro w g1 ⟨Hg1, P1, r1, d1, v1, ⟨z1, er, ez1⟩⟩
  cases er
  show AR _ _ _ _ _ _ _ 8 [(0, .ref 0)] [.int z1, .ref 0] g1 _ _
  have hI1 := hI.go P1 (by decide) (by decide) (by decide)
  have hC1 := hC.go P1 (by decide)
  show AR _ _ _ _ _ _ _ 8 [(0, .ref 0)] [.int z1, .ref 0] g1 _ _
  obtain ⟨v1129, cv1129⟩ := p_cell Hg1 (q := 0) (by decide) (by decide +kernel : (ty_tab 0).1 = 8)
  refine AR.jr (r := 0) (as := [.int z1]) (rest := []) hk_72_8 (by decide) (by decide +kernel) (by decide) cv1129 rfl rfl (Nat.le_of_ble_eq_true rfl) (q_117 hlst Hg1 ez1) (by decide) (Nat.zero_le _) (Nat.zero_le _) ?_ (fun E h' q => by cases q.1)
  rintro w g2 ⟨e2, H2, P2, z2, t2⟩
  cases e2
  have Hg2 := H2
  show AR _ _ _ _ _ _ _ 11 [(0, .ref 0)] [] g2 _ _
  have Q2 : pf [0, 1, 3, 4] h g2 := pf.tr (pf.tr (pf_r _ h) P1 (by simp)) P2 (by simp)
  have z7 : ∀ j, j ≠ 2 → hy_z g2 0 j = hy_z h 0 j := fun j hj => by rw [z2, if_neg hj, P1.z (by decide)]
  have hI2 : pI g2 := ⟨(Q2.2 24 0 (by decide)).trans hI.1, (z7 17 (by decide)).trans hI.2.1, (Q2.z (by decide) 1).trans hI.2.2⟩
  have hC2 := hC.go Q2 (by decide)
  have r2 : hy_z g2 3 7 = 7 := (P2.z (by decide) 7).trans r1
  have d2 : hy_z g2 3 8 = d := (P2.z (by decide) 8).trans d1
  have v2 : ∀ k, k < 24 → hy_z g2 4 k = q_A (fun _ => 0) ts k := fun k hk => (P2.z (by decide) k).trans (v1 k hk)
  have b2 : ∀ k, k < 24 → -1000 ≤ hy_z g2 4 k ∧ hy_z g2 4 k ≤ 1000 := fun k hk => by rw [v2 k hk]; exact hA k hk
  show AR _ _ _ _ _ _ _ 11 [(0, .ref 0)] [] g2 _ _
  have n2 : hy_z g2 0 5 = n := (z7 5 (by decide)).trans hn
  show AR _ _ _ _ _ _ _ 11 [(0, .ref 0)] [] g2 _ _
  refine AR.s (pc' := 12) (lv' := [(0, .ref 0)]) (st' := [.ref 0]) (h' := g2) _ hn_72 hk_72_11 rfl ?_
  refine AR.s (pc' := 13) (lv' := [(0, .ref 0)]) (st' := [.ref 0, .ref 0]) (h' := g2) _ hn_72 hk_72_12 rfl ?_
  refine AR.gR hk_72_13 (by decide) Hg2 (q := 0) (n := 18) (by decide) (by decide +kernel) (by decide +kernel) (by decide) hy_t0_1 ?_
  show AR _ _ _ _ _ _ _ 16 [(0, .ref 0)] [.ref 3, .ref 0] g2 _ _
  obtain ⟨vc1130, cc1130⟩ := q_c3 Hg2
  refine AR.jr (r := 3) (as := []) (rest := [.ref 0]) hk_72_16 (by decide) (by decide +kernel) (by decide) cc1130 rfl rfl (Nat.le_of_ble_eq_true rfl) (q_49 hlst Hg2) (by decide) (Nat.zero_le _) (Nat.zero_le _) ?_ (fun E h' q => by obtain ⟨-, _, e, -⟩ := q; cases e)
  rintro w g9 ⟨eg, z, er, hz, hz2⟩
  cases er
  obtain rfl := eg.symm
  show AR _ _ _ _ _ _ _ 19 [(0, .ref 0)] [.int z, .ref 0] g2 _ _
  refine AR.zeq hk_72_19 (tgt := 26) (by decide) (fun p1 => ?_) (fun p2 => ?_)
  · refine AR.iconstT hk_72_26 (by decide) (fun z1131 ez1131 => ?_)
    show AR _ _ _ _ _ _ _ 27 [(0, .ref 0)] [.int z1131, .ref 0] g2 _ _
    obtain ⟨v1132, cv1132⟩ := p_cell Hg2 (q := 0) (by decide) (by decide +kernel : (ty_tab 0).1 = 8)
    refine AR.jr (r := 0) (as := [.int z1131]) (rest := []) hk_72_27 (by decide) (by decide +kernel) (by decide) cv1132 rfl rfl (Nat.le_of_ble_eq_true rfl) (p_115 hlst Hg2 (by omega) (by omega)) (by decide) (Nat.zero_le _) (Nat.zero_le _) ?_ (fun E h' q => by cases q.1)
    rintro w g3 ⟨er, eg⟩
    cases er
    obtain rfl := eg.symm
    show AR _ _ _ _ _ _ _ 30 [(0, .ref 0)] [] g2 _ _
    refine AR.s (pc' := 31) (lv' := [(0, .ref 0)]) (st' := [.ref 0]) (h' := g2) _ hn_72 hk_72_30 rfl ?_
    refine AR.gI hk_72_31 (by decide) Hg2 (q := 0) (n := 18) (by decide) (by decide +kernel) (by decide +kernel) (by decide) hy_t0_5 (fun x1133 dx1133 lx1133 ux1133 => ?_)
    show AR _ _ _ _ _ _ _ 34 [(0, .ref 0)] [.int x1133] g2 _ _
    have sx1133 := hy_zi dx1133
    refine AR.s (pc' := 35) (lv' := [(1, .int x1133), (0, .ref 0)]) (st' := []) (h' := g2) _ hn_72 hk_72_34 rfl ?_
    refine AR.s (pc' := 36) (lv' := [(1, .int x1133), (0, .ref 0)]) (st' := [.ref 0]) (h' := g2) _ hn_72 hk_72_35 rfl ?_
    refine AR.gR hk_72_36 (by decide) Hg2 (q := 0) (n := 18) (by decide) (by decide +kernel) (by decide +kernel) (by decide) hy_t0_1 ?_
    show AR _ _ _ _ _ _ _ 39 [(1, .int x1133), (0, .ref 0)] [.ref 3] g2 _ _
    obtain ⟨vc1134, cc1134⟩ := q_c3 Hg2
    refine AR.jr (r := 3) (as := []) (rest := []) hk_72_39 (by decide) (by decide +kernel) (by decide) cc1134 rfl rfl (Nat.le_of_ble_eq_true rfl) (q_50 hlst Hg2) (by decide) (Nat.zero_le _) (Nat.zero_le _) ?_ (fun E h' q => by obtain ⟨-, _, e, -⟩ := q; cases e)
    rintro w g9 ⟨eg, z, er, hz, hz2⟩
    cases er
    obtain rfl := eg.symm
    show AR _ _ _ _ _ _ _ 42 [(1, .int x1133), (0, .ref 0)] [.int z] g2 _ _
    refine AR.zeq hk_72_42 (tgt := 61) (by decide) (fun q1 => ?_) (fun q2 => ?_)
    · exact absurd q1 (by omega)
    · refine AR.s (pc' := 46) (lv' := [(1, .int x1133), (0, .ref 0)]) (st' := [.ref 0]) (h' := g2) _ hn_72 hk_72_45 rfl ?_
      refine AR.gR hk_72_46 (by decide) Hg2 (q := 0) (n := 18) (by decide) (by decide +kernel) (by decide +kernel) (by decide) hy_t0_1 ?_
      show AR _ _ _ _ _ _ _ 49 [(1, .int x1133), (0, .ref 0)] [.ref 3] g2 _ _
      refine AR.s (pc' := 50) (lv' := [(1, .int x1133), (0, .ref 0)]) (st' := [.ref 0, .ref 3]) (h' := g2) _ hn_72 hk_72_49 rfl ?_
      refine AR.gR hk_72_50 (by decide) Hg2 (q := 0) (n := 18) (by decide) (by decide +kernel) (by decide +kernel) (by decide) hy_t0_6 ?_
      show AR _ _ _ _ _ _ _ 53 [(1, .int x1133), (0, .ref 0)] [.ref 8, .ref 3] g2 _ _
      obtain ⟨vc1135, cc1135⟩ := q_c3 Hg2
      refine AR.jr (r := 3) (as := [.ref 8]) (rest := []) hk_72_53 (by decide) (by decide +kernel) (by decide) cc1135 rfl rfl (Nat.le_of_ble_eq_true rfl) (q_52 hlst Hg2 b2 (by omega)) (by decide) (Nat.zero_le _) (Nat.zero_le _) ?_ (fun E h' q => by cases q.1)
      rintro w g3 ⟨e3, H3, P3, d3, v3⟩
      cases e3
      have Hg3 := H3
      show AR _ _ _ _ _ _ _ 56 [(1, .int x1133), (0, .ref 0)] [] g3 _ _
      have he : ∀ k, k < 24 → (fun k => (1) * hy_z g2 4 k) k = (fun k => (1) * q_A (fun _ => 0) ts k) k := fun k hk => by show (1) * hy_z g2 4 k = (1) * q_A (fun _ => 0) ts k; rw [v2 k hk]
      rw [d2, sd_c he 24 (by decide)] at d3
      have v4 : ∀ k, k < 24 → hy_z g3 9 k = ft (fun k => (1) * q_A (fun _ => 0) ts k) 24 k := fun k hk => (v3 k hk).trans (ft_c he hk)
      have eb : ∀ k, k < 24 → -1000 ≤ (fun k => (1) * q_A (fun _ => 0) ts k) k ∧ (fun k => (1) * q_A (fun _ => 0) ts k) k ≤ 1000 := fun k hk => by have := hA k hk; show -1000 ≤ (1) * q_A (fun _ => 0) ts k ∧ (1) * q_A (fun _ => 0) ts k ≤ 1000; omega
      have sb := sd_bd (b := (1) * d) eb 24 (by decide)
      have fb := fun k (hk : k < 24) => ft_bd eb 24 hk
      have hI3 := hI2.go P3 (by decide) (by decide) (by decide)
      have hC3 := hC2.go P3 (by decide)
      show AR _ _ _ _ _ _ _ 56 [(1, .int x1133), (0, .ref 0)] [] g3 _ _
      refine AR.s (pc' := 57) (lv' := [(1, .int x1133), (0, .ref 0)]) (st' := [.ref 0]) (h' := g3) _ hn_72 hk_72_56 rfl ?_
      obtain ⟨v1136, cv1136⟩ := p_cell Hg3 (q := 0) (by decide) (by decide +kernel : (ty_tab 0).1 = 8)
      refine AR.jr (r := 0) (as := []) (rest := []) hk_72_57 (by decide) (by decide +kernel) (by decide) cv1136 rfl rfl (Nat.le_of_ble_eq_true rfl) (p_119 hlst Hg3 hI3 hC3 ((P3.z (by decide) 5).trans n2) hn2 hp (fun k hk => by rw [v4 k hk]; have := fb k hk; omega) (by rw [d3]; omega)) (by decide) (Nat.zero_le _) (Nat.zero_le _) ?_ (fun E h' q => by obtain ⟨-, -, -, -, ⟨_, e, -⟩, -⟩ := q; cases e)
      rintro w g4 qq
      have q4 := pN_of qq P3 v4 d3
      obtain ⟨z8, er, ez8⟩ := qq.2.2.2.2.1
      cases er
      obtain ⟨a1, a2, a3, a4, a5, a6, a7, a8, a9⟩ := q4
      have Hg4 := a1
      show AR _ _ _ _ _ _ _ 60 [(1, .int x1133), (0, .ref 0)] [.int z8] g4 _ _
      refine AR.s (pc' := 61) (lv' := [(1, .int x1133), (0, .ref 0)]) (st' := []) (h' := g4) _ hn_72 hk_72_60 rfl ?_
      refine AR.s (pc' := 62) (lv' := [(1, .int x1133), (0, .ref 0)]) (st' := [.ref 0]) (h' := g4) _ hn_72 hk_72_61 rfl ?_
      refine AR.gR hk_72_62 (by decide) Hg4 (q := 0) (n := 18) (by decide) (by decide +kernel) (by decide +kernel) (by decide) hy_t0_1 ?_
      show AR _ _ _ _ _ _ _ 65 [(1, .int x1133), (0, .ref 0)] [.ref 3] g4 _ _
      obtain ⟨vc1137, cc1137⟩ := q_c3 Hg4
      refine AR.jr (r := 3) (as := []) (rest := []) hk_72_65 (by decide) (by decide +kernel) (by decide) cc1137 rfl rfl (Nat.le_of_ble_eq_true rfl) (q_51 hlst Hg4) (by decide) (Nat.zero_le _) (Nat.zero_le _) ?_ (fun E h' q => by obtain ⟨-, _, e, -⟩ := q; cases e)
      rintro w g9 ⟨eg, z, er, hz, hz2⟩
      cases er
      obtain rfl := eg.symm
      show AR _ _ _ _ _ _ _ 68 [(1, .int x1133), (0, .ref 0)] [.int z] g4 _ _
      refine AR.zeq hk_72_68 (tgt := 87) (by decide) (fun r1 => ?_) (fun r9 => ?_)
      · refine AR.s (pc' := 88) (lv' := [(1, .int x1133), (0, .ref 0)]) (st' := [.int x1133]) (h' := g4) _ hn_72 hk_72_87 rfl ?_
        refine AR.iret hk_72_88 hr_72 ⟨a1, a2, a3, pf.tr (pf.tr (pf_r _ h) Q2 (by simp)) a4 (by simp), ⟨_, rfl, by omega⟩, by rw [a6, if_pos rfl], ?_, a7, a8, fun w hw0 k hk => by rw [a9 w hw0 k hk, Q2.w (by decide)]⟩
        rw [a4.z (by simp; omega)]
        exact t2
      · have r4 : hy_z g4 3 7 = 7 := by rw [a4.z (by simp; omega)]; exact r2
        exact absurd r9 (by omega)
  · exact absurd p2 (by omega)
theorem q_72_8 (hlst : l.stackTraces = false) {n p : Nat} {ts : List (Nat × Int)} {d : Int} (hH : hy_H 0 h) (hI : pI h) (hC : pC h) (C : q_C (t_B h) ts 8 d) (hA : ∀ k, k < 24 → -1000 ≤ q_A (fun _ => 0) ts k ∧ q_A (fun _ => 0) ts k ≤ 1000) (hd : -9 ≤ d ∧ d ≤ 9) (hn : hy_z h 0 5 = n) (hn2 : n < 60) (hp : p = 27 + 2 * n) : AM ax_ns l (ax_mm 72) 6 ty_R (0) (0) [.ref 0] h (pP h n p (ft (fun k => (-1) * q_A (fun _ => 0) ts k) 24) (sd (fun k => (-1) * q_A (fun _ => 0) ts k) ((-1) * d) 24)) := by
  refine AM.of (ax_mfacts (by decide +kernel : ax_has 72 = true)).2.2.2.2.2.2 hlst (by rw [hn_72]; exact Nat.le_of_ble_eq_true rfl) ?_
  show AR ax_ns l (ax_mm 72) 6 ty_R _ _ 0 [(0, .ref 0)] [] h (0) (0)
  refine AR.s (pc' := 1) (lv' := [(0, .ref 0)]) (st' := [.ref 0]) (h' := h) _ hn_72 hk_72_0 rfl ?_
  refine AR.s (pc' := 2) (lv' := [(0, .ref 0)]) (st' := [.ref 0, .ref 0]) (h' := h) _ hn_72 hk_72_1 rfl ?_
  refine AR.gR hk_72_2 (by decide) hH (q := 0) (n := 18) (by decide) (by decide +kernel) (by decide +kernel) (by decide) hy_t0_1 ?_
  show AR _ _ _ _ _ _ _ 5 [(0, .ref 0)] [.ref 3, .ref 0] h _ _
  obtain ⟨vc1138, cc1138⟩ := q_c3 hH
  refine AR.jr (r := 3) (as := []) (rest := [.ref 0]) hk_72_5 (by decide) (by decide +kernel) (by decide) cc1138 rfl rfl (Nat.le_of_ble_eq_true rfl) (q_55 hlst hH C) (by decide) (Nat.zero_le _) (Nat.zero_le _) ?_ (fun E h' q => by obtain ⟨-, -, -, -, -, ⟨_, e, -⟩⟩ := q; cases e)
  rintro w g1 ⟨Hg1, P1, r1, d1, v1, ⟨z1, er, ez1⟩⟩
  cases er
  show AR _ _ _ _ _ _ _ 8 [(0, .ref 0)] [.int z1, .ref 0] g1 _ _
  have hI1 := hI.go P1 (by decide) (by decide) (by decide)
  have hC1 := hC.go P1 (by decide)
  show AR _ _ _ _ _ _ _ 8 [(0, .ref 0)] [.int z1, .ref 0] g1 _ _
  obtain ⟨v1139, cv1139⟩ := p_cell Hg1 (q := 0) (by decide) (by decide +kernel : (ty_tab 0).1 = 8)
  refine AR.jr (r := 0) (as := [.int z1]) (rest := []) hk_72_8 (by decide) (by decide +kernel) (by decide) cv1139 rfl rfl (Nat.le_of_ble_eq_true rfl) (q_117 hlst Hg1 ez1) (by decide) (Nat.zero_le _) (Nat.zero_le _) ?_ (fun E h' q => by cases q.1)
  rintro w g2 ⟨e2, H2, P2, z2, t2⟩
  cases e2
  have Hg2 := H2
  show AR _ _ _ _ _ _ _ 11 [(0, .ref 0)] [] g2 _ _
  have Q2 : pf [0, 1, 3, 4] h g2 := pf.tr (pf.tr (pf_r _ h) P1 (by simp)) P2 (by simp)
  have z7 : ∀ j, j ≠ 2 → hy_z g2 0 j = hy_z h 0 j := fun j hj => by rw [z2, if_neg hj, P1.z (by decide)]
  have hI2 : pI g2 := ⟨(Q2.2 24 0 (by decide)).trans hI.1, (z7 17 (by decide)).trans hI.2.1, (Q2.z (by decide) 1).trans hI.2.2⟩
  have hC2 := hC.go Q2 (by decide)
  have r2 : hy_z g2 3 7 = 8 := (P2.z (by decide) 7).trans r1
  have d2 : hy_z g2 3 8 = d := (P2.z (by decide) 8).trans d1
  have v2 : ∀ k, k < 24 → hy_z g2 4 k = q_A (fun _ => 0) ts k := fun k hk => (P2.z (by decide) k).trans (v1 k hk)
  have b2 : ∀ k, k < 24 → -1000 ≤ hy_z g2 4 k ∧ hy_z g2 4 k ≤ 1000 := fun k hk => by rw [v2 k hk]; exact hA k hk
  show AR _ _ _ _ _ _ _ 11 [(0, .ref 0)] [] g2 _ _
  have n2 : hy_z g2 0 5 = n := (z7 5 (by decide)).trans hn
  show AR _ _ _ _ _ _ _ 11 [(0, .ref 0)] [] g2 _ _
  refine AR.s (pc' := 12) (lv' := [(0, .ref 0)]) (st' := [.ref 0]) (h' := g2) _ hn_72 hk_72_11 rfl ?_
  refine AR.s (pc' := 13) (lv' := [(0, .ref 0)]) (st' := [.ref 0, .ref 0]) (h' := g2) _ hn_72 hk_72_12 rfl ?_
  refine AR.gR hk_72_13 (by decide) Hg2 (q := 0) (n := 18) (by decide) (by decide +kernel) (by decide +kernel) (by decide) hy_t0_1 ?_
  show AR _ _ _ _ _ _ _ 16 [(0, .ref 0)] [.ref 3, .ref 0] g2 _ _
  obtain ⟨vc1140, cc1140⟩ := q_c3 Hg2
  refine AR.jr (r := 3) (as := []) (rest := [.ref 0]) hk_72_16 (by decide) (by decide +kernel) (by decide) cc1140 rfl rfl (Nat.le_of_ble_eq_true rfl) (q_49 hlst Hg2) (by decide) (Nat.zero_le _) (Nat.zero_le _) ?_ (fun E h' q => by obtain ⟨-, _, e, -⟩ := q; cases e)
  rintro w g9 ⟨eg, z, er, hz, hz2⟩
  cases er
  obtain rfl := eg.symm
  show AR _ _ _ _ _ _ _ 19 [(0, .ref 0)] [.int z, .ref 0] g2 _ _
  refine AR.zeq hk_72_19 (tgt := 26) (by decide) (fun p1 => ?_) (fun p2 => ?_)
  · refine AR.iconstT hk_72_26 (by decide) (fun z1141 ez1141 => ?_)
    show AR _ _ _ _ _ _ _ 27 [(0, .ref 0)] [.int z1141, .ref 0] g2 _ _
    obtain ⟨v1142, cv1142⟩ := p_cell Hg2 (q := 0) (by decide) (by decide +kernel : (ty_tab 0).1 = 8)
    refine AR.jr (r := 0) (as := [.int z1141]) (rest := []) hk_72_27 (by decide) (by decide +kernel) (by decide) cv1142 rfl rfl (Nat.le_of_ble_eq_true rfl) (p_115 hlst Hg2 (by omega) (by omega)) (by decide) (Nat.zero_le _) (Nat.zero_le _) ?_ (fun E h' q => by cases q.1)
    rintro w g3 ⟨er, eg⟩
    cases er
    obtain rfl := eg.symm
    show AR _ _ _ _ _ _ _ 30 [(0, .ref 0)] [] g2 _ _
    refine AR.s (pc' := 31) (lv' := [(0, .ref 0)]) (st' := [.ref 0]) (h' := g2) _ hn_72 hk_72_30 rfl ?_
    refine AR.gI hk_72_31 (by decide) Hg2 (q := 0) (n := 18) (by decide) (by decide +kernel) (by decide +kernel) (by decide) hy_t0_5 (fun x1143 dx1143 lx1143 ux1143 => ?_)
    show AR _ _ _ _ _ _ _ 34 [(0, .ref 0)] [.int x1143] g2 _ _
    have sx1143 := hy_zi dx1143
    refine AR.s (pc' := 35) (lv' := [(1, .int x1143), (0, .ref 0)]) (st' := []) (h' := g2) _ hn_72 hk_72_34 rfl ?_
    refine AR.s (pc' := 36) (lv' := [(1, .int x1143), (0, .ref 0)]) (st' := [.ref 0]) (h' := g2) _ hn_72 hk_72_35 rfl ?_
    refine AR.gR hk_72_36 (by decide) Hg2 (q := 0) (n := 18) (by decide) (by decide +kernel) (by decide +kernel) (by decide) hy_t0_1 ?_
    show AR _ _ _ _ _ _ _ 39 [(1, .int x1143), (0, .ref 0)] [.ref 3] g2 _ _
    obtain ⟨vc1144, cc1144⟩ := q_c3 Hg2
    refine AR.jr (r := 3) (as := []) (rest := []) hk_72_39 (by decide) (by decide +kernel) (by decide) cc1144 rfl rfl (Nat.le_of_ble_eq_true rfl) (q_50 hlst Hg2) (by decide) (Nat.zero_le _) (Nat.zero_le _) ?_ (fun E h' q => by obtain ⟨-, _, e, -⟩ := q; cases e)
    rintro w g9 ⟨eg, z, er, hz, hz2⟩
    cases er
    obtain rfl := eg.symm
    show AR _ _ _ _ _ _ _ 42 [(1, .int x1143), (0, .ref 0)] [.int z] g2 _ _
    refine AR.zeq hk_72_42 (tgt := 61) (by decide) (fun q1 => ?_) (fun q2 => ?_)
    · refine AR.s (pc' := 62) (lv' := [(1, .int x1143), (0, .ref 0)]) (st' := [.ref 0]) (h' := g2) _ hn_72 hk_72_61 rfl ?_
      refine AR.gR hk_72_62 (by decide) Hg2 (q := 0) (n := 18) (by decide) (by decide +kernel) (by decide +kernel) (by decide) hy_t0_1 ?_
      show AR _ _ _ _ _ _ _ 65 [(1, .int x1143), (0, .ref 0)] [.ref 3] g2 _ _
      obtain ⟨vc1145, cc1145⟩ := q_c3 Hg2
      refine AR.jr (r := 3) (as := []) (rest := []) hk_72_65 (by decide) (by decide +kernel) (by decide) cc1145 rfl rfl (Nat.le_of_ble_eq_true rfl) (q_51 hlst Hg2) (by decide) (Nat.zero_le _) (Nat.zero_le _) ?_ (fun E h' q => by obtain ⟨-, _, e, -⟩ := q; cases e)
      rintro w g9 ⟨eg, z, er, hz, hz2⟩
      cases er
      obtain rfl := eg.symm
      show AR _ _ _ _ _ _ _ 68 [(1, .int x1143), (0, .ref 0)] [.int z] g2 _ _
      refine AR.zeq hk_72_68 (tgt := 87) (by decide) (fun r1 => ?_) (fun r3 => ?_)
      · exact absurd r1 (by omega)
      · refine AR.s (pc' := 72) (lv' := [(1, .int x1143), (0, .ref 0)]) (st' := [.ref 0]) (h' := g2) _ hn_72 hk_72_71 rfl ?_
        refine AR.gR hk_72_72 (by decide) Hg2 (q := 0) (n := 18) (by decide) (by decide +kernel) (by decide +kernel) (by decide) hy_t0_1 ?_
        show AR _ _ _ _ _ _ _ 75 [(1, .int x1143), (0, .ref 0)] [.ref 3] g2 _ _
        refine AR.s (pc' := 76) (lv' := [(1, .int x1143), (0, .ref 0)]) (st' := [.ref 0, .ref 3]) (h' := g2) _ hn_72 hk_72_75 rfl ?_
        refine AR.gR hk_72_76 (by decide) Hg2 (q := 0) (n := 18) (by decide) (by decide +kernel) (by decide +kernel) (by decide) hy_t0_6 ?_
        show AR _ _ _ _ _ _ _ 79 [(1, .int x1143), (0, .ref 0)] [.ref 8, .ref 3] g2 _ _
        obtain ⟨vc1146, cc1146⟩ := q_c3 Hg2
        refine AR.jr (r := 3) (as := [.ref 8]) (rest := []) hk_72_79 (by decide) (by decide +kernel) (by decide) cc1146 rfl rfl (Nat.le_of_ble_eq_true rfl) (q_53 hlst Hg2 b2 (by omega)) (by decide) (Nat.zero_le _) (Nat.zero_le _) ?_ (fun E h' q => by cases q.1)
        rintro w g3 ⟨e3, H3, P3, d3, v3⟩
        cases e3
        have Hg3 := H3
        show AR _ _ _ _ _ _ _ 82 [(1, .int x1143), (0, .ref 0)] [] g3 _ _
        have he : ∀ k, k < 24 → (fun k => (-1) * hy_z g2 4 k) k = (fun k => (-1) * q_A (fun _ => 0) ts k) k := fun k hk => by show (-1) * hy_z g2 4 k = (-1) * q_A (fun _ => 0) ts k; rw [v2 k hk]
        rw [d2, sd_c he 24 (by decide)] at d3
        have v4 : ∀ k, k < 24 → hy_z g3 9 k = ft (fun k => (-1) * q_A (fun _ => 0) ts k) 24 k := fun k hk => (v3 k hk).trans (ft_c he hk)
        have eb : ∀ k, k < 24 → -1000 ≤ (fun k => (-1) * q_A (fun _ => 0) ts k) k ∧ (fun k => (-1) * q_A (fun _ => 0) ts k) k ≤ 1000 := fun k hk => by have := hA k hk; show -1000 ≤ (-1) * q_A (fun _ => 0) ts k ∧ (-1) * q_A (fun _ => 0) ts k ≤ 1000; omega
        have sb := sd_bd (b := (-1) * d) eb 24 (by decide)
        have fb := fun k (hk : k < 24) => ft_bd eb 24 hk
        have hI3 := hI2.go P3 (by decide) (by decide) (by decide)
        have hC3 := hC2.go P3 (by decide)
        show AR _ _ _ _ _ _ _ 82 [(1, .int x1143), (0, .ref 0)] [] g3 _ _
        refine AR.s (pc' := 83) (lv' := [(1, .int x1143), (0, .ref 0)]) (st' := [.ref 0]) (h' := g3) _ hn_72 hk_72_82 rfl ?_
        obtain ⟨v1147, cv1147⟩ := p_cell Hg3 (q := 0) (by decide) (by decide +kernel : (ty_tab 0).1 = 8)
        refine AR.jr (r := 0) (as := []) (rest := []) hk_72_83 (by decide) (by decide +kernel) (by decide) cv1147 rfl rfl (Nat.le_of_ble_eq_true rfl) (p_119 hlst Hg3 hI3 hC3 ((P3.z (by decide) 5).trans n2) hn2 hp (fun k hk => by rw [v4 k hk]; have := fb k hk; omega) (by rw [d3]; omega)) (by decide) (Nat.zero_le _) (Nat.zero_le _) ?_ (fun E h' q => by obtain ⟨-, -, -, -, ⟨_, e, -⟩, -⟩ := q; cases e)
        rintro w g4 qq
        have q4 := pN_of qq P3 v4 d3
        obtain ⟨z8, er, ez8⟩ := qq.2.2.2.2.1
        cases er
        obtain ⟨a1, a2, a3, a4, a5, a6, a7, a8, a9⟩ := q4
        have Hg4 := a1
        show AR _ _ _ _ _ _ _ 86 [(1, .int x1143), (0, .ref 0)] [.int z8] g4 _ _
        refine AR.s (pc' := 87) (lv' := [(1, .int x1143), (0, .ref 0)]) (st' := []) (h' := g4) _ hn_72 hk_72_86 rfl ?_
        refine AR.s (pc' := 88) (lv' := [(1, .int x1143), (0, .ref 0)]) (st' := [.int x1143]) (h' := g4) _ hn_72 hk_72_87 rfl ?_
        refine AR.iret hk_72_88 hr_72 ⟨a1, a2, a3, pf.tr (pf.tr (pf_r _ h) Q2 (by simp)) a4 (by simp), ⟨_, rfl, by omega⟩, by rw [a6, if_pos rfl], ?_, a7, a8, fun w hw0 k hk => by rw [a9 w hw0 k hk, Q2.w (by decide)]⟩
        rw [a4.z (by simp; omega)]
        exact t2
    · exact absurd q2 (by omega)
  · exact absurd p2 (by omega)
def pq_73 (h : ax_H) (f : Nat → Int) (d : Int) : ax_Q := fun res g => hy_H 0 g ∧ pf [0, 1, 3, 4, 8, 9, 10, 11, 13, 14] h g ∧ (∀ j, j ≠ 2 → hy_z g 0 j = hy_z h 0 j) ∧ hy_z g 1 1 = 0 ∧ ∃ z : Int32, res = .inl (some (.int z)) ∧ ∃ c : Nat → Int, (∀ k, k < 24 → c k = nf f k) ∧ ((z.toInt = 1 ∧ ∀ w, w < 64 → ∀ k, k < 64 → pb (hw h 148 w) k = true → nd f d 12 ≤ sm c w k) ∨ (z.toInt = 0 ∧ ∃ w k, w < 64 ∧ k < 64 ∧ pb (hw h 148 w) k = true ∧ ¬ nd f d 12 ≤ sm c w k))
theorem q_73_7 (hlst : l.stackTraces = false) {ts : List (Nat × Int)} {d : Int} (hH : hy_H 0 h) (hI : pI h) (hC : pC h) (C : q_C (t_B h) ts 7 d) (hA : ∀ k, k < 24 → -1000 ≤ q_A (fun _ => 0) ts k ∧ q_A (fun _ => 0) ts k ≤ 1000) (hd : -9 ≤ d ∧ d ≤ 9) : AM ax_ns l (ax_mm 73) 6 ty_R (0) (0) [.ref 0] h (pq_73 h (ft (fun k => (1) * q_A (fun _ => 0) ts k) 24) (sd (fun k => (1) * q_A (fun _ => 0) ts k) ((1) * d) 24)) := by
  refine AM.of (ax_mfacts (by decide +kernel : ax_has 73 = true)).2.2.2.2.2.2 hlst (by rw [hn_73]; exact Nat.le_of_ble_eq_true rfl) ?_
  show AR ax_ns l (ax_mm 73) 6 ty_R _ _ 0 [(0, .ref 0)] [] h (0) (0)
  refine AR.s (pc' := 1) (lv' := [(0, .ref 0)]) (st' := [.ref 0]) (h' := h) _ hn_73 hk_73_0 rfl ?_
  refine AR.s (pc' := 2) (lv' := [(0, .ref 0)]) (st' := [.ref 0, .ref 0]) (h' := h) _ hn_73 hk_73_1 rfl ?_
  refine AR.gR hk_73_2 (by decide) hH (q := 0) (n := 18) (by decide) (by decide +kernel) (by decide +kernel) (by decide) hy_t0_1 ?_
  show AR _ _ _ _ _ _ _ 5 [(0, .ref 0)] [.ref 3, .ref 0] h _ _
  obtain ⟨vc1148, cc1148⟩ := q_c3 hH
  refine AR.jr (r := 3) (as := []) (rest := [.ref 0]) hk_73_5 (by decide) (by decide +kernel) (by decide) cc1148 rfl rfl (Nat.le_of_ble_eq_true rfl) (q_55 hlst hH C) (by decide) (Nat.zero_le _) (Nat.zero_le _) ?_ (fun E h' q => by obtain ⟨-, -, -, -, -, ⟨_, e, -⟩⟩ := q; cases e)
  rintro w g1 ⟨Hg1, P1, r1, d1, v1, ⟨z1, er, ez1⟩⟩
  cases er
  show AR _ _ _ _ _ _ _ 8 [(0, .ref 0)] [.int z1, .ref 0] g1 _ _
  have hI1 := hI.go P1 (by decide) (by decide) (by decide)
  have hC1 := hC.go P1 (by decide)
  show AR _ _ _ _ _ _ _ 8 [(0, .ref 0)] [.int z1, .ref 0] g1 _ _
  obtain ⟨v1149, cv1149⟩ := p_cell Hg1 (q := 0) (by decide) (by decide +kernel : (ty_tab 0).1 = 8)
  refine AR.jr (r := 0) (as := [.int z1]) (rest := []) hk_73_8 (by decide) (by decide +kernel) (by decide) cv1149 rfl rfl (Nat.le_of_ble_eq_true rfl) (q_117 hlst Hg1 ez1) (by decide) (Nat.zero_le _) (Nat.zero_le _) ?_ (fun E h' q => by cases q.1)
  rintro w g2 ⟨e2, H2, P2, z2, t2⟩
  cases e2
  have Hg2 := H2
  show AR _ _ _ _ _ _ _ 11 [(0, .ref 0)] [] g2 _ _
  have Q2 : pf [0, 1, 3, 4] h g2 := pf.tr (pf.tr (pf_r _ h) P1 (by simp)) P2 (by simp)
  have z7 : ∀ j, j ≠ 2 → hy_z g2 0 j = hy_z h 0 j := fun j hj => by rw [z2, if_neg hj, P1.z (by decide)]
  have hI2 : pI g2 := ⟨(Q2.2 24 0 (by decide)).trans hI.1, (z7 17 (by decide)).trans hI.2.1, (Q2.z (by decide) 1).trans hI.2.2⟩
  have hC2 := hC.go Q2 (by decide)
  have r2 : hy_z g2 3 7 = 7 := (P2.z (by decide) 7).trans r1
  have d2 : hy_z g2 3 8 = d := (P2.z (by decide) 8).trans d1
  have v2 : ∀ k, k < 24 → hy_z g2 4 k = q_A (fun _ => 0) ts k := fun k hk => (P2.z (by decide) k).trans (v1 k hk)
  have b2 : ∀ k, k < 24 → -1000 ≤ hy_z g2 4 k ∧ hy_z g2 4 k ≤ 1000 := fun k hk => by rw [v2 k hk]; exact hA k hk
  show AR _ _ _ _ _ _ _ 11 [(0, .ref 0)] [] g2 _ _
  refine AR.iconstT hk_73_11 (by decide) (fun z1150 ez1150 => ?_)
  show AR _ _ _ _ _ _ _ 12 [(0, .ref 0)] [.int z1150] g2 _ _
  refine AR.s (pc' := 13) (lv' := [(1, .int z1150), (0, .ref 0)]) (st' := []) (h' := g2) _ hn_73 hk_73_12 rfl ?_
  refine AR.s (pc' := 14) (lv' := [(1, .int z1150), (0, .ref 0)]) (st' := [.ref 0]) (h' := g2) _ hn_73 hk_73_13 rfl ?_
  refine AR.gR hk_73_14 (by decide) Hg2 (q := 0) (n := 18) (by decide) (by decide +kernel) (by decide +kernel) (by decide) hy_t0_1 ?_
  show AR _ _ _ _ _ _ _ 17 [(1, .int z1150), (0, .ref 0)] [.ref 3] g2 _ _
  obtain ⟨vc1151, cc1151⟩ := q_c3 Hg2
  refine AR.jr (r := 3) (as := []) (rest := []) hk_73_17 (by decide) (by decide +kernel) (by decide) cc1151 rfl rfl (Nat.le_of_ble_eq_true rfl) (q_50 hlst Hg2) (by decide) (Nat.zero_le _) (Nat.zero_le _) ?_ (fun E h' q => by obtain ⟨-, _, e, -⟩ := q; cases e)
  rintro w g9 ⟨eg, z, er, hz, hz2⟩
  cases er
  obtain rfl := eg.symm
  show AR _ _ _ _ _ _ _ 20 [(1, .int z1150), (0, .ref 0)] [.int z] g2 _ _
  refine AR.zeq hk_73_20 (tgt := 39) (by decide) (fun q1 => ?_) (fun q2 => ?_)
  · exact absurd q1 (by omega)
  · refine AR.s (pc' := 24) (lv' := [(1, .int z1150), (0, .ref 0)]) (st' := [.ref 0]) (h' := g2) _ hn_73 hk_73_23 rfl ?_
    refine AR.gR hk_73_24 (by decide) Hg2 (q := 0) (n := 18) (by decide) (by decide +kernel) (by decide +kernel) (by decide) hy_t0_1 ?_
    show AR _ _ _ _ _ _ _ 27 [(1, .int z1150), (0, .ref 0)] [.ref 3] g2 _ _
    refine AR.s (pc' := 28) (lv' := [(1, .int z1150), (0, .ref 0)]) (st' := [.ref 0, .ref 3]) (h' := g2) _ hn_73 hk_73_27 rfl ?_
    refine AR.gR hk_73_28 (by decide) Hg2 (q := 0) (n := 18) (by decide) (by decide +kernel) (by decide +kernel) (by decide) hy_t0_6 ?_
    show AR _ _ _ _ _ _ _ 31 [(1, .int z1150), (0, .ref 0)] [.ref 8, .ref 3] g2 _ _
    obtain ⟨vc1152, cc1152⟩ := q_c3 Hg2
    refine AR.jr (r := 3) (as := [.ref 8]) (rest := []) hk_73_31 (by decide) (by decide +kernel) (by decide) cc1152 rfl rfl (Nat.le_of_ble_eq_true rfl) (q_52 hlst Hg2 b2 (by omega)) (by decide) (Nat.zero_le _) (Nat.zero_le _) ?_ (fun E h' q => by cases q.1)
    rintro w g3 ⟨e3, H3, P3, d3, v3⟩
    cases e3
    have Hg3 := H3
    show AR _ _ _ _ _ _ _ 34 [(1, .int z1150), (0, .ref 0)] [] g3 _ _
    have he : ∀ k, k < 24 → (fun k => (1) * hy_z g2 4 k) k = (fun k => (1) * q_A (fun _ => 0) ts k) k := fun k hk => by show (1) * hy_z g2 4 k = (1) * q_A (fun _ => 0) ts k; rw [v2 k hk]
    rw [d2, sd_c he 24 (by decide)] at d3
    have v4 : ∀ k, k < 24 → hy_z g3 9 k = ft (fun k => (1) * q_A (fun _ => 0) ts k) 24 k := fun k hk => (v3 k hk).trans (ft_c he hk)
    have eb : ∀ k, k < 24 → -1000 ≤ (fun k => (1) * q_A (fun _ => 0) ts k) k ∧ (fun k => (1) * q_A (fun _ => 0) ts k) k ≤ 1000 := fun k hk => by have := hA k hk; show -1000 ≤ (1) * q_A (fun _ => 0) ts k ∧ (1) * q_A (fun _ => 0) ts k ≤ 1000; omega
    have sb := sd_bd (b := (1) * d) eb 24 (by decide)
    have fb := fun k (hk : k < 24) => ft_bd eb 24 hk
    have hI3 := hI2.go P3 (by decide) (by decide) (by decide)
    have hC3 := hC2.go P3 (by decide)
    show AR _ _ _ _ _ _ _ 34 [(1, .int z1150), (0, .ref 0)] [] g3 _ _
    refine AR.s (pc' := 35) (lv' := [(1, .int z1150), (0, .ref 0)]) (st' := [.ref 0]) (h' := g3) _ hn_73 hk_73_34 rfl ?_
    obtain ⟨v1153, cv1153⟩ := p_cell Hg3 (q := 0) (by decide) (by decide +kernel : (ty_tab 0).1 = 8)
    refine AR.jr (r := 0) (as := []) (rest := []) hk_73_35 (by decide) (by decide +kernel) (by decide) cv1153 rfl rfl (Nat.le_of_ble_eq_true rfl) (p_120 hlst Hg3 hI3 hC3 (fun k hk => by rw [v4 k hk]; have := fb k hk; omega) (by rw [d3]; omega)) (by decide) (Nat.zero_le _) (Nat.zero_le _) ?_ (fun E h' q => by obtain ⟨-, -, _, e, -⟩ := q; cases e)
    rintro w g4 ⟨H4, P4, z8, er, c, hc, hz8⟩
    cases er
    have Hg4 := H4
    show AR _ _ _ _ _ _ _ 38 [(1, .int z1150), (0, .ref 0)] [.int z8] g4 _ _
    have Q4 : pf [0, 1, 3, 4, 8, 9, 10, 11, 13, 14] h g4 := pf.tr (pf.tr (pf.tr (pf_r _ h) Q2 (by simp)) P3 (by simp)) P4 (by simp)
    have en := nd_c (f := hy_z g3 9) (d := hy_z g3 8 1) v4 12 (by decide)
    rw [d3] at en
    rw [d3, en] at hz8
    have wr : ∀ w, hw g3 148 w = hw h 148 w := fun w => (P3.w (by decide) w).trans (Q2.w (by decide) w)
    have fin : ∀ z : Int32, z.toInt = z8.toInt → pq_73 h (ft (fun k => (1) * q_A (fun _ => 0) ts k) 24) (sd (fun k => (1) * q_A (fun _ => 0) ts k) ((1) * d) 24) (.inl (some (.int z))) g4 := fun z ez => ⟨H4, Q4, fun j hj => by rw [P4.z (by decide), P3.z (by decide)]; exact z7 j hj, by rw [P4.z (by decide), P3.z (by decide)]; exact t2, z, rfl, c, fun k hk => (hc k hk).trans (nf_c v4 hk), by
      rcases hz8 with ⟨a, b⟩ | ⟨a, w, k, hw0, hk, b1, b2⟩
      · exact Or.inl ⟨by omega, fun w hw0 k hk e => b w hw0 k hk (by rw [wr]; exact e)⟩
      · exact Or.inr ⟨by omega, w, k, hw0, hk, by rw [← wr]; exact b1, b2⟩⟩
    have z01 : z8.toInt = 0 ∨ z8.toInt = 1 := by rcases hz8 with ⟨a, -⟩ | ⟨a, -⟩; exact Or.inr a; exact Or.inl a
    show AR _ _ _ _ _ _ _ 38 [(1, .int z1150), (0, .ref 0)] [.int z8] g4 _ _
    refine AR.s (pc' := 39) (lv' := [(1, .int z8), (0, .ref 0)]) (st' := []) (h' := g4) _ hn_73 hk_73_38 rfl ?_
    refine AR.s (pc' := 40) (lv' := [(1, .int z8), (0, .ref 0)]) (st' := [.int z8]) (h' := g4) _ hn_73 hk_73_39 rfl ?_
    refine AR.zeq hk_73_40 (tgt := 69) (by decide) (fun r1 => ?_) (fun r9 => ?_)
    · refine AR.s (pc' := 70) (lv' := [(1, .int z8), (0, .ref 0)]) (st' := [.int z8]) (h' := g4) _ hn_73 hk_73_69 rfl ?_
      exact AR.zret hk_73_70 hr_73 z01 (fin _ rfl)
    · have r4 : hy_z g4 3 7 = 7 := by rw [P4.z (by decide), P3.z (by decide)]; exact r2
      refine AR.s (pc' := 44) (lv' := [(1, .int z8), (0, .ref 0)]) (st' := [.ref 0]) (h' := g4) _ hn_73 hk_73_43 rfl ?_
      refine AR.gR hk_73_44 (by decide) Hg4 (q := 0) (n := 18) (by decide) (by decide +kernel) (by decide +kernel) (by decide) hy_t0_1 ?_
      show AR _ _ _ _ _ _ _ 47 [(1, .int z8), (0, .ref 0)] [.ref 3] g4 _ _
      obtain ⟨vc1154, cc1154⟩ := q_c3 Hg4
      refine AR.jr (r := 3) (as := []) (rest := []) hk_73_47 (by decide) (by decide +kernel) (by decide) cc1154 rfl rfl (Nat.le_of_ble_eq_true rfl) (q_51 hlst Hg4) (by decide) (Nat.zero_le _) (Nat.zero_le _) ?_ (fun E h' q => by obtain ⟨-, _, e, -⟩ := q; cases e)
      rintro w g9 ⟨eg, z, er, hz, hz2⟩
      cases er
      obtain rfl := eg.symm
      show AR _ _ _ _ _ _ _ 50 [(1, .int z8), (0, .ref 0)] [.int z] g4 _ _
      refine AR.zeq hk_73_50 (tgt := 69) (by decide) (fun x1 => ?_) (fun x2 => ?_)
      · refine AR.s (pc' := 70) (lv' := [(1, .int z8), (0, .ref 0)]) (st' := [.int z8]) (h' := g4) _ hn_73 hk_73_69 rfl ?_
        exact AR.zret hk_73_70 hr_73 z01 (fin _ rfl)
      · exact absurd x2 (by omega)
theorem q_71 (hlst : l.stackTraces = false) (hH : hy_H 0 h) (x0 : 0 ≤ x.toInt) (x1 : x.toInt ≤ hy_z h 1 1) : AM ax_ns l (ax_mm 71) 1 ty_R (0) (0) [.ref 0, .int x] h (fun res g => hy_H 0 g ∧ pf [1] h g ∧ hy_z g 1 1 = x.toInt ∧ ∃ z : Int32, res = .inl (some (.int z))) := by
  refine AM.of (ax_mfacts (by decide +kernel : ax_has 71 = true)).2.2.2.2.2.2 hlst (by rw [hn_71]; exact Nat.le_of_ble_eq_true rfl) ?_
  show AR ax_ns l (ax_mm 71) 1 ty_R _ _ 0 [(0, .ref 0), (1, .int x)] [] h (0) (0)
  have F : ty_F pW h h := ty_F_refl _ _
  have P0 : pf [1] h h := pf_r _ _
  have x200 : hy_z h 1 1 ≤ 200 := by
    obtain ⟨i, e1, e2, e3⟩ := hy_int hH (q := 1) (n := 2) (j := 1) (a := 0) (z := 200) (by decide) (by decide +kernel) (by decide) (by decide +kernel)
    rw [hy_zi e1]
    exact e3
  show AR _ _ _ _ _ _ _ 0 [(0, .ref 0), (1, .int x)] [] h _ _
  refine AR.s (pc' := 1) (lv' := [(0, .ref 0), (1, .int x)]) (st' := [.int x]) (h' := h) _ hn_71 hk_71_0 rfl ?_
  refine AR.zlt hk_71_1 (tgt := 15) (by decide) (fun p1 => ?_) (fun p2 => ?_)
  · exact absurd p1 (by omega)
  · refine AR.s (pc' := 5) (lv' := [(0, .ref 0), (1, .int x)]) (st' := [.int x]) (h' := h) _ hn_71 hk_71_4 rfl ?_
    refine AR.s (pc' := 6) (lv' := [(0, .ref 0), (1, .int x)]) (st' := [.ref 0, .int x]) (h' := h) _ hn_71 hk_71_5 rfl ?_
    refine AR.gR hk_71_6 (by decide) hH (q := 0) (n := 18) (by decide) (by decide +kernel) (by decide +kernel) (by decide) hy_t0_0 ?_
    show AR _ _ _ _ _ _ _ 9 [(0, .ref 0), (1, .int x)] [.ref 1, .int x] h _ _
    refine AR.gI hk_71_9 (by decide) hH (q := 1) (n := 2) (by decide) (by decide +kernel) (by decide +kernel) (by decide) hy_t1_1 (fun x1155 dx1155 lx1155 ux1155 => ?_)
    show AR _ _ _ _ _ _ _ 12 [(0, .ref 0), (1, .int x)] [.int x1155, .int x] h _ _
    have sx1155 := hy_zi dx1155
    refine AR.jle hk_71_12 (tgt := 25) (by decide) (fun q1 => ?_) (fun q2 => ?_)
    · refine AR.s (pc' := 26) (lv' := [(0, .ref 0), (1, .int x)]) (st' := [.ref 0]) (h' := h) _ hn_71 hk_71_25 rfl ?_
      refine AR.gR hk_71_26 (by decide) hH (q := 0) (n := 18) (by decide) (by decide +kernel) (by decide +kernel) (by decide) hy_t0_0 ?_
      show AR _ _ _ _ _ _ _ 29 [(0, .ref 0), (1, .int x)] [.ref 1] h _ _
      refine AR.s (pc' := 30) (lv' := [(0, .ref 0), (1, .int x)]) (st' := [.int x, .ref 1]) (h' := h) _ hn_71 hk_71_29 rfl ?_
      refine AR.pT hk_71_30 (by decide) hH F (q := 1) (by decide) (by decide +kernel) (show ax_cls[7]? = some hy_c7 from rfl) (by decide +kernel) (by decide) rfl (by rw [hy_t1_1]; exact ⟨_, rfl, by omega, by omega, Or.inl rfl⟩) (by decide +kernel) (by decide +kernel) ?_
      rintro g1156 ⟨Hg1156, Fg1156, Gg1156, Eg1156⟩
      show AR _ _ _ _ _ _ _ 33 [(0, .ref 0), (1, .int x)] [] g1156 _ _
      have pg1156 : pf [1] h g1156 := pf_st P0 Gg1156.1 Eg1156 (by simp)
      refine AR.s (pc' := 34) (lv' := [(0, .ref 0), (1, .int x)]) (st' := [.int x]) (h' := g1156) _ hn_71 hk_71_33 rfl ?_
      have z1 := hf_put Eg1156 1
      rw [if_pos rfl] at z1
      exact AR.iret hk_71_34 hr_71 ⟨Hg1156, pg1156, z1, _, rfl⟩
    · exact absurd q2 (by omega)
def by4 (x : Int32) (s : Nat) : Int := ((x >>> (Int32.ofNat s &&& 31)) &&& 255).toInt
theorem by_rg (y : Int32) : 0 ≤ (y &&& 255).toInt ∧ (y &&& 255).toInt ≤ 255 := by
  have h1 : (y &&& 255).toBitVec.toNat ≤ 255 := by
    rw [Int32.toBitVec_and, BitVec.toNat_and]
    exact Nat.and_le_right
  have h2 : (y &&& 255).toInt = ((y &&& 255).toBitVec.toNat : Int) := by
    show (y &&& 255).toBitVec.toInt = _
    rw [BitVec.toInt_eq_toNat_bmod]
    exact Int.bmod_eq_of_le (by show -_ ≤ ((y &&& 255).toBitVec.toNat : Int); omega) (by show ((y &&& 255).toBitVec.toNat : Int) < _; omega)
  omega
theorem by_eq {x s m : Int32} {n : Nat} (hs : s.toInt = n) (hn : n < 32) (hm : m.toInt = 255) : ((x >>> (s &&& 31)) &&& m).toInt = by4 x n := by
  rw [p_of hs (by omega), show m = 255 from Int32.toInt_inj.mp (hm.trans (by decide))]
  rfl
def fbn (f : Nat → Int) (L : Nat) (x : Int32) : Nat → Nat → Int
  | 0 => f
  | j + 1 => fun k => if k = L + j then by4 x (24 - 8 * j) else fbn f L x j k
def pq_67 (h : ax_H) (L : Nat) (x : Int32) : ax_Q := fun res g => res = .inl none ∧ hy_H 0 g ∧ pf [1, 2] h g ∧ hy_z g 1 1 = L + 4 ∧ ∀ k, hy_z g 2 k = fbn (hy_z h 2) L x 4 k
theorem q67_L (hlst : l.stackTraces = false) {X : ax_PX} {L : Nat} (L4 : L + 4 ≤ 200) : ∀ (n j : Nat) (g : ax_H) (i : Int32), j + n = 4 → i.toInt = 24 - 8 * (j : Int) → hy_H 0 g → pf [1, 2] h g → hy_z g 1 1 = L + j → (∀ k, hy_z g 2 k = fbn (hy_z h 2) L x j k) → AR ax_ns l (ax_mm 67) 0 ty_R (ax_ret ax_ns (ax_mm 67) (pq_67 h L x)) X 3 [(2, .int i), (1, .int x), (0, .ref 1)] [] g 0 0 := by
  intro n
  induction n with
  | zero =>
    intro j g i hn hi Hg Pg hc hv
    have Fg : ty_F pW g g := ty_F_refl _ _
    show AR _ _ _ _ _ _ _ 3 [(2, .int i), (1, .int x), (0, .ref 1)] [] g _ _
    refine AR.s (pc' := 4) (lv' := [(2, .int i), (1, .int x), (0, .ref 1)]) (st' := [.int i]) (h' := g) _ hn_67 hk_67_3 rfl ?_
    refine AR.zlt hk_67_4 (tgt := 49) (by decide) (fun p1 => ?_) (fun p2 => ?_)
    · have j4 : j = 4 := by omega
      subst j4
      exact AR.vret hk_67_49 hr_67 ⟨rfl, Hg, Pg, by omega, hv⟩
    · exact absurd p2 (by omega)
  | succ n ih =>
    intro j g i hn hi Hg Pg hc hv
    have Fg : ty_F pW g g := ty_F_refl _ _
    show AR _ _ _ _ _ _ _ 3 [(2, .int i), (1, .int x), (0, .ref 1)] [] g _ _
    refine AR.s (pc' := 4) (lv' := [(2, .int i), (1, .int x), (0, .ref 1)]) (st' := [.int i]) (h' := g) _ hn_67 hk_67_3 rfl ?_
    refine AR.zlt hk_67_4 (tgt := 49) (by decide) (fun p1 => ?_) (fun p2 => ?_)
    · exact absurd p1 (by omega)
    · refine AR.s (pc' := 8) (lv' := [(2, .int i), (1, .int x), (0, .ref 1)]) (st' := [.ref 1]) (h' := g) _ hn_67 hk_67_7 rfl ?_
      refine AR.gI hk_67_8 (by decide) Hg (q := 1) (n := 2) (by decide) (by decide +kernel) (by decide +kernel) (by decide) hy_t1_1 (fun x1157 dx1157 lx1157 ux1157 => ?_)
      show AR _ _ _ _ _ _ _ 11 [(2, .int i), (1, .int x), (0, .ref 1)] [.int x1157] g _ _
      have sx1157 := hy_zi dx1157
      refine AR.sipushT hk_67_11 (by decide) (fun z1158 ez1158 => ?_)
      show AR _ _ _ _ _ _ _ 14 [(2, .int i), (1, .int x), (0, .ref 1)] [.int z1158, .int x1157] g _ _
      refine AR.jge hk_67_14 (tgt := 49) (by decide) (fun c1 => ?_) (fun d1 => ?_)
      · exact absurd c1 (by omega)
      · refine AR.s (pc' := 18) (lv' := [(2, .int i), (1, .int x), (0, .ref 1)]) (st' := [.ref 1]) (h' := g) _ hn_67 hk_67_17 rfl ?_
        refine AR.gR hk_67_18 (by decide) Hg (q := 1) (n := 2) (by decide) (by decide +kernel) (by decide +kernel) (by decide) hy_t1_0 ?_
        show AR _ _ _ _ _ _ _ 21 [(2, .int i), (1, .int x), (0, .ref 1)] [.ref 2] g _ _
        refine AR.s (pc' := 22) (lv' := [(2, .int i), (1, .int x), (0, .ref 1)]) (st' := [.ref 1, .ref 2]) (h' := g) _ hn_67 hk_67_21 rfl ?_
        refine AR.gI hk_67_22 (by decide) Hg (q := 1) (n := 2) (by decide) (by decide +kernel) (by decide +kernel) (by decide) hy_t1_1 (fun x1159 dx1159 lx1159 ux1159 => ?_)
        show AR _ _ _ _ _ _ _ 25 [(2, .int i), (1, .int x), (0, .ref 1)] [.int x1159, .ref 2] g _ _
        have sx1159 := hy_zi dx1159
        refine AR.s (pc' := 26) (lv' := [(2, .int i), (1, .int x), (0, .ref 1)]) (st' := [.int x, .int x1159, .ref 2]) (h' := g) _ hn_67 hk_67_25 rfl ?_
        refine AR.s (pc' := 27) (lv' := [(2, .int i), (1, .int x), (0, .ref 1)]) (st' := [.int i, .int x, .int x1159, .ref 2]) (h' := g) _ hn_67 hk_67_26 rfl ?_
        refine AR.ishr (z := .int (x >>> (i &&& 31))) (ax_look_ok hk_67_27).1 rfl ?_
        generalize gz1160 : x >>> (i &&& 31) = z1160
        show AR _ _ _ _ _ _ _ 28 [(2, .int i), (1, .int x), (0, .ref 1)] [.int z1160, .int x1159, .ref 2] g _ _
        refine AR.sipushT hk_67_28 (by decide) (fun z1161 ez1161 => ?_)
        show AR _ _ _ _ _ _ _ 31 [(2, .int i), (1, .int x), (0, .ref 1)] [.int z1161, .int z1160, .int x1159, .ref 2] g _ _
        refine AR.iand (z := .int (z1160 &&& z1161)) (ax_look_ok hk_67_31).1 rfl ?_
        generalize gz1162 : z1160 &&& z1161 = z1162
        show AR _ _ _ _ _ _ _ 32 [(2, .int i), (1, .int x), (0, .ref 1)] [.int z1162, .int x1159, .ref 2] g _ _
        have wj : z1162.toInt = by4 x (24 - 8 * j) := by rw [← gz1162, ← gz1160]; exact by_eq (by omega) (by omega) ez1161
        have rj : 0 ≤ z1162.toInt ∧ z1162.toInt ≤ 255 := by rw [← gz1162, show z1161 = 255 from Int32.toInt_inj.mp (ez1161.trans (by decide))]; exact by_rg _
        show AR _ _ _ _ _ _ _ 32 [(2, .int i), (1, .int x), (0, .ref 1)] [.int z1162, .int x1159, .ref 2] g _ _
        refine AR.isT hk_67_32 Hg Fg (q := 2) (n := 200) (by decide) (by decide +kernel) (by decide +kernel) (by decide +kernel) hy_t2_0 (by omega) (by omega) (by omega) (by omega) (by decide +kernel) ?_
        rintro g1163 ⟨Hg1163, Fg1163, Gg1163, Eg1163⟩
        show AR _ _ _ _ _ _ _ 33 [(2, .int i), (1, .int x), (0, .ref 1)] [] g1163 _ _
        have pg1163 : pf [1, 2] h g1163 := pf_st Pg Gg1163.1 Eg1163 (by simp)
        have y1 : ∀ k, hy_z g1163 2 k = if k = x1159.toInt.toNat then z1162.toInt else hy_z g 2 k := fun k => hi_put Eg1163 k
        have n1 : hy_z g1163 1 1 = hy_z g 1 1 := hy_ze (by rw [Eg1163, if_neg (fun c => absurd c.1 (by decide))])
        show AR _ _ _ _ _ _ _ 33 [(2, .int i), (1, .int x), (0, .ref 1)] [] g1163 _ _
        refine AR.s (pc' := 34) (lv' := [(2, .int i), (1, .int x), (0, .ref 1)]) (st' := [.ref 1]) (h' := g1163) _ hn_67 hk_67_33 rfl ?_
        refine AR.s (pc' := 35) (lv' := [(2, .int i), (1, .int x), (0, .ref 1)]) (st' := [.ref 1, .ref 1]) (h' := g1163) _ hn_67 hk_67_34 rfl ?_
        refine AR.gI hk_67_35 (by decide) Hg1163 (q := 1) (n := 2) (by decide) (by decide +kernel) (by decide +kernel) (by decide) hy_t1_1 (fun x1164 dx1164 lx1164 ux1164 => ?_)
        show AR _ _ _ _ _ _ _ 38 [(2, .int i), (1, .int x), (0, .ref 1)] [.int x1164, .ref 1] g1163 _ _
        have sx1164 := hy_zi dx1164
        refine AR.iconstT hk_67_38 (by decide) (fun z1165 ez1165 => ?_)
        show AR _ _ _ _ _ _ _ 39 [(2, .int i), (1, .int x), (0, .ref 1)] [.int z1165, .int x1164, .ref 1] g1163 _ _
        refine AR.addT hk_67_39 (by omega) (by omega) (fun z1166 ez1166 => ?_)
        show AR _ _ _ _ _ _ _ 40 [(2, .int i), (1, .int x), (0, .ref 1)] [.int z1166, .ref 1] g1163 _ _
        refine AR.pT hk_67_40 (by decide) Hg1163 Fg1163 (q := 1) (by decide) (by decide +kernel) (show ax_cls[7]? = some hy_c7 from rfl) (by decide +kernel) (by decide) rfl (by rw [hy_t1_1]; exact ⟨_, rfl, by omega, by omega, Or.inl rfl⟩) (by decide +kernel) (by decide +kernel) ?_
        rintro g1167 ⟨Hg1167, Fg1167, Gg1167, Eg1167⟩
        show AR _ _ _ _ _ _ _ 43 [(2, .int i), (1, .int x), (0, .ref 1)] [] g1167 _ _
        have pg1167 : pf [1, 2] h g1167 := pf_st pg1163 Gg1167.1 Eg1167 (by simp)
        have m1 : hy_z g1167 1 1 = z1166.toInt := (hf_put Eg1167 1).trans (if_pos rfl)
        have o1 : ∀ k, hy_z g1167 2 k = hy_z g1163 2 k := fun k => hy_ze (by rw [Eg1167, if_neg (fun c => absurd c.1 (by decide))])
        have i1 : x1159.toInt.toNat = L + j := by omega
        show AR _ _ _ _ _ _ _ 43 [(2, .int i), (1, .int x), (0, .ref 1)] [] g1167 _ _
        refine AR.iincT hk_67_43 (x := i) rfl (by rw [hn_67]; decide) (by decide) (by omega) (by omega) (fun z1168 ez1168 => ?_)
        show AR _ _ _ _ _ _ _ 46 [(2, .int z1168), (1, .int x), (0, .ref 1)] [] g1167 _ _
        refine AR.gotoT hk_67_46 (tgt := 3) (by decide) ?_
        refine AR.lessL (lv' := [(2, .int z1168), (1, .int x), (0, .ref 1)]) (List.forall_mem_cons.mpr ⟨⟨_, by simp, ax_le_rfl rfl⟩, (List.forall_mem_cons.mpr ⟨⟨_, by simp, ax_le_rfl rfl⟩, (List.forall_mem_cons.mpr ⟨⟨_, by simp, ax_le_rfl rfl⟩, (fun _ h => absurd h List.not_mem_nil)⟩)⟩)⟩) ?_
        refine ih (j + 1) g1167 z1168 (by omega) (by omega) Hg1167 pg1167 (by omega) (fun k => ?_)
        rw [o1, y1, i1, wj, hv]
        rfl
theorem q_67 (hlst : l.stackTraces = false) {L : Nat} (hH : hy_H 0 h) (hL : hy_z h 1 1 = L) (L4 : L + 4 ≤ 200) : AM ax_ns l (ax_mm 67) 0 ty_R (0) (0) [.ref 1, .int x] h (pq_67 h L x) := by
  refine AM.of (ax_mfacts (by decide +kernel : ax_has 67 = true)).2.2.2.2.2.2 hlst (by rw [hn_67]; exact Nat.le_of_ble_eq_true rfl) ?_
  show AR ax_ns l (ax_mm 67) 0 ty_R _ _ 0 [(0, .ref 1), (1, .int x)] [] h (0) (0)
  refine AR.bipushT hk_67_0 (by decide) (fun z1169 ez1169 => ?_)
  show AR _ _ _ _ _ _ _ 2 [(0, .ref 1), (1, .int x)] [.int z1169] h _ _
  refine AR.s (pc' := 3) (lv' := [(2, .int z1169), (0, .ref 1), (1, .int x)]) (st' := []) (h' := h) _ hn_67 hk_67_2 rfl ?_
  refine AR.lessL (lv' := [(2, .int z1169), (1, .int x), (0, .ref 1)]) (List.forall_mem_cons.mpr ⟨⟨_, by simp, ax_le_rfl rfl⟩, (List.forall_mem_cons.mpr ⟨⟨_, by simp, ax_le_rfl rfl⟩, (List.forall_mem_cons.mpr ⟨⟨_, by simp, ax_le_rfl rfl⟩, (fun _ h => absurd h List.not_mem_nil)⟩)⟩)⟩) ?_
  exact q67_L hlst L4 4 0 h z1169 (by omega) (by omega) hH (pf_r _ _) (by omega) (fun _ => rfl)
def pq_70 (h : ax_H) (L : Nat) (x1 x2 x3 x4 x5 : Int32) : ax_Q := fun res g => hy_H 0 g ∧ pf [1, 2] h g ∧ hy_z g 1 1 = L + 20 ∧ (∀ k, hy_z g 2 k = fbn (fbn (fbn (fbn (fbn (hy_z h 2) L x1 4) (L + 4) x2 4) (L + 8) x3 4) (L + 12) x4 4) (L + 16) x5 4 k) ∧ ∃ z : Int32, res = .inl (some (.int z))
theorem q_70 (hlst : l.stackTraces = false) {L : Nat} {x1 x2 x3 x4 x5 : Int32} (hH : hy_H 0 h) (hL : hy_z h 1 1 = L) (L4 : L + 20 ≤ 200) : AM ax_ns l (ax_mm 70) 1 ty_R (0) (0) [.ref 0, .int x1, .int x2, .int x3, .int x4, .int x5] h (pq_70 h L x1 x2 x3 x4 x5) := by
  refine AM.of (ax_mfacts (by decide +kernel : ax_has 70 = true)).2.2.2.2.2.2 hlst (by rw [hn_70]; exact Nat.le_of_ble_eq_true rfl) ?_
  show AR ax_ns l (ax_mm 70) 1 ty_R _ _ 0 [(0, .ref 0), (1, .int x1), (2, .int x2), (3, .int x3), (4, .int x4), (5, .int x5)] [] h (0) (0)
  refine AR.s (pc' := 1) (lv' := [(0, .ref 0), (1, .int x1), (2, .int x2), (3, .int x3), (4, .int x4), (5, .int x5)]) (st' := [.ref 0]) (h' := h) _ hn_70 hk_70_0 rfl ?_
  refine AR.gR hk_70_1 (by decide) hH (q := 0) (n := 18) (by decide) (by decide +kernel) (by decide +kernel) (by decide) hy_t0_0 ?_
  show AR _ _ _ _ _ _ _ 4 [(0, .ref 0), (1, .int x1), (2, .int x2), (3, .int x3), (4, .int x4), (5, .int x5)] [.ref 1] h _ _
  refine AR.gI hk_70_4 (by decide) hH (q := 1) (n := 2) (by decide) (by decide +kernel) (by decide +kernel) (by decide) hy_t1_1 (fun x1170 dx1170 lx1170 ux1170 => ?_)
  show AR _ _ _ _ _ _ _ 7 [(0, .ref 0), (1, .int x1), (2, .int x2), (3, .int x3), (4, .int x4), (5, .int x5)] [.int x1170] h _ _
  have sx1170 := hy_zi dx1170
  refine AR.bipushT hk_70_7 (by decide) (fun z1171 ez1171 => ?_)
  show AR _ _ _ _ _ _ _ 9 [(0, .ref 0), (1, .int x1), (2, .int x2), (3, .int x3), (4, .int x4), (5, .int x5)] [.int z1171, .int x1170] h _ _
  refine AR.addT hk_70_9 (by omega) (by omega) (fun z1172 ez1172 => ?_)
  show AR _ _ _ _ _ _ _ 10 [(0, .ref 0), (1, .int x1), (2, .int x2), (3, .int x3), (4, .int x4), (5, .int x5)] [.int z1172] h _ _
  refine AR.sipushT hk_70_10 (by decide) (fun z1173 ez1173 => ?_)
  show AR _ _ _ _ _ _ _ 13 [(0, .ref 0), (1, .int x1), (2, .int x2), (3, .int x3), (4, .int x4), (5, .int x5)] [.int z1173, .int z1172] h _ _
  refine AR.jle hk_70_13 (tgt := 26) (by decide) (fun p1 => ?_) (fun p2 => ?_)
  · refine AR.s (pc' := 27) (lv' := [(0, .ref 0), (1, .int x1), (2, .int x2), (3, .int x3), (4, .int x4), (5, .int x5)]) (st' := [.ref 0]) (h' := h) _ hn_70 hk_70_26 rfl ?_
    refine AR.gR hk_70_27 (by decide) hH (q := 0) (n := 18) (by decide) (by decide +kernel) (by decide +kernel) (by decide) hy_t0_0 ?_
    show AR _ _ _ _ _ _ _ 30 [(0, .ref 0), (1, .int x1), (2, .int x2), (3, .int x3), (4, .int x4), (5, .int x5)] [.ref 1] h _ _
    refine AR.s (pc' := 31) (lv' := [(0, .ref 0), (1, .int x1), (2, .int x2), (3, .int x3), (4, .int x4), (5, .int x5)]) (st' := [.int x1, .ref 1]) (h' := h) _ hn_70 hk_70_30 rfl ?_
    obtain ⟨vc1174, cc1174⟩ := q_c1 hH
    refine AR.jr (r := 1) (as := [.int x1]) (rest := []) hk_70_31 (by decide) (by decide +kernel) (by decide) cc1174 rfl rfl (Nat.le_of_ble_eq_true rfl) (q_67 hlst (L := L) hH (by omega) (by omega)) (by decide) (Nat.zero_le _) (Nat.zero_le _) ?_ (fun E h' q => by cases q.1)
    rintro w g1 ⟨e, Hg1, Tg1, ng1, vg1⟩
    cases e
    skip
    show AR _ _ _ _ _ _ _ 34 [(0, .ref 0), (1, .int x1), (2, .int x2), (3, .int x3), (4, .int x4), (5, .int x5)] [] g1 _ _
    refine AR.s (pc' := 35) (lv' := [(0, .ref 0), (1, .int x1), (2, .int x2), (3, .int x3), (4, .int x4), (5, .int x5)]) (st' := [.ref 0]) (h' := g1) _ hn_70 hk_70_34 rfl ?_
    refine AR.gR hk_70_35 (by decide) Hg1 (q := 0) (n := 18) (by decide) (by decide +kernel) (by decide +kernel) (by decide) hy_t0_0 ?_
    show AR _ _ _ _ _ _ _ 38 [(0, .ref 0), (1, .int x1), (2, .int x2), (3, .int x3), (4, .int x4), (5, .int x5)] [.ref 1] g1 _ _
    refine AR.s (pc' := 39) (lv' := [(0, .ref 0), (1, .int x1), (2, .int x2), (3, .int x3), (4, .int x4), (5, .int x5)]) (st' := [.int x2, .ref 1]) (h' := g1) _ hn_70 hk_70_38 rfl ?_
    obtain ⟨vc1175, cc1175⟩ := q_c1 Hg1
    refine AR.jr (r := 1) (as := [.int x2]) (rest := []) hk_70_39 (by decide) (by decide +kernel) (by decide) cc1175 rfl rfl (Nat.le_of_ble_eq_true rfl) (q_67 hlst (L := (L + 4)) Hg1 (by omega) (by omega)) (by decide) (Nat.zero_le _) (Nat.zero_le _) ?_ (fun E h' q => by cases q.1)
    rintro w g2 ⟨e, Hg2, Tg2, ng2, vg2⟩
    cases e
    skip
    show AR _ _ _ _ _ _ _ 42 [(0, .ref 0), (1, .int x1), (2, .int x2), (3, .int x3), (4, .int x4), (5, .int x5)] [] g2 _ _
    refine AR.s (pc' := 43) (lv' := [(0, .ref 0), (1, .int x1), (2, .int x2), (3, .int x3), (4, .int x4), (5, .int x5)]) (st' := [.ref 0]) (h' := g2) _ hn_70 hk_70_42 rfl ?_
    refine AR.gR hk_70_43 (by decide) Hg2 (q := 0) (n := 18) (by decide) (by decide +kernel) (by decide +kernel) (by decide) hy_t0_0 ?_
    show AR _ _ _ _ _ _ _ 46 [(0, .ref 0), (1, .int x1), (2, .int x2), (3, .int x3), (4, .int x4), (5, .int x5)] [.ref 1] g2 _ _
    refine AR.s (pc' := 47) (lv' := [(0, .ref 0), (1, .int x1), (2, .int x2), (3, .int x3), (4, .int x4), (5, .int x5)]) (st' := [.int x3, .ref 1]) (h' := g2) _ hn_70 hk_70_46 rfl ?_
    obtain ⟨vc1176, cc1176⟩ := q_c1 Hg2
    refine AR.jr (r := 1) (as := [.int x3]) (rest := []) hk_70_47 (by decide) (by decide +kernel) (by decide) cc1176 rfl rfl (Nat.le_of_ble_eq_true rfl) (q_67 hlst (L := (L + 8)) Hg2 (by omega) (by omega)) (by decide) (Nat.zero_le _) (Nat.zero_le _) ?_ (fun E h' q => by cases q.1)
    rintro w g3 ⟨e, Hg3, Tg3, ng3, vg3⟩
    cases e
    skip
    show AR _ _ _ _ _ _ _ 50 [(0, .ref 0), (1, .int x1), (2, .int x2), (3, .int x3), (4, .int x4), (5, .int x5)] [] g3 _ _
    refine AR.s (pc' := 51) (lv' := [(0, .ref 0), (1, .int x1), (2, .int x2), (3, .int x3), (4, .int x4), (5, .int x5)]) (st' := [.ref 0]) (h' := g3) _ hn_70 hk_70_50 rfl ?_
    refine AR.gR hk_70_51 (by decide) Hg3 (q := 0) (n := 18) (by decide) (by decide +kernel) (by decide +kernel) (by decide) hy_t0_0 ?_
    show AR _ _ _ _ _ _ _ 54 [(0, .ref 0), (1, .int x1), (2, .int x2), (3, .int x3), (4, .int x4), (5, .int x5)] [.ref 1] g3 _ _
    refine AR.s (pc' := 56) (lv' := [(0, .ref 0), (1, .int x1), (2, .int x2), (3, .int x3), (4, .int x4), (5, .int x5)]) (st' := [.int x4, .ref 1]) (h' := g3) _ hn_70 hk_70_54 rfl ?_
    obtain ⟨vc1177, cc1177⟩ := q_c1 Hg3
    refine AR.jr (r := 1) (as := [.int x4]) (rest := []) hk_70_56 (by decide) (by decide +kernel) (by decide) cc1177 rfl rfl (Nat.le_of_ble_eq_true rfl) (q_67 hlst (L := (L + 12)) Hg3 (by omega) (by omega)) (by decide) (Nat.zero_le _) (Nat.zero_le _) ?_ (fun E h' q => by cases q.1)
    rintro w g4 ⟨e, Hg4, Tg4, ng4, vg4⟩
    cases e
    skip
    show AR _ _ _ _ _ _ _ 59 [(0, .ref 0), (1, .int x1), (2, .int x2), (3, .int x3), (4, .int x4), (5, .int x5)] [] g4 _ _
    refine AR.s (pc' := 60) (lv' := [(0, .ref 0), (1, .int x1), (2, .int x2), (3, .int x3), (4, .int x4), (5, .int x5)]) (st' := [.ref 0]) (h' := g4) _ hn_70 hk_70_59 rfl ?_
    refine AR.gR hk_70_60 (by decide) Hg4 (q := 0) (n := 18) (by decide) (by decide +kernel) (by decide +kernel) (by decide) hy_t0_0 ?_
    show AR _ _ _ _ _ _ _ 63 [(0, .ref 0), (1, .int x1), (2, .int x2), (3, .int x3), (4, .int x4), (5, .int x5)] [.ref 1] g4 _ _
    refine AR.s (pc' := 65) (lv' := [(0, .ref 0), (1, .int x1), (2, .int x2), (3, .int x3), (4, .int x4), (5, .int x5)]) (st' := [.int x5, .ref 1]) (h' := g4) _ hn_70 hk_70_63 rfl ?_
    obtain ⟨vc1178, cc1178⟩ := q_c1 Hg4
    refine AR.jr (r := 1) (as := [.int x5]) (rest := []) hk_70_65 (by decide) (by decide +kernel) (by decide) cc1178 rfl rfl (Nat.le_of_ble_eq_true rfl) (q_67 hlst (L := (L + 16)) Hg4 (by omega) (by omega)) (by decide) (Nat.zero_le _) (Nat.zero_le _) ?_ (fun E h' q => by cases q.1)
    rintro w g5 ⟨e, Hg5, Tg5, ng5, vg5⟩
    cases e
    skip
    show AR _ _ _ _ _ _ _ 68 [(0, .ref 0), (1, .int x1), (2, .int x2), (3, .int x3), (4, .int x4), (5, .int x5)] [] g5 _ _
    refine AR.s (pc' := 69) (lv' := [(0, .ref 0), (1, .int x1), (2, .int x2), (3, .int x3), (4, .int x4), (5, .int x5)]) (st' := [.ref 0]) (h' := g5) _ hn_70 hk_70_68 rfl ?_
    refine AR.gR hk_70_69 (by decide) Hg5 (q := 0) (n := 18) (by decide) (by decide +kernel) (by decide +kernel) (by decide) hy_t0_0 ?_
    show AR _ _ _ _ _ _ _ 72 [(0, .ref 0), (1, .int x1), (2, .int x2), (3, .int x3), (4, .int x4), (5, .int x5)] [.ref 1] g5 _ _
    refine AR.gI hk_70_72 (by decide) Hg5 (q := 1) (n := 2) (by decide) (by decide +kernel) (by decide +kernel) (by decide) hy_t1_1 (fun x1179 dx1179 lx1179 ux1179 => ?_)
    show AR _ _ _ _ _ _ _ 75 [(0, .ref 0), (1, .int x1), (2, .int x2), (3, .int x3), (4, .int x4), (5, .int x5)] [.int x1179] g5 _ _
    have sx1179 := hy_zi dx1179
    have f1 : hy_z g1 2 = _ := funext vg1
    have f2 : hy_z g2 2 = _ := funext vg2
    have f3 : hy_z g3 2 = _ := funext vg3
    have f4 : hy_z g4 2 = _ := funext vg4
    rw [f1] at f2
    rw [f2] at f3
    rw [f3] at f4
    rw [f4] at vg5
    exact AR.iret hk_70_75 hr_70 ⟨Hg5, pf.tr (pf.tr (pf.tr (pf.tr (pf.tr (pf_r _ h) Tg1 (fun _ q => q)) Tg2 (fun _ q => q)) Tg3 (fun _ q => q)) Tg4 (fun _ q => q)) Tg5 (fun _ q => q), by omega, vg5, _, rfl⟩
  · exact absurd p2 (by omega)
end PG
