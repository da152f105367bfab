/-! the linked code: all of it -/
theorem ax_e285 : ax_All (fun pc e => ax_okb ax_q285 pc e = true) ax_t285 := by
  unfold ax_t285
  exact (ax_All.c2 (P := fun pc e => ax_okb ax_q285 pc e = true) ax_lr0 (ax_All.c2 (P := fun pc e => ax_okb ax_q285 pc e = true) ax_lr1 (ax_All.c2 (P := fun pc e => ax_okb ax_q285 pc e = true) ax_lr2 (ax_All.c2 (P := fun pc e => ax_okb ax_q285 pc e = true) ax_lr3 (ax_All.c2 (P := fun pc e => ax_okb ax_q285 pc e = true) ax_lr4 (ax_All.c2 (P := fun pc e => ax_okb ax_q285 pc e = true) ax_lr5 (ax_All.c2 (P := fun pc e => ax_okb ax_q285 pc e = true) ax_lr6 (ax_All.c2 (P := fun pc e => ax_okb ax_q285 pc e = true) ax_lr7 (ax_All.c2 (P := fun pc e => ax_okb ax_q285 pc e = true) ax_lr8 (ax_All.c2 (P := fun pc e => ax_okb ax_q285 pc e = true) ax_lr9 (ax_All.c2 (P := fun pc e => ax_okb ax_q285 pc e = true) ax_lr10 (ax_All.c2 (P := fun pc e => ax_okb ax_q285 pc e = true) ax_lr11 (ax_All.c2 (P := fun pc e => ax_okb ax_q285 pc e = true) ax_lr12 (ax_All.c2 (P := fun pc e => ax_okb ax_q285 pc e = true) ax_lr13 (ax_All.c2 (P := fun pc e => ax_okb ax_q285 pc e = true) ax_lr14 (ax_All.c2 (P := fun pc e => ax_okb ax_q285 pc e = true) ax_lr15 (ax_All.c2 (P := fun pc e => ax_okb ax_q285 pc e = true) ax_lr16 (ax_All.c2 (P := fun pc e => ax_okb ax_q285 pc e = true) ax_lr17 (ax_All.c2 (P := fun pc e => ax_okb ax_q285 pc e = true) ax_lr18 (ax_All.c2 (P := fun pc e => ax_okb ax_q285 pc e = true) ax_lr19 (ax_All.c2 (P := fun pc e => ax_okb ax_q285 pc e = true) ax_lr20 (ax_All.c2 (P := fun pc e => ax_okb ax_q285 pc e = true) ax_lr21 ax_All.n2))))))))))))))))))))))
def ax_PT (i : Nat) (q : ax_E3) : Prop := ax_All (fun pc e => ax_okb q.1 pc e = true) q.2.1 ∧ (Nat.blt i 285 = true → ax_mkb q.1 q.2.2 = true)
theorem ax_row {i : Nat} {q : ax_M} {t : List (Nat × List (Nat × ax_E2))} {w : Nat × Nat × Bool × Nat} (h1 : ax_All (fun pc e => ax_okb q pc e = true) t) (h2 : Nat.blt i 285 = true → ax_mkb q w = true) : ax_PT i (q, t, w) := ⟨h1, h2⟩
set_option maxRecDepth 100000 in
theorem ax_ch0 : ∀ z ∈ ax_tt_0, ax_PT z.1 z.2 := by
  unfold ax_tt_0
  exact (ax_All.c1 (P := ax_PT) (ax_row ax_e0 (fun _ => ax_mg0)) (ax_All.c1 (P := ax_PT) (ax_row ax_e1 (fun _ => ax_mg1)) (ax_All.c1 (P := ax_PT) (ax_row ax_e2 (fun _ => ax_mg2)) (ax_All.c1 (P := ax_PT) (ax_row ax_e3 (fun _ => ax_mg3)) (ax_All.c1 (P := ax_PT) (ax_row ax_e4 (fun _ => ax_mg4)) (ax_All.c1 (P := ax_PT) (ax_row ax_e5 (fun _ => ax_mg5)) (ax_All.c1 (P := ax_PT) (ax_row ax_e6 (fun _ => ax_mg6)) (ax_All.c1 (P := ax_PT) (ax_row ax_e7 (fun _ => ax_mg7)) (ax_All.c1 (P := ax_PT) (ax_row ax_e8 (fun _ => ax_mg8)) (ax_All.c1 (P := ax_PT) (ax_row ax_e9 (fun _ => ax_mg9)) (ax_All.c1 (P := ax_PT) (ax_row ax_e10 (fun _ => ax_mg10)) (ax_All.c1 (P := ax_PT) (ax_row ax_e11 (fun _ => ax_mg11)) (ax_All.c1 (P := ax_PT) (ax_row ax_e12 (fun _ => ax_mg12)) (ax_All.c1 (P := ax_PT) (ax_row ax_e13 (fun _ => ax_mg13)) (ax_All.c1 (P := ax_PT) (ax_row ax_e14 (fun _ => ax_mg14)) (ax_All.c1 (P := ax_PT) (ax_row ax_e15 (fun _ => ax_mg15)) (ax_All.c1 (P := ax_PT) (ax_row ax_e16 (fun _ => ax_mg16)) (ax_All.n1 (P := ax_PT)))))))))))))))))))
set_option maxRecDepth 100000 in
theorem ax_ch1 : ∀ z ∈ ax_tt_1, ax_PT z.1 z.2 := by
  unfold ax_tt_1
  exact (ax_All.c1 (P := ax_PT) (ax_row ax_e17 (fun _ => ax_mg17)) (ax_All.c1 (P := ax_PT) (ax_row ax_e18 (fun _ => ax_mg18)) (ax_All.c1 (P := ax_PT) (ax_row ax_e19 (fun _ => ax_mg19)) (ax_All.c1 (P := ax_PT) (ax_row ax_e20 (fun _ => ax_mg20)) (ax_All.c1 (P := ax_PT) (ax_row ax_e21 (fun _ => ax_mg21)) (ax_All.c1 (P := ax_PT) (ax_row ax_e22 (fun _ => ax_mg22)) (ax_All.c1 (P := ax_PT) (ax_row ax_e23 (fun _ => ax_mg23)) (ax_All.c1 (P := ax_PT) (ax_row ax_e24 (fun _ => ax_mg24)) (ax_All.c1 (P := ax_PT) (ax_row ax_e25 (fun _ => ax_mg25)) (ax_All.c1 (P := ax_PT) (ax_row ax_e26 (fun _ => ax_mg26)) (ax_All.c1 (P := ax_PT) (ax_row ax_e27 (fun _ => ax_mg27)) (ax_All.c1 (P := ax_PT) (ax_row ax_e28 (fun _ => ax_mg28)) (ax_All.c1 (P := ax_PT) (ax_row ax_e29 (fun _ => ax_mg29)) (ax_All.c1 (P := ax_PT) (ax_row ax_e30 (fun _ => ax_mg30)) (ax_All.c1 (P := ax_PT) (ax_row ax_e31 (fun _ => ax_mg31)) (ax_All.c1 (P := ax_PT) (ax_row ax_e32 (fun _ => ax_mg32)) (ax_All.c1 (P := ax_PT) (ax_row ax_e33 (fun _ => ax_mg33)) (ax_All.n1 (P := ax_PT)))))))))))))))))))
set_option maxRecDepth 100000 in
theorem ax_ch2 : ∀ z ∈ ax_tt_2, ax_PT z.1 z.2 := by
  unfold ax_tt_2
  exact (ax_All.c1 (P := ax_PT) (ax_row ax_e34 (fun _ => ax_mg34)) (ax_All.c1 (P := ax_PT) (ax_row ax_e35 (fun _ => ax_mg35)) (ax_All.c1 (P := ax_PT) (ax_row ax_e36 (fun _ => ax_mg36)) (ax_All.c1 (P := ax_PT) (ax_row ax_e37 (fun _ => ax_mg37)) (ax_All.c1 (P := ax_PT) (ax_row ax_e38 (fun _ => ax_mg38)) (ax_All.c1 (P := ax_PT) (ax_row ax_e39 (fun _ => ax_mg39)) (ax_All.c1 (P := ax_PT) (ax_row ax_e40 (fun _ => ax_mg40)) (ax_All.c1 (P := ax_PT) (ax_row ax_e41 (fun _ => ax_mg41)) (ax_All.c1 (P := ax_PT) (ax_row ax_e42 (fun _ => ax_mg42)) (ax_All.c1 (P := ax_PT) (ax_row ax_e43 (fun _ => ax_mg43)) (ax_All.c1 (P := ax_PT) (ax_row ax_e44 (fun _ => ax_mg44)) (ax_All.c1 (P := ax_PT) (ax_row ax_e45 (fun _ => ax_mg45)) (ax_All.c1 (P := ax_PT) (ax_row ax_e46 (fun _ => ax_mg46)) (ax_All.c1 (P := ax_PT) (ax_row ax_e47 (fun _ => ax_mg47)) (ax_All.c1 (P := ax_PT) (ax_row ax_e48 (fun _ => ax_mg48)) (ax_All.c1 (P := ax_PT) (ax_row ax_e49 (fun _ => ax_mg49)) (ax_All.c1 (P := ax_PT) (ax_row ax_e50 (fun _ => ax_mg50)) (ax_All.n1 (P := ax_PT)))))))))))))))))))
set_option maxRecDepth 100000 in
theorem ax_ch3 : ∀ z ∈ ax_tt_3, ax_PT z.1 z.2 := by
  unfold ax_tt_3
  exact (ax_All.c1 (P := ax_PT) (ax_row ax_e51 (fun _ => ax_mg51)) (ax_All.c1 (P := ax_PT) (ax_row ax_e52 (fun _ => ax_mg52)) (ax_All.c1 (P := ax_PT) (ax_row ax_e53 (fun _ => ax_mg53)) (ax_All.c1 (P := ax_PT) (ax_row ax_e54 (fun _ => ax_mg54)) (ax_All.c1 (P := ax_PT) (ax_row ax_e55 (fun _ => ax_mg55)) (ax_All.c1 (P := ax_PT) (ax_row ax_e56 (fun _ => ax_mg56)) (ax_All.c1 (P := ax_PT) (ax_row ax_e57 (fun _ => ax_mg57)) (ax_All.c1 (P := ax_PT) (ax_row ax_e58 (fun _ => ax_mg58)) (ax_All.c1 (P := ax_PT) (ax_row ax_e59 (fun _ => ax_mg59)) (ax_All.c1 (P := ax_PT) (ax_row ax_e60 (fun _ => ax_mg60)) (ax_All.c1 (P := ax_PT) (ax_row ax_e61 (fun _ => ax_mg61)) (ax_All.c1 (P := ax_PT) (ax_row ax_e62 (fun _ => ax_mg62)) (ax_All.c1 (P := ax_PT) (ax_row ax_e63 (fun _ => ax_mg63)) (ax_All.c1 (P := ax_PT) (ax_row ax_e64 (fun _ => ax_mg64)) (ax_All.c1 (P := ax_PT) (ax_row ax_e65 (fun _ => ax_mg65)) (ax_All.c1 (P := ax_PT) (ax_row ax_e66 (fun _ => ax_mg66)) (ax_All.c1 (P := ax_PT) (ax_row ax_e67 (fun _ => ax_mg67)) (ax_All.n1 (P := ax_PT)))))))))))))))))))
set_option maxRecDepth 100000 in
theorem ax_ch4 : ∀ z ∈ ax_tt_4, ax_PT z.1 z.2 := by
  unfold ax_tt_4
  exact (ax_All.c1 (P := ax_PT) (ax_row ax_e68 (fun _ => ax_mg68)) (ax_All.c1 (P := ax_PT) (ax_row ax_e69 (fun _ => ax_mg69)) (ax_All.c1 (P := ax_PT) (ax_row ax_e70 (fun _ => ax_mg70)) (ax_All.c1 (P := ax_PT) (ax_row ax_e71 (fun _ => ax_mg71)) (ax_All.c1 (P := ax_PT) (ax_row ax_e72 (fun _ => ax_mg72)) (ax_All.c1 (P := ax_PT) (ax_row ax_e73 (fun _ => ax_mg73)) (ax_All.c1 (P := ax_PT) (ax_row ax_e74 (fun _ => ax_mg74)) (ax_All.c1 (P := ax_PT) (ax_row ax_e75 (fun _ => ax_mg75)) (ax_All.c1 (P := ax_PT) (ax_row ax_e76 (fun _ => ax_mg76)) (ax_All.c1 (P := ax_PT) (ax_row ax_e77 (fun _ => ax_mg77)) (ax_All.c1 (P := ax_PT) (ax_row ax_e78 (fun _ => ax_mg78)) (ax_All.c1 (P := ax_PT) (ax_row ax_e79 (fun _ => ax_mg79)) (ax_All.c1 (P := ax_PT) (ax_row ax_e80 (fun _ => ax_mg80)) (ax_All.c1 (P := ax_PT) (ax_row ax_e81 (fun _ => ax_mg81)) (ax_All.c1 (P := ax_PT) (ax_row ax_e82 (fun _ => ax_mg82)) (ax_All.c1 (P := ax_PT) (ax_row ax_e83 (fun _ => ax_mg83)) (ax_All.c1 (P := ax_PT) (ax_row ax_e84 (fun _ => ax_mg84)) (ax_All.n1 (P := ax_PT)))))))))))))))))))
set_option maxRecDepth 100000 in
theorem ax_ch5 : ∀ z ∈ ax_tt_5, ax_PT z.1 z.2 := by
  unfold ax_tt_5
  exact (ax_All.c1 (P := ax_PT) (ax_row ax_e85 (fun _ => ax_mg85)) (ax_All.c1 (P := ax_PT) (ax_row ax_e86 (fun _ => ax_mg86)) (ax_All.c1 (P := ax_PT) (ax_row ax_e87 (fun _ => ax_mg87)) (ax_All.c1 (P := ax_PT) (ax_row ax_e88 (fun _ => ax_mg88)) (ax_All.c1 (P := ax_PT) (ax_row ax_e89 (fun _ => ax_mg89)) (ax_All.c1 (P := ax_PT) (ax_row ax_e90 (fun _ => ax_mg90)) (ax_All.c1 (P := ax_PT) (ax_row ax_e91 (fun _ => ax_mg91)) (ax_All.c1 (P := ax_PT) (ax_row ax_e92 (fun _ => ax_mg92)) (ax_All.c1 (P := ax_PT) (ax_row ax_e93 (fun _ => ax_mg93)) (ax_All.c1 (P := ax_PT) (ax_row ax_e94 (fun _ => ax_mg94)) (ax_All.c1 (P := ax_PT) (ax_row ax_e95 (fun _ => ax_mg95)) (ax_All.c1 (P := ax_PT) (ax_row ax_e96 (fun _ => ax_mg96)) (ax_All.c1 (P := ax_PT) (ax_row ax_e97 (fun _ => ax_mg97)) (ax_All.c1 (P := ax_PT) (ax_row ax_e98 (fun _ => ax_mg98)) (ax_All.c1 (P := ax_PT) (ax_row ax_e99 (fun _ => ax_mg99)) (ax_All.c1 (P := ax_PT) (ax_row ax_e100 (fun _ => ax_mg100)) (ax_All.c1 (P := ax_PT) (ax_row ax_e101 (fun _ => ax_mg101)) (ax_All.n1 (P := ax_PT)))))))))))))))))))
set_option maxRecDepth 100000 in
theorem ax_ch6 : ∀ z ∈ ax_tt_6, ax_PT z.1 z.2 := by
  unfold ax_tt_6
  exact (ax_All.c1 (P := ax_PT) (ax_row ax_e102 (fun _ => ax_mg102)) (ax_All.c1 (P := ax_PT) (ax_row ax_e103 (fun _ => ax_mg103)) (ax_All.c1 (P := ax_PT) (ax_row ax_e104 (fun _ => ax_mg104)) (ax_All.c1 (P := ax_PT) (ax_row ax_e105 (fun _ => ax_mg105)) (ax_All.c1 (P := ax_PT) (ax_row ax_e106 (fun _ => ax_mg106)) (ax_All.c1 (P := ax_PT) (ax_row ax_e107 (fun _ => ax_mg107)) (ax_All.c1 (P := ax_PT) (ax_row ax_e108 (fun _ => ax_mg108)) (ax_All.c1 (P := ax_PT) (ax_row ax_e109 (fun _ => ax_mg109)) (ax_All.c1 (P := ax_PT) (ax_row ax_e110 (fun _ => ax_mg110)) (ax_All.c1 (P := ax_PT) (ax_row ax_e111 (fun _ => ax_mg111)) (ax_All.c1 (P := ax_PT) (ax_row ax_e112 (fun _ => ax_mg112)) (ax_All.c1 (P := ax_PT) (ax_row ax_e113 (fun _ => ax_mg113)) (ax_All.c1 (P := ax_PT) (ax_row ax_e114 (fun _ => ax_mg114)) (ax_All.c1 (P := ax_PT) (ax_row ax_e115 (fun _ => ax_mg115)) (ax_All.c1 (P := ax_PT) (ax_row ax_e116 (fun _ => ax_mg116)) (ax_All.c1 (P := ax_PT) (ax_row ax_e117 (fun _ => ax_mg117)) (ax_All.c1 (P := ax_PT) (ax_row ax_e118 (fun _ => ax_mg118)) (ax_All.n1 (P := ax_PT)))))))))))))))))))
set_option maxRecDepth 100000 in
theorem ax_ch7 : ∀ z ∈ ax_tt_7, ax_PT z.1 z.2 := by
  unfold ax_tt_7
  exact (ax_All.c1 (P := ax_PT) (ax_row ax_e119 (fun _ => ax_mg119)) (ax_All.c1 (P := ax_PT) (ax_row ax_e120 (fun _ => ax_mg120)) (ax_All.c1 (P := ax_PT) (ax_row ax_e121 (fun _ => ax_mg121)) (ax_All.c1 (P := ax_PT) (ax_row ax_e122 (fun _ => ax_mg122)) (ax_All.c1 (P := ax_PT) (ax_row ax_e123 (fun _ => ax_mg123)) (ax_All.c1 (P := ax_PT) (ax_row ax_e124 (fun _ => ax_mg124)) (ax_All.c1 (P := ax_PT) (ax_row ax_e125 (fun _ => ax_mg125)) (ax_All.c1 (P := ax_PT) (ax_row ax_e126 (fun _ => ax_mg126)) (ax_All.c1 (P := ax_PT) (ax_row ax_e127 (fun _ => ax_mg127)) (ax_All.c1 (P := ax_PT) (ax_row ax_e128 (fun _ => ax_mg128)) (ax_All.c1 (P := ax_PT) (ax_row ax_e129 (fun _ => ax_mg129)) (ax_All.c1 (P := ax_PT) (ax_row ax_e130 (fun _ => ax_mg130)) (ax_All.c1 (P := ax_PT) (ax_row ax_e131 (fun _ => ax_mg131)) (ax_All.c1 (P := ax_PT) (ax_row ax_e132 (fun _ => ax_mg132)) (ax_All.c1 (P := ax_PT) (ax_row ax_e133 (fun _ => ax_mg133)) (ax_All.c1 (P := ax_PT) (ax_row ax_e134 (fun _ => ax_mg134)) (ax_All.c1 (P := ax_PT) (ax_row ax_e135 (fun _ => ax_mg135)) (ax_All.n1 (P := ax_PT)))))))))))))))))))
set_option maxRecDepth 100000 in
theorem ax_ch8 : ∀ z ∈ ax_tt_8, ax_PT z.1 z.2 := by
  unfold ax_tt_8
  exact (ax_All.c1 (P := ax_PT) (ax_row ax_e136 (fun _ => ax_mg136)) (ax_All.c1 (P := ax_PT) (ax_row ax_e137 (fun _ => ax_mg137)) (ax_All.c1 (P := ax_PT) (ax_row ax_e138 (fun _ => ax_mg138)) (ax_All.c1 (P := ax_PT) (ax_row ax_e139 (fun _ => ax_mg139)) (ax_All.c1 (P := ax_PT) (ax_row ax_e140 (fun _ => ax_mg140)) (ax_All.c1 (P := ax_PT) (ax_row ax_e141 (fun _ => ax_mg141)) (ax_All.c1 (P := ax_PT) (ax_row ax_e142 (fun _ => ax_mg142)) (ax_All.c1 (P := ax_PT) (ax_row ax_e143 (fun _ => ax_mg143)) (ax_All.c1 (P := ax_PT) (ax_row ax_e144 (fun _ => ax_mg144)) (ax_All.c1 (P := ax_PT) (ax_row ax_e145 (fun _ => ax_mg145)) (ax_All.c1 (P := ax_PT) (ax_row ax_e146 (fun _ => ax_mg146)) (ax_All.c1 (P := ax_PT) (ax_row ax_e147 (fun _ => ax_mg147)) (ax_All.c1 (P := ax_PT) (ax_row ax_e148 (fun _ => ax_mg148)) (ax_All.c1 (P := ax_PT) (ax_row ax_e149 (fun _ => ax_mg149)) (ax_All.c1 (P := ax_PT) (ax_row ax_e150 (fun _ => ax_mg150)) (ax_All.c1 (P := ax_PT) (ax_row ax_e151 (fun _ => ax_mg151)) (ax_All.c1 (P := ax_PT) (ax_row ax_e152 (fun _ => ax_mg152)) (ax_All.n1 (P := ax_PT)))))))))))))))))))
set_option maxRecDepth 100000 in
theorem ax_ch9 : ∀ z ∈ ax_tt_9, ax_PT z.1 z.2 := by
  unfold ax_tt_9
  exact (ax_All.c1 (P := ax_PT) (ax_row ax_e153 (fun _ => ax_mg153)) (ax_All.c1 (P := ax_PT) (ax_row ax_e154 (fun _ => ax_mg154)) (ax_All.c1 (P := ax_PT) (ax_row ax_e155 (fun _ => ax_mg155)) (ax_All.c1 (P := ax_PT) (ax_row ax_e156 (fun _ => ax_mg156)) (ax_All.c1 (P := ax_PT) (ax_row ax_e157 (fun _ => ax_mg157)) (ax_All.c1 (P := ax_PT) (ax_row ax_e158 (fun _ => ax_mg158)) (ax_All.c1 (P := ax_PT) (ax_row ax_e159 (fun _ => ax_mg159)) (ax_All.c1 (P := ax_PT) (ax_row ax_e160 (fun _ => ax_mg160)) (ax_All.c1 (P := ax_PT) (ax_row ax_e161 (fun _ => ax_mg161)) (ax_All.c1 (P := ax_PT) (ax_row ax_e162 (fun _ => ax_mg162)) (ax_All.c1 (P := ax_PT) (ax_row ax_e163 (fun _ => ax_mg163)) (ax_All.c1 (P := ax_PT) (ax_row ax_e164 (fun _ => ax_mg164)) (ax_All.c1 (P := ax_PT) (ax_row ax_e165 (fun _ => ax_mg165)) (ax_All.c1 (P := ax_PT) (ax_row ax_e166 (fun _ => ax_mg166)) (ax_All.c1 (P := ax_PT) (ax_row ax_e167 (fun _ => ax_mg167)) (ax_All.c1 (P := ax_PT) (ax_row ax_e168 (fun _ => ax_mg168)) (ax_All.c1 (P := ax_PT) (ax_row ax_e169 (fun _ => ax_mg169)) (ax_All.n1 (P := ax_PT)))))))))))))))))))
set_option maxRecDepth 100000 in
theorem ax_ch10 : ∀ z ∈ ax_tt_10, ax_PT z.1 z.2 := by
  unfold ax_tt_10
  exact (ax_All.c1 (P := ax_PT) (ax_row ax_e170 (fun _ => ax_mg170)) (ax_All.c1 (P := ax_PT) (ax_row ax_e171 (fun _ => ax_mg171)) (ax_All.c1 (P := ax_PT) (ax_row ax_e172 (fun _ => ax_mg172)) (ax_All.c1 (P := ax_PT) (ax_row ax_e173 (fun _ => ax_mg173)) (ax_All.c1 (P := ax_PT) (ax_row ax_e174 (fun _ => ax_mg174)) (ax_All.c1 (P := ax_PT) (ax_row ax_e175 (fun _ => ax_mg175)) (ax_All.c1 (P := ax_PT) (ax_row ax_e176 (fun _ => ax_mg176)) (ax_All.c1 (P := ax_PT) (ax_row ax_e177 (fun _ => ax_mg177)) (ax_All.c1 (P := ax_PT) (ax_row ax_e178 (fun _ => ax_mg178)) (ax_All.c1 (P := ax_PT) (ax_row ax_e179 (fun _ => ax_mg179)) (ax_All.c1 (P := ax_PT) (ax_row ax_e180 (fun _ => ax_mg180)) (ax_All.c1 (P := ax_PT) (ax_row ax_e181 (fun _ => ax_mg181)) (ax_All.c1 (P := ax_PT) (ax_row ax_e182 (fun _ => ax_mg182)) (ax_All.c1 (P := ax_PT) (ax_row ax_e183 (fun _ => ax_mg183)) (ax_All.c1 (P := ax_PT) (ax_row ax_e184 (fun _ => ax_mg184)) (ax_All.c1 (P := ax_PT) (ax_row ax_e185 (fun _ => ax_mg185)) (ax_All.c1 (P := ax_PT) (ax_row ax_e186 (fun _ => ax_mg186)) (ax_All.n1 (P := ax_PT)))))))))))))))))))
set_option maxRecDepth 100000 in
theorem ax_ch11 : ∀ z ∈ ax_tt_11, ax_PT z.1 z.2 := by
  unfold ax_tt_11
  exact (ax_All.c1 (P := ax_PT) (ax_row ax_e187 (fun _ => ax_mg187)) (ax_All.c1 (P := ax_PT) (ax_row ax_e188 (fun _ => ax_mg188)) (ax_All.c1 (P := ax_PT) (ax_row ax_e189 (fun _ => ax_mg189)) (ax_All.c1 (P := ax_PT) (ax_row ax_e190 (fun _ => ax_mg190)) (ax_All.c1 (P := ax_PT) (ax_row ax_e191 (fun _ => ax_mg191)) (ax_All.c1 (P := ax_PT) (ax_row ax_e192 (fun _ => ax_mg192)) (ax_All.c1 (P := ax_PT) (ax_row ax_e193 (fun _ => ax_mg193)) (ax_All.c1 (P := ax_PT) (ax_row ax_e194 (fun _ => ax_mg194)) (ax_All.c1 (P := ax_PT) (ax_row ax_e195 (fun _ => ax_mg195)) (ax_All.c1 (P := ax_PT) (ax_row ax_e196 (fun _ => ax_mg196)) (ax_All.c1 (P := ax_PT) (ax_row ax_e197 (fun _ => ax_mg197)) (ax_All.c1 (P := ax_PT) (ax_row ax_e198 (fun _ => ax_mg198)) (ax_All.c1 (P := ax_PT) (ax_row ax_e199 (fun _ => ax_mg199)) (ax_All.c1 (P := ax_PT) (ax_row ax_e200 (fun _ => ax_mg200)) (ax_All.c1 (P := ax_PT) (ax_row ax_e201 (fun _ => ax_mg201)) (ax_All.c1 (P := ax_PT) (ax_row ax_e202 (fun _ => ax_mg202)) (ax_All.c1 (P := ax_PT) (ax_row ax_e203 (fun _ => ax_mg203)) (ax_All.n1 (P := ax_PT)))))))))))))))))))
set_option maxRecDepth 100000 in
theorem ax_ch12 : ∀ z ∈ ax_tt_12, ax_PT z.1 z.2 := by
  unfold ax_tt_12
  exact (ax_All.c1 (P := ax_PT) (ax_row ax_e204 (fun _ => ax_mg204)) (ax_All.c1 (P := ax_PT) (ax_row ax_e205 (fun _ => ax_mg205)) (ax_All.c1 (P := ax_PT) (ax_row ax_e206 (fun _ => ax_mg206)) (ax_All.c1 (P := ax_PT) (ax_row ax_e207 (fun _ => ax_mg207)) (ax_All.c1 (P := ax_PT) (ax_row ax_e208 (fun _ => ax_mg208)) (ax_All.c1 (P := ax_PT) (ax_row ax_e209 (fun _ => ax_mg209)) (ax_All.c1 (P := ax_PT) (ax_row ax_e210 (fun _ => ax_mg210)) (ax_All.c1 (P := ax_PT) (ax_row ax_e211 (fun _ => ax_mg211)) (ax_All.c1 (P := ax_PT) (ax_row ax_e212 (fun _ => ax_mg212)) (ax_All.c1 (P := ax_PT) (ax_row ax_e213 (fun _ => ax_mg213)) (ax_All.c1 (P := ax_PT) (ax_row ax_e214 (fun _ => ax_mg214)) (ax_All.c1 (P := ax_PT) (ax_row ax_e215 (fun _ => ax_mg215)) (ax_All.c1 (P := ax_PT) (ax_row ax_e216 (fun _ => ax_mg216)) (ax_All.c1 (P := ax_PT) (ax_row ax_e217 (fun _ => ax_mg217)) (ax_All.c1 (P := ax_PT) (ax_row ax_e218 (fun _ => ax_mg218)) (ax_All.c1 (P := ax_PT) (ax_row ax_e219 (fun _ => ax_mg219)) (ax_All.c1 (P := ax_PT) (ax_row ax_e220 (fun _ => ax_mg220)) (ax_All.n1 (P := ax_PT)))))))))))))))))))
set_option maxRecDepth 100000 in
theorem ax_ch13 : ∀ z ∈ ax_tt_13, ax_PT z.1 z.2 := by
  unfold ax_tt_13
  exact (ax_All.c1 (P := ax_PT) (ax_row ax_e221 (fun _ => ax_mg221)) (ax_All.c1 (P := ax_PT) (ax_row ax_e222 (fun _ => ax_mg222)) (ax_All.c1 (P := ax_PT) (ax_row ax_e223 (fun _ => ax_mg223)) (ax_All.c1 (P := ax_PT) (ax_row ax_e224 (fun _ => ax_mg224)) (ax_All.c1 (P := ax_PT) (ax_row ax_e225 (fun _ => ax_mg225)) (ax_All.c1 (P := ax_PT) (ax_row ax_e226 (fun _ => ax_mg226)) (ax_All.c1 (P := ax_PT) (ax_row ax_e227 (fun _ => ax_mg227)) (ax_All.c1 (P := ax_PT) (ax_row ax_e228 (fun _ => ax_mg228)) (ax_All.c1 (P := ax_PT) (ax_row ax_e229 (fun _ => ax_mg229)) (ax_All.c1 (P := ax_PT) (ax_row ax_e230 (fun _ => ax_mg230)) (ax_All.c1 (P := ax_PT) (ax_row ax_e231 (fun _ => ax_mg231)) (ax_All.c1 (P := ax_PT) (ax_row ax_e232 (fun _ => ax_mg232)) (ax_All.c1 (P := ax_PT) (ax_row ax_e233 (fun _ => ax_mg233)) (ax_All.c1 (P := ax_PT) (ax_row ax_e234 (fun _ => ax_mg234)) (ax_All.c1 (P := ax_PT) (ax_row ax_e235 (fun _ => ax_mg235)) (ax_All.c1 (P := ax_PT) (ax_row ax_e236 (fun _ => ax_mg236)) (ax_All.c1 (P := ax_PT) (ax_row ax_e237 (fun _ => ax_mg237)) (ax_All.n1 (P := ax_PT)))))))))))))))))))
set_option maxRecDepth 100000 in
theorem ax_ch14 : ∀ z ∈ ax_tt_14, ax_PT z.1 z.2 := by
  unfold ax_tt_14
  exact (ax_All.c1 (P := ax_PT) (ax_row ax_e238 (fun _ => ax_mg238)) (ax_All.c1 (P := ax_PT) (ax_row ax_e239 (fun _ => ax_mg239)) (ax_All.c1 (P := ax_PT) (ax_row ax_e240 (fun _ => ax_mg240)) (ax_All.c1 (P := ax_PT) (ax_row ax_e241 (fun _ => ax_mg241)) (ax_All.c1 (P := ax_PT) (ax_row ax_e242 (fun _ => ax_mg242)) (ax_All.c1 (P := ax_PT) (ax_row ax_e243 (fun _ => ax_mg243)) (ax_All.c1 (P := ax_PT) (ax_row ax_e244 (fun _ => ax_mg244)) (ax_All.c1 (P := ax_PT) (ax_row ax_e245 (fun _ => ax_mg245)) (ax_All.c1 (P := ax_PT) (ax_row ax_e246 (fun _ => ax_mg246)) (ax_All.c1 (P := ax_PT) (ax_row ax_e247 (fun _ => ax_mg247)) (ax_All.c1 (P := ax_PT) (ax_row ax_e248 (fun _ => ax_mg248)) (ax_All.c1 (P := ax_PT) (ax_row ax_e249 (fun _ => ax_mg249)) (ax_All.c1 (P := ax_PT) (ax_row ax_e250 (fun _ => ax_mg250)) (ax_All.c1 (P := ax_PT) (ax_row ax_e251 (fun _ => ax_mg251)) (ax_All.c1 (P := ax_PT) (ax_row ax_e252 (fun _ => ax_mg252)) (ax_All.c1 (P := ax_PT) (ax_row ax_e253 (fun _ => ax_mg253)) (ax_All.c1 (P := ax_PT) (ax_row ax_e254 (fun _ => ax_mg254)) (ax_All.n1 (P := ax_PT)))))))))))))))))))
set_option maxRecDepth 100000 in
theorem ax_ch15 : ∀ z ∈ ax_tt_15, ax_PT z.1 z.2 := by
  unfold ax_tt_15
  exact (ax_All.c1 (P := ax_PT) (ax_row ax_e255 (fun _ => ax_mg255)) (ax_All.c1 (P := ax_PT) (ax_row ax_e256 (fun _ => ax_mg256)) (ax_All.c1 (P := ax_PT) (ax_row ax_e257 (fun _ => ax_mg257)) (ax_All.c1 (P := ax_PT) (ax_row ax_e258 (fun _ => ax_mg258)) (ax_All.c1 (P := ax_PT) (ax_row ax_e259 (fun _ => ax_mg259)) (ax_All.c1 (P := ax_PT) (ax_row ax_e260 (fun _ => ax_mg260)) (ax_All.c1 (P := ax_PT) (ax_row ax_e261 (fun _ => ax_mg261)) (ax_All.c1 (P := ax_PT) (ax_row ax_e262 (fun _ => ax_mg262)) (ax_All.c1 (P := ax_PT) (ax_row ax_e263 (fun _ => ax_mg263)) (ax_All.c1 (P := ax_PT) (ax_row ax_e264 (fun _ => ax_mg264)) (ax_All.c1 (P := ax_PT) (ax_row ax_e265 (fun _ => ax_mg265)) (ax_All.c1 (P := ax_PT) (ax_row ax_e266 (fun _ => ax_mg266)) (ax_All.c1 (P := ax_PT) (ax_row ax_e267 (fun _ => ax_mg267)) (ax_All.c1 (P := ax_PT) (ax_row ax_e268 (fun _ => ax_mg268)) (ax_All.c1 (P := ax_PT) (ax_row ax_e269 (fun _ => ax_mg269)) (ax_All.c1 (P := ax_PT) (ax_row ax_e270 (fun _ => ax_mg270)) (ax_All.c1 (P := ax_PT) (ax_row ax_e271 (fun _ => ax_mg271)) (ax_All.n1 (P := ax_PT)))))))))))))))))))
set_option maxRecDepth 100000 in
theorem ax_ch16 : ∀ z ∈ ax_tt_16, ax_PT z.1 z.2 := by
  unfold ax_tt_16
  exact (ax_All.c1 (P := ax_PT) (ax_row ax_e272 (fun _ => ax_mg272)) (ax_All.c1 (P := ax_PT) (ax_row ax_e273 (fun _ => ax_mg273)) (ax_All.c1 (P := ax_PT) (ax_row ax_e274 (fun _ => ax_mg274)) (ax_All.c1 (P := ax_PT) (ax_row ax_e275 (fun _ => ax_mg275)) (ax_All.c1 (P := ax_PT) (ax_row ax_e276 (fun _ => ax_mg276)) (ax_All.c1 (P := ax_PT) (ax_row ax_e277 (fun _ => ax_mg277)) (ax_All.c1 (P := ax_PT) (ax_row ax_e278 (fun _ => ax_mg278)) (ax_All.c1 (P := ax_PT) (ax_row ax_e279 (fun _ => ax_mg279)) (ax_All.c1 (P := ax_PT) (ax_row ax_e280 (fun _ => ax_mg280)) (ax_All.c1 (P := ax_PT) (ax_row ax_e281 (fun _ => ax_mg281)) (ax_All.c1 (P := ax_PT) (ax_row ax_e282 (fun _ => ax_mg282)) (ax_All.c1 (P := ax_PT) (ax_row ax_e283 (fun _ => ax_mg283)) (ax_All.c1 (P := ax_PT) (ax_row ax_e284 (fun _ => ax_mg284)) (ax_All.c1 (P := ax_PT) (ax_row ax_e285 (fun h => absurd h (by decide))) (ax_All.n1 (P := ax_PT))))))))))))))))
theorem ax_all_tt : ax_All ax_PT ax_tt := by
  unfold ax_tt
  exact (ax_All.c2 (P := ax_PT) ax_ch0 (ax_All.c2 (P := ax_PT) ax_ch1 (ax_All.c2 (P := ax_PT) ax_ch2 (ax_All.c2 (P := ax_PT) ax_ch3 (ax_All.c2 (P := ax_PT) ax_ch4 (ax_All.c2 (P := ax_PT) ax_ch5 (ax_All.c2 (P := ax_PT) ax_ch6 (ax_All.c2 (P := ax_PT) ax_ch7 (ax_All.c2 (P := ax_PT) ax_ch8 (ax_All.c2 (P := ax_PT) ax_ch9 (ax_All.c2 (P := ax_PT) ax_ch10 (ax_All.c2 (P := ax_PT) ax_ch11 (ax_All.c2 (P := ax_PT) ax_ch12 (ax_All.c2 (P := ax_PT) ax_ch13 (ax_All.c2 (P := ax_PT) ax_ch14 (ax_All.c2 (P := ax_PT) ax_ch15 (ax_All.c2 (P := ax_PT) ax_ch16 (ax_All.n2 (P := ax_PT)))))))))))))))))))
theorem ax_look_ok {i pc : Nat} {e : ax_E2} (h : ax_look i pc = some e) : decode (ax_mm i).2.1 pc = .ok (e.1, ax_len e.1) ∧ (¬ e.2.1.1 = 900 → ax_okx (ax_mm i) e.1 e.2.1.1 e.2.1.2.1 e.2.1.2.2 e.2.2.1 e.2.2.2 = true) := by
  have h3 : ax_okb (ax_mm i) pc e = true := by
    unfold ax_look at h
    unfold ax_mm
    cases ht : ax_f2 ax_tt i with
    | none => rw [ht] at h; cases h
    | some q =>
      rw [ht] at h
      exact ax_f2_ok (ax_f2_ok ax_all_tt ht).1 (show ax_f2 q.2.1 pc = some e from h)
  simp only [ax_okb, Bool.and_eq_true, decide_eq_true_eq, Bool.or_eq_true] at h3
  refine ⟨h3.1, fun ha => ?_⟩
  rcases h3.2 with q | q
  · exact absurd (Nat.eq_of_beq_eq_true q) ha
  · exact q
theorem ax_has_lt {i : Nat} (hi : ax_has i = true) : i < 285 := by
  unfold ax_has at hi
  cases ht : ax_f2 ax_tt i with
  | none => rw [ht] at hi; cases hi
  | some q =>
    rw [ht] at hi
    exact Nat.lt_of_succ_le (Nat.le_of_ble_eq_true hi)
theorem ax_mkbs {i : Nat} (hi : ax_has i = true) : ∃ q, ax_f2 ax_tt i = some q ∧ ax_mm i = q.1 ∧ ax_st i = q.2.2.2.2.1 ∧ ax_mkb q.1 q.2.2 = true := by
  unfold ax_has at hi
  unfold ax_mm ax_st
  cases ht : ax_f2 ax_tt i with
  | none => rw [ht] at hi; cases hi
  | some q =>
    rw [ht] at hi
    exact ⟨q, rfl, rfl, rfl, (ax_f2_ok ax_all_tt ht).2 hi⟩
theorem ax_mfacts {i : Nat} (hi : ax_has i = true) : ax_hd (ax_mm i) ∈ ax_tb ∧ Cond.initialized (ax_mm i).1.cls ∈ ax_tb ∧ (Cond.static (ax_mm i).1 ∈ ax_tb ∨ Cond.instanceMethod (ax_mm i).1 ∈ ax_tb) ∧ (ax_mm i).1.cls ≠ "java/lang/invoke/MethodHandle" ∧ (ax_mm i).1.cls ≠ "java/lang/invoke/VarHandle" ∧ (ax_mm i).2.2.1 ≤ 21 ∧ plainName (ax_mm i).1.cls = true := by
  obtain ⟨q, -, hq, -, h1⟩ := ax_mkbs hi
  rw [hq]
  generalize q.2.2 = w at h1
  generalize q.1 = y at h1 ⊢
  simp only [ax_mkb, Bool.and_eq_true, decide_eq_true_eq] at h1
  obtain ⟨⟨⟨⟨⟨⟨a1, a2⟩, a3⟩, a4⟩, a5⟩, a6⟩, a7⟩ := h1
  refine ⟨ax_wk_mem a1, ax_wk_mem a2, ?_, a4, a5, Nat.le_of_ble_eq_true a6, a7⟩
  split at a3
  · exact Or.inl (ax_wk_mem a3)
  · exact Or.inr (ax_wk_mem a3)
theorem ax_mst {i : Nat} (hi : ax_has i = true) : (ax_st i = true → Cond.static (ax_mm i).1 ∈ ax_tb) ∧ (ax_st i = false → Cond.instanceMethod (ax_mm i).1 ∈ ax_tb) := by
  obtain ⟨q, -, hq, hs, h1⟩ := ax_mkbs hi
  rw [hq, hs]
  generalize q.2.2 = w at h1
  generalize q.1 = y at h1 ⊢
  simp only [ax_mkb, Bool.and_eq_true, decide_eq_true_eq] at h1
  obtain ⟨⟨⟨⟨⟨⟨a1, a2⟩, a3⟩, a4⟩, a5⟩, a6⟩, a7⟩ := h1
  refine ⟨fun e => ?_, fun e => ?_⟩
  · rw [if_pos e] at a3
    exact ax_wk_mem a3
  · rw [if_neg (by rw [e]; decide)] at a3
    exact ax_wk_mem a3
