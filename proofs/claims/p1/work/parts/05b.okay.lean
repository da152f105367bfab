/-! the rows of the linked code, 1 of 4 -/
set_option maxRecDepth 100000 in
theorem ax_e0 : ax_t0.all (fun e => ax_okb ax_q0 e) = true := by decide +kernel
set_option maxRecDepth 100000 in
theorem ax_f0 : ∀ w, ax_mw[0]? = some w → ax_mkb ax_q0 w = true := by
  intro w hw
  have e : w = (ax_mw[0]?).getD (0, 0, false, 0) := by rw [hw]; rfl
  subst e
  decide +kernel
set_option maxRecDepth 100000 in
theorem ax_e1 : ax_t1.all (fun e => ax_okb ax_q1 e) = true := by decide +kernel
set_option maxRecDepth 100000 in
theorem ax_f1 : ∀ w, ax_mw[1]? = some w → ax_mkb ax_q1 w = true := by
  intro w hw
  have e : w = (ax_mw[1]?).getD (0, 0, false, 0) := by rw [hw]; rfl
  subst e
  decide +kernel
set_option maxRecDepth 100000 in
theorem ax_e2 : ax_t2.all (fun e => ax_okb ax_q2 e) = true := by decide +kernel
set_option maxRecDepth 100000 in
theorem ax_f2 : ∀ w, ax_mw[2]? = some w → ax_mkb ax_q2 w = true := by
  intro w hw
  have e : w = (ax_mw[2]?).getD (0, 0, false, 0) := by rw [hw]; rfl
  subst e
  decide +kernel
set_option maxRecDepth 100000 in
theorem ax_e3 : ax_t3.all (fun e => ax_okb ax_q3 e) = true := by decide +kernel
set_option maxRecDepth 100000 in
theorem ax_f3 : ∀ w, ax_mw[3]? = some w → ax_mkb ax_q3 w = true := by
  intro w hw
  have e : w = (ax_mw[3]?).getD (0, 0, false, 0) := by rw [hw]; rfl
  subst e
  decide +kernel
set_option maxRecDepth 100000 in
theorem ax_e4 : ax_t4.all (fun e => ax_okb ax_q4 e) = true := by decide +kernel
set_option maxRecDepth 100000 in
theorem ax_f4 : ∀ w, ax_mw[4]? = some w → ax_mkb ax_q4 w = true := by
  intro w hw
  have e : w = (ax_mw[4]?).getD (0, 0, false, 0) := by rw [hw]; rfl
  subst e
  decide +kernel
set_option maxRecDepth 100000 in
theorem ax_e5 : ax_t5.all (fun e => ax_okb ax_q5 e) = true := by decide +kernel
set_option maxRecDepth 100000 in
theorem ax_f5 : ∀ w, ax_mw[5]? = some w → ax_mkb ax_q5 w = true := by
  intro w hw
  have e : w = (ax_mw[5]?).getD (0, 0, false, 0) := by rw [hw]; rfl
  subst e
  decide +kernel
set_option maxRecDepth 100000 in
theorem ax_e6 : ax_t6.all (fun e => ax_okb ax_q6 e) = true := by decide +kernel
set_option maxRecDepth 100000 in
theorem ax_f6 : ∀ w, ax_mw[6]? = some w → ax_mkb ax_q6 w = true := by
  intro w hw
  have e : w = (ax_mw[6]?).getD (0, 0, false, 0) := by rw [hw]; rfl
  subst e
  decide +kernel
set_option maxRecDepth 100000 in
theorem ax_e7 : ax_t7.all (fun e => ax_okb ax_q7 e) = true := by decide +kernel
set_option maxRecDepth 100000 in
theorem ax_f7 : ∀ w, ax_mw[7]? = some w → ax_mkb ax_q7 w = true := by
  intro w hw
  have e : w = (ax_mw[7]?).getD (0, 0, false, 0) := by rw [hw]; rfl
  subst e
  decide +kernel
set_option maxRecDepth 100000 in
theorem ax_e8 : ax_t8.all (fun e => ax_okb ax_q8 e) = true := by decide +kernel
set_option maxRecDepth 100000 in
theorem ax_f8 : ∀ w, ax_mw[8]? = some w → ax_mkb ax_q8 w = true := by
  intro w hw
  have e : w = (ax_mw[8]?).getD (0, 0, false, 0) := by rw [hw]; rfl
  subst e
  decide +kernel
set_option maxRecDepth 100000 in
theorem ax_e9 : ax_t9.all (fun e => ax_okb ax_q9 e) = true := by decide +kernel
set_option maxRecDepth 100000 in
theorem ax_f9 : ∀ w, ax_mw[9]? = some w → ax_mkb ax_q9 w = true := by
  intro w hw
  have e : w = (ax_mw[9]?).getD (0, 0, false, 0) := by rw [hw]; rfl
  subst e
  decide +kernel
set_option maxRecDepth 100000 in
theorem ax_e10 : ax_t10.all (fun e => ax_okb ax_q10 e) = true := by decide +kernel
set_option maxRecDepth 100000 in
theorem ax_f10 : ∀ w, ax_mw[10]? = some w → ax_mkb ax_q10 w = true := by
  intro w hw
  have e : w = (ax_mw[10]?).getD (0, 0, false, 0) := by rw [hw]; rfl
  subst e
  decide +kernel
set_option maxRecDepth 100000 in
theorem ax_e11 : ax_t11.all (fun e => ax_okb ax_q11 e) = true := by decide +kernel
set_option maxRecDepth 100000 in
theorem ax_f11 : ∀ w, ax_mw[11]? = some w → ax_mkb ax_q11 w = true := by
  intro w hw
  have e : w = (ax_mw[11]?).getD (0, 0, false, 0) := by rw [hw]; rfl
  subst e
  decide +kernel
set_option maxRecDepth 100000 in
theorem ax_e12 : ax_t12.all (fun e => ax_okb ax_q12 e) = true := by decide +kernel
set_option maxRecDepth 100000 in
theorem ax_f12 : ∀ w, ax_mw[12]? = some w → ax_mkb ax_q12 w = true := by
  intro w hw
  have e : w = (ax_mw[12]?).getD (0, 0, false, 0) := by rw [hw]; rfl
  subst e
  decide +kernel
set_option maxRecDepth 100000 in
theorem ax_e13 : ax_t13.all (fun e => ax_okb ax_q13 e) = true := by decide +kernel
set_option maxRecDepth 100000 in
theorem ax_f13 : ∀ w, ax_mw[13]? = some w → ax_mkb ax_q13 w = true := by
  intro w hw
  have e : w = (ax_mw[13]?).getD (0, 0, false, 0) := by rw [hw]; rfl
  subst e
  decide +kernel
set_option maxRecDepth 100000 in
theorem ax_e14 : ax_t14.all (fun e => ax_okb ax_q14 e) = true := by decide +kernel
set_option maxRecDepth 100000 in
theorem ax_f14 : ∀ w, ax_mw[14]? = some w → ax_mkb ax_q14 w = true := by
  intro w hw
  have e : w = (ax_mw[14]?).getD (0, 0, false, 0) := by rw [hw]; rfl
  subst e
  decide +kernel
set_option maxRecDepth 100000 in
theorem ax_e15 : ax_t15.all (fun e => ax_okb ax_q15 e) = true := by decide +kernel
set_option maxRecDepth 100000 in
theorem ax_f15 : ∀ w, ax_mw[15]? = some w → ax_mkb ax_q15 w = true := by
  intro w hw
  have e : w = (ax_mw[15]?).getD (0, 0, false, 0) := by rw [hw]; rfl
  subst e
  decide +kernel
set_option maxRecDepth 100000 in
theorem ax_e16 : ax_t16.all (fun e => ax_okb ax_q16 e) = true := by decide +kernel
set_option maxRecDepth 100000 in
theorem ax_f16 : ∀ w, ax_mw[16]? = some w → ax_mkb ax_q16 w = true := by
  intro w hw
  have e : w = (ax_mw[16]?).getD (0, 0, false, 0) := by rw [hw]; rfl
  subst e
  decide +kernel
set_option maxRecDepth 100000 in
theorem ax_e17 : ax_t17.all (fun e => ax_okb ax_q17 e) = true := by decide +kernel
set_option maxRecDepth 100000 in
theorem ax_f17 : ∀ w, ax_mw[17]? = some w → ax_mkb ax_q17 w = true := by
  intro w hw
  have e : w = (ax_mw[17]?).getD (0, 0, false, 0) := by rw [hw]; rfl
  subst e
  decide +kernel
set_option maxRecDepth 100000 in
theorem ax_e18 : ax_t18.all (fun e => ax_okb ax_q18 e) = true := by decide +kernel
set_option maxRecDepth 100000 in
theorem ax_f18 : ∀ w, ax_mw[18]? = some w → ax_mkb ax_q18 w = true := by
  intro w hw
  have e : w = (ax_mw[18]?).getD (0, 0, false, 0) := by rw [hw]; rfl
  subst e
  decide +kernel
set_option maxRecDepth 100000 in
theorem ax_e19 : ax_t19.all (fun e => ax_okb ax_q19 e) = true := by decide +kernel
set_option maxRecDepth 100000 in
theorem ax_f19 : ∀ w, ax_mw[19]? = some w → ax_mkb ax_q19 w = true := by
  intro w hw
  have e : w = (ax_mw[19]?).getD (0, 0, false, 0) := by rw [hw]; rfl
  subst e
  decide +kernel
set_option maxRecDepth 100000 in
theorem ax_e20 : ax_t20.all (fun e => ax_okb ax_q20 e) = true := by decide +kernel
set_option maxRecDepth 100000 in
theorem ax_f20 : ∀ w, ax_mw[20]? = some w → ax_mkb ax_q20 w = true := by
  intro w hw
  have e : w = (ax_mw[20]?).getD (0, 0, false, 0) := by rw [hw]; rfl
  subst e
  decide +kernel
set_option maxRecDepth 100000 in
theorem ax_e21 : ax_t21.all (fun e => ax_okb ax_q21 e) = true := by decide +kernel
set_option maxRecDepth 100000 in
theorem ax_f21 : ∀ w, ax_mw[21]? = some w → ax_mkb ax_q21 w = true := by
  intro w hw
  have e : w = (ax_mw[21]?).getD (0, 0, false, 0) := by rw [hw]; rfl
  subst e
  decide +kernel
set_option maxRecDepth 100000 in
theorem ax_e22 : ax_t22.all (fun e => ax_okb ax_q22 e) = true := by decide +kernel
set_option maxRecDepth 100000 in
theorem ax_f22 : ∀ w, ax_mw[22]? = some w → ax_mkb ax_q22 w = true := by
  intro w hw
  have e : w = (ax_mw[22]?).getD (0, 0, false, 0) := by rw [hw]; rfl
  subst e
  decide +kernel
set_option maxRecDepth 100000 in
theorem ax_e23 : ax_t23.all (fun e => ax_okb ax_q23 e) = true := by decide +kernel
set_option maxRecDepth 100000 in
theorem ax_f23 : ∀ w, ax_mw[23]? = some w → ax_mkb ax_q23 w = true := by
  intro w hw
  have e : w = (ax_mw[23]?).getD (0, 0, false, 0) := by rw [hw]; rfl
  subst e
  decide +kernel
set_option maxRecDepth 100000 in
theorem ax_e24 : ax_t24.all (fun e => ax_okb ax_q24 e) = true := by decide +kernel
set_option maxRecDepth 100000 in
theorem ax_f24 : ∀ w, ax_mw[24]? = some w → ax_mkb ax_q24 w = true := by
  intro w hw
  have e : w = (ax_mw[24]?).getD (0, 0, false, 0) := by rw [hw]; rfl
  subst e
  decide +kernel
set_option maxRecDepth 100000 in
theorem ax_e25 : ax_t25.all (fun e => ax_okb ax_q25 e) = true := by decide +kernel
set_option maxRecDepth 100000 in
theorem ax_f25 : ∀ w, ax_mw[25]? = some w → ax_mkb ax_q25 w = true := by
  intro w hw
  have e : w = (ax_mw[25]?).getD (0, 0, false, 0) := by rw [hw]; rfl
  subst e
  decide +kernel
set_option maxRecDepth 100000 in
theorem ax_e26 : ax_t26.all (fun e => ax_okb ax_q26 e) = true := by decide +kernel
set_option maxRecDepth 100000 in
theorem ax_f26 : ∀ w, ax_mw[26]? = some w → ax_mkb ax_q26 w = true := by
  intro w hw
  have e : w = (ax_mw[26]?).getD (0, 0, false, 0) := by rw [hw]; rfl
  subst e
  decide +kernel
set_option maxRecDepth 100000 in
theorem ax_e27 : ax_t27.all (fun e => ax_okb ax_q27 e) = true := by decide +kernel
set_option maxRecDepth 100000 in
theorem ax_f27 : ∀ w, ax_mw[27]? = some w → ax_mkb ax_q27 w = true := by
  intro w hw
  have e : w = (ax_mw[27]?).getD (0, 0, false, 0) := by rw [hw]; rfl
  subst e
  decide +kernel
set_option maxRecDepth 100000 in
theorem ax_e28 : ax_t28.all (fun e => ax_okb ax_q28 e) = true := by decide +kernel
set_option maxRecDepth 100000 in
theorem ax_f28 : ∀ w, ax_mw[28]? = some w → ax_mkb ax_q28 w = true := by
  intro w hw
  have e : w = (ax_mw[28]?).getD (0, 0, false, 0) := by rw [hw]; rfl
  subst e
  decide +kernel
set_option maxRecDepth 100000 in
theorem ax_e29 : ax_t29.all (fun e => ax_okb ax_q29 e) = true := by decide +kernel
set_option maxRecDepth 100000 in
theorem ax_f29 : ∀ w, ax_mw[29]? = some w → ax_mkb ax_q29 w = true := by
  intro w hw
  have e : w = (ax_mw[29]?).getD (0, 0, false, 0) := by rw [hw]; rfl
  subst e
  decide +kernel
set_option maxRecDepth 100000 in
theorem ax_e30 : ax_t30.all (fun e => ax_okb ax_q30 e) = true := by decide +kernel
set_option maxRecDepth 100000 in
theorem ax_f30 : ∀ w, ax_mw[30]? = some w → ax_mkb ax_q30 w = true := by
  intro w hw
  have e : w = (ax_mw[30]?).getD (0, 0, false, 0) := by rw [hw]; rfl
  subst e
  decide +kernel
set_option maxRecDepth 100000 in
theorem ax_e31 : ax_t31.all (fun e => ax_okb ax_q31 e) = true := by decide +kernel
set_option maxRecDepth 100000 in
theorem ax_f31 : ∀ w, ax_mw[31]? = some w → ax_mkb ax_q31 w = true := by
  intro w hw
  have e : w = (ax_mw[31]?).getD (0, 0, false, 0) := by rw [hw]; rfl
  subst e
  decide +kernel
set_option maxRecDepth 100000 in
theorem ax_e32 : ax_t32.all (fun e => ax_okb ax_q32 e) = true := by decide +kernel
set_option maxRecDepth 100000 in
theorem ax_f32 : ∀ w, ax_mw[32]? = some w → ax_mkb ax_q32 w = true := by
  intro w hw
  have e : w = (ax_mw[32]?).getD (0, 0, false, 0) := by rw [hw]; rfl
  subst e
  decide +kernel
set_option maxRecDepth 100000 in
theorem ax_e33 : ax_t33.all (fun e => ax_okb ax_q33 e) = true := by decide +kernel
set_option maxRecDepth 100000 in
theorem ax_f33 : ∀ w, ax_mw[33]? = some w → ax_mkb ax_q33 w = true := by
  intro w hw
  have e : w = (ax_mw[33]?).getD (0, 0, false, 0) := by rw [hw]; rfl
  subst e
  decide +kernel
set_option maxRecDepth 100000 in
theorem ax_e34 : ax_t34.all (fun e => ax_okb ax_q34 e) = true := by decide +kernel
set_option maxRecDepth 100000 in
theorem ax_f34 : ∀ w, ax_mw[34]? = some w → ax_mkb ax_q34 w = true := by
  intro w hw
  have e : w = (ax_mw[34]?).getD (0, 0, false, 0) := by rw [hw]; rfl
  subst e
  decide +kernel
set_option maxRecDepth 100000 in
theorem ax_e35 : ax_t35.all (fun e => ax_okb ax_q35 e) = true := by decide +kernel
set_option maxRecDepth 100000 in
theorem ax_f35 : ∀ w, ax_mw[35]? = some w → ax_mkb ax_q35 w = true := by
  intro w hw
  have e : w = (ax_mw[35]?).getD (0, 0, false, 0) := by rw [hw]; rfl
  subst e
  decide +kernel
set_option maxRecDepth 100000 in
theorem ax_e36 : ax_t36.all (fun e => ax_okb ax_q36 e) = true := by decide +kernel
set_option maxRecDepth 100000 in
theorem ax_f36 : ∀ w, ax_mw[36]? = some w → ax_mkb ax_q36 w = true := by
  intro w hw
  have e : w = (ax_mw[36]?).getD (0, 0, false, 0) := by rw [hw]; rfl
  subst e
  decide +kernel
set_option maxRecDepth 100000 in
theorem ax_e37 : ax_t37.all (fun e => ax_okb ax_q37 e) = true := by decide +kernel
set_option maxRecDepth 100000 in
theorem ax_f37 : ∀ w, ax_mw[37]? = some w → ax_mkb ax_q37 w = true := by
  intro w hw
  have e : w = (ax_mw[37]?).getD (0, 0, false, 0) := by rw [hw]; rfl
  subst e
  decide +kernel
set_option maxRecDepth 100000 in
theorem ax_e38 : ax_t38.all (fun e => ax_okb ax_q38 e) = true := by decide +kernel
set_option maxRecDepth 100000 in
theorem ax_f38 : ∀ w, ax_mw[38]? = some w → ax_mkb ax_q38 w = true := by
  intro w hw
  have e : w = (ax_mw[38]?).getD (0, 0, false, 0) := by rw [hw]; rfl
  subst e
  decide +kernel
set_option maxRecDepth 100000 in
theorem ax_e39 : ax_t39.all (fun e => ax_okb ax_q39 e) = true := by decide +kernel
set_option maxRecDepth 100000 in
theorem ax_f39 : ∀ w, ax_mw[39]? = some w → ax_mkb ax_q39 w = true := by
  intro w hw
  have e : w = (ax_mw[39]?).getD (0, 0, false, 0) := by rw [hw]; rfl
  subst e
  decide +kernel
set_option maxRecDepth 100000 in
theorem ax_e40 : ax_t40.all (fun e => ax_okb ax_q40 e) = true := by decide +kernel
set_option maxRecDepth 100000 in
theorem ax_f40 : ∀ w, ax_mw[40]? = some w → ax_mkb ax_q40 w = true := by
  intro w hw
  have e : w = (ax_mw[40]?).getD (0, 0, false, 0) := by rw [hw]; rfl
  subst e
  decide +kernel
set_option maxRecDepth 100000 in
theorem ax_e41 : ax_t41.all (fun e => ax_okb ax_q41 e) = true := by decide +kernel
set_option maxRecDepth 100000 in
theorem ax_f41 : ∀ w, ax_mw[41]? = some w → ax_mkb ax_q41 w = true := by
  intro w hw
  have e : w = (ax_mw[41]?).getD (0, 0, false, 0) := by rw [hw]; rfl
  subst e
  decide +kernel
set_option maxRecDepth 100000 in
theorem ax_e42 : ax_t42.all (fun e => ax_okb ax_q42 e) = true := by decide +kernel
set_option maxRecDepth 100000 in
theorem ax_f42 : ∀ w, ax_mw[42]? = some w → ax_mkb ax_q42 w = true := by
  intro w hw
  have e : w = (ax_mw[42]?).getD (0, 0, false, 0) := by rw [hw]; rfl
  subst e
  decide +kernel
set_option maxRecDepth 100000 in
theorem ax_e43 : ax_t43.all (fun e => ax_okb ax_q43 e) = true := by decide +kernel
set_option maxRecDepth 100000 in
theorem ax_f43 : ∀ w, ax_mw[43]? = some w → ax_mkb ax_q43 w = true := by
  intro w hw
  have e : w = (ax_mw[43]?).getD (0, 0, false, 0) := by rw [hw]; rfl
  subst e
  decide +kernel
set_option maxRecDepth 100000 in
theorem ax_e44 : ax_t44.all (fun e => ax_okb ax_q44 e) = true := by decide +kernel
set_option maxRecDepth 100000 in
theorem ax_f44 : ∀ w, ax_mw[44]? = some w → ax_mkb ax_q44 w = true := by
  intro w hw
  have e : w = (ax_mw[44]?).getD (0, 0, false, 0) := by rw [hw]; rfl
  subst e
  decide +kernel
set_option maxRecDepth 100000 in
theorem ax_e45 : ax_t45.all (fun e => ax_okb ax_q45 e) = true := by decide +kernel
set_option maxRecDepth 100000 in
theorem ax_f45 : ∀ w, ax_mw[45]? = some w → ax_mkb ax_q45 w = true := by
  intro w hw
  have e : w = (ax_mw[45]?).getD (0, 0, false, 0) := by rw [hw]; rfl
  subst e
  decide +kernel
set_option maxRecDepth 100000 in
theorem ax_e46 : ax_t46.all (fun e => ax_okb ax_q46 e) = true := by decide +kernel
set_option maxRecDepth 100000 in
theorem ax_f46 : ∀ w, ax_mw[46]? = some w → ax_mkb ax_q46 w = true := by
  intro w hw
  have e : w = (ax_mw[46]?).getD (0, 0, false, 0) := by rw [hw]; rfl
  subst e
  decide +kernel
set_option maxRecDepth 100000 in
theorem ax_e47 : ax_t47.all (fun e => ax_okb ax_q47 e) = true := by decide +kernel
set_option maxRecDepth 100000 in
theorem ax_f47 : ∀ w, ax_mw[47]? = some w → ax_mkb ax_q47 w = true := by
  intro w hw
  have e : w = (ax_mw[47]?).getD (0, 0, false, 0) := by rw [hw]; rfl
  subst e
  decide +kernel
set_option maxRecDepth 100000 in
theorem ax_e48 : ax_t48.all (fun e => ax_okb ax_q48 e) = true := by decide +kernel
set_option maxRecDepth 100000 in
theorem ax_f48 : ∀ w, ax_mw[48]? = some w → ax_mkb ax_q48 w = true := by
  intro w hw
  have e : w = (ax_mw[48]?).getD (0, 0, false, 0) := by rw [hw]; rfl
  subst e
  decide +kernel
set_option maxRecDepth 100000 in
theorem ax_e49 : ax_t49.all (fun e => ax_okb ax_q49 e) = true := by decide +kernel
set_option maxRecDepth 100000 in
theorem ax_f49 : ∀ w, ax_mw[49]? = some w → ax_mkb ax_q49 w = true := by
  intro w hw
  have e : w = (ax_mw[49]?).getD (0, 0, false, 0) := by rw [hw]; rfl
  subst e
  decide +kernel
set_option maxRecDepth 100000 in
theorem ax_e50 : ax_t50.all (fun e => ax_okb ax_q50 e) = true := by decide +kernel
set_option maxRecDepth 100000 in
theorem ax_f50 : ∀ w, ax_mw[50]? = some w → ax_mkb ax_q50 w = true := by
  intro w hw
  have e : w = (ax_mw[50]?).getD (0, 0, false, 0) := by rw [hw]; rfl
  subst e
  decide +kernel
set_option maxRecDepth 100000 in
theorem ax_e51 : ax_t51.all (fun e => ax_okb ax_q51 e) = true := by decide +kernel
set_option maxRecDepth 100000 in
theorem ax_f51 : ∀ w, ax_mw[51]? = some w → ax_mkb ax_q51 w = true := by
  intro w hw
  have e : w = (ax_mw[51]?).getD (0, 0, false, 0) := by rw [hw]; rfl
  subst e
  decide +kernel
set_option maxRecDepth 100000 in
theorem ax_e52 : ax_t52.all (fun e => ax_okb ax_q52 e) = true := by decide +kernel
set_option maxRecDepth 100000 in
theorem ax_f52 : ∀ w, ax_mw[52]? = some w → ax_mkb ax_q52 w = true := by
  intro w hw
  have e : w = (ax_mw[52]?).getD (0, 0, false, 0) := by rw [hw]; rfl
  subst e
  decide +kernel
set_option maxRecDepth 100000 in
theorem ax_e53 : ax_t53.all (fun e => ax_okb ax_q53 e) = true := by decide +kernel
set_option maxRecDepth 100000 in
theorem ax_f53 : ∀ w, ax_mw[53]? = some w → ax_mkb ax_q53 w = true := by
  intro w hw
  have e : w = (ax_mw[53]?).getD (0, 0, false, 0) := by rw [hw]; rfl
  subst e
  decide +kernel
set_option maxRecDepth 100000 in
theorem ax_e54 : ax_t54.all (fun e => ax_okb ax_q54 e) = true := by decide +kernel
set_option maxRecDepth 100000 in
theorem ax_f54 : ∀ w, ax_mw[54]? = some w → ax_mkb ax_q54 w = true := by
  intro w hw
  have e : w = (ax_mw[54]?).getD (0, 0, false, 0) := by rw [hw]; rfl
  subst e
  decide +kernel
set_option maxRecDepth 100000 in
theorem ax_e55 : ax_t55.all (fun e => ax_okb ax_q55 e) = true := by decide +kernel
set_option maxRecDepth 100000 in
theorem ax_f55 : ∀ w, ax_mw[55]? = some w → ax_mkb ax_q55 w = true := by
  intro w hw
  have e : w = (ax_mw[55]?).getD (0, 0, false, 0) := by rw [hw]; rfl
  subst e
  decide +kernel
set_option maxRecDepth 100000 in
theorem ax_e56 : ax_t56.all (fun e => ax_okb ax_q56 e) = true := by decide +kernel
set_option maxRecDepth 100000 in
theorem ax_f56 : ∀ w, ax_mw[56]? = some w → ax_mkb ax_q56 w = true := by
  intro w hw
  have e : w = (ax_mw[56]?).getD (0, 0, false, 0) := by rw [hw]; rfl
  subst e
  decide +kernel
set_option maxRecDepth 100000 in
theorem ax_e57 : ax_t57.all (fun e => ax_okb ax_q57 e) = true := by decide +kernel
set_option maxRecDepth 100000 in
theorem ax_f57 : ∀ w, ax_mw[57]? = some w → ax_mkb ax_q57 w = true := by
  intro w hw
  have e : w = (ax_mw[57]?).getD (0, 0, false, 0) := by rw [hw]; rfl
  subst e
  decide +kernel
set_option maxRecDepth 100000 in
theorem ax_e58 : ax_t58.all (fun e => ax_okb ax_q58 e) = true := by decide +kernel
set_option maxRecDepth 100000 in
theorem ax_f58 : ∀ w, ax_mw[58]? = some w → ax_mkb ax_q58 w = true := by
  intro w hw
  have e : w = (ax_mw[58]?).getD (0, 0, false, 0) := by rw [hw]; rfl
  subst e
  decide +kernel
set_option maxRecDepth 100000 in
theorem ax_e59 : ax_t59.all (fun e => ax_okb ax_q59 e) = true := by decide +kernel
set_option maxRecDepth 100000 in
theorem ax_f59 : ∀ w, ax_mw[59]? = some w → ax_mkb ax_q59 w = true := by
  intro w hw
  have e : w = (ax_mw[59]?).getD (0, 0, false, 0) := by rw [hw]; rfl
  subst e
  decide +kernel
set_option maxRecDepth 100000 in
theorem ax_e60 : ax_t60.all (fun e => ax_okb ax_q60 e) = true := by decide +kernel
set_option maxRecDepth 100000 in
theorem ax_f60 : ∀ w, ax_mw[60]? = some w → ax_mkb ax_q60 w = true := by
  intro w hw
  have e : w = (ax_mw[60]?).getD (0, 0, false, 0) := by rw [hw]; rfl
  subst e
  decide +kernel
set_option maxRecDepth 100000 in
theorem ax_e61 : ax_t61.all (fun e => ax_okb ax_q61 e) = true := by decide +kernel
set_option maxRecDepth 100000 in
theorem ax_f61 : ∀ w, ax_mw[61]? = some w → ax_mkb ax_q61 w = true := by
  intro w hw
  have e : w = (ax_mw[61]?).getD (0, 0, false, 0) := by rw [hw]; rfl
  subst e
  decide +kernel
set_option maxRecDepth 100000 in
theorem ax_e62 : ax_t62.all (fun e => ax_okb ax_q62 e) = true := by decide +kernel
set_option maxRecDepth 100000 in
theorem ax_f62 : ∀ w, ax_mw[62]? = some w → ax_mkb ax_q62 w = true := by
  intro w hw
  have e : w = (ax_mw[62]?).getD (0, 0, false, 0) := by rw [hw]; rfl
  subst e
  decide +kernel
set_option maxRecDepth 100000 in
theorem ax_e63 : ax_t63.all (fun e => ax_okb ax_q63 e) = true := by decide +kernel
set_option maxRecDepth 100000 in
theorem ax_f63 : ∀ w, ax_mw[63]? = some w → ax_mkb ax_q63 w = true := by
  intro w hw
  have e : w = (ax_mw[63]?).getD (0, 0, false, 0) := by rw [hw]; rfl
  subst e
  decide +kernel
set_option maxRecDepth 100000 in
theorem ax_e64 : ax_t64.all (fun e => ax_okb ax_q64 e) = true := by decide +kernel
set_option maxRecDepth 100000 in
theorem ax_f64 : ∀ w, ax_mw[64]? = some w → ax_mkb ax_q64 w = true := by
  intro w hw
  have e : w = (ax_mw[64]?).getD (0, 0, false, 0) := by rw [hw]; rfl
  subst e
  decide +kernel
