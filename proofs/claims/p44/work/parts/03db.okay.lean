/-! the rows of the linked code, 1 of 4 -/
set_option maxRecDepth 100000 in
theorem ax_e0 : ax_All (fun pc e => ax_okb ax_q0 pc e = true) ax_t0 := ax_All.of (by decide +kernel)
set_option maxRecDepth 100000 in
theorem ax_e1 : ax_All (fun pc e => ax_okb ax_q1 pc e = true) ax_t1 := ax_All.of (by decide +kernel)
set_option maxRecDepth 100000 in
theorem ax_e2 : ax_All (fun pc e => ax_okb ax_q2 pc e = true) ax_t2 := ax_All.of (by decide +kernel)
set_option maxRecDepth 100000 in
theorem ax_e3 : ax_All (fun pc e => ax_okb ax_q3 pc e = true) ax_t3 := ax_All.of (by decide +kernel)
set_option maxRecDepth 100000 in
theorem ax_e4 : ax_All (fun pc e => ax_okb ax_q4 pc e = true) ax_t4 := ax_All.of (by decide +kernel)
set_option maxRecDepth 100000 in
theorem ax_e5 : ax_All (fun pc e => ax_okb ax_q5 pc e = true) ax_t5 := ax_All.of (by decide +kernel)
set_option maxRecDepth 100000 in
theorem ax_e6 : ax_All (fun pc e => ax_okb ax_q6 pc e = true) ax_t6 := ax_All.of (by decide +kernel)
set_option maxRecDepth 100000 in
theorem ax_e7 : ax_All (fun pc e => ax_okb ax_q7 pc e = true) ax_t7 := ax_All.of (by decide +kernel)
set_option maxRecDepth 100000 in
theorem ax_e8 : ax_All (fun pc e => ax_okb ax_q8 pc e = true) ax_t8 := ax_All.of (by decide +kernel)
set_option maxRecDepth 100000 in
theorem ax_e9 : ax_All (fun pc e => ax_okb ax_q9 pc e = true) ax_t9 := ax_All.of (by decide +kernel)
set_option maxRecDepth 100000 in
theorem ax_e10 : ax_All (fun pc e => ax_okb ax_q10 pc e = true) ax_t10 := ax_All.of (by decide +kernel)
set_option maxRecDepth 100000 in
theorem ax_e11 : ax_All (fun pc e => ax_okb ax_q11 pc e = true) ax_t11 := ax_All.of (by decide +kernel)
set_option maxRecDepth 100000 in
theorem ax_e12 : ax_All (fun pc e => ax_okb ax_q12 pc e = true) ax_t12 := ax_All.of (by decide +kernel)
set_option maxRecDepth 100000 in
theorem ax_e13 : ax_All (fun pc e => ax_okb ax_q13 pc e = true) ax_t13 := ax_All.of (by decide +kernel)
set_option maxRecDepth 100000 in
theorem ax_e14 : ax_All (fun pc e => ax_okb ax_q14 pc e = true) ax_t14 := ax_All.of (by decide +kernel)
set_option maxRecDepth 100000 in
theorem ax_e15 : ax_All (fun pc e => ax_okb ax_q15 pc e = true) ax_t15 := ax_All.of (by decide +kernel)
set_option maxRecDepth 100000 in
theorem ax_e16 : ax_All (fun pc e => ax_okb ax_q16 pc e = true) ax_t16 := ax_All.of (by decide +kernel)
set_option maxRecDepth 100000 in
theorem ax_e17 : ax_All (fun pc e => ax_okb ax_q17 pc e = true) ax_t17 := ax_All.of (by decide +kernel)
set_option maxRecDepth 100000 in
theorem ax_e18 : ax_All (fun pc e => ax_okb ax_q18 pc e = true) ax_t18 := ax_All.of (by decide +kernel)
set_option maxRecDepth 100000 in
theorem ax_e19 : ax_All (fun pc e => ax_okb ax_q19 pc e = true) ax_t19 := ax_All.of (by decide +kernel)
set_option maxRecDepth 100000 in
theorem ax_e20 : ax_All (fun pc e => ax_okb ax_q20 pc e = true) ax_t20 := ax_All.of (by decide +kernel)
set_option maxRecDepth 100000 in
theorem ax_e21 : ax_All (fun pc e => ax_okb ax_q21 pc e = true) ax_t21 := ax_All.of (by decide +kernel)
set_option maxRecDepth 100000 in
theorem ax_e22 : ax_All (fun pc e => ax_okb ax_q22 pc e = true) ax_t22 := ax_All.of (by decide +kernel)
set_option maxRecDepth 100000 in
theorem ax_e23 : ax_All (fun pc e => ax_okb ax_q23 pc e = true) ax_t23 := ax_All.of (by decide +kernel)
set_option maxRecDepth 100000 in
theorem ax_e24 : ax_All (fun pc e => ax_okb ax_q24 pc e = true) ax_t24 := ax_All.of (by decide +kernel)
set_option maxRecDepth 100000 in
theorem ax_e25 : ax_All (fun pc e => ax_okb ax_q25 pc e = true) ax_t25 := ax_All.of (by decide +kernel)
set_option maxRecDepth 100000 in
theorem ax_e26 : ax_All (fun pc e => ax_okb ax_q26 pc e = true) ax_t26 := ax_All.of (by decide +kernel)
set_option maxRecDepth 100000 in
theorem ax_e27 : ax_All (fun pc e => ax_okb ax_q27 pc e = true) ax_t27 := ax_All.of (by decide +kernel)
set_option maxRecDepth 100000 in
theorem ax_e28 : ax_All (fun pc e => ax_okb ax_q28 pc e = true) ax_t28 := ax_All.of (by decide +kernel)
set_option maxRecDepth 100000 in
theorem ax_e29 : ax_All (fun pc e => ax_okb ax_q29 pc e = true) ax_t29 := ax_All.of (by decide +kernel)
set_option maxRecDepth 100000 in
theorem ax_e30 : ax_All (fun pc e => ax_okb ax_q30 pc e = true) ax_t30 := ax_All.of (by decide +kernel)
set_option maxRecDepth 100000 in
theorem ax_e31 : ax_All (fun pc e => ax_okb ax_q31 pc e = true) ax_t31 := ax_All.of (by decide +kernel)
set_option maxRecDepth 100000 in
theorem ax_e32 : ax_All (fun pc e => ax_okb ax_q32 pc e = true) ax_t32 := ax_All.of (by decide +kernel)
set_option maxRecDepth 100000 in
theorem ax_e33 : ax_All (fun pc e => ax_okb ax_q33 pc e = true) ax_t33 := ax_All.of (by decide +kernel)
set_option maxRecDepth 100000 in
theorem ax_e34 : ax_All (fun pc e => ax_okb ax_q34 pc e = true) ax_t34 := ax_All.of (by decide +kernel)
set_option maxRecDepth 100000 in
theorem ax_e35 : ax_All (fun pc e => ax_okb ax_q35 pc e = true) ax_t35 := ax_All.of (by decide +kernel)
set_option maxRecDepth 100000 in
theorem ax_e36 : ax_All (fun pc e => ax_okb ax_q36 pc e = true) ax_t36 := ax_All.of (by decide +kernel)
set_option maxRecDepth 100000 in
theorem ax_e37 : ax_All (fun pc e => ax_okb ax_q37 pc e = true) ax_t37 := ax_All.of (by decide +kernel)
set_option maxRecDepth 100000 in
theorem ax_e38 : ax_All (fun pc e => ax_okb ax_q38 pc e = true) ax_t38 := ax_All.of (by decide +kernel)
set_option maxRecDepth 100000 in
theorem ax_e39 : ax_All (fun pc e => ax_okb ax_q39 pc e = true) ax_t39 := ax_All.of (by decide +kernel)
set_option maxRecDepth 100000 in
theorem ax_e40 : ax_All (fun pc e => ax_okb ax_q40 pc e = true) ax_t40 := ax_All.of (by decide +kernel)
set_option maxRecDepth 100000 in
theorem ax_e41 : ax_All (fun pc e => ax_okb ax_q41 pc e = true) ax_t41 := ax_All.of (by decide +kernel)
set_option maxRecDepth 100000 in
theorem ax_e42 : ax_All (fun pc e => ax_okb ax_q42 pc e = true) ax_t42 := ax_All.of (by decide +kernel)
set_option maxRecDepth 100000 in
theorem ax_e43 : ax_All (fun pc e => ax_okb ax_q43 pc e = true) ax_t43 := ax_All.of (by decide +kernel)
set_option maxRecDepth 100000 in
theorem ax_e44 : ax_All (fun pc e => ax_okb ax_q44 pc e = true) ax_t44 := ax_All.of (by decide +kernel)
set_option maxRecDepth 100000 in
theorem ax_e45 : ax_All (fun pc e => ax_okb ax_q45 pc e = true) ax_t45 := ax_All.of (by decide +kernel)
set_option maxRecDepth 100000 in
theorem ax_e46 : ax_All (fun pc e => ax_okb ax_q46 pc e = true) ax_t46 := ax_All.of (by decide +kernel)
set_option maxRecDepth 100000 in
theorem ax_e47 : ax_All (fun pc e => ax_okb ax_q47 pc e = true) ax_t47 := ax_All.of (by decide +kernel)
set_option maxRecDepth 100000 in
theorem ax_e48 : ax_All (fun pc e => ax_okb ax_q48 pc e = true) ax_t48 := ax_All.of (by decide +kernel)
set_option maxRecDepth 100000 in
theorem ax_e49 : ax_All (fun pc e => ax_okb ax_q49 pc e = true) ax_t49 := ax_All.of (by decide +kernel)
set_option maxRecDepth 100000 in
theorem ax_e50 : ax_All (fun pc e => ax_okb ax_q50 pc e = true) ax_t50 := ax_All.of (by decide +kernel)
set_option maxRecDepth 100000 in
theorem ax_e51 : ax_All (fun pc e => ax_okb ax_q51 pc e = true) ax_t51 := ax_All.of (by decide +kernel)
set_option maxRecDepth 100000 in
theorem ax_e52 : ax_All (fun pc e => ax_okb ax_q52 pc e = true) ax_t52 := ax_All.of (by decide +kernel)
set_option maxRecDepth 100000 in
theorem ax_e53 : ax_All (fun pc e => ax_okb ax_q53 pc e = true) ax_t53 := ax_All.of (by decide +kernel)
set_option maxRecDepth 100000 in
theorem ax_e54 : ax_All (fun pc e => ax_okb ax_q54 pc e = true) ax_t54 := ax_All.of (by decide +kernel)
set_option maxRecDepth 100000 in
theorem ax_e55 : ax_All (fun pc e => ax_okb ax_q55 pc e = true) ax_t55 := ax_All.of (by decide +kernel)
set_option maxRecDepth 100000 in
theorem ax_e56 : ax_All (fun pc e => ax_okb ax_q56 pc e = true) ax_t56 := ax_All.of (by decide +kernel)
set_option maxRecDepth 100000 in
theorem ax_e57 : ax_All (fun pc e => ax_okb ax_q57 pc e = true) ax_t57 := ax_All.of (by decide +kernel)
set_option maxRecDepth 100000 in
theorem ax_e58 : ax_All (fun pc e => ax_okb ax_q58 pc e = true) ax_t58 := ax_All.of (by decide +kernel)
set_option maxRecDepth 100000 in
theorem ax_e59 : ax_All (fun pc e => ax_okb ax_q59 pc e = true) ax_t59 := ax_All.of (by decide +kernel)
set_option maxRecDepth 100000 in
theorem ax_e60 : ax_All (fun pc e => ax_okb ax_q60 pc e = true) ax_t60 := ax_All.of (by decide +kernel)
set_option maxRecDepth 100000 in
theorem ax_e61 : ax_All (fun pc e => ax_okb ax_q61 pc e = true) ax_t61 := ax_All.of (by decide +kernel)
set_option maxRecDepth 100000 in
theorem ax_e62 : ax_All (fun pc e => ax_okb ax_q62 pc e = true) ax_t62 := ax_All.of (by decide +kernel)
set_option maxRecDepth 100000 in
theorem ax_e63 : ax_All (fun pc e => ax_okb ax_q63 pc e = true) ax_t63 := ax_All.of (by decide +kernel)
set_option maxRecDepth 100000 in
theorem ax_e64 : ax_All (fun pc e => ax_okb ax_q64 pc e = true) ax_t64 := ax_All.of (by decide +kernel)
set_option maxRecDepth 100000 in
theorem ax_e65 : ax_All (fun pc e => ax_okb ax_q65 pc e = true) ax_t65 := ax_All.of (by decide +kernel)
set_option maxRecDepth 100000 in
theorem ax_e66 : ax_All (fun pc e => ax_okb ax_q66 pc e = true) ax_t66 := ax_All.of (by decide +kernel)
set_option maxRecDepth 100000 in
theorem ax_e67 : ax_All (fun pc e => ax_okb ax_q67 pc e = true) ax_t67 := ax_All.of (by decide +kernel)
set_option maxRecDepth 100000 in
theorem ax_e68 : ax_All (fun pc e => ax_okb ax_q68 pc e = true) ax_t68 := ax_All.of (by decide +kernel)
set_option maxRecDepth 100000 in
theorem ax_e69 : ax_All (fun pc e => ax_okb ax_q69 pc e = true) ax_t69 := ax_All.of (by decide +kernel)
set_option maxRecDepth 100000 in
theorem ax_e70 : ax_All (fun pc e => ax_okb ax_q70 pc e = true) ax_t70 := ax_All.of (by decide +kernel)
set_option maxRecDepth 100000 in
theorem ax_e71 : ax_All (fun pc e => ax_okb ax_q71 pc e = true) ax_t71 := ax_All.of (by decide +kernel)
