/-! the linked code: all of it -/
theorem ax_e258 : ax_All (fun pc e => ax_okb ax_q258 pc e = true) ax_t258 := by
  unfold ax_t258
  exact (ax_All.c2 ax_l0 (ax_All.c2 ax_l1 (ax_All.c2 ax_l2 (ax_All.c2 ax_l3 (ax_All.c2 ax_l4 (ax_All.c2 ax_l5 (ax_All.c2 ax_l6 (ax_All.c2 ax_l7 (ax_All.c2 ax_l8 (ax_All.c2 ax_l9 (ax_All.c2 ax_l10 (ax_All.c2 ax_l11 (ax_All.c2 ax_l12 (ax_All.c2 ax_l13 (ax_All.c2 ax_l14 (ax_All.c2 ax_l15 (ax_All.c2 ax_l16 (ax_All.c2 ax_l17 (ax_All.c2 ax_l18 (ax_All.c2 ax_l19 (ax_All.c2 ax_l20 (ax_All.c2 ax_l21 (ax_All.c2 ax_l22 (ax_All.c2 ax_l23 (ax_All.c2 ax_l24 (ax_All.c2 ax_l25 (ax_All.c2 ax_l26 (ax_All.c2 ax_l27 (ax_All.c2 ax_l28 (ax_All.c2 ax_l29 (ax_All.c2 ax_l30 (ax_All.c2 ax_l31 (ax_All.c2 ax_l32 (ax_All.c2 ax_l33 (ax_All.c2 ax_l34 (ax_All.c2 ax_l35 (ax_All.c2 ax_l36 ax_All.n2)))))))))))))))))))))))))))))))))))))
set_option maxRecDepth 100000 in
theorem ax_all_tt : ax_All (fun i t => ax_All (fun pc e => ax_okb (ax_mm i) pc e = true) t) ax_tt := by
  unfold ax_tt
  exact (ax_All.c2 (ax_All.c1 ax_e0 (ax_All.c1 ax_e1 (ax_All.c1 ax_e2 (ax_All.c1 ax_e3 (ax_All.c1 ax_e4 (ax_All.c1 ax_e5 (ax_All.c1 ax_e6 (ax_All.c1 ax_e7 (ax_All.c1 ax_e8 (ax_All.c1 ax_e9 (ax_All.c1 ax_e10 (ax_All.c1 ax_e11 (ax_All.c1 ax_e12 (ax_All.c1 ax_e13 (ax_All.c1 ax_e14 (ax_All.c1 ax_e15 ax_All.n1)))))))))))))))) (ax_All.c2 (ax_All.c1 ax_e16 (ax_All.c1 ax_e17 (ax_All.c1 ax_e18 (ax_All.c1 ax_e19 (ax_All.c1 ax_e20 (ax_All.c1 ax_e21 (ax_All.c1 ax_e22 (ax_All.c1 ax_e23 (ax_All.c1 ax_e24 (ax_All.c1 ax_e25 (ax_All.c1 ax_e26 (ax_All.c1 ax_e27 (ax_All.c1 ax_e28 (ax_All.c1 ax_e29 (ax_All.c1 ax_e30 (ax_All.c1 ax_e31 ax_All.n1)))))))))))))))) (ax_All.c2 (ax_All.c1 ax_e32 (ax_All.c1 ax_e33 (ax_All.c1 ax_e34 (ax_All.c1 ax_e35 (ax_All.c1 ax_e36 (ax_All.c1 ax_e37 (ax_All.c1 ax_e38 (ax_All.c1 ax_e39 (ax_All.c1 ax_e40 (ax_All.c1 ax_e41 (ax_All.c1 ax_e42 (ax_All.c1 ax_e43 (ax_All.c1 ax_e44 (ax_All.c1 ax_e45 (ax_All.c1 ax_e46 (ax_All.c1 ax_e47 ax_All.n1)))))))))))))))) (ax_All.c2 (ax_All.c1 ax_e48 (ax_All.c1 ax_e49 (ax_All.c1 ax_e50 (ax_All.c1 ax_e51 (ax_All.c1 ax_e52 (ax_All.c1 ax_e53 (ax_All.c1 ax_e54 (ax_All.c1 ax_e55 (ax_All.c1 ax_e56 (ax_All.c1 ax_e57 (ax_All.c1 ax_e58 (ax_All.c1 ax_e59 (ax_All.c1 ax_e60 (ax_All.c1 ax_e61 (ax_All.c1 ax_e62 (ax_All.c1 ax_e63 ax_All.n1)))))))))))))))) (ax_All.c2 (ax_All.c1 ax_e64 (ax_All.c1 ax_e65 (ax_All.c1 ax_e66 (ax_All.c1 ax_e67 (ax_All.c1 ax_e68 (ax_All.c1 ax_e69 (ax_All.c1 ax_e70 (ax_All.c1 ax_e71 (ax_All.c1 ax_e72 (ax_All.c1 ax_e73 (ax_All.c1 ax_e74 (ax_All.c1 ax_e75 (ax_All.c1 ax_e76 (ax_All.c1 ax_e77 (ax_All.c1 ax_e78 (ax_All.c1 ax_e79 ax_All.n1)))))))))))))))) (ax_All.c2 (ax_All.c1 ax_e80 (ax_All.c1 ax_e81 (ax_All.c1 ax_e82 (ax_All.c1 ax_e83 (ax_All.c1 ax_e84 (ax_All.c1 ax_e85 (ax_All.c1 ax_e86 (ax_All.c1 ax_e87 (ax_All.c1 ax_e88 (ax_All.c1 ax_e89 (ax_All.c1 ax_e90 (ax_All.c1 ax_e91 (ax_All.c1 ax_e92 (ax_All.c1 ax_e93 (ax_All.c1 ax_e94 (ax_All.c1 ax_e95 ax_All.n1)))))))))))))))) (ax_All.c2 (ax_All.c1 ax_e96 (ax_All.c1 ax_e97 (ax_All.c1 ax_e98 (ax_All.c1 ax_e99 (ax_All.c1 ax_e100 (ax_All.c1 ax_e101 (ax_All.c1 ax_e102 (ax_All.c1 ax_e103 (ax_All.c1 ax_e104 (ax_All.c1 ax_e105 (ax_All.c1 ax_e106 (ax_All.c1 ax_e107 (ax_All.c1 ax_e108 (ax_All.c1 ax_e109 (ax_All.c1 ax_e110 (ax_All.c1 ax_e111 ax_All.n1)))))))))))))))) (ax_All.c2 (ax_All.c1 ax_e112 (ax_All.c1 ax_e113 (ax_All.c1 ax_e114 (ax_All.c1 ax_e115 (ax_All.c1 ax_e116 (ax_All.c1 ax_e117 (ax_All.c1 ax_e118 (ax_All.c1 ax_e119 (ax_All.c1 ax_e120 (ax_All.c1 ax_e121 (ax_All.c1 ax_e122 (ax_All.c1 ax_e123 (ax_All.c1 ax_e124 (ax_All.c1 ax_e125 (ax_All.c1 ax_e126 (ax_All.c1 ax_e127 ax_All.n1)))))))))))))))) (ax_All.c2 (ax_All.c1 ax_e128 (ax_All.c1 ax_e129 (ax_All.c1 ax_e130 (ax_All.c1 ax_e131 (ax_All.c1 ax_e132 (ax_All.c1 ax_e133 (ax_All.c1 ax_e134 (ax_All.c1 ax_e135 (ax_All.c1 ax_e136 (ax_All.c1 ax_e137 (ax_All.c1 ax_e138 (ax_All.c1 ax_e139 (ax_All.c1 ax_e140 (ax_All.c1 ax_e141 (ax_All.c1 ax_e142 (ax_All.c1 ax_e143 ax_All.n1)))))))))))))))) (ax_All.c2 (ax_All.c1 ax_e144 (ax_All.c1 ax_e145 (ax_All.c1 ax_e146 (ax_All.c1 ax_e147 (ax_All.c1 ax_e148 (ax_All.c1 ax_e149 (ax_All.c1 ax_e150 (ax_All.c1 ax_e151 (ax_All.c1 ax_e152 (ax_All.c1 ax_e153 (ax_All.c1 ax_e154 (ax_All.c1 ax_e155 (ax_All.c1 ax_e156 (ax_All.c1 ax_e157 (ax_All.c1 ax_e158 (ax_All.c1 ax_e159 ax_All.n1)))))))))))))))) (ax_All.c2 (ax_All.c1 ax_e160 (ax_All.c1 ax_e161 (ax_All.c1 ax_e162 (ax_All.c1 ax_e163 (ax_All.c1 ax_e164 (ax_All.c1 ax_e165 (ax_All.c1 ax_e166 (ax_All.c1 ax_e167 (ax_All.c1 ax_e168 (ax_All.c1 ax_e169 (ax_All.c1 ax_e170 (ax_All.c1 ax_e171 (ax_All.c1 ax_e172 (ax_All.c1 ax_e173 (ax_All.c1 ax_e174 (ax_All.c1 ax_e175 ax_All.n1)))))))))))))))) (ax_All.c2 (ax_All.c1 ax_e176 (ax_All.c1 ax_e177 (ax_All.c1 ax_e178 (ax_All.c1 ax_e179 (ax_All.c1 ax_e180 (ax_All.c1 ax_e181 (ax_All.c1 ax_e182 (ax_All.c1 ax_e183 (ax_All.c1 ax_e184 (ax_All.c1 ax_e185 (ax_All.c1 ax_e186 (ax_All.c1 ax_e187 (ax_All.c1 ax_e188 (ax_All.c1 ax_e189 (ax_All.c1 ax_e190 (ax_All.c1 ax_e191 ax_All.n1)))))))))))))))) (ax_All.c2 (ax_All.c1 ax_e192 (ax_All.c1 ax_e193 (ax_All.c1 ax_e194 (ax_All.c1 ax_e195 (ax_All.c1 ax_e196 (ax_All.c1 ax_e197 (ax_All.c1 ax_e198 (ax_All.c1 ax_e199 (ax_All.c1 ax_e200 (ax_All.c1 ax_e201 (ax_All.c1 ax_e202 (ax_All.c1 ax_e203 (ax_All.c1 ax_e204 (ax_All.c1 ax_e205 (ax_All.c1 ax_e206 (ax_All.c1 ax_e207 ax_All.n1)))))))))))))))) (ax_All.c2 (ax_All.c1 ax_e208 (ax_All.c1 ax_e209 (ax_All.c1 ax_e210 (ax_All.c1 ax_e211 (ax_All.c1 ax_e212 (ax_All.c1 ax_e213 (ax_All.c1 ax_e214 (ax_All.c1 ax_e215 (ax_All.c1 ax_e216 (ax_All.c1 ax_e217 (ax_All.c1 ax_e218 (ax_All.c1 ax_e219 (ax_All.c1 ax_e220 (ax_All.c1 ax_e221 (ax_All.c1 ax_e222 (ax_All.c1 ax_e223 ax_All.n1)))))))))))))))) (ax_All.c2 (ax_All.c1 ax_e224 (ax_All.c1 ax_e225 (ax_All.c1 ax_e226 (ax_All.c1 ax_e227 (ax_All.c1 ax_e228 (ax_All.c1 ax_e229 (ax_All.c1 ax_e230 (ax_All.c1 ax_e231 (ax_All.c1 ax_e232 (ax_All.c1 ax_e233 (ax_All.c1 ax_e234 (ax_All.c1 ax_e235 (ax_All.c1 ax_e236 (ax_All.c1 ax_e237 (ax_All.c1 ax_e238 (ax_All.c1 ax_e239 ax_All.n1)))))))))))))))) (ax_All.c2 (ax_All.c1 ax_e240 (ax_All.c1 ax_e241 (ax_All.c1 ax_e242 (ax_All.c1 ax_e243 (ax_All.c1 ax_e244 (ax_All.c1 ax_e245 (ax_All.c1 ax_e246 (ax_All.c1 ax_e247 (ax_All.c1 ax_e248 (ax_All.c1 ax_e249 (ax_All.c1 ax_e250 (ax_All.c1 ax_e251 (ax_All.c1 ax_e252 (ax_All.c1 ax_e253 (ax_All.c1 ax_e254 (ax_All.c1 ax_e255 ax_All.n1)))))))))))))))) (ax_All.c2 (ax_All.c1 ax_e256 (ax_All.c1 ax_e257 (ax_All.c1 ax_e258 ax_All.n1))) ax_All.n2)))))))))))))))))
set_option maxRecDepth 100000 in
theorem ax_f0 : ax_mkb ax_q0 (1197, 1012, false, 1196) = true := by decide +kernel
set_option maxRecDepth 100000 in
theorem ax_f1 : ax_mkb ax_q1 (3115, 1012, false, 3113) = true := by decide +kernel
set_option maxRecDepth 100000 in
theorem ax_f2 : ax_mkb ax_q2 (3136, 1012, false, 3134) = true := by decide +kernel
set_option maxRecDepth 100000 in
theorem ax_f3 : ax_mkb ax_q3 (3131, 1012, false, 3129) = true := by decide +kernel
set_option maxRecDepth 100000 in
theorem ax_f4 : ax_mkb ax_q4 (3119, 1012, false, 3117) = true := by decide +kernel
set_option maxRecDepth 100000 in
theorem ax_f5 : ax_mkb ax_q5 (6049, 1012, false, 6047) = true := by decide +kernel
set_option maxRecDepth 100000 in
theorem ax_f6 : ax_mkb ax_q6 (1148, 1009, false, 1147) = true := by decide +kernel
set_option maxRecDepth 100000 in
theorem ax_f7 : ax_mkb ax_q7 (3091, 1009, false, 3089) = true := by decide +kernel
set_option maxRecDepth 100000 in
theorem ax_f8 : ax_mkb ax_q8 (5047, 1009, false, 5045) = true := by decide +kernel
set_option maxRecDepth 100000 in
theorem ax_f9 : ax_mkb ax_q9 (5176, 1009, false, 5174) = true := by decide +kernel
set_option maxRecDepth 100000 in
theorem ax_f10 : ax_mkb ax_q10 (5172, 1009, false, 5170) = true := by decide +kernel
set_option maxRecDepth 100000 in
theorem ax_f11 : ax_mkb ax_q11 (3127, 1009, false, 3125) = true := by decide +kernel
set_option maxRecDepth 100000 in
theorem ax_f12 : ax_mkb ax_q12 (5217, 1009, false, 5215) = true := by decide +kernel
set_option maxRecDepth 100000 in
theorem ax_f13 : ax_mkb ax_q13 (3123, 1009, false, 3121) = true := by decide +kernel
set_option maxRecDepth 100000 in
theorem ax_f14 : ax_mkb ax_q14 (5084, 1009, false, 5082) = true := by decide +kernel
set_option maxRecDepth 100000 in
theorem ax_f15 : ax_mkb ax_q15 (5088, 1009, false, 5087) = true := by decide +kernel
set_option maxRecDepth 100000 in
theorem ax_f16 : ax_mkb ax_q16 (4227, 1009, false, 4225) = true := by decide +kernel
set_option maxRecDepth 100000 in
theorem ax_f17 : ax_mkb ax_q17 (4233, 1009, false, 4232) = true := by decide +kernel
set_option maxRecDepth 100000 in
theorem ax_f18 : ax_mkb ax_q18 (2115, 1009, false, 2113) = true := by decide +kernel
set_option maxRecDepth 100000 in
theorem ax_f19 : ax_mkb ax_q19 (1131, 1008, false, 1130) = true := by decide +kernel
set_option maxRecDepth 100000 in
theorem ax_f20 : ax_mkb ax_q20 (3068, 1008, false, 3066) = true := by decide +kernel
set_option maxRecDepth 100000 in
theorem ax_f21 : ax_mkb ax_q21 (3073, 1008, false, 3071) = true := by decide +kernel
set_option maxRecDepth 100000 in
theorem ax_f22 : ax_mkb ax_q22 (5114, 1008, false, 5112) = true := by decide +kernel
set_option maxRecDepth 100000 in
theorem ax_f23 : ax_mkb ax_q23 (5146, 1008, false, 5144) = true := by decide +kernel
set_option maxRecDepth 100000 in
theorem ax_f24 : ax_mkb ax_q24 (5157, 1008, false, 5155) = true := by decide +kernel
set_option maxRecDepth 100000 in
theorem ax_f25 : ax_mkb ax_q25 (5181, 1008, false, 5179) = true := by decide +kernel
set_option maxRecDepth 100000 in
theorem ax_f26 : ax_mkb ax_q26 (3081, 1008, false, 3079) = true := by decide +kernel
set_option maxRecDepth 100000 in
theorem ax_f27 : ax_mkb ax_q27 (5122, 1008, false, 5120) = true := by decide +kernel
set_option maxRecDepth 100000 in
theorem ax_f28 : ax_mkb ax_q28 (1182, 1011, false, 1181) = true := by decide +kernel
set_option maxRecDepth 100000 in
theorem ax_f29 : ax_mkb ax_q29 (5236, 1011, false, 5234) = true := by decide +kernel
set_option maxRecDepth 100000 in
theorem ax_f30 : ax_mkb ax_q30 (6045, 1011, false, 6043) = true := by decide +kernel
set_option maxRecDepth 100000 in
theorem ax_f31 : ax_mkb ax_q31 (6155, 1011, false, 6153) = true := by decide +kernel
set_option maxRecDepth 100000 in
theorem ax_f32 : ax_mkb ax_q32 (5232, 1011, false, 5230) = true := by decide +kernel
set_option maxRecDepth 100000 in
theorem ax_f33 : ax_mkb ax_q33 (2074, 1011, false, 2072) = true := by decide +kernel
set_option maxRecDepth 100000 in
theorem ax_f34 : ax_mkb ax_q34 (1169, 1010, false, 1168) = true := by decide +kernel
set_option maxRecDepth 100000 in
theorem ax_f35 : ax_mkb ax_q35 (6118, 1010, false, 6116) = true := by decide +kernel
set_option maxRecDepth 100000 in
theorem ax_f36 : ax_mkb ax_q36 (3107, 1010, false, 3105) = true := by decide +kernel
set_option maxRecDepth 100000 in
theorem ax_f37 : ax_mkb ax_q37 (3095, 1010, false, 3093) = true := by decide +kernel
set_option maxRecDepth 100000 in
theorem ax_f38 : ax_mkb ax_q38 (6110, 1010, false, 6108) = true := by decide +kernel
set_option maxRecDepth 100000 in
theorem ax_f39 : ax_mkb ax_q39 (3099, 1010, false, 3098) = true := by decide +kernel
set_option maxRecDepth 100000 in
theorem ax_f40 : ax_mkb ax_q40 (1218, 1014, false, 1217) = true := by decide +kernel
set_option maxRecDepth 100000 in
theorem ax_f41 : ax_mkb ax_q41 (6160, 1014, false, 6158) = true := by decide +kernel
set_option maxRecDepth 100000 in
theorem ax_f42 : ax_mkb ax_q42 (3103, 1014, false, 3101) = true := by decide +kernel
set_option maxRecDepth 100000 in
theorem ax_f43 : ax_mkb ax_q43 (3160, 1014, false, 3158) = true := by decide +kernel
set_option maxRecDepth 100000 in
theorem ax_f44 : ax_mkb ax_q44 (2082, 1014, false, 2080) = true := by decide +kernel
set_option maxRecDepth 100000 in
theorem ax_f45 : ax_mkb ax_q45 (2105, 1014, false, 2103) = true := by decide +kernel
set_option maxRecDepth 100000 in
theorem ax_f46 : ax_mkb ax_q46 (6114, 1014, false, 6112) = true := by decide +kernel
set_option maxRecDepth 100000 in
theorem ax_f47 : ax_mkb ax_q47 (2089, 1014, false, 2088) = true := by decide +kernel
set_option maxRecDepth 100000 in
theorem ax_f48 : ax_mkb ax_q48 (1061, 1003, false, 1060) = true := by decide +kernel
set_option maxRecDepth 100000 in
theorem ax_f49 : ax_mkb ax_q49 (3047, 1003, false, 3045) = true := by decide +kernel
set_option maxRecDepth 100000 in
theorem ax_f50 : ax_mkb ax_q50 (3056, 1003, false, 3054) = true := by decide +kernel
set_option maxRecDepth 100000 in
theorem ax_f51 : ax_mkb ax_q51 (3141, 1003, false, 3139) = true := by decide +kernel
set_option maxRecDepth 100000 in
theorem ax_f52 : ax_mkb ax_q52 (3060, 1003, false, 3058) = true := by decide +kernel
set_option maxRecDepth 100000 in
theorem ax_f53 : ax_mkb ax_q53 (3145, 1003, false, 3143) = true := by decide +kernel
set_option maxRecDepth 100000 in
theorem ax_f54 : ax_mkb ax_q54 (3064, 1003, false, 3063) = true := by decide +kernel
set_option maxRecDepth 100000 in
theorem ax_f55 : ax_mkb ax_q55 (2234, 1003, false, 2232) = true := by decide +kernel
set_option maxRecDepth 100000 in
theorem ax_f56 : ax_mkb ax_q56 (3022, 1003, false, 3021) = true := by decide +kernel
set_option maxRecDepth 100000 in
theorem ax_f57 : ax_mkb ax_q57 (3030, 1003, false, 3029) = true := by decide +kernel
set_option maxRecDepth 100000 in
theorem ax_f58 : ax_mkb ax_q58 (3034, 1003, false, 3033) = true := by decide +kernel
set_option maxRecDepth 100000 in
theorem ax_f59 : ax_mkb ax_q59 (3038, 1003, false, 3037) = true := by decide +kernel
set_option maxRecDepth 100000 in
theorem ax_f60 : ax_mkb ax_q60 (3026, 1003, false, 3025) = true := by decide +kernel
set_option maxRecDepth 100000 in
theorem ax_f61 : ax_mkb ax_q61 (2239, 1003, false, 2238) = true := by decide +kernel
set_option maxRecDepth 100000 in
theorem ax_f62 : ax_mkb ax_q62 (3010, 1003, false, 3009) = true := by decide +kernel
set_option maxRecDepth 100000 in
theorem ax_f63 : ax_mkb ax_q63 (3018, 1003, false, 3017) = true := by decide +kernel
set_option maxRecDepth 100000 in
theorem ax_f64 : ax_mkb ax_q64 (3014, 1003, false, 3013) = true := by decide +kernel
set_option maxRecDepth 100000 in
theorem ax_f65 : ax_mkb ax_q65 (3006, 1003, true, 3005) = true := by decide +kernel
set_option maxRecDepth 100000 in
theorem ax_f66 : ax_mkb ax_q66 (1046, 1002, false, 1045) = true := by decide +kernel
set_option maxRecDepth 100000 in
theorem ax_f67 : ax_mkb ax_q67 (2199, 1002, false, 2197) = true := by decide +kernel
set_option maxRecDepth 100000 in
theorem ax_f68 : ax_mkb ax_q68 (3003, 1002, false, 3001) = true := by decide +kernel
set_option maxRecDepth 100000 in
theorem ax_f69 : ax_mkb ax_q69 (1038, 1001, false, 1037) = true := by decide +kernel
set_option maxRecDepth 100000 in
theorem ax_f70 : ax_mkb ax_q70 (2124, 1001, false, 2122) = true := by decide +kernel
set_option maxRecDepth 100000 in
theorem ax_f71 : ax_mkb ax_q71 (2207, 1001, false, 2205) = true := by decide +kernel
set_option maxRecDepth 100000 in
theorem ax_f72 : ax_mkb ax_q72 (2230, 1001, false, 2228) = true := by decide +kernel
set_option maxRecDepth 100000 in
theorem ax_f73 : ax_mkb ax_q73 (3152, 1001, false, 3150) = true := by decide +kernel
set_option maxRecDepth 100000 in
theorem ax_f74 : ax_mkb ax_q74 (2046, 1001, false, 2044) = true := by decide +kernel
set_option maxRecDepth 100000 in
theorem ax_f75 : ax_mkb ax_q75 (3191, 1001, false, 3189) = true := by decide +kernel
set_option maxRecDepth 100000 in
theorem ax_f76 : ax_mkb ax_q76 (5025, 1001, false, 5023) = true := by decide +kernel
set_option maxRecDepth 100000 in
theorem ax_f77 : ax_mkb ax_q77 (2050, 1001, false, 2048) = true := by decide +kernel
set_option maxRecDepth 100000 in
theorem ax_f78 : ax_mkb ax_q78 (5043, 1001, false, 5041) = true := by decide +kernel
set_option maxRecDepth 100000 in
theorem ax_f79 : ax_mkb ax_q79 (5054, 1001, false, 5052) = true := by decide +kernel
set_option maxRecDepth 100000 in
theorem ax_f80 : ax_mkb ax_q80 (5061, 1001, false, 5059) = true := by decide +kernel
set_option maxRecDepth 100000 in
theorem ax_f81 : ax_mkb ax_q81 (5072, 1001, false, 5070) = true := by decide +kernel
set_option maxRecDepth 100000 in
theorem ax_f82 : ax_mkb ax_q82 (5080, 1001, false, 5078) = true := by decide +kernel
set_option maxRecDepth 100000 in
theorem ax_f83 : ax_mkb ax_q83 (5109, 1001, false, 5107) = true := by decide +kernel
set_option maxRecDepth 100000 in
theorem ax_f84 : ax_mkb ax_q84 (5133, 1001, false, 5131) = true := by decide +kernel
set_option maxRecDepth 100000 in
theorem ax_f85 : ax_mkb ax_q85 (5141, 1001, false, 5139) = true := by decide +kernel
set_option maxRecDepth 100000 in
theorem ax_f86 : ax_mkb ax_q86 (5153, 1001, false, 5151) = true := by decide +kernel
set_option maxRecDepth 100000 in
theorem ax_f87 : ax_mkb ax_q87 (5164, 1001, false, 5162) = true := by decide +kernel
set_option maxRecDepth 100000 in
theorem ax_f88 : ax_mkb ax_q88 (5188, 1001, false, 5186) = true := by decide +kernel
set_option maxRecDepth 100000 in
theorem ax_f89 : ax_mkb ax_q89 (5201, 1001, false, 5199) = true := by decide +kernel
set_option maxRecDepth 100000 in
theorem ax_f90 : ax_mkb ax_q90 (5209, 1001, false, 5207) = true := by decide +kernel
set_option maxRecDepth 100000 in
theorem ax_f91 : ax_mkb ax_q91 (5224, 1001, false, 5222) = true := by decide +kernel
set_option maxRecDepth 100000 in
theorem ax_f92 : ax_mkb ax_q92 (6003, 1001, false, 6001) = true := by decide +kernel
set_option maxRecDepth 100000 in
theorem ax_f93 : ax_mkb ax_q93 (6015, 1001, false, 6013) = true := by decide +kernel
set_option maxRecDepth 100000 in
theorem ax_f94 : ax_mkb ax_q94 (6038, 1001, false, 6036) = true := by decide +kernel
set_option maxRecDepth 100000 in
theorem ax_f95 : ax_mkb ax_q95 (6057, 1001, false, 6055) = true := by decide +kernel
set_option maxRecDepth 100000 in
theorem ax_f96 : ax_mkb ax_q96 (2054, 1001, false, 2052) = true := by decide +kernel
set_option maxRecDepth 100000 in
theorem ax_f97 : ax_mkb ax_q97 (2058, 1001, false, 2056) = true := by decide +kernel
set_option maxRecDepth 100000 in
theorem ax_f98 : ax_mkb ax_q98 (6065, 1001, false, 6063) = true := by decide +kernel
set_option maxRecDepth 100000 in
theorem ax_f99 : ax_mkb ax_q99 (2062, 1001, false, 2060) = true := by decide +kernel
set_option maxRecDepth 100000 in
theorem ax_f100 : ax_mkb ax_q100 (6072, 1001, false, 6070) = true := by decide +kernel
set_option maxRecDepth 100000 in
theorem ax_f101 : ax_mkb ax_q101 (2101, 1001, false, 2099) = true := by decide +kernel
set_option maxRecDepth 100000 in
theorem ax_f102 : ax_mkb ax_q102 (6083, 1001, false, 6081) = true := by decide +kernel
set_option maxRecDepth 100000 in
theorem ax_f103 : ax_mkb ax_q103 (6094, 1001, false, 6092) = true := by decide +kernel
set_option maxRecDepth 100000 in
theorem ax_f104 : ax_mkb ax_q104 (6102, 1001, false, 6100) = true := by decide +kernel
set_option maxRecDepth 100000 in
theorem ax_f105 : ax_mkb ax_q105 (6127, 1001, false, 6125) = true := by decide +kernel
set_option maxRecDepth 100000 in
theorem ax_f106 : ax_mkb ax_q106 (6134, 1001, false, 6132) = true := by decide +kernel
set_option maxRecDepth 100000 in
theorem ax_f107 : ax_mkb ax_q107 (6143, 1001, false, 6141) = true := by decide +kernel
set_option maxRecDepth 100000 in
theorem ax_f108 : ax_mkb ax_q108 (6150, 1001, false, 6148) = true := by decide +kernel
set_option maxRecDepth 100000 in
theorem ax_f109 : ax_mkb ax_q109 (6168, 1001, false, 6166) = true := by decide +kernel
set_option maxRecDepth 100000 in
theorem ax_f110 : ax_mkb ax_q110 (2109, 1001, false, 2107) = true := by decide +kernel
set_option maxRecDepth 100000 in
theorem ax_f111 : ax_mkb ax_q111 (3195, 1001, false, 3194) = true := by decide +kernel
set_option maxRecDepth 100000 in
theorem ax_f112 : ax_mkb ax_q112 (5064, 1001, true, 5063) = true := by decide +kernel
set_option maxRecDepth 100000 in
theorem ax_f113 : ax_mkb ax_q113 (5167, 1001, true, 5166) = true := by decide +kernel
set_option maxRecDepth 100000 in
theorem ax_f114 : ax_mkb ax_q114 (6006, 1001, true, 6005) = true := by decide +kernel
set_option maxRecDepth 100000 in
theorem ax_f115 : ax_mkb ax_q115 (3051, 1001, false, 3050) = true := by decide +kernel
set_option maxRecDepth 100000 in
theorem ax_f116 : ax_mkb ax_q116 (6075, 1001, true, 6074) = true := by decide +kernel
set_option maxRecDepth 100000 in
theorem ax_f117 : ax_mkb ax_q117 (3042, 1001, false, 3041) = true := by decide +kernel
set_option maxRecDepth 100000 in
theorem ax_f118 : ax_mkb ax_q118 (5118, 1001, false, 5117) = true := by decide +kernel
set_option maxRecDepth 100000 in
theorem ax_f119 : ax_mkb ax_q119 (3077, 1001, false, 3076) = true := by decide +kernel
set_option maxRecDepth 100000 in
theorem ax_f120 : ax_mkb ax_q120 (3156, 1001, false, 3155) = true := by decide +kernel
set_option maxRecDepth 100000 in
theorem ax_f121 : ax_mkb ax_q121 (3111, 1001, false, 3110) = true := by decide +kernel
set_option maxRecDepth 100000 in
theorem ax_f122 : ax_mkb ax_q122 (2066, 1001, false, 2065) = true := by decide +kernel
set_option maxRecDepth 100000 in
theorem ax_f123 : ax_mkb ax_q123 (2070, 1001, false, 2069) = true := by decide +kernel
set_option maxRecDepth 100000 in
theorem ax_f124 : ax_mkb ax_q124 (2078, 1001, false, 2077) = true := by decide +kernel
set_option maxRecDepth 100000 in
theorem ax_f125 : ax_mkb ax_q125 (6087, 1001, false, 6086) = true := by decide +kernel
set_option maxRecDepth 100000 in
theorem ax_f126 : ax_mkb ax_q126 (6106, 1001, false, 6105) = true := by decide +kernel
set_option maxRecDepth 100000 in
theorem ax_f127 : ax_mkb ax_q127 (5213, 1001, false, 5212) = true := by decide +kernel
set_option maxRecDepth 100000 in
theorem ax_f128 : ax_mkb ax_q128 (5228, 1001, false, 5227) = true := by decide +kernel
set_option maxRecDepth 100000 in
theorem ax_f129 : ax_mkb ax_q129 (5193, 1001, true, 5192) = true := by decide +kernel
set_option maxRecDepth 100000 in
theorem ax_f130 : ax_mkb ax_q130 (6174, 1015, false, 6173) = true := by decide +kernel
set_option maxRecDepth 100000 in
theorem ax_f131 : ax_mkb ax_q131 (7037, 1015, false, 7035) = true := by decide +kernel
set_option maxRecDepth 100000 in
theorem ax_f132 : ax_mkb ax_q132 (7045, 1015, false, 7044) = true := by decide +kernel
set_option maxRecDepth 100000 in
theorem ax_f133 : ax_mkb ax_q133 (7163, 1015, false, 7162) = true := by decide +kernel
set_option maxRecDepth 100000 in
theorem ax_f134 : ax_mkb ax_q134 (8010, 1015, true, 8009) = true := by decide +kernel
set_option maxRecDepth 100000 in
theorem ax_f135 : ax_mkb ax_q135 (7199, 1015, true, 7198) = true := by decide +kernel
set_option maxRecDepth 100000 in
theorem ax_f136 : ax_mkb ax_q136 (7124, 1015, false, 7123) = true := by decide +kernel
set_option maxRecDepth 100000 in
theorem ax_f137 : ax_mkb ax_q137 (7098, 1015, false, 7097) = true := by decide +kernel
set_option maxRecDepth 100000 in
theorem ax_f138 : ax_mkb ax_q138 (7102, 1015, false, 7101) = true := by decide +kernel
set_option maxRecDepth 100000 in
theorem ax_f139 : ax_mkb ax_q139 (7219, 1015, false, 7218) = true := by decide +kernel
set_option maxRecDepth 100000 in
theorem ax_f140 : ax_mkb ax_q140 (7106, 1015, false, 7105) = true := by decide +kernel
set_option maxRecDepth 100000 in
theorem ax_f141 : ax_mkb ax_q141 (7227, 1015, false, 7226) = true := by decide +kernel
set_option maxRecDepth 100000 in
theorem ax_f142 : ax_mkb ax_q142 (7112, 1015, false, 7111) = true := by decide +kernel
set_option maxRecDepth 100000 in
theorem ax_f143 : ax_mkb ax_q143 (7041, 1015, false, 7039) = true := by decide +kernel
set_option maxRecDepth 100000 in
theorem ax_f144 : ax_mkb ax_q144 (7049, 1015, false, 7047) = true := by decide +kernel
set_option maxRecDepth 100000 in
theorem ax_f145 : ax_mkb ax_q145 (7065, 1015, false, 7064) = true := by decide +kernel
set_option maxRecDepth 100000 in
theorem ax_f146 : ax_mkb ax_q146 (7068, 1015, true, 7067) = true := by decide +kernel
set_option maxRecDepth 100000 in
theorem ax_f147 : ax_mkb ax_q147 (7061, 1015, false, 7060) = true := by decide +kernel
set_option maxRecDepth 100000 in
theorem ax_f148 : ax_mkb ax_q148 (7080, 1015, false, 7079) = true := by decide +kernel
set_option maxRecDepth 100000 in
theorem ax_f149 : ax_mkb ax_q149 (7086, 1015, false, 7085) = true := by decide +kernel
set_option maxRecDepth 100000 in
theorem ax_f150 : ax_mkb ax_q150 (7076, 1015, false, 7075) = true := by decide +kernel
set_option maxRecDepth 100000 in
theorem ax_f151 : ax_mkb ax_q151 (7072, 1015, false, 7071) = true := by decide +kernel
set_option maxRecDepth 100000 in
theorem ax_f152 : ax_mkb ax_q152 (7057, 1015, false, 7056) = true := by decide +kernel
set_option maxRecDepth 100000 in
theorem ax_f153 : ax_mkb ax_q153 (7094, 1015, false, 7093) = true := by decide +kernel
set_option maxRecDepth 100000 in
theorem ax_f154 : ax_mkb ax_q154 (7090, 1015, false, 7089) = true := by decide +kernel
set_option maxRecDepth 100000 in
theorem ax_f155 : ax_mkb ax_q155 (7132, 1015, false, 7131) = true := by decide +kernel
set_option maxRecDepth 100000 in
theorem ax_f156 : ax_mkb ax_q156 (7053, 1015, false, 7051) = true := by decide +kernel
set_option maxRecDepth 100000 in
theorem ax_f157 : ax_mkb ax_q157 (7151, 1015, false, 7150) = true := by decide +kernel
set_option maxRecDepth 100000 in
theorem ax_f158 : ax_mkb ax_q158 (7140, 1015, false, 7139) = true := by decide +kernel
set_option maxRecDepth 100000 in
theorem ax_f159 : ax_mkb ax_q159 (7136, 1015, false, 7134) = true := by decide +kernel
set_option maxRecDepth 100000 in
theorem ax_f160 : ax_mkb ax_q160 (7155, 1015, false, 7153) = true := by decide +kernel
set_option maxRecDepth 100000 in
theorem ax_f161 : ax_mkb ax_q161 (7167, 1015, false, 7166) = true := by decide +kernel
set_option maxRecDepth 100000 in
theorem ax_f162 : ax_mkb ax_q162 (7171, 1015, false, 7170) = true := by decide +kernel
set_option maxRecDepth 100000 in
theorem ax_f163 : ax_mkb ax_q163 (7159, 1015, false, 7157) = true := by decide +kernel
set_option maxRecDepth 100000 in
theorem ax_f164 : ax_mkb ax_q164 (7176, 1015, false, 7174) = true := by decide +kernel
set_option maxRecDepth 100000 in
theorem ax_f165 : ax_mkb ax_q165 (7180, 1015, false, 7178) = true := by decide +kernel
set_option maxRecDepth 100000 in
theorem ax_f166 : ax_mkb ax_q166 (7188, 1015, false, 7187) = true := by decide +kernel
set_option maxRecDepth 100000 in
theorem ax_f167 : ax_mkb ax_q167 (7184, 1015, false, 7182) = true := by decide +kernel
set_option maxRecDepth 100000 in
theorem ax_f168 : ax_mkb ax_q168 (7192, 1015, false, 7190) = true := by decide +kernel
set_option maxRecDepth 100000 in
theorem ax_f169 : ax_mkb ax_q169 (7196, 1015, false, 7194) = true := by decide +kernel
set_option maxRecDepth 100000 in
theorem ax_f170 : ax_mkb ax_q170 (7120, 1015, false, 7119) = true := by decide +kernel
set_option maxRecDepth 100000 in
theorem ax_f171 : ax_mkb ax_q171 (7203, 1015, false, 7201) = true := by decide +kernel
set_option maxRecDepth 100000 in
theorem ax_f172 : ax_mkb ax_q172 (7211, 1015, false, 7210) = true := by decide +kernel
set_option maxRecDepth 100000 in
theorem ax_f173 : ax_mkb ax_q173 (7207, 1015, false, 7205) = true := by decide +kernel
set_option maxRecDepth 100000 in
theorem ax_f174 : ax_mkb ax_q174 (7223, 1015, false, 7222) = true := by decide +kernel
set_option maxRecDepth 100000 in
theorem ax_f175 : ax_mkb ax_q175 (7215, 1015, false, 7213) = true := by decide +kernel
set_option maxRecDepth 100000 in
theorem ax_f176 : ax_mkb ax_q176 (7232, 1015, false, 7230) = true := by decide +kernel
set_option maxRecDepth 100000 in
theorem ax_f177 : ax_mkb ax_q177 (7239, 1015, true, 7238) = true := by decide +kernel
set_option maxRecDepth 100000 in
theorem ax_f178 : ax_mkb ax_q178 (7236, 1015, false, 7234) = true := by decide +kernel
set_option maxRecDepth 100000 in
theorem ax_f179 : ax_mkb ax_q179 (8003, 1015, false, 8001) = true := by decide +kernel
set_option maxRecDepth 100000 in
theorem ax_f180 : ax_mkb ax_q180 (8007, 1015, false, 8005) = true := by decide +kernel
set_option maxRecDepth 100000 in
theorem ax_f181 : ax_mkb ax_q181 (8017, 1015, true, 8016) = true := by decide +kernel
set_option maxRecDepth 100000 in
theorem ax_f182 : ax_mkb ax_q182 (8014, 1015, false, 8012) = true := by decide +kernel
set_option maxRecDepth 100000 in
theorem ax_f183 : ax_mkb ax_q183 (8021, 1015, false, 8019) = true := by decide +kernel
set_option maxRecDepth 100000 in
theorem ax_f184 : ax_mkb ax_q184 (8029, 1015, false, 8028) = true := by decide +kernel
set_option maxRecDepth 100000 in
theorem ax_f185 : ax_mkb ax_q185 (8025, 1015, false, 8023) = true := by decide +kernel
set_option maxRecDepth 100000 in
theorem ax_f186 : ax_mkb ax_q186 (8033, 1015, false, 8031) = true := by decide +kernel
set_option maxRecDepth 100000 in
theorem ax_f187 : ax_mkb ax_q187 (8036, 1015, true, 8035) = true := by decide +kernel
set_option maxRecDepth 100000 in
theorem ax_f188 : ax_mkb ax_q188 (8043, 1015, true, 8042) = true := by decide +kernel
set_option maxRecDepth 100000 in
theorem ax_f189 : ax_mkb ax_q189 (8040, 1015, false, 8038) = true := by decide +kernel
set_option maxRecDepth 100000 in
theorem ax_f190 : ax_mkb ax_q190 (8047, 1015, false, 8045) = true := by decide +kernel
set_option maxRecDepth 100000 in
theorem ax_f191 : ax_mkb ax_q191 (7116, 1015, false, 7115) = true := by decide +kernel
set_option maxRecDepth 100000 in
theorem ax_f192 : ax_mkb ax_q192 (7128, 1015, false, 7127) = true := by decide +kernel
set_option maxRecDepth 100000 in
theorem ax_f193 : ax_mkb ax_q193 (8055, 1015, false, 8054) = true := by decide +kernel
set_option maxRecDepth 100000 in
theorem ax_f194 : ax_mkb ax_q194 (8051, 1015, false, 8049) = true := by decide +kernel
set_option maxRecDepth 100000 in
theorem ax_f195 : ax_mkb ax_q195 (8059, 1015, false, 8057) = true := by decide +kernel
set_option maxRecDepth 100000 in
theorem ax_f196 : ax_mkb ax_q196 (8063, 1015, false, 8061) = true := by decide +kernel
set_option maxRecDepth 100000 in
theorem ax_f197 : ax_mkb ax_q197 (8067, 1015, false, 8065) = true := by decide +kernel
set_option maxRecDepth 100000 in
theorem ax_f198 : ax_mkb ax_q198 (8071, 1015, false, 8069) = true := by decide +kernel
set_option maxRecDepth 100000 in
theorem ax_f199 : ax_mkb ax_q199 (7147, 1015, true, 7146) = true := by decide +kernel
set_option maxRecDepth 100000 in
theorem ax_f200 : ax_mkb ax_q200 (7144, 1015, false, 7143) = true := by decide +kernel
set_option maxRecDepth 100000 in
theorem ax_f201 : ax_mkb ax_q201 (8083, 1015, false, 8082) = true := by decide +kernel
set_option maxRecDepth 100000 in
theorem ax_f202 : ax_mkb ax_q202 (8079, 1015, false, 8078) = true := by decide +kernel
set_option maxRecDepth 100000 in
theorem ax_f203 : ax_mkb ax_q203 (8075, 1015, false, 8073) = true := by decide +kernel
set_option maxRecDepth 100000 in
theorem ax_f204 : ax_mkb ax_q204 (8090, 1015, true, 8089) = true := by decide +kernel
set_option maxRecDepth 100000 in
theorem ax_f205 : ax_mkb ax_q205 (8087, 1015, false, 8085) = true := by decide +kernel
set_option maxRecDepth 100000 in
theorem ax_f206 : ax_mkb ax_q206 (8094, 1015, false, 8092) = true := by decide +kernel
set_option maxRecDepth 100000 in
theorem ax_f207 : ax_mkb ax_q207 (8098, 1015, false, 8096) = true := by decide +kernel
set_option maxRecDepth 100000 in
theorem ax_f208 : ax_mkb ax_q208 (8102, 1015, false, 8100) = true := by decide +kernel
set_option maxRecDepth 100000 in
theorem ax_f209 : ax_mkb ax_q209 (8114, 1015, false, 8113) = true := by decide +kernel
set_option maxRecDepth 100000 in
theorem ax_f210 : ax_mkb ax_q210 (8110, 1015, false, 8109) = true := by decide +kernel
set_option maxRecDepth 100000 in
theorem ax_f211 : ax_mkb ax_q211 (8106, 1015, false, 8104) = true := by decide +kernel
set_option maxRecDepth 100000 in
theorem ax_f212 : ax_mkb ax_q212 (8118, 1015, false, 8116) = true := by decide +kernel
set_option maxRecDepth 100000 in
theorem ax_f213 : ax_mkb ax_q213 (8126, 1015, false, 8125) = true := by decide +kernel
set_option maxRecDepth 100000 in
theorem ax_f214 : ax_mkb ax_q214 (8122, 1015, false, 8120) = true := by decide +kernel
set_option maxRecDepth 100000 in
theorem ax_f215 : ax_mkb ax_q215 (8130, 1015, false, 8128) = true := by decide +kernel
set_option maxRecDepth 100000 in
theorem ax_f216 : ax_mkb ax_q216 (8134, 1015, false, 8132) = true := by decide +kernel
set_option maxRecDepth 100000 in
theorem ax_f217 : ax_mkb ax_q217 (8138, 1015, false, 8136) = true := by decide +kernel
set_option maxRecDepth 100000 in
theorem ax_f218 : ax_mkb ax_q218 (8142, 1015, false, 8140) = true := by decide +kernel
set_option maxRecDepth 100000 in
theorem ax_f219 : ax_mkb ax_q219 (2119, 1000, true, 2118) = true := by decide +kernel
set_option maxRecDepth 100000 in
theorem ax_f220 : ax_mkb ax_q220 (2202, 1000, true, 2201) = true := by decide +kernel
set_option maxRecDepth 100000 in
theorem ax_f221 : ax_mkb ax_q221 (2226, 1000, true, 2225) = true := by decide +kernel
set_option maxRecDepth 100000 in
theorem ax_f222 : ax_mkb ax_q222 (3148, 1000, true, 3147) = true := by decide +kernel
set_option maxRecDepth 100000 in
theorem ax_f223 : ax_mkb ax_q223 (3163, 1000, true, 3162) = true := by decide +kernel
set_option maxRecDepth 100000 in
theorem ax_f224 : ax_mkb ax_q224 (5021, 1000, true, 5020) = true := by decide +kernel
set_option maxRecDepth 100000 in
theorem ax_f225 : ax_mkb ax_q225 (5039, 1000, true, 5038) = true := by decide +kernel
set_option maxRecDepth 100000 in
theorem ax_f226 : ax_mkb ax_q226 (5050, 1000, true, 5049) = true := by decide +kernel
set_option maxRecDepth 100000 in
theorem ax_f227 : ax_mkb ax_q227 (5057, 1000, true, 5056) = true := by decide +kernel
set_option maxRecDepth 100000 in
theorem ax_f228 : ax_mkb ax_q228 (5068, 1000, true, 5067) = true := by decide +kernel
set_option maxRecDepth 100000 in
theorem ax_f229 : ax_mkb ax_q229 (5076, 1000, true, 5075) = true := by decide +kernel
set_option maxRecDepth 100000 in
theorem ax_f230 : ax_mkb ax_q230 (5091, 1000, true, 5090) = true := by decide +kernel
set_option maxRecDepth 100000 in
theorem ax_f231 : ax_mkb ax_q231 (5129, 1000, true, 5128) = true := by decide +kernel
set_option maxRecDepth 100000 in
theorem ax_f232 : ax_mkb ax_q232 (5137, 1000, true, 5136) = true := by decide +kernel
set_option maxRecDepth 100000 in
theorem ax_f233 : ax_mkb ax_q233 (5149, 1000, true, 5148) = true := by decide +kernel
set_option maxRecDepth 100000 in
theorem ax_f234 : ax_mkb ax_q234 (5160, 1000, true, 5159) = true := by decide +kernel
set_option maxRecDepth 100000 in
theorem ax_f235 : ax_mkb ax_q235 (5184, 1000, true, 5183) = true := by decide +kernel
set_option maxRecDepth 100000 in
theorem ax_f236 : ax_mkb ax_q236 (5197, 1000, true, 5196) = true := by decide +kernel
set_option maxRecDepth 100000 in
theorem ax_f237 : ax_mkb ax_q237 (5205, 1000, true, 5204) = true := by decide +kernel
set_option maxRecDepth 100000 in
theorem ax_f238 : ax_mkb ax_q238 (5220, 1000, true, 5219) = true := by decide +kernel
set_option maxRecDepth 100000 in
theorem ax_f239 : ax_mkb ax_q239 (5239, 1000, true, 5238) = true := by decide +kernel
set_option maxRecDepth 100000 in
theorem ax_f240 : ax_mkb ax_q240 (6010, 1000, true, 6009) = true := by decide +kernel
set_option maxRecDepth 100000 in
theorem ax_f241 : ax_mkb ax_q241 (6034, 1000, true, 6033) = true := by decide +kernel
set_option maxRecDepth 100000 in
theorem ax_f242 : ax_mkb ax_q242 (6053, 1000, true, 6052) = true := by decide +kernel
set_option maxRecDepth 100000 in
theorem ax_f243 : ax_mkb ax_q243 (6061, 1000, true, 6060) = true := by decide +kernel
set_option maxRecDepth 100000 in
theorem ax_f244 : ax_mkb ax_q244 (6068, 1000, true, 6067) = true := by decide +kernel
set_option maxRecDepth 100000 in
theorem ax_f245 : ax_mkb ax_q245 (6079, 1000, true, 6078) = true := by decide +kernel
set_option maxRecDepth 100000 in
theorem ax_f246 : ax_mkb ax_q246 (6090, 1000, true, 6089) = true := by decide +kernel
set_option maxRecDepth 100000 in
theorem ax_f247 : ax_mkb ax_q247 (6098, 1000, true, 6097) = true := by decide +kernel
set_option maxRecDepth 100000 in
theorem ax_f248 : ax_mkb ax_q248 (6123, 1000, true, 6122) = true := by decide +kernel
set_option maxRecDepth 100000 in
theorem ax_f249 : ax_mkb ax_q249 (6130, 1000, true, 6129) = true := by decide +kernel
set_option maxRecDepth 100000 in
theorem ax_f250 : ax_mkb ax_q250 (6139, 1000, true, 6138) = true := by decide +kernel
set_option maxRecDepth 100000 in
theorem ax_f251 : ax_mkb ax_q251 (6146, 1000, true, 6145) = true := by decide +kernel
set_option maxRecDepth 100000 in
theorem ax_f252 : ax_mkb ax_q252 (6164, 1000, true, 6163) = true := by decide +kernel
set_option maxRecDepth 100000 in
theorem ax_f253 : ax_mkb ax_q253 (1201, 1013, true, 1200) = true := by decide +kernel
set_option maxRecDepth 100000 in
theorem ax_f254 : ax_mkb ax_q254 (1223, 1013, true, 1222) = true := by decide +kernel
set_option maxRecDepth 100000 in
theorem ax_f255 : ax_mkb ax_q255 (2094, 1033, true, 2093) = true := by decide +kernel
set_option maxRecDepth 100000 in
theorem ax_f256 : ax_mkb ax_q256 (1096, 1005, false, 1095) = true := by decide +kernel
set_option maxRecDepth 100000 in
theorem ax_f257 : ax_mkb ax_q257 (1099, 1004, false, 1098) = true := by decide +kernel
set_option maxRecDepth 100000 in
theorem ax_all_mw : ax_All (fun i w => ax_mkb (ax_mm i) w = true) ax_mwt := by
  unfold ax_mwt
  exact (ax_All.c2 (ax_All.c1 ax_f0 (ax_All.c1 ax_f1 (ax_All.c1 ax_f2 (ax_All.c1 ax_f3 (ax_All.c1 ax_f4 (ax_All.c1 ax_f5 (ax_All.c1 ax_f6 (ax_All.c1 ax_f7 (ax_All.c1 ax_f8 (ax_All.c1 ax_f9 (ax_All.c1 ax_f10 (ax_All.c1 ax_f11 (ax_All.c1 ax_f12 (ax_All.c1 ax_f13 (ax_All.c1 ax_f14 (ax_All.c1 ax_f15 ax_All.n1)))))))))))))))) (ax_All.c2 (ax_All.c1 ax_f16 (ax_All.c1 ax_f17 (ax_All.c1 ax_f18 (ax_All.c1 ax_f19 (ax_All.c1 ax_f20 (ax_All.c1 ax_f21 (ax_All.c1 ax_f22 (ax_All.c1 ax_f23 (ax_All.c1 ax_f24 (ax_All.c1 ax_f25 (ax_All.c1 ax_f26 (ax_All.c1 ax_f27 (ax_All.c1 ax_f28 (ax_All.c1 ax_f29 (ax_All.c1 ax_f30 (ax_All.c1 ax_f31 ax_All.n1)))))))))))))))) (ax_All.c2 (ax_All.c1 ax_f32 (ax_All.c1 ax_f33 (ax_All.c1 ax_f34 (ax_All.c1 ax_f35 (ax_All.c1 ax_f36 (ax_All.c1 ax_f37 (ax_All.c1 ax_f38 (ax_All.c1 ax_f39 (ax_All.c1 ax_f40 (ax_All.c1 ax_f41 (ax_All.c1 ax_f42 (ax_All.c1 ax_f43 (ax_All.c1 ax_f44 (ax_All.c1 ax_f45 (ax_All.c1 ax_f46 (ax_All.c1 ax_f47 ax_All.n1)))))))))))))))) (ax_All.c2 (ax_All.c1 ax_f48 (ax_All.c1 ax_f49 (ax_All.c1 ax_f50 (ax_All.c1 ax_f51 (ax_All.c1 ax_f52 (ax_All.c1 ax_f53 (ax_All.c1 ax_f54 (ax_All.c1 ax_f55 (ax_All.c1 ax_f56 (ax_All.c1 ax_f57 (ax_All.c1 ax_f58 (ax_All.c1 ax_f59 (ax_All.c1 ax_f60 (ax_All.c1 ax_f61 (ax_All.c1 ax_f62 (ax_All.c1 ax_f63 ax_All.n1)))))))))))))))) (ax_All.c2 (ax_All.c1 ax_f64 (ax_All.c1 ax_f65 (ax_All.c1 ax_f66 (ax_All.c1 ax_f67 (ax_All.c1 ax_f68 (ax_All.c1 ax_f69 (ax_All.c1 ax_f70 (ax_All.c1 ax_f71 (ax_All.c1 ax_f72 (ax_All.c1 ax_f73 (ax_All.c1 ax_f74 (ax_All.c1 ax_f75 (ax_All.c1 ax_f76 (ax_All.c1 ax_f77 (ax_All.c1 ax_f78 (ax_All.c1 ax_f79 ax_All.n1)))))))))))))))) (ax_All.c2 (ax_All.c1 ax_f80 (ax_All.c1 ax_f81 (ax_All.c1 ax_f82 (ax_All.c1 ax_f83 (ax_All.c1 ax_f84 (ax_All.c1 ax_f85 (ax_All.c1 ax_f86 (ax_All.c1 ax_f87 (ax_All.c1 ax_f88 (ax_All.c1 ax_f89 (ax_All.c1 ax_f90 (ax_All.c1 ax_f91 (ax_All.c1 ax_f92 (ax_All.c1 ax_f93 (ax_All.c1 ax_f94 (ax_All.c1 ax_f95 ax_All.n1)))))))))))))))) (ax_All.c2 (ax_All.c1 ax_f96 (ax_All.c1 ax_f97 (ax_All.c1 ax_f98 (ax_All.c1 ax_f99 (ax_All.c1 ax_f100 (ax_All.c1 ax_f101 (ax_All.c1 ax_f102 (ax_All.c1 ax_f103 (ax_All.c1 ax_f104 (ax_All.c1 ax_f105 (ax_All.c1 ax_f106 (ax_All.c1 ax_f107 (ax_All.c1 ax_f108 (ax_All.c1 ax_f109 (ax_All.c1 ax_f110 (ax_All.c1 ax_f111 ax_All.n1)))))))))))))))) (ax_All.c2 (ax_All.c1 ax_f112 (ax_All.c1 ax_f113 (ax_All.c1 ax_f114 (ax_All.c1 ax_f115 (ax_All.c1 ax_f116 (ax_All.c1 ax_f117 (ax_All.c1 ax_f118 (ax_All.c1 ax_f119 (ax_All.c1 ax_f120 (ax_All.c1 ax_f121 (ax_All.c1 ax_f122 (ax_All.c1 ax_f123 (ax_All.c1 ax_f124 (ax_All.c1 ax_f125 (ax_All.c1 ax_f126 (ax_All.c1 ax_f127 ax_All.n1)))))))))))))))) (ax_All.c2 (ax_All.c1 ax_f128 (ax_All.c1 ax_f129 (ax_All.c1 ax_f130 (ax_All.c1 ax_f131 (ax_All.c1 ax_f132 (ax_All.c1 ax_f133 (ax_All.c1 ax_f134 (ax_All.c1 ax_f135 (ax_All.c1 ax_f136 (ax_All.c1 ax_f137 (ax_All.c1 ax_f138 (ax_All.c1 ax_f139 (ax_All.c1 ax_f140 (ax_All.c1 ax_f141 (ax_All.c1 ax_f142 (ax_All.c1 ax_f143 ax_All.n1)))))))))))))))) (ax_All.c2 (ax_All.c1 ax_f144 (ax_All.c1 ax_f145 (ax_All.c1 ax_f146 (ax_All.c1 ax_f147 (ax_All.c1 ax_f148 (ax_All.c1 ax_f149 (ax_All.c1 ax_f150 (ax_All.c1 ax_f151 (ax_All.c1 ax_f152 (ax_All.c1 ax_f153 (ax_All.c1 ax_f154 (ax_All.c1 ax_f155 (ax_All.c1 ax_f156 (ax_All.c1 ax_f157 (ax_All.c1 ax_f158 (ax_All.c1 ax_f159 ax_All.n1)))))))))))))))) (ax_All.c2 (ax_All.c1 ax_f160 (ax_All.c1 ax_f161 (ax_All.c1 ax_f162 (ax_All.c1 ax_f163 (ax_All.c1 ax_f164 (ax_All.c1 ax_f165 (ax_All.c1 ax_f166 (ax_All.c1 ax_f167 (ax_All.c1 ax_f168 (ax_All.c1 ax_f169 (ax_All.c1 ax_f170 (ax_All.c1 ax_f171 (ax_All.c1 ax_f172 (ax_All.c1 ax_f173 (ax_All.c1 ax_f174 (ax_All.c1 ax_f175 ax_All.n1)))))))))))))))) (ax_All.c2 (ax_All.c1 ax_f176 (ax_All.c1 ax_f177 (ax_All.c1 ax_f178 (ax_All.c1 ax_f179 (ax_All.c1 ax_f180 (ax_All.c1 ax_f181 (ax_All.c1 ax_f182 (ax_All.c1 ax_f183 (ax_All.c1 ax_f184 (ax_All.c1 ax_f185 (ax_All.c1 ax_f186 (ax_All.c1 ax_f187 (ax_All.c1 ax_f188 (ax_All.c1 ax_f189 (ax_All.c1 ax_f190 (ax_All.c1 ax_f191 ax_All.n1)))))))))))))))) (ax_All.c2 (ax_All.c1 ax_f192 (ax_All.c1 ax_f193 (ax_All.c1 ax_f194 (ax_All.c1 ax_f195 (ax_All.c1 ax_f196 (ax_All.c1 ax_f197 (ax_All.c1 ax_f198 (ax_All.c1 ax_f199 (ax_All.c1 ax_f200 (ax_All.c1 ax_f201 (ax_All.c1 ax_f202 (ax_All.c1 ax_f203 (ax_All.c1 ax_f204 (ax_All.c1 ax_f205 (ax_All.c1 ax_f206 (ax_All.c1 ax_f207 ax_All.n1)))))))))))))))) (ax_All.c2 (ax_All.c1 ax_f208 (ax_All.c1 ax_f209 (ax_All.c1 ax_f210 (ax_All.c1 ax_f211 (ax_All.c1 ax_f212 (ax_All.c1 ax_f213 (ax_All.c1 ax_f214 (ax_All.c1 ax_f215 (ax_All.c1 ax_f216 (ax_All.c1 ax_f217 (ax_All.c1 ax_f218 (ax_All.c1 ax_f219 (ax_All.c1 ax_f220 (ax_All.c1 ax_f221 (ax_All.c1 ax_f222 (ax_All.c1 ax_f223 ax_All.n1)))))))))))))))) (ax_All.c2 (ax_All.c1 ax_f224 (ax_All.c1 ax_f225 (ax_All.c1 ax_f226 (ax_All.c1 ax_f227 (ax_All.c1 ax_f228 (ax_All.c1 ax_f229 (ax_All.c1 ax_f230 (ax_All.c1 ax_f231 (ax_All.c1 ax_f232 (ax_All.c1 ax_f233 (ax_All.c1 ax_f234 (ax_All.c1 ax_f235 (ax_All.c1 ax_f236 (ax_All.c1 ax_f237 (ax_All.c1 ax_f238 (ax_All.c1 ax_f239 ax_All.n1)))))))))))))))) (ax_All.c2 (ax_All.c1 ax_f240 (ax_All.c1 ax_f241 (ax_All.c1 ax_f242 (ax_All.c1 ax_f243 (ax_All.c1 ax_f244 (ax_All.c1 ax_f245 (ax_All.c1 ax_f246 (ax_All.c1 ax_f247 (ax_All.c1 ax_f248 (ax_All.c1 ax_f249 (ax_All.c1 ax_f250 (ax_All.c1 ax_f251 (ax_All.c1 ax_f252 (ax_All.c1 ax_f253 (ax_All.c1 ax_f254 (ax_All.c1 ax_f255 ax_All.n1)))))))))))))))) (ax_All.c2 (ax_All.c1 ax_f256 (ax_All.c1 ax_f257 ax_All.n1)) ax_All.n2)))))))))))))))))
theorem ax_look_ok {i pc : Nat} {e : ax_E2} (h : ax_look i pc = some e) : decode (ax_mm i).2.1 pc = .ok (e.1, ax_len e.1) ∧ (¬ e.2.1.1 = 900 → ax_okx (ax_mm i) e.1 e.2.1.1 e.2.1.2.1 e.2.1.2.2 e.2.2.1 e.2.2.2 = true) := by
  have h3 : ax_okb (ax_mm i) pc e = true := by
    unfold ax_look at h
    cases ht : ax_f2 ax_tt i with
    | none => rw [ht] at h; cases h
    | some t =>
      rw [ht] at h
      exact ax_f2_ok (ax_f2_ok ax_all_tt ht) (show ax_f2 t pc = some e from h)
  simp only [ax_okb, Bool.and_eq_true, decide_eq_true_eq, Bool.or_eq_true] at h3
  refine ⟨h3.1, fun ha => ?_⟩
  rcases h3.2 with q | q
  · exact absurd (Nat.eq_of_beq_eq_true q) ha
  · exact q
noncomputable def ax_has (i : Nat) : Bool := (ax_f2 ax_mwt i).isSome
theorem ax_mfacts {i : Nat} (hi : ax_has i = true) : ax_hd (ax_mm i) ∈ ax_tb ∧ Cond.initialized (ax_mm i).1.cls ∈ ax_tb ∧ (Cond.static (ax_mm i).1 ∈ ax_tb ∨ Cond.instanceMethod (ax_mm i).1 ∈ ax_tb) ∧ (ax_mm i).1.cls ≠ "java/lang/invoke/MethodHandle" ∧ (ax_mm i).1.cls ≠ "java/lang/invoke/VarHandle" ∧ (ax_mm i).2.2.1 ≤ 21 ∧ plainName (ax_mm i).1.cls = true := by
  obtain ⟨w, hw⟩ := Option.isSome_iff_exists.mp hi
  have h1 := ax_f2_ok ax_all_mw hw
  generalize ax_mm i = y at h1 ⊢
  simp only [ax_mkb, Bool.and_eq_true, decide_eq_true_eq] at h1
  obtain ⟨⟨⟨⟨⟨⟨a1, a2⟩, a3⟩, a4⟩, a5⟩, a6⟩, a7⟩ := h1
  refine ⟨ax_wk_mem a1, ax_wk_mem a2, ?_, a4, a5, Nat.le_of_ble_eq_true a6, a7⟩
  split at a3
  · exact Or.inl (ax_wk_mem a3)
  · exact Or.inr (ax_wk_mem a3)
