/-! the methods themselves -/
set_option maxRecDepth 100000 in
theorem ax_mg0 : ax_mkb ax_q0 (1193, 1012, false, 1192) = true := by decide +kernel
set_option maxRecDepth 100000 in
theorem ax_mg1 : ax_mkb ax_q1 (3083, 1012, false, 3081) = true := by decide +kernel
set_option maxRecDepth 100000 in
theorem ax_mg2 : ax_mkb ax_q2 (3104, 1012, false, 3102) = true := by decide +kernel
set_option maxRecDepth 100000 in
theorem ax_mg3 : ax_mkb ax_q3 (3099, 1012, false, 3097) = true := by decide +kernel
set_option maxRecDepth 100000 in
theorem ax_mg4 : ax_mkb ax_q4 (3087, 1012, false, 3085) = true := by decide +kernel
set_option maxRecDepth 100000 in
theorem ax_mg5 : ax_mkb ax_q5 (5001, 1003, false, 4239) = true := by decide +kernel
set_option maxRecDepth 100000 in
theorem ax_mg6 : ax_mkb ax_q6 (1144, 1009, false, 1143) = true := by decide +kernel
set_option maxRecDepth 100000 in
theorem ax_mg7 : ax_mkb ax_q7 (2201, 1009, false, 2199) = true := by decide +kernel
set_option maxRecDepth 100000 in
theorem ax_mg8 : ax_mkb ax_q8 (5001, 1003, false, 4239) = true := by decide +kernel
set_option maxRecDepth 100000 in
theorem ax_mg9 : ax_mkb ax_q9 (5001, 1003, false, 4239) = true := by decide +kernel
set_option maxRecDepth 100000 in
theorem ax_mg10 : ax_mkb ax_q10 (5001, 1003, false, 4239) = true := by decide +kernel
set_option maxRecDepth 100000 in
theorem ax_mg11 : ax_mkb ax_q11 (3095, 1009, false, 3093) = true := by decide +kernel
set_option maxRecDepth 100000 in
theorem ax_mg12 : ax_mkb ax_q12 (5001, 1003, false, 4239) = true := by decide +kernel
set_option maxRecDepth 100000 in
theorem ax_mg13 : ax_mkb ax_q13 (3091, 1009, false, 3089) = true := by decide +kernel
set_option maxRecDepth 100000 in
theorem ax_mg14 : ax_mkb ax_q14 (3131, 1009, false, 3129) = true := by decide +kernel
set_option maxRecDepth 100000 in
theorem ax_mg15 : ax_mkb ax_q15 (3135, 1009, false, 3134) = true := by decide +kernel
set_option maxRecDepth 100000 in
theorem ax_mg16 : ax_mkb ax_q16 (5001, 1003, false, 4239) = true := by decide +kernel
set_option maxRecDepth 100000 in
theorem ax_mg17 : ax_mkb ax_q17 (5001, 1003, false, 4239) = true := by decide +kernel
set_option maxRecDepth 100000 in
theorem ax_mg18 : ax_mkb ax_q18 (5001, 1003, false, 4239) = true := by decide +kernel
set_option maxRecDepth 100000 in
theorem ax_mg19 : ax_mkb ax_q19 (1127, 1008, false, 1126) = true := by decide +kernel
set_option maxRecDepth 100000 in
theorem ax_mg20 : ax_mkb ax_q20 (2178, 1008, false, 2176) = true := by decide +kernel
set_option maxRecDepth 100000 in
theorem ax_mg21 : ax_mkb ax_q21 (2183, 1008, false, 2181) = true := by decide +kernel
set_option maxRecDepth 100000 in
theorem ax_mg22 : ax_mkb ax_q22 (3042, 1008, false, 3040) = true := by decide +kernel
set_option maxRecDepth 100000 in
theorem ax_mg23 : ax_mkb ax_q23 (3114, 1008, false, 3112) = true := by decide +kernel
set_option maxRecDepth 100000 in
theorem ax_mg24 : ax_mkb ax_q24 (3122, 1008, false, 3120) = true := by decide +kernel
set_option maxRecDepth 100000 in
theorem ax_mg25 : ax_mkb ax_q25 (5001, 1003, false, 4239) = true := by decide +kernel
set_option maxRecDepth 100000 in
theorem ax_mg26 : ax_mkb ax_q26 (2191, 1008, false, 2189) = true := by decide +kernel
set_option maxRecDepth 100000 in
theorem ax_mg27 : ax_mkb ax_q27 (3050, 1008, false, 3048) = true := by decide +kernel
set_option maxRecDepth 100000 in
theorem ax_mg28 : ax_mkb ax_q28 (1178, 1011, false, 1177) = true := by decide +kernel
set_option maxRecDepth 100000 in
theorem ax_mg29 : ax_mkb ax_q29 (5046, 1011, false, 5044) = true := by decide +kernel
set_option maxRecDepth 100000 in
theorem ax_mg30 : ax_mkb ax_q30 (5001, 1003, false, 4239) = true := by decide +kernel
set_option maxRecDepth 100000 in
theorem ax_mg31 : ax_mkb ax_q31 (5001, 1003, false, 4239) = true := by decide +kernel
set_option maxRecDepth 100000 in
theorem ax_mg32 : ax_mkb ax_q32 (5042, 1011, false, 5040) = true := by decide +kernel
set_option maxRecDepth 100000 in
theorem ax_mg33 : ax_mkb ax_q33 (3147, 1011, false, 3145) = true := by decide +kernel
set_option maxRecDepth 100000 in
theorem ax_mg34 : ax_mkb ax_q34 (1165, 1010, false, 1164) = true := by decide +kernel
set_option maxRecDepth 100000 in
theorem ax_mg35 : ax_mkb ax_q35 (5001, 1003, false, 4239) = true := by decide +kernel
set_option maxRecDepth 100000 in
theorem ax_mg36 : ax_mkb ax_q36 (2221, 1010, false, 2219) = true := by decide +kernel
set_option maxRecDepth 100000 in
theorem ax_mg37 : ax_mkb ax_q37 (2205, 1010, false, 2203) = true := by decide +kernel
set_option maxRecDepth 100000 in
theorem ax_mg38 : ax_mkb ax_q38 (5001, 1003, false, 4239) = true := by decide +kernel
set_option maxRecDepth 100000 in
theorem ax_mg39 : ax_mkb ax_q39 (2209, 1010, false, 2208) = true := by decide +kernel
set_option maxRecDepth 100000 in
theorem ax_mg40 : ax_mkb ax_q40 (1213, 1014, false, 1212) = true := by decide +kernel
set_option maxRecDepth 100000 in
theorem ax_mg41 : ax_mkb ax_q41 (5001, 1003, false, 4239) = true := by decide +kernel
set_option maxRecDepth 100000 in
theorem ax_mg42 : ax_mkb ax_q42 (3075, 1014, false, 3073) = true := by decide +kernel
set_option maxRecDepth 100000 in
theorem ax_mg43 : ax_mkb ax_q43 (2217, 1014, false, 2215) = true := by decide +kernel
set_option maxRecDepth 100000 in
theorem ax_mg44 : ax_mkb ax_q44 (5021, 1014, false, 5019) = true := by decide +kernel
set_option maxRecDepth 100000 in
theorem ax_mg45 : ax_mkb ax_q45 (3155, 1014, false, 3153) = true := by decide +kernel
set_option maxRecDepth 100000 in
theorem ax_mg46 : ax_mkb ax_q46 (5001, 1003, false, 4239) = true := by decide +kernel
set_option maxRecDepth 100000 in
theorem ax_mg47 : ax_mkb ax_q47 (3159, 1014, false, 3158) = true := by decide +kernel
set_option maxRecDepth 100000 in
theorem ax_mg48 : ax_mkb ax_q48 (1058, 1003, false, 1057) = true := by decide +kernel
set_option maxRecDepth 100000 in
theorem ax_mg49 : ax_mkb ax_q49 (5001, 1003, false, 4239) = true := by decide +kernel
set_option maxRecDepth 100000 in
theorem ax_mg50 : ax_mkb ax_q50 (2166, 1003, false, 2164) = true := by decide +kernel
set_option maxRecDepth 100000 in
theorem ax_mg51 : ax_mkb ax_q51 (2225, 1003, false, 2223) = true := by decide +kernel
set_option maxRecDepth 100000 in
theorem ax_mg52 : ax_mkb ax_q52 (2170, 1003, false, 2168) = true := by decide +kernel
set_option maxRecDepth 100000 in
theorem ax_mg53 : ax_mkb ax_q53 (2229, 1003, false, 2227) = true := by decide +kernel
set_option maxRecDepth 100000 in
theorem ax_mg54 : ax_mkb ax_q54 (2174, 1003, false, 2173) = true := by decide +kernel
set_option maxRecDepth 100000 in
theorem ax_mg55 : ax_mkb ax_q55 (2045, 1003, false, 2043) = true := by decide +kernel
set_option maxRecDepth 100000 in
theorem ax_mg56 : ax_mkb ax_q56 (2073, 1003, false, 2072) = true := by decide +kernel
set_option maxRecDepth 100000 in
theorem ax_mg57 : ax_mkb ax_q57 (2081, 1003, false, 2080) = true := by decide +kernel
set_option maxRecDepth 100000 in
theorem ax_mg58 : ax_mkb ax_q58 (2085, 1003, false, 2084) = true := by decide +kernel
set_option maxRecDepth 100000 in
theorem ax_mg59 : ax_mkb ax_q59 (2089, 1003, false, 2088) = true := by decide +kernel
set_option maxRecDepth 100000 in
theorem ax_mg60 : ax_mkb ax_q60 (2077, 1003, false, 2076) = true := by decide +kernel
set_option maxRecDepth 100000 in
theorem ax_mg61 : ax_mkb ax_q61 (2050, 1003, false, 2049) = true := by decide +kernel
set_option maxRecDepth 100000 in
theorem ax_mg62 : ax_mkb ax_q62 (2061, 1003, false, 2060) = true := by decide +kernel
set_option maxRecDepth 100000 in
theorem ax_mg63 : ax_mkb ax_q63 (2069, 1003, false, 2068) = true := by decide +kernel
set_option maxRecDepth 100000 in
theorem ax_mg64 : ax_mkb ax_q64 (2065, 1003, false, 2064) = true := by decide +kernel
set_option maxRecDepth 100000 in
theorem ax_mg65 : ax_mkb ax_q65 (2057, 1003, true, 2056) = true := by decide +kernel
set_option maxRecDepth 100000 in
theorem ax_mg66 : ax_mkb ax_q66 (1043, 1002, false, 1042) = true := by decide +kernel
set_option maxRecDepth 100000 in
theorem ax_mg67 : ax_mkb ax_q67 (4008, 1002, false, 4006) = true := by decide +kernel
set_option maxRecDepth 100000 in
theorem ax_mg68 : ax_mkb ax_q68 (2054, 1002, false, 2052) = true := by decide +kernel
set_option maxRecDepth 100000 in
theorem ax_mg69 : ax_mkb ax_q69 (1035, 1001, false, 1034) = true := by decide +kernel
set_option maxRecDepth 100000 in
theorem ax_mg70 : ax_mkb ax_q70 (4003, 1001, false, 4001) = true := by decide +kernel
set_option maxRecDepth 100000 in
theorem ax_mg71 : ax_mkb ax_q71 (4012, 1001, false, 4010) = true := by decide +kernel
set_option maxRecDepth 100000 in
theorem ax_mg72 : ax_mkb ax_q72 (4237, 1001, false, 4235) = true := by decide +kernel
set_option maxRecDepth 100000 in
theorem ax_mg73 : ax_mkb ax_q73 (2041, 1001, false, 2039) = true := by decide +kernel
set_option maxRecDepth 100000 in
theorem ax_mg74 : ax_mkb ax_q74 (5001, 1003, false, 4239) = true := by decide +kernel
set_option maxRecDepth 100000 in
theorem ax_mg75 : ax_mkb ax_q75 (5001, 1003, false, 4239) = true := by decide +kernel
set_option maxRecDepth 100000 in
theorem ax_mg76 : ax_mkb ax_q76 (5001, 1003, false, 4239) = true := by decide +kernel
set_option maxRecDepth 100000 in
theorem ax_mg77 : ax_mkb ax_q77 (2233, 1001, false, 2231) = true := by decide +kernel
set_option maxRecDepth 100000 in
theorem ax_mg78 : ax_mkb ax_q78 (5001, 1003, false, 4239) = true := by decide +kernel
set_option maxRecDepth 100000 in
theorem ax_mg79 : ax_mkb ax_q79 (5001, 1003, false, 4239) = true := by decide +kernel
set_option maxRecDepth 100000 in
theorem ax_mg80 : ax_mkb ax_q80 (5001, 1003, false, 4239) = true := by decide +kernel
set_option maxRecDepth 100000 in
theorem ax_mg81 : ax_mkb ax_q81 (5001, 1003, false, 4239) = true := by decide +kernel
set_option maxRecDepth 100000 in
theorem ax_mg82 : ax_mkb ax_q82 (5001, 1003, false, 4239) = true := by decide +kernel
set_option maxRecDepth 100000 in
theorem ax_mg83 : ax_mkb ax_q83 (2237, 1001, false, 2235) = true := by decide +kernel
set_option maxRecDepth 100000 in
theorem ax_mg84 : ax_mkb ax_q84 (5001, 1003, false, 4239) = true := by decide +kernel
set_option maxRecDepth 100000 in
theorem ax_mg85 : ax_mkb ax_q85 (3109, 1001, false, 3107) = true := by decide +kernel
set_option maxRecDepth 100000 in
theorem ax_mg86 : ax_mkb ax_q86 (3118, 1001, false, 3116) = true := by decide +kernel
set_option maxRecDepth 100000 in
theorem ax_mg87 : ax_mkb ax_q87 (5001, 1003, false, 4239) = true := by decide +kernel
set_option maxRecDepth 100000 in
theorem ax_mg88 : ax_mkb ax_q88 (5001, 1003, false, 4239) = true := by decide +kernel
set_option maxRecDepth 100000 in
theorem ax_mg89 : ax_mkb ax_q89 (3126, 1001, false, 3124) = true := by decide +kernel
set_option maxRecDepth 100000 in
theorem ax_mg90 : ax_mkb ax_q90 (5001, 1003, false, 4239) = true := by decide +kernel
set_option maxRecDepth 100000 in
theorem ax_mg91 : ax_mkb ax_q91 (5001, 1003, false, 4239) = true := by decide +kernel
set_option maxRecDepth 100000 in
theorem ax_mg92 : ax_mkb ax_q92 (5001, 1003, false, 4239) = true := by decide +kernel
set_option maxRecDepth 100000 in
theorem ax_mg93 : ax_mkb ax_q93 (5001, 1003, false, 4239) = true := by decide +kernel
set_option maxRecDepth 100000 in
theorem ax_mg94 : ax_mkb ax_q94 (5001, 1003, false, 4239) = true := by decide +kernel
set_option maxRecDepth 100000 in
theorem ax_mg95 : ax_mkb ax_q95 (5001, 1003, false, 4239) = true := by decide +kernel
set_option maxRecDepth 100000 in
theorem ax_mg96 : ax_mkb ax_q96 (5001, 1003, false, 4239) = true := by decide +kernel
set_option maxRecDepth 100000 in
theorem ax_mg97 : ax_mkb ax_q97 (5001, 1003, false, 4239) = true := by decide +kernel
set_option maxRecDepth 100000 in
theorem ax_mg98 : ax_mkb ax_q98 (5001, 1003, false, 4239) = true := by decide +kernel
set_option maxRecDepth 100000 in
theorem ax_mg99 : ax_mkb ax_q99 (5001, 1003, false, 4239) = true := by decide +kernel
set_option maxRecDepth 100000 in
theorem ax_mg100 : ax_mkb ax_q100 (5001, 1003, false, 4239) = true := by decide +kernel
set_option maxRecDepth 100000 in
theorem ax_mg101 : ax_mkb ax_q101 (3139, 1001, false, 3137) = true := by decide +kernel
set_option maxRecDepth 100000 in
theorem ax_mg102 : ax_mkb ax_q102 (5001, 1003, false, 4239) = true := by decide +kernel
set_option maxRecDepth 100000 in
theorem ax_mg103 : ax_mkb ax_q103 (5001, 1003, false, 4239) = true := by decide +kernel
set_option maxRecDepth 100000 in
theorem ax_mg104 : ax_mkb ax_q104 (5001, 1003, false, 4239) = true := by decide +kernel
set_option maxRecDepth 100000 in
theorem ax_mg105 : ax_mkb ax_q105 (5001, 1003, false, 4239) = true := by decide +kernel
set_option maxRecDepth 100000 in
theorem ax_mg106 : ax_mkb ax_q106 (5009, 1001, false, 5007) = true := by decide +kernel
set_option maxRecDepth 100000 in
theorem ax_mg107 : ax_mkb ax_q107 (3171, 1001, false, 3169) = true := by decide +kernel
set_option maxRecDepth 100000 in
theorem ax_mg108 : ax_mkb ax_q108 (5001, 1003, false, 4239) = true := by decide +kernel
set_option maxRecDepth 100000 in
theorem ax_mg109 : ax_mkb ax_q109 (5001, 1003, false, 4239) = true := by decide +kernel
set_option maxRecDepth 100000 in
theorem ax_mg110 : ax_mkb ax_q110 (5001, 1003, false, 4239) = true := by decide +kernel
set_option maxRecDepth 100000 in
theorem ax_mg111 : ax_mkb ax_q111 (3001, 1001, false, 3000) = true := by decide +kernel
set_option maxRecDepth 100000 in
theorem ax_mg112 : ax_mkb ax_q112 (5001, 1003, false, 4239) = true := by decide +kernel
set_option maxRecDepth 100000 in
theorem ax_mg113 : ax_mkb ax_q113 (5001, 1003, false, 4239) = true := by decide +kernel
set_option maxRecDepth 100000 in
theorem ax_mg114 : ax_mkb ax_q114 (3174, 1001, true, 3173) = true := by decide +kernel
set_option maxRecDepth 100000 in
theorem ax_mg115 : ax_mkb ax_q115 (3021, 1001, false, 3020) = true := by decide +kernel
set_option maxRecDepth 100000 in
theorem ax_mg116 : ax_mkb ax_q116 (5012, 1001, true, 5011) = true := by decide +kernel
set_option maxRecDepth 100000 in
theorem ax_mg117 : ax_mkb ax_q117 (2093, 1001, false, 2092) = true := by decide +kernel
set_option maxRecDepth 100000 in
theorem ax_mg118 : ax_mkb ax_q118 (3046, 1001, false, 3045) = true := by decide +kernel
set_option maxRecDepth 100000 in
theorem ax_mg119 : ax_mkb ax_q119 (3071, 1001, false, 3070) = true := by decide +kernel
set_option maxRecDepth 100000 in
theorem ax_mg120 : ax_mkb ax_q120 (2187, 1001, false, 2186) = true := by decide +kernel
set_option maxRecDepth 100000 in
theorem ax_mg121 : ax_mkb ax_q121 (3079, 1001, false, 3078) = true := by decide +kernel
set_option maxRecDepth 100000 in
theorem ax_mg122 : ax_mkb ax_q122 (2213, 1001, false, 2212) = true := by decide +kernel
set_option maxRecDepth 100000 in
theorem ax_mg123 : ax_mkb ax_q123 (3143, 1001, false, 3142) = true := by decide +kernel
set_option maxRecDepth 100000 in
theorem ax_mg124 : ax_mkb ax_q124 (3151, 1001, false, 3150) = true := by decide +kernel
set_option maxRecDepth 100000 in
theorem ax_mg125 : ax_mkb ax_q125 (5017, 1001, false, 5016) = true := by decide +kernel
set_option maxRecDepth 100000 in
theorem ax_mg126 : ax_mkb ax_q126 (5001, 1003, false, 4239) = true := by decide +kernel
set_option maxRecDepth 100000 in
theorem ax_mg127 : ax_mkb ax_q127 (5001, 1003, false, 4239) = true := by decide +kernel
set_option maxRecDepth 100000 in
theorem ax_mg128 : ax_mkb ax_q128 (5001, 1003, false, 4239) = true := by decide +kernel
set_option maxRecDepth 100000 in
theorem ax_mg129 : ax_mkb ax_q129 (5001, 1003, false, 4239) = true := by decide +kernel
set_option maxRecDepth 100000 in
theorem ax_mg130 : ax_mkb ax_q130 (3178, 1000, true, 3177) = true := by decide +kernel
set_option maxRecDepth 100000 in
theorem ax_mg131 : ax_mkb ax_q131 (3182, 1000, true, 3181) = true := by decide +kernel
set_option maxRecDepth 100000 in
theorem ax_mg132 : ax_mkb ax_q132 (3201, 1000, true, 3200) = true := by decide +kernel
set_option maxRecDepth 100000 in
theorem ax_mg133 : ax_mkb ax_q133 (3198, 1000, true, 3197) = true := by decide +kernel
set_option maxRecDepth 100000 in
theorem ax_mg134 : ax_mkb ax_q134 (3186, 1000, true, 3185) = true := by decide +kernel
set_option maxRecDepth 100000 in
theorem ax_mg135 : ax_mkb ax_q135 (4020, 1000, true, 4019) = true := by decide +kernel
set_option maxRecDepth 100000 in
theorem ax_mg136 : ax_mkb ax_q136 (4210, 1000, true, 4209) = true := by decide +kernel
set_option maxRecDepth 100000 in
theorem ax_mg137 : ax_mkb ax_q137 (4016, 1000, true, 4015) = true := by decide +kernel
set_option maxRecDepth 100000 in
theorem ax_mg138 : ax_mkb ax_q138 (4230, 1000, true, 4229) = true := by decide +kernel
set_option maxRecDepth 100000 in
theorem ax_mg139 : ax_mkb ax_q139 (4233, 1000, true, 4232) = true := by decide +kernel
set_option maxRecDepth 100000 in
theorem ax_mg140 : ax_mkb ax_q140 (5004, 1000, true, 5003) = true := by decide +kernel
set_option maxRecDepth 100000 in
theorem ax_mg141 : ax_mkb ax_q141 (4102, 1004, false, 4101) = true := by decide +kernel
set_option maxRecDepth 100000 in
theorem ax_mg142 : ax_mkb ax_q142 (4033, 1004, false, 4032) = true := by decide +kernel
set_option maxRecDepth 100000 in
theorem ax_mg143 : ax_mkb ax_q143 (4168, 1004, false, 4165) = true := by decide +kernel
set_option maxRecDepth 100000 in
theorem ax_mg144 : ax_mkb ax_q144 (5001, 1003, false, 4239) = true := by decide +kernel
set_option maxRecDepth 100000 in
theorem ax_mg145 : ax_mkb ax_q145 (5001, 1003, false, 4239) = true := by decide +kernel
set_option maxRecDepth 100000 in
theorem ax_mg146 : ax_mkb ax_q146 (5001, 1003, false, 4239) = true := by decide +kernel
set_option maxRecDepth 100000 in
theorem ax_mg147 : ax_mkb ax_q147 (5001, 1003, false, 4239) = true := by decide +kernel
set_option maxRecDepth 100000 in
theorem ax_mg148 : ax_mkb ax_q148 (4159, 1006, false, 4158) = true := by decide +kernel
set_option maxRecDepth 100000 in
theorem ax_mg149 : ax_mkb ax_q149 (3205, 1006, false, 3203) = true := by decide +kernel
set_option maxRecDepth 100000 in
theorem ax_mg150 : ax_mkb ax_q150 (4162, 1006, false, 4161) = true := by decide +kernel
set_option maxRecDepth 100000 in
theorem ax_mg151 : ax_mkb ax_q151 (3209, 1006, false, 3207) = true := by decide +kernel
set_option maxRecDepth 100000 in
theorem ax_mg152 : ax_mkb ax_q152 (4114, 1006, true, 4113) = true := by decide +kernel
set_option maxRecDepth 100000 in
theorem ax_mg153 : ax_mkb ax_q153 (4082, 1006, true, 4081) = true := by decide +kernel
set_option maxRecDepth 100000 in
theorem ax_mg154 : ax_mkb ax_q154 (4154, 1005, false, 4152) = true := by decide +kernel
set_option maxRecDepth 100000 in
theorem ax_mg155 : ax_mkb ax_q155 (3212, 1019, true, 3211) = true := by decide +kernel
set_option maxRecDepth 100000 in
theorem ax_mg156 : ax_mkb ax_q156 (4105, 1019, true, 4104) = true := by decide +kernel
set_option maxRecDepth 100000 in
theorem ax_mg157 : ax_mkb ax_q157 (1102, 1007, true, 1101) = true := by decide +kernel
set_option maxRecDepth 100000 in
theorem ax_mg158 : ax_mkb ax_q158 (1105, 1007, true, 1104) = true := by decide +kernel
set_option maxRecDepth 100000 in
theorem ax_mg159 : ax_mkb ax_q159 (4088, 1007, true, 4087) = true := by decide +kernel
set_option maxRecDepth 100000 in
theorem ax_mg160 : ax_mkb ax_q160 (3233, 1007, true, 3232) = true := by decide +kernel
set_option maxRecDepth 100000 in
theorem ax_mg161 : ax_mkb ax_q161 (3229, 1007, true, 3228) = true := by decide +kernel
set_option maxRecDepth 100000 in
theorem ax_mg162 : ax_mkb ax_q162 (4196, 1007, true, 4195) = true := by decide +kernel
set_option maxRecDepth 100000 in
theorem ax_mg163 : ax_mkb ax_q163 (4189, 1007, true, 4188) = true := by decide +kernel
set_option maxRecDepth 100000 in
theorem ax_mg164 : ax_mkb ax_q164 (4192, 1007, true, 4191) = true := by decide +kernel
set_option maxRecDepth 100000 in
theorem ax_mg165 : ax_mkb ax_q165 (4224, 1007, true, 4223) = true := by decide +kernel
set_option maxRecDepth 100000 in
theorem ax_mg166 : ax_mkb ax_q166 (4145, 1007, true, 4144) = true := by decide +kernel
set_option maxRecDepth 100000 in
theorem ax_mg167 : ax_mkb ax_q167 (4076, 1007, true, 4075) = true := by decide +kernel
set_option maxRecDepth 100000 in
theorem ax_mg168 : ax_mkb ax_q168 (3223, 1007, true, 3222) = true := by decide +kernel
set_option maxRecDepth 100000 in
theorem ax_mg169 : ax_mkb ax_q169 (4108, 1007, true, 4107) = true := by decide +kernel
set_option maxRecDepth 100000 in
theorem ax_mg170 : ax_mkb ax_q170 (4148, 1007, true, 4147) = true := by decide +kernel
set_option maxRecDepth 100000 in
theorem ax_mg171 : ax_mkb ax_q171 (3226, 1007, true, 3225) = true := by decide +kernel
set_option maxRecDepth 100000 in
theorem ax_mg172 : ax_mkb ax_q172 (4079, 1007, true, 4078) = true := by decide +kernel
set_option maxRecDepth 100000 in
theorem ax_mg173 : ax_mkb ax_q173 (4111, 1007, true, 4110) = true := by decide +kernel
set_option maxRecDepth 100000 in
theorem ax_mg174 : ax_mkb ax_q174 (4186, 1013, true, 4185) = true := by decide +kernel
set_option maxRecDepth 100000 in
theorem ax_mg175 : ax_mkb ax_q175 (4180, 1013, true, 4179) = true := by decide +kernel
set_option maxRecDepth 100000 in
theorem ax_mg176 : ax_mkb ax_q176 (4183, 1013, true, 4182) = true := by decide +kernel
set_option maxRecDepth 100000 in
theorem ax_mg177 : ax_mkb ax_q177 (4051, 1015, true, 4050) = true := by decide +kernel
set_option maxRecDepth 100000 in
theorem ax_mg178 : ax_mkb ax_q178 (4085, 1018, true, 4084) = true := by decide +kernel
set_option maxRecDepth 100000 in
theorem ax_mg179 : ax_mkb ax_q179 (4117, 1018, true, 4116) = true := by decide +kernel
set_option maxRecDepth 100000 in
theorem ax_mg180 : ax_mkb ax_q180 (5001, 1003, false, 4239) = true := by decide +kernel
set_option maxRecDepth 100000 in
theorem ax_mg181 : ax_mkb ax_q181 (5001, 1003, false, 4239) = true := by decide +kernel
set_option maxRecDepth 100000 in
theorem ax_mg182 : ax_mkb ax_q182 (5001, 1003, false, 4239) = true := by decide +kernel
set_option maxRecDepth 100000 in
theorem ax_mg183 : ax_mkb ax_q183 (5001, 1003, false, 4239) = true := by decide +kernel
set_option maxRecDepth 100000 in
theorem ax_mg184 : ax_mkb ax_q184 (5001, 1003, false, 4239) = true := by decide +kernel
set_option maxRecDepth 100000 in
theorem ax_mg185 : ax_mkb ax_q185 (5001, 1003, false, 4239) = true := by decide +kernel
set_option maxRecDepth 100000 in
theorem ax_mg186 : ax_mkb ax_q186 (5001, 1003, false, 4239) = true := by decide +kernel
set_option maxRecDepth 100000 in
theorem ax_mg187 : ax_mkb ax_q187 (5001, 1003, false, 4239) = true := by decide +kernel
set_option maxRecDepth 100000 in
theorem ax_mg188 : ax_mkb ax_q188 (5001, 1003, false, 4239) = true := by decide +kernel
set_option maxRecDepth 100000 in
theorem ax_mg189 : ax_mkb ax_q189 (5001, 1003, false, 4239) = true := by decide +kernel
set_option maxRecDepth 100000 in
theorem ax_mg190 : ax_mkb ax_q190 (5001, 1003, false, 4239) = true := by decide +kernel
set_option maxRecDepth 100000 in
theorem ax_mg191 : ax_mkb ax_q191 (5001, 1003, false, 4239) = true := by decide +kernel
set_option maxRecDepth 100000 in
theorem ax_mg192 : ax_mkb ax_q192 (5001, 1003, false, 4239) = true := by decide +kernel
set_option maxRecDepth 100000 in
theorem ax_mg193 : ax_mkb ax_q193 (5001, 1003, false, 4239) = true := by decide +kernel
set_option maxRecDepth 100000 in
theorem ax_mg194 : ax_mkb ax_q194 (5001, 1003, false, 4239) = true := by decide +kernel
set_option maxRecDepth 100000 in
theorem ax_mg195 : ax_mkb ax_q195 (5001, 1003, false, 4239) = true := by decide +kernel
set_option maxRecDepth 100000 in
theorem ax_mg196 : ax_mkb ax_q196 (5001, 1003, false, 4239) = true := by decide +kernel
set_option maxRecDepth 100000 in
theorem ax_mg197 : ax_mkb ax_q197 (5001, 1003, false, 4239) = true := by decide +kernel
set_option maxRecDepth 100000 in
theorem ax_mg198 : ax_mkb ax_q198 (5001, 1003, false, 4239) = true := by decide +kernel
set_option maxRecDepth 100000 in
theorem ax_mg199 : ax_mkb ax_q199 (5001, 1003, false, 4239) = true := by decide +kernel
set_option maxRecDepth 100000 in
theorem ax_mg200 : ax_mkb ax_q200 (5001, 1003, false, 4239) = true := by decide +kernel
set_option maxRecDepth 100000 in
theorem ax_mg201 : ax_mkb ax_q201 (5001, 1003, false, 4239) = true := by decide +kernel
set_option maxRecDepth 100000 in
theorem ax_mg202 : ax_mkb ax_q202 (5001, 1003, false, 4239) = true := by decide +kernel
set_option maxRecDepth 100000 in
theorem ax_mg203 : ax_mkb ax_q203 (5001, 1003, false, 4239) = true := by decide +kernel
set_option maxRecDepth 100000 in
theorem ax_mg204 : ax_mkb ax_q204 (5001, 1003, false, 4239) = true := by decide +kernel
set_option maxRecDepth 100000 in
theorem ax_mg205 : ax_mkb ax_q205 (5001, 1003, false, 4239) = true := by decide +kernel
set_option maxRecDepth 100000 in
theorem ax_mg206 : ax_mkb ax_q206 (5001, 1003, false, 4239) = true := by decide +kernel
set_option maxRecDepth 100000 in
theorem ax_mg207 : ax_mkb ax_q207 (5001, 1003, false, 4239) = true := by decide +kernel
set_option maxRecDepth 100000 in
theorem ax_mg208 : ax_mkb ax_q208 (5001, 1003, false, 4239) = true := by decide +kernel
set_option maxRecDepth 100000 in
theorem ax_mg209 : ax_mkb ax_q209 (5001, 1003, false, 4239) = true := by decide +kernel
set_option maxRecDepth 100000 in
theorem ax_mg210 : ax_mkb ax_q210 (5001, 1003, false, 4239) = true := by decide +kernel
set_option maxRecDepth 100000 in
theorem ax_mg211 : ax_mkb ax_q211 (5001, 1003, false, 4239) = true := by decide +kernel
set_option maxRecDepth 100000 in
theorem ax_mg212 : ax_mkb ax_q212 (5001, 1003, false, 4239) = true := by decide +kernel
set_option maxRecDepth 100000 in
theorem ax_mg213 : ax_mkb ax_q213 (5001, 1003, false, 4239) = true := by decide +kernel
set_option maxRecDepth 100000 in
theorem ax_mg214 : ax_mkb ax_q214 (5001, 1003, false, 4239) = true := by decide +kernel
set_option maxRecDepth 100000 in
theorem ax_mg215 : ax_mkb ax_q215 (5001, 1003, false, 4239) = true := by decide +kernel
set_option maxRecDepth 100000 in
theorem ax_mg216 : ax_mkb ax_q216 (5001, 1003, false, 4239) = true := by decide +kernel
set_option maxRecDepth 100000 in
theorem ax_mg217 : ax_mkb ax_q217 (5001, 1003, false, 4239) = true := by decide +kernel
set_option maxRecDepth 100000 in
theorem ax_mg218 : ax_mkb ax_q218 (5001, 1003, false, 4239) = true := by decide +kernel
set_option maxRecDepth 100000 in
theorem ax_mg219 : ax_mkb ax_q219 (5001, 1003, false, 4239) = true := by decide +kernel
set_option maxRecDepth 100000 in
theorem ax_mg220 : ax_mkb ax_q220 (5001, 1003, false, 4239) = true := by decide +kernel
set_option maxRecDepth 100000 in
theorem ax_mg221 : ax_mkb ax_q221 (5001, 1003, false, 4239) = true := by decide +kernel
set_option maxRecDepth 100000 in
theorem ax_mg222 : ax_mkb ax_q222 (5001, 1003, false, 4239) = true := by decide +kernel
set_option maxRecDepth 100000 in
theorem ax_mg223 : ax_mkb ax_q223 (5001, 1003, false, 4239) = true := by decide +kernel
set_option maxRecDepth 100000 in
theorem ax_mg224 : ax_mkb ax_q224 (5001, 1003, false, 4239) = true := by decide +kernel
set_option maxRecDepth 100000 in
theorem ax_mg225 : ax_mkb ax_q225 (5001, 1003, false, 4239) = true := by decide +kernel
set_option maxRecDepth 100000 in
theorem ax_mg226 : ax_mkb ax_q226 (5001, 1003, false, 4239) = true := by decide +kernel
set_option maxRecDepth 100000 in
theorem ax_mg227 : ax_mkb ax_q227 (5001, 1003, false, 4239) = true := by decide +kernel
set_option maxRecDepth 100000 in
theorem ax_mg228 : ax_mkb ax_q228 (5001, 1003, false, 4239) = true := by decide +kernel
set_option maxRecDepth 100000 in
theorem ax_mg229 : ax_mkb ax_q229 (5001, 1003, false, 4239) = true := by decide +kernel
set_option maxRecDepth 100000 in
theorem ax_mg230 : ax_mkb ax_q230 (5001, 1003, false, 4239) = true := by decide +kernel
set_option maxRecDepth 100000 in
theorem ax_mg231 : ax_mkb ax_q231 (5001, 1003, false, 4239) = true := by decide +kernel
set_option maxRecDepth 100000 in
theorem ax_mg232 : ax_mkb ax_q232 (5001, 1003, false, 4239) = true := by decide +kernel
set_option maxRecDepth 100000 in
theorem ax_mg233 : ax_mkb ax_q233 (5001, 1003, false, 4239) = true := by decide +kernel
set_option maxRecDepth 100000 in
theorem ax_mg234 : ax_mkb ax_q234 (5001, 1003, false, 4239) = true := by decide +kernel
set_option maxRecDepth 100000 in
theorem ax_mg235 : ax_mkb ax_q235 (5001, 1003, false, 4239) = true := by decide +kernel
set_option maxRecDepth 100000 in
theorem ax_mg236 : ax_mkb ax_q236 (5001, 1003, false, 4239) = true := by decide +kernel
set_option maxRecDepth 100000 in
theorem ax_mg237 : ax_mkb ax_q237 (5001, 1003, false, 4239) = true := by decide +kernel
set_option maxRecDepth 100000 in
theorem ax_mg238 : ax_mkb ax_q238 (5001, 1003, false, 4239) = true := by decide +kernel
set_option maxRecDepth 100000 in
theorem ax_mg239 : ax_mkb ax_q239 (5001, 1003, false, 4239) = true := by decide +kernel
set_option maxRecDepth 100000 in
theorem ax_mg240 : ax_mkb ax_q240 (5001, 1003, false, 4239) = true := by decide +kernel
set_option maxRecDepth 100000 in
theorem ax_mg241 : ax_mkb ax_q241 (5001, 1003, false, 4239) = true := by decide +kernel
set_option maxRecDepth 100000 in
theorem ax_mg242 : ax_mkb ax_q242 (5001, 1003, false, 4239) = true := by decide +kernel
set_option maxRecDepth 100000 in
theorem ax_mg243 : ax_mkb ax_q243 (5001, 1003, false, 4239) = true := by decide +kernel
set_option maxRecDepth 100000 in
theorem ax_mg244 : ax_mkb ax_q244 (5001, 1003, false, 4239) = true := by decide +kernel
set_option maxRecDepth 100000 in
theorem ax_mg245 : ax_mkb ax_q245 (5001, 1003, false, 4239) = true := by decide +kernel
set_option maxRecDepth 100000 in
theorem ax_mg246 : ax_mkb ax_q246 (5001, 1003, false, 4239) = true := by decide +kernel
set_option maxRecDepth 100000 in
theorem ax_mg247 : ax_mkb ax_q247 (5001, 1003, false, 4239) = true := by decide +kernel
set_option maxRecDepth 100000 in
theorem ax_mg248 : ax_mkb ax_q248 (5001, 1003, false, 4239) = true := by decide +kernel
set_option maxRecDepth 100000 in
theorem ax_mg249 : ax_mkb ax_q249 (5001, 1003, false, 4239) = true := by decide +kernel
set_option maxRecDepth 100000 in
theorem ax_mg250 : ax_mkb ax_q250 (5001, 1003, false, 4239) = true := by decide +kernel
set_option maxRecDepth 100000 in
theorem ax_mg251 : ax_mkb ax_q251 (5001, 1003, false, 4239) = true := by decide +kernel
set_option maxRecDepth 100000 in
theorem ax_mg252 : ax_mkb ax_q252 (5001, 1003, false, 4239) = true := by decide +kernel
set_option maxRecDepth 100000 in
theorem ax_mg253 : ax_mkb ax_q253 (1197, 1013, true, 1196) = true := by decide +kernel
set_option maxRecDepth 100000 in
theorem ax_mg254 : ax_mkb ax_q254 (1218, 1013, true, 1217) = true := by decide +kernel
set_option maxRecDepth 100000 in
theorem ax_mg255 : ax_mkb ax_q255 (3164, 1029, true, 3163) = true := by decide +kernel
set_option maxRecDepth 100000 in
theorem ax_mg256 : ax_mkb ax_q256 (1093, 1005, false, 1092) = true := by decide +kernel
set_option maxRecDepth 100000 in
theorem ax_mg257 : ax_mkb ax_q257 (1096, 1004, false, 1095) = true := by decide +kernel
set_option maxRecDepth 100000 in
theorem ax_mg258 : ax_mkb ax_q258 (4174, 1005, false, 4173) = true := by decide +kernel
set_option maxRecDepth 100000 in
theorem ax_mg259 : ax_mkb ax_q259 (4176, 1004, false, 4170) = true := by decide +kernel
set_option maxRecDepth 100000 in
theorem ax_mg260 : ax_mkb ax_q260 (4215, 1005, false, 4213) = true := by decide +kernel
set_option maxRecDepth 100000 in
theorem ax_mg261 : ax_mkb ax_q261 (4129, 1005, false, 4127) = true := by decide +kernel
set_option maxRecDepth 100000 in
theorem ax_mg262 : ax_mkb ax_q262 (4026, 1005, false, 4024) = true := by decide +kernel
set_option maxRecDepth 100000 in
theorem ax_mg263 : ax_mkb ax_q263 (5001, 1003, false, 4239) = true := by decide +kernel
set_option maxRecDepth 100000 in
theorem ax_mg264 : ax_mkb ax_q264 (5001, 1003, false, 4239) = true := by decide +kernel
set_option maxRecDepth 100000 in
theorem ax_mg265 : ax_mkb ax_q265 (4218, 1004, false, 4217) = true := by decide +kernel
set_option maxRecDepth 100000 in
theorem ax_mg266 : ax_mkb ax_q266 (4132, 1004, false, 4131) = true := by decide +kernel
set_option maxRecDepth 100000 in
theorem ax_mg267 : ax_mkb ax_q267 (4029, 1004, false, 4028) = true := by decide +kernel
set_option maxRecDepth 100000 in
theorem ax_mg268 : ax_mkb ax_q268 (4037, 1004, false, 4036) = true := by decide +kernel
set_option maxRecDepth 100000 in
theorem ax_mg269 : ax_mkb ax_q269 (4041, 1004, false, 4040) = true := by decide +kernel
set_option maxRecDepth 100000 in
theorem ax_mg270 : ax_mkb ax_q270 (4093, 1004, false, 4092) = true := by decide +kernel
set_option maxRecDepth 100000 in
theorem ax_mg271 : ax_mkb ax_q271 (4097, 1004, false, 4096) = true := by decide +kernel
set_option maxRecDepth 100000 in
theorem ax_mg272 : ax_mkb ax_q272 (4073, 1004, false, 4070) = true := by decide +kernel
set_option maxRecDepth 100000 in
theorem ax_mg273 : ax_mkb ax_q273 (5001, 1003, false, 4239) = true := by decide +kernel
set_option maxRecDepth 100000 in
theorem ax_mg274 : ax_mkb ax_q274 (5001, 1003, false, 4239) = true := by decide +kernel
set_option maxRecDepth 100000 in
theorem ax_mg275 : ax_mkb ax_q275 (3190, 1006, false, 3188) = true := by decide +kernel
set_option maxRecDepth 100000 in
theorem ax_mg276 : ax_mkb ax_q276 (3194, 1006, false, 3192) = true := by decide +kernel
set_option maxRecDepth 100000 in
theorem ax_mg277 : ax_mkb ax_q277 (4121, 1006, false, 4119) = true := by decide +kernel
set_option maxRecDepth 100000 in
theorem ax_mg278 : ax_mkb ax_q278 (3215, 1006, true, 3214) = true := by decide +kernel
set_option maxRecDepth 100000 in
theorem ax_mg279 : ax_mkb ax_q279 (3220, 1018, true, 3219) = true := by decide +kernel
set_option maxRecDepth 100000 in
theorem ax_mg280 : ax_mkb ax_q280 (4221, 1019, true, 4220) = true := by decide +kernel
set_option maxRecDepth 100000 in
theorem ax_mg281 : ax_mkb ax_q281 (4135, 1021, true, 4134) = true := by decide +kernel
set_option maxRecDepth 100000 in
theorem ax_mg282 : ax_mkb ax_q282 (4138, 1021, true, 4137) = true := by decide +kernel
set_option maxRecDepth 100000 in
theorem ax_mg283 : ax_mkb ax_q283 (4055, 1013, true, 4054) = true := by decide +kernel
set_option maxRecDepth 100000 in
theorem ax_mg284 : ax_mkb ax_q284 (4044, 1015, true, 4043) = true := by decide +kernel
