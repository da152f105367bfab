/-! the methods themselves -/
set_option maxRecDepth 100000 in
theorem ax_mg0 : ax_mkb ax_q0 (1197, 1012, false, 1196) = true := by decide +kernel
set_option maxRecDepth 100000 in
theorem ax_mg1 : ax_mkb ax_q1 (3115, 1012, false, 3113) = true := by decide +kernel
set_option maxRecDepth 100000 in
theorem ax_mg2 : ax_mkb ax_q2 (3136, 1012, false, 3134) = true := by decide +kernel
set_option maxRecDepth 100000 in
theorem ax_mg3 : ax_mkb ax_q3 (3131, 1012, false, 3129) = true := by decide +kernel
set_option maxRecDepth 100000 in
theorem ax_mg4 : ax_mkb ax_q4 (3119, 1012, false, 3117) = true := by decide +kernel
set_option maxRecDepth 100000 in
theorem ax_mg5 : ax_mkb ax_q5 (6049, 1012, false, 6047) = true := by decide +kernel
set_option maxRecDepth 100000 in
theorem ax_mg6 : ax_mkb ax_q6 (1148, 1009, false, 1147) = true := by decide +kernel
set_option maxRecDepth 100000 in
theorem ax_mg7 : ax_mkb ax_q7 (3091, 1009, false, 3089) = true := by decide +kernel
set_option maxRecDepth 100000 in
theorem ax_mg8 : ax_mkb ax_q8 (5047, 1009, false, 5045) = true := by decide +kernel
set_option maxRecDepth 100000 in
theorem ax_mg9 : ax_mkb ax_q9 (5176, 1009, false, 5174) = true := by decide +kernel
set_option maxRecDepth 100000 in
theorem ax_mg10 : ax_mkb ax_q10 (5172, 1009, false, 5170) = true := by decide +kernel
set_option maxRecDepth 100000 in
theorem ax_mg11 : ax_mkb ax_q11 (3127, 1009, false, 3125) = true := by decide +kernel
set_option maxRecDepth 100000 in
theorem ax_mg12 : ax_mkb ax_q12 (5217, 1009, false, 5215) = true := by decide +kernel
set_option maxRecDepth 100000 in
theorem ax_mg13 : ax_mkb ax_q13 (3123, 1009, false, 3121) = true := by decide +kernel
set_option maxRecDepth 100000 in
theorem ax_mg14 : ax_mkb ax_q14 (5084, 1009, false, 5082) = true := by decide +kernel
set_option maxRecDepth 100000 in
theorem ax_mg15 : ax_mkb ax_q15 (5088, 1009, false, 5087) = true := by decide +kernel
set_option maxRecDepth 100000 in
theorem ax_mg16 : ax_mkb ax_q16 (4227, 1009, false, 4225) = true := by decide +kernel
set_option maxRecDepth 100000 in
theorem ax_mg17 : ax_mkb ax_q17 (4233, 1009, false, 4232) = true := by decide +kernel
set_option maxRecDepth 100000 in
theorem ax_mg18 : ax_mkb ax_q18 (2115, 1009, false, 2113) = true := by decide +kernel
set_option maxRecDepth 100000 in
theorem ax_mg19 : ax_mkb ax_q19 (1131, 1008, false, 1130) = true := by decide +kernel
set_option maxRecDepth 100000 in
theorem ax_mg20 : ax_mkb ax_q20 (3068, 1008, false, 3066) = true := by decide +kernel
set_option maxRecDepth 100000 in
theorem ax_mg21 : ax_mkb ax_q21 (3073, 1008, false, 3071) = true := by decide +kernel
set_option maxRecDepth 100000 in
theorem ax_mg22 : ax_mkb ax_q22 (5114, 1008, false, 5112) = true := by decide +kernel
set_option maxRecDepth 100000 in
theorem ax_mg23 : ax_mkb ax_q23 (5146, 1008, false, 5144) = true := by decide +kernel
set_option maxRecDepth 100000 in
theorem ax_mg24 : ax_mkb ax_q24 (5157, 1008, false, 5155) = true := by decide +kernel
set_option maxRecDepth 100000 in
theorem ax_mg25 : ax_mkb ax_q25 (5181, 1008, false, 5179) = true := by decide +kernel
set_option maxRecDepth 100000 in
theorem ax_mg26 : ax_mkb ax_q26 (3081, 1008, false, 3079) = true := by decide +kernel
set_option maxRecDepth 100000 in
theorem ax_mg27 : ax_mkb ax_q27 (5122, 1008, false, 5120) = true := by decide +kernel
set_option maxRecDepth 100000 in
theorem ax_mg28 : ax_mkb ax_q28 (1182, 1011, false, 1181) = true := by decide +kernel
set_option maxRecDepth 100000 in
theorem ax_mg29 : ax_mkb ax_q29 (5236, 1011, false, 5234) = true := by decide +kernel
set_option maxRecDepth 100000 in
theorem ax_mg30 : ax_mkb ax_q30 (6045, 1011, false, 6043) = true := by decide +kernel
set_option maxRecDepth 100000 in
theorem ax_mg31 : ax_mkb ax_q31 (6155, 1011, false, 6153) = true := by decide +kernel
set_option maxRecDepth 100000 in
theorem ax_mg32 : ax_mkb ax_q32 (5232, 1011, false, 5230) = true := by decide +kernel
set_option maxRecDepth 100000 in
theorem ax_mg33 : ax_mkb ax_q33 (2074, 1011, false, 2072) = true := by decide +kernel
set_option maxRecDepth 100000 in
theorem ax_mg34 : ax_mkb ax_q34 (1169, 1010, false, 1168) = true := by decide +kernel
set_option maxRecDepth 100000 in
theorem ax_mg35 : ax_mkb ax_q35 (6118, 1010, false, 6116) = true := by decide +kernel
set_option maxRecDepth 100000 in
theorem ax_mg36 : ax_mkb ax_q36 (3107, 1010, false, 3105) = true := by decide +kernel
set_option maxRecDepth 100000 in
theorem ax_mg37 : ax_mkb ax_q37 (3095, 1010, false, 3093) = true := by decide +kernel
set_option maxRecDepth 100000 in
theorem ax_mg38 : ax_mkb ax_q38 (6110, 1010, false, 6108) = true := by decide +kernel
set_option maxRecDepth 100000 in
theorem ax_mg39 : ax_mkb ax_q39 (3099, 1010, false, 3098) = true := by decide +kernel
set_option maxRecDepth 100000 in
theorem ax_mg40 : ax_mkb ax_q40 (1218, 1014, false, 1217) = true := by decide +kernel
set_option maxRecDepth 100000 in
theorem ax_mg41 : ax_mkb ax_q41 (6160, 1014, false, 6158) = true := by decide +kernel
set_option maxRecDepth 100000 in
theorem ax_mg42 : ax_mkb ax_q42 (3103, 1014, false, 3101) = true := by decide +kernel
set_option maxRecDepth 100000 in
theorem ax_mg43 : ax_mkb ax_q43 (3160, 1014, false, 3158) = true := by decide +kernel
set_option maxRecDepth 100000 in
theorem ax_mg44 : ax_mkb ax_q44 (2082, 1014, false, 2080) = true := by decide +kernel
set_option maxRecDepth 100000 in
theorem ax_mg45 : ax_mkb ax_q45 (2105, 1014, false, 2103) = true := by decide +kernel
set_option maxRecDepth 100000 in
theorem ax_mg46 : ax_mkb ax_q46 (6114, 1014, false, 6112) = true := by decide +kernel
set_option maxRecDepth 100000 in
theorem ax_mg47 : ax_mkb ax_q47 (2089, 1014, false, 2088) = true := by decide +kernel
set_option maxRecDepth 100000 in
theorem ax_mg48 : ax_mkb ax_q48 (1061, 1003, false, 1060) = true := by decide +kernel
set_option maxRecDepth 100000 in
theorem ax_mg49 : ax_mkb ax_q49 (3047, 1003, false, 3045) = true := by decide +kernel
set_option maxRecDepth 100000 in
theorem ax_mg50 : ax_mkb ax_q50 (3056, 1003, false, 3054) = true := by decide +kernel
set_option maxRecDepth 100000 in
theorem ax_mg51 : ax_mkb ax_q51 (3141, 1003, false, 3139) = true := by decide +kernel
set_option maxRecDepth 100000 in
theorem ax_mg52 : ax_mkb ax_q52 (3060, 1003, false, 3058) = true := by decide +kernel
set_option maxRecDepth 100000 in
theorem ax_mg53 : ax_mkb ax_q53 (3145, 1003, false, 3143) = true := by decide +kernel
set_option maxRecDepth 100000 in
theorem ax_mg54 : ax_mkb ax_q54 (3064, 1003, false, 3063) = true := by decide +kernel
set_option maxRecDepth 100000 in
theorem ax_mg55 : ax_mkb ax_q55 (2234, 1003, false, 2232) = true := by decide +kernel
set_option maxRecDepth 100000 in
theorem ax_mg56 : ax_mkb ax_q56 (3022, 1003, false, 3021) = true := by decide +kernel
set_option maxRecDepth 100000 in
theorem ax_mg57 : ax_mkb ax_q57 (3030, 1003, false, 3029) = true := by decide +kernel
set_option maxRecDepth 100000 in
theorem ax_mg58 : ax_mkb ax_q58 (3034, 1003, false, 3033) = true := by decide +kernel
set_option maxRecDepth 100000 in
theorem ax_mg59 : ax_mkb ax_q59 (3038, 1003, false, 3037) = true := by decide +kernel
set_option maxRecDepth 100000 in
theorem ax_mg60 : ax_mkb ax_q60 (3026, 1003, false, 3025) = true := by decide +kernel
set_option maxRecDepth 100000 in
theorem ax_mg61 : ax_mkb ax_q61 (2239, 1003, false, 2238) = true := by decide +kernel
set_option maxRecDepth 100000 in
theorem ax_mg62 : ax_mkb ax_q62 (3010, 1003, false, 3009) = true := by decide +kernel
set_option maxRecDepth 100000 in
theorem ax_mg63 : ax_mkb ax_q63 (3018, 1003, false, 3017) = true := by decide +kernel
set_option maxRecDepth 100000 in
theorem ax_mg64 : ax_mkb ax_q64 (3014, 1003, false, 3013) = true := by decide +kernel
set_option maxRecDepth 100000 in
theorem ax_mg65 : ax_mkb ax_q65 (3006, 1003, true, 3005) = true := by decide +kernel
set_option maxRecDepth 100000 in
theorem ax_mg66 : ax_mkb ax_q66 (1046, 1002, false, 1045) = true := by decide +kernel
set_option maxRecDepth 100000 in
theorem ax_mg67 : ax_mkb ax_q67 (2199, 1002, false, 2197) = true := by decide +kernel
set_option maxRecDepth 100000 in
theorem ax_mg68 : ax_mkb ax_q68 (3003, 1002, false, 3001) = true := by decide +kernel
set_option maxRecDepth 100000 in
theorem ax_mg69 : ax_mkb ax_q69 (1038, 1001, false, 1037) = true := by decide +kernel
set_option maxRecDepth 100000 in
theorem ax_mg70 : ax_mkb ax_q70 (2124, 1001, false, 2122) = true := by decide +kernel
set_option maxRecDepth 100000 in
theorem ax_mg71 : ax_mkb ax_q71 (2207, 1001, false, 2205) = true := by decide +kernel
set_option maxRecDepth 100000 in
theorem ax_mg72 : ax_mkb ax_q72 (2230, 1001, false, 2228) = true := by decide +kernel
set_option maxRecDepth 100000 in
theorem ax_mg73 : ax_mkb ax_q73 (3152, 1001, false, 3150) = true := by decide +kernel
set_option maxRecDepth 100000 in
theorem ax_mg74 : ax_mkb ax_q74 (2046, 1001, false, 2044) = true := by decide +kernel
set_option maxRecDepth 100000 in
theorem ax_mg75 : ax_mkb ax_q75 (3191, 1001, false, 3189) = true := by decide +kernel
set_option maxRecDepth 100000 in
theorem ax_mg76 : ax_mkb ax_q76 (5025, 1001, false, 5023) = true := by decide +kernel
set_option maxRecDepth 100000 in
theorem ax_mg77 : ax_mkb ax_q77 (2050, 1001, false, 2048) = true := by decide +kernel
set_option maxRecDepth 100000 in
theorem ax_mg78 : ax_mkb ax_q78 (5043, 1001, false, 5041) = true := by decide +kernel
set_option maxRecDepth 100000 in
theorem ax_mg79 : ax_mkb ax_q79 (5054, 1001, false, 5052) = true := by decide +kernel
set_option maxRecDepth 100000 in
theorem ax_mg80 : ax_mkb ax_q80 (5061, 1001, false, 5059) = true := by decide +kernel
set_option maxRecDepth 100000 in
theorem ax_mg81 : ax_mkb ax_q81 (5072, 1001, false, 5070) = true := by decide +kernel
set_option maxRecDepth 100000 in
theorem ax_mg82 : ax_mkb ax_q82 (5080, 1001, false, 5078) = true := by decide +kernel
set_option maxRecDepth 100000 in
theorem ax_mg83 : ax_mkb ax_q83 (5109, 1001, false, 5107) = true := by decide +kernel
set_option maxRecDepth 100000 in
theorem ax_mg84 : ax_mkb ax_q84 (5133, 1001, false, 5131) = true := by decide +kernel
set_option maxRecDepth 100000 in
theorem ax_mg85 : ax_mkb ax_q85 (5141, 1001, false, 5139) = true := by decide +kernel
set_option maxRecDepth 100000 in
theorem ax_mg86 : ax_mkb ax_q86 (5153, 1001, false, 5151) = true := by decide +kernel
set_option maxRecDepth 100000 in
theorem ax_mg87 : ax_mkb ax_q87 (5164, 1001, false, 5162) = true := by decide +kernel
set_option maxRecDepth 100000 in
theorem ax_mg88 : ax_mkb ax_q88 (5188, 1001, false, 5186) = true := by decide +kernel
set_option maxRecDepth 100000 in
theorem ax_mg89 : ax_mkb ax_q89 (5201, 1001, false, 5199) = true := by decide +kernel
set_option maxRecDepth 100000 in
theorem ax_mg90 : ax_mkb ax_q90 (5209, 1001, false, 5207) = true := by decide +kernel
set_option maxRecDepth 100000 in
theorem ax_mg91 : ax_mkb ax_q91 (5224, 1001, false, 5222) = true := by decide +kernel
set_option maxRecDepth 100000 in
theorem ax_mg92 : ax_mkb ax_q92 (6003, 1001, false, 6001) = true := by decide +kernel
set_option maxRecDepth 100000 in
theorem ax_mg93 : ax_mkb ax_q93 (6015, 1001, false, 6013) = true := by decide +kernel
set_option maxRecDepth 100000 in
theorem ax_mg94 : ax_mkb ax_q94 (6038, 1001, false, 6036) = true := by decide +kernel
set_option maxRecDepth 100000 in
theorem ax_mg95 : ax_mkb ax_q95 (6057, 1001, false, 6055) = true := by decide +kernel
set_option maxRecDepth 100000 in
theorem ax_mg96 : ax_mkb ax_q96 (2054, 1001, false, 2052) = true := by decide +kernel
set_option maxRecDepth 100000 in
theorem ax_mg97 : ax_mkb ax_q97 (2058, 1001, false, 2056) = true := by decide +kernel
set_option maxRecDepth 100000 in
theorem ax_mg98 : ax_mkb ax_q98 (6065, 1001, false, 6063) = true := by decide +kernel
set_option maxRecDepth 100000 in
theorem ax_mg99 : ax_mkb ax_q99 (2062, 1001, false, 2060) = true := by decide +kernel
set_option maxRecDepth 100000 in
theorem ax_mg100 : ax_mkb ax_q100 (6072, 1001, false, 6070) = true := by decide +kernel
set_option maxRecDepth 100000 in
theorem ax_mg101 : ax_mkb ax_q101 (2101, 1001, false, 2099) = true := by decide +kernel
set_option maxRecDepth 100000 in
theorem ax_mg102 : ax_mkb ax_q102 (6083, 1001, false, 6081) = true := by decide +kernel
set_option maxRecDepth 100000 in
theorem ax_mg103 : ax_mkb ax_q103 (6094, 1001, false, 6092) = true := by decide +kernel
set_option maxRecDepth 100000 in
theorem ax_mg104 : ax_mkb ax_q104 (6102, 1001, false, 6100) = true := by decide +kernel
set_option maxRecDepth 100000 in
theorem ax_mg105 : ax_mkb ax_q105 (6127, 1001, false, 6125) = true := by decide +kernel
set_option maxRecDepth 100000 in
theorem ax_mg106 : ax_mkb ax_q106 (6134, 1001, false, 6132) = true := by decide +kernel
set_option maxRecDepth 100000 in
theorem ax_mg107 : ax_mkb ax_q107 (6143, 1001, false, 6141) = true := by decide +kernel
set_option maxRecDepth 100000 in
theorem ax_mg108 : ax_mkb ax_q108 (6150, 1001, false, 6148) = true := by decide +kernel
set_option maxRecDepth 100000 in
theorem ax_mg109 : ax_mkb ax_q109 (6168, 1001, false, 6166) = true := by decide +kernel
set_option maxRecDepth 100000 in
theorem ax_mg110 : ax_mkb ax_q110 (2109, 1001, false, 2107) = true := by decide +kernel
set_option maxRecDepth 100000 in
theorem ax_mg111 : ax_mkb ax_q111 (3195, 1001, false, 3194) = true := by decide +kernel
set_option maxRecDepth 100000 in
theorem ax_mg112 : ax_mkb ax_q112 (5064, 1001, true, 5063) = true := by decide +kernel
set_option maxRecDepth 100000 in
theorem ax_mg113 : ax_mkb ax_q113 (5167, 1001, true, 5166) = true := by decide +kernel
set_option maxRecDepth 100000 in
theorem ax_mg114 : ax_mkb ax_q114 (6006, 1001, true, 6005) = true := by decide +kernel
set_option maxRecDepth 100000 in
theorem ax_mg115 : ax_mkb ax_q115 (3051, 1001, false, 3050) = true := by decide +kernel
set_option maxRecDepth 100000 in
theorem ax_mg116 : ax_mkb ax_q116 (6075, 1001, true, 6074) = true := by decide +kernel
set_option maxRecDepth 100000 in
theorem ax_mg117 : ax_mkb ax_q117 (3042, 1001, false, 3041) = true := by decide +kernel
set_option maxRecDepth 100000 in
theorem ax_mg118 : ax_mkb ax_q118 (5118, 1001, false, 5117) = true := by decide +kernel
set_option maxRecDepth 100000 in
theorem ax_mg119 : ax_mkb ax_q119 (3077, 1001, false, 3076) = true := by decide +kernel
set_option maxRecDepth 100000 in
theorem ax_mg120 : ax_mkb ax_q120 (3156, 1001, false, 3155) = true := by decide +kernel
set_option maxRecDepth 100000 in
theorem ax_mg121 : ax_mkb ax_q121 (3111, 1001, false, 3110) = true := by decide +kernel
set_option maxRecDepth 100000 in
theorem ax_mg122 : ax_mkb ax_q122 (2066, 1001, false, 2065) = true := by decide +kernel
set_option maxRecDepth 100000 in
theorem ax_mg123 : ax_mkb ax_q123 (2070, 1001, false, 2069) = true := by decide +kernel
set_option maxRecDepth 100000 in
theorem ax_mg124 : ax_mkb ax_q124 (2078, 1001, false, 2077) = true := by decide +kernel
set_option maxRecDepth 100000 in
theorem ax_mg125 : ax_mkb ax_q125 (6087, 1001, false, 6086) = true := by decide +kernel
set_option maxRecDepth 100000 in
theorem ax_mg126 : ax_mkb ax_q126 (6106, 1001, false, 6105) = true := by decide +kernel
set_option maxRecDepth 100000 in
theorem ax_mg127 : ax_mkb ax_q127 (5213, 1001, false, 5212) = true := by decide +kernel
set_option maxRecDepth 100000 in
theorem ax_mg128 : ax_mkb ax_q128 (5228, 1001, false, 5227) = true := by decide +kernel
set_option maxRecDepth 100000 in
theorem ax_mg129 : ax_mkb ax_q129 (5193, 1001, true, 5192) = true := by decide +kernel
set_option maxRecDepth 100000 in
theorem ax_mg130 : ax_mkb ax_q130 (6174, 1015, false, 6173) = true := by decide +kernel
set_option maxRecDepth 100000 in
theorem ax_mg131 : ax_mkb ax_q131 (7037, 1015, false, 7035) = true := by decide +kernel
set_option maxRecDepth 100000 in
theorem ax_mg132 : ax_mkb ax_q132 (7045, 1015, false, 7044) = true := by decide +kernel
set_option maxRecDepth 100000 in
theorem ax_mg133 : ax_mkb ax_q133 (7163, 1015, false, 7162) = true := by decide +kernel
set_option maxRecDepth 100000 in
theorem ax_mg134 : ax_mkb ax_q134 (8010, 1015, true, 8009) = true := by decide +kernel
set_option maxRecDepth 100000 in
theorem ax_mg135 : ax_mkb ax_q135 (7199, 1015, true, 7198) = true := by decide +kernel
set_option maxRecDepth 100000 in
theorem ax_mg136 : ax_mkb ax_q136 (7124, 1015, false, 7123) = true := by decide +kernel
set_option maxRecDepth 100000 in
theorem ax_mg137 : ax_mkb ax_q137 (7098, 1015, false, 7097) = true := by decide +kernel
set_option maxRecDepth 100000 in
theorem ax_mg138 : ax_mkb ax_q138 (7102, 1015, false, 7101) = true := by decide +kernel
set_option maxRecDepth 100000 in
theorem ax_mg139 : ax_mkb ax_q139 (7219, 1015, false, 7218) = true := by decide +kernel
set_option maxRecDepth 100000 in
theorem ax_mg140 : ax_mkb ax_q140 (7106, 1015, false, 7105) = true := by decide +kernel
set_option maxRecDepth 100000 in
theorem ax_mg141 : ax_mkb ax_q141 (7227, 1015, false, 7226) = true := by decide +kernel
set_option maxRecDepth 100000 in
theorem ax_mg142 : ax_mkb ax_q142 (7112, 1015, false, 7111) = true := by decide +kernel
set_option maxRecDepth 100000 in
theorem ax_mg143 : ax_mkb ax_q143 (7041, 1015, false, 7039) = true := by decide +kernel
set_option maxRecDepth 100000 in
theorem ax_mg144 : ax_mkb ax_q144 (7049, 1015, false, 7047) = true := by decide +kernel
set_option maxRecDepth 100000 in
theorem ax_mg145 : ax_mkb ax_q145 (7065, 1015, false, 7064) = true := by decide +kernel
set_option maxRecDepth 100000 in
theorem ax_mg146 : ax_mkb ax_q146 (7068, 1015, true, 7067) = true := by decide +kernel
set_option maxRecDepth 100000 in
theorem ax_mg147 : ax_mkb ax_q147 (7061, 1015, false, 7060) = true := by decide +kernel
set_option maxRecDepth 100000 in
theorem ax_mg148 : ax_mkb ax_q148 (7080, 1015, false, 7079) = true := by decide +kernel
set_option maxRecDepth 100000 in
theorem ax_mg149 : ax_mkb ax_q149 (7086, 1015, false, 7085) = true := by decide +kernel
set_option maxRecDepth 100000 in
theorem ax_mg150 : ax_mkb ax_q150 (7076, 1015, false, 7075) = true := by decide +kernel
set_option maxRecDepth 100000 in
theorem ax_mg151 : ax_mkb ax_q151 (7072, 1015, false, 7071) = true := by decide +kernel
set_option maxRecDepth 100000 in
theorem ax_mg152 : ax_mkb ax_q152 (7057, 1015, false, 7056) = true := by decide +kernel
set_option maxRecDepth 100000 in
theorem ax_mg153 : ax_mkb ax_q153 (7094, 1015, false, 7093) = true := by decide +kernel
set_option maxRecDepth 100000 in
theorem ax_mg154 : ax_mkb ax_q154 (7090, 1015, false, 7089) = true := by decide +kernel
set_option maxRecDepth 100000 in
theorem ax_mg155 : ax_mkb ax_q155 (7132, 1015, false, 7131) = true := by decide +kernel
set_option maxRecDepth 100000 in
theorem ax_mg156 : ax_mkb ax_q156 (7053, 1015, false, 7051) = true := by decide +kernel
set_option maxRecDepth 100000 in
theorem ax_mg157 : ax_mkb ax_q157 (7151, 1015, false, 7150) = true := by decide +kernel
set_option maxRecDepth 100000 in
theorem ax_mg158 : ax_mkb ax_q158 (7140, 1015, false, 7139) = true := by decide +kernel
set_option maxRecDepth 100000 in
theorem ax_mg159 : ax_mkb ax_q159 (7136, 1015, false, 7134) = true := by decide +kernel
set_option maxRecDepth 100000 in
theorem ax_mg160 : ax_mkb ax_q160 (7155, 1015, false, 7153) = true := by decide +kernel
set_option maxRecDepth 100000 in
theorem ax_mg161 : ax_mkb ax_q161 (7167, 1015, false, 7166) = true := by decide +kernel
set_option maxRecDepth 100000 in
theorem ax_mg162 : ax_mkb ax_q162 (7171, 1015, false, 7170) = true := by decide +kernel
set_option maxRecDepth 100000 in
theorem ax_mg163 : ax_mkb ax_q163 (7159, 1015, false, 7157) = true := by decide +kernel
set_option maxRecDepth 100000 in
theorem ax_mg164 : ax_mkb ax_q164 (7176, 1015, false, 7174) = true := by decide +kernel
set_option maxRecDepth 100000 in
theorem ax_mg165 : ax_mkb ax_q165 (7180, 1015, false, 7178) = true := by decide +kernel
set_option maxRecDepth 100000 in
theorem ax_mg166 : ax_mkb ax_q166 (7188, 1015, false, 7187) = true := by decide +kernel
set_option maxRecDepth 100000 in
theorem ax_mg167 : ax_mkb ax_q167 (7184, 1015, false, 7182) = true := by decide +kernel
set_option maxRecDepth 100000 in
theorem ax_mg168 : ax_mkb ax_q168 (7192, 1015, false, 7190) = true := by decide +kernel
set_option maxRecDepth 100000 in
theorem ax_mg169 : ax_mkb ax_q169 (7196, 1015, false, 7194) = true := by decide +kernel
set_option maxRecDepth 100000 in
theorem ax_mg170 : ax_mkb ax_q170 (7120, 1015, false, 7119) = true := by decide +kernel
set_option maxRecDepth 100000 in
theorem ax_mg171 : ax_mkb ax_q171 (7203, 1015, false, 7201) = true := by decide +kernel
set_option maxRecDepth 100000 in
theorem ax_mg172 : ax_mkb ax_q172 (7211, 1015, false, 7210) = true := by decide +kernel
set_option maxRecDepth 100000 in
theorem ax_mg173 : ax_mkb ax_q173 (7207, 1015, false, 7205) = true := by decide +kernel
set_option maxRecDepth 100000 in
theorem ax_mg174 : ax_mkb ax_q174 (7223, 1015, false, 7222) = true := by decide +kernel
set_option maxRecDepth 100000 in
theorem ax_mg175 : ax_mkb ax_q175 (7215, 1015, false, 7213) = true := by decide +kernel
set_option maxRecDepth 100000 in
theorem ax_mg176 : ax_mkb ax_q176 (7232, 1015, false, 7230) = true := by decide +kernel
set_option maxRecDepth 100000 in
theorem ax_mg177 : ax_mkb ax_q177 (7239, 1015, true, 7238) = true := by decide +kernel
set_option maxRecDepth 100000 in
theorem ax_mg178 : ax_mkb ax_q178 (7236, 1015, false, 7234) = true := by decide +kernel
set_option maxRecDepth 100000 in
theorem ax_mg179 : ax_mkb ax_q179 (8003, 1015, false, 8001) = true := by decide +kernel
set_option maxRecDepth 100000 in
theorem ax_mg180 : ax_mkb ax_q180 (8007, 1015, false, 8005) = true := by decide +kernel
set_option maxRecDepth 100000 in
theorem ax_mg181 : ax_mkb ax_q181 (8017, 1015, true, 8016) = true := by decide +kernel
set_option maxRecDepth 100000 in
theorem ax_mg182 : ax_mkb ax_q182 (8014, 1015, false, 8012) = true := by decide +kernel
set_option maxRecDepth 100000 in
theorem ax_mg183 : ax_mkb ax_q183 (8021, 1015, false, 8019) = true := by decide +kernel
set_option maxRecDepth 100000 in
theorem ax_mg184 : ax_mkb ax_q184 (8029, 1015, false, 8028) = true := by decide +kernel
set_option maxRecDepth 100000 in
theorem ax_mg185 : ax_mkb ax_q185 (8025, 1015, false, 8023) = true := by decide +kernel
set_option maxRecDepth 100000 in
theorem ax_mg186 : ax_mkb ax_q186 (8033, 1015, false, 8031) = true := by decide +kernel
set_option maxRecDepth 100000 in
theorem ax_mg187 : ax_mkb ax_q187 (8036, 1015, true, 8035) = true := by decide +kernel
set_option maxRecDepth 100000 in
theorem ax_mg188 : ax_mkb ax_q188 (8043, 1015, true, 8042) = true := by decide +kernel
set_option maxRecDepth 100000 in
theorem ax_mg189 : ax_mkb ax_q189 (8040, 1015, false, 8038) = true := by decide +kernel
set_option maxRecDepth 100000 in
theorem ax_mg190 : ax_mkb ax_q190 (8047, 1015, false, 8045) = true := by decide +kernel
set_option maxRecDepth 100000 in
theorem ax_mg191 : ax_mkb ax_q191 (7116, 1015, false, 7115) = true := by decide +kernel
set_option maxRecDepth 100000 in
theorem ax_mg192 : ax_mkb ax_q192 (7128, 1015, false, 7127) = true := by decide +kernel
set_option maxRecDepth 100000 in
theorem ax_mg193 : ax_mkb ax_q193 (8055, 1015, false, 8054) = true := by decide +kernel
set_option maxRecDepth 100000 in
theorem ax_mg194 : ax_mkb ax_q194 (8051, 1015, false, 8049) = true := by decide +kernel
set_option maxRecDepth 100000 in
theorem ax_mg195 : ax_mkb ax_q195 (8059, 1015, false, 8057) = true := by decide +kernel
set_option maxRecDepth 100000 in
theorem ax_mg196 : ax_mkb ax_q196 (8063, 1015, false, 8061) = true := by decide +kernel
set_option maxRecDepth 100000 in
theorem ax_mg197 : ax_mkb ax_q197 (8067, 1015, false, 8065) = true := by decide +kernel
set_option maxRecDepth 100000 in
theorem ax_mg198 : ax_mkb ax_q198 (8071, 1015, false, 8069) = true := by decide +kernel
set_option maxRecDepth 100000 in
theorem ax_mg199 : ax_mkb ax_q199 (7147, 1015, true, 7146) = true := by decide +kernel
set_option maxRecDepth 100000 in
theorem ax_mg200 : ax_mkb ax_q200 (7144, 1015, false, 7143) = true := by decide +kernel
set_option maxRecDepth 100000 in
theorem ax_mg201 : ax_mkb ax_q201 (8083, 1015, false, 8082) = true := by decide +kernel
set_option maxRecDepth 100000 in
theorem ax_mg202 : ax_mkb ax_q202 (8079, 1015, false, 8078) = true := by decide +kernel
set_option maxRecDepth 100000 in
theorem ax_mg203 : ax_mkb ax_q203 (8075, 1015, false, 8073) = true := by decide +kernel
set_option maxRecDepth 100000 in
theorem ax_mg204 : ax_mkb ax_q204 (8090, 1015, true, 8089) = true := by decide +kernel
set_option maxRecDepth 100000 in
theorem ax_mg205 : ax_mkb ax_q205 (8087, 1015, false, 8085) = true := by decide +kernel
set_option maxRecDepth 100000 in
theorem ax_mg206 : ax_mkb ax_q206 (8094, 1015, false, 8092) = true := by decide +kernel
set_option maxRecDepth 100000 in
theorem ax_mg207 : ax_mkb ax_q207 (8098, 1015, false, 8096) = true := by decide +kernel
set_option maxRecDepth 100000 in
theorem ax_mg208 : ax_mkb ax_q208 (8102, 1015, false, 8100) = true := by decide +kernel
set_option maxRecDepth 100000 in
theorem ax_mg209 : ax_mkb ax_q209 (8114, 1015, false, 8113) = true := by decide +kernel
set_option maxRecDepth 100000 in
theorem ax_mg210 : ax_mkb ax_q210 (8110, 1015, false, 8109) = true := by decide +kernel
set_option maxRecDepth 100000 in
theorem ax_mg211 : ax_mkb ax_q211 (8106, 1015, false, 8104) = true := by decide +kernel
set_option maxRecDepth 100000 in
theorem ax_mg212 : ax_mkb ax_q212 (8118, 1015, false, 8116) = true := by decide +kernel
set_option maxRecDepth 100000 in
theorem ax_mg213 : ax_mkb ax_q213 (8126, 1015, false, 8125) = true := by decide +kernel
set_option maxRecDepth 100000 in
theorem ax_mg214 : ax_mkb ax_q214 (8122, 1015, false, 8120) = true := by decide +kernel
set_option maxRecDepth 100000 in
theorem ax_mg215 : ax_mkb ax_q215 (8130, 1015, false, 8128) = true := by decide +kernel
set_option maxRecDepth 100000 in
theorem ax_mg216 : ax_mkb ax_q216 (8134, 1015, false, 8132) = true := by decide +kernel
set_option maxRecDepth 100000 in
theorem ax_mg217 : ax_mkb ax_q217 (8138, 1015, false, 8136) = true := by decide +kernel
set_option maxRecDepth 100000 in
theorem ax_mg218 : ax_mkb ax_q218 (8142, 1015, false, 8140) = true := by decide +kernel
set_option maxRecDepth 100000 in
theorem ax_mg219 : ax_mkb ax_q219 (2119, 1000, true, 2118) = true := by decide +kernel
set_option maxRecDepth 100000 in
theorem ax_mg220 : ax_mkb ax_q220 (2202, 1000, true, 2201) = true := by decide +kernel
set_option maxRecDepth 100000 in
theorem ax_mg221 : ax_mkb ax_q221 (2226, 1000, true, 2225) = true := by decide +kernel
set_option maxRecDepth 100000 in
theorem ax_mg222 : ax_mkb ax_q222 (3148, 1000, true, 3147) = true := by decide +kernel
set_option maxRecDepth 100000 in
theorem ax_mg223 : ax_mkb ax_q223 (3163, 1000, true, 3162) = true := by decide +kernel
set_option maxRecDepth 100000 in
theorem ax_mg224 : ax_mkb ax_q224 (5021, 1000, true, 5020) = true := by decide +kernel
set_option maxRecDepth 100000 in
theorem ax_mg225 : ax_mkb ax_q225 (5039, 1000, true, 5038) = true := by decide +kernel
set_option maxRecDepth 100000 in
theorem ax_mg226 : ax_mkb ax_q226 (5050, 1000, true, 5049) = true := by decide +kernel
set_option maxRecDepth 100000 in
theorem ax_mg227 : ax_mkb ax_q227 (5057, 1000, true, 5056) = true := by decide +kernel
set_option maxRecDepth 100000 in
theorem ax_mg228 : ax_mkb ax_q228 (5068, 1000, true, 5067) = true := by decide +kernel
set_option maxRecDepth 100000 in
theorem ax_mg229 : ax_mkb ax_q229 (5076, 1000, true, 5075) = true := by decide +kernel
set_option maxRecDepth 100000 in
theorem ax_mg230 : ax_mkb ax_q230 (5091, 1000, true, 5090) = true := by decide +kernel
set_option maxRecDepth 100000 in
theorem ax_mg231 : ax_mkb ax_q231 (5129, 1000, true, 5128) = true := by decide +kernel
set_option maxRecDepth 100000 in
theorem ax_mg232 : ax_mkb ax_q232 (5137, 1000, true, 5136) = true := by decide +kernel
set_option maxRecDepth 100000 in
theorem ax_mg233 : ax_mkb ax_q233 (5149, 1000, true, 5148) = true := by decide +kernel
set_option maxRecDepth 100000 in
theorem ax_mg234 : ax_mkb ax_q234 (5160, 1000, true, 5159) = true := by decide +kernel
set_option maxRecDepth 100000 in
theorem ax_mg235 : ax_mkb ax_q235 (5184, 1000, true, 5183) = true := by decide +kernel
set_option maxRecDepth 100000 in
theorem ax_mg236 : ax_mkb ax_q236 (5197, 1000, true, 5196) = true := by decide +kernel
set_option maxRecDepth 100000 in
theorem ax_mg237 : ax_mkb ax_q237 (5205, 1000, true, 5204) = true := by decide +kernel
set_option maxRecDepth 100000 in
theorem ax_mg238 : ax_mkb ax_q238 (5220, 1000, true, 5219) = true := by decide +kernel
set_option maxRecDepth 100000 in
theorem ax_mg239 : ax_mkb ax_q239 (5239, 1000, true, 5238) = true := by decide +kernel
set_option maxRecDepth 100000 in
theorem ax_mg240 : ax_mkb ax_q240 (6010, 1000, true, 6009) = true := by decide +kernel
set_option maxRecDepth 100000 in
theorem ax_mg241 : ax_mkb ax_q241 (6034, 1000, true, 6033) = true := by decide +kernel
set_option maxRecDepth 100000 in
theorem ax_mg242 : ax_mkb ax_q242 (6053, 1000, true, 6052) = true := by decide +kernel
set_option maxRecDepth 100000 in
theorem ax_mg243 : ax_mkb ax_q243 (6061, 1000, true, 6060) = true := by decide +kernel
set_option maxRecDepth 100000 in
theorem ax_mg244 : ax_mkb ax_q244 (6068, 1000, true, 6067) = true := by decide +kernel
set_option maxRecDepth 100000 in
theorem ax_mg245 : ax_mkb ax_q245 (6079, 1000, true, 6078) = true := by decide +kernel
set_option maxRecDepth 100000 in
theorem ax_mg246 : ax_mkb ax_q246 (6090, 1000, true, 6089) = true := by decide +kernel
set_option maxRecDepth 100000 in
theorem ax_mg247 : ax_mkb ax_q247 (6098, 1000, true, 6097) = true := by decide +kernel
set_option maxRecDepth 100000 in
theorem ax_mg248 : ax_mkb ax_q248 (6123, 1000, true, 6122) = true := by decide +kernel
set_option maxRecDepth 100000 in
theorem ax_mg249 : ax_mkb ax_q249 (6130, 1000, true, 6129) = true := by decide +kernel
set_option maxRecDepth 100000 in
theorem ax_mg250 : ax_mkb ax_q250 (6139, 1000, true, 6138) = true := by decide +kernel
set_option maxRecDepth 100000 in
theorem ax_mg251 : ax_mkb ax_q251 (6146, 1000, true, 6145) = true := by decide +kernel
set_option maxRecDepth 100000 in
theorem ax_mg252 : ax_mkb ax_q252 (6164, 1000, true, 6163) = true := by decide +kernel
set_option maxRecDepth 100000 in
theorem ax_mg253 : ax_mkb ax_q253 (1201, 1013, true, 1200) = true := by decide +kernel
set_option maxRecDepth 100000 in
theorem ax_mg254 : ax_mkb ax_q254 (1223, 1013, true, 1222) = true := by decide +kernel
set_option maxRecDepth 100000 in
theorem ax_mg255 : ax_mkb ax_q255 (2094, 1033, true, 2093) = true := by decide +kernel
set_option maxRecDepth 100000 in
theorem ax_mg256 : ax_mkb ax_q256 (1096, 1005, false, 1095) = true := by decide +kernel
set_option maxRecDepth 100000 in
theorem ax_mg257 : ax_mkb ax_q257 (1099, 1004, false, 1098) = true := by decide +kernel
set_option maxRecDepth 100000 in
theorem ax_mg258 : ax_mkb ax_q258 (4149, 1005, false, 4148) = true := by decide +kernel
set_option maxRecDepth 100000 in
theorem ax_mg259 : ax_mkb ax_q259 (4151, 1004, false, 4145) = true := by decide +kernel
set_option maxRecDepth 100000 in
theorem ax_mg260 : ax_mkb ax_q260 (4238, 1005, false, 4236) = true := by decide +kernel
set_option maxRecDepth 100000 in
theorem ax_mg261 : ax_mkb ax_q261 (4105, 1005, false, 4103) = true := by decide +kernel
set_option maxRecDepth 100000 in
theorem ax_mg262 : ax_mkb ax_q262 (3227, 1005, false, 3225) = true := by decide +kernel
set_option maxRecDepth 100000 in
theorem ax_mg263 : ax_mkb ax_q263 (3212, 1005, false, 3210) = true := by decide +kernel
set_option maxRecDepth 100000 in
theorem ax_mg264 : ax_mkb ax_q264 (5030, 1005, false, 5028) = true := by decide +kernel
set_option maxRecDepth 100000 in
theorem ax_mg265 : ax_mkb ax_q265 (5001, 1004, false, 5000) = true := by decide +kernel
set_option maxRecDepth 100000 in
theorem ax_mg266 : ax_mkb ax_q266 (4108, 1004, false, 4107) = true := by decide +kernel
set_option maxRecDepth 100000 in
theorem ax_mg267 : ax_mkb ax_q267 (3230, 1004, false, 3229) = true := by decide +kernel
set_option maxRecDepth 100000 in
theorem ax_mg268 : ax_mkb ax_q268 (3238, 1004, false, 3237) = true := by decide +kernel
set_option maxRecDepth 100000 in
theorem ax_mg269 : ax_mkb ax_q269 (4002, 1004, false, 4001) = true := by decide +kernel
set_option maxRecDepth 100000 in
theorem ax_mg270 : ax_mkb ax_q270 (4071, 1004, false, 4070) = true := by decide +kernel
set_option maxRecDepth 100000 in
theorem ax_mg271 : ax_mkb ax_q271 (4075, 1004, false, 4074) = true := by decide +kernel
set_option maxRecDepth 100000 in
theorem ax_mg272 : ax_mkb ax_q272 (4032, 1004, false, 4029) = true := by decide +kernel
set_option maxRecDepth 100000 in
theorem ax_mg273 : ax_mkb ax_q273 (3215, 1004, false, 3214) = true := by decide +kernel
set_option maxRecDepth 100000 in
theorem ax_mg274 : ax_mkb ax_q274 (5033, 1004, false, 5032) = true := by decide +kernel
set_option maxRecDepth 100000 in
theorem ax_mg275 : ax_mkb ax_q275 (4062, 1006, false, 4060) = true := by decide +kernel
set_option maxRecDepth 100000 in
theorem ax_mg276 : ax_mkb ax_q276 (4066, 1006, false, 4064) = true := by decide +kernel
set_option maxRecDepth 100000 in
theorem ax_mg277 : ax_mkb ax_q277 (4099, 1006, false, 4097) = true := by decide +kernel
set_option maxRecDepth 100000 in
theorem ax_mg278 : ax_mkb ax_q278 (5013, 1006, true, 5012) = true := by decide +kernel
set_option maxRecDepth 100000 in
theorem ax_mg279 : ax_mkb ax_q279 (5016, 1027, true, 5015) = true := by decide +kernel
set_option maxRecDepth 100000 in
theorem ax_mg280 : ax_mkb ax_q280 (5004, 1028, true, 5003) = true := by decide +kernel
set_option maxRecDepth 100000 in
theorem ax_mg281 : ax_mkb ax_q281 (4111, 1030, true, 4110) = true := by decide +kernel
set_option maxRecDepth 100000 in
theorem ax_mg282 : ax_mkb ax_q282 (4114, 1030, true, 4113) = true := by decide +kernel
set_option maxRecDepth 100000 in
theorem ax_mg283 : ax_mkb ax_q283 (4014, 1013, true, 4013) = true := by decide +kernel
set_option maxRecDepth 100000 in
theorem ax_mg284 : ax_mkb ax_q284 (4005, 1025, true, 4004) = true := by decide +kernel
