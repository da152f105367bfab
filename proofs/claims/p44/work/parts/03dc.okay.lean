/-! the rows of the linked code, 2 of 4 -/
set_option maxRecDepth 100000 in
theorem ax_e72 : ax_All (fun pc e => ax_okb ax_q72 pc e = true) ax_t72 := ax_All.of (by decide +kernel)
set_option maxRecDepth 100000 in
theorem ax_e73 : ax_All (fun pc e => ax_okb ax_q73 pc e = true) ax_t73 := ax_All.of (by decide +kernel)
set_option maxRecDepth 100000 in
theorem ax_e74 : ax_All (fun pc e => ax_okb ax_q74 pc e = true) ax_t74 := ax_All.of (by decide +kernel)
set_option maxRecDepth 100000 in
theorem ax_e75 : ax_All (fun pc e => ax_okb ax_q75 pc e = true) ax_t75 := ax_All.of (by decide +kernel)
set_option maxRecDepth 100000 in
theorem ax_e76 : ax_All (fun pc e => ax_okb ax_q76 pc e = true) ax_t76 := ax_All.of (by decide +kernel)
set_option maxRecDepth 100000 in
theorem ax_e77 : ax_All (fun pc e => ax_okb ax_q77 pc e = true) ax_t77 := ax_All.of (by decide +kernel)
set_option maxRecDepth 100000 in
theorem ax_e78 : ax_All (fun pc e => ax_okb ax_q78 pc e = true) ax_t78 := ax_All.of (by decide +kernel)
set_option maxRecDepth 100000 in
theorem ax_e79 : ax_All (fun pc e => ax_okb ax_q79 pc e = true) ax_t79 := ax_All.of (by decide +kernel)
set_option maxRecDepth 100000 in
theorem ax_e80 : ax_All (fun pc e => ax_okb ax_q80 pc e = true) ax_t80 := ax_All.of (by decide +kernel)
set_option maxRecDepth 100000 in
theorem ax_e81 : ax_All (fun pc e => ax_okb ax_q81 pc e = true) ax_t81 := ax_All.of (by decide +kernel)
set_option maxRecDepth 100000 in
theorem ax_e82 : ax_All (fun pc e => ax_okb ax_q82 pc e = true) ax_t82 := ax_All.of (by decide +kernel)
set_option maxRecDepth 100000 in
theorem ax_e83 : ax_All (fun pc e => ax_okb ax_q83 pc e = true) ax_t83 := ax_All.of (by decide +kernel)
set_option maxRecDepth 100000 in
theorem ax_e84 : ax_All (fun pc e => ax_okb ax_q84 pc e = true) ax_t84 := ax_All.of (by decide +kernel)
set_option maxRecDepth 100000 in
theorem ax_e85 : ax_All (fun pc e => ax_okb ax_q85 pc e = true) ax_t85 := ax_All.of (by decide +kernel)
set_option maxRecDepth 100000 in
theorem ax_e86 : ax_All (fun pc e => ax_okb ax_q86 pc e = true) ax_t86 := ax_All.of (by decide +kernel)
set_option maxRecDepth 100000 in
theorem ax_e87 : ax_All (fun pc e => ax_okb ax_q87 pc e = true) ax_t87 := ax_All.of (by decide +kernel)
set_option maxRecDepth 100000 in
theorem ax_e88 : ax_All (fun pc e => ax_okb ax_q88 pc e = true) ax_t88 := ax_All.of (by decide +kernel)
set_option maxRecDepth 100000 in
theorem ax_e89 : ax_All (fun pc e => ax_okb ax_q89 pc e = true) ax_t89 := ax_All.of (by decide +kernel)
set_option maxRecDepth 100000 in
theorem ax_e90 : ax_All (fun pc e => ax_okb ax_q90 pc e = true) ax_t90 := ax_All.of (by decide +kernel)
set_option maxRecDepth 100000 in
theorem ax_e91 : ax_All (fun pc e => ax_okb ax_q91 pc e = true) ax_t91 := ax_All.of (by decide +kernel)
set_option maxRecDepth 100000 in
theorem ax_e92 : ax_All (fun pc e => ax_okb ax_q92 pc e = true) ax_t92 := ax_All.of (by decide +kernel)
set_option maxRecDepth 100000 in
theorem ax_e93 : ax_All (fun pc e => ax_okb ax_q93 pc e = true) ax_t93 := ax_All.of (by decide +kernel)
set_option maxRecDepth 100000 in
theorem ax_e94 : ax_All (fun pc e => ax_okb ax_q94 pc e = true) ax_t94 := ax_All.of (by decide +kernel)
set_option maxRecDepth 100000 in
theorem ax_e95 : ax_All (fun pc e => ax_okb ax_q95 pc e = true) ax_t95 := ax_All.of (by decide +kernel)
set_option maxRecDepth 100000 in
theorem ax_e96 : ax_All (fun pc e => ax_okb ax_q96 pc e = true) ax_t96 := ax_All.of (by decide +kernel)
set_option maxRecDepth 100000 in
theorem ax_e97 : ax_All (fun pc e => ax_okb ax_q97 pc e = true) ax_t97 := ax_All.of (by decide +kernel)
set_option maxRecDepth 100000 in
theorem ax_e98 : ax_All (fun pc e => ax_okb ax_q98 pc e = true) ax_t98 := ax_All.of (by decide +kernel)
set_option maxRecDepth 100000 in
theorem ax_e99 : ax_All (fun pc e => ax_okb ax_q99 pc e = true) ax_t99 := ax_All.of (by decide +kernel)
set_option maxRecDepth 100000 in
theorem ax_e100 : ax_All (fun pc e => ax_okb ax_q100 pc e = true) ax_t100 := ax_All.of (by decide +kernel)
set_option maxRecDepth 100000 in
theorem ax_e101 : ax_All (fun pc e => ax_okb ax_q101 pc e = true) ax_t101 := ax_All.of (by decide +kernel)
set_option maxRecDepth 100000 in
theorem ax_e102 : ax_All (fun pc e => ax_okb ax_q102 pc e = true) ax_t102 := ax_All.of (by decide +kernel)
set_option maxRecDepth 100000 in
theorem ax_e103 : ax_All (fun pc e => ax_okb ax_q103 pc e = true) ax_t103 := ax_All.of (by decide +kernel)
set_option maxRecDepth 100000 in
theorem ax_e104 : ax_All (fun pc e => ax_okb ax_q104 pc e = true) ax_t104 := ax_All.of (by decide +kernel)
set_option maxRecDepth 100000 in
theorem ax_e105 : ax_All (fun pc e => ax_okb ax_q105 pc e = true) ax_t105 := ax_All.of (by decide +kernel)
set_option maxRecDepth 100000 in
theorem ax_e106 : ax_All (fun pc e => ax_okb ax_q106 pc e = true) ax_t106 := ax_All.of (by decide +kernel)
set_option maxRecDepth 100000 in
theorem ax_e107 : ax_All (fun pc e => ax_okb ax_q107 pc e = true) ax_t107 := ax_All.of (by decide +kernel)
set_option maxRecDepth 100000 in
theorem ax_e108 : ax_All (fun pc e => ax_okb ax_q108 pc e = true) ax_t108 := ax_All.of (by decide +kernel)
set_option maxRecDepth 100000 in
theorem ax_e109 : ax_All (fun pc e => ax_okb ax_q109 pc e = true) ax_t109 := ax_All.of (by decide +kernel)
set_option maxRecDepth 100000 in
theorem ax_e110 : ax_All (fun pc e => ax_okb ax_q110 pc e = true) ax_t110 := ax_All.of (by decide +kernel)
set_option maxRecDepth 100000 in
theorem ax_e111 : ax_All (fun pc e => ax_okb ax_q111 pc e = true) ax_t111 := ax_All.of (by decide +kernel)
set_option maxRecDepth 100000 in
theorem ax_e112 : ax_All (fun pc e => ax_okb ax_q112 pc e = true) ax_t112 := ax_All.of (by decide +kernel)
set_option maxRecDepth 100000 in
theorem ax_e113 : ax_All (fun pc e => ax_okb ax_q113 pc e = true) ax_t113 := ax_All.of (by decide +kernel)
set_option maxRecDepth 100000 in
theorem ax_e114 : ax_All (fun pc e => ax_okb ax_q114 pc e = true) ax_t114 := ax_All.of (by decide +kernel)
set_option maxRecDepth 100000 in
theorem ax_e115 : ax_All (fun pc e => ax_okb ax_q115 pc e = true) ax_t115 := ax_All.of (by decide +kernel)
set_option maxRecDepth 100000 in
theorem ax_e116 : ax_All (fun pc e => ax_okb ax_q116 pc e = true) ax_t116 := ax_All.of (by decide +kernel)
set_option maxRecDepth 100000 in
theorem ax_e117 : ax_All (fun pc e => ax_okb ax_q117 pc e = true) ax_t117 := ax_All.of (by decide +kernel)
set_option maxRecDepth 100000 in
theorem ax_e118 : ax_All (fun pc e => ax_okb ax_q118 pc e = true) ax_t118 := ax_All.of (by decide +kernel)
set_option maxRecDepth 100000 in
theorem ax_e119 : ax_All (fun pc e => ax_okb ax_q119 pc e = true) ax_t119 := ax_All.of (by decide +kernel)
set_option maxRecDepth 100000 in
theorem ax_e120 : ax_All (fun pc e => ax_okb ax_q120 pc e = true) ax_t120 := ax_All.of (by decide +kernel)
set_option maxRecDepth 100000 in
theorem ax_e121 : ax_All (fun pc e => ax_okb ax_q121 pc e = true) ax_t121 := ax_All.of (by decide +kernel)
set_option maxRecDepth 100000 in
theorem ax_e122 : ax_All (fun pc e => ax_okb ax_q122 pc e = true) ax_t122 := ax_All.of (by decide +kernel)
set_option maxRecDepth 100000 in
theorem ax_e123 : ax_All (fun pc e => ax_okb ax_q123 pc e = true) ax_t123 := ax_All.of (by decide +kernel)
set_option maxRecDepth 100000 in
theorem ax_e124 : ax_All (fun pc e => ax_okb ax_q124 pc e = true) ax_t124 := ax_All.of (by decide +kernel)
set_option maxRecDepth 100000 in
theorem ax_e125 : ax_All (fun pc e => ax_okb ax_q125 pc e = true) ax_t125 := ax_All.of (by decide +kernel)
set_option maxRecDepth 100000 in
theorem ax_e126 : ax_All (fun pc e => ax_okb ax_q126 pc e = true) ax_t126 := ax_All.of (by decide +kernel)
set_option maxRecDepth 100000 in
theorem ax_e127 : ax_All (fun pc e => ax_okb ax_q127 pc e = true) ax_t127 := ax_All.of (by decide +kernel)
set_option maxRecDepth 100000 in
theorem ax_e128 : ax_All (fun pc e => ax_okb ax_q128 pc e = true) ax_t128 := ax_All.of (by decide +kernel)
set_option maxRecDepth 100000 in
theorem ax_e129 : ax_All (fun pc e => ax_okb ax_q129 pc e = true) ax_t129 := ax_All.of (by decide +kernel)
set_option maxRecDepth 100000 in
theorem ax_e130 : ax_All (fun pc e => ax_okb ax_q130 pc e = true) ax_t130 := ax_All.of (by decide +kernel)
set_option maxRecDepth 100000 in
theorem ax_e131 : ax_All (fun pc e => ax_okb ax_q131 pc e = true) ax_t131 := ax_All.of (by decide +kernel)
set_option maxRecDepth 100000 in
theorem ax_e132 : ax_All (fun pc e => ax_okb ax_q132 pc e = true) ax_t132 := ax_All.of (by decide +kernel)
set_option maxRecDepth 100000 in
theorem ax_e133 : ax_All (fun pc e => ax_okb ax_q133 pc e = true) ax_t133 := ax_All.of (by decide +kernel)
set_option maxRecDepth 100000 in
theorem ax_e134 : ax_All (fun pc e => ax_okb ax_q134 pc e = true) ax_t134 := ax_All.of (by decide +kernel)
set_option maxRecDepth 100000 in
theorem ax_e135 : ax_All (fun pc e => ax_okb ax_q135 pc e = true) ax_t135 := ax_All.of (by decide +kernel)
set_option maxRecDepth 100000 in
theorem ax_e136 : ax_All (fun pc e => ax_okb ax_q136 pc e = true) ax_t136 := ax_All.of (by decide +kernel)
set_option maxRecDepth 100000 in
theorem ax_e137 : ax_All (fun pc e => ax_okb ax_q137 pc e = true) ax_t137 := ax_All.of (by decide +kernel)
set_option maxRecDepth 100000 in
theorem ax_e138 : ax_All (fun pc e => ax_okb ax_q138 pc e = true) ax_t138 := ax_All.of (by decide +kernel)
set_option maxRecDepth 100000 in
theorem ax_e139 : ax_All (fun pc e => ax_okb ax_q139 pc e = true) ax_t139 := ax_All.of (by decide +kernel)
set_option maxRecDepth 100000 in
theorem ax_e140 : ax_All (fun pc e => ax_okb ax_q140 pc e = true) ax_t140 := ax_All.of (by decide +kernel)
set_option maxRecDepth 100000 in
theorem ax_e141 : ax_All (fun pc e => ax_okb ax_q141 pc e = true) ax_t141 := ax_All.of (by decide +kernel)
set_option maxRecDepth 100000 in
theorem ax_e142 : ax_All (fun pc e => ax_okb ax_q142 pc e = true) ax_t142 := ax_All.of (by decide +kernel)
