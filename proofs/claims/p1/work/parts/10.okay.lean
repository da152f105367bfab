/-! THE LINKED CODE IS SO -/
def ax_look (i pc : Nat) : Option ax_E := (ax_ts.getD i []).find? (fun e => Nat.beq e.1 pc)
def ax_wk (ix : Nat) (w : Cond) : Bool := decide (lw_tbl[ix]? = some w) && goodWord w
theorem ax_wk_mem {ix : Nat} {w : Cond} (h : ax_wk ix w = true) : w ∈ ax_tb := by
  simp only [ax_wk, Bool.and_eq_true, decide_eq_true_eq] at h
  exact ax_mem ix h.1 h.2
def ax_fl (own : String) (ix : Nat) (q : ax_Cl) (j : Nat) : Cond := .fieldLink own ix (q.2.1 j).1 (q.2.1 j).2.1 (q.2.1 j).2.2.1
def ax_pl (y : MethodName) (n : Nat) : Bool := decide ((parseMethodDescriptor y.desc).map (fun d => d.parameters.length) = some n)
def ax_len : Instr → Nat
  | .bipush _ => 2
  | .iload _ => 2
  | .lload _ => 2
  | .aload _ => 2
  | .istore _ => 2
  | .lstore _ => 2
  | .astore _ => 2
  | .ldc _ => 2
  | .newarray _ => 2
  | .sipush _ => 3
  | .iinc _ _ => 3
  | .ifCond _ _ => 3
  | .if_icmp _ _ => 3
  | .goto _ => 3
  | .getfield _ => 3
  | .putfield _ => 3
  | .getstatic _ => 3
  | .new _ => 3
  | .anewarray _ => 3
  | .ldc_w _ => 3
  | .ldc2_w _ => 3
  | .invokestatic _ => 3
  | .invokevirtual _ => 3
  | .invokespecial _ => 3
  | _ => 1
def ax_okx (k : ax_M) (ins : Instr) (a b c : Nat) (v : Value) (ws : List Nat) : Bool := match ins with
    | .getfield ix => match ax_cls[a]?, ws with
      | some q, [w] => Nat.blt b q.2.2.1 && ax_wk w (ax_fl k.1.cls ix q b)
      | _, _ => false
    | .putfield ix => match ax_cls[a]?, ws with
      | some q, [w] => Nat.blt b q.2.2.1 && ax_wk w (ax_fl k.1.cls ix q b) && (!(q.2.1 b).2.2.2 || (decide (k.1.name = "<init>") && decide ((q.2.1 b).1 = k.1.cls)))
      | _, _ => false
    | .getstatic ix => match ax_stat[a]?, ws with
      | some q, [w] => ax_wk w (.fieldLink k.1.cls ix q.1 q.2.1 q.2.2.1)
      | _, _ => false
    | .new ix => Nat.ble 800 a || match ax_cls[a]?, ws with
      | some q, [w1, w2, w3] => ax_wk w1 (.classLink k.1.cls ix q.1) && ax_wk w2 (.instantiable q.1 q.2.2.1) && ax_wk w3 (.initialized q.1)
      | _, _ => false
    | .newarray at_ => match ax_tys[a]?, ws with
      | some ty, [w] => decide (newarray.typeOf at_ = ty) && ax_wk w (.arrayClass ty) && decide (ty ≠ .float) && decide (ty ≠ .double)
      | _, _ => false
    | .anewarray ix => match ax_tys[a]?, ws with
      | some (.object C), [w1, w2] => ax_wk w1 (.classLink k.1.cls ix C) && ax_wk w2 (.arrayOver (.object C))
      | _, _ => false
    | .ldc2_w ix => match v, ws with
      | .long x, [w] => ax_wk w (.constantLong k.1.cls ix x)
      | _, _ => false
    | .ldc ix => match v, ws with
      | .int x, [w] => ax_wk w (.constant k.1.cls ix x)
      | _, _ => false
    | .invokestatic ix => match ws with
      | [w] => ax_wk w (.methodLink k.1.cls ix (ax_mm a).1) && ax_pl (ax_mm a).1 b
      | _ => false
    | .invokevirtual ix => match ax_cls[c]?, ws with
      | some q, [w1, w2] => ax_wk w1 (.methodLink k.1.cls ix (ax_mm a).1) && ax_pl (ax_mm a).1 b && ax_wk w2 (.selects q.1 (ax_mm a).1 (ax_mm a).1)
      | _, _ => false
    | .invokespecial ix => match c, ws with
      | 2, [w] => ax_wk w (.methodLink k.1.cls ix Lib.objectInit)
      | 1, [] => ax_pl (ax_mm a).1 b && decide (Cond.methodLinkNest k.1.cls ix (ax_mm a).1 "PseudoBoolean" ∈ ax_nw)
      | 0, [w] => ax_wk w (.methodLink k.1.cls ix (ax_mm a).1) && ax_pl (ax_mm a).1 b
      | _, _ => false
    | _ => true
def ax_okb (k : ax_M) (e : ax_E) : Bool := decide (decode k.2.1 e.1 = .ok (e.2.1, ax_len e.2.1)) && (Nat.beq e.2.2.2.1.1 900 || ax_okx k e.2.1 e.2.2.2.1.1 e.2.2.2.1.2.1 e.2.2.2.1.2.2 e.2.2.2.2.1 e.2.2.2.2.2)
theorem ax_ok0 : Cond.instanceMethod Lib.objectInit ∈ ax_tb ∧ Cond.code Lib.objectInit ⟨#[0xb1]⟩ 1 none ∈ ax_tb := ⟨ax_mem 106 (by decide +kernel) (by decide +kernel), ax_mem 107 (by decide +kernel) (by decide +kernel)⟩
/-- of a method: its code, its class, its kind -/
def ax_mkb (y : ax_M) (w : Nat × Nat × Bool × Nat) : Bool := ax_wk w.1 (ax_hd y) && ax_wk w.2.1 (.initialized y.1.cls) && (if w.2.2.1 then ax_wk w.2.2.2 (.static y.1) else ax_wk w.2.2.2 (.instanceMethod y.1)) && decide (y.1.cls ≠ "java/lang/invoke/MethodHandle") && decide (y.1.cls ≠ "java/lang/invoke/VarHandle") && Nat.ble y.2.2.1 21 && plainName y.1.cls

set_option maxRecDepth 100000 in
theorem ax_k0 : ax_t0.all (fun e => ax_okb ax_m0 e) = true := by decide +kernel
set_option maxRecDepth 100000 in
theorem ax_k1 : ax_t1.all (fun e => ax_okb ax_m1 e) = true := by decide +kernel
set_option maxRecDepth 100000 in
theorem ax_k2 : ax_t2.all (fun e => ax_okb ax_m2 e) = true := by decide +kernel
set_option maxRecDepth 100000 in
theorem ax_k3 : ax_t3.all (fun e => ax_okb ax_m3 e) = true := by decide +kernel
set_option maxRecDepth 100000 in
theorem ax_k4 : ax_t4.all (fun e => ax_okb ax_m4 e) = true := by decide +kernel
set_option maxRecDepth 100000 in
theorem ax_k5 : ax_t5.all (fun e => ax_okb ax_m5 e) = true := by decide +kernel
set_option maxRecDepth 100000 in
theorem ax_k6 : ax_t6.all (fun e => ax_okb ax_m6 e) = true := by decide +kernel
set_option maxRecDepth 100000 in
theorem ax_k7 : ax_t7.all (fun e => ax_okb ax_m7 e) = true := by decide +kernel
set_option maxRecDepth 100000 in
theorem ax_k8 : ax_t8.all (fun e => ax_okb ax_m8 e) = true := by decide +kernel
set_option maxRecDepth 100000 in
theorem ax_k9 : ax_t9.all (fun e => ax_okb ax_m9 e) = true := by decide +kernel
set_option maxRecDepth 100000 in
theorem ax_k10 : ax_t10.all (fun e => ax_okb ax_m10 e) = true := by decide +kernel
set_option maxRecDepth 100000 in
theorem ax_k11 : ax_t11.all (fun e => ax_okb ax_m11 e) = true := by decide +kernel
set_option maxRecDepth 100000 in
theorem ax_k12 : ax_t12.all (fun e => ax_okb ax_m12 e) = true := by decide +kernel
set_option maxRecDepth 100000 in
theorem ax_k13 : ax_t13.all (fun e => ax_okb ax_m13 e) = true := by decide +kernel
set_option maxRecDepth 100000 in
theorem ax_k14 : ax_t14.all (fun e => ax_okb ax_m14 e) = true := by decide +kernel
set_option maxRecDepth 100000 in
theorem ax_k15 : ax_t15.all (fun e => ax_okb ax_m15 e) = true := by decide +kernel
set_option maxRecDepth 100000 in
theorem ax_k16 : ax_t16.all (fun e => ax_okb ax_m16 e) = true := by decide +kernel
set_option maxRecDepth 100000 in
theorem ax_k17 : ax_t17.all (fun e => ax_okb ax_m17 e) = true := by decide +kernel
set_option maxRecDepth 100000 in
theorem ax_k18 : ax_t18.all (fun e => ax_okb ax_m18 e) = true := by decide +kernel
set_option maxRecDepth 100000 in
theorem ax_k19 : ax_t19.all (fun e => ax_okb ax_m19 e) = true := by decide +kernel
set_option maxRecDepth 100000 in
theorem ax_k20 : ax_t20.all (fun e => ax_okb ax_m20 e) = true := by decide +kernel
set_option maxRecDepth 100000 in
theorem ax_k21 : ax_t21.all (fun e => ax_okb ax_m21 e) = true := by decide +kernel
set_option maxRecDepth 100000 in
theorem ax_k22 : ax_t22.all (fun e => ax_okb ax_m22 e) = true := by decide +kernel
set_option maxRecDepth 100000 in
theorem ax_k23 : ax_t23.all (fun e => ax_okb ax_m23 e) = true := by decide +kernel
set_option maxRecDepth 100000 in
theorem ax_k24 : ax_t24.all (fun e => ax_okb ax_m24 e) = true := by decide +kernel
set_option maxRecDepth 100000 in
theorem ax_k25 : ax_t25.all (fun e => ax_okb ax_m25 e) = true := by decide +kernel
set_option maxRecDepth 100000 in
theorem ax_k26 : ax_t26.all (fun e => ax_okb ax_m26 e) = true := by decide +kernel
set_option maxRecDepth 100000 in
theorem ax_k27 : ax_t27.all (fun e => ax_okb ax_m27 e) = true := by decide +kernel
set_option maxRecDepth 100000 in
theorem ax_k28 : ax_t28.all (fun e => ax_okb ax_m28 e) = true := by decide +kernel
set_option maxRecDepth 100000 in
theorem ax_k29 : ax_t29.all (fun e => ax_okb ax_m29 e) = true := by decide +kernel
set_option maxRecDepth 100000 in
theorem ax_k30 : ax_t30.all (fun e => ax_okb ax_m30 e) = true := by decide +kernel
set_option maxRecDepth 100000 in
theorem ax_k31 : ax_t31.all (fun e => ax_okb ax_m31 e) = true := by decide +kernel
set_option maxRecDepth 100000 in
theorem ax_k32 : ax_t32.all (fun e => ax_okb ax_m32 e) = true := by decide +kernel
set_option maxRecDepth 100000 in
theorem ax_k33 : ax_t33.all (fun e => ax_okb ax_m33 e) = true := by decide +kernel
set_option maxRecDepth 100000 in
theorem ax_k34 : ax_t34.all (fun e => ax_okb ax_m34 e) = true := by decide +kernel
set_option maxRecDepth 100000 in
theorem ax_k35 : ax_t35.all (fun e => ax_okb ax_m35 e) = true := by decide +kernel
set_option maxRecDepth 100000 in
theorem ax_k36 : ax_t36.all (fun e => ax_okb ax_m36 e) = true := by decide +kernel
set_option maxRecDepth 100000 in
theorem ax_k37 : ax_t37.all (fun e => ax_okb ax_m37 e) = true := by decide +kernel
set_option maxRecDepth 100000 in
theorem ax_k38 : ax_t38.all (fun e => ax_okb ax_m38 e) = true := by decide +kernel
set_option maxRecDepth 100000 in
theorem ax_k39 : ax_t39.all (fun e => ax_okb ax_m39 e) = true := by decide +kernel
set_option maxRecDepth 100000 in
theorem ax_k40 : ax_t40.all (fun e => ax_okb ax_m40 e) = true := by decide +kernel
set_option maxRecDepth 100000 in
theorem ax_k41 : ax_t41.all (fun e => ax_okb ax_m41 e) = true := by decide +kernel
set_option maxRecDepth 100000 in
theorem ax_k42 : ax_t42.all (fun e => ax_okb ax_m42 e) = true := by decide +kernel
set_option maxRecDepth 100000 in
theorem ax_k43 : ax_t43.all (fun e => ax_okb ax_m43 e) = true := by decide +kernel
set_option maxRecDepth 100000 in
theorem ax_k44 : ax_t44.all (fun e => ax_okb ax_m44 e) = true := by decide +kernel
set_option maxRecDepth 100000 in
theorem ax_k45 : ax_t45.all (fun e => ax_okb ax_m45 e) = true := by decide +kernel
set_option maxRecDepth 100000 in
theorem ax_k46 : ax_t46.all (fun e => ax_okb ax_m46 e) = true := by decide +kernel
set_option maxRecDepth 100000 in
theorem ax_k47 : ax_t47.all (fun e => ax_okb ax_m47 e) = true := by decide +kernel
set_option maxRecDepth 100000 in
theorem ax_k48 : ax_t48.all (fun e => ax_okb ax_m48 e) = true := by decide +kernel
set_option maxRecDepth 100000 in
theorem ax_k49 : ax_t49.all (fun e => ax_okb ax_m49 e) = true := by decide +kernel
set_option maxRecDepth 100000 in
theorem ax_k50 : ax_t50.all (fun e => ax_okb ax_m50 e) = true := by decide +kernel
set_option maxRecDepth 100000 in
theorem ax_k51 : ax_t51.all (fun e => ax_okb ax_m51 e) = true := by decide +kernel
set_option maxRecDepth 100000 in
theorem ax_k52 : ax_t52.all (fun e => ax_okb ax_m52 e) = true := by decide +kernel
set_option maxRecDepth 100000 in
theorem ax_k53 : ax_t53.all (fun e => ax_okb ax_m53 e) = true := by decide +kernel
set_option maxRecDepth 100000 in
theorem ax_k54 : ax_t54.all (fun e => ax_okb ax_m54 e) = true := by decide +kernel
set_option maxRecDepth 100000 in
theorem ax_k55 : ax_t55.all (fun e => ax_okb ax_m55 e) = true := by decide +kernel
set_option maxRecDepth 100000 in
theorem ax_k56 : ax_t56.all (fun e => ax_okb ax_m56 e) = true := by decide +kernel
set_option maxRecDepth 100000 in
theorem ax_k57 : ax_t57.all (fun e => ax_okb ax_m57 e) = true := by decide +kernel
set_option maxRecDepth 100000 in
theorem ax_k58 : ax_t58.all (fun e => ax_okb ax_m58 e) = true := by decide +kernel
set_option maxRecDepth 100000 in
theorem ax_k59 : ax_t59.all (fun e => ax_okb ax_m59 e) = true := by decide +kernel
set_option maxRecDepth 100000 in
theorem ax_k60 : ax_t60.all (fun e => ax_okb ax_m60 e) = true := by decide +kernel
set_option maxRecDepth 100000 in
theorem ax_k61 : ax_t61.all (fun e => ax_okb ax_m61 e) = true := by decide +kernel
set_option maxRecDepth 100000 in
theorem ax_k62 : ax_t62.all (fun e => ax_okb ax_m62 e) = true := by decide +kernel
set_option maxRecDepth 100000 in
theorem ax_k63 : ax_t63.all (fun e => ax_okb ax_m63 e) = true := by decide +kernel
set_option maxRecDepth 100000 in
theorem ax_k64 : ax_t64.all (fun e => ax_okb ax_m64 e) = true := by decide +kernel
set_option maxRecDepth 100000 in
theorem ax_k65 : ax_t65.all (fun e => ax_okb ax_m65 e) = true := by decide +kernel
set_option maxRecDepth 100000 in
theorem ax_k66 : ax_t66.all (fun e => ax_okb ax_m66 e) = true := by decide +kernel
set_option maxRecDepth 100000 in
theorem ax_k67 : ax_t67.all (fun e => ax_okb ax_m67 e) = true := by decide +kernel
set_option maxRecDepth 100000 in
theorem ax_k68 : ax_t68.all (fun e => ax_okb ax_m68 e) = true := by decide +kernel
set_option maxRecDepth 100000 in
theorem ax_k69 : ax_t69.all (fun e => ax_okb ax_m69 e) = true := by decide +kernel
set_option maxRecDepth 100000 in
theorem ax_k70 : ax_t70.all (fun e => ax_okb ax_m70 e) = true := by decide +kernel
set_option maxRecDepth 100000 in
theorem ax_k71 : ax_t71.all (fun e => ax_okb ax_m71 e) = true := by decide +kernel
set_option maxRecDepth 100000 in
theorem ax_k72 : ax_t72.all (fun e => ax_okb ax_m72 e) = true := by decide +kernel
set_option maxRecDepth 100000 in
theorem ax_k73 : ax_t73.all (fun e => ax_okb ax_m73 e) = true := by decide +kernel
set_option maxRecDepth 100000 in
theorem ax_k74 : ax_t74.all (fun e => ax_okb ax_m74 e) = true := by decide +kernel
set_option maxRecDepth 100000 in
theorem ax_k75 : ax_t75.all (fun e => ax_okb ax_m75 e) = true := by decide +kernel
set_option maxRecDepth 100000 in
theorem ax_k76 : ax_t76.all (fun e => ax_okb ax_m76 e) = true := by decide +kernel
set_option maxRecDepth 100000 in
theorem ax_k77 : ax_t77.all (fun e => ax_okb ax_m77 e) = true := by decide +kernel
set_option maxRecDepth 100000 in
theorem ax_k78 : ax_t78.all (fun e => ax_okb ax_m78 e) = true := by decide +kernel
set_option maxRecDepth 100000 in
theorem ax_k79 : ax_t79.all (fun e => ax_okb ax_m79 e) = true := by decide +kernel
set_option maxRecDepth 100000 in
theorem ax_k80 : ax_t80.all (fun e => ax_okb ax_m80 e) = true := by decide +kernel
set_option maxRecDepth 100000 in
theorem ax_k81 : ax_t81.all (fun e => ax_okb ax_m81 e) = true := by decide +kernel
set_option maxRecDepth 100000 in
theorem ax_k82 : ax_t82.all (fun e => ax_okb ax_m82 e) = true := by decide +kernel
set_option maxRecDepth 100000 in
theorem ax_k83 : ax_t83.all (fun e => ax_okb ax_m83 e) = true := by decide +kernel
set_option maxRecDepth 100000 in
theorem ax_k84 : ax_t84.all (fun e => ax_okb ax_m84 e) = true := by decide +kernel
set_option maxRecDepth 100000 in
theorem ax_k85 : ax_t85.all (fun e => ax_okb ax_m85 e) = true := by decide +kernel
set_option maxRecDepth 100000 in
theorem ax_k86 : ax_t86.all (fun e => ax_okb ax_m86 e) = true := by decide +kernel
set_option maxRecDepth 100000 in
theorem ax_k87 : ax_t87.all (fun e => ax_okb ax_m87 e) = true := by decide +kernel
set_option maxRecDepth 100000 in
theorem ax_k88 : ax_t88.all (fun e => ax_okb ax_m88 e) = true := by decide +kernel
set_option maxRecDepth 100000 in
theorem ax_k89 : ax_t89.all (fun e => ax_okb ax_m89 e) = true := by decide +kernel
set_option maxRecDepth 100000 in
theorem ax_k90 : ax_t90.all (fun e => ax_okb ax_m90 e) = true := by decide +kernel
set_option maxRecDepth 100000 in
theorem ax_k91 : ax_t91.all (fun e => ax_okb ax_m91 e) = true := by decide +kernel
set_option maxRecDepth 100000 in
theorem ax_k92 : ax_t92.all (fun e => ax_okb ax_m92 e) = true := by decide +kernel
set_option maxRecDepth 100000 in
theorem ax_k93 : ax_t93.all (fun e => ax_okb ax_m93 e) = true := by decide +kernel
set_option maxRecDepth 100000 in
theorem ax_k94 : ax_t94.all (fun e => ax_okb ax_m94 e) = true := by decide +kernel
set_option maxRecDepth 100000 in
theorem ax_k95 : ax_t95.all (fun e => ax_okb ax_m95 e) = true := by decide +kernel
set_option maxRecDepth 100000 in
theorem ax_k96 : ax_t96.all (fun e => ax_okb ax_m96 e) = true := by decide +kernel
set_option maxRecDepth 100000 in
theorem ax_k97 : ax_t97.all (fun e => ax_okb ax_m97 e) = true := by decide +kernel
set_option maxRecDepth 100000 in
theorem ax_k98 : ax_t98.all (fun e => ax_okb ax_m98 e) = true := by decide +kernel
set_option maxRecDepth 100000 in
theorem ax_k99 : ax_t99.all (fun e => ax_okb ax_m99 e) = true := by decide +kernel
set_option maxRecDepth 100000 in
theorem ax_k100 : ax_t100.all (fun e => ax_okb ax_m100 e) = true := by decide +kernel
set_option maxRecDepth 100000 in
theorem ax_k101 : ax_t101.all (fun e => ax_okb ax_m101 e) = true := by decide +kernel
set_option maxRecDepth 100000 in
theorem ax_k102 : ax_t102.all (fun e => ax_okb ax_m102 e) = true := by decide +kernel
set_option maxRecDepth 100000 in
theorem ax_k103 : ax_t103.all (fun e => ax_okb ax_m103 e) = true := by decide +kernel
set_option maxRecDepth 100000 in
theorem ax_k104 : ax_t104.all (fun e => ax_okb ax_m104 e) = true := by decide +kernel
set_option maxRecDepth 100000 in
theorem ax_k105 : ax_t105.all (fun e => ax_okb ax_m105 e) = true := by decide +kernel
set_option maxRecDepth 100000 in
theorem ax_k106 : ax_t106.all (fun e => ax_okb ax_m106 e) = true := by decide +kernel
set_option maxRecDepth 100000 in
theorem ax_k107 : ax_t107.all (fun e => ax_okb ax_m107 e) = true := by decide +kernel
set_option maxRecDepth 100000 in
theorem ax_k108 : ax_t108.all (fun e => ax_okb ax_m108 e) = true := by decide +kernel
set_option maxRecDepth 100000 in
theorem ax_k109 : ax_t109.all (fun e => ax_okb ax_m109 e) = true := by decide +kernel
set_option maxRecDepth 100000 in
theorem ax_k110 : ax_t110.all (fun e => ax_okb ax_m110 e) = true := by decide +kernel
set_option maxRecDepth 100000 in
theorem ax_k111 : ax_t111.all (fun e => ax_okb ax_m111 e) = true := by decide +kernel
set_option maxRecDepth 100000 in
theorem ax_k112 : ax_t112.all (fun e => ax_okb ax_m112 e) = true := by decide +kernel
set_option maxRecDepth 100000 in
theorem ax_k113 : ax_t113.all (fun e => ax_okb ax_m113 e) = true := by decide +kernel
set_option maxRecDepth 100000 in
theorem ax_k114 : ax_t114.all (fun e => ax_okb ax_m114 e) = true := by decide +kernel
set_option maxRecDepth 100000 in
theorem ax_k115 : ax_t115.all (fun e => ax_okb ax_m115 e) = true := by decide +kernel
set_option maxRecDepth 100000 in
theorem ax_k116 : ax_t116.all (fun e => ax_okb ax_m116 e) = true := by decide +kernel
set_option maxRecDepth 100000 in
theorem ax_k117 : ax_t117.all (fun e => ax_okb ax_m117 e) = true := by decide +kernel
set_option maxRecDepth 100000 in
theorem ax_k118 : ax_t118.all (fun e => ax_okb ax_m118 e) = true := by decide +kernel
set_option maxRecDepth 100000 in
theorem ax_k119 : ax_t119.all (fun e => ax_okb ax_m119 e) = true := by decide +kernel
set_option maxRecDepth 100000 in
theorem ax_k120 : ax_t120.all (fun e => ax_okb ax_m120 e) = true := by decide +kernel
set_option maxRecDepth 100000 in
theorem ax_k121 : ax_t121.all (fun e => ax_okb ax_m121 e) = true := by decide +kernel
set_option maxRecDepth 100000 in
theorem ax_k122 : ax_t122.all (fun e => ax_okb ax_m122 e) = true := by decide +kernel
set_option maxRecDepth 100000 in
theorem ax_k123 : ax_t123.all (fun e => ax_okb ax_m123 e) = true := by decide +kernel
set_option maxRecDepth 100000 in
theorem ax_k124 : ax_t124.all (fun e => ax_okb ax_m124 e) = true := by decide +kernel
set_option maxRecDepth 100000 in
theorem ax_k125 : ax_t125.all (fun e => ax_okb ax_m125 e) = true := by decide +kernel
set_option maxRecDepth 100000 in
theorem ax_k126 : ax_t126.all (fun e => ax_okb ax_m126 e) = true := by decide +kernel
set_option maxRecDepth 100000 in
theorem ax_k127 : ax_t127.all (fun e => ax_okb ax_m127 e) = true := by decide +kernel
set_option maxRecDepth 100000 in
theorem ax_k128 : ax_t128.all (fun e => ax_okb ax_m128 e) = true := by decide +kernel
set_option maxRecDepth 100000 in
theorem ax_k129 : ax_t129.all (fun e => ax_okb ax_m129 e) = true := by decide +kernel
set_option maxRecDepth 100000 in
theorem ax_k130 : ax_t130.all (fun e => ax_okb ax_m130 e) = true := by decide +kernel
set_option maxRecDepth 100000 in
theorem ax_k131 : ax_t131.all (fun e => ax_okb ax_m131 e) = true := by decide +kernel
set_option maxRecDepth 100000 in
theorem ax_k132 : ax_t132.all (fun e => ax_okb ax_m132 e) = true := by decide +kernel
set_option maxRecDepth 100000 in
theorem ax_k133 : ax_t133.all (fun e => ax_okb ax_m133 e) = true := by decide +kernel
set_option maxRecDepth 100000 in
theorem ax_k134 : ax_t134.all (fun e => ax_okb ax_m134 e) = true := by decide +kernel
set_option maxRecDepth 100000 in
theorem ax_k135 : ax_t135.all (fun e => ax_okb ax_m135 e) = true := by decide +kernel
set_option maxRecDepth 100000 in
theorem ax_k136 : ax_t136.all (fun e => ax_okb ax_m136 e) = true := by decide +kernel
set_option maxRecDepth 100000 in
theorem ax_k137 : ax_t137.all (fun e => ax_okb ax_m137 e) = true := by decide +kernel
set_option maxRecDepth 100000 in
theorem ax_k138 : ax_t138.all (fun e => ax_okb ax_m138 e) = true := by decide +kernel
set_option maxRecDepth 100000 in
theorem ax_k139 : ax_t139.all (fun e => ax_okb ax_m139 e) = true := by decide +kernel
set_option maxRecDepth 100000 in
theorem ax_k140 : ax_t140.all (fun e => ax_okb ax_m140 e) = true := by decide +kernel
set_option maxRecDepth 100000 in
theorem ax_k141 : ax_t141.all (fun e => ax_okb ax_m141 e) = true := by decide +kernel
set_option maxRecDepth 100000 in
theorem ax_k142 : ax_t142.all (fun e => ax_okb ax_m142 e) = true := by decide +kernel
set_option maxRecDepth 100000 in
theorem ax_k143 : ax_t143.all (fun e => ax_okb ax_m143 e) = true := by decide +kernel
set_option maxRecDepth 100000 in
theorem ax_k144 : ax_t144.all (fun e => ax_okb ax_m144 e) = true := by decide +kernel
set_option maxRecDepth 100000 in
theorem ax_k145 : ax_t145.all (fun e => ax_okb ax_m145 e) = true := by decide +kernel
set_option maxRecDepth 100000 in
theorem ax_k146 : ax_t146.all (fun e => ax_okb ax_m146 e) = true := by decide +kernel
set_option maxRecDepth 100000 in
theorem ax_k147 : ax_t147.all (fun e => ax_okb ax_m147 e) = true := by decide +kernel
set_option maxRecDepth 100000 in
theorem ax_k148 : ax_t148.all (fun e => ax_okb ax_m148 e) = true := by decide +kernel
set_option maxRecDepth 100000 in
theorem ax_k149 : ax_t149.all (fun e => ax_okb ax_m149 e) = true := by decide +kernel
set_option maxRecDepth 100000 in
theorem ax_k150 : ax_t150.all (fun e => ax_okb ax_m150 e) = true := by decide +kernel
set_option maxRecDepth 100000 in
theorem ax_k151 : ax_t151.all (fun e => ax_okb ax_m151 e) = true := by decide +kernel
set_option maxRecDepth 100000 in
theorem ax_k152 : ax_t152.all (fun e => ax_okb ax_m152 e) = true := by decide +kernel
set_option maxRecDepth 100000 in
theorem ax_k153 : ax_t153.all (fun e => ax_okb ax_m153 e) = true := by decide +kernel
set_option maxRecDepth 100000 in
theorem ax_k154 : ax_t154.all (fun e => ax_okb ax_m154 e) = true := by decide +kernel
set_option maxRecDepth 100000 in
theorem ax_k155 : ax_t155.all (fun e => ax_okb ax_m155 e) = true := by decide +kernel
set_option maxRecDepth 100000 in
theorem ax_k156 : ax_t156.all (fun e => ax_okb ax_m156 e) = true := by decide +kernel
set_option maxRecDepth 100000 in
theorem ax_k157 : ax_t157.all (fun e => ax_okb ax_m157 e) = true := by decide +kernel
set_option maxRecDepth 100000 in
theorem ax_k158 : ax_t158.all (fun e => ax_okb ax_m158 e) = true := by decide +kernel
set_option maxRecDepth 100000 in
theorem ax_k159 : ax_t159.all (fun e => ax_okb ax_m159 e) = true := by decide +kernel
set_option maxRecDepth 100000 in
theorem ax_k160 : ax_t160.all (fun e => ax_okb ax_m160 e) = true := by decide +kernel
set_option maxRecDepth 100000 in
theorem ax_k161 : ax_t161.all (fun e => ax_okb ax_m161 e) = true := by decide +kernel
set_option maxRecDepth 100000 in
theorem ax_k162 : ax_t162.all (fun e => ax_okb ax_m162 e) = true := by decide +kernel
set_option maxRecDepth 100000 in
theorem ax_k163 : ax_t163.all (fun e => ax_okb ax_m163 e) = true := by decide +kernel
set_option maxRecDepth 100000 in
theorem ax_k164 : ax_t164.all (fun e => ax_okb ax_m164 e) = true := by decide +kernel
set_option maxRecDepth 100000 in
theorem ax_k165 : ax_t165.all (fun e => ax_okb ax_m165 e) = true := by decide +kernel
set_option maxRecDepth 100000 in
theorem ax_k166 : ax_t166.all (fun e => ax_okb ax_m166 e) = true := by decide +kernel
set_option maxRecDepth 100000 in
theorem ax_k167 : ax_t167.all (fun e => ax_okb ax_m167 e) = true := by decide +kernel
set_option maxRecDepth 100000 in
theorem ax_k168 : ax_t168.all (fun e => ax_okb ax_m168 e) = true := by decide +kernel
set_option maxRecDepth 100000 in
theorem ax_k169 : ax_t169.all (fun e => ax_okb ax_m169 e) = true := by decide +kernel
set_option maxRecDepth 100000 in
theorem ax_k170 : ax_t170.all (fun e => ax_okb ax_m170 e) = true := by decide +kernel
set_option maxRecDepth 100000 in
theorem ax_k171 : ax_t171.all (fun e => ax_okb ax_m171 e) = true := by decide +kernel
set_option maxRecDepth 100000 in
theorem ax_k172 : ax_t172.all (fun e => ax_okb ax_m172 e) = true := by decide +kernel
set_option maxRecDepth 100000 in
theorem ax_k173 : ax_t173.all (fun e => ax_okb ax_m173 e) = true := by decide +kernel
set_option maxRecDepth 100000 in
theorem ax_k174 : ax_t174.all (fun e => ax_okb ax_m174 e) = true := by decide +kernel
set_option maxRecDepth 100000 in
theorem ax_k175 : ax_t175.all (fun e => ax_okb ax_m175 e) = true := by decide +kernel
set_option maxRecDepth 100000 in
theorem ax_k176 : ax_t176.all (fun e => ax_okb ax_m176 e) = true := by decide +kernel
set_option maxRecDepth 100000 in
theorem ax_k177 : ax_t177.all (fun e => ax_okb ax_m177 e) = true := by decide +kernel
set_option maxRecDepth 100000 in
theorem ax_k178 : ax_t178.all (fun e => ax_okb ax_m178 e) = true := by decide +kernel
set_option maxRecDepth 100000 in
theorem ax_k179 : ax_t179.all (fun e => ax_okb ax_m179 e) = true := by decide +kernel
set_option maxRecDepth 100000 in
theorem ax_k180 : ax_t180.all (fun e => ax_okb ax_m180 e) = true := by decide +kernel
set_option maxRecDepth 100000 in
theorem ax_k181 : ax_t181.all (fun e => ax_okb ax_m181 e) = true := by decide +kernel
set_option maxRecDepth 100000 in
theorem ax_k182 : ax_t182.all (fun e => ax_okb ax_m182 e) = true := by decide +kernel
set_option maxRecDepth 100000 in
theorem ax_k183 : ax_t183.all (fun e => ax_okb ax_m183 e) = true := by decide +kernel
set_option maxRecDepth 100000 in
theorem ax_k184 : ax_t184.all (fun e => ax_okb ax_m184 e) = true := by decide +kernel
set_option maxRecDepth 100000 in
theorem ax_k185 : ax_t185.all (fun e => ax_okb ax_m185 e) = true := by decide +kernel
set_option maxRecDepth 100000 in
theorem ax_k186 : ax_t186.all (fun e => ax_okb ax_m186 e) = true := by decide +kernel
set_option maxRecDepth 100000 in
theorem ax_k187 : ax_t187.all (fun e => ax_okb ax_m187 e) = true := by decide +kernel
set_option maxRecDepth 100000 in
theorem ax_k188 : ax_t188.all (fun e => ax_okb ax_m188 e) = true := by decide +kernel
set_option maxRecDepth 100000 in
theorem ax_k189 : ax_t189.all (fun e => ax_okb ax_m189 e) = true := by decide +kernel
set_option maxRecDepth 100000 in
theorem ax_k190 : ax_t190.all (fun e => ax_okb ax_m190 e) = true := by decide +kernel
set_option maxRecDepth 100000 in
theorem ax_k191 : ax_t191.all (fun e => ax_okb ax_m191 e) = true := by decide +kernel
set_option maxRecDepth 100000 in
theorem ax_k192 : ax_t192.all (fun e => ax_okb ax_m192 e) = true := by decide +kernel
set_option maxRecDepth 100000 in
theorem ax_k193 : ax_t193.all (fun e => ax_okb ax_m193 e) = true := by decide +kernel
set_option maxRecDepth 100000 in
theorem ax_k194 : ax_t194.all (fun e => ax_okb ax_m194 e) = true := by decide +kernel
set_option maxRecDepth 100000 in
theorem ax_k195 : ax_t195.all (fun e => ax_okb ax_m195 e) = true := by decide +kernel
set_option maxRecDepth 100000 in
theorem ax_k196 : ax_t196.all (fun e => ax_okb ax_m196 e) = true := by decide +kernel
set_option maxRecDepth 100000 in
theorem ax_k197 : ax_t197.all (fun e => ax_okb ax_m197 e) = true := by decide +kernel
set_option maxRecDepth 100000 in
theorem ax_k198 : ax_t198.all (fun e => ax_okb ax_m198 e) = true := by decide +kernel
set_option maxRecDepth 100000 in
theorem ax_k199 : ax_t199.all (fun e => ax_okb ax_m199 e) = true := by decide +kernel
set_option maxRecDepth 100000 in
theorem ax_k200 : ax_t200.all (fun e => ax_okb ax_m200 e) = true := by decide +kernel
set_option maxRecDepth 100000 in
theorem ax_k201 : ax_t201.all (fun e => ax_okb ax_m201 e) = true := by decide +kernel
set_option maxRecDepth 100000 in
theorem ax_k202 : ax_t202.all (fun e => ax_okb ax_m202 e) = true := by decide +kernel
set_option maxRecDepth 100000 in
theorem ax_k203 : ax_t203.all (fun e => ax_okb ax_m203 e) = true := by decide +kernel
set_option maxRecDepth 100000 in
theorem ax_k204 : ax_t204.all (fun e => ax_okb ax_m204 e) = true := by decide +kernel
set_option maxRecDepth 100000 in
theorem ax_k205 : ax_t205.all (fun e => ax_okb ax_m205 e) = true := by decide +kernel
set_option maxRecDepth 100000 in
theorem ax_k206 : ax_t206.all (fun e => ax_okb ax_m206 e) = true := by decide +kernel
set_option maxRecDepth 100000 in
theorem ax_k207 : ax_t207.all (fun e => ax_okb ax_m207 e) = true := by decide +kernel
set_option maxRecDepth 100000 in
theorem ax_k208 : ax_t208.all (fun e => ax_okb ax_m208 e) = true := by decide +kernel
set_option maxRecDepth 100000 in
theorem ax_k209 : ax_t209.all (fun e => ax_okb ax_m209 e) = true := by decide +kernel
set_option maxRecDepth 100000 in
theorem ax_k210 : ax_t210.all (fun e => ax_okb ax_m210 e) = true := by decide +kernel
set_option maxRecDepth 100000 in
theorem ax_k211 : ax_t211.all (fun e => ax_okb ax_m211 e) = true := by decide +kernel
set_option maxRecDepth 100000 in
theorem ax_k212 : ax_t212.all (fun e => ax_okb ax_m212 e) = true := by decide +kernel
set_option maxRecDepth 100000 in
theorem ax_k213 : ax_t213.all (fun e => ax_okb ax_m213 e) = true := by decide +kernel
set_option maxRecDepth 100000 in
theorem ax_k214 : ax_t214.all (fun e => ax_okb ax_m214 e) = true := by decide +kernel
set_option maxRecDepth 100000 in
theorem ax_k215 : ax_t215.all (fun e => ax_okb ax_m215 e) = true := by decide +kernel
set_option maxRecDepth 100000 in
theorem ax_k216 : ax_t216.all (fun e => ax_okb ax_m216 e) = true := by decide +kernel
set_option maxRecDepth 100000 in
theorem ax_k217 : ax_t217.all (fun e => ax_okb ax_m217 e) = true := by decide +kernel
set_option maxRecDepth 100000 in
theorem ax_k218 : ax_t218.all (fun e => ax_okb ax_m218 e) = true := by decide +kernel
set_option maxRecDepth 100000 in
theorem ax_k219 : ax_t219.all (fun e => ax_okb ax_m219 e) = true := by decide +kernel
set_option maxRecDepth 100000 in
theorem ax_k220 : ax_t220.all (fun e => ax_okb ax_m220 e) = true := by decide +kernel
set_option maxRecDepth 100000 in
theorem ax_k221 : ax_t221.all (fun e => ax_okb ax_m221 e) = true := by decide +kernel
set_option maxRecDepth 100000 in
theorem ax_k222 : ax_t222.all (fun e => ax_okb ax_m222 e) = true := by decide +kernel
set_option maxRecDepth 100000 in
theorem ax_k223 : ax_t223.all (fun e => ax_okb ax_m223 e) = true := by decide +kernel
set_option maxRecDepth 100000 in
theorem ax_k224 : ax_t224.all (fun e => ax_okb ax_m224 e) = true := by decide +kernel
set_option maxRecDepth 100000 in
theorem ax_k225 : ax_t225.all (fun e => ax_okb ax_m225 e) = true := by decide +kernel
set_option maxRecDepth 100000 in
theorem ax_k226 : ax_t226.all (fun e => ax_okb ax_m226 e) = true := by decide +kernel
set_option maxRecDepth 100000 in
theorem ax_k227 : ax_t227.all (fun e => ax_okb ax_m227 e) = true := by decide +kernel
set_option maxRecDepth 100000 in
theorem ax_k228 : ax_t228.all (fun e => ax_okb ax_m228 e) = true := by decide +kernel
set_option maxRecDepth 100000 in
theorem ax_k229 : ax_t229.all (fun e => ax_okb ax_m229 e) = true := by decide +kernel
set_option maxRecDepth 100000 in
theorem ax_k230 : ax_t230.all (fun e => ax_okb ax_m230 e) = true := by decide +kernel
set_option maxRecDepth 100000 in
theorem ax_k231 : ax_t231.all (fun e => ax_okb ax_m231 e) = true := by decide +kernel
set_option maxRecDepth 100000 in
theorem ax_k232 : ax_t232.all (fun e => ax_okb ax_m232 e) = true := by decide +kernel
set_option maxRecDepth 100000 in
theorem ax_k233 : ax_t233.all (fun e => ax_okb ax_m233 e) = true := by decide +kernel
set_option maxRecDepth 100000 in
theorem ax_k234 : ax_t234.all (fun e => ax_okb ax_m234 e) = true := by decide +kernel
set_option maxRecDepth 100000 in
theorem ax_k235 : ax_t235.all (fun e => ax_okb ax_m235 e) = true := by decide +kernel
set_option maxRecDepth 100000 in
theorem ax_k236 : ax_t236.all (fun e => ax_okb ax_m236 e) = true := by decide +kernel
set_option maxRecDepth 100000 in
theorem ax_k237 : ax_t237.all (fun e => ax_okb ax_m237 e) = true := by decide +kernel
set_option maxRecDepth 100000 in
theorem ax_k238 : ax_t238.all (fun e => ax_okb ax_m238 e) = true := by decide +kernel
set_option maxRecDepth 100000 in
theorem ax_k239 : ax_t239.all (fun e => ax_okb ax_m239 e) = true := by decide +kernel
set_option maxRecDepth 100000 in
theorem ax_k240 : ax_t240.all (fun e => ax_okb ax_m240 e) = true := by decide +kernel
set_option maxRecDepth 100000 in
theorem ax_k241 : ax_t241.all (fun e => ax_okb ax_m241 e) = true := by decide +kernel
set_option maxRecDepth 100000 in
theorem ax_k242 : ax_t242.all (fun e => ax_okb ax_m242 e) = true := by decide +kernel
set_option maxRecDepth 100000 in
theorem ax_k243 : ax_t243.all (fun e => ax_okb ax_m243 e) = true := by decide +kernel
set_option maxRecDepth 100000 in
theorem ax_k244 : ax_t244.all (fun e => ax_okb ax_m244 e) = true := by decide +kernel
set_option maxRecDepth 100000 in
theorem ax_k245 : ax_t245.all (fun e => ax_okb ax_m245 e) = true := by decide +kernel
set_option maxRecDepth 100000 in
theorem ax_k246 : ax_t246.all (fun e => ax_okb ax_m246 e) = true := by decide +kernel
set_option maxRecDepth 100000 in
theorem ax_k247 : ax_t247.all (fun e => ax_okb ax_m247 e) = true := by decide +kernel
set_option maxRecDepth 100000 in
theorem ax_k248 : ax_t248.all (fun e => ax_okb ax_m248 e) = true := by decide +kernel
set_option maxRecDepth 100000 in
theorem ax_k249 : ax_t249.all (fun e => ax_okb ax_m249 e) = true := by decide +kernel
set_option maxRecDepth 100000 in
theorem ax_k250 : ax_t250.all (fun e => ax_okb ax_m250 e) = true := by decide +kernel
set_option maxRecDepth 100000 in
theorem ax_k251 : ax_t251.all (fun e => ax_okb ax_m251 e) = true := by decide +kernel
set_option maxRecDepth 100000 in
theorem ax_k252 : ax_t252.all (fun e => ax_okb ax_m252 e) = true := by decide +kernel
set_option maxRecDepth 100000 in
theorem ax_k253 : ax_t253.all (fun e => ax_okb ax_m253 e) = true := by decide +kernel
set_option maxRecDepth 100000 in
theorem ax_k254 : ax_t254.all (fun e => ax_okb ax_m254 e) = true := by decide +kernel
set_option maxRecDepth 100000 in
theorem ax_k255 : ax_t255.all (fun e => ax_okb ax_m255 e) = true := by decide +kernel
set_option maxRecDepth 100000 in
theorem ax_k256 : ax_t256.all (fun e => ax_okb ax_m256 e) = true := by decide +kernel
set_option maxRecDepth 100000 in
theorem ax_k257 : ax_t257.all (fun e => ax_okb ax_m257 e) = true := by decide +kernel
set_option maxRecDepth 100000 in
theorem ax_k258 : ax_t258.all (fun e => ax_okb ax_m258 e) = true := by decide +kernel
set_option maxRecDepth 100000 in
theorem ax_k259 : ax_t259.all (fun e => ax_okb ax_m259 e) = true := by decide +kernel
set_option maxRecDepth 100000 in
theorem ax_k260 : ax_t260.all (fun e => ax_okb ax_m260 e) = true := by decide +kernel
set_option maxRecDepth 100000 in
theorem ax_mws : (ax_ms.zip ax_mw).all (fun q => ax_mkb q.1 q.2) = true := by decide +kernel
def ax_oks : List (List ax_E × ax_M) := ax_ts.zip ax_ms
theorem ax_all : ∀ i, i < 261 → (ax_ts.getD i []).all (fun e => ax_okb (ax_mm i) e) = true := by
  intro i hi
  match i, hi with
  | 0, _ => exact ax_k0
  | 1, _ => exact ax_k1
  | 2, _ => exact ax_k2
  | 3, _ => exact ax_k3
  | 4, _ => exact ax_k4
  | 5, _ => exact ax_k5
  | 6, _ => exact ax_k6
  | 7, _ => exact ax_k7
  | 8, _ => exact ax_k8
  | 9, _ => exact ax_k9
  | 10, _ => exact ax_k10
  | 11, _ => exact ax_k11
  | 12, _ => exact ax_k12
  | 13, _ => exact ax_k13
  | 14, _ => exact ax_k14
  | 15, _ => exact ax_k15
  | 16, _ => exact ax_k16
  | 17, _ => exact ax_k17
  | 18, _ => exact ax_k18
  | 19, _ => exact ax_k19
  | 20, _ => exact ax_k20
  | 21, _ => exact ax_k21
  | 22, _ => exact ax_k22
  | 23, _ => exact ax_k23
  | 24, _ => exact ax_k24
  | 25, _ => exact ax_k25
  | 26, _ => exact ax_k26
  | 27, _ => exact ax_k27
  | 28, _ => exact ax_k28
  | 29, _ => exact ax_k29
  | 30, _ => exact ax_k30
  | 31, _ => exact ax_k31
  | 32, _ => exact ax_k32
  | 33, _ => exact ax_k33
  | 34, _ => exact ax_k34
  | 35, _ => exact ax_k35
  | 36, _ => exact ax_k36
  | 37, _ => exact ax_k37
  | 38, _ => exact ax_k38
  | 39, _ => exact ax_k39
  | 40, _ => exact ax_k40
  | 41, _ => exact ax_k41
  | 42, _ => exact ax_k42
  | 43, _ => exact ax_k43
  | 44, _ => exact ax_k44
  | 45, _ => exact ax_k45
  | 46, _ => exact ax_k46
  | 47, _ => exact ax_k47
  | 48, _ => exact ax_k48
  | 49, _ => exact ax_k49
  | 50, _ => exact ax_k50
  | 51, _ => exact ax_k51
  | 52, _ => exact ax_k52
  | 53, _ => exact ax_k53
  | 54, _ => exact ax_k54
  | 55, _ => exact ax_k55
  | 56, _ => exact ax_k56
  | 57, _ => exact ax_k57
  | 58, _ => exact ax_k58
  | 59, _ => exact ax_k59
  | 60, _ => exact ax_k60
  | 61, _ => exact ax_k61
  | 62, _ => exact ax_k62
  | 63, _ => exact ax_k63
  | 64, _ => exact ax_k64
  | 65, _ => exact ax_k65
  | 66, _ => exact ax_k66
  | 67, _ => exact ax_k67
  | 68, _ => exact ax_k68
  | 69, _ => exact ax_k69
  | 70, _ => exact ax_k70
  | 71, _ => exact ax_k71
  | 72, _ => exact ax_k72
  | 73, _ => exact ax_k73
  | 74, _ => exact ax_k74
  | 75, _ => exact ax_k75
  | 76, _ => exact ax_k76
  | 77, _ => exact ax_k77
  | 78, _ => exact ax_k78
  | 79, _ => exact ax_k79
  | 80, _ => exact ax_k80
  | 81, _ => exact ax_k81
  | 82, _ => exact ax_k82
  | 83, _ => exact ax_k83
  | 84, _ => exact ax_k84
  | 85, _ => exact ax_k85
  | 86, _ => exact ax_k86
  | 87, _ => exact ax_k87
  | 88, _ => exact ax_k88
  | 89, _ => exact ax_k89
  | 90, _ => exact ax_k90
  | 91, _ => exact ax_k91
  | 92, _ => exact ax_k92
  | 93, _ => exact ax_k93
  | 94, _ => exact ax_k94
  | 95, _ => exact ax_k95
  | 96, _ => exact ax_k96
  | 97, _ => exact ax_k97
  | 98, _ => exact ax_k98
  | 99, _ => exact ax_k99
  | 100, _ => exact ax_k100
  | 101, _ => exact ax_k101
  | 102, _ => exact ax_k102
  | 103, _ => exact ax_k103
  | 104, _ => exact ax_k104
  | 105, _ => exact ax_k105
  | 106, _ => exact ax_k106
  | 107, _ => exact ax_k107
  | 108, _ => exact ax_k108
  | 109, _ => exact ax_k109
  | 110, _ => exact ax_k110
  | 111, _ => exact ax_k111
  | 112, _ => exact ax_k112
  | 113, _ => exact ax_k113
  | 114, _ => exact ax_k114
  | 115, _ => exact ax_k115
  | 116, _ => exact ax_k116
  | 117, _ => exact ax_k117
  | 118, _ => exact ax_k118
  | 119, _ => exact ax_k119
  | 120, _ => exact ax_k120
  | 121, _ => exact ax_k121
  | 122, _ => exact ax_k122
  | 123, _ => exact ax_k123
  | 124, _ => exact ax_k124
  | 125, _ => exact ax_k125
  | 126, _ => exact ax_k126
  | 127, _ => exact ax_k127
  | 128, _ => exact ax_k128
  | 129, _ => exact ax_k129
  | 130, _ => exact ax_k130
  | 131, _ => exact ax_k131
  | 132, _ => exact ax_k132
  | 133, _ => exact ax_k133
  | 134, _ => exact ax_k134
  | 135, _ => exact ax_k135
  | 136, _ => exact ax_k136
  | 137, _ => exact ax_k137
  | 138, _ => exact ax_k138
  | 139, _ => exact ax_k139
  | 140, _ => exact ax_k140
  | 141, _ => exact ax_k141
  | 142, _ => exact ax_k142
  | 143, _ => exact ax_k143
  | 144, _ => exact ax_k144
  | 145, _ => exact ax_k145
  | 146, _ => exact ax_k146
  | 147, _ => exact ax_k147
  | 148, _ => exact ax_k148
  | 149, _ => exact ax_k149
  | 150, _ => exact ax_k150
  | 151, _ => exact ax_k151
  | 152, _ => exact ax_k152
  | 153, _ => exact ax_k153
  | 154, _ => exact ax_k154
  | 155, _ => exact ax_k155
  | 156, _ => exact ax_k156
  | 157, _ => exact ax_k157
  | 158, _ => exact ax_k158
  | 159, _ => exact ax_k159
  | 160, _ => exact ax_k160
  | 161, _ => exact ax_k161
  | 162, _ => exact ax_k162
  | 163, _ => exact ax_k163
  | 164, _ => exact ax_k164
  | 165, _ => exact ax_k165
  | 166, _ => exact ax_k166
  | 167, _ => exact ax_k167
  | 168, _ => exact ax_k168
  | 169, _ => exact ax_k169
  | 170, _ => exact ax_k170
  | 171, _ => exact ax_k171
  | 172, _ => exact ax_k172
  | 173, _ => exact ax_k173
  | 174, _ => exact ax_k174
  | 175, _ => exact ax_k175
  | 176, _ => exact ax_k176
  | 177, _ => exact ax_k177
  | 178, _ => exact ax_k178
  | 179, _ => exact ax_k179
  | 180, _ => exact ax_k180
  | 181, _ => exact ax_k181
  | 182, _ => exact ax_k182
  | 183, _ => exact ax_k183
  | 184, _ => exact ax_k184
  | 185, _ => exact ax_k185
  | 186, _ => exact ax_k186
  | 187, _ => exact ax_k187
  | 188, _ => exact ax_k188
  | 189, _ => exact ax_k189
  | 190, _ => exact ax_k190
  | 191, _ => exact ax_k191
  | 192, _ => exact ax_k192
  | 193, _ => exact ax_k193
  | 194, _ => exact ax_k194
  | 195, _ => exact ax_k195
  | 196, _ => exact ax_k196
  | 197, _ => exact ax_k197
  | 198, _ => exact ax_k198
  | 199, _ => exact ax_k199
  | 200, _ => exact ax_k200
  | 201, _ => exact ax_k201
  | 202, _ => exact ax_k202
  | 203, _ => exact ax_k203
  | 204, _ => exact ax_k204
  | 205, _ => exact ax_k205
  | 206, _ => exact ax_k206
  | 207, _ => exact ax_k207
  | 208, _ => exact ax_k208
  | 209, _ => exact ax_k209
  | 210, _ => exact ax_k210
  | 211, _ => exact ax_k211
  | 212, _ => exact ax_k212
  | 213, _ => exact ax_k213
  | 214, _ => exact ax_k214
  | 215, _ => exact ax_k215
  | 216, _ => exact ax_k216
  | 217, _ => exact ax_k217
  | 218, _ => exact ax_k218
  | 219, _ => exact ax_k219
  | 220, _ => exact ax_k220
  | 221, _ => exact ax_k221
  | 222, _ => exact ax_k222
  | 223, _ => exact ax_k223
  | 224, _ => exact ax_k224
  | 225, _ => exact ax_k225
  | 226, _ => exact ax_k226
  | 227, _ => exact ax_k227
  | 228, _ => exact ax_k228
  | 229, _ => exact ax_k229
  | 230, _ => exact ax_k230
  | 231, _ => exact ax_k231
  | 232, _ => exact ax_k232
  | 233, _ => exact ax_k233
  | 234, _ => exact ax_k234
  | 235, _ => exact ax_k235
  | 236, _ => exact ax_k236
  | 237, _ => exact ax_k237
  | 238, _ => exact ax_k238
  | 239, _ => exact ax_k239
  | 240, _ => exact ax_k240
  | 241, _ => exact ax_k241
  | 242, _ => exact ax_k242
  | 243, _ => exact ax_k243
  | 244, _ => exact ax_k244
  | 245, _ => exact ax_k245
  | 246, _ => exact ax_k246
  | 247, _ => exact ax_k247
  | 248, _ => exact ax_k248
  | 249, _ => exact ax_k249
  | 250, _ => exact ax_k250
  | 251, _ => exact ax_k251
  | 252, _ => exact ax_k252
  | 253, _ => exact ax_k253
  | 254, _ => exact ax_k254
  | 255, _ => exact ax_k255
  | 256, _ => exact ax_k256
  | 257, _ => exact ax_k257
  | 258, _ => exact ax_k258
  | 259, _ => exact ax_k259
  | 260, _ => exact ax_k260
  | n + 261, h => exact absurd h (by omega)
theorem ax_look_ok {i pc : Nat} {e : ax_E} (h : ax_look i pc = some e) : e.1 = pc ∧ i < 261 ∧ decode (ax_mm i).2.1 pc = .ok (e.2.1, ax_len e.2.1) ∧ (¬ e.2.2.2.1.1 = 900 → ax_okx (ax_mm i) e.2.1 e.2.2.2.1.1 e.2.2.2.1.2.1 e.2.2.2.1.2.2 e.2.2.2.2.1 e.2.2.2.2.2 = true) := by
  have h1 := List.find?_some h
  have h2 := List.mem_of_find?_eq_some h
  have hpc : e.1 = pc := Nat.eq_of_beq_eq_true h1
  have hi : i < 261 := by
    rcases Nat.lt_or_ge i 261 with q | q
    · exact q
    · have : ax_ts.getD i [] = [] := by
        rw [List.getD_eq_getElem?_getD, List.getElem?_eq_none (by exact q)]
        rfl
      rw [this] at h2
      cases h2
  have h3 := List.all_eq_true.mp (ax_all i hi) e h2
  simp only [ax_okb, Bool.and_eq_true, decide_eq_true_eq, Bool.or_eq_true] at h3
  refine ⟨hpc, hi, by rw [← hpc]; exact h3.1, fun ha => ?_⟩
  rcases h3.2 with q | q
  · exact absurd (Nat.eq_of_beq_eq_true q) ha
  · exact q
theorem ax_mfacts {i : Nat} (hi : i < 261) : ax_hd (ax_mm i) ∈ ax_tb ∧ Cond.initialized (ax_mm i).1.cls ∈ ax_tb ∧ (Cond.static (ax_mm i).1 ∈ ax_tb ∨ Cond.instanceMethod (ax_mm i).1 ∈ ax_tb) ∧ (ax_mm i).1.cls ≠ "java/lang/invoke/MethodHandle" ∧ (ax_mm i).1.cls ≠ "java/lang/invoke/VarHandle" ∧ (ax_mm i).2.2.1 ≤ 21 ∧ plainName (ax_mm i).1.cls = true := by
  have hl1 : i < ax_ms.length := hi
  have hl2 : i < ax_mw.length := hi
  have h1 := List.all_eq_true.mp ax_mws (ax_ms[i], ax_mw[i]) (List.mem_iff_getElem.mpr ⟨i, by rw [List.length_zip]; exact Nat.lt_min.mpr ⟨hl1, hl2⟩, by rw [List.getElem_zip]⟩)
  have h2 : ax_mm i = ax_ms[i] := by rw [ax_mm, List.getD_eq_getElem?_getD, List.getElem?_eq_getElem hl1]; rfl
  rw [h2]
  generalize ax_ms[i] = y at h1 ⊢
  generalize ax_mw[i] = w at h1
  simp only [ax_mkb, Bool.and_eq_true, decide_eq_true_eq] at h1
  obtain ⟨⟨⟨⟨⟨⟨a1, a2⟩, a3⟩, a4⟩, a5⟩, a6⟩, a7⟩ := h1
  refine ⟨ax_wk_mem a1, ax_wk_mem a2, ?_, a4, a5, Nat.le_of_ble_eq_true a6, a7⟩
  split at a3
  · exact Or.inl (ax_wk_mem a3)
  · exact Or.inr (ax_wk_mem a3)
