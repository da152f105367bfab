/-! THE LINKED CODE IS SO -/
def ax_chunk : Nat → List Cond
  | 0 => k2_sels lw_privs
  | 1 => tables_1_1
  | 2 => tables_1_2
  | 3 => tables_1_3
  | 4 => tables_1_4
  | 5 => tables_1_5
  | 9 => lw_jsels
  | _ => []
theorem ax_chunk_in {c : Nat} {w : Cond} (h : w ∈ ax_chunk c) : w ∈ lw_tbl := by
  unfold lw_tbl
  match c, h with
  | 0, h => exact List.mem_append_left _ h
  | 1, h => exact List.mem_append_right _ (List.mem_append_left _ (by unfold tables_1; exact List.mem_append_left _ h))
  | 2, h => exact List.mem_append_right _ (List.mem_append_left _ (by unfold tables_1; exact List.mem_append_right _ (List.mem_append_left _ h)))
  | 3, h => exact List.mem_append_right _ (List.mem_append_left _ (by unfold tables_1; exact List.mem_append_right _ (List.mem_append_right _ (List.mem_append_left _ h))))
  | 4, h => exact List.mem_append_right _ (List.mem_append_left _ (by unfold tables_1; exact List.mem_append_right _ (List.mem_append_right _ (List.mem_append_right _ (List.mem_append_left _ h)))))
  | 5, h => exact List.mem_append_right _ (List.mem_append_left _ (by unfold tables_1; exact List.mem_append_right _ (List.mem_append_right _ (List.mem_append_right _ (List.mem_append_right _ (h))))))
  | 6, h => cases h
  | 7, h => cases h
  | 8, h => cases h
  | 9, h => exact List.mem_append_right _ (List.mem_append_right _ h)
  | c + 10, h => cases h
def ax_wk (ix : Nat) (w : Cond) : Bool := decide ((ax_chunk (ix / 1000))[ix % 1000]? = some w) && goodWord w
theorem ax_wk_mem {ix : Nat} {w : Cond} (h : ax_wk ix w = true) : w ∈ ax_tb := by
  simp only [ax_wk, Bool.and_eq_true, decide_eq_true_eq] at h
  exact List.mem_filter.mpr ⟨ax_chunk_in (List.mem_of_getElem? h.1), h.2⟩
def ax_fl (own : String) (ix : Nat) (q : ax_Cl) (j : Nat) : Cond := .fieldLink own ix (q.2.1 j).1 (q.2.1 j).2.1 (q.2.1 j).2.2.1
def ax_pl (y : MethodName) (n : Nat) : Bool := decide ((parseMethodDescriptor y.desc).map (fun d => d.parameters.length) = some n)
def ax_len : Instr → Nat
  | .tableswitch _ _ _ o => 16 + 4 * o.size
  | .bipush _ => 2
  | .iload _ => 2
  | .lload _ => 2
  | .aload _ => 2
  | .istore _ => 2
  | .lstore _ => 2
  | .astore _ => 2
  | .ldc _ => 2
  | .newarray _ => 2
  | .sipush _ => 3
  | .iinc _ _ => 3
  | .ifCond _ _ => 3
  | .if_icmp _ _ => 3
  | .goto _ => 3
  | .getfield _ => 3
  | .putfield _ => 3
  | .getstatic _ => 3
  | .new _ => 3
  | .anewarray _ => 3
  | .ldc_w _ => 3
  | .ifnonnull _ => 3
  | .checkcast _ => 3
  | .ldc2_w _ => 3
  | .invokestatic _ => 3
  | .invokevirtual _ => 3
  | .invokespecial _ => 3
  | _ => 1
noncomputable def ax_okx (k : ax_M) (ins : Instr) (a b c : Nat) (v : Value) (ws : List Nat) : Bool := match ins with
    | .getfield ix => match ax_cls[a]?, ws with
      | some q, [w] => Nat.blt b q.2.2.1 && ax_wk w (ax_fl k.1.cls ix q b)
      | _, _ => false
    | .putfield ix => match ax_cls[a]?, ws with
      | some q, [w] => Nat.blt b q.2.2.1 && ax_wk w (ax_fl k.1.cls ix q b) && (!(q.2.1 b).2.2.2 || (decide (k.1.name = "<init>") && decide ((q.2.1 b).1 = k.1.cls)))
      | _, _ => false
    | .getstatic ix => match ax_stat[a]?, ws with
      | some q, [w] => ax_wk w (.fieldLink k.1.cls ix q.1 q.2.1 q.2.2.1)
      | _, _ => false
    | .new ix => Nat.ble 800 a || match ax_cls[a]?, ws with
      | some q, [w1, w2, w3] => ax_wk w1 (.classLink k.1.cls ix q.1) && ax_wk w2 (.instantiable q.1 q.2.2.1) && ax_wk w3 (.initialized q.1)
      | _, _ => false
    | .newarray at_ => match ax_tys[a]?, ws with
      | some ty, [w] => decide (newarray.typeOf at_ = ty) && ax_wk w (.arrayClass ty) && decide (ty ≠ .float) && decide (ty ≠ .double)
      | _, _ => false
    | .anewarray ix => match ax_tys[a]?, ws with
      | some (.object C), [w1] => ax_wk w1 (.classLink k.1.cls ix C) && decide (Cond.arrayOver (.object C) ∈ ax_nw)
      | _, _ => false
    | .ldc2_w ix => match v, ws with
      | .long x, [w] => ax_wk w (.constantLong k.1.cls ix x)
      | _, _ => false
    | .ldc ix => match v, ws with
      | .int x, [w] => ax_wk w (.constant k.1.cls ix x)
      | _, _ => false
    | .invokestatic ix => match ws with
      | [w] => (match a with
        | 700 => ax_wk w (.methodLink k.1.cls ix Lib.MathLoose.min_long.x)
        | 701 => ax_wk w (.methodLink k.1.cls ix Lib.MathLoose.max_long.x)
        | 702 => ax_wk w (.methodLink k.1.cls ix Lib.Math.max.name)
        | 703 => ax_wk w (.methodLink k.1.cls ix arraycopyName)
        | _ => ax_wk w (.methodLink k.1.cls ix (ax_mm a).1) && ax_pl (ax_mm a).1 b)
      | _ => false
    | .invokevirtual ix => match ax_cls[c]?, ws with
      | some q, [w1, w2] => ax_wk w1 (.methodLink k.1.cls ix (ax_mm a).1) && ax_pl (ax_mm a).1 b && ax_wk w2 (.selects q.1 (ax_mm a).1 (ax_mm a).1)
      | _, _ => false
    | .invokespecial ix => match c, ws with
      | 2, [w] => ax_wk w (.methodLink k.1.cls ix Lib.objectInit)
      | 1, [] => ax_pl (ax_mm a).1 b && decide (Cond.methodLinkNest k.1.cls ix (ax_mm a).1 "PseudoBoolean" ∈ ax_nw)
      | 0, [w] => ax_wk w (.methodLink k.1.cls ix (ax_mm a).1) && ax_pl (ax_mm a).1 b
      | 3, [w1, w2, w3] => ax_wk w1 (.methodLink k.1.cls ix (ax_mm a).1) && ax_pl (ax_mm a).1 b && ax_wk w2 (.sameMethod (ax_mm a).1.cls (ax_mm a).1.cls (ax_mm a).1.name (ax_mm a).1.desc) && ax_wk w3 (.superclass k.1.cls (ax_mm a).1.cls) && decide ((ax_mm a).1.name ≠ "<init>")
      | _, _ => false
    | _ => true
noncomputable def ax_okb (k : ax_M) (pc : Nat) (e : ax_E2) : Bool := decide (decode k.2.1 pc = .ok (e.1, ax_len e.1)) && (Nat.beq e.2.1.1 900 || ax_okx k e.1 e.2.1.1 e.2.1.2.1 e.2.1.2.2 e.2.2.1 e.2.2.2)
theorem ax_ok0 : Cond.instanceMethod Lib.objectInit ∈ ax_tb ∧ Cond.code Lib.objectInit ⟨#[0xb1]⟩ 1 none ∈ ax_tb := ⟨ax_mem 62 (by decide +kernel) (by decide +kernel), ax_mem 63 (by decide +kernel) (by decide +kernel)⟩
/-- of a method: its code, its class, its kind -/
def ax_mkb (y : ax_M) (w : Nat × Nat × Bool × Nat) : Bool := ax_wk w.1 (ax_hd y) && ax_wk w.2.1 (.initialized y.1.cls) && (if w.2.2.1 then ax_wk w.2.2.2 (.static y.1) else ax_wk w.2.2.2 (.instanceMethod y.1)) && decide (y.1.cls ≠ "java/lang/invoke/MethodHandle") && decide (y.1.cls ≠ "java/lang/invoke/VarHandle") && Nat.ble y.2.2.1 21 && plainName y.1.cls
theorem ax_math : Cond.initialized "java/lang/Math" ∈ ax_tb ∧ Cond.static Lib.MathLoose.min_long.x ∈ ax_tb ∧ Cond.static Lib.MathLoose.max_long.x ∈ ax_tb ∧ Cond.static Lib.Math.max.name ∈ ax_tb := ⟨ax_wk_mem (ix := 1016) (by decide +kernel), ax_wk_mem (ix := 2193) (by decide +kernel), ax_wk_mem (ix := 2196) (by decide +kernel), ax_wk_mem (ix := 4046) (by decide +kernel)⟩
theorem ax_mathc : Cond.code Lib.MathLoose.min_long.x Lib.MathLoose.min_long.code 4 (some .long) ∈ ax_tb ∧ Cond.code Lib.MathLoose.max_long.x Lib.MathLoose.max_long.code 4 (some .long) ∈ ax_tb ∧ Cond.code Lib.Math.max.name Lib.Math.max.code 2 (some .int) ∈ ax_tb := ⟨ax_wk_mem (ix := 2194) (by decide +kernel), ax_wk_mem (ix := 2197) (by decide +kernel), ax_wk_mem (ix := 4047) (by decide +kernel)⟩

