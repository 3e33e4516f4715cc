def RE : String := "EmitDesk"
def TE : u_T := fun k => match k with
  | 0 => ("EmitDesk", "ops", "[I", true)
  | 1 => ("EmitDesk", "numbers", "[J", true)
  | 2 => ("EmitDesk", "instructions", "I", false)
  | 3 => ("EmitDesk", "values", "[J", true)
  | 4 => ("EmitDesk", "valueCount", "I", false)
  | 5 => ("EmitDesk", "stack", "[J", true)
  | 6 => ("EmitDesk", "depth", "I", false)
  | 7 => ("EmitDesk", "cells", "[J", true)
  | 8 => ("EmitDesk", "pairKeys", "[J", true)
  | 9 => ("EmitDesk", "pairValues", "[J", true)
  | 10 => ("EmitDesk", "pairs", "I", false)
  | 11 => ("EmitDesk", "latestWay", "I", false)
  | 12 => ("EmitDesk", "latestKey", "J", false)
  | 13 => ("EmitDesk", "place", "I", false)
  | 14 => ("EmitDesk", "done", "I", false)
  | 15 => ("EmitDesk", "taken", "I", false)
  | _ => ("EmitDesk", "trapped", "Z", false)
def tyE : Nat → FieldType := fun k => match k with
  | 0 => .array .int
  | 1 => .array .long
  | 2 => .int
  | 3 => .array .long
  | 4 => .int
  | 5 => .array .long
  | 6 => .int
  | 7 => .array .long
  | 8 => .array .long
  | 9 => .array .long
  | 10 => .int
  | 11 => .int
  | 12 => .long
  | 13 => .int
  | 14 => .int
  | 15 => .int
  | _ => .boolean
theorem nmE : ∀ a, a < 17 → ∀ b, b < 17 → a ≠ b → (TE a).2.1 ≠ (TE b).2.1 := by decide +kernel
theorem tyE_ok : ∀ k, k < 17 → parseFieldDescriptor (TE k).2.2.1 = some (tyE k) := by decide +kernel
def RM : String := "EmitDeskModel"
def TM : u_T := fun k => match k with
  | 0 => ("EmitDeskModel", "op", "[I", true)
  | 1 => ("EmitDeskModel", "arg", "[J", true)
  | 2 => ("EmitDeskModel", "value", "[J", true)
  | 3 => ("EmitDeskModel", "stack", "[J", true)
  | 4 => ("EmitDeskModel", "cell", "[J", true)
  | 5 => ("EmitDeskModel", "key", "[J", true)
  | 6 => ("EmitDeskModel", "emitted", "[J", true)
  | 7 => ("EmitDeskModel", "codes", "I", false)
  | 8 => ("EmitDeskModel", "values", "I", false)
  | 9 => ("EmitDeskModel", "steps", "I", false)
  | 10 => ("EmitDeskModel", "top", "I", false)
  | 11 => ("EmitDeskModel", "pairs", "I", false)
  | 12 => ("EmitDeskModel", "taken", "I", false)
  | 13 => ("EmitDeskModel", "thrown", "I", false)
  | _ => ("EmitDeskModel", "isTrap", "Z", false)
def tyM : Nat → FieldType := fun k => match k with
  | 0 => .array .int
  | 1 => .array .long
  | 2 => .array .long
  | 3 => .array .long
  | 4 => .array .long
  | 5 => .array .long
  | 6 => .array .long
  | 7 => .int
  | 8 => .int
  | 9 => .int
  | 10 => .int
  | 11 => .int
  | 12 => .int
  | 13 => .int
  | _ => .boolean
theorem nmM : ∀ a, a < 15 → ∀ b, b < 15 → a ≠ b → (TM a).2.1 ≠ (TM b).2.1 := by decide +kernel
theorem tyM_ok : ∀ k, k < 15 → parseFieldDescriptor (TM k).2.2.1 = some (tyM k) := by decide +kernel
abbrev vwCl : List vw_C := [(RE, TE, 17), (RM, TM, 15)]
abbrev cE_init : ByteArray := prog_1_method_1_code
def yE_init : MethodName := ⟨"EmitDesk", "<init>", "()V"⟩
abbrev cE_code : ByteArray := prog_1_method_2_code
def yE_code : MethodName := ⟨"EmitDesk", "code", "(IJ)I"⟩
abbrev cE_clear : ByteArray := prog_1_method_3_code
def yE_clear : MethodName := ⟨"EmitDesk", "clear", "()I"⟩
abbrev cE_value : ByteArray := prog_1_method_4_code
def yE_value : MethodName := ⟨"EmitDesk", "value", "(J)I"⟩
abbrev cE_empty : ByteArray := prog_1_method_5_code
def yE_empty : MethodName := ⟨"EmitDesk", "empty", "()I"⟩
abbrev cE_call : ByteArray := prog_1_method_6_code
def yE_call : MethodName := ⟨"EmitDesk", "call", "(IJ)I"⟩
abbrev cE_emitted : ByteArray := prog_1_method_7_code
def yE_emitted : MethodName := ⟨"EmitDesk", "emitted", "(IZ)J"⟩
abbrev cE_told : ByteArray := prog_1_method_8_code
def yE_told : MethodName := ⟨"EmitDesk", "told", "(I)I"⟩
abbrev cE_cell : ByteArray := prog_1_method_9_code
def yE_cell : MethodName := ⟨"EmitDesk", "cell", "(I)J"⟩
abbrev cE_isInstruction : ByteArray := prog_1_method_10_code
def yE_isInstruction : MethodName := ⟨"EmitDesk", "isInstruction", "(IJ)Z"⟩
abbrev cE_goesBehindEnd : ByteArray := prog_1_method_11_code
def yE_goesBehindEnd : MethodName := ⟨"EmitDesk", "goesBehindEnd", "()Z"⟩
abbrev cE_begin : ByteArray := prog_1_method_12_code
def yE_begin : MethodName := ⟨"EmitDesk", "begin", "(IJ)V"⟩
abbrev cE_runProgram : ByteArray := prog_1_method_13_code
def yE_runProgram : MethodName := ⟨"EmitDesk", "runProgram", "()V"⟩
abbrev cE_perform : ByteArray := prog_1_method_14_code
def yE_perform : MethodName := ⟨"EmitDesk", "perform", "(IJ)V"⟩
abbrev cE_push : ByteArray := prog_1_method_15_code
def yE_push : MethodName := ⟨"EmitDesk", "push", "(J)V"⟩
abbrev cE_pop : ByteArray := prog_1_method_16_code
def yE_pop : MethodName := ⟨"EmitDesk", "pop", "()J"⟩
abbrev cE_hasNext : ByteArray := prog_1_method_17_code
def yE_hasNext : MethodName := ⟨"EmitDesk", "hasNext", "()Z"⟩
abbrev cE_pushValue : ByteArray := prog_1_method_18_code
def yE_pushValue : MethodName := ⟨"EmitDesk", "pushValue", "()V"⟩
abbrev cE_popCell : ByteArray := prog_1_method_19_code
def yE_popCell : MethodName := ⟨"EmitDesk", "popCell", "(I)V"⟩
abbrev cE_doubleTop : ByteArray := prog_1_method_20_code
def yE_doubleTop : MethodName := ⟨"EmitDesk", "doubleTop", "()V"⟩
abbrev cE_changeTwo : ByteArray := prog_1_method_21_code
def yE_changeTwo : MethodName := ⟨"EmitDesk", "changeTwo", "()V"⟩
abbrev cE_goIfZero : ByteArray := prog_1_method_22_code
def yE_goIfZero : MethodName := ⟨"EmitDesk", "goIfZero", "(I)V"⟩
abbrev cE_emitPair : ByteArray := prog_1_method_23_code
def yE_emitPair : MethodName := ⟨"EmitDesk", "emitPair", "()V"⟩
abbrev cE_combine : ByteArray := prog_1_method_24_code
def yE_combine : MethodName := ⟨"EmitDesk", "combine", "(I)V"⟩
abbrev cE_divide : ByteArray := prog_1_method_25_code
def yE_divide : MethodName := ⟨"EmitDesk", "divide", "(JJ)V"⟩
abbrev cM_init : ByteArray := prog_3_method_1_code
def yM_init : MethodName := ⟨"EmitDeskModel", "<init>", "()V"⟩
abbrev cM_thrown : ByteArray := prog_3_method_2_code
def yM_thrown : MethodName := ⟨"EmitDeskModel", "thrown", "()I"⟩
abbrev cM_in : ByteArray := prog_3_method_3_code
def yM_in : MethodName := ⟨"EmitDeskModel", "in", "(JII)Z"⟩
abbrev cM_code : ByteArray := prog_3_method_4_code
def yM_code : MethodName := ⟨"EmitDeskModel", "code", "(IJ)I"⟩
abbrev cM_clear : ByteArray := prog_3_method_5_code
def yM_clear : MethodName := ⟨"EmitDeskModel", "clear", "()I"⟩
abbrev cM_value : ByteArray := prog_3_method_6_code
def yM_value : MethodName := ⟨"EmitDeskModel", "value", "(J)I"⟩
abbrev cM_empty : ByteArray := prog_3_method_7_code
def yM_empty : MethodName := ⟨"EmitDeskModel", "empty", "()I"⟩
abbrev cM_call : ByteArray := prog_3_method_8_code
def yM_call : MethodName := ⟨"EmitDeskModel", "call", "(IJ)I"⟩
abbrev cM_isDone : ByteArray := prog_3_method_9_code
def yM_isDone : MethodName := ⟨"EmitDeskModel", "isDone", "(IJ)Z"⟩
abbrev cM_emitted : ByteArray := prog_3_method_10_code
def yM_emitted : MethodName := ⟨"EmitDeskModel", "emitted", "(IZ)J"⟩
abbrev cM_told : ByteArray := prog_3_method_11_code
def yM_told : MethodName := ⟨"EmitDeskModel", "told", "(I)I"⟩
abbrev cM_cell : ByteArray := prog_3_method_12_code
def yM_cell : MethodName := ⟨"EmitDeskModel", "cell", "(I)J"⟩
abbrev cL_code : ByteArray := method_3_code
def yL_code : MethodName := ⟨"EmitDeskLaw", "code", "(LEmitDesk;IJ[J)I"⟩
abbrev cL_value : ByteArray := method_4_code
def yL_value : MethodName := ⟨"EmitDeskLaw", "value", "(LEmitDesk;J[J)I"⟩
abbrev cL_call : ByteArray := method_5_code
def yL_call : MethodName := ⟨"EmitDeskLaw", "call", "(LEmitDesk;IJ[J)I"⟩
abbrev cL_emitted : ByteArray := method_6_code
def yL_emitted : MethodName := ⟨"EmitDeskLaw", "emitted", "(LEmitDesk;IZ[J)I"⟩
abbrev cL_told : ByteArray := method_7_code
def yL_told : MethodName := ⟨"EmitDeskLaw", "told", "(LEmitDesk;I[J)I"⟩
abbrev cL_cell : ByteArray := method_8_code
def yL_cell : MethodName := ⟨"EmitDeskLaw", "cell", "(LEmitDesk;I[J)I"⟩
abbrev cL_law : ByteArray := code
def yL_law : MethodName := ⟨"EmitDeskLaw", "law", "([I)Z"⟩
theorem wd_E_init : yE_init.cls ≠ "java/lang/invoke/MethodHandle" ∧ yE_init.cls ≠ "java/lang/invoke/VarHandle" ∧ (parseMethodDescriptor yE_init.desc).map (fun d => d.parameters.length) = some 0 := by decide +kernel
theorem wd_E_code : yE_code.cls ≠ "java/lang/invoke/MethodHandle" ∧ yE_code.cls ≠ "java/lang/invoke/VarHandle" ∧ (parseMethodDescriptor yE_code.desc).map (fun d => d.parameters.length) = some 2 := by decide +kernel
theorem wd_E_clear : yE_clear.cls ≠ "java/lang/invoke/MethodHandle" ∧ yE_clear.cls ≠ "java/lang/invoke/VarHandle" ∧ (parseMethodDescriptor yE_clear.desc).map (fun d => d.parameters.length) = some 0 := by decide +kernel
theorem wd_E_value : yE_value.cls ≠ "java/lang/invoke/MethodHandle" ∧ yE_value.cls ≠ "java/lang/invoke/VarHandle" ∧ (parseMethodDescriptor yE_value.desc).map (fun d => d.parameters.length) = some 1 := by decide +kernel
theorem wd_E_empty : yE_empty.cls ≠ "java/lang/invoke/MethodHandle" ∧ yE_empty.cls ≠ "java/lang/invoke/VarHandle" ∧ (parseMethodDescriptor yE_empty.desc).map (fun d => d.parameters.length) = some 0 := by decide +kernel
theorem wd_E_call : yE_call.cls ≠ "java/lang/invoke/MethodHandle" ∧ yE_call.cls ≠ "java/lang/invoke/VarHandle" ∧ (parseMethodDescriptor yE_call.desc).map (fun d => d.parameters.length) = some 2 := by decide +kernel
theorem wd_E_emitted : yE_emitted.cls ≠ "java/lang/invoke/MethodHandle" ∧ yE_emitted.cls ≠ "java/lang/invoke/VarHandle" ∧ (parseMethodDescriptor yE_emitted.desc).map (fun d => d.parameters.length) = some 2 := by decide +kernel
theorem wd_E_told : yE_told.cls ≠ "java/lang/invoke/MethodHandle" ∧ yE_told.cls ≠ "java/lang/invoke/VarHandle" ∧ (parseMethodDescriptor yE_told.desc).map (fun d => d.parameters.length) = some 1 := by decide +kernel
theorem wd_E_cell : yE_cell.cls ≠ "java/lang/invoke/MethodHandle" ∧ yE_cell.cls ≠ "java/lang/invoke/VarHandle" ∧ (parseMethodDescriptor yE_cell.desc).map (fun d => d.parameters.length) = some 1 := by decide +kernel
theorem wd_E_isInstruction : yE_isInstruction.cls ≠ "java/lang/invoke/MethodHandle" ∧ yE_isInstruction.cls ≠ "java/lang/invoke/VarHandle" ∧ (parseMethodDescriptor yE_isInstruction.desc).map (fun d => d.parameters.length) = some 2 := by decide +kernel
theorem wd_E_goesBehindEnd : yE_goesBehindEnd.cls ≠ "java/lang/invoke/MethodHandle" ∧ yE_goesBehindEnd.cls ≠ "java/lang/invoke/VarHandle" ∧ (parseMethodDescriptor yE_goesBehindEnd.desc).map (fun d => d.parameters.length) = some 0 := by decide +kernel
theorem wd_E_begin : yE_begin.cls ≠ "java/lang/invoke/MethodHandle" ∧ yE_begin.cls ≠ "java/lang/invoke/VarHandle" ∧ (parseMethodDescriptor yE_begin.desc).map (fun d => d.parameters.length) = some 2 := by decide +kernel
theorem wd_E_runProgram : yE_runProgram.cls ≠ "java/lang/invoke/MethodHandle" ∧ yE_runProgram.cls ≠ "java/lang/invoke/VarHandle" ∧ (parseMethodDescriptor yE_runProgram.desc).map (fun d => d.parameters.length) = some 0 := by decide +kernel
theorem wd_E_perform : yE_perform.cls ≠ "java/lang/invoke/MethodHandle" ∧ yE_perform.cls ≠ "java/lang/invoke/VarHandle" ∧ (parseMethodDescriptor yE_perform.desc).map (fun d => d.parameters.length) = some 2 := by decide +kernel
theorem wd_E_push : yE_push.cls ≠ "java/lang/invoke/MethodHandle" ∧ yE_push.cls ≠ "java/lang/invoke/VarHandle" ∧ (parseMethodDescriptor yE_push.desc).map (fun d => d.parameters.length) = some 1 := by decide +kernel
theorem wd_E_pop : yE_pop.cls ≠ "java/lang/invoke/MethodHandle" ∧ yE_pop.cls ≠ "java/lang/invoke/VarHandle" ∧ (parseMethodDescriptor yE_pop.desc).map (fun d => d.parameters.length) = some 0 := by decide +kernel
theorem wd_E_hasNext : yE_hasNext.cls ≠ "java/lang/invoke/MethodHandle" ∧ yE_hasNext.cls ≠ "java/lang/invoke/VarHandle" ∧ (parseMethodDescriptor yE_hasNext.desc).map (fun d => d.parameters.length) = some 0 := by decide +kernel
theorem wd_E_pushValue : yE_pushValue.cls ≠ "java/lang/invoke/MethodHandle" ∧ yE_pushValue.cls ≠ "java/lang/invoke/VarHandle" ∧ (parseMethodDescriptor yE_pushValue.desc).map (fun d => d.parameters.length) = some 0 := by decide +kernel
theorem wd_E_popCell : yE_popCell.cls ≠ "java/lang/invoke/MethodHandle" ∧ yE_popCell.cls ≠ "java/lang/invoke/VarHandle" ∧ (parseMethodDescriptor yE_popCell.desc).map (fun d => d.parameters.length) = some 1 := by decide +kernel
theorem wd_E_doubleTop : yE_doubleTop.cls ≠ "java/lang/invoke/MethodHandle" ∧ yE_doubleTop.cls ≠ "java/lang/invoke/VarHandle" ∧ (parseMethodDescriptor yE_doubleTop.desc).map (fun d => d.parameters.length) = some 0 := by decide +kernel
theorem wd_E_changeTwo : yE_changeTwo.cls ≠ "java/lang/invoke/MethodHandle" ∧ yE_changeTwo.cls ≠ "java/lang/invoke/VarHandle" ∧ (parseMethodDescriptor yE_changeTwo.desc).map (fun d => d.parameters.length) = some 0 := by decide +kernel
theorem wd_E_goIfZero : yE_goIfZero.cls ≠ "java/lang/invoke/MethodHandle" ∧ yE_goIfZero.cls ≠ "java/lang/invoke/VarHandle" ∧ (parseMethodDescriptor yE_goIfZero.desc).map (fun d => d.parameters.length) = some 1 := by decide +kernel
theorem wd_E_emitPair : yE_emitPair.cls ≠ "java/lang/invoke/MethodHandle" ∧ yE_emitPair.cls ≠ "java/lang/invoke/VarHandle" ∧ (parseMethodDescriptor yE_emitPair.desc).map (fun d => d.parameters.length) = some 0 := by decide +kernel
theorem wd_E_combine : yE_combine.cls ≠ "java/lang/invoke/MethodHandle" ∧ yE_combine.cls ≠ "java/lang/invoke/VarHandle" ∧ (parseMethodDescriptor yE_combine.desc).map (fun d => d.parameters.length) = some 1 := by decide +kernel
theorem wd_E_divide : yE_divide.cls ≠ "java/lang/invoke/MethodHandle" ∧ yE_divide.cls ≠ "java/lang/invoke/VarHandle" ∧ (parseMethodDescriptor yE_divide.desc).map (fun d => d.parameters.length) = some 2 := by decide +kernel
theorem wd_M_init : yM_init.cls ≠ "java/lang/invoke/MethodHandle" ∧ yM_init.cls ≠ "java/lang/invoke/VarHandle" ∧ (parseMethodDescriptor yM_init.desc).map (fun d => d.parameters.length) = some 0 := by decide +kernel
theorem wd_M_thrown : yM_thrown.cls ≠ "java/lang/invoke/MethodHandle" ∧ yM_thrown.cls ≠ "java/lang/invoke/VarHandle" ∧ (parseMethodDescriptor yM_thrown.desc).map (fun d => d.parameters.length) = some 0 := by decide +kernel
theorem wd_M_in : yM_in.cls ≠ "java/lang/invoke/MethodHandle" ∧ yM_in.cls ≠ "java/lang/invoke/VarHandle" ∧ (parseMethodDescriptor yM_in.desc).map (fun d => d.parameters.length) = some 3 := by decide +kernel
theorem wd_M_code : yM_code.cls ≠ "java/lang/invoke/MethodHandle" ∧ yM_code.cls ≠ "java/lang/invoke/VarHandle" ∧ (parseMethodDescriptor yM_code.desc).map (fun d => d.parameters.length) = some 2 := by decide +kernel
theorem wd_M_clear : yM_clear.cls ≠ "java/lang/invoke/MethodHandle" ∧ yM_clear.cls ≠ "java/lang/invoke/VarHandle" ∧ (parseMethodDescriptor yM_clear.desc).map (fun d => d.parameters.length) = some 0 := by decide +kernel
theorem wd_M_value : yM_value.cls ≠ "java/lang/invoke/MethodHandle" ∧ yM_value.cls ≠ "java/lang/invoke/VarHandle" ∧ (parseMethodDescriptor yM_value.desc).map (fun d => d.parameters.length) = some 1 := by decide +kernel
theorem wd_M_empty : yM_empty.cls ≠ "java/lang/invoke/MethodHandle" ∧ yM_empty.cls ≠ "java/lang/invoke/VarHandle" ∧ (parseMethodDescriptor yM_empty.desc).map (fun d => d.parameters.length) = some 0 := by decide +kernel
theorem wd_M_call : yM_call.cls ≠ "java/lang/invoke/MethodHandle" ∧ yM_call.cls ≠ "java/lang/invoke/VarHandle" ∧ (parseMethodDescriptor yM_call.desc).map (fun d => d.parameters.length) = some 2 := by decide +kernel
theorem wd_M_isDone : yM_isDone.cls ≠ "java/lang/invoke/MethodHandle" ∧ yM_isDone.cls ≠ "java/lang/invoke/VarHandle" ∧ (parseMethodDescriptor yM_isDone.desc).map (fun d => d.parameters.length) = some 2 := by decide +kernel
theorem wd_M_emitted : yM_emitted.cls ≠ "java/lang/invoke/MethodHandle" ∧ yM_emitted.cls ≠ "java/lang/invoke/VarHandle" ∧ (parseMethodDescriptor yM_emitted.desc).map (fun d => d.parameters.length) = some 2 := by decide +kernel
theorem wd_M_told : yM_told.cls ≠ "java/lang/invoke/MethodHandle" ∧ yM_told.cls ≠ "java/lang/invoke/VarHandle" ∧ (parseMethodDescriptor yM_told.desc).map (fun d => d.parameters.length) = some 1 := by decide +kernel
theorem wd_M_cell : yM_cell.cls ≠ "java/lang/invoke/MethodHandle" ∧ yM_cell.cls ≠ "java/lang/invoke/VarHandle" ∧ (parseMethodDescriptor yM_cell.desc).map (fun d => d.parameters.length) = some 1 := by decide +kernel
theorem wd_L_code : yL_code.cls ≠ "java/lang/invoke/MethodHandle" ∧ yL_code.cls ≠ "java/lang/invoke/VarHandle" ∧ (parseMethodDescriptor yL_code.desc).map (fun d => d.parameters.length) = some 4 := by decide +kernel
theorem wd_L_value : yL_value.cls ≠ "java/lang/invoke/MethodHandle" ∧ yL_value.cls ≠ "java/lang/invoke/VarHandle" ∧ (parseMethodDescriptor yL_value.desc).map (fun d => d.parameters.length) = some 3 := by decide +kernel
theorem wd_L_call : yL_call.cls ≠ "java/lang/invoke/MethodHandle" ∧ yL_call.cls ≠ "java/lang/invoke/VarHandle" ∧ (parseMethodDescriptor yL_call.desc).map (fun d => d.parameters.length) = some 4 := by decide +kernel
theorem wd_L_emitted : yL_emitted.cls ≠ "java/lang/invoke/MethodHandle" ∧ yL_emitted.cls ≠ "java/lang/invoke/VarHandle" ∧ (parseMethodDescriptor yL_emitted.desc).map (fun d => d.parameters.length) = some 4 := by decide +kernel
theorem wd_L_told : yL_told.cls ≠ "java/lang/invoke/MethodHandle" ∧ yL_told.cls ≠ "java/lang/invoke/VarHandle" ∧ (parseMethodDescriptor yL_told.desc).map (fun d => d.parameters.length) = some 3 := by decide +kernel
theorem wd_L_cell : yL_cell.cls ≠ "java/lang/invoke/MethodHandle" ∧ yL_cell.cls ≠ "java/lang/invoke/VarHandle" ∧ (parseMethodDescriptor yL_cell.desc).map (fun d => d.parameters.length) = some 3 := by decide +kernel
theorem wd_L_law : yL_law.cls ≠ "java/lang/invoke/MethodHandle" ∧ yL_law.cls ≠ "java/lang/invoke/VarHandle" ∧ (parseMethodDescriptor yL_law.desc).map (fun d => d.parameters.length) = some 1 := by decide +kernel
/-- one list of words for all methods: the tables' good words -/
def WS : List Cond := lw_tbl.filter goodWord
theorem zw {w : Cond} (i : Nat) (h : lw_tbl[i]? = some w) (g : goodWord w = true) : w ∈ WS := List.mem_filter.mpr ⟨List.mem_of_getElem? h, g⟩
theorem WSok {w : Cond} (h : w ∈ WS) : (w.onTables && w.keeps) = true ∨ ∃ ty, w = .arrayClass ty := good_of_word (List.mem_filter.mp h).2
theorem WSg {c : Cond} (h : c ∈ WS) : GoodIn WS (c :: WS) := fun w hw => (List.mem_cons.mp hw).elim (fun e => by subst e; exact ⟨h, WSok h⟩) (fun h2 => ⟨h2, WSok h2⟩)
theorem wn_L : Cond.initialized "EmitDeskLaw" ∈ WS := zw 17 (by decide +kernel) (by decide +kernel)
theorem wn_E : Cond.initialized "EmitDesk" ∈ WS := zw 18 (by decide +kernel) (by decide +kernel)
theorem wn_M : Cond.initialized "EmitDeskModel" ∈ WS := zw 19 (by decide +kernel) (by decide +kernel)
theorem wn_IAE : Cond.initialized "java/lang/IllegalArgumentException" ∈ WS := zw 23 (by decide +kernel) (by decide +kernel)
theorem wn_ISE : Cond.initialized "java/lang/IllegalStateException" ∈ WS := zw 24 (by decide +kernel) (by decide +kernel)
theorem wn_UOE : Cond.initialized "java/lang/UnsupportedOperationException" ∈ WS := zw 25 (by decide +kernel) (by decide +kernel)
theorem wn_IOOBE : Cond.initialized "java/lang/IndexOutOfBoundsException" ∈ WS := zw 26 (by decide +kernel) (by decide +kernel)
theorem wk_L_8 : Cond.classLink "EmitDeskLaw" 8 "EmitDesk" ∈ WS := zw 27 (by decide +kernel) (by decide +kernel)
theorem wo_E : Cond.instantiable "EmitDesk" 17 ∈ WS := zw 28 (by decide +kernel) (by decide +kernel)
theorem wm_L_40 : Cond.methodLink "EmitDeskLaw" 40 yE_init ∈ WS := zw 29 (by decide +kernel) (by decide +kernel)
theorem wi_E_init : Cond.instanceMethod yE_init ∈ WS := zw 30 (by decide +kernel) (by decide +kernel)
theorem wc_E_init : Cond.code yE_init cE_init 1 none ∈ WS := zw 31 rfl rfl
theorem wm_E_1 : Cond.methodLink "EmitDesk" 1 objectInit ∈ WS := zw 32 (by decide +kernel) (by decide +kernel)
theorem wi_objectInit : Cond.instanceMethod objectInit ∈ WS := zw 33 (by decide +kernel) (by decide +kernel)
theorem wc_objectInit : Cond.code objectInit ⟨#[0xb1]⟩ 1 none ∈ WS := zw 34 rfl rfl
theorem wf_E_9 : Cond.fieldLink "EmitDesk" 9 "EmitDesk" "ops" "[I" ∈ WS := zw 35 (by decide +kernel) (by decide +kernel)
theorem wf_E_13 : Cond.fieldLink "EmitDesk" 13 "EmitDesk" "numbers" "[J" ∈ WS := zw 36 (by decide +kernel) (by decide +kernel)
theorem wf_E_43 : Cond.fieldLink "EmitDesk" 43 "EmitDesk" "instructions" "I" ∈ WS := zw 37 (by decide +kernel) (by decide +kernel)
theorem wf_E_17 : Cond.fieldLink "EmitDesk" 17 "EmitDesk" "values" "[J" ∈ WS := zw 38 (by decide +kernel) (by decide +kernel)
theorem wf_E_52 : Cond.fieldLink "EmitDesk" 52 "EmitDesk" "valueCount" "I" ∈ WS := zw 39 (by decide +kernel) (by decide +kernel)
theorem wf_E_20 : Cond.fieldLink "EmitDesk" 20 "EmitDesk" "stack" "[J" ∈ WS := zw 40 (by decide +kernel) (by decide +kernel)
theorem wf_E_92 : Cond.fieldLink "EmitDesk" 92 "EmitDesk" "depth" "I" ∈ WS := zw 41 (by decide +kernel) (by decide +kernel)
theorem wf_E_23 : Cond.fieldLink "EmitDesk" 23 "EmitDesk" "cells" "[J" ∈ WS := zw 42 (by decide +kernel) (by decide +kernel)
theorem wf_E_26 : Cond.fieldLink "EmitDesk" 26 "EmitDesk" "pairKeys" "[J" ∈ WS := zw 43 (by decide +kernel) (by decide +kernel)
theorem wf_E_29 : Cond.fieldLink "EmitDesk" 29 "EmitDesk" "pairValues" "[J" ∈ WS := zw 44 (by decide +kernel) (by decide +kernel)
theorem wf_E_81 : Cond.fieldLink "EmitDesk" 81 "EmitDesk" "pairs" "I" ∈ WS := zw 45 (by decide +kernel) (by decide +kernel)
theorem wf_E_106 : Cond.fieldLink "EmitDesk" 106 "EmitDesk" "latestWay" "I" ∈ WS := zw 46 (by decide +kernel) (by decide +kernel)
theorem wf_E_109 : Cond.fieldLink "EmitDesk" 109 "EmitDesk" "latestKey" "J" ∈ WS := zw 47 (by decide +kernel) (by decide +kernel)
theorem wf_E_113 : Cond.fieldLink "EmitDesk" 113 "EmitDesk" "place" "I" ∈ WS := zw 48 (by decide +kernel) (by decide +kernel)
theorem wf_E_89 : Cond.fieldLink "EmitDesk" 89 "EmitDesk" "done" "I" ∈ WS := zw 49 (by decide +kernel) (by decide +kernel)
theorem wf_E_95 : Cond.fieldLink "EmitDesk" 95 "EmitDesk" "taken" "I" ∈ WS := zw 50 (by decide +kernel) (by decide +kernel)
theorem wf_E_72 : Cond.fieldLink "EmitDesk" 72 "EmitDesk" "trapped" "Z" ∈ WS := zw 51 (by decide +kernel) (by decide +kernel)
theorem wa_int : Cond.arrayClass .int ∈ WS := zw 87 (by decide +kernel) (by decide +kernel)
theorem wa_long : Cond.arrayClass .long ∈ WS := zw 88 (by decide +kernel) (by decide +kernel)
theorem wm_L_56 : Cond.methodLink "EmitDeskLaw" 56 yE_clear ∈ WS := zw 89 (by decide +kernel) (by decide +kernel)
theorem wi_E_clear : Cond.instanceMethod yE_clear ∈ WS := zw 90 (by decide +kernel) (by decide +kernel)
theorem ws_E_clear : Cond.selects "EmitDesk" yE_clear yE_clear ∈ WS := zw 91 (by decide +kernel) (by decide +kernel)
theorem wc_E_clear : Cond.code yE_clear cE_clear 2 (some .int) ∈ WS := zw 92 rfl rfl
theorem wm_L_64 : Cond.methodLink "EmitDeskLaw" 64 yE_empty ∈ WS := zw 93 (by decide +kernel) (by decide +kernel)
theorem wi_E_empty : Cond.instanceMethod yE_empty ∈ WS := zw 94 (by decide +kernel) (by decide +kernel)
theorem ws_E_empty : Cond.selects "EmitDesk" yE_empty yE_empty ∈ WS := zw 95 (by decide +kernel) (by decide +kernel)
theorem wc_E_empty : Cond.code yE_empty cE_empty 2 (some .int) ∈ WS := zw 96 rfl rfl
theorem wm_L_46 : Cond.methodLink "EmitDeskLaw" 46 yL_code ∈ WS := zw 97 (by decide +kernel) (by decide +kernel)
theorem wt_L_code : Cond.static yL_code ∈ WS := zw 98 (by decide +kernel) (by decide +kernel)
theorem wc_L_code : Cond.codeWith yL_code cL_code 6 (some .int) [(0, 11, 14, 13), (0, 11, 18, 15)] ∈ WS := zw 99 rfl rfl
theorem wk_L_13 : Cond.classLink "EmitDeskLaw" 13 "java/lang/IllegalArgumentException" ∈ WS := zw 100 (by decide +kernel) (by decide +kernel)
theorem wk_L_15 : Cond.classLink "EmitDeskLaw" 15 "java/lang/IllegalStateException" ∈ WS := zw 101 (by decide +kernel) (by decide +kernel)
theorem wm_L_7 : Cond.methodLink "EmitDeskLaw" 7 yE_code ∈ WS := zw 102 (by decide +kernel) (by decide +kernel)
theorem wi_E_code : Cond.instanceMethod yE_code ∈ WS := zw 103 (by decide +kernel) (by decide +kernel)
theorem ws_E_code : Cond.selects "EmitDesk" yE_code yE_code ∈ WS := zw 104 (by decide +kernel) (by decide +kernel)
theorem wc_E_code : Cond.code yE_code cE_code 4 (some .int) ∈ WS := zw 105 rfl rfl
theorem wm_E_32 : Cond.methodLink "EmitDesk" 32 yE_isInstruction ∈ WS := zw 106 (by decide +kernel) (by decide +kernel)
theorem wt_E_isInstruction : Cond.static yE_isInstruction ∈ WS := zw 107 (by decide +kernel) (by decide +kernel)
theorem wc_E_isInstruction : Cond.code yE_isInstruction cE_isInstruction 3 (some .boolean) ∈ WS := zw 108 rfl rfl
theorem wl_E_102 : Cond.constantLong "EmitDesk" 102 4 ∈ WS := zw 109 (by decide +kernel) (by decide +kernel)
theorem wl_E_104 : Cond.constantLong "EmitDesk" 104 40 ∈ WS := zw 110 (by decide +kernel) (by decide +kernel)
theorem wk_E_36 : Cond.classLink "EmitDesk" 36 "java/lang/IllegalArgumentException" ∈ WS := zw 111 (by decide +kernel) (by decide +kernel)
theorem wo_IAE : Cond.instantiable "java/lang/IllegalArgumentException" 6 ∈ WS := zw 112 (by decide +kernel) (by decide +kernel)
theorem wa_byte : Cond.arrayClass .byte ∈ WS := zw 179 (by decide +kernel) (by decide +kernel)
theorem wk_E_47 : Cond.classLink "EmitDesk" 47 "java/lang/IllegalStateException" ∈ WS := zw 180 (by decide +kernel) (by decide +kernel)
theorem wo_ISE : Cond.instantiable "java/lang/IllegalStateException" 6 ∈ WS := zw 181 (by decide +kernel) (by decide +kernel)
theorem wm_L_60 : Cond.methodLink "EmitDeskLaw" 60 yL_value ∈ WS := zw 196 (by decide +kernel) (by decide +kernel)
theorem wt_L_value : Cond.static yL_value ∈ WS := zw 197 (by decide +kernel) (by decide +kernel)
theorem wc_L_value : Cond.codeWith yL_value cL_value 5 (some .int) [(0, 9, 12, 15)] ∈ WS := zw 198 rfl rfl
theorem wm_L_17 : Cond.methodLink "EmitDeskLaw" 17 yE_value ∈ WS := zw 199 (by decide +kernel) (by decide +kernel)
theorem wi_E_value : Cond.instanceMethod yE_value ∈ WS := zw 200 (by decide +kernel) (by decide +kernel)
theorem ws_E_value : Cond.selects "EmitDesk" yE_value yE_value ∈ WS := zw 201 (by decide +kernel) (by decide +kernel)
theorem wc_E_value : Cond.code yE_value cE_value 3 (some .int) ∈ WS := zw 202 rfl rfl
theorem wm_L_68 : Cond.methodLink "EmitDeskLaw" 68 yL_call ∈ WS := zw 204 (by decide +kernel) (by decide +kernel)
theorem wt_L_call : Cond.static yL_call ∈ WS := zw 205 (by decide +kernel) (by decide +kernel)
theorem wc_L_call : Cond.codeWith yL_call cL_call 6 (some .int) [(0, 11, 14, 13), (0, 11, 18, 24)] ∈ WS := zw 206 rfl rfl
theorem wk_L_24 : Cond.classLink "EmitDeskLaw" 24 "java/lang/UnsupportedOperationException" ∈ WS := zw 207 (by decide +kernel) (by decide +kernel)
theorem wm_L_21 : Cond.methodLink "EmitDeskLaw" 21 yE_call ∈ WS := zw 208 (by decide +kernel) (by decide +kernel)
theorem wi_E_call : Cond.instanceMethod yE_call ∈ WS := zw 209 (by decide +kernel) (by decide +kernel)
theorem ws_E_call : Cond.selects "EmitDesk" yE_call yE_call ∈ WS := zw 210 (by decide +kernel) (by decide +kernel)
theorem wc_E_call : Cond.code yE_call cE_call 4 (some .int) ∈ WS := zw 211 rfl rfl
theorem wm_E_59 : Cond.methodLink "EmitDesk" 59 yE_goesBehindEnd ∈ WS := zw 213 (by decide +kernel) (by decide +kernel)
theorem wi_E_goesBehindEnd : Cond.instanceMethod yE_goesBehindEnd ∈ WS := zw 215 (by decide +kernel) (by decide +kernel)
theorem wc_E_goesBehindEnd : Cond.code yE_goesBehindEnd cE_goesBehindEnd 3 (some .boolean) ∈ WS := zw 216 rfl rfl
theorem wm_E_65 : Cond.methodLink "EmitDesk" 65 yE_begin ∈ WS := zw 218 (by decide +kernel) (by decide +kernel)
theorem wi_E_begin : Cond.instanceMethod yE_begin ∈ WS := zw 220 (by decide +kernel) (by decide +kernel)
theorem wc_E_begin : Cond.code yE_begin cE_begin 5 none ∈ WS := zw 221 rfl rfl
theorem wm_E_69 : Cond.methodLink "EmitDesk" 69 yE_runProgram ∈ WS := zw 222 (by decide +kernel) (by decide +kernel)
theorem wi_E_runProgram : Cond.instanceMethod yE_runProgram ∈ WS := zw 224 (by decide +kernel) (by decide +kernel)
theorem wc_E_runProgram : Cond.code yE_runProgram cE_runProgram 5 none ∈ WS := zw 225 rfl rfl
theorem wm_E_116 : Cond.methodLink "EmitDesk" 116 yE_perform ∈ WS := zw 226 (by decide +kernel) (by decide +kernel)
theorem wi_E_perform : Cond.instanceMethod yE_perform ∈ WS := zw 228 (by decide +kernel) (by decide +kernel)
theorem wc_E_perform : Cond.code yE_perform cE_perform 4 none ∈ WS := zw 229 rfl rfl
theorem wm_E_119 : Cond.methodLink "EmitDesk" 119 yE_push ∈ WS := zw 230 (by decide +kernel) (by decide +kernel)
theorem wi_E_push : Cond.instanceMethod yE_push ∈ WS := zw 232 (by decide +kernel) (by decide +kernel)
theorem wc_E_push : Cond.code yE_push cE_push 3 none ∈ WS := zw 233 rfl rfl
theorem wm_E_123 : Cond.methodLink "EmitDesk" 123 yE_pushValue ∈ WS := zw 234 (by decide +kernel) (by decide +kernel)
theorem wi_E_pushValue : Cond.instanceMethod yE_pushValue ∈ WS := zw 236 (by decide +kernel) (by decide +kernel)
theorem wc_E_pushValue : Cond.code yE_pushValue cE_pushValue 1 none ∈ WS := zw 237 rfl rfl
theorem wm_E_126 : Cond.methodLink "EmitDesk" 126 yE_hasNext ∈ WS := zw 238 (by decide +kernel) (by decide +kernel)
theorem wi_E_hasNext : Cond.instanceMethod yE_hasNext ∈ WS := zw 240 (by decide +kernel) (by decide +kernel)
theorem wc_E_hasNext : Cond.code yE_hasNext cE_hasNext 1 (some .boolean) ∈ WS := zw 241 rfl rfl
theorem wm_E_129 : Cond.methodLink "EmitDesk" 129 yE_popCell ∈ WS := zw 242 (by decide +kernel) (by decide +kernel)
theorem wi_E_popCell : Cond.instanceMethod yE_popCell ∈ WS := zw 244 (by decide +kernel) (by decide +kernel)
theorem wc_E_popCell : Cond.code yE_popCell cE_popCell 4 none ∈ WS := zw 245 rfl rfl
theorem wm_E_136 : Cond.methodLink "EmitDesk" 136 yE_pop ∈ WS := zw 246 (by decide +kernel) (by decide +kernel)
theorem wi_E_pop : Cond.instanceMethod yE_pop ∈ WS := zw 248 (by decide +kernel) (by decide +kernel)
theorem wc_E_pop : Cond.code yE_pop cE_pop 1 (some .long) ∈ WS := zw 249 rfl rfl
theorem wm_E_133 : Cond.methodLink "EmitDesk" 133 yE_doubleTop ∈ WS := zw 250 (by decide +kernel) (by decide +kernel)
theorem wi_E_doubleTop : Cond.instanceMethod yE_doubleTop ∈ WS := zw 252 (by decide +kernel) (by decide +kernel)
theorem wc_E_doubleTop : Cond.code yE_doubleTop cE_doubleTop 3 none ∈ WS := zw 253 rfl rfl
theorem wm_E_140 : Cond.methodLink "EmitDesk" 140 yE_changeTwo ∈ WS := zw 254 (by decide +kernel) (by decide +kernel)
theorem wi_E_changeTwo : Cond.instanceMethod yE_changeTwo ∈ WS := zw 256 (by decide +kernel) (by decide +kernel)
theorem wc_E_changeTwo : Cond.code yE_changeTwo cE_changeTwo 5 none ∈ WS := zw 257 rfl rfl
theorem wm_E_143 : Cond.methodLink "EmitDesk" 143 yE_goIfZero ∈ WS := zw 258 (by decide +kernel) (by decide +kernel)
theorem wi_E_goIfZero : Cond.instanceMethod yE_goIfZero ∈ WS := zw 260 (by decide +kernel) (by decide +kernel)
theorem wc_E_goIfZero : Cond.code yE_goIfZero cE_goIfZero 2 none ∈ WS := zw 261 rfl rfl
theorem wm_E_146 : Cond.methodLink "EmitDesk" 146 yE_emitPair ∈ WS := zw 262 (by decide +kernel) (by decide +kernel)
theorem wi_E_emitPair : Cond.instanceMethod yE_emitPair ∈ WS := zw 264 (by decide +kernel) (by decide +kernel)
theorem wc_E_emitPair : Cond.code yE_emitPair cE_emitPair 5 none ∈ WS := zw 265 rfl rfl
theorem wm_E_149 : Cond.methodLink "EmitDesk" 149 yE_combine ∈ WS := zw 266 (by decide +kernel) (by decide +kernel)
theorem wi_E_combine : Cond.instanceMethod yE_combine ∈ WS := zw 268 (by decide +kernel) (by decide +kernel)
theorem wc_E_combine : Cond.code yE_combine cE_combine 6 none ∈ WS := zw 269 rfl rfl
theorem wm_E_152 : Cond.methodLink "EmitDesk" 152 yE_divide ∈ WS := zw 270 (by decide +kernel) (by decide +kernel)
theorem wi_E_divide : Cond.instanceMethod yE_divide ∈ WS := zw 272 (by decide +kernel) (by decide +kernel)
theorem wc_E_divide : Cond.code yE_divide cE_divide 5 none ∈ WS := zw 273 rfl rfl
theorem wk_E_76 : Cond.classLink "EmitDesk" 76 "java/lang/UnsupportedOperationException" ∈ WS := zw 274 (by decide +kernel) (by decide +kernel)
theorem wo_UOE : Cond.instantiable "java/lang/UnsupportedOperationException" 6 ∈ WS := zw 275 (by decide +kernel) (by decide +kernel)
theorem wm_L_71 : Cond.methodLink "EmitDeskLaw" 71 yL_emitted ∈ WS := zw 290 (by decide +kernel) (by decide +kernel)
theorem wt_L_emitted : Cond.static yL_emitted ∈ WS := zw 291 (by decide +kernel) (by decide +kernel)
theorem wc_L_emitted : Cond.codeWith yL_emitted cL_emitted 5 (some .int) [(0, 9, 12, 30)] ∈ WS := zw 292 rfl rfl
theorem wk_L_30 : Cond.classLink "EmitDeskLaw" 30 "java/lang/IndexOutOfBoundsException" ∈ WS := zw 293 (by decide +kernel) (by decide +kernel)
theorem wm_L_26 : Cond.methodLink "EmitDeskLaw" 26 yE_emitted ∈ WS := zw 294 (by decide +kernel) (by decide +kernel)
theorem wi_E_emitted : Cond.instanceMethod yE_emitted ∈ WS := zw 295 (by decide +kernel) (by decide +kernel)
theorem ws_E_emitted : Cond.selects "EmitDesk" yE_emitted yE_emitted ∈ WS := zw 296 (by decide +kernel) (by decide +kernel)
theorem wc_E_emitted : Cond.code yE_emitted cE_emitted 3 (some .long) ∈ WS := zw 297 rfl rfl
theorem wk_E_84 : Cond.classLink "EmitDesk" 84 "java/lang/IndexOutOfBoundsException" ∈ WS := zw 298 (by decide +kernel) (by decide +kernel)
theorem wo_IOOBE : Cond.instantiable "java/lang/IndexOutOfBoundsException" 6 ∈ WS := zw 299 (by decide +kernel) (by decide +kernel)
theorem wm_L_75 : Cond.methodLink "EmitDeskLaw" 75 yL_told ∈ WS := zw 314 (by decide +kernel) (by decide +kernel)
theorem wt_L_told : Cond.static yL_told ∈ WS := zw 315 (by decide +kernel) (by decide +kernel)
theorem wc_L_told : Cond.codeWith yL_told cL_told 4 (some .int) [(0, 9, 12, 13)] ∈ WS := zw 316 rfl rfl
theorem wm_L_32 : Cond.methodLink "EmitDeskLaw" 32 yE_told ∈ WS := zw 317 (by decide +kernel) (by decide +kernel)
theorem wi_E_told : Cond.instanceMethod yE_told ∈ WS := zw 318 (by decide +kernel) (by decide +kernel)
theorem ws_E_told : Cond.selects "EmitDesk" yE_told yE_told ∈ WS := zw 319 (by decide +kernel) (by decide +kernel)
theorem wc_E_told : Cond.code yE_told cE_told 2 (some .int) ∈ WS := zw 320 rfl rfl
theorem wm_L_79 : Cond.methodLink "EmitDeskLaw" 79 yL_cell ∈ WS := zw 322 (by decide +kernel) (by decide +kernel)
theorem wt_L_cell : Cond.static yL_cell ∈ WS := zw 323 (by decide +kernel) (by decide +kernel)
theorem wc_L_cell : Cond.codeWith yL_cell cL_cell 4 (some .int) [(0, 8, 11, 30)] ∈ WS := zw 324 rfl rfl
theorem wm_L_36 : Cond.methodLink "EmitDeskLaw" 36 yE_cell ∈ WS := zw 325 (by decide +kernel) (by decide +kernel)
theorem wi_E_cell : Cond.instanceMethod yE_cell ∈ WS := zw 326 (by decide +kernel) (by decide +kernel)
theorem ws_E_cell : Cond.selects "EmitDesk" yE_cell yE_cell ∈ WS := zw 327 (by decide +kernel) (by decide +kernel)
theorem wc_E_cell : Cond.code yE_cell cE_cell 2 (some .long) ∈ WS := zw 328 rfl rfl
theorem wk_L_41 : Cond.classLink "EmitDeskLaw" 41 "EmitDeskModel" ∈ WS := zw 330 (by decide +kernel) (by decide +kernel)
theorem wo_M : Cond.instantiable "EmitDeskModel" 15 ∈ WS := zw 331 (by decide +kernel) (by decide +kernel)
theorem wm_L_43 : Cond.methodLink "EmitDeskLaw" 43 yM_init ∈ WS := zw 332 (by decide +kernel) (by decide +kernel)
theorem wi_M_init : Cond.instanceMethod yM_init ∈ WS := zw 333 (by decide +kernel) (by decide +kernel)
theorem wc_M_init : Cond.code yM_init cM_init 1 none ∈ WS := zw 334 rfl rfl
theorem wm_M_1 : Cond.methodLink "EmitDeskModel" 1 objectInit ∈ WS := zw 335 (by decide +kernel) (by decide +kernel)
theorem wf_M_9 : Cond.fieldLink "EmitDeskModel" 9 "EmitDeskModel" "op" "[I" ∈ WS := zw 336 (by decide +kernel) (by decide +kernel)
theorem wf_M_13 : Cond.fieldLink "EmitDeskModel" 13 "EmitDeskModel" "arg" "[J" ∈ WS := zw 337 (by decide +kernel) (by decide +kernel)
theorem wf_M_17 : Cond.fieldLink "EmitDeskModel" 17 "EmitDeskModel" "value" "[J" ∈ WS := zw 338 (by decide +kernel) (by decide +kernel)
theorem wf_M_20 : Cond.fieldLink "EmitDeskModel" 20 "EmitDeskModel" "stack" "[J" ∈ WS := zw 339 (by decide +kernel) (by decide +kernel)
theorem wf_M_23 : Cond.fieldLink "EmitDeskModel" 23 "EmitDeskModel" "cell" "[J" ∈ WS := zw 340 (by decide +kernel) (by decide +kernel)
theorem wf_M_26 : Cond.fieldLink "EmitDeskModel" 26 "EmitDeskModel" "key" "[J" ∈ WS := zw 341 (by decide +kernel) (by decide +kernel)
theorem wf_M_29 : Cond.fieldLink "EmitDeskModel" 29 "EmitDeskModel" "emitted" "[J" ∈ WS := zw 342 (by decide +kernel) (by decide +kernel)
theorem wf_M_40 : Cond.fieldLink "EmitDeskModel" 40 "EmitDeskModel" "codes" "I" ∈ WS := zw 343 (by decide +kernel) (by decide +kernel)
theorem wf_M_43 : Cond.fieldLink "EmitDeskModel" 43 "EmitDeskModel" "values" "I" ∈ WS := zw 344 (by decide +kernel) (by decide +kernel)
theorem wf_M_46 : Cond.fieldLink "EmitDeskModel" 46 "EmitDeskModel" "steps" "I" ∈ WS := zw 345 (by decide +kernel) (by decide +kernel)
theorem wf_M_49 : Cond.fieldLink "EmitDeskModel" 49 "EmitDeskModel" "top" "I" ∈ WS := zw 346 (by decide +kernel) (by decide +kernel)
theorem wf_M_52 : Cond.fieldLink "EmitDeskModel" 52 "EmitDeskModel" "pairs" "I" ∈ WS := zw 347 (by decide +kernel) (by decide +kernel)
theorem wf_M_55 : Cond.fieldLink "EmitDeskModel" 55 "EmitDeskModel" "taken" "I" ∈ WS := zw 348 (by decide +kernel) (by decide +kernel)
theorem wf_M_32 : Cond.fieldLink "EmitDeskModel" 32 "EmitDeskModel" "thrown" "I" ∈ WS := zw 349 (by decide +kernel) (by decide +kernel)
theorem wf_M_62 : Cond.fieldLink "EmitDeskModel" 62 "EmitDeskModel" "isTrap" "Z" ∈ WS := zw 350 (by decide +kernel) (by decide +kernel)
theorem wm_L_52 : Cond.methodLink "EmitDeskLaw" 52 yM_thrown ∈ WS := zw 382 (by decide +kernel) (by decide +kernel)
theorem wi_M_thrown : Cond.instanceMethod yM_thrown ∈ WS := zw 383 (by decide +kernel) (by decide +kernel)
theorem ws_M_thrown : Cond.selects "EmitDeskModel" yM_thrown yM_thrown ∈ WS := zw 384 (by decide +kernel) (by decide +kernel)
theorem wc_M_thrown : Cond.code yM_thrown cM_thrown 1 (some .int) ∈ WS := zw 385 rfl rfl
theorem wm_L_51 : Cond.methodLink "EmitDeskLaw" 51 yM_code ∈ WS := zw 386 (by decide +kernel) (by decide +kernel)
theorem wi_M_code : Cond.instanceMethod yM_code ∈ WS := zw 387 (by decide +kernel) (by decide +kernel)
theorem ws_M_code : Cond.selects "EmitDeskModel" yM_code yM_code ∈ WS := zw 388 (by decide +kernel) (by decide +kernel)
theorem wc_M_code : Cond.code yM_code cM_code 5 (some .int) ∈ WS := zw 389 rfl rfl
theorem wm_M_36 : Cond.methodLink "EmitDeskModel" 36 yM_in ∈ WS := zw 390 (by decide +kernel) (by decide +kernel)
theorem wt_M_in : Cond.static yM_in ∈ WS := zw 391 (by decide +kernel) (by decide +kernel)
theorem wc_M_in : Cond.code yM_in cM_in 4 (some .boolean) ∈ WS := zw 392 rfl rfl
theorem wm_L_59 : Cond.methodLink "EmitDeskLaw" 59 yM_clear ∈ WS := zw 393 (by decide +kernel) (by decide +kernel)
theorem wi_M_clear : Cond.instanceMethod yM_clear ∈ WS := zw 394 (by decide +kernel) (by decide +kernel)
theorem ws_M_clear : Cond.selects "EmitDeskModel" yM_clear yM_clear ∈ WS := zw 395 (by decide +kernel) (by decide +kernel)
theorem wc_M_clear : Cond.code yM_clear cM_clear 2 (some .int) ∈ WS := zw 396 rfl rfl
theorem wm_L_63 : Cond.methodLink "EmitDeskLaw" 63 yM_value ∈ WS := zw 397 (by decide +kernel) (by decide +kernel)
theorem wi_M_value : Cond.instanceMethod yM_value ∈ WS := zw 398 (by decide +kernel) (by decide +kernel)
theorem ws_M_value : Cond.selects "EmitDeskModel" yM_value yM_value ∈ WS := zw 399 (by decide +kernel) (by decide +kernel)
theorem wc_M_value : Cond.code yM_value cM_value 3 (some .int) ∈ WS := zw 400 rfl rfl
theorem wm_L_67 : Cond.methodLink "EmitDeskLaw" 67 yM_empty ∈ WS := zw 401 (by decide +kernel) (by decide +kernel)
theorem wi_M_empty : Cond.instanceMethod yM_empty ∈ WS := zw 402 (by decide +kernel) (by decide +kernel)
theorem ws_M_empty : Cond.selects "EmitDeskModel" yM_empty yM_empty ∈ WS := zw 403 (by decide +kernel) (by decide +kernel)
theorem wc_M_empty : Cond.code yM_empty cM_empty 2 (some .int) ∈ WS := zw 404 rfl rfl
theorem wm_L_70 : Cond.methodLink "EmitDeskLaw" 70 yM_call ∈ WS := zw 405 (by decide +kernel) (by decide +kernel)
theorem wi_M_call : Cond.instanceMethod yM_call ∈ WS := zw 406 (by decide +kernel) (by decide +kernel)
theorem ws_M_call : Cond.selects "EmitDeskModel" yM_call yM_call ∈ WS := zw 407 (by decide +kernel) (by decide +kernel)
theorem wc_M_call : Cond.code yM_call cM_call 6 (some .int) ∈ WS := zw 408 rfl rfl
theorem wm_M_58 : Cond.methodLink "EmitDeskModel" 58 yM_isDone ∈ WS := zw 409 (by decide +kernel) (by decide +kernel)
theorem wi_M_isDone : Cond.instanceMethod yM_isDone ∈ WS := zw 411 (by decide +kernel) (by decide +kernel)
theorem wc_M_isDone : Cond.code yM_isDone cM_isDone 14 (some .boolean) ∈ WS := zw 412 rfl rfl
theorem wm_L_74 : Cond.methodLink "EmitDeskLaw" 74 yM_emitted ∈ WS := zw 413 (by decide +kernel) (by decide +kernel)
theorem wi_M_emitted : Cond.instanceMethod yM_emitted ∈ WS := zw 414 (by decide +kernel) (by decide +kernel)
theorem ws_M_emitted : Cond.selects "EmitDeskModel" yM_emitted yM_emitted ∈ WS := zw 415 (by decide +kernel) (by decide +kernel)
theorem wc_M_emitted : Cond.code yM_emitted cM_emitted 3 (some .long) ∈ WS := zw 416 rfl rfl
theorem wm_L_78 : Cond.methodLink "EmitDeskLaw" 78 yM_told ∈ WS := zw 417 (by decide +kernel) (by decide +kernel)
theorem wi_M_told : Cond.instanceMethod yM_told ∈ WS := zw 418 (by decide +kernel) (by decide +kernel)
theorem ws_M_told : Cond.selects "EmitDeskModel" yM_told yM_told ∈ WS := zw 419 (by decide +kernel) (by decide +kernel)
theorem wc_M_told : Cond.code yM_told cM_told 2 (some .int) ∈ WS := zw 420 rfl rfl
theorem wm_L_81 : Cond.methodLink "EmitDeskLaw" 81 yM_cell ∈ WS := zw 421 (by decide +kernel) (by decide +kernel)
theorem wi_M_cell : Cond.instanceMethod yM_cell ∈ WS := zw 422 (by decide +kernel) (by decide +kernel)
theorem ws_M_cell : Cond.selects "EmitDeskModel" yM_cell yM_cell ∈ WS := zw 423 (by decide +kernel) (by decide +kernel)
theorem wc_M_cell : Cond.code yM_cell cM_cell 2 (some .long) ∈ WS := zw 424 rfl rfl
theorem wl_L_44 : Cond.constantLong "EmitDeskLaw" 44 4294967295 ∈ WS := zw 425 (by decide +kernel) (by decide +kernel)
theorem ws_E_goesBehindEnd : Cond.selects "EmitDesk" yE_goesBehindEnd yE_goesBehindEnd ∈ WS := zw 1 (by decide +kernel) (by decide +kernel)
theorem ws_E_begin : Cond.selects "EmitDesk" yE_begin yE_begin ∈ WS := zw 2 (by decide +kernel) (by decide +kernel)
theorem ws_E_runProgram : Cond.selects "EmitDesk" yE_runProgram yE_runProgram ∈ WS := zw 3 (by decide +kernel) (by decide +kernel)
theorem ws_E_perform : Cond.selects "EmitDesk" yE_perform yE_perform ∈ WS := zw 4 (by decide +kernel) (by decide +kernel)
theorem ws_E_push : Cond.selects "EmitDesk" yE_push yE_push ∈ WS := zw 5 (by decide +kernel) (by decide +kernel)
theorem ws_E_pushValue : Cond.selects "EmitDesk" yE_pushValue yE_pushValue ∈ WS := zw 6 (by decide +kernel) (by decide +kernel)
theorem ws_E_hasNext : Cond.selects "EmitDesk" yE_hasNext yE_hasNext ∈ WS := zw 7 (by decide +kernel) (by decide +kernel)
theorem ws_E_popCell : Cond.selects "EmitDesk" yE_popCell yE_popCell ∈ WS := zw 8 (by decide +kernel) (by decide +kernel)
theorem ws_E_pop : Cond.selects "EmitDesk" yE_pop yE_pop ∈ WS := zw 9 (by decide +kernel) (by decide +kernel)
theorem ws_E_doubleTop : Cond.selects "EmitDesk" yE_doubleTop yE_doubleTop ∈ WS := zw 10 (by decide +kernel) (by decide +kernel)
theorem ws_E_changeTwo : Cond.selects "EmitDesk" yE_changeTwo yE_changeTwo ∈ WS := zw 11 (by decide +kernel) (by decide +kernel)
theorem ws_E_goIfZero : Cond.selects "EmitDesk" yE_goIfZero yE_goIfZero ∈ WS := zw 12 (by decide +kernel) (by decide +kernel)
theorem ws_E_emitPair : Cond.selects "EmitDesk" yE_emitPair yE_emitPair ∈ WS := zw 13 (by decide +kernel) (by decide +kernel)
theorem ws_E_combine : Cond.selects "EmitDesk" yE_combine yE_combine ∈ WS := zw 14 (by decide +kernel) (by decide +kernel)
theorem ws_E_divide : Cond.selects "EmitDesk" yE_divide yE_divide ∈ WS := zw 15 (by decide +kernel) (by decide +kernel)
theorem ws_M_isDone : Cond.selects "EmitDeskModel" yM_isDone yM_isDone ∈ WS := zw 16 (by decide +kernel) (by decide +kernel)
theorem inE : ∀ w ∈ u_ws RE TE 17, w ∈ WS := by decide +kernel
theorem inM : ∀ w ∈ u_ws RM TM 15, w ∈ WS := by decide +kernel
