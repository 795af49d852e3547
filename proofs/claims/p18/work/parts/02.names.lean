/-! ===== BEGIN printed: names, fields, word lists, decode rows ===== -/
def RX0 : String := "Nudgelane$Attempts"
def TX0 : u_T := fun k => match k with
  | 0 => ("Nudgelane$Attempts", "froms", "LNudgelane$Row;", true)
  | 1 => ("Nudgelane$Attempts", "tos", "LNudgelane$Row;", true)
  | 2 => ("Nudgelane$Attempts", "leavings", "LNudgelane$Row;", true)
  | 3 => ("Nudgelane$Attempts", "rightEnds", "LNudgelane$Row;", true)
  | 4 => ("Nudgelane$Attempts", "metMarks", "LNudgelane$Row;", true)
  | 5 => ("Nudgelane$Attempts", "metForms", "LNudgelane$Row;", true)
  | 6 => ("Nudgelane$Attempts", "metTotal", "I", false)
  | 7 => ("Nudgelane$Attempts", "begun", "I", false)
  | 8 => ("Nudgelane$Attempts", "passed", "I", false)
  | 9 => ("Nudgelane$Attempts", "here", "I", false)
  | _ => ("Nudgelane$Attempts", "someRight", "Z", false)
def tyX0 : Nat → FieldType := fun k => match k with
  | 0 => .object "Nudgelane$Row"
  | 1 => .object "Nudgelane$Row"
  | 2 => .object "Nudgelane$Row"
  | 3 => .object "Nudgelane$Row"
  | 4 => .object "Nudgelane$Row"
  | 5 => .object "Nudgelane$Row"
  | 6 => .int
  | 7 => .int
  | 8 => .int
  | 9 => .int
  | _ => .boolean
abbrev wsX00 : List Cond := u_ws RX0 TX0 11
theorem nmX0 : ∀ a, a < 11 → ∀ b, b < 11 → a ≠ b → (TX0 a).2.1 ≠ (TX0 b).2.1 := by decide +kernel
theorem tyX0_ok : ∀ k, k < 11 → parseFieldDescriptor (TX0 k).2.2.1 = some (tyX0 k) := by decide +kernel
abbrev cX0_init : ByteArray := prog_2_method_1_code
def yX0_init : MethodName := ⟨RX0, "<init>", "()V"⟩
def RX1 : String := "Nudgelane$Programs"
def TX1 : u_T := fun k => match k with
  | _ => ("Nudgelane$Programs", "forms", "LNudgelane$Row;", true)
def tyX1 : Nat → FieldType := fun k => match k with
  | _ => .object "Nudgelane$Row"
abbrev wsX10 : List Cond := u_ws RX1 TX1 1
theorem nmX1 : ∀ a, a < 1 → ∀ b, b < 1 → a ≠ b → (TX1 a).2.1 ≠ (TX1 b).2.1 := by decide +kernel
theorem tyX1_ok : ∀ k, k < 1 → parseFieldDescriptor (TX1 k).2.2.1 = some (tyX1 k) := by decide +kernel
abbrev cX1_init : ByteArray := prog_3_method_1_code
def yX1_init : MethodName := ⟨RX1, "<init>", "()V"⟩
def yX1_formOf : MethodName := ⟨RX1, "formOf", "(I)I"⟩
abbrev cX1_weightOf : ByteArray := prog_3_method_5_code
def yX1_weightOf : MethodName := ⟨RX1, "weightOf", "(I)I"⟩
abbrev cX1_without : ByteArray := prog_3_method_6_code
def yX1_without : MethodName := ⟨RX1, "without", "(II)I"⟩
abbrev cX1_reduce : ByteArray := prog_3_method_7_code
def yX1_reduce : MethodName := ⟨RX1, "reduce", "(ILNudgelane$Row;)I"⟩
abbrev cX1_unpack : ByteArray := prog_3_method_8_code
def yX1_unpack : MethodName := ⟨RX1, "unpack", "(ILNudgelane$Row;)V"⟩
abbrev cX1_pack : ByteArray := prog_3_method_9_code
def yX1_pack : MethodName := ⟨RX1, "pack", "(LNudgelane$Row;)I"⟩
abbrev cX1_rewriteOnce : ByteArray := prog_3_method_10_code
def yX1_rewriteOnce : MethodName := ⟨RX1, "rewriteOnce", "(LNudgelane$Row;)Z"⟩
abbrev cX1_isUsable : ByteArray := prog_3_method_11_code
def yX1_isUsable : MethodName := ⟨RX1, "isUsable", "(III)Z"⟩
abbrev cX1_use : ByteArray := prog_3_method_12_code
def yX1_use : MethodName := ⟨RX1, "use", "(ILNudgelane$Row;I)V"⟩
def RX2 : String := "Nudgelane$Row"
def TX2 : u_T := fun k => match k with
  | _ => ("Nudgelane$Row", "cells", "[I", true)
def tyX2 : Nat → FieldType := fun k => match k with
  | _ => .array .int
abbrev wsX20 : List Cond := u_ws RX2 TX2 1
theorem nmX2 : ∀ a, a < 1 → ∀ b, b < 1 → a ≠ b → (TX2 a).2.1 ≠ (TX2 b).2.1 := by decide +kernel
theorem tyX2_ok : ∀ k, k < 1 → parseFieldDescriptor (TX2 k).2.2.1 = some (tyX2 k) := by decide +kernel
abbrev cX2_init : ByteArray := prog_4_method_1_code
def yX2_init : MethodName := ⟨RX2, "<init>", "(I)V"⟩
abbrev cX2_get : ByteArray := prog_4_method_2_code
def yX2_get : MethodName := ⟨RX2, "get", "(I)I"⟩
abbrev cX2_set : ByteArray := prog_4_method_3_code
def yX2_set : MethodName := ⟨RX2, "set", "(II)V"⟩
abbrev cX2_add : ByteArray := prog_4_method_4_code
def yX2_add : MethodName := ⟨RX2, "add", "(II)V"⟩
def RX3 : String := "Nudgelane$Ways"
def TX3 : u_T := fun k => match k with
  | 0 => ("Nudgelane$Ways", "known", "LNudgelane$Row;", true)
  | _ => ("Nudgelane$Ways", "queue", "LNudgelane$Row;", true)
def tyX3 : Nat → FieldType := fun k => match k with
  | 0 => .object "Nudgelane$Row"
  | _ => .object "Nudgelane$Row"
abbrev wsX30 : List Cond := u_ws RX3 TX3 2
theorem nmX3 : ∀ a, a < 2 → ∀ b, b < 2 → a ≠ b → (TX3 a).2.1 ≠ (TX3 b).2.1 := by decide +kernel
theorem tyX3_ok : ∀ k, k < 2 → parseFieldDescriptor (TX3 k).2.2.1 = some (tyX3 k) := by decide +kernel
abbrev cX3_init : ByteArray := prog_5_method_1_code
def yX3_init : MethodName := ⟨RX3, "<init>", "()V"⟩
def RX4 : String := "Nudgelane$Worths"
def TX4 : u_T := fun k => match k with
  | 0 => ("Nudgelane$Worths", "worthNow", "LNudgelane$Row;", true)
  | _ => ("Nudgelane$Worths", "sums", "LNudgelane$Row;", true)
def tyX4 : Nat → FieldType := fun k => match k with
  | 0 => .object "Nudgelane$Row"
  | _ => .object "Nudgelane$Row"
abbrev wsX40 : List Cond := u_ws RX4 TX4 2
theorem nmX4 : ∀ a, a < 2 → ∀ b, b < 2 → a ≠ b → (TX4 a).2.1 ≠ (TX4 b).2.1 := by decide +kernel
theorem tyX4_ok : ∀ k, k < 2 → parseFieldDescriptor (TX4 k).2.2.1 = some (tyX4 k) := by decide +kernel
abbrev cX4_init : ByteArray := prog_6_method_1_code
def yX4_init : MethodName := ⟨RX4, "<init>", "()V"⟩
def RX5 : String := "Nudgelane"
def TX5 : u_T := fun k => match k with
  | 0 => ("Nudgelane", "programs", "LNudgelane$Programs;", true)
  | 1 => ("Nudgelane", "ways", "LNudgelane$Ways;", true)
  | 2 => ("Nudgelane", "attempts", "LNudgelane$Attempts;", true)
  | _ => ("Nudgelane", "worths", "LNudgelane$Worths;", true)
def tyX5 : Nat → FieldType := fun k => match k with
  | 0 => .object "Nudgelane$Programs"
  | 1 => .object "Nudgelane$Ways"
  | 2 => .object "Nudgelane$Attempts"
  | _ => .object "Nudgelane$Worths"
abbrev wsX50 : List Cond := u_ws RX5 TX5 4
theorem nmX5 : ∀ a, a < 4 → ∀ b, b < 4 → a ≠ b → (TX5 a).2.1 ≠ (TX5 b).2.1 := by decide +kernel
theorem tyX5_ok : ∀ k, k < 4 → parseFieldDescriptor (TX5 k).2.2.1 = some (tyX5 k) := by decide +kernel
abbrev cX5_init : ByteArray := prog_1_method_1_code
def yX5_init : MethodName := ⟨RX5, "<init>", "()V"⟩
abbrev cX5_form : ByteArray := prog_1_method_2_code
def yX5_form : MethodName := ⟨RX5, "form", "(I)I"⟩
abbrev cX5_checkedForm : ByteArray := prog_1_method_19_code
def yX5_checkedForm : MethodName := ⟨RX5, "checkedForm", "(I)I"⟩
def RX6 : String := "NudgelaneModel"
def TX6 : u_T := fun k => match k with
  | 0 => ("NudgelaneModel", "forms", "[I", true)
  | 1 => ("NudgelaneModel", "digits", "[I", true)
  | 2 => ("NudgelaneModel", "far", "[I", true)
  | 3 => ("NudgelaneModel", "isMet", "[Z", true)
  | 4 => ("NudgelaneModel", "isRight", "[Z", true)
  | 5 => ("NudgelaneModel", "worths", "[I", true)
  | 6 => ("NudgelaneModel", "sums", "[J", true)
  | 7 => ("NudgelaneModel", "counts", "[I", true)
  | 8 => ("NudgelaneModel", "met", "I", false)
  | 9 => ("NudgelaneModel", "begun", "I", false)
  | 10 => ("NudgelaneModel", "at", "I", false)
  | 11 => ("NudgelaneModel", "passings", "I", false)
  | 12 => ("NudgelaneModel", "froms", "[I", true)
  | 13 => ("NudgelaneModel", "tos", "[I", true)
  | 14 => ("NudgelaneModel", "ended", "I", false)
  | 15 => ("NudgelaneModel", "ends", "[I", true)
  | 16 => ("NudgelaneModel", "wasRight", "[Z", true)
  | _ => ("NudgelaneModel", "thrown", "I", false)
def tyX6 : Nat → FieldType := fun k => match k with
  | 0 => .array .int
  | 1 => .array .int
  | 2 => .array .int
  | 3 => .array .boolean
  | 4 => .array .boolean
  | 5 => .array .int
  | 6 => .array .long
  | 7 => .array .int
  | 8 => .int
  | 9 => .int
  | 10 => .int
  | 11 => .int
  | 12 => .array .int
  | 13 => .array .int
  | 14 => .int
  | 15 => .array .int
  | 16 => .array .boolean
  | _ => .int
abbrev wsX60 : List Cond := u_ws RX6 TX6 18
theorem nmX6 : ∀ a, a < 18 → ∀ b, b < 18 → a ≠ b → (TX6 a).2.1 ≠ (TX6 b).2.1 := by decide +kernel
theorem tyX6_ok : ∀ k, k < 18 → parseFieldDescriptor (TX6 k).2.2.1 = some (tyX6 k) := by decide +kernel
abbrev cX6_init : ByteArray := prog_8_method_1_code
def yX6_init : MethodName := ⟨RX6, "<init>", "()V"⟩
abbrev cX6_fits : ByteArray := prog_8_method_5_code
def yX6_fits : MethodName := ⟨RX6, "fits", "(III)Z"⟩
abbrev cX6_uses : ByteArray := prog_8_method_6_code
def yX6_uses : MethodName := ⟨RX6, "uses", "()Z"⟩
abbrev cX6_formed : ByteArray := prog_8_method_7_code
def yX6_formed : MethodName := ⟨RX6, "formed", "(I)I"⟩
def RL : String := "NudgelaneLaw"
abbrev cL_form : ByteArray := method_3_code
def yL_form : MethodName := ⟨RL, "form", "(LNudgelane;I[J)I"⟩
abbrev cL_law : ByteArray := code
def wsX2_init : List Cond := .code yX2_init cX2_init 2 none :: ([.methodLink RX2 1 objectInit, .instanceMethod objectInit, .code objectInit ⟨#[0xb1]⟩ 1 none, .arrayClass .int, .fieldLink RX2 7 "Nudgelane$Row" "cells" "[I"] ++ wsX20)
def wsX0_init : List Cond := .code yX0_init cX0_init 1 none :: ([.methodLink RX0 3 objectInit, .instanceMethod objectInit, .code objectInit ⟨#[0xb1]⟩ 1 none, .classLink RX0 9 RX2, .instantiable RX2 1, .initialized RX2, .fieldLink RX0 14 "Nudgelane$Attempts" "froms" "LNudgelane$Row;", .fieldLink RX0 20 "Nudgelane$Attempts" "tos" "LNudgelane$Row;", .fieldLink RX0 23 "Nudgelane$Attempts" "leavings" "LNudgelane$Row;", .fieldLink RX0 26 "Nudgelane$Attempts" "rightEnds" "LNudgelane$Row;", .fieldLink RX0 29 "Nudgelane$Attempts" "metMarks" "LNudgelane$Row;", .fieldLink RX0 32 "Nudgelane$Attempts" "metForms" "LNudgelane$Row;", .fieldLink RX0 35 "Nudgelane$Attempts" "here" "I", .methodLink RX0 11 yX2_init, .instanceMethod yX2_init, .code yX2_init cX2_init 2 none, .methodLink RX2 1 objectInit, .arrayClass .int, .fieldLink RX2 7 "Nudgelane$Row" "cells" "[I"] ++ wsX20 ++ wsX00)
def wsX2_get : List Cond := .code yX2_get cX2_get 2 (some .int) :: ([.fieldLink RX2 7 "Nudgelane$Row" "cells" "[I"] ++ wsX20)
def wsX2_set : List Cond := .code yX2_set cX2_set 3 none :: ([.fieldLink RX2 7 "Nudgelane$Row" "cells" "[I"] ++ wsX20)
def wsX2_add : List Cond := .code yX2_add cX2_add 3 none :: ([.methodLink RX2 13 yX2_get, .instanceMethod yX2_get, .selects RX2 yX2_get yX2_get, .initialized RX2, .code yX2_get cX2_get 2 (some .int), .fieldLink RX2 7 "Nudgelane$Row" "cells" "[I", .methodLink RX2 17 yX2_set, .instanceMethod yX2_set, .selects RX2 yX2_set yX2_set, .code yX2_set cX2_set 3 none] ++ wsX20)
def wsX1_unpack : List Cond := .code yX1_unpack cX1_unpack 4 none :: ([.methodLink RX1 24 yX2_set, .instanceMethod yX2_set, .selects RX2 yX2_set yX2_set, .initialized RX2, .code yX2_set cX2_set 3 none, .fieldLink RX2 7 "Nudgelane$Row" "cells" "[I"] ++ wsX20)
def wsX1_isUsable : List Cond := .code yX1_isUsable cX1_isUsable 3 (some .boolean) :: ([])
def wsX1_use : List Cond := .code yX1_use cX1_use 5 none :: ([.methodLink RX1 28 yX2_get, .instanceMethod yX2_get, .selects RX2 yX2_get yX2_get, .initialized RX2, .code yX2_get cX2_get 2 (some .int), .fieldLink RX2 7 "Nudgelane$Row" "cells" "[I", .methodLink RX1 24 yX2_set, .instanceMethod yX2_set, .selects RX2 yX2_set yX2_set, .code yX2_set cX2_set 3 none] ++ wsX20)
def wsX1_rewriteOnce : List Cond := .code yX1_rewriteOnce cX1_rewriteOnce 3 (some .boolean) :: ([.methodLink RX1 28 yX2_get, .instanceMethod yX2_get, .selects RX2 yX2_get yX2_get, .initialized RX2, .code yX2_get cX2_get 2 (some .int), .fieldLink RX2 7 "Nudgelane$Row" "cells" "[I", .methodLink RX1 54 yX1_isUsable, .static yX1_isUsable, .initialized RX1, .code yX1_isUsable cX1_isUsable 3 (some .boolean), .methodLink RX1 58 yX1_use, .static yX1_use, .code yX1_use cX1_use 5 none, .methodLink RX1 24 yX2_set, .instanceMethod yX2_set, .selects RX2 yX2_set yX2_set, .code yX2_set cX2_set 3 none] ++ wsX20)
def wsX1_pack : List Cond := .code yX1_pack cX1_pack 3 (some .int) :: ([.methodLink RX1 28 yX2_get, .instanceMethod yX2_get, .selects RX2 yX2_get yX2_get, .initialized RX2, .code yX2_get cX2_get 2 (some .int), .fieldLink RX2 7 "Nudgelane$Row" "cells" "[I"] ++ wsX20)
def wsX1_reduce_r1 : List Cond := [Cond.methodLink RX1 42 yX1_unpack, Cond.static yX1_unpack, Cond.initialized RX1, Cond.code yX1_unpack cX1_unpack 4 none, Cond.methodLink RX1 24 yX2_set, Cond.instanceMethod yX2_set, Cond.selects RX2 yX2_set yX2_set, Cond.initialized RX2, Cond.code yX2_set cX2_set 3 none, Cond.fieldLink RX2 7 "Nudgelane$Row" "cells" "[I", Cond.methodLink RX1 46 yX1_rewriteOnce, Cond.static yX1_rewriteOnce, Cond.code yX1_rewriteOnce cX1_rewriteOnce 3 (some .boolean), Cond.methodLink RX1 28 yX2_get, Cond.instanceMethod yX2_get, Cond.selects RX2 yX2_get yX2_get, Cond.code yX2_get cX2_get 2 (some .int), Cond.methodLink RX1 54 yX1_isUsable, Cond.static yX1_isUsable, Cond.code yX1_isUsable cX1_isUsable 3 (some .boolean), Cond.methodLink RX1 58 yX1_use, Cond.static yX1_use, Cond.code yX1_use cX1_use 5 none, Cond.methodLink RX1 50 yX1_pack]
def wsX1_reduce_r2 : List Cond := [Cond.static yX1_pack, Cond.code yX1_pack cX1_pack 3 (some .int)]
def wsX1_reduce : List Cond := .code yX1_reduce cX1_reduce 4 (some .int) :: ((wsX1_reduce_r1 ++ wsX1_reduce_r2) ++ wsX20)
def wsX1_init_r1 : List Cond := [Cond.methodLink RX1 3 objectInit, Cond.instanceMethod objectInit, Cond.code objectInit ⟨#[0xb1]⟩ 1 none, Cond.classLink RX1 9 RX2, Cond.instantiable RX2 1, Cond.initialized RX2, Cond.fieldLink RX1 14 "Nudgelane$Programs" "forms" "LNudgelane$Row;", Cond.methodLink RX1 11 yX2_init, Cond.instanceMethod yX2_init, Cond.code yX2_init cX2_init 2 none, Cond.methodLink RX2 1 objectInit, Cond.arrayClass .int, Cond.fieldLink RX2 7 "Nudgelane$Row" "cells" "[I", Cond.methodLink RX1 20 yX1_reduce, Cond.static yX1_reduce, Cond.initialized RX1, Cond.code yX1_reduce cX1_reduce 4 (some .int), Cond.methodLink RX1 42 yX1_unpack, Cond.static yX1_unpack, Cond.code yX1_unpack cX1_unpack 4 none, Cond.methodLink RX1 24 yX2_set, Cond.instanceMethod yX2_set, Cond.selects RX2 yX2_set yX2_set, Cond.code yX2_set cX2_set 3 none]
def wsX1_init_r2 : List Cond := [Cond.methodLink RX1 46 yX1_rewriteOnce, Cond.static yX1_rewriteOnce, Cond.code yX1_rewriteOnce cX1_rewriteOnce 3 (some .boolean), Cond.methodLink RX1 28 yX2_get, Cond.instanceMethod yX2_get, Cond.selects RX2 yX2_get yX2_get, Cond.code yX2_get cX2_get 2 (some .int), Cond.methodLink RX1 54 yX1_isUsable, Cond.static yX1_isUsable, Cond.code yX1_isUsable cX1_isUsable 3 (some .boolean), Cond.methodLink RX1 58 yX1_use, Cond.static yX1_use, Cond.code yX1_use cX1_use 5 none, Cond.methodLink RX1 50 yX1_pack, Cond.static yX1_pack, Cond.code yX1_pack cX1_pack 3 (some .int)]
def wsX1_init : List Cond := .code yX1_init cX1_init 3 none :: ((wsX1_init_r1 ++ wsX1_init_r2) ++ wsX20 ++ wsX10)
def wsX1_weightOf : List Cond := .code yX1_weightOf cX1_weightOf 3 (some .int) :: ([])
def wsX1_without : List Cond := .code yX1_without cX1_without 3 (some .int) :: ([.methodLink RX1 36 yX1_weightOf, .static yX1_weightOf, .initialized RX1, .code yX1_weightOf cX1_weightOf 3 (some .int)])
def wsX3_init : List Cond := .code yX3_init cX3_init 1 none :: ([.methodLink RX3 3 objectInit, .instanceMethod objectInit, .code objectInit ⟨#[0xb1]⟩ 1 none, .classLink RX3 9 RX2, .instantiable RX2 1, .initialized RX2, .fieldLink RX3 14 "Nudgelane$Ways" "known" "LNudgelane$Row;", .fieldLink RX3 20 "Nudgelane$Ways" "queue" "LNudgelane$Row;", .methodLink RX3 11 yX2_init, .instanceMethod yX2_init, .code yX2_init cX2_init 2 none, .methodLink RX2 1 objectInit, .arrayClass .int, .fieldLink RX2 7 "Nudgelane$Row" "cells" "[I"] ++ wsX20 ++ wsX30)
def wsX4_init : List Cond := .code yX4_init cX4_init 1 none :: ([.methodLink RX4 3 objectInit, .instanceMethod objectInit, .code objectInit ⟨#[0xb1]⟩ 1 none, .classLink RX4 9 RX2, .instantiable RX2 1, .initialized RX2, .fieldLink RX4 14 "Nudgelane$Worths" "worthNow" "LNudgelane$Row;", .fieldLink RX4 20 "Nudgelane$Worths" "sums" "LNudgelane$Row;", .methodLink RX4 11 yX2_init, .instanceMethod yX2_init, .code yX2_init cX2_init 2 none, .methodLink RX2 1 objectInit, .arrayClass .int, .fieldLink RX2 7 "Nudgelane$Row" "cells" "[I"] ++ wsX20 ++ wsX40)
def wsX5_init_r1 : List Cond := [Cond.methodLink RX5 1 objectInit, Cond.instanceMethod objectInit, Cond.code objectInit ⟨#[0xb1]⟩ 1 none, Cond.classLink RX5 7 RX1, Cond.instantiable RX1 1, Cond.initialized RX1, Cond.fieldLink RX5 10 "Nudgelane" "programs" "LNudgelane$Programs;", Cond.classLink RX5 16 RX3, Cond.instantiable RX3 2, Cond.initialized RX3, Cond.fieldLink RX5 19 "Nudgelane" "ways" "LNudgelane$Ways;", Cond.classLink RX5 23 RX0, Cond.instantiable RX0 11, Cond.initialized RX0, Cond.fieldLink RX5 26 "Nudgelane" "attempts" "LNudgelane$Attempts;", Cond.classLink RX5 30 RX4, Cond.instantiable RX4 2, Cond.initialized RX4, Cond.fieldLink RX5 33 "Nudgelane" "worths" "LNudgelane$Worths;", Cond.methodLink RX5 9 yX1_init, Cond.instanceMethod yX1_init, Cond.code yX1_init cX1_init 3 none, Cond.methodLink RX1 3 objectInit, Cond.classLink RX1 9 RX2]
def wsX5_init_r2 : List Cond := [Cond.instantiable RX2 1, Cond.initialized RX2, Cond.fieldLink RX1 14 "Nudgelane$Programs" "forms" "LNudgelane$Row;", Cond.methodLink RX1 11 yX2_init, Cond.instanceMethod yX2_init, Cond.code yX2_init cX2_init 2 none, Cond.methodLink RX2 1 objectInit, Cond.arrayClass .int, Cond.fieldLink RX2 7 "Nudgelane$Row" "cells" "[I", Cond.methodLink RX1 20 yX1_reduce, Cond.static yX1_reduce, Cond.code yX1_reduce cX1_reduce 4 (some .int), Cond.methodLink RX1 42 yX1_unpack, Cond.static yX1_unpack, Cond.code yX1_unpack cX1_unpack 4 none, Cond.methodLink RX1 24 yX2_set, Cond.instanceMethod yX2_set, Cond.selects RX2 yX2_set yX2_set, Cond.code yX2_set cX2_set 3 none, Cond.methodLink RX1 46 yX1_rewriteOnce, Cond.static yX1_rewriteOnce, Cond.code yX1_rewriteOnce cX1_rewriteOnce 3 (some .boolean), Cond.methodLink RX1 28 yX2_get, Cond.instanceMethod yX2_get]
def wsX5_init_r3 : List Cond := [Cond.selects RX2 yX2_get yX2_get, Cond.code yX2_get cX2_get 2 (some .int), Cond.methodLink RX1 54 yX1_isUsable, Cond.static yX1_isUsable, Cond.code yX1_isUsable cX1_isUsable 3 (some .boolean), Cond.methodLink RX1 58 yX1_use, Cond.static yX1_use, Cond.code yX1_use cX1_use 5 none, Cond.methodLink RX1 50 yX1_pack, Cond.static yX1_pack, Cond.code yX1_pack cX1_pack 3 (some .int), Cond.methodLink RX5 18 yX3_init, Cond.instanceMethod yX3_init, Cond.code yX3_init cX3_init 1 none, Cond.methodLink RX3 3 objectInit, Cond.classLink RX3 9 RX2, Cond.fieldLink RX3 14 "Nudgelane$Ways" "known" "LNudgelane$Row;", Cond.fieldLink RX3 20 "Nudgelane$Ways" "queue" "LNudgelane$Row;", Cond.methodLink RX3 11 yX2_init, Cond.methodLink RX5 25 yX0_init, Cond.instanceMethod yX0_init, Cond.code yX0_init cX0_init 1 none, Cond.methodLink RX0 3 objectInit, Cond.classLink RX0 9 RX2]
def wsX5_init_r4 : List Cond := [Cond.fieldLink RX0 14 "Nudgelane$Attempts" "froms" "LNudgelane$Row;", Cond.fieldLink RX0 20 "Nudgelane$Attempts" "tos" "LNudgelane$Row;", Cond.fieldLink RX0 23 "Nudgelane$Attempts" "leavings" "LNudgelane$Row;", Cond.fieldLink RX0 26 "Nudgelane$Attempts" "rightEnds" "LNudgelane$Row;", Cond.fieldLink RX0 29 "Nudgelane$Attempts" "metMarks" "LNudgelane$Row;", Cond.fieldLink RX0 32 "Nudgelane$Attempts" "metForms" "LNudgelane$Row;", Cond.fieldLink RX0 35 "Nudgelane$Attempts" "here" "I", Cond.methodLink RX0 11 yX2_init, Cond.methodLink RX5 32 yX4_init, Cond.instanceMethod yX4_init, Cond.code yX4_init cX4_init 1 none, Cond.methodLink RX4 3 objectInit, Cond.classLink RX4 9 RX2, Cond.fieldLink RX4 14 "Nudgelane$Worths" "worthNow" "LNudgelane$Row;", Cond.fieldLink RX4 20 "Nudgelane$Worths" "sums" "LNudgelane$Row;", Cond.methodLink RX4 11 yX2_init]
def wsX5_init : List Cond := .code yX5_init cX5_init 1 none :: ((wsX5_init_r1 ++ (wsX5_init_r2 ++ (wsX5_init_r3 ++ wsX5_init_r4))) ++ wsX10 ++ wsX50 ++ wsX30 ++ wsX00 ++ wsX40 ++ wsX20)
def wsX6_fits : List Cond := .code yX6_fits cX6_fits 3 (some .boolean) :: ([])
def wsX6_uses : List Cond := .code yX6_uses cX6_uses 6 (some .boolean) :: ([.fieldLink RX6 13 "NudgelaneModel" "digits" "[I", .methodLink RX6 59 yX6_fits, .static yX6_fits, .initialized RX6, .code yX6_fits cX6_fits 3 (some .boolean)] ++ wsX60)
def wsX6_formed : List Cond := .code yX6_formed cX6_formed 4 (some .int) :: ([.fieldLink RX6 13 "NudgelaneModel" "digits" "[I", .methodLink RX6 63 yX6_uses, .instanceMethod yX6_uses, .selects RX6 yX6_uses yX6_uses, .initialized RX6, .code yX6_uses cX6_uses 6 (some .boolean), .methodLink RX6 59 yX6_fits, .static yX6_fits, .code yX6_fits cX6_fits 3 (some .boolean)] ++ wsX60)
def wsX6_init_r1 : List Cond := [Cond.methodLink RX6 1 objectInit, Cond.instanceMethod objectInit, Cond.code objectInit ⟨#[0xb1]⟩ 1 none, Cond.arrayClass .int, Cond.fieldLink RX6 7 "NudgelaneModel" "forms" "[I", Cond.fieldLink RX6 13 "NudgelaneModel" "digits" "[I", Cond.fieldLink RX6 16 "NudgelaneModel" "far" "[I", Cond.arrayClass .boolean, Cond.fieldLink RX6 19 "NudgelaneModel" "isMet" "[Z", Cond.fieldLink RX6 23 "NudgelaneModel" "isRight" "[Z", Cond.fieldLink RX6 26 "NudgelaneModel" "worths" "[I", Cond.arrayClass .long, Cond.fieldLink RX6 29 "NudgelaneModel" "sums" "[J", Cond.fieldLink RX6 33 "NudgelaneModel" "counts" "[I", Cond.fieldLink RX6 36 "NudgelaneModel" "at" "I", Cond.fieldLink RX6 40 "NudgelaneModel" "froms" "[I", Cond.fieldLink RX6 43 "NudgelaneModel" "tos" "[I", Cond.fieldLink RX6 46 "NudgelaneModel" "ends" "[I", Cond.fieldLink RX6 49 "NudgelaneModel" "wasRight" "[Z", Cond.methodLink RX6 52 yX6_formed, Cond.instanceMethod yX6_formed, Cond.selects RX6 yX6_formed yX6_formed, Cond.initialized RX6, Cond.code yX6_formed cX6_formed 4 (some .int)]
def wsX6_init_r2 : List Cond := [Cond.methodLink RX6 63 yX6_uses, Cond.instanceMethod yX6_uses, Cond.selects RX6 yX6_uses yX6_uses, Cond.code yX6_uses cX6_uses 6 (some .boolean), Cond.methodLink RX6 59 yX6_fits, Cond.static yX6_fits, Cond.code yX6_fits cX6_fits 3 (some .boolean)]
def wsX6_init : List Cond := .code yX6_init cX6_init 2 none :: ((wsX6_init_r1 ++ wsX6_init_r2) ++ wsX60)
abbrev vwCl : List vw_C := [(RX0, TX0, 11), (RX1, TX1, 1), (RX2, TX2, 1), (RX3, TX3, 2), (RX4, TX4, 2), (RX5, TX5, 4), (RX6, TX6, 18)]

