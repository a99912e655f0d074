/-! PRINTED by wip/tools/gen.py out of the task's listing: kinds, fields, methods, code of the abstract machine -/
def tb_F0 : u_T := fun k => match k with
  | 0 => ("FlagMachine", "hand", "LFlagMachine$Instruction;", true)
  | 1 => ("FlagMachine", "filled", "LFlagMachine$Stretch;", true)
  | 2 => ("FlagMachine", "core", "LFlagMachine$Core;", true)
  | 3 => ("FlagMachine", "sums", "LFlagMachine$Sums;", true)
  | 4 => ("FlagMachine", "products", "LFlagMachine$Products;", true)
  | 5 => ("FlagMachine", "bits", "LFlagMachine$Bits;", true)
  | 6 => ("FlagMachine", "moves", "LFlagMachine$Moves;", true)
  | 7 => ("FlagMachine", "services", "LFlagMachine$Services;", true)
  | 8 => ("FlagMachine", "ended", "Z", false)
  | 9 => ("FlagMachine", "steps", "J", false)
  | _ => ("", "", "", false)
def tb_t0 : Nat → FieldType := fun k => match k with
  | 0 => (.object "FlagMachine$Instruction")
  | 1 => (.object "FlagMachine$Stretch")
  | 2 => (.object "FlagMachine$Core")
  | 3 => (.object "FlagMachine$Sums")
  | 4 => (.object "FlagMachine$Products")
  | 5 => (.object "FlagMachine$Bits")
  | 6 => (.object "FlagMachine$Moves")
  | 7 => (.object "FlagMachine$Services")
  | 8 => .boolean
  | 9 => .long
  | _ => .int
def tb_F1 : u_T := fun k => match k with
  | 0 => ("FlagMachine$Instruction", "op", "I", false)
  | 1 => ("FlagMachine$Instruction", "size", "I", false)
  | 2 => ("FlagMachine$Instruction", "condition", "I", false)
  | 3 => ("FlagMachine$Instruction", "kinds", "[I", true)
  | 4 => ("FlagMachine$Instruction", "registers", "[I", true)
  | 5 => ("FlagMachine$Instruction", "base", "I", false)
  | 6 => ("FlagMachine$Instruction", "index", "I", false)
  | 7 => ("FlagMachine$Instruction", "scale", "I", false)
  | 8 => ("FlagMachine$Instruction", "displacement", "I", false)
  | 9 => ("FlagMachine$Instruction", "number", "J", false)
  | _ => ("", "", "", false)
def tb_t1 : Nat → FieldType := fun k => match k with
  | 0 => .int
  | 1 => .int
  | 2 => .int
  | 3 => (.array .int)
  | 4 => (.array .int)
  | 5 => .int
  | 6 => .int
  | 7 => .int
  | 8 => .int
  | 9 => .long
  | _ => .int
def tb_F2 : u_T := fun k => match k with
  | 0 => ("FlagMachine$Stretch", "pages", "[LFlagMachine$Page;", true)
  | 1 => ("FlagMachine$Stretch", "newest", "LFlagMachine$Page;", false)
  | _ => ("", "", "", false)
def tb_t2 : Nat → FieldType := fun k => match k with
  | 0 => (.array (.object "FlagMachine$Page"))
  | 1 => (.object "FlagMachine$Page")
  | _ => .int
def tb_F3 : u_T := fun k => match k with
  | 0 => ("FlagMachine$Core", "registers", "[J", true)
  | 1 => ("FlagMachine$Core", "flags", "LFlagMachine$Flags;", true)
  | 2 => ("FlagMachine$Core", "memory", "LFlagMachine$Memory;", true)
  | 3 => ("FlagMachine$Core", "hand", "LFlagMachine$Instruction;", true)
  | 4 => ("FlagMachine$Core", "ip", "J", false)
  | 5 => ("FlagMachine$Core", "next", "J", false)
  | 6 => ("FlagMachine$Core", "address", "J", false)
  | 7 => ("FlagMachine$Core", "stop", "I", false)
  | 8 => ("FlagMachine$Core", "stopValue", "J", false)
  | _ => ("", "", "", false)
def tb_t3 : Nat → FieldType := fun k => match k with
  | 0 => (.array .long)
  | 1 => (.object "FlagMachine$Flags")
  | 2 => (.object "FlagMachine$Memory")
  | 3 => (.object "FlagMachine$Instruction")
  | 4 => .long
  | 5 => .long
  | 6 => .long
  | 7 => .int
  | 8 => .long
  | _ => .int
def tb_F4 : u_T := fun k => match k with
  | 0 => ("FlagMachine$Flags", "carry", "Z", false)
  | 1 => ("FlagMachine$Flags", "parity", "Z", false)
  | 2 => ("FlagMachine$Flags", "zero", "Z", false)
  | 3 => ("FlagMachine$Flags", "sign", "Z", false)
  | 4 => ("FlagMachine$Flags", "overflow", "Z", false)
  | _ => ("", "", "", false)
def tb_t4 : Nat → FieldType := fun k => match k with
  | 0 => .boolean
  | 1 => .boolean
  | 2 => .boolean
  | 3 => .boolean
  | 4 => .boolean
  | _ => .int
def tb_F5 : u_T := fun k => match k with
  | 0 => ("FlagMachine$Memory", "cells", "LFlagMachine$Stretch;", true)
  | 1 => ("FlagMachine$Memory", "starts", "[I", true)
  | 2 => ("FlagMachine$Memory", "ends", "[I", true)
  | _ => ("", "", "", false)
def tb_t5 : Nat → FieldType := fun k => match k with
  | 0 => (.object "FlagMachine$Stretch")
  | 1 => (.array .int)
  | 2 => (.array .int)
  | _ => .int
def tb_F6 : u_T := fun k => match k with
  | 0 => ("FlagMachine$Sums", "core", "LFlagMachine$Core;", true)
  | 1 => ("FlagMachine$Sums", "flags", "LFlagMachine$Flags;", true)
  | 2 => ("FlagMachine$Sums", "hand", "LFlagMachine$Instruction;", true)
  | _ => ("", "", "", false)
def tb_t6 : Nat → FieldType := fun k => match k with
  | 0 => (.object "FlagMachine$Core")
  | 1 => (.object "FlagMachine$Flags")
  | 2 => (.object "FlagMachine$Instruction")
  | _ => .int
def tb_F7 : u_T := fun k => match k with
  | 0 => ("FlagMachine$Products", "core", "LFlagMachine$Core;", true)
  | 1 => ("FlagMachine$Products", "hand", "LFlagMachine$Instruction;", true)
  | 2 => ("FlagMachine$Products", "lower", "J", false)
  | 3 => ("FlagMachine$Products", "upper", "J", false)
  | 4 => ("FlagMachine$Products", "quotient", "J", false)
  | 5 => ("FlagMachine$Products", "rest", "J", false)
  | _ => ("", "", "", false)
def tb_t7 : Nat → FieldType := fun k => match k with
  | 0 => (.object "FlagMachine$Core")
  | 1 => (.object "FlagMachine$Instruction")
  | 2 => .long
  | 3 => .long
  | 4 => .long
  | 5 => .long
  | _ => .int
def tb_F8 : u_T := fun k => match k with
  | 0 => ("FlagMachine$Bits", "core", "LFlagMachine$Core;", true)
  | 1 => ("FlagMachine$Bits", "flags", "LFlagMachine$Flags;", true)
  | 2 => ("FlagMachine$Bits", "hand", "LFlagMachine$Instruction;", true)
  | _ => ("", "", "", false)
def tb_t8 : Nat → FieldType := fun k => match k with
  | 0 => (.object "FlagMachine$Core")
  | 1 => (.object "FlagMachine$Flags")
  | 2 => (.object "FlagMachine$Instruction")
  | _ => .int
def tb_F9 : u_T := fun k => match k with
  | 0 => ("FlagMachine$Moves", "core", "LFlagMachine$Core;", true)
  | 1 => ("FlagMachine$Moves", "hand", "LFlagMachine$Instruction;", true)
  | _ => ("", "", "", false)
def tb_t9 : Nat → FieldType := fun k => match k with
  | 0 => (.object "FlagMachine$Core")
  | 1 => (.object "FlagMachine$Instruction")
  | _ => .int
def tb_F10 : u_T := fun k => match k with
  | 0 => ("FlagMachine$Services", "core", "LFlagMachine$Core;", true)
  | 1 => ("FlagMachine$Services", "incoming", "LFlagMachine$Stretch;", true)
  | 2 => ("FlagMachine$Services", "outgoing", "LFlagMachine$Stretch;", true)
  | 3 => ("FlagMachine$Services", "first", "I", false)
  | 4 => ("FlagMachine$Services", "waiting", "I", false)
  | 5 => ("FlagMachine$Services", "sent", "I", false)
  | _ => ("", "", "", false)
def tb_t10 : Nat → FieldType := fun k => match k with
  | 0 => (.object "FlagMachine$Core")
  | 1 => (.object "FlagMachine$Stretch")
  | 2 => (.object "FlagMachine$Stretch")
  | 3 => .int
  | 4 => .int
  | 5 => .int
  | _ => .int
def tb_F11 : u_T := fun k => match k with
  | 0 => ("FlagMachine$Page", "number", "I", true)
  | 1 => ("FlagMachine$Page", "older", "LFlagMachine$Page;", true)
  | 2 => ("FlagMachine$Page", "cells", "[B", true)
  | _ => ("", "", "", false)
def tb_t11 : Nat → FieldType := fun k => match k with
  | 0 => .int
  | 1 => (.object "FlagMachine$Page")
  | 2 => (.array .byte)
  | _ => .int
def tb_F12 : u_T := fun k => match k with
  | 0 => ("FlagMachineModel", "thrown", "I", false)
  | 1 => ("FlagMachineModel", "filled", "[B", true)
  | 2 => ("FlagMachineModel", "memory", "[B", true)
  | 3 => ("FlagMachineModel", "heap", "[B", true)
  | 4 => ("FlagMachineModel", "stack", "[B", true)
  | 5 => ("FlagMachineModel", "given", "[B", true)
  | 6 => ("FlagMachineModel", "shown", "[B", true)
  | 7 => ("FlagMachineModel", "end", "I", false)
  | 8 => ("FlagMachineModel", "textEnd", "I", false)
  | 9 => ("FlagMachineModel", "rodataBegin", "I", false)
  | 10 => ("FlagMachineModel", "rodataEnd", "I", false)
  | 11 => ("FlagMachineModel", "dataBegin", "I", false)
  | 12 => ("FlagMachineModel", "dataEnd", "I", false)
  | 13 => ("FlagMachineModel", "heapSize", "I", false)
  | 14 => ("FlagMachineModel", "givenSize", "I", false)
  | 15 => ("FlagMachineModel", "shownSize", "I", false)
  | 16 => ("FlagMachineModel", "registers0", "[J", true)
  | 17 => ("FlagMachineModel", "kept0", "[J", true)
  | 18 => ("FlagMachineModel", "ip", "J", false)
  | 19 => ("FlagMachineModel", "stopValue", "J", false)
  | 20 => ("FlagMachineModel", "stepsDone", "J", false)
  | 21 => ("FlagMachineModel", "carry", "Z", false)
  | 22 => ("FlagMachineModel", "parity", "Z", false)
  | 23 => ("FlagMachineModel", "zero", "Z", false)
  | 24 => ("FlagMachineModel", "negative", "Z", false)
  | 25 => ("FlagMachineModel", "over", "Z", false)
  | 26 => ("FlagMachineModel", "stopKind", "I", false)
  | 27 => ("FlagMachineModel", "halt", "I", false)
  | 28 => ("FlagMachineModel", "haltValue", "J", false)
  | 29 => ("FlagMachineModel", "operandAt", "J", false)
  | 30 => ("FlagMachineModel", "op", "I", false)
  | 31 => ("FlagMachineModel", "width", "I", false)
  | 32 => ("FlagMachineModel", "condition", "I", false)
  | 33 => ("FlagMachineModel", "base", "I", false)
  | 34 => ("FlagMachineModel", "index", "I", false)
  | 35 => ("FlagMachineModel", "scale", "I", false)
  | 36 => ("FlagMachineModel", "displacement", "I", false)
  | 37 => ("FlagMachineModel", "length", "I", false)
  | 38 => ("FlagMachineModel", "number", "J", false)
  | 39 => ("FlagMachineModel", "kinds", "[I", true)
  | 40 => ("FlagMachineModel", "places", "[I", true)
  | _ => ("", "", "", false)
def tb_t12 : Nat → FieldType := fun k => match k with
  | 0 => .int
  | 1 => (.array .byte)
  | 2 => (.array .byte)
  | 3 => (.array .byte)
  | 4 => (.array .byte)
  | 5 => (.array .byte)
  | 6 => (.array .byte)
  | 7 => .int
  | 8 => .int
  | 9 => .int
  | 10 => .int
  | 11 => .int
  | 12 => .int
  | 13 => .int
  | 14 => .int
  | 15 => .int
  | 16 => (.array .long)
  | 17 => (.array .long)
  | 18 => .long
  | 19 => .long
  | 20 => .long
  | 21 => .boolean
  | 22 => .boolean
  | 23 => .boolean
  | 24 => .boolean
  | 25 => .boolean
  | 26 => .int
  | 27 => .int
  | 28 => .long
  | 29 => .long
  | 30 => .int
  | 31 => .int
  | 32 => .int
  | 33 => .int
  | 34 => .int
  | 35 => .int
  | 36 => .int
  | 37 => .int
  | 38 => .long
  | 39 => (.array .int)
  | 40 => (.array .int)
  | _ => .int
abbrev tb_cl : List vw_C := [("FlagMachine", tb_F0, 10), ("FlagMachine$Instruction", tb_F1, 10), ("FlagMachine$Stretch", tb_F2, 2), ("FlagMachine$Core", tb_F3, 9), ("FlagMachine$Flags", tb_F4, 5), ("FlagMachine$Memory", tb_F5, 3), ("FlagMachine$Sums", tb_F6, 3), ("FlagMachine$Products", tb_F7, 6), ("FlagMachine$Bits", tb_F8, 3), ("FlagMachine$Moves", tb_F9, 2), ("FlagMachine$Services", tb_F10, 6), ("FlagMachine$Page", tb_F11, 3), ("FlagMachineModel", tb_F12, 41)]
def tb_fty (ci k : Nat) : FieldType := match ci with
  | 0 => tb_t0 k
  | 1 => tb_t1 k
  | 2 => tb_t2 k
  | 3 => tb_t3 k
  | 4 => tb_t4 k
  | 5 => tb_t5 k
  | 6 => tb_t6 k
  | 7 => tb_t7 k
  | 8 => tb_t8 k
  | 9 => tb_t9 k
  | 10 => tb_t10 k
  | 11 => tb_t11 k
  | 12 => tb_t12 k
  | _ => .int
def tb_dfl (ci : Nat) : List Value := match ci with
  | 0 => [.null, .null, .null, .null, .null, .null, .null, .null, .int 0, .long 0]
  | 1 => [.int 0, .int 0, .int 0, .null, .null, .int 0, .int 0, .int 0, .int 0, .long 0]
  | 2 => [.null, .null]
  | 3 => [.null, .null, .null, .null, .long 0, .long 0, .long 0, .int 0, .long 0]
  | 4 => [.int 0, .int 0, .int 0, .int 0, .int 0]
  | 5 => [.null, .null, .null]
  | 6 => [.null, .null, .null]
  | 7 => [.null, .null, .long 0, .long 0, .long 0, .long 0]
  | 8 => [.null, .null, .null]
  | 9 => [.null, .null]
  | 10 => [.null, .null, .null, .int 0, .int 0, .int 0]
  | 11 => [.int 0, .null, .null]
  | 12 => [.int 0, .null, .null, .null, .null, .null, .null, .int 0, .int 0, .int 0, .int 0, .int 0, .int 0, .int 0, .int 0, .int 0, .null, .null, .long 0, .long 0, .long 0, .int 0, .int 0, .int 0, .int 0, .int 0, .int 0, .int 0, .long 0, .long 0, .int 0, .int 0, .int 0, .int 0, .int 0, .int 0, .int 0, .int 0, .long 0, .null, .null]
  | _ => []
abbrev tb_P : am_P := (tb_fty, tb_dfl)
abbrev tb_tl : List Nat := [0, 1, 3, 15]
abbrev tb_aos : List String := ["FlagMachine$Page"]
def tb_m0 : List am_M := [
  (⟨"FlagMachineLaw", "law", "([I)Z"⟩, code, 4, (some .boolean), (9, 210), 13),
  (⟨"FlagMachine", "<init>", "()V"⟩, prog_1_method_1_code, 1, none, (7, 170), 0),
  (⟨"FlagMachine", "begin", "(IIIIII)Z"⟩, prog_1_method_2_code, 8, (some .boolean), (6, 143), 0),
  (⟨"FlagMachine", "below", "(JJ)Z"⟩, prog_1_method_20_code, 4, (some .boolean), (0, 0), 0),
  (⟨"FlagMachine", "fill", "(IJ)V"⟩, prog_1_method_3_code, 7, none, (4, 87), 0),
  (⟨"FlagMachine", "finish", "(I)I"⟩, prog_1_method_16_code, 2, (some .int), (0, 0), 0),
  (⟨"FlagMachine", "input", "(JI)Z"⟩, prog_1_method_12_code, 4, (some .boolean), (5, 111), 0),
  (⟨"FlagMachine", "maskOf", "(I)J"⟩, prog_1_method_17_code, 1, (some .long), (0, 0), 0),
  (⟨"FlagMachine", "memory", "(IIII)V"⟩, prog_1_method_6_code, 5, none, (0, 0), 0),
  (⟨"FlagMachine", "number", "(J)V"⟩, prog_1_method_7_code, 3, none, (0, 0), 0),
  (⟨"FlagMachine", "op", "(III)V"⟩, prog_1_method_4_code, 5, none, (0, 0), 0),
  (⟨"FlagMachine", "operand", "(III)Z"⟩, prog_1_method_5_code, 4, (some .boolean), (0, 0), 0),
  (⟨"FlagMachine", "output", "(I)I"⟩, prog_1_method_13_code, 2, (some .int), (3, 65), 0),
  (⟨"FlagMachine", "peek", "(J)I"⟩, prog_1_method_14_code, 4, (some .int), (2, 48), 0),
  (⟨"FlagMachine", "poke", "(JI)Z"⟩, prog_1_method_15_code, 5, (some .boolean), (4, 87), 0),
  (⟨"FlagMachine", "register", "(I)J"⟩, prog_1_method_10_code, 2, (some .long), (1, 20), 0)]
def tb_m1 : List am_M := [
  (⟨"FlagMachine", "set", "(IJ)Z"⟩, prog_1_method_11_code, 4, (some .boolean), (0, 0), 0),
  (⟨"FlagMachine", "signed", "(JI)J"⟩, prog_1_method_19_code, 4, (some .long), (0, 0), 0),
  (⟨"FlagMachine", "step", "(I)I"⟩, prog_1_method_8_code, 2, (some .int), (8, 189), 0),
  (⟨"FlagMachine", "topOf", "(I)J"⟩, prog_1_method_18_code, 1, (some .long), (0, 0), 0),
  (⟨"FlagMachine", "value", "()J"⟩, prog_1_method_9_code, 1, (some .long), (0, 0), 0),
  (⟨"FlagMachine$Bits", "<init>", "(LFlagMachine$Core;)V"⟩, prog_2_method_1_code, 2, none, (1, 20), 8),
  (⟨"FlagMachine$Bits", "highestBit", "(J)I"⟩, prog_2_method_8_code, 3, (some .int), (0, 0), 8),
  (⟨"FlagMachine$Bits", "lowestBit", "(J)I"⟩, prog_2_method_7_code, 3, (some .int), (0, 0), 8),
  (⟨"FlagMachine$Bits", "overflowOfOne", "(IJJI)Z"⟩, prog_2_method_5_code, 10, (some .boolean), (1, 20), 8),
  (⟨"FlagMachine$Bits", "perform", "(I)V"⟩, prog_2_method_2_code, 2, none, (7, 168), 8),
  (⟨"FlagMachine$Bits", "search", "(Z)V"⟩, prog_2_method_6_code, 5, none, (6, 140), 8),
  (⟨"FlagMachine$Bits", "shift", "(I)V"⟩, prog_2_method_3_code, 9, none, (6, 140), 8),
  (⟨"FlagMachine$Bits", "shiftOnce", "(IJI)J"⟩, prog_2_method_4_code, 6, (some .long), (1, 20), 8),
  (⟨"FlagMachine$Bits", "testBit", "()V"⟩, prog_2_method_10_code, 5, none, (4, 94), 8),
  (⟨"FlagMachine$Bits", "turnBytes", "()V"⟩, prog_2_method_9_code, 7, none, (6, 140), 8),
  (⟨"FlagMachine$Core", "<init>", "(LFlagMachine$Instruction;)V"⟩, prog_3_method_1_code, 2, none, (3, 67), 3)]
def tb_m2 : List am_M := [
  (⟨"FlagMachine$Core", "fetch", "(II)J"⟩, prog_3_method_9_code, 3, (some .long), (3, 72), 3),
  (⟨"FlagMachine$Core", "load", "(JI)J"⟩, prog_3_method_10_code, 5, (some .long), (2, 48), 3),
  (⟨"FlagMachine$Core", "memoryAddress", "()J"⟩, prog_3_method_4_code, 3, (some .long), (1, 21), 3),
  (⟨"FlagMachine$Core", "part", "(II)J"⟩, prog_3_method_7_code, 3, (some .long), (1, 20), 3),
  (⟨"FlagMachine$Core", "prepare", "(I)V"⟩, prog_3_method_3_code, 2, none, (2, 43), 3),
  (⟨"FlagMachine$Core", "putPart", "(IIJ)V"⟩, prog_3_method_8_code, 5, none, (1, 20), 3),
  (⟨"FlagMachine$Core", "registerOrZero", "(I)J"⟩, prog_3_method_5_code, 2, (some .long), (0, 0), 3),
  (⟨"FlagMachine$Core", "save", "(JIJ)Z"⟩, prog_3_method_12_code, 7, (some .boolean), (4, 90), 3),
  (⟨"FlagMachine$Core", "startAnew", "()V"⟩, prog_3_method_2_code, 1, none, (1, 24), 3),
  (⟨"FlagMachine$Core", "stopWith", "(IJ)V"⟩, prog_3_method_6_code, 4, none, (0, 0), 3),
  (⟨"FlagMachine$Core", "store", "(IIJ)Z"⟩, prog_3_method_11_code, 5, (some .boolean), (5, 116), 3),
  (⟨"FlagMachine$Flags", "<init>", "()V"⟩, prog_4_method_1_code, 1, none, (1, 20), 4),
  (⟨"FlagMachine$Flags", "asWord", "()J"⟩, prog_4_method_3_code, 1, (some .long), (0, 0), 4),
  (⟨"FlagMachine$Flags", "clear", "()V"⟩, prog_4_method_2_code, 1, none, (0, 0), 4),
  (⟨"FlagMachine$Flags", "holds", "(I)Z"⟩, prog_4_method_4_code, 3, (some .boolean), (1, 21), 4),
  (⟨"FlagMachine$Flags", "pairHolds", "(I)Z"⟩, prog_4_method_5_code, 2, (some .boolean), (0, 0), 4)]
def tb_m3 : List am_M := [
  (⟨"FlagMachine$Flags", "tellBits", "(JI)V"⟩, prog_4_method_9_code, 4, none, (2, 44), 4),
  (⟨"FlagMachine$Flags", "tellDifference", "(JJJI)V"⟩, prog_4_method_8_code, 10, none, (2, 44), 4),
  (⟨"FlagMachine$Flags", "tellOversize", "(Z)V"⟩, prog_4_method_10_code, 2, none, (0, 0), 4),
  (⟨"FlagMachine$Flags", "tellResult", "(JI)V"⟩, prog_4_method_6_code, 4, none, (1, 21), 4),
  (⟨"FlagMachine$Flags", "tellSum", "(JJJI)V"⟩, prog_4_method_7_code, 10, none, (2, 44), 4),
  (⟨"FlagMachine$Instruction", "<init>", "()V"⟩, prog_5_method_1_code, 1, none, (1, 20), 1),
  (⟨"FlagMachine$Instruction", "conditionFits", "()Z"⟩, prog_5_method_6_code, 2, (some .boolean), (0, 0), 1),
  (⟨"FlagMachine$Instruction", "has", "(I)Z"⟩, prog_5_method_3_code, 2, (some .boolean), (0, 0), 1),
  (⟨"FlagMachine$Instruction", "isPlace", "(I)Z"⟩, prog_5_method_10_code, 1, (some .boolean), (0, 0), 1),
  (⟨"FlagMachine$Instruction", "isSound", "()Z"⟩, prog_5_method_2_code, 1, (some .boolean), (3, 63), 1),
  (⟨"FlagMachine$Instruction", "memoryFits", "()Z"⟩, prog_5_method_11_code, 1, (some .boolean), (0, 0), 1),
  (⟨"FlagMachine$Instruction", "numberFits", "()Z"⟩, prog_5_method_12_code, 1, (some .boolean), (1, 23), 1),
  (⟨"FlagMachine$Instruction", "onlyOperandFits", "(I)Z"⟩, prog_5_method_9_code, 2, (some .boolean), (1, 20), 1),
  (⟨"FlagMachine$Instruction", "operandsFit", "()Z"⟩, prog_5_method_8_code, 3, (some .boolean), (2, 41), 1),
  (⟨"FlagMachine$Instruction", "registersDiffer", "()Z"⟩, prog_5_method_4_code, 1, (some .boolean), (0, 0), 1),
  (⟨"FlagMachine$Instruction", "sizeFits", "()Z"⟩, prog_5_method_5_code, 1, (some .boolean), (0, 0), 1)]
def tb_m4 : List am_M := [
  (⟨"FlagMachine$Instruction", "thirdFits", "()Z"⟩, prog_5_method_7_code, 1, (some .boolean), (0, 0), 1),
  (⟨"FlagMachine$Memory", "<init>", "()V"⟩, prog_6_method_1_code, 1, none, (2, 47), 5),
  (⟨"FlagMachine$Memory", "breakAddress", "()J"⟩, prog_6_method_5_code, 1, (some .long), (0, 0), 5),
  (⟨"FlagMachine$Memory", "layRow", "(III)V"⟩, prog_6_method_3_code, 4, none, (0, 0), 5),
  (⟨"FlagMachine$Memory", "layRows", "(IIIIII)V"⟩, prog_6_method_2_code, 8, none, (1, 23), 5),
  (⟨"FlagMachine$Memory", "loadImage", "(LFlagMachine$Stretch;I)V"⟩, prog_6_method_4_code, 3, none, (5, 121), 5),
  (⟨"FlagMachine$Memory", "moveBreak", "(J)V"⟩, prog_6_method_6_code, 6, none, (4, 94), 5),
  (⟨"FlagMachine$Memory", "placeFor", "(JII)I"⟩, prog_6_method_7_code, 8, (some .int), (1, 21), 5),
  (⟨"FlagMachine$Memory", "placeOf", "(J)I"⟩, prog_6_method_8_code, 2, (some .int), (0, 0), 5),
  (⟨"FlagMachine$Moves", "<init>", "(LFlagMachine$Core;)V"⟩, prog_7_method_1_code, 2, none, (1, 20), 9),
  (⟨"FlagMachine$Moves", "call", "(J)V"⟩, prog_7_method_10_code, 5, none, (5, 116), 9),
  (⟨"FlagMachine$Moves", "comeBack", "()V"⟩, prog_7_method_12_code, 3, none, (4, 94), 9),
  (⟨"FlagMachine$Moves", "exchange", "()V"⟩, prog_7_method_6_code, 5, none, (6, 140), 9),
  (⟨"FlagMachine$Moves", "jump", "(J)V"⟩, prog_7_method_9_code, 3, none, (0, 0), 9),
  (⟨"FlagMachine$Moves", "leaveFrame", "()V"⟩, prog_7_method_13_code, 5, none, (3, 72), 9),
  (⟨"FlagMachine$Moves", "move", "(J)V"⟩, prog_7_method_3_code, 3, none, (6, 140), 9)]
def tb_m5 : List am_M := [
  (⟨"FlagMachine$Moves", "moveString", "(ZZ)V"⟩, prog_7_method_14_code, 7, none, (5, 116), 9),
  (⟨"FlagMachine$Moves", "perform", "(I)V"⟩, prog_7_method_2_code, 2, none, (7, 164), 9),
  (⟨"FlagMachine$Moves", "popOperand", "()V"⟩, prog_7_method_8_code, 5, none, (6, 140), 9),
  (⟨"FlagMachine$Moves", "pushOperand", "()V"⟩, prog_7_method_7_code, 5, none, (5, 116), 9),
  (⟨"FlagMachine$Moves", "target", "()J"⟩, prog_7_method_11_code, 3, (some .long), (4, 94), 9),
  (⟨"FlagMachine$Moves", "valueIfCondition", "()J"⟩, prog_7_method_5_code, 3, (some .long), (4, 94), 9),
  (⟨"FlagMachine$Moves", "valueOfMove", "(I)J"⟩, prog_7_method_4_code, 2, (some .long), (4, 94), 9),
  (⟨"FlagMachine$Page", "<init>", "(ILFlagMachine$Page;)V"⟩, prog_8_method_1_code, 3, none, (1, 20), 11),
  (⟨"FlagMachine$Products", "<init>", "(LFlagMachine$Core;)V"⟩, prog_9_method_1_code, 2, none, (1, 20), 7),
  (⟨"FlagMachine$Products", "divide", "(Z)V"⟩, prog_9_method_5_code, 6, none, (4, 94), 7),
  (⟨"FlagMachine$Products", "divideSigned", "(JI)Z"⟩, prog_9_method_11_code, 12, (some .boolean), (2, 52), 7),
  (⟨"FlagMachine$Products", "divideUnsigned", "(JI)Z"⟩, prog_9_method_10_code, 10, (some .boolean), (1, 23), 7),
  (⟨"FlagMachine$Products", "highOf", "(JJ)J"⟩, prog_9_method_9_code, 18, (some .long), (1, 20), 7),
  (⟨"FlagMachine$Products", "multiply", "(JJIZ)V"⟩, prog_9_method_8_code, 13, none, (2, 57), 7),
  (⟨"FlagMachine$Products", "multiplyNarrow", "()V"⟩, prog_9_method_4_code, 7, none, (6, 140), 7),
  (⟨"FlagMachine$Products", "multiplyWide", "(Z)V"⟩, prog_9_method_3_code, 5, none, (4, 94), 7)]
def tb_m6 : List am_M := [
  (⟨"FlagMachine$Products", "perform", "(I)V"⟩, prog_9_method_2_code, 2, none, (7, 166), 7),
  (⟨"FlagMachine$Products", "putPair", "(JJ)V"⟩, prog_9_method_6_code, 6, none, (2, 44), 7),
  (⟨"FlagMachine$Products", "signFill", "(JI)J"⟩, prog_9_method_7_code, 3, (some .long), (1, 20), 7),
  (⟨"FlagMachine$Services", "<init>", "(LFlagMachine$Core;)V"⟩, prog_10_method_1_code, 2, none, (2, 47), 10),
  (⟨"FlagMachine$Services", "appendInput", "(JI)Z"⟩, prog_10_method_3_code, 5, (some .boolean), (4, 87), 10),
  (⟨"FlagMachine$Services", "giveOutput", "(JJ)J"⟩, prog_10_method_7_code, 7, (some .long), (5, 124), 10),
  (⟨"FlagMachine$Services", "outputAt", "(I)I"⟩, prog_10_method_4_code, 2, (some .int), (2, 44), 10),
  (⟨"FlagMachine$Services", "serve", "()V"⟩, prog_10_method_5_code, 4, none, (6, 150), 10),
  (⟨"FlagMachine$Services", "startAnew", "()V"⟩, prog_10_method_2_code, 1, none, (0, 0), 10),
  (⟨"FlagMachine$Services", "takeInput", "(JJ)J"⟩, prog_10_method_6_code, 8, (some .long), (4, 87), 10),
  (⟨"FlagMachine$Stretch", "<init>", "(I)V"⟩, prog_11_method_1_code, 2, none, (1, 26), 2),
  (⟨"FlagMachine$Stretch", "becomeStartOf", "(LFlagMachine$Stretch;I)V"⟩, prog_11_method_8_code, 5, none, (4, 97), 2),
  (⟨"FlagMachine$Stretch", "byteAt", "(I)I"⟩, prog_11_method_2_code, 3, (some .int), (1, 22), 2),
  (⟨"FlagMachine$Stretch", "clear", "()V"⟩, prog_11_method_6_code, 2, none, (1, 23), 2),
  (⟨"FlagMachine$Stretch", "clearFrom", "(II)V"⟩, prog_11_method_7_code, 5, none, (3, 70), 2),
  (⟨"FlagMachine$Stretch", "clearPiece", "(II)V"⟩, prog_11_method_12_code, 5, none, (2, 46), 2)]
def tb_m7 : List am_M := [
  (⟨"FlagMachine$Stretch", "copyFrom", "(LFlagMachine$Stretch;III)V"⟩, prog_11_method_9_code, 8, none, (4, 97), 2),
  (⟨"FlagMachine$Stretch", "copyPiece", "(LFlagMachine$Stretch;III)V"⟩, prog_11_method_11_code, 8, none, (3, 70), 2),
  (⟨"FlagMachine$Stretch", "pageAt", "(I)LFlagMachine$Page;"⟩, prog_11_method_13_code, 3, (some (.object "FlagMachine$Page")), (0, 0), 2),
  (⟨"FlagMachine$Stretch", "pageFor", "(I)LFlagMachine$Page;"⟩, prog_11_method_14_code, 3, (some (.object "FlagMachine$Page")), (2, 42), 2),
  (⟨"FlagMachine$Stretch", "putByte", "(II)V"⟩, prog_11_method_3_code, 4, none, (3, 64), 2),
  (⟨"FlagMachine$Stretch", "putWord", "(IIJ)V"⟩, prog_11_method_5_code, 7, none, (3, 64), 2),
  (⟨"FlagMachine$Stretch", "restOfPage", "(I)I"⟩, prog_11_method_10_code, 1, (some .int), (0, 0), 2),
  (⟨"FlagMachine$Stretch", "wordAt", "(II)J"⟩, prog_11_method_4_code, 7, (some .long), (1, 22), 2),
  (⟨"FlagMachine$Sums", "<init>", "(LFlagMachine$Core;)V"⟩, prog_12_method_1_code, 2, none, (1, 20), 6),
  (⟨"FlagMachine$Sums", "compareAndExchange", "()V"⟩, prog_12_method_5_code, 6, none, (6, 140), 6),
  (⟨"FlagMachine$Sums", "perform", "(I)V"⟩, prog_12_method_2_code, 10, none, (6, 140), 6),
  (⟨"FlagMachine$Sums", "resultOf", "(IJJ)J"⟩, prog_12_method_3_code, 8, (some .long), (0, 0), 6),
  (⟨"FlagMachine$Sums", "tellFlags", "(IJJJ)V"⟩, prog_12_method_4_code, 10, none, (3, 73), 6),
  (⟨"FlagMachineModel", "<init>", "()V"⟩, prog_14_method_1_code, 1, none, (2, 49), 12),
  (⟨"FlagMachineModel", "add", "(JJZI)J"⟩, prog_14_method_34_code, 9, (some .long), (2, 47), 12),
  (⟨"FlagMachineModel", "addressNow", "()J"⟩, prog_14_method_26_code, 3, (some .long), (0, 0), 12)]
def tb_m8 : List am_M := [
  (⟨"FlagMachineModel", "anew", "(IIIIII)V"⟩, prog_14_method_3_code, 8, none, (1, 22), 12),
  (⟨"FlagMachineModel", "arithmetic", "(II)V"⟩, prog_14_method_39_code, 9, none, (4, 99), 12),
  (⟨"FlagMachineModel", "begin", "(IIIIII)Z"⟩, prog_14_method_4_code, 8, (some .boolean), (2, 49), 12),
  (⟨"FlagMachineModel", "below", "(JJ)Z"⟩, prog_14_method_42_code, 4, (some .boolean), (0, 0), 12),
  (⟨"FlagMachineModel", "bits", "(II)V"⟩, prog_14_method_54_code, 8, none, (4, 99), 12),
  (⟨"FlagMachineModel", "byteAtPlace", "(I)I"⟩, prog_14_method_19_code, 2, (some .int), (0, 0), 12),
  (⟨"FlagMachineModel", "choose", "(I)V"⟩, prog_14_method_60_code, 6, none, (4, 99), 12),
  (⟨"FlagMachineModel", "cut", "(JI)J"⟩, prog_14_method_24_code, 3, (some .long), (0, 0), 12),
  (⟨"FlagMachineModel", "divide", "(ZI)V"⟩, prog_14_method_47_code, 20, none, (4, 99), 12),
  (⟨"FlagMachineModel", "divideSmall", "(ZIJ)V"⟩, prog_14_method_46_code, 14, none, (1, 24), 12),
  (⟨"FlagMachineModel", "fill", "(IJ)V"⟩, prog_14_method_5_code, 7, none, (0, 0), 12),
  (⟨"FlagMachineModel", "find", "(JZ)I"⟩, prog_14_method_18_code, 10, (some .int), (1, 20), 12),
  (⟨"FlagMachineModel", "flags", "()J"⟩, prog_14_method_37_code, 1, (some .long), (0, 0), 12),
  (⟨"FlagMachineModel", "goes", "(I)V"⟩, prog_14_method_52_code, 4, none, (4, 99), 12),
  (⟨"FlagMachineModel", "heapBegin", "()J"⟩, prog_14_method_17_code, 1, (some .long), (0, 0), 12),
  (⟨"FlagMachineModel", "highSigned", "(JJ)J"⟩, prog_14_method_44_code, 4, (some .long), (1, 37), 12)]
def tb_m9 : List am_M := [
  (⟨"FlagMachineModel", "highUnsigned", "(JJ)J"⟩, prog_14_method_43_code, 18, (some .long), (0, 0), 12),
  (⟨"FlagMachineModel", "input", "(JI)Z"⟩, prog_14_method_65_code, 5, (some .boolean), (0, 0), 12),
  (⟨"FlagMachineModel", "isEither", "(I)Z"⟩, prog_14_method_10_code, 2, (some .boolean), (0, 0), 12),
  (⟨"FlagMachineModel", "isMet", "(I)Z"⟩, prog_14_method_36_code, 5, (some .boolean), (0, 0), 12),
  (⟨"FlagMachineModel", "isNumber", "(IJJ)Z"⟩, prog_14_method_11_code, 6, (some .boolean), (0, 0), 12),
  (⟨"FlagMachineModel", "isPlain", "(I)Z"⟩, prog_14_method_12_code, 2, (some .boolean), (1, 25), 12),
  (⟨"FlagMachineModel", "isSound", "()Z"⟩, prog_14_method_16_code, 4, (some .boolean), (3, 70), 12),
  (⟨"FlagMachineModel", "kindAt", "(I)I"⟩, prog_14_method_27_code, 2, (some .int), (0, 0), 12),
  (⟨"FlagMachineModel", "load", "(JI)J"⟩, prog_14_method_22_code, 8, (some .long), (2, 49), 12),
  (⟨"FlagMachineModel", "may", "(JJZ)Z"⟩, prog_14_method_57_code, 8, (some .boolean), (2, 49), 12),
  (⟨"FlagMachineModel", "memory", "(IIII)V"⟩, prog_14_method_8_code, 5, none, (0, 0), 12),
  (⟨"FlagMachineModel", "memoryFits", "()Z"⟩, prog_14_method_15_code, 2, (some .boolean), (0, 0), 12),
  (⟨"FlagMachineModel", "moves", "(II)V"⟩, prog_14_method_40_code, 7, none, (4, 99), 12),
  (⟨"FlagMachineModel", "multiply", "(ZI)V"⟩, prog_14_method_45_code, 11, none, (4, 99), 12),
  (⟨"FlagMachineModel", "number", "(J)V"⟩, prog_14_method_9_code, 3, none, (0, 0), 12),
  (⟨"FlagMachineModel", "op", "(III)V"⟩, prog_14_method_6_code, 5, none, (0, 0), 12)]
def tb_m10 : List am_M := [
  (⟨"FlagMachineModel", "operand", "(III)Z"⟩, prog_14_method_7_code, 4, (some .boolean), (0, 0), 12),
  (⟨"FlagMachineModel", "operandsFit", "()Z"⟩, prog_14_method_13_code, 5, (some .boolean), (2, 46), 12),
  (⟨"FlagMachineModel", "output", "(I)I"⟩, prog_14_method_66_code, 2, (some .int), (0, 0), 12),
  (⟨"FlagMachineModel", "peek", "(J)I"⟩, prog_14_method_67_code, 4, (some .int), (2, 49), 12),
  (⟨"FlagMachineModel", "perform", "()V"⟩, prog_14_method_59_code, 3, none, (5, 138), 12),
  (⟨"FlagMachineModel", "poke", "(JI)Z"⟩, prog_14_method_68_code, 5, (some .boolean), (2, 49), 12),
  (⟨"FlagMachineModel", "pop", "()J"⟩, prog_14_method_51_code, 3, (some .long), (3, 76), 12),
  (⟨"FlagMachineModel", "product", "(I)V"⟩, prog_14_method_48_code, 9, none, (4, 99), 12),
  (⟨"FlagMachineModel", "push", "(J)V"⟩, prog_14_method_50_code, 3, none, (3, 75), 12),
  (⟨"FlagMachineModel", "put", "(IIJ)V"⟩, prog_14_method_31_code, 5, none, (3, 75), 12),
  (⟨"FlagMachineModel", "register", "(I)J"⟩, prog_14_method_63_code, 2, (some .long), (1, 20), 12),
  (⟨"FlagMachineModel", "registerAt", "(I)I"⟩, prog_14_method_28_code, 2, (some .int), (0, 0), 12),
  (⟨"FlagMachineModel", "service", "()V"⟩, prog_14_method_58_code, 12, none, (3, 76), 12),
  (⟨"FlagMachineModel", "set", "(IJ)Z"⟩, prog_14_method_64_code, 4, (some .boolean), (0, 0), 12),
  (⟨"FlagMachineModel", "setFlags", "(J)V"⟩, prog_14_method_38_code, 3, none, (0, 0), 12),
  (⟨"FlagMachineModel", "setPlace", "(II)V"⟩, prog_14_method_20_code, 3, none, (0, 0), 12)]
def tb_m11 : List am_M := [
  (⟨"FlagMachineModel", "setRegister", "(IIJ)V"⟩, prog_14_method_30_code, 5, none, (0, 0), 12),
  (⟨"FlagMachineModel", "shift", "(II)V"⟩, prog_14_method_49_code, 15, none, (4, 99), 12),
  (⟨"FlagMachineModel", "signed", "(JI)J"⟩, prog_14_method_25_code, 3, (some .long), (0, 0), 12),
  (⟨"FlagMachineModel", "single", "(II)V"⟩, prog_14_method_41_code, 8, none, (4, 99), 12),
  (⟨"FlagMachineModel", "sizeFits", "()Z"⟩, prog_14_method_14_code, 4, (some .boolean), (0, 0), 12),
  (⟨"FlagMachineModel", "spread", "(II)V"⟩, prog_14_method_53_code, 5, none, (1, 24), 12),
  (⟨"FlagMachineModel", "step", "(I)I"⟩, prog_14_method_61_code, 7, (some .int), (6, 160), 12),
  (⟨"FlagMachineModel", "stopWith", "(IJ)V"⟩, prog_14_method_21_code, 4, none, (0, 0), 12),
  (⟨"FlagMachineModel", "store", "(JIJ)V"⟩, prog_14_method_23_code, 7, none, (2, 49), 12),
  (⟨"FlagMachineModel", "strings", "(II)V"⟩, prog_14_method_56_code, 7, none, (3, 76), 12),
  (⟨"FlagMachineModel", "subtract", "(JJZI)J"⟩, prog_14_method_35_code, 9, (some .long), (2, 47), 12),
  (⟨"FlagMachineModel", "take", "(II)J"⟩, prog_14_method_29_code, 4, (some .long), (3, 76), 12),
  (⟨"FlagMachineModel", "together", "(II)V"⟩, prog_14_method_55_code, 9, none, (4, 99), 12),
  (⟨"FlagMachineModel", "upper", "(JI)J"⟩, prog_14_method_32_code, 3, (some .long), (0, 0), 12),
  (⟨"FlagMachineModel", "value", "()J"⟩, prog_14_method_62_code, 1, (some .long), (0, 0), 12),
  (⟨"FlagMachineModel", "zsp", "(JI)V"⟩, prog_14_method_33_code, 6, none, (1, 22), 12)]
def tb_m12 : List am_M := [
  (⟨"java/lang/Long", "bitCount", "(J)I"⟩, prog_15_method_50_code, 2, (some .int), (0, 0), 14),
  (⟨"java/util/Arrays", "fill", "([BB)V"⟩, prog_18_method_109_code, 4, none, (0, 0), 15),
  (⟨"java/util/Arrays", "fill", "([BIIB)V"⟩, prog_18_method_110_code, 5, none, (1, 22), 15),
  (⟨"java/util/Arrays", "fill", "([JJ)V"⟩, prog_18_method_101_code, 5, none, (0, 0), 15),
  (⟨"java/util/Arrays", "rangeCheck", "(III)V"⟩, prog_18_method_30_code, 3, none, (0, 0), 15)]
def tb_ms : List (List am_M) := [tb_m0, tb_m1, tb_m2, tb_m3, tb_m4, tb_m5, tb_m6, tb_m7, tb_m8, tb_m9, tb_m10, tb_m11, tb_m12]
def tb_mt (j : Nat) : am_M := (tb_ms.getD (j / 16) []).getD (j % 16) (⟨"", "", ""⟩, ⟨#[]⟩, 0, none, (0, 0), 0)
def tb_js : List (List (Nat × Nat)) := [[(0, 1), (1, 1), (2, 7), (0, 2), (2, 3), (2, 2), (2, 3), (0, 1), (2, 5), (2, 2), (2, 4), (2, 4), (2, 2), (2, 2), (2, 3), (2, 2)], [(2, 3), (0, 2), (2, 2), (0, 1), (2, 1), (1, 2), (0, 1), (0, 1), (2, 5), (2, 2), (2, 2), (2, 2), (0, 3), (2, 1), (2, 1), (1, 2)], [(2, 3), (2, 3), (2, 1), (2, 3), (2, 2), (2, 4), (2, 2), (2, 4), (2, 1), (2, 3), (2, 4), (1, 1), (2, 1), (2, 1), (2, 2), (2, 2)], [(2, 3), (2, 5), (2, 2), (2, 3), (2, 5), (1, 1), (2, 1), (2, 2), (0, 1), (2, 1), (2, 1), (2, 1), (2, 2), (2, 1), (2, 1), (2, 1)], [(2, 1), (1, 1), (2, 1), (2, 4), (2, 7), (2, 3), (2, 2), (2, 4), (0, 1), (1, 2), (2, 2), (2, 1), (2, 1), (2, 2), (2, 1), (2, 2)], [(2, 3), (2, 2), (2, 1), (2, 1), (2, 1), (2, 1), (2, 2), (1, 3), (1, 2), (2, 2), (2, 3), (2, 3), (0, 2), (2, 5), (2, 1), (2, 2)], [(2, 2), (2, 3), (0, 2), (1, 2), (2, 3), (2, 3), (2, 2), (2, 1), (2, 1), (2, 3), (1, 2), (2, 3), (2, 2), (2, 1), (2, 3), (2, 3)], [(2, 5), (2, 5), (2, 2), (2, 2), (2, 3), (2, 4), (0, 1), (2, 3), (1, 2), (2, 1), (2, 2), (2, 4), (2, 5), (1, 1), (2, 5), (2, 1)], [(2, 7), (2, 3), (2, 7), (0, 2), (2, 3), (2, 2), (2, 2), (0, 2), (2, 3), (2, 4), (2, 3), (2, 3), (2, 1), (2, 2), (2, 1), (0, 2)], [(0, 2), (2, 3), (2, 2), (2, 2), (2, 4), (2, 2), (2, 1), (2, 2), (2, 3), (2, 4), (2, 5), (2, 1), (2, 3), (2, 3), (2, 2), (2, 4)], [(2, 4), (2, 1), (2, 2), (2, 2), (2, 1), (2, 3), (2, 1), (2, 2), (2, 2), (2, 4), (2, 2), (2, 2), (2, 1), (2, 3), (2, 2), (2, 3)], [(2, 4), (2, 3), (0, 2), (2, 3), (2, 1), (2, 3), (2, 2), (2, 3), (2, 4), (2, 3), (2, 5), (2, 3), (2, 3), (0, 2), (2, 1), (2, 3)], [(0, 1), (0, 2), (0, 4), (0, 2), (0, 3)]]
def tb_mj (j : Nat) : Nat × Nat := (tb_js.getD (j / 16) []).getD (j % 16) (0, 0)
abbrev tb_nM : Nat := 197
