/-! printed by wip/mjgen.py: the program of this commit for the small machine -/
def pg_T0 : u_T := fun k => match k with
  | 0 => ("ArrayCalculator$Frame", "level", "I", false)
  | 1 => ("ArrayCalculator$Frame", "op", "LArrayCalculator$Op;", false)
  | 2 => ("ArrayCalculator$Frame", "left", "LArrayCalculator$Value;", false)
  | 3 => ("ArrayCalculator$Frame", "right", "LArrayCalculator$Value;", false)
  | 4 => ("ArrayCalculator$Frame", "next", "I", false)
  | 5 => ("ArrayCalculator$Frame", "many", "I", false)
  | _ => ("ArrayCalculator$Frame", "base", "I", false)
def pg_y0 : Nat → FieldType := fun k => match k with
  | 0 => .int
  | 1 => .object "ArrayCalculator$Op"
  | 2 => .object "ArrayCalculator$Value"
  | 3 => .object "ArrayCalculator$Value"
  | 4 => .int
  | 5 => .int
  | _ => .int
def pg_T1 : u_T := fun k => match k with
  | 0 => ("ArrayCalculator$Machine", "known", "LArrayCalculator$Names;", true)
  | 1 => ("ArrayCalculator$Machine", "ones", "LArrayCalculator$OneAct;", true)
  | 2 => ("ArrayCalculator$Machine", "twos", "LArrayCalculator$TwoAct;", true)
  | 3 => ("ArrayCalculator$Machine", "stack", "[LArrayCalculator$Value;", true)
  | 4 => ("ArrayCalculator$Machine", "top", "I", false)
  | 5 => ("ArrayCalculator$Machine", "frames", "[LArrayCalculator$Frame;", true)
  | 6 => ("ArrayCalculator$Machine", "depth", "I", false)
  | 7 => ("ArrayCalculator$Machine", "calls", "I", false)
  | 8 => ("ArrayCalculator$Machine", "outerPlace", "I", false)
  | 9 => ("ArrayCalculator$Machine", "work", "I", false)
  | 10 => ("ArrayCalculator$Machine", "error", "I", false)
  | 11 => ("ArrayCalculator$Machine", "place", "I", false)
  | 12 => ("ArrayCalculator$Machine", "now", "LArrayCalculator$Op;", false)
  | 13 => ("ArrayCalculator$Machine", "x", "LArrayCalculator$Value;", false)
  | 14 => ("ArrayCalculator$Machine", "y", "LArrayCalculator$Value;", false)
  | 15 => ("ArrayCalculator$Machine", "doing", "LArrayCalculator$Op;", false)
  | 16 => ("ArrayCalculator$Machine", "level", "I", false)
  | 17 => ("ArrayCalculator$Machine", "left", "LArrayCalculator$Value;", false)
  | _ => ("ArrayCalculator$Machine", "right", "LArrayCalculator$Value;", false)
def pg_y1 : Nat → FieldType := fun k => match k with
  | 0 => .object "ArrayCalculator$Names"
  | 1 => .object "ArrayCalculator$OneAct"
  | 2 => .object "ArrayCalculator$TwoAct"
  | 3 => .array (.object "ArrayCalculator$Value")
  | 4 => .int
  | 5 => .array (.object "ArrayCalculator$Frame")
  | 6 => .int
  | 7 => .int
  | 8 => .int
  | 9 => .int
  | 10 => .int
  | 11 => .int
  | 12 => .object "ArrayCalculator$Op"
  | 13 => .object "ArrayCalculator$Value"
  | 14 => .object "ArrayCalculator$Value"
  | 15 => .object "ArrayCalculator$Op"
  | 16 => .int
  | 17 => .object "ArrayCalculator$Value"
  | _ => .object "ArrayCalculator$Value"
def pg_T2 : u_T := fun k => match k with
  | 0 => ("ArrayCalculator$Names", "valueKeys", "[J", true)
  | 1 => ("ArrayCalculator$Names", "values", "[LArrayCalculator$Value;", true)
  | 2 => ("ArrayCalculator$Names", "valuesMany", "I", false)
  | 3 => ("ArrayCalculator$Names", "functionKeys", "[J", true)
  | 4 => ("ArrayCalculator$Names", "functions", "[LArrayCalculator$Op;", true)
  | _ => ("ArrayCalculator$Names", "functionsMany", "I", false)
def pg_y2 : Nat → FieldType := fun k => match k with
  | 0 => .array .long
  | 1 => .array (.object "ArrayCalculator$Value")
  | 2 => .int
  | 3 => .array .long
  | 4 => .array (.object "ArrayCalculator$Op")
  | _ => .int
def pg_T3 : u_T := fun k => match k with
  | 0 => ("ArrayCalculator$OneAct", "places", "[I", true)
  | 1 => ("ArrayCalculator$OneAct", "numbers", "[J", true)
  | 2 => ("ArrayCalculator$OneAct", "printer", "LArrayCalculator$Printer;", true)
  | 3 => ("ArrayCalculator$OneAct", "paired", "LArrayCalculator$Paired;", true)
  | _ => ("ArrayCalculator$OneAct", "zero", "LArrayCalculator$Value;", true)
def pg_y3 : Nat → FieldType := fun k => match k with
  | 0 => .array .int
  | 1 => .array .long
  | 2 => .object "ArrayCalculator$Printer"
  | 3 => .object "ArrayCalculator$Paired"
  | _ => .object "ArrayCalculator$Value"
def pg_T4 : u_T := fun k => match k with
  | 0 => ("ArrayCalculator$Op", "deed", "I", false)
  | 1 => ("ArrayCalculator$Op", "place", "I", false)
  | 2 => ("ArrayCalculator$Op", "verb", "I", false)
  | 3 => ("ArrayCalculator$Op", "name", "J", false)
  | 4 => ("ArrayCalculator$Op", "adverbs", "I", false)
  | 5 => ("ArrayCalculator$Op", "adverbsMany", "I", false)
  | 6 => ("ArrayCalculator$Op", "parts", "I", false)
  | 7 => ("ArrayCalculator$Op", "value", "LArrayCalculator$Value;", false)
  | 8 => ("ArrayCalculator$Op", "next", "LArrayCalculator$Op;", false)
  | _ => ("ArrayCalculator$Op", "other", "LArrayCalculator$Op;", false)
def pg_y4 : Nat → FieldType := fun k => match k with
  | 0 => .int
  | 1 => .int
  | 2 => .int
  | 3 => .long
  | 4 => .int
  | 5 => .int
  | 6 => .int
  | 7 => .object "ArrayCalculator$Value"
  | 8 => .object "ArrayCalculator$Op"
  | _ => .object "ArrayCalculator$Op"
def pg_T5 : u_T := fun k => match k with
  | 0 => ("ArrayCalculator$Paired", "verb", "I", false)
  | 1 => ("ArrayCalculator$Paired", "fault", "I", false)
  | 2 => ("ArrayCalculator$Paired", "numbers", "[J", true)
  | 3 => ("ArrayCalculator$Paired", "size", "I", false)
  | 4 => ("ArrayCalculator$Paired", "levels", "I", false)
  | 5 => ("ArrayCalculator$Paired", "numbersMany", "I", false)
  | 6 => ("ArrayCalculator$Paired", "valuesMany", "I", false)
  | 7 => ("ArrayCalculator$Paired", "rowed", "Z", false)
  | 8 => ("ArrayCalculator$Paired", "row", "[J", false)
  | 9 => ("ArrayCalculator$Paired", "vals", "[LArrayCalculator$Value;", false)
  | 10 => ("ArrayCalculator$Paired", "numbersUsed", "I", false)
  | _ => ("ArrayCalculator$Paired", "valuesUsed", "I", false)
def pg_y5 : Nat → FieldType := fun k => match k with
  | 0 => .int
  | 1 => .int
  | 2 => .array .long
  | 3 => .int
  | 4 => .int
  | 5 => .int
  | 6 => .int
  | 7 => .boolean
  | 8 => .array .long
  | 9 => .array (.object "ArrayCalculator$Value")
  | 10 => .int
  | _ => .int
def pg_T6 : u_T := fun k => match k with
  | 0 => ("ArrayCalculator$Printer", "bytes", "[B", true)
  | 1 => ("ArrayCalculator$Printer", "digits", "[B", true)
  | _ => ("ArrayCalculator$Printer", "made", "I", false)
def pg_y6 : Nat → FieldType := fun k => match k with
  | 0 => .array .byte
  | 1 => .array .byte
  | _ => .int
def pg_T7 : u_T := fun k => match k with
  | 0 => ("ArrayCalculator$Reader", "tokens", "LArrayCalculator$Tokens;", true)
  | 1 => ("ArrayCalculator$Reader", "at", "I", false)
  | 2 => ("ArrayCalculator$Reader", "wrong", "I", false)
  | 3 => ("ArrayCalculator$Reader", "lineSort", "I", false)
  | 4 => ("ArrayCalculator$Reader", "lineName", "J", false)
  | 5 => ("ArrayCalculator$Reader", "start", "LArrayCalculator$Op;", false)
  | _ => ("ArrayCalculator$Reader", "tail", "LArrayCalculator$Op;", false)
def pg_y7 : Nat → FieldType := fun k => match k with
  | 0 => .object "ArrayCalculator$Tokens"
  | 1 => .int
  | 2 => .int
  | 3 => .int
  | 4 => .long
  | 5 => .object "ArrayCalculator$Op"
  | _ => .object "ArrayCalculator$Op"
def pg_T8 : u_T := fun k => match k with
  | 0 => ("ArrayCalculator$Tokens", "sorts", "[I", true)
  | 1 => ("ArrayCalculator$Tokens", "places", "[I", true)
  | 2 => ("ArrayCalculator$Tokens", "data", "[J", true)
  | 3 => ("ArrayCalculator$Tokens", "made", "I", false)
  | 4 => ("ArrayCalculator$Tokens", "lastEnd", "I", false)
  | 5 => ("ArrayCalculator$Tokens", "bytes", "[I", true)
  | 6 => ("ArrayCalculator$Tokens", "known", "LArrayCalculator$Names;", true)
  | 7 => ("ArrayCalculator$Tokens", "length", "I", false)
  | _ => ("ArrayCalculator$Tokens", "good", "Z", false)
def pg_y8 : Nat → FieldType := fun k => match k with
  | 0 => .array .int
  | 1 => .array .int
  | 2 => .array .long
  | 3 => .int
  | 4 => .int
  | 5 => .array .int
  | 6 => .object "ArrayCalculator$Names"
  | 7 => .int
  | _ => .boolean
def pg_T9 : u_T := fun k => match k with
  | 0 => ("ArrayCalculator$TwoAct", "paired", "LArrayCalculator$Paired;", true)
  | 1 => ("ArrayCalculator$TwoAct", "places", "[I", true)
  | 2 => ("ArrayCalculator$TwoAct", "numbers", "[J", true)
  | 3 => ("ArrayCalculator$TwoAct", "puts", "[LArrayCalculator$Value;", true)
  | _ => ("ArrayCalculator$TwoAct", "fault", "I", false)
def pg_y9 : Nat → FieldType := fun k => match k with
  | 0 => .object "ArrayCalculator$Paired"
  | 1 => .array .int
  | 2 => .array .long
  | 3 => .array (.object "ArrayCalculator$Value")
  | _ => .int
def pg_T10 : u_T := fun k => match k with
  | 0 => ("ArrayCalculator$Value", "form", "I", true)
  | 1 => ("ArrayCalculator$Value", "num", "J", true)
  | 2 => ("ArrayCalculator$Value", "row", "[J", true)
  | 3 => ("ArrayCalculator$Value", "vals", "[LArrayCalculator$Value;", true)
  | 4 => ("ArrayCalculator$Value", "from", "I", true)
  | 5 => ("ArrayCalculator$Value", "many", "I", true)
  | 6 => ("ArrayCalculator$Value", "cols", "I", true)
  | 7 => ("ArrayCalculator$Value", "size", "I", true)
  | _ => ("ArrayCalculator$Value", "levels", "I", true)
def pg_y10 : Nat → FieldType := fun k => match k with
  | 0 => .int
  | 1 => .long
  | 2 => .array .long
  | 3 => .array (.object "ArrayCalculator$Value")
  | 4 => .int
  | 5 => .int
  | 6 => .int
  | 7 => .int
  | _ => .int
def pg_T11 : u_T := fun k => match k with
  | 0 => ("ArrayCalculator", "tape", "[I", true)
  | 1 => ("ArrayCalculator", "fed", "I", false)
  | 2 => ("ArrayCalculator", "known", "LArrayCalculator$Names;", true)
  | 3 => ("ArrayCalculator", "tokens", "LArrayCalculator$Tokens;", true)
  | 4 => ("ArrayCalculator", "reader", "LArrayCalculator$Reader;", true)
  | 5 => ("ArrayCalculator", "kept", "[LArrayCalculator$Names;", true)
  | 6 => ("ArrayCalculator", "machine", "LArrayCalculator$Machine;", true)
  | 7 => ("ArrayCalculator", "printer", "LArrayCalculator$Printer;", true)
  | 8 => ("ArrayCalculator", "result", "LArrayCalculator$Value;", false)
  | 9 => ("ArrayCalculator", "pointed", "LArrayCalculator$Value;", false)
  | 10 => ("ArrayCalculator", "lineError", "I", false)
  | 11 => ("ArrayCalculator", "linePlace", "I", false)
  | _ => ("ArrayCalculator", "lineWork", "I", false)
def pg_y11 : Nat → FieldType := fun k => match k with
  | 0 => .array .int
  | 1 => .int
  | 2 => .object "ArrayCalculator$Names"
  | 3 => .object "ArrayCalculator$Tokens"
  | 4 => .object "ArrayCalculator$Reader"
  | 5 => .array (.object "ArrayCalculator$Names")
  | 6 => .object "ArrayCalculator$Machine"
  | 7 => .object "ArrayCalculator$Printer"
  | 8 => .object "ArrayCalculator$Value"
  | 9 => .object "ArrayCalculator$Value"
  | 10 => .int
  | 11 => .int
  | _ => .int
def pg_T12 : u_T := fun k => match k with
  | 0 => ("ArrayCalculatorModel", "cell", "[J", true)
  | 1 => ("ArrayCalculatorModel", "from", "[I", true)
  | 2 => ("ArrayCalculatorModel", "shape", "[I", true)
  | 3 => ("ArrayCalculatorModel", "cells", "I", false)
  | 4 => ("ArrayCalculatorModel", "values", "I", false)
  | 5 => ("ArrayCalculatorModel", "error", "I", false)
  | 6 => ("ArrayCalculatorModel", "errorPlace", "I", false)
  | 7 => ("ArrayCalculatorModel", "taken", "I", false)
  | 8 => ("ArrayCalculatorModel", "left", "I", false)
  | 9 => ("ArrayCalculatorModel", "price", "I", false)
  | 10 => ("ArrayCalculatorModel", "calls", "I", false)
  | 11 => ("ArrayCalculatorModel", "callPlace", "I", false)
  | 12 => ("ArrayCalculatorModel", "waiting", "[I", true)
  | 13 => ("ArrayCalculatorModel", "waits", "I", false)
  | 14 => ("ArrayCalculatorModel", "order", "[I", true)
  | 15 => ("ArrayCalculatorModel", "out", "[B", true)
  | 16 => ("ArrayCalculatorModel", "page", "[B", true)
  | 17 => ("ArrayCalculatorModel", "outs", "I", false)
  | 18 => ("ArrayCalculatorModel", "printed", "I", false)
  | 19 => ("ArrayCalculatorModel", "valueKey", "[J", true)
  | 20 => ("ArrayCalculatorModel", "functionKey", "[J", true)
  | 21 => ("ArrayCalculatorModel", "valueOf", "[I", true)
  | 22 => ("ArrayCalculatorModel", "functionOf", "[I", true)
  | 23 => ("ArrayCalculatorModel", "valueMany", "I", false)
  | 24 => ("ArrayCalculatorModel", "functionMany", "I", false)
  | 25 => ("ArrayCalculatorModel", "keptKey", "[J", true)
  | 26 => ("ArrayCalculatorModel", "keptOf", "[I", true)
  | 27 => ("ArrayCalculatorModel", "keptValues", "[I", true)
  | 28 => ("ArrayCalculatorModel", "keptFunctions", "[I", true)
  | 29 => ("ArrayCalculatorModel", "isKept", "[Z", true)
  | 30 => ("ArrayCalculatorModel", "result", "I", false)
  | 31 => ("ArrayCalculatorModel", "pointer", "I", false)
  | 32 => ("ArrayCalculatorModel", "tape", "[B", true)
  | 33 => ("ArrayCalculatorModel", "taped", "I", false)
  | 34 => ("ArrayCalculatorModel", "size", "I", false)
  | 35 => ("ArrayCalculatorModel", "at", "I", false)
  | 36 => ("ArrayCalculatorModel", "isStuck", "Z", false)
  | 37 => ("ArrayCalculatorModel", "actEnd", "I", false)
  | 38 => ("ArrayCalculatorModel", "token", "I", false)
  | 39 => ("ArrayCalculatorModel", "place", "I", false)
  | 40 => ("ArrayCalculatorModel", "sign", "I", false)
  | 41 => ("ArrayCalculatorModel", "datum", "J", false)
  | 42 => ("ArrayCalculatorModel", "telling", "J", false)
  | 43 => ("ArrayCalculatorModel", "what", "[I", true)
  | 44 => ("ArrayCalculatorModel", "first", "[I", true)
  | 45 => ("ArrayCalculatorModel", "second", "[I", true)
  | 46 => ("ArrayCalculatorModel", "third", "[I", true)
  | 47 => ("ArrayCalculatorModel", "nodePlace", "[I", true)
  | 48 => ("ArrayCalculatorModel", "ahead", "[I", true)
  | 49 => ("ArrayCalculatorModel", "keyOf", "[J", true)
  | 50 => ("ArrayCalculatorModel", "nodes", "I", false)
  | 51 => ("ArrayCalculatorModel", "open", "I", false)
  | 52 => ("ArrayCalculatorModel", "bad", "I", false)
  | 53 => ("ArrayCalculatorModel", "form", "I", false)
  | 54 => ("ArrayCalculatorModel", "root", "I", false)
  | 55 => ("ArrayCalculatorModel", "spots", "I", false)
  | 56 => ("ArrayCalculatorModel", "named", "J", false)
  | 57 => ("ArrayCalculatorModel", "amendPlace", "I", false)
  | 58 => ("ArrayCalculatorModel", "x", "I", false)
  | _ => ("ArrayCalculatorModel", "y", "I", false)
def pg_y12 : Nat → FieldType := fun k => match k with
  | 0 => .array .long
  | 1 => .array .int
  | 2 => .array .int
  | 3 => .int
  | 4 => .int
  | 5 => .int
  | 6 => .int
  | 7 => .int
  | 8 => .int
  | 9 => .int
  | 10 => .int
  | 11 => .int
  | 12 => .array .int
  | 13 => .int
  | 14 => .array .int
  | 15 => .array .byte
  | 16 => .array .byte
  | 17 => .int
  | 18 => .int
  | 19 => .array .long
  | 20 => .array .long
  | 21 => .array .int
  | 22 => .array .int
  | 23 => .int
  | 24 => .int
  | 25 => .array .long
  | 26 => .array .int
  | 27 => .array .int
  | 28 => .array .int
  | 29 => .array .boolean
  | 30 => .int
  | 31 => .int
  | 32 => .array .byte
  | 33 => .int
  | 34 => .int
  | 35 => .int
  | 36 => .boolean
  | 37 => .int
  | 38 => .int
  | 39 => .int
  | 40 => .int
  | 41 => .long
  | 42 => .long
  | 43 => .array .int
  | 44 => .array .int
  | 45 => .array .int
  | 46 => .array .int
  | 47 => .array .int
  | 48 => .array .int
  | 49 => .array .long
  | 50 => .int
  | 51 => .int
  | 52 => .int
  | 53 => .int
  | 54 => .int
  | 55 => .int
  | 56 => .long
  | 57 => .int
  | 58 => .int
  | _ => .int
def pg_c5 : List mj_Q := [("ArrayCalculator$Frame", pg_T0, 7, pg_y0), ("ArrayCalculator$Machine", pg_T1, 19, pg_y1), ("ArrayCalculator$Names", pg_T2, 6, pg_y2), ("ArrayCalculator$OneAct", pg_T3, 5, pg_y3), ("ArrayCalculator$Op", pg_T4, 10, pg_y4), ("ArrayCalculator$Paired", pg_T5, 12, pg_y5), ("ArrayCalculator$Printer", pg_T6, 3, pg_y6), ("ArrayCalculator$Reader", pg_T7, 7, pg_y7), ("ArrayCalculator$Tokens", pg_T8, 9, pg_y8), ("ArrayCalculator$TwoAct", pg_T9, 5, pg_y9), ("ArrayCalculator$Value", pg_T10, 9, pg_y10), ("ArrayCalculator", pg_T11, 13, pg_y11), ("ArrayCalculatorModel", pg_T12, 60, pg_y12)]
def pg_tl : List (FieldType × Nat) := [(.int, 0), (.long, 0), (.byte, 0), (.boolean, 0), (.object "ArrayCalculator$Value", 10), (.object "ArrayCalculator$Op", 4), (.object "ArrayCalculator$Names", 2), (.object "ArrayCalculator$Frame", 0)]
def pg_zl : List (Nat × String × String × String) := [(1, "ArrayCalculator", "NO_NUMBERS", "[J")]
def pg_m0 : List mj_MS := [
  ((⟨"ArrayCalculator", "<init>", "()V"⟩, prog_1_method_1_code, 1, (Option.none : Option Jvm.ClassFile.FieldType), 11, true), 3, 11, 0),
  ((⟨"ArrayCalculator$Names", "<init>", "()V"⟩, prog_4_method_1_code, 1, (Option.none : Option Jvm.ClassFile.FieldType), 2, true), 3, 2, 0),
  ((⟨"ArrayCalculator$Tokens", "<init>", "([ILArrayCalculator$Names;)V"⟩, prog_10_method_1_code, 3, (Option.none : Option Jvm.ClassFile.FieldType), 8, true), 3, 8, 2),
  ((⟨"ArrayCalculator$Reader", "<init>", "(LArrayCalculator$Tokens;)V"⟩, prog_9_method_1_code, 2, (Option.none : Option Jvm.ClassFile.FieldType), 7, true), 3, 7, 1),
  ((⟨"ArrayCalculator$Op", "<init>", "(IILArrayCalculator$Op;)V"⟩, prog_6_method_1_code, 4, (Option.none : Option Jvm.ClassFile.FieldType), 4, true), 3, 4, 3),
  ((⟨"ArrayCalculator$Machine", "<init>", "(LArrayCalculator$Names;)V"⟩, prog_3_method_1_code, 3, (Option.none : Option Jvm.ClassFile.FieldType), 1, true), 3, 1, 1),
  ((⟨"ArrayCalculator$OneAct", "<init>", "()V"⟩, prog_5_method_1_code, 1, (Option.none : Option Jvm.ClassFile.FieldType), 3, true), 3, 3, 0),
  ((⟨"ArrayCalculator$Printer", "<init>", "(I)V"⟩, prog_8_method_1_code, 2, (Option.none : Option Jvm.ClassFile.FieldType), 6, true), 3, 6, 1),
  ((⟨"ArrayCalculator$Paired", "<init>", "()V"⟩, prog_7_method_1_code, 1, (Option.none : Option Jvm.ClassFile.FieldType), 5, true), 3, 5, 0),
  ((⟨"ArrayCalculator$Value", "number", "(J)LArrayCalculator$Value;"⟩, prog_12_method_3_code, 2, (Option.some (Jvm.ClassFile.FieldType.object "ArrayCalculator$Value")), 10, false), 2, 0, 1),
  ((⟨"ArrayCalculator$Value", "<init>", "(IJ[JIII)V"⟩, prog_12_method_1_code, 8, (Option.none : Option Jvm.ClassFile.FieldType), 10, true), 3, 10, 6),
  ((⟨"ArrayCalculator$TwoAct", "<init>", "()V"⟩, prog_11_method_1_code, 1, (Option.none : Option Jvm.ClassFile.FieldType), 9, true), 3, 9, 0),
  ((⟨"ArrayCalculator$Frame", "<init>", "()V"⟩, prog_2_method_1_code, 1, (Option.none : Option Jvm.ClassFile.FieldType), 0, true), 3, 0, 0),
  ((⟨"ArrayCalculator", "feed", "(IIIII)I"⟩, prog_1_method_2_code, 6, (Option.some Jvm.ClassFile.FieldType.int), 11, false), 1, 11, 5),
  ((⟨"ArrayCalculator", "putBytes", "(I)V"⟩, prog_1_method_3_code, 3, (Option.none : Option Jvm.ClassFile.FieldType), 11, false), 1, 11, 1),
  ((⟨"ArrayCalculator", "line", "(I)I"⟩, prog_1_method_4_code, 3, (Option.some Jvm.ClassFile.FieldType.int), 11, false), 1, 11, 1),
  ((⟨"ArrayCalculator$Machine", "workLeft", "()I"⟩, prog_3_method_2_code, 1, (Option.some Jvm.ClassFile.FieldType.int), 1, false), 1, 1, 0),
  ((⟨"ArrayCalculator$Tokens", "split", "(I)V"⟩, prog_10_method_2_code, 4, (Option.none : Option Jvm.ClassFile.FieldType), 8, false), 1, 8, 1),
  ((⟨"ArrayCalculator$Tokens", "next", "(I)Z"⟩, prog_10_method_12_code, 5, (Option.some Jvm.ClassFile.FieldType.boolean), 8, false), 1, 8, 1),
  ((⟨"ArrayCalculator$Tokens", "byteAt", "(I)I"⟩, prog_10_method_10_code, 2, (Option.some Jvm.ClassFile.FieldType.int), 8, false), 1, 8, 1),
  ((⟨"ArrayCalculator$Tokens", "sortAt", "(I)I"⟩, prog_10_method_4_code, 2, (Option.some Jvm.ClassFile.FieldType.int), 8, false), 1, 8, 1),
  ((⟨"ArrayCalculator", "isDigit", "(J)Z"⟩, prog_1_method_19_code, 2, (Option.some Jvm.ClassFile.FieldType.boolean), 11, false), 2, 0, 1),
  ((⟨"ArrayCalculator", "isLetter", "(I)Z"⟩, prog_1_method_20_code, 1, (Option.some Jvm.ClassFile.FieldType.boolean), 11, false), 2, 0, 1),
  ((⟨"ArrayCalculator$Tokens", "addNumber", "(II)V"⟩, prog_10_method_14_code, 6, (Option.none : Option Jvm.ClassFile.FieldType), 8, false), 1, 8, 2),
  ((⟨"ArrayCalculator$Tokens", "add", "(IIJI)V"⟩, prog_10_method_11_code, 6, (Option.none : Option Jvm.ClassFile.FieldType), 8, false), 1, 8, 4),
  ((⟨"ArrayCalculator$Tokens", "addName", "(I)V"⟩, prog_10_method_15_code, 5, (Option.none : Option Jvm.ClassFile.FieldType), 8, false), 1, 8, 1),
  ((⟨"ArrayCalculator$Names", "functionOf", "(J)LArrayCalculator$Op;"⟩, prog_4_method_6_code, 4, (Option.some (Jvm.ClassFile.FieldType.object "ArrayCalculator$Op")), 2, false), 1, 2, 1),
  ((⟨"ArrayCalculator$Names", "find", "([JIJ)I"⟩, prog_4_method_12_code, 5, (Option.some Jvm.ClassFile.FieldType.int), 2, false), 2, 0, 3),
  ((⟨"ArrayCalculator$Tokens", "isTold", "(J)Z"⟩, prog_10_method_16_code, 3, (Option.some Jvm.ClassFile.FieldType.boolean), 8, false), 1, 8, 1),
  ((⟨"ArrayCalculator$Tokens", "isName", "(I)Z"⟩, prog_10_method_8_code, 2, (Option.some Jvm.ClassFile.FieldType.boolean), 8, false), 1, 8, 1),
  ((⟨"ArrayCalculator$Tokens", "dataAt", "(I)J"⟩, prog_10_method_6_code, 2, (Option.some Jvm.ClassFile.FieldType.long), 8, false), 1, 8, 1),
  ((⟨"ArrayCalculator$Tokens", "isMark", "(II)Z"⟩, prog_10_method_7_code, 3, (Option.some Jvm.ClassFile.FieldType.boolean), 8, false), 1, 8, 2),
  ((⟨"ArrayCalculator$Tokens", "addText", "(I)Z"⟩, prog_10_method_17_code, 3, (Option.some Jvm.ClassFile.FieldType.boolean), 8, false), 1, 8, 1),
  ((⟨"ArrayCalculator$Tokens", "isTextByte", "(I)Z"⟩, prog_10_method_18_code, 1, (Option.some Jvm.ClassFile.FieldType.boolean), 8, false), 2, 0, 1),
  ((⟨"ArrayCalculator$Tokens", "sortOfByte", "(I)I"⟩, prog_10_method_13_code, 1, (Option.some Jvm.ClassFile.FieldType.int), 8, false), 2, 0, 1),
  ((⟨"ArrayCalculator$Reader", "read", "()Z"⟩, prog_9_method_6_code, 3, (Option.some Jvm.ClassFile.FieldType.boolean), 7, false), 1, 7, 0),
  ((⟨"ArrayCalculator$Reader", "sortOfLine", "()I"⟩, prog_9_method_9_code, 1, (Option.some Jvm.ClassFile.FieldType.int), 7, false), 1, 7, 0),
  ((⟨"ArrayCalculator$Reader", "isAmending", "()Z"⟩, prog_9_method_11_code, 3, (Option.some Jvm.ClassFile.FieldType.boolean), 7, false), 1, 7, 0),
  ((⟨"ArrayCalculator$Reader", "fail", "()LArrayCalculator$Op;"⟩, prog_9_method_7_code, 1, (Option.some (Jvm.ClassFile.FieldType.object "ArrayCalculator$Op")), 7, false), 1, 7, 0),
  ((⟨"ArrayCalculator$Tokens", "placeAt", "(I)I"⟩, prog_10_method_5_code, 2, (Option.some Jvm.ClassFile.FieldType.int), 8, false), 1, 8, 1)
  ]
def pg_m1 : List mj_MS := [
  ((⟨"ArrayCalculator$Reader", "amendment", "()LArrayCalculator$Op;"⟩, prog_9_method_10_code, 2, (Option.some (Jvm.ClassFile.FieldType.object "ArrayCalculator$Op")), 7, false), 1, 7, 0),
  ((⟨"ArrayCalculator$Reader", "expr", "(LArrayCalculator$Op;I)LArrayCalculator$Op;"⟩, prog_9_method_12_code, 6, (Option.some (Jvm.ClassFile.FieldType.object "ArrayCalculator$Op")), 7, false), 1, 7, 2),
  ((⟨"ArrayCalculator$Reader", "isDoes", "()Z"⟩, prog_9_method_13_code, 1, (Option.some Jvm.ClassFile.FieldType.boolean), 7, false), 1, 7, 0),
  ((⟨"ArrayCalculator$Reader", "readDoes", "(LArrayCalculator$Op;)V"⟩, prog_9_method_14_code, 3, (Option.none : Option Jvm.ClassFile.FieldType), 7, false), 1, 7, 1),
  ((⟨"ArrayCalculator$Reader", "noun", "(LArrayCalculator$Op;I)LArrayCalculator$Op;"⟩, prog_9_method_15_code, 7, (Option.some (Jvm.ClassFile.FieldType.object "ArrayCalculator$Op")), 7, false), 1, 7, 2),
  ((⟨"ArrayCalculator$Reader", "base", "(LArrayCalculator$Op;I)LArrayCalculator$Op;"⟩, prog_9_method_18_code, 6, (Option.some (Jvm.ClassFile.FieldType.object "ArrayCalculator$Op")), 7, false), 1, 7, 2),
  ((⟨"ArrayCalculator$Reader", "numbers", "(LArrayCalculator$Op;)LArrayCalculator$Op;"⟩, prog_9_method_19_code, 6, (Option.some (Jvm.ClassFile.FieldType.object "ArrayCalculator$Op")), 7, false), 1, 7, 1),
  ((⟨"ArrayCalculator$Value", "numberRow", "([J)LArrayCalculator$Value;"⟩, prog_12_method_7_code, 1, (Option.some (Jvm.ClassFile.FieldType.object "ArrayCalculator$Value")), 10, false), 2, 0, 1),
  ((⟨"ArrayCalculator$Value", "formOf", "([JII)I"⟩, prog_12_method_9_code, 4, (Option.some Jvm.ClassFile.FieldType.int), 10, false), 2, 0, 3),
  ((⟨"ArrayCalculator$Tokens", "textAt", "(I)LArrayCalculator$Value;"⟩, prog_10_method_9_code, 6, (Option.some (Jvm.ClassFile.FieldType.object "ArrayCalculator$Value")), 8, false), 1, 8, 1),
  ((⟨"ArrayCalculator$Value", "sign", "(J)LArrayCalculator$Value;"⟩, prog_12_method_4_code, 2, (Option.some (Jvm.ClassFile.FieldType.object "ArrayCalculator$Value")), 10, false), 2, 0, 1),
  ((⟨"ArrayCalculator$Value", "row", "(I[J)LArrayCalculator$Value;"⟩, prog_12_method_5_code, 2, (Option.some (Jvm.ClassFile.FieldType.object "ArrayCalculator$Value")), 10, false), 2, 0, 2),
  ((⟨"ArrayCalculator$Reader", "group", "(LArrayCalculator$Op;I)LArrayCalculator$Op;"⟩, prog_9_method_20_code, 6, (Option.some (Jvm.ClassFile.FieldType.object "ArrayCalculator$Op")), 7, false), 1, 7, 2),
  ((⟨"ArrayCalculator$Reader", "skip", "(I)Z"⟩, prog_9_method_8_code, 2, (Option.some Jvm.ClassFile.FieldType.boolean), 7, false), 1, 7, 1),
  ((⟨"ArrayCalculator$Reader", "choice", "(LArrayCalculator$Op;I)LArrayCalculator$Op;"⟩, prog_9_method_21_code, 5, (Option.some (Jvm.ClassFile.FieldType.object "ArrayCalculator$Op")), 7, false), 1, 7, 2),
  ((⟨"ArrayCalculator$Reader", "isIndexed", "()Z"⟩, prog_9_method_16_code, 1, (Option.some Jvm.ClassFile.FieldType.boolean), 7, false), 1, 7, 0),
  ((⟨"ArrayCalculator$Reader", "indexed", "(LArrayCalculator$Op;I)LArrayCalculator$Op;"⟩, prog_9_method_17_code, 4, (Option.some (Jvm.ClassFile.FieldType.object "ArrayCalculator$Op")), 7, false), 1, 7, 2),
  ((⟨"ArrayCalculator$Tokens", "whole", "()Z"⟩, prog_10_method_3_code, 1, (Option.some Jvm.ClassFile.FieldType.boolean), 8, false), 1, 8, 0),
  ((⟨"ArrayCalculator$Reader", "wrongPlace", "()I"⟩, prog_9_method_2_code, 1, (Option.some Jvm.ClassFile.FieldType.int), 7, false), 1, 7, 0),
  ((⟨"ArrayCalculator", "endLine", "(II)V"⟩, prog_1_method_5_code, 3, (Option.none : Option Jvm.ClassFile.FieldType), 11, false), 1, 11, 2),
  ((⟨"ArrayCalculator", "isOneNameMore", "()Z"⟩, prog_1_method_6_code, 2, (Option.some Jvm.ClassFile.FieldType.boolean), 11, false), 1, 11, 0),
  ((⟨"ArrayCalculator$Reader", "sort", "()I"⟩, prog_9_method_3_code, 1, (Option.some Jvm.ClassFile.FieldType.int), 7, false), 1, 7, 0),
  ((⟨"ArrayCalculator$Names", "full", "()Z"⟩, prog_4_method_7_code, 1, (Option.some Jvm.ClassFile.FieldType.boolean), 2, false), 1, 2, 0),
  ((⟨"ArrayCalculator$Reader", "named", "()J"⟩, prog_9_method_4_code, 1, (Option.some Jvm.ClassFile.FieldType.long), 7, false), 1, 7, 0),
  ((⟨"ArrayCalculator$Names", "knows", "(J)Z"⟩, prog_4_method_8_code, 3, (Option.some Jvm.ClassFile.FieldType.boolean), 2, false), 1, 2, 1),
  ((⟨"ArrayCalculator$Names", "valueOf", "(J)LArrayCalculator$Value;"⟩, prog_4_method_5_code, 3, (Option.some (Jvm.ClassFile.FieldType.object "ArrayCalculator$Value")), 2, false), 1, 2, 1),
  ((⟨"ArrayCalculator$Names", "valueAt", "(I)LArrayCalculator$Value;"⟩, prog_4_method_4_code, 2, (Option.some (Jvm.ClassFile.FieldType.object "ArrayCalculator$Value")), 2, false), 1, 2, 1),
  ((⟨"ArrayCalculator$Reader", "first", "()LArrayCalculator$Op;"⟩, prog_9_method_5_code, 1, (Option.some (Jvm.ClassFile.FieldType.object "ArrayCalculator$Op")), 7, false), 1, 7, 0),
  ((⟨"ArrayCalculator$Names", "tell", "(JLArrayCalculator$Op;)V"⟩, prog_4_method_10_code, 5, (Option.none : Option Jvm.ClassFile.FieldType), 2, false), 1, 2, 2),
  ((⟨"ArrayCalculator$Names", "dropValue", "(J)V"⟩, prog_4_method_13_code, 5, (Option.none : Option Jvm.ClassFile.FieldType), 2, false), 1, 2, 1),
  ((⟨"ArrayCalculator$Machine", "run", "(LArrayCalculator$Op;)LArrayCalculator$Value;"⟩, prog_3_method_5_code, 3, (Option.some (Jvm.ClassFile.FieldType.object "ArrayCalculator$Value")), 1, false), 1, 1, 1),
  ((⟨"ArrayCalculator$Machine", "startAdverb", "(LArrayCalculator$Op;LArrayCalculator$Value;LArrayCalculator$Value;)V"⟩, prog_3_method_20_code, 7, (Option.none : Option Jvm.ClassFile.FieldType), 1, false), 1, 1, 3),
  ((⟨"ArrayCalculator$Machine", "take", "(ILArrayCalculator$Op;)Z"⟩, prog_3_method_10_code, 3, (Option.some Jvm.ClassFile.FieldType.boolean), 1, false), 1, 1, 2),
  ((⟨"ArrayCalculator$Machine", "fail", "(ILArrayCalculator$Op;)V"⟩, prog_3_method_9_code, 3, (Option.none : Option Jvm.ClassFile.FieldType), 1, false), 1, 1, 2),
  ((⟨"ArrayCalculator$Op", "adverbAt", "(I)I"⟩, prog_6_method_2_code, 2, (Option.some Jvm.ClassFile.FieldType.int), 4, false), 1, 4, 1),
  ((⟨"ArrayCalculator$Value", "isOne", "()Z"⟩, prog_12_method_15_code, 1, (Option.some Jvm.ClassFile.FieldType.boolean), 10, false), 1, 10, 0),
  ((⟨"ArrayCalculator$Value", "itemAt", "(I)LArrayCalculator$Value;"⟩, prog_12_method_20_code, 2, (Option.some (Jvm.ClassFile.FieldType.object "ArrayCalculator$Value")), 10, false), 1, 10, 1),
  ((⟨"ArrayCalculator$Value", "valueAt", "(I)LArrayCalculator$Value;"⟩, prog_12_method_21_code, 2, (Option.some (Jvm.ClassFile.FieldType.object "ArrayCalculator$Value")), 10, false), 1, 10, 1),
  ((⟨"ArrayCalculator$Value", "numberAt", "(I)J"⟩, prog_12_method_22_code, 2, (Option.some Jvm.ClassFile.FieldType.long), 10, false), 1, 10, 1),
  ((⟨"ArrayCalculator$Machine", "push", "(LArrayCalculator$Value;)V"⟩, prog_3_method_6_code, 2, (Option.none : Option Jvm.ClassFile.FieldType), 1, false), 1, 1, 1)
  ]
def pg_m2 : List mj_MS := [
  ((⟨"ArrayCalculator$Machine", "startCall", "(LArrayCalculator$Op;)V"⟩, prog_3_method_18_code, 4, (Option.none : Option Jvm.ClassFile.FieldType), 1, false), 1, 1, 1),
  ((⟨"ArrayCalculator$Machine", "act", "(LArrayCalculator$Op;)V"⟩, prog_3_method_16_code, 3, (Option.none : Option Jvm.ClassFile.FieldType), 1, false), 1, 1, 1),
  ((⟨"ArrayCalculator$OneAct", "of", "(ILArrayCalculator$Value;)LArrayCalculator$Value;"⟩, prog_5_method_2_code, 3, (Option.some (Jvm.ClassFile.FieldType.object "ArrayCalculator$Value")), 3, false), 1, 3, 2),
  ((⟨"ArrayCalculator$OneAct", "flipped", "(LArrayCalculator$Value;)LArrayCalculator$Value;"⟩, prog_5_method_3_code, 4, (Option.some (Jvm.ClassFile.FieldType.object "ArrayCalculator$Value")), 3, false), 2, 0, 1),
  ((⟨"ArrayCalculator$Value", "numbers", "()I"⟩, prog_12_method_23_code, 1, (Option.some Jvm.ClassFile.FieldType.int), 10, false), 1, 10, 0),
  ((⟨"ArrayCalculator$Value", "table", "([JII)LArrayCalculator$Value;"⟩, prog_12_method_10_code, 3, (Option.some (Jvm.ClassFile.FieldType.object "ArrayCalculator$Value")), 10, false), 2, 0, 3),
  ((⟨"ArrayCalculator$Paired", "ready", "(I)V"⟩, prog_7_method_2_code, 2, (Option.none : Option Jvm.ClassFile.FieldType), 5, false), 1, 5, 1),
  ((⟨"ArrayCalculator$Paired", "ask", "(LArrayCalculator$Value;LArrayCalculator$Value;I)V"⟩, prog_7_method_3_code, 6, (Option.none : Option Jvm.ClassFile.FieldType), 5, false), 1, 5, 3),
  ((⟨"ArrayCalculator$Paired", "askFlat", "(LArrayCalculator$Value;LArrayCalculator$Value;I)V"⟩, prog_7_method_4_code, 9, (Option.none : Option Jvm.ClassFile.FieldType), 5, false), 1, 5, 3),
  ((⟨"ArrayCalculator$Paired", "asked", "(LArrayCalculator$Value;LArrayCalculator$Value;)I"⟩, prog_7_method_9_code, 2, (Option.some Jvm.ClassFile.FieldType.int), 5, false), 2, 0, 2),
  ((⟨"ArrayCalculator$Value", "isRow", "()Z"⟩, prog_12_method_16_code, 1, (Option.some Jvm.ClassFile.FieldType.boolean), 10, false), 1, 10, 0),
  ((⟨"ArrayCalculator$Paired", "outcome", "(LArrayCalculator$Value;LArrayCalculator$Value;I)J"⟩, prog_7_method_10_code, 10, (Option.some Jvm.ClassFile.FieldType.long), 5, false), 1, 5, 3),
  ((⟨"ArrayCalculator$Value", "ofSigns", "()Z"⟩, prog_12_method_17_code, 1, (Option.some Jvm.ClassFile.FieldType.boolean), 10, false), 1, 10, 0),
  ((⟨"ArrayCalculator$Paired", "beyondSum", "(JJ)Z"⟩, prog_7_method_13_code, 4, (Option.some Jvm.ClassFile.FieldType.boolean), 5, false), 2, 0, 2),
  ((⟨"ArrayCalculator$Paired", "beyondDifference", "(JJ)Z"⟩, prog_7_method_14_code, 4, (Option.some Jvm.ClassFile.FieldType.boolean), 5, false), 2, 0, 2),
  ((⟨"ArrayCalculator$Paired", "beyondProduct", "(JJ)Z"⟩, prog_7_method_15_code, 4, (Option.some Jvm.ClassFile.FieldType.boolean), 5, false), 2, 0, 2),
  ((⟨"ArrayCalculator$Paired", "quotient", "(JJ)J"⟩, prog_7_method_11_code, 7, (Option.some Jvm.ClassFile.FieldType.long), 5, false), 1, 5, 2),
  ((⟨"ArrayCalculator$Paired", "rest", "(JJ)J"⟩, prog_7_method_12_code, 7, (Option.some Jvm.ClassFile.FieldType.long), 5, false), 1, 5, 2),
  ((⟨"java/lang/Long", "compare", "(JJ)I"⟩, prog_17_method_42_code, 4, (Option.some Jvm.ClassFile.FieldType.int), 14, false), 2, 0, 2),
  ((⟨"ArrayCalculator", "fitsInt", "(J)Z"⟩, prog_1_method_21_code, 2, (Option.some Jvm.ClassFile.FieldType.boolean), 11, false), 2, 0, 1),
  ((⟨"ArrayCalculator$Paired", "ends", "()Z"⟩, prog_7_method_5_code, 1, (Option.some Jvm.ClassFile.FieldType.boolean), 5, false), 1, 5, 0),
  ((⟨"java/util/Arrays", "copyOf", "([JI)[J"⟩, prog_23_method_124_code, 3, (Option.some (Jvm.ClassFile.FieldType.array Jvm.ClassFile.FieldType.long)), 15, false), 2, 0, 2),
  ((⟨"ArrayCalculator$Paired", "error", "()I"⟩, prog_7_method_6_code, 1, (Option.some Jvm.ClassFile.FieldType.int), 5, false), 1, 5, 0),
  ((⟨"ArrayCalculator$Value", "fault", "(I)LArrayCalculator$Value;"⟩, prog_12_method_14_code, 1, (Option.some (Jvm.ClassFile.FieldType.object "ArrayCalculator$Value")), 10, false), 2, 0, 1),
  ((⟨"ArrayCalculator$Paired", "make", "(LArrayCalculator$Value;LArrayCalculator$Value;)LArrayCalculator$Value;"⟩, prog_7_method_7_code, 7, (Option.some (Jvm.ClassFile.FieldType.object "ArrayCalculator$Value")), 5, false), 1, 5, 2),
  ((⟨"ArrayCalculator$Paired", "makeFlat", "(LArrayCalculator$Value;)LArrayCalculator$Value;"⟩, prog_7_method_8_code, 4, (Option.some (Jvm.ClassFile.FieldType.object "ArrayCalculator$Value")), 5, false), 1, 5, 1),
  ((⟨"ArrayCalculator$Value", "tableAt", "([JIII)LArrayCalculator$Value;"⟩, prog_12_method_11_code, 4, (Option.some (Jvm.ClassFile.FieldType.object "ArrayCalculator$Value")), 10, false), 2, 0, 4),
  ((⟨"ArrayCalculator$Value", "rowAt", "(I[JII)LArrayCalculator$Value;"⟩, prog_12_method_6_code, 4, (Option.some (Jvm.ClassFile.FieldType.object "ArrayCalculator$Value")), 10, false), 2, 0, 4),
  ((⟨"ArrayCalculator$Value", "numberRowAt", "([JII)LArrayCalculator$Value;"⟩, prog_12_method_8_code, 3, (Option.some (Jvm.ClassFile.FieldType.object "ArrayCalculator$Value")), 10, false), 2, 0, 3),
  ((⟨"ArrayCalculator$Value", "nestAt", "([LArrayCalculator$Value;II)LArrayCalculator$Value;"⟩, prog_12_method_13_code, 3, (Option.some (Jvm.ClassFile.FieldType.object "ArrayCalculator$Value")), 10, false), 2, 0, 3),
  ((⟨"ArrayCalculator$Value", "<init>", "([LArrayCalculator$Value;II)V"⟩, prog_12_method_2_code, 7, (Option.none : Option Jvm.ClassFile.FieldType), 10, true), 3, 10, 3),
  ((⟨"ArrayCalculator$OneAct", "where", "(LArrayCalculator$Value;)LArrayCalculator$Value;"⟩, prog_5_method_4_code, 7, (Option.some (Jvm.ClassFile.FieldType.object "ArrayCalculator$Value")), 3, false), 1, 3, 1),
  ((⟨"ArrayCalculator$OneAct", "turned", "(LArrayCalculator$Value;)LArrayCalculator$Value;"⟩, prog_5_method_5_code, 3, (Option.some (Jvm.ClassFile.FieldType.object "ArrayCalculator$Value")), 3, false), 1, 3, 1),
  ((⟨"ArrayCalculator$Value", "pick", "([II)LArrayCalculator$Value;"⟩, prog_12_method_24_code, 6, (Option.some (Jvm.ClassFile.FieldType.object "ArrayCalculator$Value")), 10, false), 1, 10, 2),
  ((⟨"ArrayCalculator$Value", "pickValues", "([II)LArrayCalculator$Value;"⟩, prog_12_method_25_code, 5, (Option.some (Jvm.ClassFile.FieldType.object "ArrayCalculator$Value")), 10, false), 1, 10, 2),
  ((⟨"ArrayCalculator$Value", "pickLines", "([II)LArrayCalculator$Value;"⟩, prog_12_method_26_code, 6, (Option.some (Jvm.ClassFile.FieldType.object "ArrayCalculator$Value")), 10, false), 1, 10, 2),
  ((⟨"ArrayCalculator$OneAct", "ordered", "(ILArrayCalculator$Value;)LArrayCalculator$Value;"⟩, prog_5_method_6_code, 5, (Option.some (Jvm.ClassFile.FieldType.object "ArrayCalculator$Value")), 3, false), 1, 3, 2),
  ((⟨"ArrayCalculator$OneAct", "isAhead", "(IJJ)Z"⟩, prog_5_method_7_code, 5, (Option.some Jvm.ClassFile.FieldType.boolean), 3, false), 2, 0, 3),
  ((⟨"ArrayCalculator$OneAct", "placesMade", "(I)LArrayCalculator$Value;"⟩, prog_5_method_8_code, 4, (Option.some (Jvm.ClassFile.FieldType.object "ArrayCalculator$Value")), 3, false), 1, 3, 1),
  ((⟨"ArrayCalculator$OneAct", "groups", "(LArrayCalculator$Value;)LArrayCalculator$Value;"⟩, prog_5_method_9_code, 9, (Option.some (Jvm.ClassFile.FieldType.object "ArrayCalculator$Value")), 3, false), 1, 3, 1)
  ]
def pg_m3 : List mj_MS := [
  ((⟨"ArrayCalculator$OneAct", "unlikePlaces", "(LArrayCalculator$Value;)I"⟩, prog_5_method_10_code, 5, (Option.some Jvm.ClassFile.FieldType.int), 3, false), 1, 3, 1),
  ((⟨"ArrayCalculator$Value", "nest", "([LArrayCalculator$Value;)LArrayCalculator$Value;"⟩, prog_12_method_12_code, 1, (Option.some (Jvm.ClassFile.FieldType.object "ArrayCalculator$Value")), 10, false), 2, 0, 1),
  ((⟨"ArrayCalculator$OneAct", "unlike", "(LArrayCalculator$Value;)LArrayCalculator$Value;"⟩, prog_5_method_11_code, 5, (Option.some (Jvm.ClassFile.FieldType.object "ArrayCalculator$Value")), 3, false), 1, 3, 1),
  ((⟨"ArrayCalculator$Value", "sameItems", "(LArrayCalculator$Value;ILArrayCalculator$Value;I)Z"⟩, prog_12_method_29_code, 5, (Option.some Jvm.ClassFile.FieldType.boolean), 10, false), 2, 0, 4),
  ((⟨"ArrayCalculator$Value", "same", "(LArrayCalculator$Value;LArrayCalculator$Value;)Z"⟩, prog_12_method_27_code, 3, (Option.some Jvm.ClassFile.FieldType.boolean), 10, false), 2, 0, 2),
  ((⟨"ArrayCalculator$Value", "sameRun", "(LArrayCalculator$Value;ILArrayCalculator$Value;II)Z"⟩, prog_12_method_28_code, 8, (Option.some Jvm.ClassFile.FieldType.boolean), 10, false), 2, 0, 5),
  ((⟨"ArrayCalculator$Value", "sameFlatItem", "(LArrayCalculator$Value;ILArrayCalculator$Value;)Z"⟩, prog_12_method_31_code, 3, (Option.some Jvm.ClassFile.FieldType.boolean), 10, false), 2, 0, 3),
  ((⟨"ArrayCalculator$OneAct", "placesBelow", "(LArrayCalculator$Value;)LArrayCalculator$Value;"⟩, prog_5_method_12_code, 3, (Option.some (Jvm.ClassFile.FieldType.object "ArrayCalculator$Value")), 3, false), 2, 0, 1),
  ((⟨"ArrayCalculator$OneAct", "oneMore", "(LArrayCalculator$Value;)LArrayCalculator$Value;"⟩, prog_5_method_13_code, 3, (Option.some (Jvm.ClassFile.FieldType.object "ArrayCalculator$Value")), 3, false), 1, 3, 1),
  ((⟨"ArrayCalculator$OneAct", "numbersTold", "(LArrayCalculator$Value;)LArrayCalculator$Value;"⟩, prog_5_method_14_code, 6, (Option.some (Jvm.ClassFile.FieldType.object "ArrayCalculator$Value")), 3, false), 1, 3, 1),
  ((⟨"ArrayCalculator$OneAct", "numberEnd", "(LArrayCalculator$Value;I)I"⟩, prog_5_method_15_code, 5, (Option.some Jvm.ClassFile.FieldType.int), 3, false), 2, 0, 2),
  ((⟨"ArrayCalculator$OneAct", "numberOf", "(LArrayCalculator$Value;II)J"⟩, prog_5_method_16_code, 7, (Option.some Jvm.ClassFile.FieldType.long), 3, false), 2, 0, 3),
  ((⟨"ArrayCalculator$OneAct", "shape", "(LArrayCalculator$Value;)LArrayCalculator$Value;"⟩, prog_5_method_17_code, 2, (Option.some (Jvm.ClassFile.FieldType.object "ArrayCalculator$Value")), 3, false), 2, 0, 1),
  ((⟨"ArrayCalculator$OneAct", "text", "(LArrayCalculator$Value;)LArrayCalculator$Value;"⟩, prog_5_method_18_code, 5, (Option.some (Jvm.ClassFile.FieldType.object "ArrayCalculator$Value")), 3, false), 1, 3, 1),
  ((⟨"ArrayCalculator$Printer", "clear", "()V"⟩, prog_8_method_2_code, 1, (Option.none : Option Jvm.ClassFile.FieldType), 6, false), 1, 6, 0),
  ((⟨"ArrayCalculator$Printer", "put", "(LArrayCalculator$Value;)V"⟩, prog_8_method_5_code, 3, (Option.none : Option Jvm.ClassFile.FieldType), 6, false), 1, 6, 1),
  ((⟨"ArrayCalculator$Printer", "putNumber", "(J)V"⟩, prog_8_method_7_code, 6, (Option.none : Option Jvm.ClassFile.FieldType), 6, false), 1, 6, 1),
  ((⟨"ArrayCalculator$Printer", "putSigns", "(LArrayCalculator$Value;)V"⟩, prog_8_method_9_code, 5, (Option.none : Option Jvm.ClassFile.FieldType), 6, false), 1, 6, 1),
  ((⟨"ArrayCalculator$Printer", "add", "(I)V"⟩, prog_8_method_6_code, 2, (Option.none : Option Jvm.ClassFile.FieldType), 6, false), 1, 6, 1),
  ((⟨"ArrayCalculator$Printer", "putNumbers", "(LArrayCalculator$Value;)V"⟩, prog_8_method_8_code, 3, (Option.none : Option Jvm.ClassFile.FieldType), 6, false), 1, 6, 1),
  ((⟨"ArrayCalculator$Printer", "length", "()I"⟩, prog_8_method_3_code, 1, (Option.some Jvm.ClassFile.FieldType.int), 6, false), 1, 6, 0),
  ((⟨"ArrayCalculator$Printer", "byteAt", "(I)I"⟩, prog_8_method_4_code, 2, (Option.some Jvm.ClassFile.FieldType.int), 6, false), 1, 6, 1),
  ((⟨"ArrayCalculator$TwoAct", "of", "(ILArrayCalculator$Value;LArrayCalculator$Value;)LArrayCalculator$Value;"⟩, prog_11_method_2_code, 4, (Option.some (Jvm.ClassFile.FieldType.object "ArrayCalculator$Value")), 9, false), 1, 9, 3),
  ((⟨"ArrayCalculator$TwoAct", "joined", "(LArrayCalculator$Value;LArrayCalculator$Value;)LArrayCalculator$Value;"⟩, prog_11_method_3_code, 5, (Option.some (Jvm.ClassFile.FieldType.object "ArrayCalculator$Value")), 9, false), 2, 0, 2),
  ((⟨"ArrayCalculator$Value", "ofNumbers", "()Z"⟩, prog_12_method_18_code, 1, (Option.some Jvm.ClassFile.FieldType.boolean), 10, false), 1, 10, 0),
  ((⟨"ArrayCalculator$TwoAct", "joinedNumbers", "(LArrayCalculator$Value;LArrayCalculator$Value;)[J"⟩, prog_11_method_4_code, 5, (Option.some (Jvm.ClassFile.FieldType.array Jvm.ClassFile.FieldType.long)), 9, false), 2, 0, 2),
  ((⟨"ArrayCalculator$TwoAct", "taken", "(LArrayCalculator$Value;LArrayCalculator$Value;)LArrayCalculator$Value;"⟩, prog_11_method_5_code, 5, (Option.some (Jvm.ClassFile.FieldType.object "ArrayCalculator$Value")), 9, false), 1, 9, 2),
  ((⟨"ArrayCalculator$TwoAct", "tableTaken", "(JJLArrayCalculator$Value;)LArrayCalculator$Value;"⟩, prog_11_method_6_code, 8, (Option.some (Jvm.ClassFile.FieldType.object "ArrayCalculator$Value")), 9, false), 2, 0, 3),
  ((⟨"ArrayCalculator$TwoAct", "dropped", "(LArrayCalculator$Value;LArrayCalculator$Value;)LArrayCalculator$Value;"⟩, prog_11_method_7_code, 7, (Option.some (Jvm.ClassFile.FieldType.object "ArrayCalculator$Value")), 9, false), 1, 9, 2),
  ((⟨"ArrayCalculator$TwoAct", "found", "(LArrayCalculator$Value;LArrayCalculator$Value;)LArrayCalculator$Value;"⟩, prog_11_method_8_code, 5, (Option.some (Jvm.ClassFile.FieldType.object "ArrayCalculator$Value")), 9, false), 2, 0, 2),
  ((⟨"ArrayCalculator$Value", "sameItem", "(LArrayCalculator$Value;ILArrayCalculator$Value;)Z"⟩, prog_12_method_30_code, 3, (Option.some Jvm.ClassFile.FieldType.boolean), 10, false), 2, 0, 3),
  ((⟨"ArrayCalculator$TwoAct", "at", "(LArrayCalculator$Value;LArrayCalculator$Value;)LArrayCalculator$Value;"⟩, prog_11_method_9_code, 4, (Option.some (Jvm.ClassFile.FieldType.object "ArrayCalculator$Value")), 9, false), 1, 9, 2),
  ((⟨"ArrayCalculator$TwoAct", "placesAsked", "(LArrayCalculator$Value;LArrayCalculator$Value;)I"⟩, prog_11_method_10_code, 2, (Option.some Jvm.ClassFile.FieldType.int), 9, false), 2, 0, 2),
  ((⟨"ArrayCalculator$TwoAct", "placesThere", "(LArrayCalculator$Value;LArrayCalculator$Value;)Z"⟩, prog_11_method_11_code, 6, (Option.some Jvm.ClassFile.FieldType.boolean), 9, false), 1, 9, 2),
  ((⟨"ArrayCalculator$TwoAct", "fit", "(LArrayCalculator$Value;LArrayCalculator$Value;)LArrayCalculator$Value;"⟩, prog_11_method_12_code, 6, (Option.some (Jvm.ClassFile.FieldType.object "ArrayCalculator$Value")), 9, false), 2, 0, 2),
  ((⟨"ArrayCalculator$TwoAct", "without", "(LArrayCalculator$Value;LArrayCalculator$Value;)LArrayCalculator$Value;"⟩, prog_11_method_13_code, 6, (Option.some (Jvm.ClassFile.FieldType.object "ArrayCalculator$Value")), 9, false), 1, 9, 2),
  ((⟨"ArrayCalculator$TwoAct", "inner", "(LArrayCalculator$Value;LArrayCalculator$Value;)LArrayCalculator$Value;"⟩, prog_11_method_14_code, 11, (Option.some (Jvm.ClassFile.FieldType.object "ArrayCalculator$Value")), 9, false), 1, 9, 2),
  ((⟨"ArrayCalculator$TwoAct", "sumOfProducts", "(LArrayCalculator$Value;ILArrayCalculator$Value;II)J"⟩, prog_11_method_15_code, 13, (Option.some Jvm.ClassFile.FieldType.long), 9, false), 1, 9, 5),
  ((⟨"ArrayCalculator$Machine", "finish", "(LArrayCalculator$Value;LArrayCalculator$Op;)V"⟩, prog_3_method_17_code, 3, (Option.none : Option Jvm.ClassFile.FieldType), 1, false), 1, 1, 2),
  ((⟨"ArrayCalculator$Value", "isFault", "()Z"⟩, prog_12_method_19_code, 1, (Option.some Jvm.ClassFile.FieldType.boolean), 10, false), 1, 10, 0)
  ]
def pg_m4 : List mj_MS := [
  ((⟨"ArrayCalculator$Machine", "advance", "(LArrayCalculator$Frame;)V"⟩, prog_3_method_21_code, 6, (Option.none : Option Jvm.ClassFile.FieldType), 1, false), 1, 1, 1),
  ((⟨"ArrayCalculator$Machine", "gather", "(LArrayCalculator$Op;III)V"⟩, prog_3_method_22_code, 9, (Option.none : Option Jvm.ClassFile.FieldType), 1, false), 1, 1, 4),
  ((⟨"ArrayCalculator$Machine", "gatherRow", "(III)LArrayCalculator$Value;"⟩, prog_3_method_23_code, 6, (Option.some (Jvm.ClassFile.FieldType.object "ArrayCalculator$Value")), 1, false), 1, 1, 3),
  ((⟨"ArrayCalculator$Machine", "gatherNest", "(III)LArrayCalculator$Value;"⟩, prog_3_method_24_code, 6, (Option.some (Jvm.ClassFile.FieldType.object "ArrayCalculator$Value")), 1, false), 1, 1, 3),
  ((⟨"ArrayCalculator$Machine", "pop", "()LArrayCalculator$Value;"⟩, prog_3_method_7_code, 1, (Option.some (Jvm.ClassFile.FieldType.object "ArrayCalculator$Value")), 1, false), 1, 1, 0),
  ((⟨"ArrayCalculator$Machine", "pend", "(LArrayCalculator$Op;ILArrayCalculator$Value;LArrayCalculator$Value;)V"⟩, prog_3_method_11_code, 5, (Option.none : Option Jvm.ClassFile.FieldType), 1, false), 1, 1, 4),
  ((⟨"ArrayCalculator$Machine", "step", "(LArrayCalculator$Op;)V"⟩, prog_3_method_12_code, 3, (Option.none : Option Jvm.ClassFile.FieldType), 1, false), 1, 1, 1),
  ((⟨"ArrayCalculator$Machine", "lookUp", "(LArrayCalculator$Op;)V"⟩, prog_3_method_13_code, 3, (Option.none : Option Jvm.ClassFile.FieldType), 1, false), 1, 1, 1),
  ((⟨"ArrayCalculator$Machine", "choose", "(LArrayCalculator$Op;LArrayCalculator$Value;)V"⟩, prog_3_method_14_code, 3, (Option.none : Option Jvm.ClassFile.FieldType), 1, false), 1, 1, 2),
  ((⟨"ArrayCalculator$Machine", "amend", "(LArrayCalculator$Op;)V"⟩, prog_3_method_15_code, 5, (Option.none : Option Jvm.ClassFile.FieldType), 1, false), 1, 1, 1),
  ((⟨"ArrayCalculator$TwoAct", "amended", "(LArrayCalculator$Value;LArrayCalculator$Value;LArrayCalculator$Value;)LArrayCalculator$Value;"⟩, prog_11_method_16_code, 11, (Option.some (Jvm.ClassFile.FieldType.object "ArrayCalculator$Value")), 9, false), 1, 9, 3),
  ((⟨"ArrayCalculator$TwoAct", "lineAsked", "(LArrayCalculator$Value;I)I"⟩, prog_11_method_17_code, 3, (Option.some Jvm.ClassFile.FieldType.int), 9, false), 2, 0, 2),
  ((⟨"ArrayCalculator$TwoAct", "amendedTable", "(LArrayCalculator$Value;)LArrayCalculator$Value;"⟩, prog_11_method_18_code, 7, (Option.some (Jvm.ClassFile.FieldType.object "ArrayCalculator$Value")), 9, false), 1, 9, 1),
  ((⟨"ArrayCalculator$TwoAct", "amendedRow", "(LArrayCalculator$Value;Z)LArrayCalculator$Value;"⟩, prog_11_method_19_code, 5, (Option.some (Jvm.ClassFile.FieldType.object "ArrayCalculator$Value")), 9, false), 1, 9, 2),
  ((⟨"ArrayCalculator$TwoAct", "amendedNest", "(LArrayCalculator$Value;)LArrayCalculator$Value;"⟩, prog_11_method_20_code, 4, (Option.some (Jvm.ClassFile.FieldType.object "ArrayCalculator$Value")), 9, false), 1, 9, 1),
  ((⟨"ArrayCalculator$Machine", "giveBack", "(LArrayCalculator$Frame;)V"⟩, prog_3_method_19_code, 2, (Option.none : Option Jvm.ClassFile.FieldType), 1, false), 1, 1, 1),
  ((⟨"ArrayCalculator", "takeIn", "(LArrayCalculator$Value;)V"⟩, prog_1_method_7_code, 2, (Option.none : Option Jvm.ClassFile.FieldType), 11, false), 1, 11, 1),
  ((⟨"ArrayCalculator$Machine", "error", "()I"⟩, prog_3_method_3_code, 1, (Option.some Jvm.ClassFile.FieldType.int), 1, false), 1, 1, 0),
  ((⟨"ArrayCalculator$Machine", "errorPlace", "()I"⟩, prog_3_method_4_code, 1, (Option.some Jvm.ClassFile.FieldType.int), 1, false), 1, 1, 0),
  ((⟨"ArrayCalculator$Names", "give", "(JLArrayCalculator$Value;)V"⟩, prog_4_method_9_code, 5, (Option.none : Option Jvm.ClassFile.FieldType), 2, false), 1, 2, 2),
  ((⟨"ArrayCalculator$Names", "dropFunction", "(J)V"⟩, prog_4_method_14_code, 5, (Option.none : Option Jvm.ClassFile.FieldType), 2, false), 1, 2, 1),
  ((⟨"ArrayCalculator", "told", "(I)I"⟩, prog_1_method_8_code, 2, (Option.some Jvm.ClassFile.FieldType.int), 11, false), 1, 11, 1),
  ((⟨"ArrayCalculator", "point", "(II)Z"⟩, prog_1_method_9_code, 4, (Option.some Jvm.ClassFile.FieldType.boolean), 11, false), 1, 11, 2),
  ((⟨"ArrayCalculator", "kind", "()I"⟩, prog_1_method_10_code, 1, (Option.some Jvm.ClassFile.FieldType.int), 11, false), 1, 11, 0),
  ((⟨"ArrayCalculator", "count", "(I)I"⟩, prog_1_method_11_code, 2, (Option.some Jvm.ClassFile.FieldType.int), 11, false), 1, 11, 1),
  ((⟨"ArrayCalculator", "item", "(I)J"⟩, prog_1_method_12_code, 2, (Option.some Jvm.ClassFile.FieldType.long), 11, false), 1, 11, 1),
  ((⟨"ArrayCalculator", "print", "()I"⟩, prog_1_method_13_code, 1, (Option.some Jvm.ClassFile.FieldType.int), 11, false), 1, 11, 0),
  ((⟨"ArrayCalculator", "octet", "(I)I"⟩, prog_1_method_14_code, 2, (Option.some Jvm.ClassFile.FieldType.int), 11, false), 1, 11, 1),
  ((⟨"ArrayCalculator", "keep", "(I)Z"⟩, prog_1_method_15_code, 2, (Option.some Jvm.ClassFile.FieldType.boolean), 11, false), 1, 11, 1),
  ((⟨"ArrayCalculator$Names", "copyOf", "(LArrayCalculator$Names;)V"⟩, prog_4_method_11_code, 3, (Option.none : Option Jvm.ClassFile.FieldType), 2, false), 1, 2, 1),
  ((⟨"ArrayCalculator", "back", "(I)Z"⟩, prog_1_method_16_code, 2, (Option.some Jvm.ClassFile.FieldType.boolean), 11, false), 1, 11, 1),
  ((⟨"ArrayCalculator", "names", "(I)I"⟩, prog_1_method_17_code, 2, (Option.some Jvm.ClassFile.FieldType.int), 11, false), 1, 11, 1),
  ((⟨"ArrayCalculator$Names", "howMany", "(I)I"⟩, prog_4_method_2_code, 2, (Option.some Jvm.ClassFile.FieldType.int), 2, false), 1, 2, 1),
  ((⟨"ArrayCalculator", "letter", "(III)I"⟩, prog_1_method_18_code, 5, (Option.some Jvm.ClassFile.FieldType.int), 11, false), 1, 11, 3),
  ((⟨"ArrayCalculator$Names", "keyAt", "(II)J"⟩, prog_4_method_3_code, 3, (Option.some Jvm.ClassFile.FieldType.long), 2, false), 1, 2, 2),
  ((⟨"ArrayCalculatorModel", "<init>", "()V"⟩, prog_14_method_1_code, 1, (Option.none : Option Jvm.ClassFile.FieldType), 12, true), 3, 12, 0),
  ((⟨"ArrayCalculatorModel", "one", "(IJ)I"⟩, prog_14_method_11_code, 5, (Option.some Jvm.ClassFile.FieldType.int), 12, false), 1, 12, 2),
  ((⟨"ArrayCalculatorModel", "row", "(II)I"⟩, prog_14_method_9_code, 3, (Option.some Jvm.ClassFile.FieldType.int), 12, false), 1, 12, 2),
  ((⟨"ArrayCalculatorModel", "seen", "(III)I"⟩, prog_14_method_8_code, 4, (Option.some Jvm.ClassFile.FieldType.int), 12, false), 1, 12, 3),
  ((⟨"ArrayCalculatorModel", "view", "(IIII)V"⟩, prog_14_method_7_code, 5, (Option.none : Option Jvm.ClassFile.FieldType), 12, false), 1, 12, 4)
  ]
def pg_m5 : List mj_MS := [
  ((⟨"ArrayCalculatorModel", "feed", "(IIIII)I"⟩, prog_14_method_93_code, 6, (Option.some Jvm.ClassFile.FieldType.int), 12, false), 1, 12, 5),
  ((⟨"ArrayCalculatorModel", "feedOne", "(I)V"⟩, prog_14_method_94_code, 3, (Option.none : Option Jvm.ClassFile.FieldType), 12, false), 1, 12, 1),
  ((⟨"ArrayCalculatorModel", "line", "(I)I"⟩, prog_14_method_95_code, 5, (Option.some Jvm.ClassFile.FieldType.int), 12, false), 1, 12, 1),
  ((⟨"ArrayCalculatorModel", "read", "(I)V"⟩, prog_14_method_92_code, 4, (Option.none : Option Jvm.ClassFile.FieldType), 12, false), 1, 12, 1),
  ((⟨"ArrayCalculatorModel", "begin", "(I)V"⟩, prog_14_method_89_code, 2, (Option.none : Option Jvm.ClassFile.FieldType), 12, false), 1, 12, 1),
  ((⟨"ArrayCalculatorModel", "next", "()V"⟩, prog_14_method_73_code, 2, (Option.none : Option Jvm.ClassFile.FieldType), 12, false), 1, 12, 0),
  ((⟨"ArrayCalculatorModel", "byteAt", "(I)I"⟩, prog_14_method_68_code, 2, (Option.some Jvm.ClassFile.FieldType.int), 12, false), 1, 12, 1),
  ((⟨"ArrayCalculatorModel", "isDigit", "(I)Z"⟩, prog_14_method_69_code, 2, (Option.some Jvm.ClassFile.FieldType.boolean), 12, false), 1, 12, 1),
  ((⟨"ArrayCalculatorModel", "digits", "(Z)V"⟩, prog_14_method_74_code, 3, (Option.none : Option Jvm.ClassFile.FieldType), 12, false), 1, 12, 1),
  ((⟨"ArrayCalculatorModel", "isLetter", "(I)Z"⟩, prog_14_method_70_code, 2, (Option.some Jvm.ClassFile.FieldType.boolean), 12, false), 1, 12, 1),
  ((⟨"ArrayCalculatorModel", "letters", "()V"⟩, prog_14_method_75_code, 2, (Option.none : Option Jvm.ClassFile.FieldType), 12, false), 1, 12, 0),
  ((⟨"ArrayCalculatorModel", "functionNamed", "(J)I"⟩, prog_14_method_65_code, 4, (Option.some Jvm.ClassFile.FieldType.int), 12, false), 1, 12, 1),
  ((⟨"ArrayCalculatorModel", "quote", "()V"⟩, prog_14_method_76_code, 2, (Option.none : Option Jvm.ClassFile.FieldType), 12, false), 1, 12, 0),
  ((⟨"ArrayCalculatorModel", "isMark", "(I)Z"⟩, prog_14_method_72_code, 1, (Option.some Jvm.ClassFile.FieldType.boolean), 12, false), 2, 0, 1),
  ((⟨"ArrayCalculatorModel", "isVerb", "(I)Z"⟩, prog_14_method_71_code, 1, (Option.some Jvm.ClassFile.FieldType.boolean), 12, false), 2, 0, 1),
  ((⟨"ArrayCalculatorModel", "isNaming", "(I)Z"⟩, prog_14_method_91_code, 3, (Option.some Jvm.ClassFile.FieldType.boolean), 12, false), 1, 12, 1),
  ((⟨"ArrayCalculatorModel", "isMarked", "(I)Z"⟩, prog_14_method_77_code, 2, (Option.some Jvm.ClassFile.FieldType.boolean), 12, false), 1, 12, 1),
  ((⟨"ArrayCalculatorModel", "isAmending", "(I)Z"⟩, prog_14_method_90_code, 4, (Option.some Jvm.ClassFile.FieldType.boolean), 12, false), 1, 12, 1),
  ((⟨"ArrayCalculatorModel", "isVerbed", "(I)Z"⟩, prog_14_method_78_code, 2, (Option.some Jvm.ClassFile.FieldType.boolean), 12, false), 1, 12, 1),
  ((⟨"ArrayCalculatorModel", "wrong", "()I"⟩, prog_14_method_80_code, 1, (Option.some Jvm.ClassFile.FieldType.int), 12, false), 1, 12, 0),
  ((⟨"ArrayCalculatorModel", "opens", "()V"⟩, prog_14_method_81_code, 1, (Option.none : Option Jvm.ClassFile.FieldType), 12, false), 1, 12, 0),
  ((⟨"ArrayCalculatorModel", "expression", "()I"⟩, prog_14_method_84_code, 5, (Option.some Jvm.ClassFile.FieldType.int), 12, false), 1, 12, 0),
  ((⟨"ArrayCalculatorModel", "isNoun", "()Z"⟩, prog_14_method_83_code, 1, (Option.some Jvm.ClassFile.FieldType.boolean), 12, false), 1, 12, 0),
  ((⟨"ArrayCalculatorModel", "noun", "()I"⟩, prog_14_method_85_code, 6, (Option.some Jvm.ClassFile.FieldType.int), 12, false), 1, 12, 0),
  ((⟨"ArrayCalculatorModel", "settled", "(I)I"⟩, prog_14_method_13_code, 4, (Option.some Jvm.ClassFile.FieldType.int), 12, false), 1, 12, 1),
  ((⟨"ArrayCalculatorModel", "many", "(I)I"⟩, prog_14_method_3_code, 2, (Option.some Jvm.ClassFile.FieldType.int), 12, false), 1, 12, 1),
  ((⟨"ArrayCalculatorModel", "number", "(II)J"⟩, prog_14_method_5_code, 3, (Option.some Jvm.ClassFile.FieldType.long), 12, false), 1, 12, 2),
  ((⟨"ArrayCalculatorModel", "fits", "(J)Z"⟩, prog_14_method_12_code, 2, (Option.some Jvm.ClassFile.FieldType.boolean), 12, false), 2, 0, 1),
  ((⟨"ArrayCalculatorModel", "node", "(IIIII)I"⟩, prog_14_method_79_code, 6, (Option.some Jvm.ClassFile.FieldType.int), 12, false), 1, 12, 5),
  ((⟨"ArrayCalculatorModel", "list", "(I)I"⟩, prog_14_method_87_code, 6, (Option.some Jvm.ClassFile.FieldType.int), 12, false), 1, 12, 1),
  ((⟨"ArrayCalculatorModel", "closes", "(I)V"⟩, prog_14_method_86_code, 2, (Option.none : Option Jvm.ClassFile.FieldType), 12, false), 1, 12, 1),
  ((⟨"ArrayCalculatorModel", "needs", "(I)V"⟩, prog_14_method_82_code, 2, (Option.none : Option Jvm.ClassFile.FieldType), 12, false), 1, 12, 1),
  ((⟨"ArrayCalculatorModel", "isOpening", "()Z"⟩, prog_14_method_88_code, 2, (Option.some Jvm.ClassFile.FieldType.boolean), 12, false), 1, 12, 0),
  ((⟨"ArrayCalculatorModel", "fail", "(II)I"⟩, prog_14_method_24_code, 3, (Option.some Jvm.ClassFile.FieldType.int), 12, false), 1, 12, 2),
  ((⟨"ArrayCalculatorModel", "does", "()V"⟩, prog_14_method_97_code, 2, (Option.none : Option Jvm.ClassFile.FieldType), 12, false), 1, 12, 0),
  ((⟨"ArrayCalculatorModel", "isKnown", "(J)Z"⟩, prog_14_method_96_code, 3, (Option.some Jvm.ClassFile.FieldType.boolean), 12, false), 1, 12, 1),
  ((⟨"ArrayCalculatorModel", "valueNamed", "(J)I"⟩, prog_14_method_64_code, 4, (Option.some Jvm.ClassFile.FieldType.int), 12, false), 1, 12, 1),
  ((⟨"ArrayCalculatorModel", "nodePlaceOfName", "()I"⟩, prog_14_method_98_code, 2, (Option.some Jvm.ClassFile.FieldType.int), 12, false), 1, 12, 0),
  ((⟨"ArrayCalculatorModel", "tells", "(JI)V"⟩, prog_14_method_67_code, 6, (Option.none : Option Jvm.ClassFile.FieldType), 12, false), 1, 12, 2),
  ((⟨"ArrayCalculatorModel", "worth", "(I)I"⟩, prog_14_method_103_code, 5, (Option.some Jvm.ClassFile.FieldType.int), 12, false), 1, 12, 1)
  ]
def pg_m6 : List mj_MS := [
  ((⟨"ArrayCalculatorModel", "nounWorth", "(I)I"⟩, prog_14_method_104_code, 3, (Option.some Jvm.ClassFile.FieldType.int), 12, false), 1, 12, 1),
  ((⟨"ArrayCalculatorModel", "nameWorth", "(JI)I"⟩, prog_14_method_106_code, 5, (Option.some Jvm.ClassFile.FieldType.int), 12, false), 1, 12, 2),
  ((⟨"ArrayCalculatorModel", "listWorth", "(I)I"⟩, prog_14_method_107_code, 6, (Option.some Jvm.ClassFile.FieldType.int), 12, false), 1, 12, 1),
  ((⟨"ArrayCalculatorModel", "push", "(I)V"⟩, prog_14_method_27_code, 2, (Option.none : Option Jvm.ClassFile.FieldType), 12, false), 1, 12, 1),
  ((⟨"ArrayCalculatorModel", "gathered", "(II)I"⟩, prog_14_method_28_code, 8, (Option.some Jvm.ClassFile.FieldType.int), 12, false), 1, 12, 2),
  ((⟨"ArrayCalculatorModel", "kindOf", "(I)I"⟩, prog_14_method_2_code, 2, (Option.some Jvm.ClassFile.FieldType.int), 12, false), 1, 12, 1),
  ((⟨"ArrayCalculatorModel", "made", "(II)I"⟩, prog_14_method_26_code, 4, (Option.some Jvm.ClassFile.FieldType.int), 12, false), 1, 12, 2),
  ((⟨"ArrayCalculatorModel", "sizeOf", "(I)I"⟩, prog_14_method_19_code, 4, (Option.some Jvm.ClassFile.FieldType.int), 12, false), 1, 12, 1),
  ((⟨"ArrayCalculatorModel", "isOne", "(I)Z"⟩, prog_14_method_14_code, 2, (Option.some Jvm.ClassFile.FieldType.boolean), 12, false), 1, 12, 1),
  ((⟨"ArrayCalculatorModel", "columns", "(I)I"⟩, prog_14_method_4_code, 2, (Option.some Jvm.ClassFile.FieldType.int), 12, false), 1, 12, 1),
  ((⟨"ArrayCalculatorModel", "value", "(II)I"⟩, prog_14_method_6_code, 3, (Option.some Jvm.ClassFile.FieldType.int), 12, false), 1, 12, 2),
  ((⟨"ArrayCalculatorModel", "levelsOf", "(I)I"⟩, prog_14_method_20_code, 4, (Option.some Jvm.ClassFile.FieldType.int), 12, false), 1, 12, 1),
  ((⟨"ArrayCalculatorModel", "larger", "(II)I"⟩, prog_14_method_21_code, 2, (Option.some Jvm.ClassFile.FieldType.int), 12, false), 2, 0, 2),
  ((⟨"ArrayCalculatorModel", "takes", "(II)Z"⟩, prog_14_method_25_code, 3, (Option.some Jvm.ClassFile.FieldType.boolean), 12, false), 1, 12, 2),
  ((⟨"ArrayCalculatorModel", "placesWorth", "(I)I"⟩, prog_14_method_105_code, 5, (Option.some Jvm.ClassFile.FieldType.int), 12, false), 1, 12, 1),
  ((⟨"ArrayCalculatorModel", "dyad", "(IIII)I"⟩, prog_14_method_48_code, 5, (Option.some Jvm.ClassFile.FieldType.int), 12, false), 1, 12, 4),
  ((⟨"ArrayCalculatorModel", "isSame", "(II)Z"⟩, prog_14_method_23_code, 7, (Option.some Jvm.ClassFile.FieldType.boolean), 12, false), 1, 12, 2),
  ((⟨"ArrayCalculatorModel", "isNumbers", "(I)Z"⟩, prog_14_method_16_code, 2, (Option.some Jvm.ClassFile.FieldType.boolean), 12, false), 1, 12, 1),
  ((⟨"ArrayCalculatorModel", "isRow", "(I)Z"⟩, prog_14_method_15_code, 2, (Option.some Jvm.ClassFile.FieldType.boolean), 12, false), 1, 12, 1),
  ((⟨"ArrayCalculatorModel", "joined", "(III)I"⟩, prog_14_method_55_code, 10, (Option.some Jvm.ClassFile.FieldType.int), 12, false), 1, 12, 3),
  ((⟨"ArrayCalculatorModel", "sortOf", "(I)I"⟩, prog_14_method_54_code, 2, (Option.some Jvm.ClassFile.FieldType.int), 12, false), 1, 12, 1),
  ((⟨"ArrayCalculatorModel", "itemOf", "(II)I"⟩, prog_14_method_18_code, 4, (Option.some Jvm.ClassFile.FieldType.int), 12, false), 1, 12, 2),
  ((⟨"ArrayCalculatorModel", "itemAt", "(III)I"⟩, prog_14_method_17_code, 5, (Option.some Jvm.ClassFile.FieldType.int), 12, false), 1, 12, 3),
  ((⟨"ArrayCalculatorModel", "nest", "(I)I"⟩, prog_14_method_38_code, 4, (Option.some Jvm.ClassFile.FieldType.int), 12, false), 1, 12, 1),
  ((⟨"ArrayCalculatorModel", "table", "(II)I"⟩, prog_14_method_10_code, 4, (Option.some Jvm.ClassFile.FieldType.int), 12, false), 1, 12, 2),
  ((⟨"ArrayCalculatorModel", "some", "(IIZI)I"⟩, prog_14_method_56_code, 12, (Option.some Jvm.ClassFile.FieldType.int), 12, false), 1, 12, 4),
  ((⟨"ArrayCalculatorModel", "picked", "(II)I"⟩, prog_14_method_34_code, 7, (Option.some Jvm.ClassFile.FieldType.int), 12, false), 1, 12, 2),
  ((⟨"ArrayCalculatorModel", "laid", "(III)I"⟩, prog_14_method_57_code, 11, (Option.some Jvm.ClassFile.FieldType.int), 12, false), 1, 12, 3),
  ((⟨"ArrayCalculatorModel", "found", "(III)I"⟩, prog_14_method_59_code, 6, (Option.some Jvm.ClassFile.FieldType.int), 12, false), 1, 12, 3),
  ((⟨"ArrayCalculatorModel", "placeOf", "(II)I"⟩, prog_14_method_58_code, 4, (Option.some Jvm.ClassFile.FieldType.int), 12, false), 1, 12, 2),
  ((⟨"ArrayCalculatorModel", "picks", "(III)I"⟩, prog_14_method_60_code, 7, (Option.some Jvm.ClassFile.FieldType.int), 12, false), 1, 12, 3),
  ((⟨"ArrayCalculatorModel", "fit", "(III)I"⟩, prog_14_method_61_code, 9, (Option.some Jvm.ClassFile.FieldType.int), 12, false), 1, 12, 3),
  ((⟨"ArrayCalculatorModel", "without", "(III)I"⟩, prog_14_method_62_code, 8, (Option.some Jvm.ClassFile.FieldType.int), 12, false), 1, 12, 3),
  ((⟨"ArrayCalculatorModel", "inner", "(III)I"⟩, prog_14_method_63_code, 16, (Option.some Jvm.ClassFile.FieldType.int), 12, false), 1, 12, 3),
  ((⟨"ArrayCalculatorModel", "product", "(JJI)J"⟩, prog_14_method_53_code, 9, (Option.some Jvm.ClassFile.FieldType.long), 12, false), 1, 12, 3),
  ((⟨"ArrayCalculatorModel", "sum", "(JJI)J"⟩, prog_14_method_52_code, 6, (Option.some Jvm.ClassFile.FieldType.long), 12, false), 1, 12, 3),
  ((⟨"ArrayCalculatorModel", "paired", "(IIII)I"⟩, prog_14_method_50_code, 17, (Option.some Jvm.ClassFile.FieldType.int), 12, false), 1, 12, 4),
  ((⟨"ArrayCalculatorModel", "compares", "(I)Z"⟩, prog_14_method_49_code, 1, (Option.some Jvm.ClassFile.FieldType.boolean), 12, false), 2, 0, 1),
  ((⟨"ArrayCalculatorModel", "worked", "(IZJZJI)J"⟩, prog_14_method_51_code, 9, (Option.some Jvm.ClassFile.FieldType.long), 12, false), 1, 12, 6),
  ((⟨"ArrayCalculatorModel", "applied", "(IIII)I"⟩, prog_14_method_108_code, 9, (Option.some Jvm.ClassFile.FieldType.int), 12, false), 1, 12, 4)
  ]
def pg_m7 : List mj_MS := [
  ((⟨"ArrayCalculatorModel", "called", "(JIII)I"⟩, prog_14_method_111_code, 10, (Option.some Jvm.ClassFile.FieldType.int), 12, false), 1, 12, 4),
  ((⟨"ArrayCalculatorModel", "monad", "(III)I"⟩, prog_14_method_29_code, 6, (Option.some Jvm.ClassFile.FieldType.int), 12, false), 1, 12, 3),
  ((⟨"ArrayCalculatorModel", "flipped", "(I)I"⟩, prog_14_method_32_code, 5, (Option.some Jvm.ClassFile.FieldType.int), 12, false), 1, 12, 1),
  ((⟨"ArrayCalculatorModel", "through", "(III)I"⟩, prog_14_method_31_code, 10, (Option.some Jvm.ClassFile.FieldType.int), 12, false), 1, 12, 3),
  ((⟨"ArrayCalculatorModel", "turned", "(IJ)J"⟩, prog_14_method_30_code, 3, (Option.some Jvm.ClassFile.FieldType.long), 12, false), 2, 0, 2),
  ((⟨"ArrayCalculatorModel", "where", "(II)I"⟩, prog_14_method_35_code, 8, (Option.some Jvm.ClassFile.FieldType.int), 12, false), 1, 12, 2),
  ((⟨"ArrayCalculatorModel", "places", "(I)I"⟩, prog_14_method_33_code, 4, (Option.some Jvm.ClassFile.FieldType.int), 12, false), 1, 12, 1),
  ((⟨"ArrayCalculatorModel", "sort", "(IZ)V"⟩, prog_14_method_36_code, 5, (Option.none : Option Jvm.ClassFile.FieldType), 12, false), 1, 12, 2),
  ((⟨"ArrayCalculatorModel", "groups", "(II)I"⟩, prog_14_method_37_code, 8, (Option.some Jvm.ClassFile.FieldType.int), 12, false), 1, 12, 2),
  ((⟨"ArrayCalculatorModel", "unlike", "(II)I"⟩, prog_14_method_39_code, 7, (Option.some Jvm.ClassFile.FieldType.int), 12, false), 1, 12, 2),
  ((⟨"ArrayCalculatorModel", "oneMore", "(I)I"⟩, prog_14_method_40_code, 3, (Option.some Jvm.ClassFile.FieldType.int), 12, false), 1, 12, 1),
  ((⟨"ArrayCalculatorModel", "numbersIn", "(II)I"⟩, prog_14_method_41_code, 10, (Option.some Jvm.ClassFile.FieldType.int), 12, false), 1, 12, 2),
  ((⟨"ArrayCalculatorModel", "shaped", "(I)I"⟩, prog_14_method_42_code, 2, (Option.some Jvm.ClassFile.FieldType.int), 12, false), 1, 12, 1),
  ((⟨"ArrayCalculatorModel", "text", "(II)I"⟩, prog_14_method_47_code, 5, (Option.some Jvm.ClassFile.FieldType.int), 12, false), 1, 12, 2),
  ((⟨"ArrayCalculatorModel", "putValue", "(I)V"⟩, prog_14_method_46_code, 5, (Option.none : Option Jvm.ClassFile.FieldType), 12, false), 1, 12, 1),
  ((⟨"ArrayCalculatorModel", "putNumber", "(J)V"⟩, prog_14_method_44_code, 7, (Option.none : Option Jvm.ClassFile.FieldType), 12, false), 1, 12, 1),
  ((⟨"ArrayCalculatorModel", "put", "(I)V"⟩, prog_14_method_43_code, 2, (Option.none : Option Jvm.ClassFile.FieldType), 12, false), 1, 12, 1),
  ((⟨"ArrayCalculatorModel", "putNumbers", "(III)V"⟩, prog_14_method_45_code, 5, (Option.none : Option Jvm.ClassFile.FieldType), 12, false), 1, 12, 3),
  ((⟨"ArrayCalculatorModel", "each", "(IIIII)I"⟩, prog_14_method_110_code, 10, (Option.some Jvm.ClassFile.FieldType.int), 12, false), 1, 12, 5),
  ((⟨"ArrayCalculatorModel", "folded", "(IIIIZI)I"⟩, prog_14_method_109_code, 10, (Option.some Jvm.ClassFile.FieldType.int), 12, false), 1, 12, 6),
  ((⟨"ArrayCalculatorModel", "amends", "(I)I"⟩, prog_14_method_99_code, 4, (Option.some Jvm.ClassFile.FieldType.int), 12, false), 1, 12, 1),
  ((⟨"ArrayCalculatorModel", "amended", "(IIII)I"⟩, prog_14_method_101_code, 11, (Option.some Jvm.ClassFile.FieldType.int), 12, false), 1, 12, 4),
  ((⟨"ArrayCalculatorModel", "amendedTable", "(IIII)I"⟩, prog_14_method_102_code, 10, (Option.some Jvm.ClassFile.FieldType.int), 12, false), 1, 12, 4),
  ((⟨"ArrayCalculatorModel", "given", "(IIII)I"⟩, prog_14_method_100_code, 5, (Option.some Jvm.ClassFile.FieldType.int), 12, false), 1, 12, 4),
  ((⟨"ArrayCalculatorModel", "means", "(JI)V"⟩, prog_14_method_66_code, 6, (Option.none : Option Jvm.ClassFile.FieldType), 12, false), 1, 12, 2),
  ((⟨"ArrayCalculatorModel", "told", "(I)I"⟩, prog_14_method_112_code, 2, (Option.some Jvm.ClassFile.FieldType.int), 12, false), 1, 12, 1),
  ((⟨"ArrayCalculatorModel", "point", "(II)Z"⟩, prog_14_method_113_code, 3, (Option.some Jvm.ClassFile.FieldType.boolean), 12, false), 1, 12, 2),
  ((⟨"ArrayCalculatorModel", "kind", "()I"⟩, prog_14_method_114_code, 1, (Option.some Jvm.ClassFile.FieldType.int), 12, false), 1, 12, 0),
  ((⟨"ArrayCalculatorModel", "count", "(I)I"⟩, prog_14_method_115_code, 2, (Option.some Jvm.ClassFile.FieldType.int), 12, false), 1, 12, 1),
  ((⟨"ArrayCalculatorModel", "item", "(I)J"⟩, prog_14_method_116_code, 4, (Option.some Jvm.ClassFile.FieldType.long), 12, false), 1, 12, 1),
  ((⟨"ArrayCalculatorModel", "print", "()I"⟩, prog_14_method_117_code, 2, (Option.some Jvm.ClassFile.FieldType.int), 12, false), 1, 12, 0),
  ((⟨"ArrayCalculatorModel", "octet", "(I)I"⟩, prog_14_method_118_code, 2, (Option.some Jvm.ClassFile.FieldType.int), 12, false), 1, 12, 1),
  ((⟨"ArrayCalculatorModel", "keep", "(I)Z"⟩, prog_14_method_119_code, 3, (Option.some Jvm.ClassFile.FieldType.boolean), 12, false), 1, 12, 1),
  ((⟨"ArrayCalculatorModel", "back", "(I)Z"⟩, prog_14_method_120_code, 3, (Option.some Jvm.ClassFile.FieldType.boolean), 12, false), 1, 12, 1),
  ((⟨"ArrayCalculatorModel", "names", "(I)I"⟩, prog_14_method_121_code, 2, (Option.some Jvm.ClassFile.FieldType.int), 12, false), 1, 12, 1),
  ((⟨"ArrayCalculatorModel", "letter", "(III)I"⟩, prog_14_method_122_code, 7, (Option.some Jvm.ClassFile.FieldType.int), 12, false), 1, 12, 3),
  ((⟨"ArrayCalculator$Machine", "stacked", "(I)LArrayCalculator$Value;"⟩, prog_3_method_8_code, 2, (Option.some (Jvm.ClassFile.FieldType.object "ArrayCalculator$Value")), 1, false), 1, 1, 1)
  ]
def pg_ms : List mj_MS := pg_m0 ++ (pg_m1 ++ (pg_m2 ++ (pg_m3 ++ (pg_m4 ++ (pg_m5 ++ (pg_m6 ++ (pg_m7)))))))
def pg_t0 : String × mj_TL := ("ArrayCalculator$Frame", [], [], [], [], [], [], [(1, (0, 0, 0, 0), false)])
def pg_t1 : String × mj_TL := ("ArrayCalculator$Machine", [(132, 4, 0, .int, 0), (124, 4, 1, .int, 0), (90, 4, 2, .int, 0), (166, 4, 3, .long, 0), (145, 4, 5, .int, 0), (152, 4, 6, .int, 0), (135, 4, 7, .object "ArrayCalculator$Value", 0), (129, 4, 8, .object "ArrayCalculator$Op", 0), (186, 4, 9, .object "ArrayCalculator$Op", 0), (180, 10, 0, .int, 2), (183, 10, 1, .long, 2), (234, 10, 5, .int, 2), (189, 10, 7, .int, 2), (215, 10, 8, .int, 2), (102, 0, 0, .int, 0), (222, 0, 1, .object "ArrayCalculator$Op", 0), (225, 0, 2, .object "ArrayCalculator$Value", 0), (226, 0, 3, .object "ArrayCalculator$Value", 0), (240, 0, 4, .int, 0), (242, 0, 5, .int, 0), (237, 0, 6, .int, 0), (42, 1, 0, .object "ArrayCalculator$Names", 1), (12, 1, 1, .object "ArrayCalculator$OneAct", 1), (21, 1, 2, .object "ArrayCalculator$TwoAct", 1), (27, 1, 3, .array (.object "ArrayCalculator$Value"), 1), (53, 1, 4, .int, 0), (33, 1, 5, .array (.object "ArrayCalculator$Frame"), 1), (56, 1, 6, .int, 0), (59, 1, 7, .int, 0), (121, 1, 8, .int, 0), (38, 1, 9, .int, 0), (47, 1, 10, .int, 0), (50, 1, 11, .int, 0), (73, 1, 12, .object "ArrayCalculator$Op", 0), (62, 1, 13, .object "ArrayCalculator$Value", 0), (66, 1, 14, .object "ArrayCalculator$Value", 0), (69, 1, 15, .object "ArrayCalculator$Op", 0), (77, 1, 16, .int, 0), (80, 1, 17, .object "ArrayCalculator$Value", 0), (83, 1, 18, .object "ArrayCalculator$Value", 0)], [(37, 500000), (76, 200000000)], [(176, 24), (178, 25)], [(9, 3, [.null, .null, .null, .null, .null]), (18, 9, [.null, .null, .null, .null, .int 0]), (25, 10, [.int 0, .long 0, .null, .null, .int 0, .int 0, .int 0, .int 0, .int 0]), (31, 0, [.int 0, .null, .null, .null, .int 0, .int 0, .int 0])], [(25, 4), (31, 7)], [], [(3, (0, 0, 0, 0), false), (11, (3, 6, 0, 3), false), (20, (3, 11, 0, 9), false), (46, (3, 12, 0, 0), false), (86, (1, 71, 3, 1), false), (192, (1, 72, 2, 1), false), (125, (1, 73, 2, 1), false), (227, (1, 74, 1, 4), false), (231, (1, 75, 0, 10), false), (243, (1, 76, 1, 10), false), (138, (1, 79, 1, 1), false), (95, (1, 80, 1, 1), false), (218, (1, 26, 1, 2), false), (99, (1, 81, 1, 1), false), (204, (1, 82, 2, 3), false), (208, (1, 142, 3, 9), false), (200, (1, 158, 2, 1), false), (211, (1, 159, 0, 10), false), (103, (1, 160, 1, 1), false), (155, (1, 161, 4, 1), false), (246, (1, 316, 1, 1), false), (117, (2, 103, 1, 0), false), (249, (1, 162, 3, 1), false), (256, (2, 51, 2, 0), false), (260, (2, 47, 1, 0), false), (253, (1, 163, 3, 1), false), (264, (2, 121, 1, 0), false), (113, (1, 164, 0, 1), false), (148, (1, 165, 4, 1), false), (107, (1, 166, 1, 1), false), (142, (1, 167, 1, 1), false), (170, (1, 65, 1, 2), false), (159, (1, 168, 2, 1), false), (163, (1, 169, 1, 1), false), (196, (1, 170, 3, 9), false), (110, (1, 175, 1, 1), false)])
def pg_t2 : String × mj_TL := ("ArrayCalculator$Names", [(9, 2, 0, .array .long, 1), (17, 2, 1, .array (.object "ArrayCalculator$Value"), 1), (30, 2, 2, .int, 0), (21, 2, 3, .array .long, 1), (26, 2, 4, .array (.object "ArrayCalculator$Op"), 1), (34, 2, 5, .int, 0)], [], [], [(15, 10, [.int 0, .long 0, .null, .null, .int 0, .int 0, .int 0, .int 0, .int 0]), (24, 4, [.int 0, .int 0, .int 0, .long 0, .int 0, .int 0, .int 0, .null, .null, .null])], [(15, 4), (24, 5)], [], [(3, (0, 0, 0, 0), false), (41, (2, 27, 3, 0), false), (49, (1, 65, 1, 2), false), (45, (1, 66, 1, 2), false), (53, (1, 26, 1, 2), false), (67, (1, 69, 1, 2), false), (61, (4, 0, 2, 0), false), (57, (1, 180, 1, 2), false), (37, (1, 192, 1, 2), false)])
def pg_t3 : String × mj_TL := ("ArrayCalculator$OneAct", [(45, 10, 0, .int, 2), (173, 10, 1, .long, 2), (76, 10, 5, .int, 2), (115, 10, 6, .int, 2), (9, 3, 0, .array .int, 1), (15, 3, 1, .array .long, 1), (24, 3, 2, .object "ArrayCalculator$Printer", 1), (31, 3, 3, .object "ArrayCalculator$Paired", 1), (41, 3, 4, .object "ArrayCalculator$Value", 1)], [], [(177, 120), (182, 32), (192, 95), (198, 10), (200, 48)], [(19, 6, [.null, .null, .int 0]), (28, 5, [.int 0, .int 0, .null, .int 0, .int 0, .int 0, .int 0, .int 0, .null, .null, .int 0, .int 0]), (36, 10, [.int 0, .long 0, .null, .null, .int 0, .int 0, .int 0, .int 0, .int 0])], [(36, 4)], [(202, 1, true)], [(3, (0, 0, 0, 0), false), (21, (3, 7, 1, 6), false), (30, (3, 8, 0, 5), false), (35, (2, 9, 1, 0), false), (49, (2, 83, 1, 0), false), (113, (1, 84, 0, 10), false), (118, (1, 78, 1, 10), false), (122, (2, 85, 3, 0), false), (53, (1, 86, 1, 5), false), (56, (1, 87, 3, 5), true), (60, (1, 100, 0, 5), false), (64, (1, 102, 0, 5), false), (68, (2, 103, 1, 0), false), (72, (1, 104, 2, 5), true), (79, (1, 76, 1, 10), false), (82, (1, 111, 1, 3), false), (126, (1, 90, 0, 10), false), (129, (2, 101, 2, 0), false), (135, (2, 47, 1, 0), false), (85, (1, 112, 1, 3), false), (139, (1, 75, 0, 10), false), (142, (1, 113, 2, 10), false), (88, (1, 116, 2, 3), false), (146, (2, 117, 3, 0), false), (150, (1, 118, 1, 3), false), (153, (2, 51, 2, 0), false), (92, (1, 119, 1, 3), false), (157, (1, 120, 1, 3), false), (161, (2, 107, 4, 0), false), (165, (2, 121, 1, 0), false), (95, (1, 122, 1, 3), false), (169, (2, 123, 4, 0), false), (98, (2, 127, 1, 0), false), (101, (1, 128, 1, 3), false), (104, (1, 129, 1, 3), false), (179, (1, 92, 0, 10), false), (184, (2, 130, 2, 0), false), (194, (2, 21, 1, 0), true), (188, (2, 131, 3, 0), false), (107, (2, 132, 1, 0), false), (110, (1, 133, 1, 3), false), (205, (1, 134, 0, 6), false), (208, (1, 135, 1, 6), true), (212, (1, 140, 0, 6), false), (215, (1, 141, 1, 6), false)])
def pg_t4 : String × mj_TL := ("ArrayCalculator$Op", [(7, 4, 0, .int, 0), (13, 4, 1, .int, 0), (20, 4, 4, .int, 0), (16, 4, 8, .object "ArrayCalculator$Op", 0)], [], [], [], [], [], [(1, (0, 0, 0, 0), false)])
def pg_t5 : String × mj_TL := ("ArrayCalculator$Paired", [(21, 5, 0, .int, 0), (25, 5, 1, .int, 0), (9, 5, 2, .array .long, 1), (28, 5, 3, .int, 0), (31, 5, 4, .int, 0), (34, 5, 5, .int, 0), (37, 5, 6, .int, 0), (40, 5, 7, .boolean, 0), (18, 5, 8, .array .long, 0), (102, 5, 9, .array (.object "ArrayCalculator$Value"), 0), (44, 5, 10, .int, 0), (47, 5, 11, .int, 0), (50, 10, 0, .int, 2), (59, 10, 5, .int, 2), (122, 10, 6, .int, 2), (94, 10, 7, .int, 2), (95, 10, 8, .int, 2)], [], [(179, 9223372036854775807), (175, -9223372036854775808), (177, -1)], [(51, 10, [.int 0, .long 0, .null, .null, .int 0, .int 0, .int 0, .int 0, .int 0])], [(51, 4)], [(15, 1, true)], [(3, (0, 0, 0, 0), false), (55, (1, 88, 3, 5), false), (75, (2, 89, 2, 0), false), (79, (1, 75, 0, 10), false), (137, (1, 90, 0, 10), false), (83, (1, 84, 0, 10), false), (86, (1, 91, 3, 5), false), (140, (1, 78, 1, 10), false), (144, (1, 92, 0, 10), false), (147, (2, 93, 2, 0), false), (151, (2, 94, 2, 0), false), (154, (2, 95, 2, 0), false), (157, (1, 96, 2, 5), false), (161, (1, 97, 2, 5), false), (164, (4, 4, 2, 0), false), (167, (4, 3, 2, 0), false), (169, (2, 98, 2, 0), false), (90, (2, 99, 1, 0), true), (62, (4, 0, 2, 0), false), (68, (1, 77, 1, 10), false), (72, (1, 87, 3, 5), false), (96, (2, 101, 2, 0), false), (106, (1, 105, 1, 5), false), (118, (2, 9, 1, 0), false), (125, (2, 106, 4, 0), false), (129, (2, 107, 4, 0), false), (133, (2, 108, 3, 0), false), (110, (1, 104, 2, 5), false), (114, (2, 109, 3, 0), false)])
def pg_t6 : String × mj_TL := ("ArrayCalculator$Printer", [(15, 6, 0, .array .byte, 1), (11, 6, 1, .array .byte, 1), (18, 6, 2, .int, 0), (22, 10, 0, .int, 2), (27, 10, 1, .long, 2), (46, 10, 5, .int, 2), (64, 10, 6, .int, 2)], [], [(56, 48), (58, 10), (71, 32), (73, 126), (75, 39)], [], [], [], [(3, (0, 0, 0, 0), false), (31, (1, 136, 1, 6), false), (35, (1, 137, 1, 6), false), (42, (1, 138, 1, 6), false), (67, (1, 78, 1, 10), false), (39, (1, 139, 1, 6), false), (60, (1, 84, 0, 10), false), (49, (1, 76, 1, 10), false), (53, (1, 135, 1, 6), false)])
def pg_t7 : String × mj_TL := ("ArrayCalculator$Reader", [(106, 4, 0, .int, 0), (109, 4, 1, .int, 0), (112, 4, 2, .int, 0), (91, 4, 3, .long, 0), (115, 4, 4, .int, 0), (118, 4, 5, .int, 0), (161, 4, 6, .int, 0), (141, 4, 7, .object "ArrayCalculator$Value", 0), (127, 4, 8, .object "ArrayCalculator$Op", 0), (164, 4, 9, .object "ArrayCalculator$Op", 0), (9, 7, 0, .object "ArrayCalculator$Tokens", 1), (38, 7, 1, .int, 0), (24, 7, 2, .int, 0), (28, 7, 3, .int, 0), (31, 7, 4, .long, 0), (35, 7, 5, .object "ArrayCalculator$Op", 0), (20, 7, 6, .object "ArrayCalculator$Op", 0)], [], [(94, 64), (55, 24), (57, 25)], [(15, 4, [.int 0, .int 0, .int 0, .long 0, .int 0, .int 0, .int 0, .null, .null, .null])], [(15, 5)], [], [(3, (0, 0, 0, 0), false), (17, (3, 4, 3, 4), false), (41, (1, 30, 1, 8), false), (47, (1, 29, 1, 8), false), (51, (1, 36, 0, 7), false), (84, (1, 31, 2, 8), false), (88, (1, 37, 0, 7), false), (59, (1, 20, 1, 8), false), (63, (1, 38, 0, 7), false), (81, (1, 39, 1, 8), false), (67, (1, 40, 0, 7), false), (70, (1, 41, 2, 7), false), (96, (1, 42, 0, 7), false), (99, (1, 43, 1, 7), false), (103, (1, 44, 2, 7), false), (121, (1, 45, 2, 7), false), (133, (1, 46, 1, 7), false), (151, (2, 9, 1, 0), false), (157, (2, 47, 1, 0), false), (137, (1, 49, 1, 8), false), (145, (1, 52, 2, 7), false), (74, (1, 53, 1, 7), false), (148, (1, 54, 2, 7), false), (124, (1, 55, 0, 7), false), (130, (1, 56, 2, 7), false), (77, (1, 57, 0, 8), false)])
def pg_t8 : String × mj_TL := ("ArrayCalculator$Tokens", [(9, 8, 0, .array .int, 1), (15, 8, 1, .array .int, 1), (18, 8, 2, .array .long, 1), (39, 8, 3, .int, 0), (42, 8, 4, .int, 0), (22, 8, 5, .array .int, 1), (25, 8, 6, .object "ArrayCalculator$Names", 1), (35, 8, 7, .int, 0), (45, 8, 8, .boolean, 0)], [], [(117, 10), (135, 24), (137, 25)], [], [], [], [(3, (0, 0, 0, 0), false), (29, (4, 1, 2, 0), false), (49, (1, 18, 1, 8), false), (74, (1, 19, 1, 8), false), (57, (1, 20, 1, 8), false), (87, (2, 21, 1, 0), true), (91, (2, 22, 1, 0), true), (94, (1, 23, 2, 8), false), (53, (1, 24, 4, 8), false), (98, (1, 25, 1, 8), false), (119, (1, 26, 1, 2), false), (125, (1, 28, 1, 8), false), (128, (1, 29, 1, 8), false), (64, (1, 30, 1, 8), false), (131, (1, 31, 2, 8), false), (102, (1, 32, 1, 8), false), (139, (2, 33, 1, 0), false), (105, (4, 7, 1, 0), false), (61, (1, 39, 1, 8), false), (68, (4, 4, 2, 0), false), (71, (4, 3, 2, 0), false), (77, (2, 50, 1, 0), false), (83, (2, 51, 2, 0), false)])
def pg_t9 : String × mj_TL := ("ArrayCalculator$TwoAct", [(102, 10, 0, .int, 2), (143, 10, 1, .long, 2), (94, 10, 5, .int, 2), (113, 10, 6, .int, 2), (12, 9, 0, .object "ArrayCalculator$Paired", 1), (18, 9, 1, .array .int, 1), (22, 9, 2, .array .long, 1), (28, 9, 3, .array (.object "ArrayCalculator$Value"), 1), (197, 9, 4, .int, 0)], [], [(161, 12), (147, -120), (149, 120), (195, 32)], [(9, 5, [.int 0, .int 0, .null, .int 0, .int 0, .int 0, .int 0, .int 0, .null, .null, .int 0, .int 0]), (26, 10, [.int 0, .long 0, .null, .null, .int 0, .int 0, .int 0, .int 0, .int 0])], [(26, 4)], [], [(3, (0, 0, 0, 0), false), (11, (3, 8, 0, 5), false), (32, (2, 124, 2, 0), true), (36, (2, 9, 1, 0), false), (40, (2, 143, 2, 0), false), (88, (1, 144, 0, 10), false), (91, (1, 92, 0, 10), false), (81, (2, 103, 1, 0), false), (98, (2, 145, 2, 0), false), (127, (1, 84, 0, 10), false), (129, (1, 78, 1, 10), false), (105, (2, 51, 2, 0), false), (109, (2, 47, 1, 0), false), (116, (2, 85, 3, 0), false), (120, (1, 76, 1, 10), false), (123, (2, 121, 1, 0), false), (44, (1, 146, 2, 9), false), (133, (1, 90, 0, 10), false), (136, (2, 147, 3, 0), false), (163, (2, 99, 1, 0), true), (140, (1, 75, 0, 10), false), (151, (4, 5, 1, 0), false), (157, (1, 113, 2, 10), false), (47, (1, 148, 2, 9), false), (167, (4, 4, 2, 0), false), (171, (4, 3, 2, 0), false), (174, (4, 0, 2, 0), false), (177, (4, 2, 1, 0), false), (50, (2, 149, 2, 0), false), (180, (2, 150, 3, 0), false), (184, (2, 123, 4, 0), false), (53, (1, 151, 2, 9), false), (188, (2, 152, 2, 0), false), (192, (1, 153, 2, 9), false), (56, (2, 154, 2, 0), false), (59, (1, 155, 2, 9), false), (62, (1, 156, 2, 9), false), (199, (1, 157, 5, 9), false), (209, (2, 95, 2, 0), false), (213, (2, 93, 2, 0), false), (203, (2, 101, 2, 0), false), (65, (1, 86, 1, 5), false), (69, (1, 87, 3, 5), true), (73, (1, 100, 0, 5), false), (77, (1, 102, 0, 5), false), (85, (1, 104, 2, 5), true), (216, (2, 171, 2, 0), false), (220, (1, 172, 1, 9), false), (224, (1, 173, 2, 9), false), (228, (1, 174, 1, 9), false)])
def pg_t10 : String × mj_TL := ("ArrayCalculator$Value", [(9, 10, 0, .int, 1), (15, 10, 1, .long, 1), (19, 10, 2, .array .long, 1), (23, 10, 3, .array (.object "ArrayCalculator$Value"), 1), (27, 10, 4, .int, 1), (30, 10, 5, .int, 1), (33, 10, 6, .int, 1), (36, 10, 7, .int, 1), (39, 10, 8, .int, 1)], [], [(54, -2147483648), (56, 2147483647)], [(10, 10, [.int 0, .long 0, .null, .null, .int 0, .int 0, .int 0, .int 0, .int 0])], [(10, 4)], [(42, 1, true)], [(45, (3, 10, 6, 10), false), (3, (0, 0, 0, 0), false), (48, (2, 48, 3, 0), false), (65, (1, 77, 1, 10), false), (69, (1, 75, 0, 10), false), (72, (1, 78, 1, 10), false), (58, (3, 110, 3, 10), false), (76, (2, 103, 1, 0), false), (79, (1, 114, 2, 10), false), (83, (1, 115, 2, 10), false), (86, (2, 99, 1, 0), true), (90, (2, 51, 2, 0), false), (108, (1, 76, 1, 10), false), (104, (2, 124, 2, 0), false), (93, (1, 92, 0, 10), false), (96, (1, 84, 0, 10), false), (100, (2, 125, 5, 0), false), (111, (2, 126, 3, 0), false), (61, (1, 90, 0, 10), false)])
def pg_t11 : String × mj_TL := ("ArrayCalculator", [(158, 10, 0, .int, 2), (176, 10, 1, .long, 2), (161, 10, 5, .int, 2), (167, 10, 6, .int, 2), (170, 10, 8, .int, 2), (9, 11, 0, .array .int, 1), (77, 11, 1, .int, 0), (16, 11, 2, .object "ArrayCalculator$Names", 1), (25, 11, 3, .object "ArrayCalculator$Tokens", 1), (34, 11, 4, .object "ArrayCalculator$Reader", 1), (38, 11, 5, .array (.object "ArrayCalculator$Names"), 1), (47, 11, 6, .object "ArrayCalculator$Machine", 1), (56, 11, 7, .object "ArrayCalculator$Printer", 1), (66, 11, 8, .object "ArrayCalculator$Value", 0), (70, 11, 9, .object "ArrayCalculator$Value", 0), (134, 11, 10, .int, 0), (73, 11, 11, .int, 0), (131, 11, 12, .int, 0)], [], [(206, 48), (208, 57), (212, -2147483648), (214, 2147483647)], [(13, 2, [.null, .null, .int 0, .null, .null, .int 0]), (20, 8, [.null, .null, .null, .int 0, .int 0, .null, .null, .int 0, .int 0]), (29, 7, [.null, .int 0, .int 0, .int 0, .long 0, .null, .null]), (42, 1, [.null, .null, .null, .null, .int 0, .null, .int 0, .int 0, .int 0, .int 0, .int 0, .int 0, .null, .null, .null, .null, .int 0, .null, .null]), (51, 6, [.null, .null, .int 0])], [(13, 6)], [], [(1, (0, 0, 0, 0), false), (15, (3, 1, 0, 2), false), (22, (3, 2, 2, 8), false), (31, (3, 3, 1, 7), false), (44, (3, 5, 1, 1), false), (53, (3, 7, 1, 6), false), (60, (2, 9, 1, 0), false), (80, (1, 14, 1, 11), false), (83, (1, 16, 0, 1), false), (87, (1, 17, 1, 8), false), (90, (1, 35, 0, 7), false), (94, (1, 58, 0, 7), false), (97, (1, 59, 2, 11), false), (101, (1, 60, 0, 11), false), (108, (1, 61, 0, 7), false), (137, (1, 62, 0, 2), false), (111, (1, 63, 0, 7), false), (140, (1, 64, 1, 2), false), (104, (1, 39, 1, 8), false), (115, (1, 67, 0, 7), false), (119, (1, 68, 2, 2), false), (123, (1, 70, 1, 1), false), (127, (1, 176, 1, 11), false), (144, (1, 177, 0, 1), false), (147, (1, 178, 0, 1), false), (150, (1, 179, 2, 2), false), (154, (1, 66, 1, 2), false), (164, (1, 76, 1, 10), false), (173, (1, 75, 0, 10), false), (180, (1, 78, 1, 10), false), (184, (1, 134, 0, 6), false), (187, (1, 135, 1, 6), true), (190, (1, 140, 0, 6), false), (193, (1, 141, 1, 6), false), (196, (1, 189, 1, 2), false), (199, (1, 192, 1, 2), false), (202, (1, 194, 2, 2), false)])
def pg_t12 : String × mj_TL := ("ArrayCalculatorModel", [(8, 12, 0, .array .long, 1), (15, 12, 1, .array .int, 1), (19, 12, 2, .array .int, 1), (119, 12, 3, .int, 0), (102, 12, 4, .int, 0), (181, 12, 5, .int, 0), (22, 12, 6, .int, 0), (193, 12, 7, .int, 0), (27, 12, 8, .int, 0), (196, 12, 9, .int, 0), (184, 12, 10, .int, 0), (187, 12, 11, .int, 0), (30, 12, 12, .array .int, 1), (202, 12, 13, .int, 0), (33, 12, 14, .array .int, 1), (36, 12, 15, .array .byte, 1), (40, 12, 16, .array .byte, 1), (281, 12, 17, .int, 0), (577, 12, 18, .int, 0), (43, 12, 19, .array .long, 1), (46, 12, 20, .array .long, 1), (49, 12, 21, .array .int, 1), (52, 12, 22, .array .int, 1), (357, 12, 23, .int, 0), (360, 12, 24, .int, 0), (55, 12, 25, .array .long, 1), (58, 12, 26, .array .int, 1), (61, 12, 27, .array .int, 1), (64, 12, 28, .array .int, 1), (67, 12, 29, .array .boolean, 1), (109, 12, 30, .int, 0), (112, 12, 31, .int, 0), (71, 12, 32, .array .byte, 1), (501, 12, 33, .int, 0), (370, 12, 34, .int, 0), (383, 12, 35, .int, 0), (376, 12, 36, .boolean, 0), (402, 12, 37, .int, 0), (380, 12, 38, .int, 0), (386, 12, 39, .int, 0), (414, 12, 40, .int, 0), (417, 12, 41, .long, 0), (421, 12, 42, .long, 0), (75, 12, 43, .array .int, 1), (78, 12, 44, .array .int, 1), (81, 12, 45, .array .int, 1), (84, 12, 46, .array .int, 1), (87, 12, 47, .array .int, 1), (90, 12, 48, .array .int, 1), (93, 12, 49, .array .long, 1), (424, 12, 50, .int, 0), (430, 12, 51, .int, 0), (427, 12, 52, .int, 0), (478, 12, 53, .int, 0), (492, 12, 54, .int, 0), (498, 12, 55, .int, 0), (487, 12, 56, .long, 0), (495, 12, 57, .int, 0), (96, 12, 58, .int, 0), (99, 12, 59, .int, 0)], [(7, 820000), (14, 310000), (26, 500000), (74, 84000)], [(279, 10), (275, 48), (239, 120), (490, 121), (130, -2147483648), (132, 2147483647), (350, -120), (352, 12), (271, 32), (253, -1), (262, -9223372036854775808), (273, 95), (277, 57), (287, -10), (293, 126), (295, 39)], [], [], [], [(1, (0, 0, 0, 0), false), (105, (1, 196, 2, 12), false), (126, (1, 197, 2, 12), false), (122, (1, 198, 3, 12), false), (115, (1, 199, 4, 12), false), (504, (1, 201, 1, 12), false), (507, (1, 203, 1, 12), false), (475, (1, 204, 1, 12), false), (437, (1, 205, 0, 12), false), (373, (1, 206, 1, 12), false), (389, (1, 207, 1, 12), false), (392, (1, 208, 1, 12), false), (396, (1, 209, 1, 12), false), (399, (1, 210, 0, 12), false), (363, (1, 211, 1, 12), false), (405, (1, 212, 0, 12), false), (408, (2, 213, 1, 0), false), (411, (2, 214, 1, 0), false), (481, (1, 215, 1, 12), false), (440, (1, 216, 1, 12), false), (484, (1, 217, 1, 12), false), (469, (1, 218, 1, 12), false), (433, (1, 219, 0, 12), false), (457, (1, 220, 0, 12), false), (460, (1, 221, 0, 12), false), (443, (1, 222, 0, 12), false), (447, (1, 223, 0, 12), false), (205, (1, 224, 1, 12), false), (134, (1, 225, 1, 12), false), (138, (1, 226, 2, 12), false), (142, (2, 227, 1, 0), false), (450, (1, 228, 5, 12), false), (454, (1, 229, 1, 12), false), (466, (1, 230, 1, 12), false), (463, (1, 231, 1, 12), false), (472, (1, 232, 0, 12), false), (190, (1, 233, 2, 12), false), (510, (1, 234, 0, 12), false), (513, (1, 235, 1, 12), false), (367, (1, 236, 1, 12), false), (516, (1, 237, 0, 12), false), (519, (1, 238, 2, 12), false), (523, (1, 239, 1, 12), false), (541, (1, 240, 1, 12), false), (547, (1, 241, 2, 12), false), (551, (1, 242, 1, 12), false), (264, (1, 243, 1, 12), false), (560, (1, 244, 2, 12), false), (146, (1, 245, 1, 12), false), (208, (1, 246, 2, 12), false), (165, (1, 247, 1, 12), false), (162, (1, 248, 1, 12), false), (156, (1, 249, 1, 12), false), (153, (1, 250, 2, 12), false), (168, (1, 251, 1, 12), false), (171, (2, 252, 2, 0), false), (199, (1, 253, 2, 12), false), (554, (1, 254, 1, 12), false), (557, (1, 255, 4, 12), false), (177, (1, 256, 2, 12), false), (174, (1, 257, 1, 12), false), (149, (1, 258, 1, 12), false), (304, (1, 259, 3, 12), false), (347, (1, 260, 1, 12), false), (217, (1, 261, 2, 12), false), (159, (1, 262, 3, 12), false), (268, (1, 263, 1, 12), false), (255, (1, 264, 2, 12), false), (307, (1, 265, 4, 12), false), (223, (1, 266, 2, 12), false), (311, (1, 267, 3, 12), false), (314, (1, 268, 3, 12), false), (354, (1, 269, 2, 12), false), (317, (1, 270, 3, 12), false), (320, (1, 271, 3, 12), false), (323, (1, 272, 3, 12), false), (326, (1, 273, 3, 12), false), (344, (1, 274, 3, 12), false), (340, (1, 275, 3, 12), false), (329, (1, 276, 4, 12), false), (333, (2, 277, 1, 0), false), (336, (1, 278, 6, 12), false), (544, (1, 279, 4, 12), false), (563, (1, 280, 4, 12), false), (567, (1, 281, 3, 12), false), (211, (1, 282, 1, 12), false), (214, (1, 283, 3, 12), false), (258, (2, 284, 2, 0), false), (220, (1, 285, 2, 12), false), (230, (1, 286, 1, 12), false), (226, (1, 287, 2, 12), false), (233, (1, 288, 2, 12), false), (236, (1, 289, 2, 12), false), (241, (1, 290, 1, 12), false), (244, (1, 291, 2, 12), false), (247, (1, 292, 1, 12), false), (250, (1, 293, 2, 12), false), (301, (1, 294, 1, 12), false), (289, (1, 295, 1, 12), false), (284, (1, 296, 1, 12), false), (297, (1, 297, 3, 12), false), (570, (1, 298, 5, 12), false), (573, (1, 299, 6, 12), false), (526, (1, 300, 1, 12), false), (532, (1, 301, 4, 12), false), (535, (1, 302, 4, 12), false), (538, (1, 303, 4, 12), false), (529, (1, 304, 2, 12), false)])
def pg_t13 : String × mj_TL := ("ArrayCalculatorLaw", [], [], [], [(7, 11, [.null, .int 0, .null, .null, .null, .null, .null, .null, .null, .null, .int 0, .int 0, .int 0]), (10, 12, [.null, .null, .null, .int 0, .int 0, .int 0, .int 0, .int 0, .int 0, .int 0, .int 0, .int 0, .null, .int 0, .null, .null, .null, .int 0, .int 0, .null, .null, .null, .null, .int 0, .int 0, .null, .null, .null, .null, .null, .int 0, .int 0, .null, .int 0, .int 0, .int 0, .int 0, .int 0, .int 0, .int 0, .int 0, .long 0, .long 0, .null, .null, .null, .null, .null, .null, .null, .int 0, .int 0, .int 0, .int 0, .int 0, .int 0, .long 0, .int 0, .int 0, .int 0])], [], [], [(9, (3, 0, 0, 11), false), (13, (1, 13, 5, 11), false), (18, (1, 15, 1, 11), false), (23, (1, 181, 1, 11), false), (27, (1, 182, 2, 11), false), (32, (1, 183, 0, 11), false), (37, (1, 184, 1, 11), false), (41, (1, 185, 1, 11), false), (46, (1, 186, 0, 11), false), (50, (1, 187, 1, 11), false), (54, (1, 188, 1, 11), false), (59, (1, 190, 1, 11), false), (63, (1, 191, 1, 11), false), (67, (1, 193, 3, 11), false), (12, (3, 195, 0, 12), false), (17, (1, 200, 5, 12), false), (22, (1, 202, 1, 12), false), (26, (1, 305, 1, 12), false), (31, (1, 306, 2, 12), false), (36, (1, 307, 0, 12), false), (40, (1, 308, 1, 12), false), (45, (1, 309, 1, 12), false), (49, (1, 310, 0, 12), false), (53, (1, 311, 1, 12), false), (58, (1, 312, 1, 12), false), (62, (1, 313, 1, 12), false), (66, (1, 314, 1, 12), false), (71, (1, 315, 3, 12), false)])
def pg_t14 : String × mj_TL := ("java/lang/Long", [], [], [], [], [], [], [])
def pg_t15 : String × mj_TL := ("java/util/Arrays", [], [], [], [], [], [], [(319, (4, 8, 0, 0), false), (320, (4, 9, 0, 0), false), (304, (4, 1, 2, 0), false), (150, (4, 6, 5, 0), false)])
def pg_TL : List (String × mj_TL) := [pg_t0, pg_t1, pg_t2, pg_t3, pg_t4, pg_t5, pg_t6, pg_t7, pg_t8, pg_t9, pg_t10, pg_t11, pg_t12, pg_t13, pg_t14, pg_t15]
