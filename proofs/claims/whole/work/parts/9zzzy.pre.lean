/-! printed by wip/wlaw.py: the heap behind both constructors, and the way there -/
def cT : List mj_E := [
  .inr (11, [.ref 3, .int (0 : Int32), .ref 4, .ref 9, .ref 13, .ref 15, .ref 16, .ref 98, .ref 101, .ref 101, .int (0 : Int32), .int (-1 : Int32), .int (0 : Int32)]),
  .inl (0, 200, .inl (fun _ => 0)),
  .inr (2, [.ref 5, .ref 6, .int (0 : Int32), .ref 7, .ref 8, .int (0 : Int32)]),
  .inl (1, 40, .inr (.inl (fun _ => 0))),
  .inl (4, 40, .inr (.inr (.inr (.inr (fun _ => none))))),
  .inl (1, 40, .inr (.inl (fun _ => 0))),
  .inl (5, 40, .inr (.inr (.inr (.inr (fun _ => none))))),
  .inr (8, [.ref 10, .ref 11, .ref 12, .int (0 : Int32), .int (0 : Int32), .ref 3, .ref 4, .int (0 : Int32), .int (0 : Int32)]),
  .inl (0, 201, .inl (fun _ => 0)),
  .inl (0, 201, .inl (fun _ => 0)),
  .inl (1, 201, .inr (.inl (fun _ => 0))),
  .inr (7, [.ref 9, .int (0 : Int32), .int (0 : Int32), .int (0 : Int32), .long (0 : Int64), .null, .ref 14]),
  .inr (4, [.int (0 : Int32), .int (0 : Int32), .int (0 : Int32), .long (0 : Int64), .int (0 : Int32), .int (0 : Int32), .int (0 : Int32), .null, .null, .null]),
  .inl (6, 4, .inr (.inr (.inr (.inr (fun _ => none))))),
  .inr (1, [.ref 4, .ref 17, .ref 26, .ref 32, .int (0 : Int32), .ref 33, .int (0 : Int32), .int (0 : Int32), .int (0 : Int32), .int (500000 : Int32), .int (0 : Int32), .int (0 : Int32), .null, .null, .null, .null, .int (0 : Int32), .null, .null]),
  .inr (3, [.ref 18, .ref 19, .ref 20, .ref 23, .ref 25]),
  .inl (0, 144, .inl (fun _ => 0)),
  .inl (1, 144, .inr (.inl (fun _ => 0))),
  .inr (6, [.ref 22, .ref 21, .int (0 : Int32)]),
  .inl (2, 20, .inl (fun _ => 0)),
  .inl (2, 121, .inl (fun _ => 0)),
  .inr (5, [.int (0 : Int32), .int (0 : Int32), .ref 24, .int (0 : Int32), .int (0 : Int32), .int (0 : Int32), .int (0 : Int32), .int (0 : Int32), .ref 1, .null, .int (0 : Int32), .int (0 : Int32)]),
  .inl (1, 1000, .inr (.inl (fun _ => 0))),
  .inr (10, [.int (0 : Int32), .long (0 : Int64), .ref 1, .null, .int (0 : Int32), .int (1 : Int32), .int (0 : Int32), .int (1 : Int32), .int (0 : Int32)]),
  .inr (9, [.ref 27, .ref 29, .ref 30, .ref 31, .int (0 : Int32)]),
  .inr (5, [.int (0 : Int32), .int (0 : Int32), .ref 28, .int (0 : Int32), .int (0 : Int32), .int (0 : Int32), .int (0 : Int32), .int (0 : Int32), .ref 1, .null, .int (0 : Int32), .int (0 : Int32)]),
  .inl (1, 1000, .inr (.inl (fun _ => 0))),
  .inl (0, 144, .inl (fun _ => 0)),
  .inl (1, 144, .inr (.inl (fun _ => 0))),
  .inl (4, 120, .inr (.inr (.inr (.inr (fun _ => none))))),
  .inl (4, 8192, .inr (.inr (.inr (.inr (fun _ => none))))),
  .inl (7, 64, .inr (.inr (.inr (.inr (va_up (va_up (va_up (va_up (va_up (va_up (va_up (va_up (va_up (va_up (va_up (va_up (va_up (va_up (va_up (va_up (va_up (va_up (va_up (va_up (va_up (va_up (va_up (va_up (va_up (va_up (va_up (va_up (va_up (va_up (va_up (va_up (va_up (va_up (va_up (va_up (va_up (va_up (va_up (va_up (va_up (va_up (va_up (va_up (va_up (va_up (va_up (va_up (va_up (va_up (va_up (va_up (va_up (va_up (va_up (va_up (va_up (va_up (va_up (va_up (va_up (va_up (va_up (va_up (fun _ => none) 0 (some 34)) 1 (some 35)) 2 (some 36)) 3 (some 37)) 4 (some 38)) 5 (some 39)) 6 (some 40)) 7 (some 41)) 8 (some 42)) 9 (some 43)) 10 (some 44)) 11 (some 45)) 12 (some 46)) 13 (some 47)) 14 (some 48)) 15 (some 49)) 16 (some 50)) 17 (some 51)) 18 (some 52)) 19 (some 53)) 20 (some 54)) 21 (some 55)) 22 (some 56)) 23 (some 57)) 24 (some 58)) 25 (some 59)) 26 (some 60)) 27 (some 61)) 28 (some 62)) 29 (some 63)) 30 (some 64)) 31 (some 65)) 32 (some 66)) 33 (some 67)) 34 (some 68)) 35 (some 69)) 36 (some 70)) 37 (some 71)) 38 (some 72)) 39 (some 73)) 40 (some 74)) 41 (some 75)) 42 (some 76)) 43 (some 77)) 44 (some 78)) 45 (some 79)) 46 (some 80)) 47 (some 81)) 48 (some 82)) 49 (some 83)) 50 (some 84)) 51 (some 85)) 52 (some 86)) 53 (some 87)) 54 (some 88)) 55 (some 89)) 56 (some 90)) 57 (some 91)) 58 (some 92)) 59 (some 93)) 60 (some 94)) 61 (some 95)) 62 (some 96)) 63 (some 97)))))),
  .inr (0, [.int (0 : Int32), .null, .null, .null, .int (0 : Int32), .int (0 : Int32), .int (0 : Int32)]),
  .inr (0, [.int (0 : Int32), .null, .null, .null, .int (0 : Int32), .int (0 : Int32), .int (0 : Int32)]),
  .inr (0, [.int (0 : Int32), .null, .null, .null, .int (0 : Int32), .int (0 : Int32), .int (0 : Int32)]),
  .inr (0, [.int (0 : Int32), .null, .null, .null, .int (0 : Int32), .int (0 : Int32), .int (0 : Int32)]),
  .inr (0, [.int (0 : Int32), .null, .null, .null, .int (0 : Int32), .int (0 : Int32), .int (0 : Int32)]),
  .inr (0, [.int (0 : Int32), .null, .null, .null, .int (0 : Int32), .int (0 : Int32), .int (0 : Int32)]),
  .inr (0, [.int (0 : Int32), .null, .null, .null, .int (0 : Int32), .int (0 : Int32), .int (0 : Int32)]),
  .inr (0, [.int (0 : Int32), .null, .null, .null, .int (0 : Int32), .int (0 : Int32), .int (0 : Int32)]),
  .inr (0, [.int (0 : Int32), .null, .null, .null, .int (0 : Int32), .int (0 : Int32), .int (0 : Int32)]),
  .inr (0, [.int (0 : Int32), .null, .null, .null, .int (0 : Int32), .int (0 : Int32), .int (0 : Int32)]),
  .inr (0, [.int (0 : Int32), .null, .null, .null, .int (0 : Int32), .int (0 : Int32), .int (0 : Int32)]),
  .inr (0, [.int (0 : Int32), .null, .null, .null, .int (0 : Int32), .int (0 : Int32), .int (0 : Int32)]),
  .inr (0, [.int (0 : Int32), .null, .null, .null, .int (0 : Int32), .int (0 : Int32), .int (0 : Int32)]),
  .inr (0, [.int (0 : Int32), .null, .null, .null, .int (0 : Int32), .int (0 : Int32), .int (0 : Int32)]),
  .inr (0, [.int (0 : Int32), .null, .null, .null, .int (0 : Int32), .int (0 : Int32), .int (0 : Int32)]),
  .inr (0, [.int (0 : Int32), .null, .null, .null, .int (0 : Int32), .int (0 : Int32), .int (0 : Int32)]),
  .inr (0, [.int (0 : Int32), .null, .null, .null, .int (0 : Int32), .int (0 : Int32), .int (0 : Int32)]),
  .inr (0, [.int (0 : Int32), .null, .null, .null, .int (0 : Int32), .int (0 : Int32), .int (0 : Int32)]),
  .inr (0, [.int (0 : Int32), .null, .null, .null, .int (0 : Int32), .int (0 : Int32), .int (0 : Int32)]),
  .inr (0, [.int (0 : Int32), .null, .null, .null, .int (0 : Int32), .int (0 : Int32), .int (0 : Int32)]),
  .inr (0, [.int (0 : Int32), .null, .null, .null, .int (0 : Int32), .int (0 : Int32), .int (0 : Int32)]),
  .inr (0, [.int (0 : Int32), .null, .null, .null, .int (0 : Int32), .int (0 : Int32), .int (0 : Int32)]),
  .inr (0, [.int (0 : Int32), .null, .null, .null, .int (0 : Int32), .int (0 : Int32), .int (0 : Int32)]),
  .inr (0, [.int (0 : Int32), .null, .null, .null, .int (0 : Int32), .int (0 : Int32), .int (0 : Int32)]),
  .inr (0, [.int (0 : Int32), .null, .null, .null, .int (0 : Int32), .int (0 : Int32), .int (0 : Int32)]),
  .inr (0, [.int (0 : Int32), .null, .null, .null, .int (0 : Int32), .int (0 : Int32), .int (0 : Int32)]),
  .inr (0, [.int (0 : Int32), .null, .null, .null, .int (0 : Int32), .int (0 : Int32), .int (0 : Int32)]),
  .inr (0, [.int (0 : Int32), .null, .null, .null, .int (0 : Int32), .int (0 : Int32), .int (0 : Int32)]),
  .inr (0, [.int (0 : Int32), .null, .null, .null, .int (0 : Int32), .int (0 : Int32), .int (0 : Int32)]),
  .inr (0, [.int (0 : Int32), .null, .null, .null, .int (0 : Int32), .int (0 : Int32), .int (0 : Int32)]),
  .inr (0, [.int (0 : Int32), .null, .null, .null, .int (0 : Int32), .int (0 : Int32), .int (0 : Int32)]),
  .inr (0, [.int (0 : Int32), .null, .null, .null, .int (0 : Int32), .int (0 : Int32), .int (0 : Int32)]),
  .inr (0, [.int (0 : Int32), .null, .null, .null, .int (0 : Int32), .int (0 : Int32), .int (0 : Int32)]),
  .inr (0, [.int (0 : Int32), .null, .null, .null, .int (0 : Int32), .int (0 : Int32), .int (0 : Int32)]),
  .inr (0, [.int (0 : Int32), .null, .null, .null, .int (0 : Int32), .int (0 : Int32), .int (0 : Int32)]),
  .inr (0, [.int (0 : Int32), .null, .null, .null, .int (0 : Int32), .int (0 : Int32), .int (0 : Int32)]),
  .inr (0, [.int (0 : Int32), .null, .null, .null, .int (0 : Int32), .int (0 : Int32), .int (0 : Int32)]),
  .inr (0, [.int (0 : Int32), .null, .null, .null, .int (0 : Int32), .int (0 : Int32), .int (0 : Int32)]),
  .inr (0, [.int (0 : Int32), .null, .null, .null, .int (0 : Int32), .int (0 : Int32), .int (0 : Int32)]),
  .inr (0, [.int (0 : Int32), .null, .null, .null, .int (0 : Int32), .int (0 : Int32), .int (0 : Int32)]),
  .inr (0, [.int (0 : Int32), .null, .null, .null, .int (0 : Int32), .int (0 : Int32), .int (0 : Int32)]),
  .inr (0, [.int (0 : Int32), .null, .null, .null, .int (0 : Int32), .int (0 : Int32), .int (0 : Int32)]),
  .inr (0, [.int (0 : Int32), .null, .null, .null, .int (0 : Int32), .int (0 : Int32), .int (0 : Int32)]),
  .inr (0, [.int (0 : Int32), .null, .null, .null, .int (0 : Int32), .int (0 : Int32), .int (0 : Int32)]),
  .inr (0, [.int (0 : Int32), .null, .null, .null, .int (0 : Int32), .int (0 : Int32), .int (0 : Int32)]),
  .inr (0, [.int (0 : Int32), .null, .null, .null, .int (0 : Int32), .int (0 : Int32), .int (0 : Int32)]),
  .inr (0, [.int (0 : Int32), .null, .null, .null, .int (0 : Int32), .int (0 : Int32), .int (0 : Int32)]),
  .inr (0, [.int (0 : Int32), .null, .null, .null, .int (0 : Int32), .int (0 : Int32), .int (0 : Int32)]),
  .inr (0, [.int (0 : Int32), .null, .null, .null, .int (0 : Int32), .int (0 : Int32), .int (0 : Int32)]),
  .inr (0, [.int (0 : Int32), .null, .null, .null, .int (0 : Int32), .int (0 : Int32), .int (0 : Int32)]),
  .inr (0, [.int (0 : Int32), .null, .null, .null, .int (0 : Int32), .int (0 : Int32), .int (0 : Int32)]),
  .inr (0, [.int (0 : Int32), .null, .null, .null, .int (0 : Int32), .int (0 : Int32), .int (0 : Int32)]),
  .inr (0, [.int (0 : Int32), .null, .null, .null, .int (0 : Int32), .int (0 : Int32), .int (0 : Int32)]),
  .inr (0, [.int (0 : Int32), .null, .null, .null, .int (0 : Int32), .int (0 : Int32), .int (0 : Int32)]),
  .inr (0, [.int (0 : Int32), .null, .null, .null, .int (0 : Int32), .int (0 : Int32), .int (0 : Int32)]),
  .inr (0, [.int (0 : Int32), .null, .null, .null, .int (0 : Int32), .int (0 : Int32), .int (0 : Int32)]),
  .inr (0, [.int (0 : Int32), .null, .null, .null, .int (0 : Int32), .int (0 : Int32), .int (0 : Int32)]),
  .inr (0, [.int (0 : Int32), .null, .null, .null, .int (0 : Int32), .int (0 : Int32), .int (0 : Int32)]),
  .inr (0, [.int (0 : Int32), .null, .null, .null, .int (0 : Int32), .int (0 : Int32), .int (0 : Int32)]),
  .inr (0, [.int (0 : Int32), .null, .null, .null, .int (0 : Int32), .int (0 : Int32), .int (0 : Int32)]),
  .inr (0, [.int (0 : Int32), .null, .null, .null, .int (0 : Int32), .int (0 : Int32), .int (0 : Int32)]),
  .inr (0, [.int (0 : Int32), .null, .null, .null, .int (0 : Int32), .int (0 : Int32), .int (0 : Int32)]),
  .inr (0, [.int (0 : Int32), .null, .null, .null, .int (0 : Int32), .int (0 : Int32), .int (0 : Int32)]),
  .inr (0, [.int (0 : Int32), .null, .null, .null, .int (0 : Int32), .int (0 : Int32), .int (0 : Int32)]),
  .inr (6, [.ref 100, .ref 99, .int (0 : Int32)]),
  .inl (2, 20, .inl (fun _ => 0)),
  .inl (2, 400, .inl (fun _ => 0)),
  .inr (10, [.int (0 : Int32), .long (0 : Int64), .ref 1, .null, .int (0 : Int32), .int (1 : Int32), .int (0 : Int32), .int (1 : Int32), .int (0 : Int32)])]
def rT : List mj_E := [
  .inr (12, [.ref 103, .ref 104, .ref 105, .int (1 : Int32), .int (4 : Int32), .int (0 : Int32), .int (-1 : Int32), .int (0 : Int32), .int (500000 : Int32), .int (0 : Int32), .int (0 : Int32), .int (0 : Int32), .ref 106, .int (0 : Int32), .ref 107, .ref 108, .ref 109, .int (0 : Int32), .int (0 : Int32), .ref 110, .ref 111, .ref 112, .ref 113, .int (0 : Int32), .int (0 : Int32), .ref 114, .ref 115, .ref 116, .ref 117, .ref 118, .int (3 : Int32), .int (3 : Int32), .ref 119, .int (0 : Int32), .int (0 : Int32), .int (0 : Int32), .int (0 : Int32), .int (0 : Int32), .int (0 : Int32), .int (0 : Int32), .int (0 : Int32), .long (0 : Int64), .long (0 : Int64), .ref 120, .ref 121, .ref 122, .ref 123, .ref 124, .ref 125, .ref 126, .int (0 : Int32), .int (0 : Int32), .int (0 : Int32), .int (0 : Int32), .int (0 : Int32), .int (0 : Int32), .long (0 : Int64), .int (0 : Int32), .int (-1 : Int32), .int (-1 : Int32)]),
  .inl (1, 820000, .inr (.inl (vp_updL (fun _ => 0) 0 (0 : Int64)))),
  .inl (0, 310000, .inl (upd (fun _ => 0) 3 (0 : Int32))),
  .inl (0, 310000, .inl (upd (fun _ => 0) 3 (8 : Int32))),
  .inl (0, 8192, .inl (fun _ => 0)),
  .inl (0, 260, .inl (fun _ => 0)),
  .inl (2, 400, .inl (fun _ => 0)),
  .inl (2, 400, .inl (fun _ => 0)),
  .inl (1, 40, .inr (.inl (fun _ => 0))),
  .inl (1, 40, .inr (.inl (fun _ => 0))),
  .inl (0, 40, .inl (fun _ => 0)),
  .inl (0, 40, .inl (fun _ => 0)),
  .inl (1, 320, .inr (.inl (fun _ => 0))),
  .inl (0, 320, .inl (fun _ => 0)),
  .inl (0, 4, .inl (fun _ => 0)),
  .inl (0, 4, .inl (fun _ => 0)),
  .inl (3, 4, .inl (fun _ => 0)),
  .inl (2, 220, .inl (fun _ => 0)),
  .inl (0, 84000, .inl (fun _ => 0)),
  .inl (0, 84000, .inl (fun _ => 0)),
  .inl (0, 84000, .inl (fun _ => 0)),
  .inl (0, 84000, .inl (fun _ => 0)),
  .inl (0, 84000, .inl (fun _ => 0)),
  .inl (0, 84000, .inl (fun _ => 0)),
  .inl (1, 84000, .inr (.inl (fun _ => 0)))]
theorem dm_L_0 : mj_dec code 0 = some (.new 7, 3) := by decide +kernel
theorem dm_L_3 : mj_dec code 3 = some (.dup, 1) := by decide +kernel
theorem dm_L_4 : mj_dec code 4 = some (.invokespecial 9, 3) := by decide +kernel
theorem dm_L_7 : mj_dec code 7 = some (.astore_n 1, 1) := by decide +kernel
theorem dm_L_8 : mj_dec code 8 = some (.new 10, 3) := by decide +kernel
theorem dm_L_11 : mj_dec code 11 = some (.dup, 1) := by decide +kernel
theorem dm_L_12 : mj_dec code 12 = some (.invokespecial 12, 3) := by decide +kernel
theorem dm_L_15 : mj_dec code 15 = some (.astore_n 2, 1) := by decide +kernel
theorem dm_L_16 : mj_dec code 16 = some (.iconst 0, 1) := by decide +kernel
theorem dm_L_17 : mj_dec code 17 = some (.istore_n 3, 1) := by decide +kernel
set_option maxRecDepth 20000 in
theorem pm_X11_init : mj_mmof pg_ms 0 = some ((⟨"ArrayCalculator", "<init>", "()V"⟩, prog_1_method_1_code, 1, (Option.none : Option Jvm.ClassFile.FieldType)), 11, true, mj_dec prog_1_method_1_code) := rfl
theorem dm_X11_init_0 : mj_dec prog_1_method_1_code 0 = some (.aload_n 0, 1) := by decide +kernel
theorem dm_X11_init_1 : mj_dec prog_1_method_1_code 1 = some (.invokespecial 1, 3) := by decide +kernel
theorem dm_X11_init_4 : mj_dec prog_1_method_1_code 4 = some (.aload_n 0, 1) := by decide +kernel
theorem dm_X11_init_5 : mj_dec prog_1_method_1_code 5 = some (.sipush 200, 3) := by decide +kernel
theorem dm_X11_init_8 : mj_dec prog_1_method_1_code 8 = some (.newarray .int, 2) := by decide +kernel
theorem dm_X11_init_10 : mj_dec prog_1_method_1_code 10 = some (.putfield 9, 3) := by decide +kernel
theorem dm_X11_init_13 : mj_dec prog_1_method_1_code 13 = some (.aload_n 0, 1) := by decide +kernel
theorem dm_X11_init_14 : mj_dec prog_1_method_1_code 14 = some (.new 13, 3) := by decide +kernel
theorem dm_X11_init_17 : mj_dec prog_1_method_1_code 17 = some (.dup, 1) := by decide +kernel
theorem dm_X11_init_18 : mj_dec prog_1_method_1_code 18 = some (.invokespecial 15, 3) := by decide +kernel
theorem dm_X11_init_21 : mj_dec prog_1_method_1_code 21 = some (.putfield 16, 3) := by decide +kernel
theorem dm_X11_init_24 : mj_dec prog_1_method_1_code 24 = some (.aload_n 0, 1) := by decide +kernel
theorem dm_X11_init_25 : mj_dec prog_1_method_1_code 25 = some (.new 20, 3) := by decide +kernel
theorem dm_X11_init_28 : mj_dec prog_1_method_1_code 28 = some (.dup, 1) := by decide +kernel
theorem dm_X11_init_29 : mj_dec prog_1_method_1_code 29 = some (.aload_n 0, 1) := by decide +kernel
theorem dm_X11_init_30 : mj_dec prog_1_method_1_code 30 = some (.getfield 9, 3) := by decide +kernel
theorem dm_X11_init_33 : mj_dec prog_1_method_1_code 33 = some (.aload_n 0, 1) := by decide +kernel
theorem dm_X11_init_34 : mj_dec prog_1_method_1_code 34 = some (.getfield 16, 3) := by decide +kernel
theorem dm_X11_init_37 : mj_dec prog_1_method_1_code 37 = some (.invokespecial 22, 3) := by decide +kernel
theorem dm_X11_init_40 : mj_dec prog_1_method_1_code 40 = some (.putfield 25, 3) := by decide +kernel
theorem dm_X11_init_43 : mj_dec prog_1_method_1_code 43 = some (.aload_n 0, 1) := by decide +kernel
theorem dm_X11_init_44 : mj_dec prog_1_method_1_code 44 = some (.new 29, 3) := by decide +kernel
theorem dm_X11_init_47 : mj_dec prog_1_method_1_code 47 = some (.dup, 1) := by decide +kernel
theorem dm_X11_init_48 : mj_dec prog_1_method_1_code 48 = some (.aload_n 0, 1) := by decide +kernel
theorem dm_X11_init_49 : mj_dec prog_1_method_1_code 49 = some (.getfield 25, 3) := by decide +kernel
theorem dm_X11_init_52 : mj_dec prog_1_method_1_code 52 = some (.invokespecial 31, 3) := by decide +kernel
theorem dm_X11_init_55 : mj_dec prog_1_method_1_code 55 = some (.putfield 34, 3) := by decide +kernel
theorem dm_X11_init_58 : mj_dec prog_1_method_1_code 58 = some (.aload_n 0, 1) := by decide +kernel
theorem dm_X11_init_59 : mj_dec prog_1_method_1_code 59 = some (.iconst 4, 1) := by decide +kernel
theorem dm_X11_init_60 : mj_dec prog_1_method_1_code 60 = some (.anewarray 13, 3) := by decide +kernel
theorem dm_X11_init_63 : mj_dec prog_1_method_1_code 63 = some (.putfield 38, 3) := by decide +kernel
theorem dm_X11_init_66 : mj_dec prog_1_method_1_code 66 = some (.aload_n 0, 1) := by decide +kernel
theorem dm_X11_init_67 : mj_dec prog_1_method_1_code 67 = some (.new 42, 3) := by decide +kernel
theorem dm_X11_init_70 : mj_dec prog_1_method_1_code 70 = some (.dup, 1) := by decide +kernel
theorem dm_X11_init_71 : mj_dec prog_1_method_1_code 71 = some (.aload_n 0, 1) := by decide +kernel
theorem dm_X11_init_72 : mj_dec prog_1_method_1_code 72 = some (.getfield 16, 3) := by decide +kernel
theorem dm_X11_init_75 : mj_dec prog_1_method_1_code 75 = some (.invokespecial 44, 3) := by decide +kernel
theorem dm_X11_init_78 : mj_dec prog_1_method_1_code 78 = some (.putfield 47, 3) := by decide +kernel
theorem dm_X11_init_81 : mj_dec prog_1_method_1_code 81 = some (.aload_n 0, 1) := by decide +kernel
theorem dm_X11_init_82 : mj_dec prog_1_method_1_code 82 = some (.new 51, 3) := by decide +kernel
theorem dm_X11_init_85 : mj_dec prog_1_method_1_code 85 = some (.dup, 1) := by decide +kernel
theorem dm_X11_init_86 : mj_dec prog_1_method_1_code 86 = some (.sipush 400, 3) := by decide +kernel
theorem dm_X11_init_89 : mj_dec prog_1_method_1_code 89 = some (.invokespecial 53, 3) := by decide +kernel
theorem dm_X11_init_92 : mj_dec prog_1_method_1_code 92 = some (.putfield 56, 3) := by decide +kernel
theorem dm_X11_init_95 : mj_dec prog_1_method_1_code 95 = some (.aload_n 0, 1) := by decide +kernel
theorem dm_X11_init_96 : mj_dec prog_1_method_1_code 96 = some (.lconst 0, 1) := by decide +kernel
theorem dm_X11_init_97 : mj_dec prog_1_method_1_code 97 = some (.invokestatic 60, 3) := by decide +kernel
theorem dm_X11_init_100 : mj_dec prog_1_method_1_code 100 = some (.putfield 66, 3) := by decide +kernel
theorem dm_X11_init_103 : mj_dec prog_1_method_1_code 103 = some (.aload_n 0, 1) := by decide +kernel
theorem dm_X11_init_104 : mj_dec prog_1_method_1_code 104 = some (.aload_n 0, 1) := by decide +kernel
theorem dm_X11_init_105 : mj_dec prog_1_method_1_code 105 = some (.getfield 66, 3) := by decide +kernel
theorem dm_X11_init_108 : mj_dec prog_1_method_1_code 108 = some (.putfield 70, 3) := by decide +kernel
theorem dm_X11_init_111 : mj_dec prog_1_method_1_code 111 = some (.aload_n 0, 1) := by decide +kernel
theorem dm_X11_init_112 : mj_dec prog_1_method_1_code 112 = some (.iconst (-1), 1) := by decide +kernel
theorem dm_X11_init_113 : mj_dec prog_1_method_1_code 113 = some (.putfield 73, 3) := by decide +kernel
theorem dm_X11_init_116 : mj_dec prog_1_method_1_code 116 = some (.return_, 1) := by decide +kernel
set_option maxRecDepth 20000 in
theorem pm_X8_init : mj_mmof pg_ms 2 = some ((⟨"ArrayCalculator$Tokens", "<init>", "([ILArrayCalculator$Names;)V"⟩, prog_10_method_1_code, 3, (Option.none : Option Jvm.ClassFile.FieldType)), 8, true, mj_dec prog_10_method_1_code) := rfl
theorem dm_X8_init_0 : mj_dec prog_10_method_1_code 0 = some (.aload_n 0, 1) := by decide +kernel
theorem dm_X8_init_1 : mj_dec prog_10_method_1_code 1 = some (.invokespecial 3, 3) := by decide +kernel
theorem dm_X8_init_4 : mj_dec prog_10_method_1_code 4 = some (.aload_n 0, 1) := by decide +kernel
theorem dm_X8_init_5 : mj_dec prog_10_method_1_code 5 = some (.sipush 201, 3) := by decide +kernel
theorem dm_X8_init_8 : mj_dec prog_10_method_1_code 8 = some (.newarray .int, 2) := by decide +kernel
theorem dm_X8_init_10 : mj_dec prog_10_method_1_code 10 = some (.putfield 9, 3) := by decide +kernel
theorem dm_X8_init_13 : mj_dec prog_10_method_1_code 13 = some (.aload_n 0, 1) := by decide +kernel
theorem dm_X8_init_14 : mj_dec prog_10_method_1_code 14 = some (.sipush 201, 3) := by decide +kernel
theorem dm_X8_init_17 : mj_dec prog_10_method_1_code 17 = some (.newarray .int, 2) := by decide +kernel
theorem dm_X8_init_19 : mj_dec prog_10_method_1_code 19 = some (.putfield 15, 3) := by decide +kernel
theorem dm_X8_init_22 : mj_dec prog_10_method_1_code 22 = some (.aload_n 0, 1) := by decide +kernel
theorem dm_X8_init_23 : mj_dec prog_10_method_1_code 23 = some (.sipush 201, 3) := by decide +kernel
theorem dm_X8_init_26 : mj_dec prog_10_method_1_code 26 = some (.newarray .long, 2) := by decide +kernel
theorem dm_X8_init_28 : mj_dec prog_10_method_1_code 28 = some (.putfield 18, 3) := by decide +kernel
theorem dm_X8_init_31 : mj_dec prog_10_method_1_code 31 = some (.aload_n 0, 1) := by decide +kernel
theorem dm_X8_init_32 : mj_dec prog_10_method_1_code 32 = some (.aload_n 1, 1) := by decide +kernel
theorem dm_X8_init_33 : mj_dec prog_10_method_1_code 33 = some (.putfield 22, 3) := by decide +kernel
theorem dm_X8_init_36 : mj_dec prog_10_method_1_code 36 = some (.aload_n 0, 1) := by decide +kernel
theorem dm_X8_init_37 : mj_dec prog_10_method_1_code 37 = some (.aload_n 2, 1) := by decide +kernel
theorem dm_X8_init_38 : mj_dec prog_10_method_1_code 38 = some (.putfield 25, 3) := by decide +kernel
theorem dm_X8_init_41 : mj_dec prog_10_method_1_code 41 = some (.return_, 1) := by decide +kernel
set_option maxRecDepth 20000 in
theorem pm_X7_init : mj_mmof pg_ms 3 = some ((⟨"ArrayCalculator$Reader", "<init>", "(LArrayCalculator$Tokens;)V"⟩, prog_9_method_1_code, 2, (Option.none : Option Jvm.ClassFile.FieldType)), 7, true, mj_dec prog_9_method_1_code) := rfl
theorem dm_X7_init_0 : mj_dec prog_9_method_1_code 0 = some (.aload_n 0, 1) := by decide +kernel
theorem dm_X7_init_1 : mj_dec prog_9_method_1_code 1 = some (.invokespecial 3, 3) := by decide +kernel
theorem dm_X7_init_4 : mj_dec prog_9_method_1_code 4 = some (.aload_n 0, 1) := by decide +kernel
theorem dm_X7_init_5 : mj_dec prog_9_method_1_code 5 = some (.aload_n 1, 1) := by decide +kernel
theorem dm_X7_init_6 : mj_dec prog_9_method_1_code 6 = some (.putfield 9, 3) := by decide +kernel
theorem dm_X7_init_9 : mj_dec prog_9_method_1_code 9 = some (.aload_n 0, 1) := by decide +kernel
theorem dm_X7_init_10 : mj_dec prog_9_method_1_code 10 = some (.new 15, 3) := by decide +kernel
theorem dm_X7_init_13 : mj_dec prog_9_method_1_code 13 = some (.dup, 1) := by decide +kernel
theorem dm_X7_init_14 : mj_dec prog_9_method_1_code 14 = some (.iconst 0, 1) := by decide +kernel
theorem dm_X7_init_15 : mj_dec prog_9_method_1_code 15 = some (.iconst 0, 1) := by decide +kernel
theorem dm_X7_init_16 : mj_dec prog_9_method_1_code 16 = some (.aconst_null, 1) := by decide +kernel
theorem dm_X7_init_17 : mj_dec prog_9_method_1_code 17 = some (.invokespecial 17, 3) := by decide +kernel
theorem dm_X7_init_20 : mj_dec prog_9_method_1_code 20 = some (.putfield 20, 3) := by decide +kernel
theorem dm_X7_init_23 : mj_dec prog_9_method_1_code 23 = some (.return_, 1) := by decide +kernel
set_option maxRecDepth 20000 in
theorem pm_X1_init : mj_mmof pg_ms 5 = some ((⟨"ArrayCalculator$Machine", "<init>", "(LArrayCalculator$Names;)V"⟩, prog_3_method_1_code, 3, (Option.none : Option Jvm.ClassFile.FieldType)), 1, true, mj_dec prog_3_method_1_code) := rfl
theorem dm_X1_init_0 : mj_dec prog_3_method_1_code 0 = some (.aload_n 0, 1) := by decide +kernel
theorem dm_X1_init_1 : mj_dec prog_3_method_1_code 1 = some (.invokespecial 3, 3) := by decide +kernel
theorem dm_X1_init_4 : mj_dec prog_3_method_1_code 4 = some (.aload_n 0, 1) := by decide +kernel
theorem dm_X1_init_5 : mj_dec prog_3_method_1_code 5 = some (.new 9, 3) := by decide +kernel
theorem dm_X1_init_8 : mj_dec prog_3_method_1_code 8 = some (.dup, 1) := by decide +kernel
theorem dm_X1_init_9 : mj_dec prog_3_method_1_code 9 = some (.invokespecial 11, 3) := by decide +kernel
theorem dm_X1_init_12 : mj_dec prog_3_method_1_code 12 = some (.putfield 12, 3) := by decide +kernel
theorem dm_X1_init_15 : mj_dec prog_3_method_1_code 15 = some (.aload_n 0, 1) := by decide +kernel
theorem dm_X1_init_16 : mj_dec prog_3_method_1_code 16 = some (.new 18, 3) := by decide +kernel
theorem dm_X1_init_19 : mj_dec prog_3_method_1_code 19 = some (.dup, 1) := by decide +kernel
theorem dm_X1_init_20 : mj_dec prog_3_method_1_code 20 = some (.invokespecial 20, 3) := by decide +kernel
theorem dm_X1_init_23 : mj_dec prog_3_method_1_code 23 = some (.putfield 21, 3) := by decide +kernel
theorem dm_X1_init_26 : mj_dec prog_3_method_1_code 26 = some (.aload_n 0, 1) := by decide +kernel
theorem dm_X1_init_27 : mj_dec prog_3_method_1_code 27 = some (.sipush 8192, 3) := by decide +kernel
theorem dm_X1_init_30 : mj_dec prog_3_method_1_code 30 = some (.anewarray 25, 3) := by decide +kernel
theorem dm_X1_init_33 : mj_dec prog_3_method_1_code 33 = some (.putfield 27, 3) := by decide +kernel
theorem dm_X1_init_36 : mj_dec prog_3_method_1_code 36 = some (.aload_n 0, 1) := by decide +kernel
theorem dm_X1_init_37 : mj_dec prog_3_method_1_code 37 = some (.bipush 64, 2) := by decide +kernel
theorem dm_X1_init_39 : mj_dec prog_3_method_1_code 39 = some (.anewarray 31, 3) := by decide +kernel
theorem dm_X1_init_42 : mj_dec prog_3_method_1_code 42 = some (.putfield 33, 3) := by decide +kernel
theorem dm_X1_init_45 : mj_dec prog_3_method_1_code 45 = some (.aload_n 0, 1) := by decide +kernel
theorem dm_X1_init_46 : mj_dec prog_3_method_1_code 46 = some (.ldc 37, 2) := by decide +kernel
theorem dm_X1_init_48 : mj_dec prog_3_method_1_code 48 = some (.putfield 38, 3) := by decide +kernel
theorem dm_X1_init_51 : mj_dec prog_3_method_1_code 51 = some (.aload_n 0, 1) := by decide +kernel
theorem dm_X1_init_52 : mj_dec prog_3_method_1_code 52 = some (.aload_n 1, 1) := by decide +kernel
theorem dm_X1_init_53 : mj_dec prog_3_method_1_code 53 = some (.putfield 42, 3) := by decide +kernel
theorem dm_X1_init_56 : mj_dec prog_3_method_1_code 56 = some (.iconst 0, 1) := by decide +kernel
theorem dm_X1_init_57 : mj_dec prog_3_method_1_code 57 = some (.istore_n 2, 1) := by decide +kernel
theorem dm_X1_init_58 : mj_dec prog_3_method_1_code 58 = some (.iload_n 2, 1) := by decide +kernel
theorem dm_X1_init_59 : mj_dec prog_3_method_1_code 59 = some (.aload_n 0, 1) := by decide +kernel
theorem dm_X1_init_60 : mj_dec prog_3_method_1_code 60 = some (.getfield 33, 3) := by decide +kernel
theorem dm_X1_init_63 : mj_dec prog_3_method_1_code 63 = some (.arraylength, 1) := by decide +kernel
theorem dm_X1_init_64 : mj_dec prog_3_method_1_code 64 = some (.if_icmp .ge 22, 3) := by decide +kernel
theorem dm_X1_init_67 : mj_dec prog_3_method_1_code 67 = some (.aload_n 0, 1) := by decide +kernel
theorem dm_X1_init_68 : mj_dec prog_3_method_1_code 68 = some (.getfield 33, 3) := by decide +kernel
theorem dm_X1_init_71 : mj_dec prog_3_method_1_code 71 = some (.iload_n 2, 1) := by decide +kernel
theorem dm_X1_init_72 : mj_dec prog_3_method_1_code 72 = some (.new 31, 3) := by decide +kernel
theorem dm_X1_init_75 : mj_dec prog_3_method_1_code 75 = some (.dup, 1) := by decide +kernel
theorem dm_X1_init_76 : mj_dec prog_3_method_1_code 76 = some (.invokespecial 46, 3) := by decide +kernel
theorem dm_X1_init_79 : mj_dec prog_3_method_1_code 79 = some (.aastore, 1) := by decide +kernel
theorem dm_X1_init_80 : mj_dec prog_3_method_1_code 80 = some (.iinc 2 1, 3) := by decide +kernel
theorem dm_X1_init_83 : mj_dec prog_3_method_1_code 83 = some (.goto (-25), 3) := by decide +kernel
theorem dm_X1_init_86 : mj_dec prog_3_method_1_code 86 = some (.return_, 1) := by decide +kernel
set_option maxRecDepth 20000 in
theorem pm_X3_init : mj_mmof pg_ms 6 = some ((⟨"ArrayCalculator$OneAct", "<init>", "()V"⟩, prog_5_method_1_code, 1, (Option.none : Option Jvm.ClassFile.FieldType)), 3, true, mj_dec prog_5_method_1_code) := rfl
theorem dm_X3_init_0 : mj_dec prog_5_method_1_code 0 = some (.aload_n 0, 1) := by decide +kernel
theorem dm_X3_init_1 : mj_dec prog_5_method_1_code 1 = some (.invokespecial 3, 3) := by decide +kernel
theorem dm_X3_init_4 : mj_dec prog_5_method_1_code 4 = some (.aload_n 0, 1) := by decide +kernel
theorem dm_X3_init_5 : mj_dec prog_5_method_1_code 5 = some (.sipush 144, 3) := by decide +kernel
theorem dm_X3_init_8 : mj_dec prog_5_method_1_code 8 = some (.newarray .int, 2) := by decide +kernel
theorem dm_X3_init_10 : mj_dec prog_5_method_1_code 10 = some (.putfield 9, 3) := by decide +kernel
theorem dm_X3_init_13 : mj_dec prog_5_method_1_code 13 = some (.aload_n 0, 1) := by decide +kernel
theorem dm_X3_init_14 : mj_dec prog_5_method_1_code 14 = some (.sipush 144, 3) := by decide +kernel
theorem dm_X3_init_17 : mj_dec prog_5_method_1_code 17 = some (.newarray .long, 2) := by decide +kernel
theorem dm_X3_init_19 : mj_dec prog_5_method_1_code 19 = some (.putfield 15, 3) := by decide +kernel
theorem dm_X3_init_22 : mj_dec prog_5_method_1_code 22 = some (.aload_n 0, 1) := by decide +kernel
theorem dm_X3_init_23 : mj_dec prog_5_method_1_code 23 = some (.new 19, 3) := by decide +kernel
theorem dm_X3_init_26 : mj_dec prog_5_method_1_code 26 = some (.dup, 1) := by decide +kernel
theorem dm_X3_init_27 : mj_dec prog_5_method_1_code 27 = some (.bipush 121, 2) := by decide +kernel
theorem dm_X3_init_29 : mj_dec prog_5_method_1_code 29 = some (.invokespecial 21, 3) := by decide +kernel
theorem dm_X3_init_32 : mj_dec prog_5_method_1_code 32 = some (.putfield 24, 3) := by decide +kernel
theorem dm_X3_init_35 : mj_dec prog_5_method_1_code 35 = some (.aload_n 0, 1) := by decide +kernel
theorem dm_X3_init_36 : mj_dec prog_5_method_1_code 36 = some (.new 28, 3) := by decide +kernel
theorem dm_X3_init_39 : mj_dec prog_5_method_1_code 39 = some (.dup, 1) := by decide +kernel
theorem dm_X3_init_40 : mj_dec prog_5_method_1_code 40 = some (.invokespecial 30, 3) := by decide +kernel
theorem dm_X3_init_43 : mj_dec prog_5_method_1_code 43 = some (.putfield 31, 3) := by decide +kernel
theorem dm_X3_init_46 : mj_dec prog_5_method_1_code 46 = some (.aload_n 0, 1) := by decide +kernel
theorem dm_X3_init_47 : mj_dec prog_5_method_1_code 47 = some (.lconst 0, 1) := by decide +kernel
theorem dm_X3_init_48 : mj_dec prog_5_method_1_code 48 = some (.invokestatic 35, 3) := by decide +kernel
theorem dm_X3_init_51 : mj_dec prog_5_method_1_code 51 = some (.putfield 41, 3) := by decide +kernel
theorem dm_X3_init_54 : mj_dec prog_5_method_1_code 54 = some (.return_, 1) := by decide +kernel
set_option maxRecDepth 20000 in
theorem pm_X6_init : mj_mmof pg_ms 7 = some ((⟨"ArrayCalculator$Printer", "<init>", "(I)V"⟩, prog_8_method_1_code, 2, (Option.none : Option Jvm.ClassFile.FieldType)), 6, true, mj_dec prog_8_method_1_code) := rfl
theorem dm_X6_init_0 : mj_dec prog_8_method_1_code 0 = some (.aload_n 0, 1) := by decide +kernel
theorem dm_X6_init_1 : mj_dec prog_8_method_1_code 1 = some (.invokespecial 3, 3) := by decide +kernel
theorem dm_X6_init_4 : mj_dec prog_8_method_1_code 4 = some (.aload_n 0, 1) := by decide +kernel
theorem dm_X6_init_5 : mj_dec prog_8_method_1_code 5 = some (.bipush 20, 2) := by decide +kernel
theorem dm_X6_init_7 : mj_dec prog_8_method_1_code 7 = some (.newarray .byte, 2) := by decide +kernel
theorem dm_X6_init_9 : mj_dec prog_8_method_1_code 9 = some (.putfield 11, 3) := by decide +kernel
theorem dm_X6_init_12 : mj_dec prog_8_method_1_code 12 = some (.aload_n 0, 1) := by decide +kernel
theorem dm_X6_init_13 : mj_dec prog_8_method_1_code 13 = some (.iload_n 1, 1) := by decide +kernel
theorem dm_X6_init_14 : mj_dec prog_8_method_1_code 14 = some (.newarray .byte, 2) := by decide +kernel
theorem dm_X6_init_16 : mj_dec prog_8_method_1_code 16 = some (.putfield 15, 3) := by decide +kernel
theorem dm_X6_init_19 : mj_dec prog_8_method_1_code 19 = some (.return_, 1) := by decide +kernel
set_option maxRecDepth 20000 in
theorem pm_X5_init : mj_mmof pg_ms 8 = some ((⟨"ArrayCalculator$Paired", "<init>", "()V"⟩, prog_7_method_1_code, 1, (Option.none : Option Jvm.ClassFile.FieldType)), 5, true, mj_dec prog_7_method_1_code) := rfl
theorem dm_X5_init_0 : mj_dec prog_7_method_1_code 0 = some (.aload_n 0, 1) := by decide +kernel
theorem dm_X5_init_1 : mj_dec prog_7_method_1_code 1 = some (.invokespecial 3, 3) := by decide +kernel
theorem dm_X5_init_4 : mj_dec prog_7_method_1_code 4 = some (.aload_n 0, 1) := by decide +kernel
theorem dm_X5_init_5 : mj_dec prog_7_method_1_code 5 = some (.sipush 1000, 3) := by decide +kernel
theorem dm_X5_init_8 : mj_dec prog_7_method_1_code 8 = some (.newarray .long, 2) := by decide +kernel
theorem dm_X5_init_10 : mj_dec prog_7_method_1_code 10 = some (.putfield 9, 3) := by decide +kernel
theorem dm_X5_init_13 : mj_dec prog_7_method_1_code 13 = some (.aload_n 0, 1) := by decide +kernel
theorem dm_X5_init_14 : mj_dec prog_7_method_1_code 14 = some (.getstatic 15, 3) := by decide +kernel
theorem dm_X5_init_17 : mj_dec prog_7_method_1_code 17 = some (.putfield 18, 3) := by decide +kernel
theorem dm_X5_init_20 : mj_dec prog_7_method_1_code 20 = some (.return_, 1) := by decide +kernel
set_option maxRecDepth 20000 in
theorem pm_X9_init : mj_mmof pg_ms 11 = some ((⟨"ArrayCalculator$TwoAct", "<init>", "()V"⟩, prog_11_method_1_code, 1, (Option.none : Option Jvm.ClassFile.FieldType)), 9, true, mj_dec prog_11_method_1_code) := rfl
theorem dm_X9_init_0 : mj_dec prog_11_method_1_code 0 = some (.aload_n 0, 1) := by decide +kernel
theorem dm_X9_init_1 : mj_dec prog_11_method_1_code 1 = some (.invokespecial 3, 3) := by decide +kernel
theorem dm_X9_init_4 : mj_dec prog_11_method_1_code 4 = some (.aload_n 0, 1) := by decide +kernel
theorem dm_X9_init_5 : mj_dec prog_11_method_1_code 5 = some (.new 9, 3) := by decide +kernel
theorem dm_X9_init_8 : mj_dec prog_11_method_1_code 8 = some (.dup, 1) := by decide +kernel
theorem dm_X9_init_9 : mj_dec prog_11_method_1_code 9 = some (.invokespecial 11, 3) := by decide +kernel
theorem dm_X9_init_12 : mj_dec prog_11_method_1_code 12 = some (.putfield 12, 3) := by decide +kernel
theorem dm_X9_init_15 : mj_dec prog_11_method_1_code 15 = some (.aload_n 0, 1) := by decide +kernel
theorem dm_X9_init_16 : mj_dec prog_11_method_1_code 16 = some (.sipush 144, 3) := by decide +kernel
theorem dm_X9_init_19 : mj_dec prog_11_method_1_code 19 = some (.newarray .int, 2) := by decide +kernel
theorem dm_X9_init_21 : mj_dec prog_11_method_1_code 21 = some (.putfield 18, 3) := by decide +kernel
theorem dm_X9_init_24 : mj_dec prog_11_method_1_code 24 = some (.aload_n 0, 1) := by decide +kernel
theorem dm_X9_init_25 : mj_dec prog_11_method_1_code 25 = some (.sipush 144, 3) := by decide +kernel
theorem dm_X9_init_28 : mj_dec prog_11_method_1_code 28 = some (.newarray .long, 2) := by decide +kernel
theorem dm_X9_init_30 : mj_dec prog_11_method_1_code 30 = some (.putfield 22, 3) := by decide +kernel
theorem dm_X9_init_33 : mj_dec prog_11_method_1_code 33 = some (.aload_n 0, 1) := by decide +kernel
theorem dm_X9_init_34 : mj_dec prog_11_method_1_code 34 = some (.bipush 120, 2) := by decide +kernel
theorem dm_X9_init_36 : mj_dec prog_11_method_1_code 36 = some (.anewarray 26, 3) := by decide +kernel
theorem dm_X9_init_39 : mj_dec prog_11_method_1_code 39 = some (.putfield 28, 3) := by decide +kernel
theorem dm_X9_init_42 : mj_dec prog_11_method_1_code 42 = some (.return_, 1) := by decide +kernel
set_option maxRecDepth 20000 in
theorem pm_X0_init : mj_mmof pg_ms 12 = some ((⟨"ArrayCalculator$Frame", "<init>", "()V"⟩, prog_2_method_1_code, 1, (Option.none : Option Jvm.ClassFile.FieldType)), 0, true, mj_dec prog_2_method_1_code) := rfl
theorem dm_X0_init_0 : mj_dec prog_2_method_1_code 0 = some (.aload_n 0, 1) := by decide +kernel
theorem dm_X0_init_1 : mj_dec prog_2_method_1_code 1 = some (.invokespecial 1, 3) := by decide +kernel
theorem dm_X0_init_4 : mj_dec prog_2_method_1_code 4 = some (.return_, 1) := by decide +kernel
set_option maxRecDepth 20000 in
theorem pm_X12_init : mj_mmof pg_ms 195 = some ((⟨"ArrayCalculatorModel", "<init>", "()V"⟩, prog_14_method_1_code, 1, (Option.none : Option Jvm.ClassFile.FieldType)), 12, true, mj_dec prog_14_method_1_code) := rfl
theorem dm_X12_init_0 : mj_dec prog_14_method_1_code 0 = some (.aload_n 0, 1) := by decide +kernel
theorem dm_X12_init_1 : mj_dec prog_14_method_1_code 1 = some (.invokespecial 1, 3) := by decide +kernel
theorem dm_X12_init_4 : mj_dec prog_14_method_1_code 4 = some (.aload_n 0, 1) := by decide +kernel
theorem dm_X12_init_5 : mj_dec prog_14_method_1_code 5 = some (.ldc 7, 2) := by decide +kernel
theorem dm_X12_init_7 : mj_dec prog_14_method_1_code 7 = some (.newarray .long, 2) := by decide +kernel
theorem dm_X12_init_9 : mj_dec prog_14_method_1_code 9 = some (.putfield 8, 3) := by decide +kernel
theorem dm_X12_init_12 : mj_dec prog_14_method_1_code 12 = some (.aload_n 0, 1) := by decide +kernel
theorem dm_X12_init_13 : mj_dec prog_14_method_1_code 13 = some (.ldc 14, 2) := by decide +kernel
theorem dm_X12_init_15 : mj_dec prog_14_method_1_code 15 = some (.newarray .int, 2) := by decide +kernel
theorem dm_X12_init_17 : mj_dec prog_14_method_1_code 17 = some (.putfield 15, 3) := by decide +kernel
theorem dm_X12_init_20 : mj_dec prog_14_method_1_code 20 = some (.aload_n 0, 1) := by decide +kernel
theorem dm_X12_init_21 : mj_dec prog_14_method_1_code 21 = some (.ldc 14, 2) := by decide +kernel
theorem dm_X12_init_23 : mj_dec prog_14_method_1_code 23 = some (.newarray .int, 2) := by decide +kernel
theorem dm_X12_init_25 : mj_dec prog_14_method_1_code 25 = some (.putfield 19, 3) := by decide +kernel
theorem dm_X12_init_28 : mj_dec prog_14_method_1_code 28 = some (.aload_n 0, 1) := by decide +kernel
theorem dm_X12_init_29 : mj_dec prog_14_method_1_code 29 = some (.iconst (-1), 1) := by decide +kernel
theorem dm_X12_init_30 : mj_dec prog_14_method_1_code 30 = some (.putfield 22, 3) := by decide +kernel
theorem dm_X12_init_33 : mj_dec prog_14_method_1_code 33 = some (.aload_n 0, 1) := by decide +kernel
theorem dm_X12_init_34 : mj_dec prog_14_method_1_code 34 = some (.ldc 26, 2) := by decide +kernel
theorem dm_X12_init_36 : mj_dec prog_14_method_1_code 36 = some (.putfield 27, 3) := by decide +kernel
theorem dm_X12_init_39 : mj_dec prog_14_method_1_code 39 = some (.aload_n 0, 1) := by decide +kernel
theorem dm_X12_init_40 : mj_dec prog_14_method_1_code 40 = some (.sipush 8192, 3) := by decide +kernel
theorem dm_X12_init_43 : mj_dec prog_14_method_1_code 43 = some (.newarray .int, 2) := by decide +kernel
theorem dm_X12_init_45 : mj_dec prog_14_method_1_code 45 = some (.putfield 30, 3) := by decide +kernel
theorem dm_X12_init_48 : mj_dec prog_14_method_1_code 48 = some (.aload_n 0, 1) := by decide +kernel
theorem dm_X12_init_49 : mj_dec prog_14_method_1_code 49 = some (.sipush 260, 3) := by decide +kernel
theorem dm_X12_init_52 : mj_dec prog_14_method_1_code 52 = some (.newarray .int, 2) := by decide +kernel
theorem dm_X12_init_54 : mj_dec prog_14_method_1_code 54 = some (.putfield 33, 3) := by decide +kernel
theorem dm_X12_init_57 : mj_dec prog_14_method_1_code 57 = some (.aload_n 0, 1) := by decide +kernel
theorem dm_X12_init_58 : mj_dec prog_14_method_1_code 58 = some (.sipush 400, 3) := by decide +kernel
theorem dm_X12_init_61 : mj_dec prog_14_method_1_code 61 = some (.newarray .byte, 2) := by decide +kernel
theorem dm_X12_init_63 : mj_dec prog_14_method_1_code 63 = some (.putfield 36, 3) := by decide +kernel
theorem dm_X12_init_66 : mj_dec prog_14_method_1_code 66 = some (.aload_n 0, 1) := by decide +kernel
theorem dm_X12_init_67 : mj_dec prog_14_method_1_code 67 = some (.sipush 400, 3) := by decide +kernel
theorem dm_X12_init_70 : mj_dec prog_14_method_1_code 70 = some (.newarray .byte, 2) := by decide +kernel
theorem dm_X12_init_72 : mj_dec prog_14_method_1_code 72 = some (.putfield 40, 3) := by decide +kernel
theorem dm_X12_init_75 : mj_dec prog_14_method_1_code 75 = some (.aload_n 0, 1) := by decide +kernel
theorem dm_X12_init_76 : mj_dec prog_14_method_1_code 76 = some (.bipush 40, 2) := by decide +kernel
theorem dm_X12_init_78 : mj_dec prog_14_method_1_code 78 = some (.newarray .long, 2) := by decide +kernel
theorem dm_X12_init_80 : mj_dec prog_14_method_1_code 80 = some (.putfield 43, 3) := by decide +kernel
theorem dm_X12_init_83 : mj_dec prog_14_method_1_code 83 = some (.aload_n 0, 1) := by decide +kernel
theorem dm_X12_init_84 : mj_dec prog_14_method_1_code 84 = some (.bipush 40, 2) := by decide +kernel
theorem dm_X12_init_86 : mj_dec prog_14_method_1_code 86 = some (.newarray .long, 2) := by decide +kernel
theorem dm_X12_init_88 : mj_dec prog_14_method_1_code 88 = some (.putfield 46, 3) := by decide +kernel
theorem dm_X12_init_91 : mj_dec prog_14_method_1_code 91 = some (.aload_n 0, 1) := by decide +kernel
theorem dm_X12_init_92 : mj_dec prog_14_method_1_code 92 = some (.bipush 40, 2) := by decide +kernel
theorem dm_X12_init_94 : mj_dec prog_14_method_1_code 94 = some (.newarray .int, 2) := by decide +kernel
theorem dm_X12_init_96 : mj_dec prog_14_method_1_code 96 = some (.putfield 49, 3) := by decide +kernel
theorem dm_X12_init_99 : mj_dec prog_14_method_1_code 99 = some (.aload_n 0, 1) := by decide +kernel
theorem dm_X12_init_100 : mj_dec prog_14_method_1_code 100 = some (.bipush 40, 2) := by decide +kernel
theorem dm_X12_init_102 : mj_dec prog_14_method_1_code 102 = some (.newarray .int, 2) := by decide +kernel
theorem dm_X12_init_104 : mj_dec prog_14_method_1_code 104 = some (.putfield 52, 3) := by decide +kernel
theorem dm_X12_init_107 : mj_dec prog_14_method_1_code 107 = some (.aload_n 0, 1) := by decide +kernel
theorem dm_X12_init_108 : mj_dec prog_14_method_1_code 108 = some (.sipush 320, 3) := by decide +kernel
theorem dm_X12_init_111 : mj_dec prog_14_method_1_code 111 = some (.newarray .long, 2) := by decide +kernel
theorem dm_X12_init_113 : mj_dec prog_14_method_1_code 113 = some (.putfield 55, 3) := by decide +kernel
theorem dm_X12_init_116 : mj_dec prog_14_method_1_code 116 = some (.aload_n 0, 1) := by decide +kernel
theorem dm_X12_init_117 : mj_dec prog_14_method_1_code 117 = some (.sipush 320, 3) := by decide +kernel
theorem dm_X12_init_120 : mj_dec prog_14_method_1_code 120 = some (.newarray .int, 2) := by decide +kernel
theorem dm_X12_init_122 : mj_dec prog_14_method_1_code 122 = some (.putfield 58, 3) := by decide +kernel
theorem dm_X12_init_125 : mj_dec prog_14_method_1_code 125 = some (.aload_n 0, 1) := by decide +kernel
theorem dm_X12_init_126 : mj_dec prog_14_method_1_code 126 = some (.iconst 4, 1) := by decide +kernel
theorem dm_X12_init_127 : mj_dec prog_14_method_1_code 127 = some (.newarray .int, 2) := by decide +kernel
theorem dm_X12_init_129 : mj_dec prog_14_method_1_code 129 = some (.putfield 61, 3) := by decide +kernel
theorem dm_X12_init_132 : mj_dec prog_14_method_1_code 132 = some (.aload_n 0, 1) := by decide +kernel
theorem dm_X12_init_133 : mj_dec prog_14_method_1_code 133 = some (.iconst 4, 1) := by decide +kernel
theorem dm_X12_init_134 : mj_dec prog_14_method_1_code 134 = some (.newarray .int, 2) := by decide +kernel
theorem dm_X12_init_136 : mj_dec prog_14_method_1_code 136 = some (.putfield 64, 3) := by decide +kernel
theorem dm_X12_init_139 : mj_dec prog_14_method_1_code 139 = some (.aload_n 0, 1) := by decide +kernel
theorem dm_X12_init_140 : mj_dec prog_14_method_1_code 140 = some (.iconst 4, 1) := by decide +kernel
theorem dm_X12_init_141 : mj_dec prog_14_method_1_code 141 = some (.newarray .boolean, 2) := by decide +kernel
theorem dm_X12_init_143 : mj_dec prog_14_method_1_code 143 = some (.putfield 67, 3) := by decide +kernel
theorem dm_X12_init_146 : mj_dec prog_14_method_1_code 146 = some (.aload_n 0, 1) := by decide +kernel
theorem dm_X12_init_147 : mj_dec prog_14_method_1_code 147 = some (.sipush 220, 3) := by decide +kernel
theorem dm_X12_init_150 : mj_dec prog_14_method_1_code 150 = some (.newarray .byte, 2) := by decide +kernel
theorem dm_X12_init_152 : mj_dec prog_14_method_1_code 152 = some (.putfield 71, 3) := by decide +kernel
theorem dm_X12_init_155 : mj_dec prog_14_method_1_code 155 = some (.aload_n 0, 1) := by decide +kernel
theorem dm_X12_init_156 : mj_dec prog_14_method_1_code 156 = some (.ldc 74, 2) := by decide +kernel
theorem dm_X12_init_158 : mj_dec prog_14_method_1_code 158 = some (.newarray .int, 2) := by decide +kernel
theorem dm_X12_init_160 : mj_dec prog_14_method_1_code 160 = some (.putfield 75, 3) := by decide +kernel
theorem dm_X12_init_163 : mj_dec prog_14_method_1_code 163 = some (.aload_n 0, 1) := by decide +kernel
theorem dm_X12_init_164 : mj_dec prog_14_method_1_code 164 = some (.ldc 74, 2) := by decide +kernel
theorem dm_X12_init_166 : mj_dec prog_14_method_1_code 166 = some (.newarray .int, 2) := by decide +kernel
theorem dm_X12_init_168 : mj_dec prog_14_method_1_code 168 = some (.putfield 78, 3) := by decide +kernel
theorem dm_X12_init_171 : mj_dec prog_14_method_1_code 171 = some (.aload_n 0, 1) := by decide +kernel
theorem dm_X12_init_172 : mj_dec prog_14_method_1_code 172 = some (.ldc 74, 2) := by decide +kernel
theorem dm_X12_init_174 : mj_dec prog_14_method_1_code 174 = some (.newarray .int, 2) := by decide +kernel
theorem dm_X12_init_176 : mj_dec prog_14_method_1_code 176 = some (.putfield 81, 3) := by decide +kernel
theorem dm_X12_init_179 : mj_dec prog_14_method_1_code 179 = some (.aload_n 0, 1) := by decide +kernel
theorem dm_X12_init_180 : mj_dec prog_14_method_1_code 180 = some (.ldc 74, 2) := by decide +kernel
theorem dm_X12_init_182 : mj_dec prog_14_method_1_code 182 = some (.newarray .int, 2) := by decide +kernel
theorem dm_X12_init_184 : mj_dec prog_14_method_1_code 184 = some (.putfield 84, 3) := by decide +kernel
theorem dm_X12_init_187 : mj_dec prog_14_method_1_code 187 = some (.aload_n 0, 1) := by decide +kernel
theorem dm_X12_init_188 : mj_dec prog_14_method_1_code 188 = some (.ldc 74, 2) := by decide +kernel
theorem dm_X12_init_190 : mj_dec prog_14_method_1_code 190 = some (.newarray .int, 2) := by decide +kernel
theorem dm_X12_init_192 : mj_dec prog_14_method_1_code 192 = some (.putfield 87, 3) := by decide +kernel
theorem dm_X12_init_195 : mj_dec prog_14_method_1_code 195 = some (.aload_n 0, 1) := by decide +kernel
theorem dm_X12_init_196 : mj_dec prog_14_method_1_code 196 = some (.ldc 74, 2) := by decide +kernel
theorem dm_X12_init_198 : mj_dec prog_14_method_1_code 198 = some (.newarray .int, 2) := by decide +kernel
theorem dm_X12_init_200 : mj_dec prog_14_method_1_code 200 = some (.putfield 90, 3) := by decide +kernel
theorem dm_X12_init_203 : mj_dec prog_14_method_1_code 203 = some (.aload_n 0, 1) := by decide +kernel
theorem dm_X12_init_204 : mj_dec prog_14_method_1_code 204 = some (.ldc 74, 2) := by decide +kernel
theorem dm_X12_init_206 : mj_dec prog_14_method_1_code 206 = some (.newarray .long, 2) := by decide +kernel
theorem dm_X12_init_208 : mj_dec prog_14_method_1_code 208 = some (.putfield 93, 3) := by decide +kernel
theorem dm_X12_init_211 : mj_dec prog_14_method_1_code 211 = some (.aload_n 0, 1) := by decide +kernel
theorem dm_X12_init_212 : mj_dec prog_14_method_1_code 212 = some (.iconst (-1), 1) := by decide +kernel
theorem dm_X12_init_213 : mj_dec prog_14_method_1_code 213 = some (.putfield 96, 3) := by decide +kernel
theorem dm_X12_init_216 : mj_dec prog_14_method_1_code 216 = some (.aload_n 0, 1) := by decide +kernel
theorem dm_X12_init_217 : mj_dec prog_14_method_1_code 217 = some (.iconst (-1), 1) := by decide +kernel
theorem dm_X12_init_218 : mj_dec prog_14_method_1_code 218 = some (.putfield 99, 3) := by decide +kernel
theorem dm_X12_init_221 : mj_dec prog_14_method_1_code 221 = some (.aload_n 0, 1) := by decide +kernel
theorem dm_X12_init_222 : mj_dec prog_14_method_1_code 222 = some (.iconst 3, 1) := by decide +kernel
theorem dm_X12_init_223 : mj_dec prog_14_method_1_code 223 = some (.putfield 102, 3) := by decide +kernel
theorem dm_X12_init_226 : mj_dec prog_14_method_1_code 226 = some (.aload_n 0, 1) := by decide +kernel
theorem dm_X12_init_227 : mj_dec prog_14_method_1_code 227 = some (.aload_n 0, 1) := by decide +kernel
theorem dm_X12_init_228 : mj_dec prog_14_method_1_code 228 = some (.iconst 0, 1) := by decide +kernel
theorem dm_X12_init_229 : mj_dec prog_14_method_1_code 229 = some (.lconst 0, 1) := by decide +kernel
theorem dm_X12_init_230 : mj_dec prog_14_method_1_code 230 = some (.invokevirtual 105, 3) := by decide +kernel
theorem dm_X12_init_233 : mj_dec prog_14_method_1_code 233 = some (.putfield 109, 3) := by decide +kernel
theorem dm_X12_init_236 : mj_dec prog_14_method_1_code 236 = some (.aload_n 0, 1) := by decide +kernel
theorem dm_X12_init_237 : mj_dec prog_14_method_1_code 237 = some (.aload_n 0, 1) := by decide +kernel
theorem dm_X12_init_238 : mj_dec prog_14_method_1_code 238 = some (.getfield 109, 3) := by decide +kernel
theorem dm_X12_init_241 : mj_dec prog_14_method_1_code 241 = some (.putfield 112, 3) := by decide +kernel
theorem dm_X12_init_244 : mj_dec prog_14_method_1_code 244 = some (.return_, 1) := by decide +kernel
set_option maxRecDepth 100000 in
set_option maxHeartbeats 40000000 in
theorem w_pre {xt : mj_X} {P : Option Value → mj_H → Prop} (k : pgE xt 2000 13 4 false (some .boolean) (mj_dec code) 18 [(3, .int 0), (2, .ref 102), (1, .ref 2), (0, .ref 0)] [] (pg_h0 ++ (cT ++ (rT ++ []))) P) : pgE xt 2000 13 4 false (some .boolean) (mj_dec code) 0 [(0, .ref 0)] [] pg_h0 P := by
  refine pg_cast (show pg_h0 = pg_h0 ++ ([] ++ ([] ++ [])) from rfl) ?_
  refine me3 (pc' := 3) dm_L_0 (g_nw (a := 2) (ne_ (n := 2) (u := 0) (v := 0) (j := 0) rfl rfl rfl rfl) (ae _) rfl) rfl rfl rfl ?_
  refine me0 (pc' := 4) dm_L_3 rfl rfl rfl rfl ?_
  refine me4 (pc' := 7) (L0 := [(0, .ref 2)]) dm_L_4 rfl (g_invp (As := []) rfl rfl rfl) pm_X11_init rfl (Nat.le_of_ble_eq_true rfl) rfl rfl rfl ?_
  refine me1 (pc' := 1) dm_X11_init_0 rfl rfl rfl rfl ?_
  refine me4o (pc' := 4) dm_X11_init_1 rfl rfl (by omega) rfl rfl rfl ?_
  refine me1 (pc' := 5) dm_X11_init_4 rfl rfl rfl rfl ?_
  refine me0 (pc' := 8) (S' := .int (200 : Int32) :: _) dm_X11_init_5 rfl rfl rfl rfl ?_
  refine me3 (pc' := 10) dm_X11_init_8 (g_nwa (a := 3) (ne_ (n := 2) (u := 0) (v := 0) (j := 1) rfl rfl rfl rfl) (ae _) rfl (by decide)) rfl rfl rfl ?_
  refine me3 (pc' := 13) dm_X11_init_10 (g_put (fs' := [.ref 3, .int (0 : Int32), .null, .null, .null, .null, .null, .null, .null, .null, .int (0 : Int32), .int (0 : Int32), .int (0 : Int32)]) (le_ (n := 2) (u := 0) (v := 0) (j := 0) rfl rfl rfl rfl) rfl (se (n := 2) (u := 0) (v := 0) (j := 0) rfl rfl rfl _) rfl (Nat.le_of_ble_eq_true rfl) rfl (by decide) (fun _ => rfl) (Nat.le_of_ble_eq_true rfl)) rfl rfl rfl ?_
  refine me1 (pc' := 14) dm_X11_init_13 rfl rfl rfl rfl ?_
  refine me3 (pc' := 17) dm_X11_init_14 (g_nw (a := 4) (ne_ (n := 2) (u := 0) (v := 0) (j := 2) rfl rfl rfl rfl) (ae _) rfl) rfl rfl rfl ?_
  refine me0 (pc' := 18) dm_X11_init_17 rfl rfl rfl rfl ?_
  refine me4 (pc' := 21) (L0 := [(0, .ref 4)]) dm_X11_init_18 rfl (g_invp (As := []) rfl rfl rfl) pm_X2_init rfl (Nat.le_of_ble_eq_true rfl) rfl rfl rfl ?_
  refine me1 (pc' := 1) dm_X2_init_0 rfl rfl rfl rfl ?_
  refine me4o (pc' := 4) dm_X2_init_1 rfl rfl (by omega) rfl rfl rfl ?_
  refine me1 (pc' := 5) dm_X2_init_4 rfl rfl rfl rfl ?_
  refine me0 (pc' := 7) (S' := .int (40 : Int32) :: _) dm_X2_init_5 rfl rfl rfl rfl ?_
  refine me3 (pc' := 9) dm_X2_init_7 (g_nwa (a := 5) (ne_ (n := 2) (u := 0) (v := 0) (j := 3) rfl rfl rfl rfl) (ae _) rfl (by decide)) rfl rfl rfl ?_
  refine me3 (pc' := 12) dm_X2_init_9 (g_put (fs' := [.ref 5, .null, .int (0 : Int32), .null, .null, .int (0 : Int32)]) (le_ (n := 2) (u := 0) (v := 0) (j := 2) rfl rfl rfl rfl) rfl (se (n := 2) (u := 0) (v := 0) (j := 2) rfl rfl rfl _) rfl (Nat.le_of_ble_eq_true rfl) rfl (by decide) (fun _ => rfl) (Nat.le_of_ble_eq_true rfl)) rfl rfl rfl ?_
  refine me1 (pc' := 13) dm_X2_init_12 rfl rfl rfl rfl ?_
  refine me0 (pc' := 15) (S' := .int (40 : Int32) :: _) dm_X2_init_13 rfl rfl rfl rfl ?_
  refine me3 (pc' := 18) dm_X2_init_15 (g_nwq (a := 6) (ne_ (n := 2) (u := 0) (v := 0) (j := 4) rfl rfl rfl rfl) (ae _) rfl (by decide)) rfl rfl rfl ?_
  refine me3 (pc' := 21) dm_X2_init_18 (g_put (fs' := [.ref 5, .ref 6, .int (0 : Int32), .null, .null, .int (0 : Int32)]) (le_ (n := 2) (u := 0) (v := 0) (j := 2) rfl rfl rfl rfl) rfl (se (n := 2) (u := 0) (v := 0) (j := 2) rfl rfl rfl _) rfl (Nat.le_of_ble_eq_true rfl) rfl (by decide) (fun _ => rfl) (Nat.le_of_ble_eq_true rfl)) rfl rfl rfl ?_
  refine me1 (pc' := 22) dm_X2_init_21 rfl rfl rfl rfl ?_
  refine me0 (pc' := 24) (S' := .int (40 : Int32) :: _) dm_X2_init_22 rfl rfl rfl rfl ?_
  refine me3 (pc' := 26) dm_X2_init_24 (g_nwa (a := 7) (ne_ (n := 2) (u := 0) (v := 0) (j := 5) rfl rfl rfl rfl) (ae _) rfl (by decide)) rfl rfl rfl ?_
  refine me3 (pc' := 29) dm_X2_init_26 (g_put (fs' := [.ref 5, .ref 6, .int (0 : Int32), .ref 7, .null, .int (0 : Int32)]) (le_ (n := 2) (u := 0) (v := 0) (j := 2) rfl rfl rfl rfl) rfl (se (n := 2) (u := 0) (v := 0) (j := 2) rfl rfl rfl _) rfl (Nat.le_of_ble_eq_true rfl) rfl (by decide) (fun _ => rfl) (Nat.le_of_ble_eq_true rfl)) rfl rfl rfl ?_
  refine me1 (pc' := 30) dm_X2_init_29 rfl rfl rfl rfl ?_
  refine me0 (pc' := 32) (S' := .int (40 : Int32) :: _) dm_X2_init_30 rfl rfl rfl rfl ?_
  refine me3 (pc' := 35) dm_X2_init_32 (g_nwq (a := 8) (ne_ (n := 2) (u := 0) (v := 0) (j := 6) rfl rfl rfl rfl) (ae _) rfl (by decide)) rfl rfl rfl ?_
  refine me3 (pc' := 38) dm_X2_init_35 (g_put (fs' := [.ref 5, .ref 6, .int (0 : Int32), .ref 7, .ref 8, .int (0 : Int32)]) (le_ (n := 2) (u := 0) (v := 0) (j := 2) rfl rfl rfl rfl) rfl (se (n := 2) (u := 0) (v := 0) (j := 2) rfl rfl rfl _) rfl (Nat.le_of_ble_eq_true rfl) rfl (by decide) (fun _ => rfl) (Nat.le_of_ble_eq_true rfl)) rfl rfl rfl ?_
  refine me5 dm_X2_init_38 rfl rfl rfl ?_
  refine me3 (pc' := 24) dm_X11_init_21 (g_put (fs' := [.ref 3, .int (0 : Int32), .ref 4, .null, .null, .null, .null, .null, .null, .null, .int (0 : Int32), .int (0 : Int32), .int (0 : Int32)]) (le_ (n := 2) (u := 0) (v := 0) (j := 0) rfl rfl rfl rfl) rfl (se (n := 2) (u := 0) (v := 0) (j := 0) rfl rfl rfl _) rfl (Nat.le_of_ble_eq_true rfl) rfl (by decide) (fun _ => rfl) (Nat.le_of_ble_eq_true rfl)) rfl rfl rfl ?_
  refine me1 (pc' := 25) dm_X11_init_24 rfl rfl rfl rfl ?_
  refine me3 (pc' := 28) dm_X11_init_25 (g_nw (a := 9) (ne_ (n := 2) (u := 0) (v := 0) (j := 7) rfl rfl rfl rfl) (ae _) rfl) rfl rfl rfl ?_
  refine me0 (pc' := 29) dm_X11_init_28 rfl rfl rfl rfl ?_
  refine me1 (pc' := 30) dm_X11_init_29 rfl rfl rfl rfl ?_
  refine me3 (pc' := 33) dm_X11_init_30 (g_get (v := .ref 3) (le_ (n := 2) (u := 0) (v := 0) (j := 0) rfl rfl rfl rfl) rfl rfl (Nat.le_of_ble_eq_true rfl)) rfl rfl rfl ?_
  refine me1 (pc' := 34) dm_X11_init_33 rfl rfl rfl rfl ?_
  refine me3 (pc' := 37) dm_X11_init_34 (g_get (v := .ref 4) (le_ (n := 2) (u := 0) (v := 0) (j := 0) rfl rfl rfl rfl) rfl rfl (Nat.le_of_ble_eq_true rfl)) rfl rfl rfl ?_
  refine me4 (pc' := 40) (L0 := [(0, .ref 9), (1, .ref 3), (2, .ref 4)]) dm_X11_init_37 rfl (g_invp (As := [.ref 3, .ref 4]) rfl rfl rfl) pm_X8_init rfl (Nat.le_of_ble_eq_true rfl) rfl rfl rfl ?_
  refine me1 (pc' := 1) dm_X8_init_0 rfl rfl rfl rfl ?_
  refine me4o (pc' := 4) dm_X8_init_1 rfl rfl (by omega) rfl rfl rfl ?_
  refine me1 (pc' := 5) dm_X8_init_4 rfl rfl rfl rfl ?_
  refine me0 (pc' := 8) (S' := .int (201 : Int32) :: _) dm_X8_init_5 rfl rfl rfl rfl ?_
  refine me3 (pc' := 10) dm_X8_init_8 (g_nwa (a := 10) (ne_ (n := 2) (u := 0) (v := 0) (j := 8) rfl rfl rfl rfl) (ae _) rfl (by decide)) rfl rfl rfl ?_
  refine me3 (pc' := 13) dm_X8_init_10 (g_put (fs' := [.ref 10, .null, .null, .int (0 : Int32), .int (0 : Int32), .null, .null, .int (0 : Int32), .int (0 : Int32)]) (le_ (n := 2) (u := 0) (v := 0) (j := 7) rfl rfl rfl rfl) rfl (se (n := 2) (u := 0) (v := 0) (j := 7) rfl rfl rfl _) rfl (Nat.le_of_ble_eq_true rfl) rfl (by decide) (fun _ => rfl) (Nat.le_of_ble_eq_true rfl)) rfl rfl rfl ?_
  refine me1 (pc' := 14) dm_X8_init_13 rfl rfl rfl rfl ?_
  refine me0 (pc' := 17) (S' := .int (201 : Int32) :: _) dm_X8_init_14 rfl rfl rfl rfl ?_
  refine me3 (pc' := 19) dm_X8_init_17 (g_nwa (a := 11) (ne_ (n := 2) (u := 0) (v := 0) (j := 9) rfl rfl rfl rfl) (ae _) rfl (by decide)) rfl rfl rfl ?_
  refine me3 (pc' := 22) dm_X8_init_19 (g_put (fs' := [.ref 10, .ref 11, .null, .int (0 : Int32), .int (0 : Int32), .null, .null, .int (0 : Int32), .int (0 : Int32)]) (le_ (n := 2) (u := 0) (v := 0) (j := 7) rfl rfl rfl rfl) rfl (se (n := 2) (u := 0) (v := 0) (j := 7) rfl rfl rfl _) rfl (Nat.le_of_ble_eq_true rfl) rfl (by decide) (fun _ => rfl) (Nat.le_of_ble_eq_true rfl)) rfl rfl rfl ?_
  refine me1 (pc' := 23) dm_X8_init_22 rfl rfl rfl rfl ?_
  refine me0 (pc' := 26) (S' := .int (201 : Int32) :: _) dm_X8_init_23 rfl rfl rfl rfl ?_
  refine me3 (pc' := 28) dm_X8_init_26 (g_nwa (a := 12) (ne_ (n := 2) (u := 0) (v := 0) (j := 10) rfl rfl rfl rfl) (ae _) rfl (by decide)) rfl rfl rfl ?_
  refine me3 (pc' := 31) dm_X8_init_28 (g_put (fs' := [.ref 10, .ref 11, .ref 12, .int (0 : Int32), .int (0 : Int32), .null, .null, .int (0 : Int32), .int (0 : Int32)]) (le_ (n := 2) (u := 0) (v := 0) (j := 7) rfl rfl rfl rfl) rfl (se (n := 2) (u := 0) (v := 0) (j := 7) rfl rfl rfl _) rfl (Nat.le_of_ble_eq_true rfl) rfl (by decide) (fun _ => rfl) (Nat.le_of_ble_eq_true rfl)) rfl rfl rfl ?_
  refine me1 (pc' := 32) dm_X8_init_31 rfl rfl rfl rfl ?_
  refine me1 (pc' := 33) dm_X8_init_32 rfl rfl rfl rfl ?_
  refine me3 (pc' := 36) dm_X8_init_33 (g_put (fs' := [.ref 10, .ref 11, .ref 12, .int (0 : Int32), .int (0 : Int32), .ref 3, .null, .int (0 : Int32), .int (0 : Int32)]) (le_ (n := 2) (u := 0) (v := 0) (j := 7) rfl rfl rfl rfl) rfl (se (n := 2) (u := 0) (v := 0) (j := 7) rfl rfl rfl _) rfl (Nat.le_of_ble_eq_true rfl) rfl (by decide) (fun _ => rfl) (Nat.le_of_ble_eq_true rfl)) rfl rfl rfl ?_
  refine me1 (pc' := 37) dm_X8_init_36 rfl rfl rfl rfl ?_
  refine me1 (pc' := 38) dm_X8_init_37 rfl rfl rfl rfl ?_
  refine me3 (pc' := 41) dm_X8_init_38 (g_put (fs' := [.ref 10, .ref 11, .ref 12, .int (0 : Int32), .int (0 : Int32), .ref 3, .ref 4, .int (0 : Int32), .int (0 : Int32)]) (le_ (n := 2) (u := 0) (v := 0) (j := 7) rfl rfl rfl rfl) rfl (se (n := 2) (u := 0) (v := 0) (j := 7) rfl rfl rfl _) rfl (Nat.le_of_ble_eq_true rfl) rfl (by decide) (fun _ => rfl) (Nat.le_of_ble_eq_true rfl)) rfl rfl rfl ?_
  refine me5 dm_X8_init_41 rfl rfl rfl ?_
  refine me3 (pc' := 43) dm_X11_init_40 (g_put (fs' := [.ref 3, .int (0 : Int32), .ref 4, .ref 9, .null, .null, .null, .null, .null, .null, .int (0 : Int32), .int (0 : Int32), .int (0 : Int32)]) (le_ (n := 2) (u := 0) (v := 0) (j := 0) rfl rfl rfl rfl) rfl (se (n := 2) (u := 0) (v := 0) (j := 0) rfl rfl rfl _) rfl (Nat.le_of_ble_eq_true rfl) rfl (by decide) (fun _ => rfl) (Nat.le_of_ble_eq_true rfl)) rfl rfl rfl ?_
  refine me1 (pc' := 44) dm_X11_init_43 rfl rfl rfl rfl ?_
  refine me3 (pc' := 47) dm_X11_init_44 (g_nw (a := 13) (ne_ (n := 2) (u := 0) (v := 0) (j := 11) rfl rfl rfl rfl) (ae _) rfl) rfl rfl rfl ?_
  refine me0 (pc' := 48) dm_X11_init_47 rfl rfl rfl rfl ?_
  refine me1 (pc' := 49) dm_X11_init_48 rfl rfl rfl rfl ?_
  refine me3 (pc' := 52) dm_X11_init_49 (g_get (v := .ref 9) (le_ (n := 2) (u := 0) (v := 0) (j := 0) rfl rfl rfl rfl) rfl rfl (Nat.le_of_ble_eq_true rfl)) rfl rfl rfl ?_
  refine me4 (pc' := 55) (L0 := [(0, .ref 13), (1, .ref 9)]) dm_X11_init_52 rfl (g_invp (As := [.ref 9]) rfl rfl rfl) pm_X7_init rfl (Nat.le_of_ble_eq_true rfl) rfl rfl rfl ?_
  refine me1 (pc' := 1) dm_X7_init_0 rfl rfl rfl rfl ?_
  refine me4o (pc' := 4) dm_X7_init_1 rfl rfl (by omega) rfl rfl rfl ?_
  refine me1 (pc' := 5) dm_X7_init_4 rfl rfl rfl rfl ?_
  refine me1 (pc' := 6) dm_X7_init_5 rfl rfl rfl rfl ?_
  refine me3 (pc' := 9) dm_X7_init_6 (g_put (fs' := [.ref 9, .int (0 : Int32), .int (0 : Int32), .int (0 : Int32), .long (0 : Int64), .null, .null]) (le_ (n := 2) (u := 0) (v := 0) (j := 11) rfl rfl rfl rfl) rfl (se (n := 2) (u := 0) (v := 0) (j := 11) rfl rfl rfl _) rfl (Nat.le_of_ble_eq_true rfl) rfl (by decide) (fun _ => rfl) (Nat.le_of_ble_eq_true rfl)) rfl rfl rfl ?_
  refine me1 (pc' := 10) dm_X7_init_9 rfl rfl rfl rfl ?_
  refine me3 (pc' := 13) dm_X7_init_10 (g_nw (a := 14) (ne_ (n := 2) (u := 0) (v := 0) (j := 12) rfl rfl rfl rfl) (ae _) rfl) rfl rfl rfl ?_
  refine me0 (pc' := 14) dm_X7_init_13 rfl rfl rfl rfl ?_
  refine me0 (pc' := 15) (S' := .int (0 : Int32) :: _) dm_X7_init_14 rfl rfl rfl rfl ?_
  refine me0 (pc' := 16) (S' := .int (0 : Int32) :: _) dm_X7_init_15 rfl rfl rfl rfl ?_
  refine me0 (pc' := 17) dm_X7_init_16 rfl rfl rfl rfl ?_
  refine me4 (pc' := 20) (L0 := [(0, .ref 14), (1, .int (0 : Int32)), (2, .int (0 : Int32)), (3, .null)]) dm_X7_init_17 rfl (g_invp (As := [.int (0 : Int32), .int (0 : Int32), .null]) rfl rfl rfl) pm_X4_init rfl (Nat.le_of_ble_eq_true rfl) rfl rfl rfl ?_
  refine me1 (pc' := 1) dm_X4_init_0 rfl rfl rfl rfl ?_
  refine me4o (pc' := 4) dm_X4_init_1 rfl rfl (by omega) rfl rfl rfl ?_
  refine me1 (pc' := 5) dm_X4_init_4 rfl rfl rfl rfl ?_
  refine me1 (pc' := 6) dm_X4_init_5 rfl rfl rfl rfl ?_
  refine me3 (pc' := 9) dm_X4_init_6 (g_put (fs' := [.int (0 : Int32), .int (0 : Int32), .int (0 : Int32), .long (0 : Int64), .int (0 : Int32), .int (0 : Int32), .int (0 : Int32), .null, .null, .null]) (le_ (n := 2) (u := 0) (v := 0) (j := 12) rfl rfl rfl rfl) rfl (se (n := 2) (u := 0) (v := 0) (j := 12) rfl rfl rfl _) rfl (Nat.le_of_ble_eq_true rfl) rfl (by decide) (fun _ => rfl) (Nat.le_of_ble_eq_true rfl)) rfl rfl rfl ?_
  refine me1 (pc' := 10) dm_X4_init_9 rfl rfl rfl rfl ?_
  refine me1 (pc' := 11) dm_X4_init_10 rfl rfl rfl rfl ?_
  refine me3 (pc' := 14) dm_X4_init_11 (g_put (fs' := [.int (0 : Int32), .int (0 : Int32), .int (0 : Int32), .long (0 : Int64), .int (0 : Int32), .int (0 : Int32), .int (0 : Int32), .null, .null, .null]) (le_ (n := 2) (u := 0) (v := 0) (j := 12) rfl rfl rfl rfl) rfl (se (n := 2) (u := 0) (v := 0) (j := 12) rfl rfl rfl _) rfl (Nat.le_of_ble_eq_true rfl) rfl (by decide) (fun _ => rfl) (Nat.le_of_ble_eq_true rfl)) rfl rfl rfl ?_
  refine me1 (pc' := 15) dm_X4_init_14 rfl rfl rfl rfl ?_
  refine me1 (pc' := 16) dm_X4_init_15 rfl rfl rfl rfl ?_
  refine me3 (pc' := 19) dm_X4_init_16 (g_put (fs' := [.int (0 : Int32), .int (0 : Int32), .int (0 : Int32), .long (0 : Int64), .int (0 : Int32), .int (0 : Int32), .int (0 : Int32), .null, .null, .null]) (le_ (n := 2) (u := 0) (v := 0) (j := 12) rfl rfl rfl rfl) rfl (se (n := 2) (u := 0) (v := 0) (j := 12) rfl rfl rfl _) rfl (Nat.le_of_ble_eq_true rfl) rfl (by decide) (fun _ => rfl) (Nat.le_of_ble_eq_true rfl)) rfl rfl rfl ?_
  refine me5 dm_X4_init_19 rfl rfl rfl ?_
  refine me3 (pc' := 23) dm_X7_init_20 (g_put (fs' := [.ref 9, .int (0 : Int32), .int (0 : Int32), .int (0 : Int32), .long (0 : Int64), .null, .ref 14]) (le_ (n := 2) (u := 0) (v := 0) (j := 11) rfl rfl rfl rfl) rfl (se (n := 2) (u := 0) (v := 0) (j := 11) rfl rfl rfl _) rfl (Nat.le_of_ble_eq_true rfl) rfl (by decide) (fun _ => rfl) (Nat.le_of_ble_eq_true rfl)) rfl rfl rfl ?_
  refine me5 dm_X7_init_23 rfl rfl rfl ?_
  refine me3 (pc' := 58) dm_X11_init_55 (g_put (fs' := [.ref 3, .int (0 : Int32), .ref 4, .ref 9, .ref 13, .null, .null, .null, .null, .null, .int (0 : Int32), .int (0 : Int32), .int (0 : Int32)]) (le_ (n := 2) (u := 0) (v := 0) (j := 0) rfl rfl rfl rfl) rfl (se (n := 2) (u := 0) (v := 0) (j := 0) rfl rfl rfl _) rfl (Nat.le_of_ble_eq_true rfl) rfl (by decide) (fun _ => rfl) (Nat.le_of_ble_eq_true rfl)) rfl rfl rfl ?_
  refine me1 (pc' := 59) dm_X11_init_58 rfl rfl rfl rfl ?_
  refine me0 (pc' := 60) (S' := .int (4 : Int32) :: _) dm_X11_init_59 rfl rfl rfl rfl ?_
  refine me3 (pc' := 63) dm_X11_init_60 (g_nwq (a := 15) (ne_ (n := 2) (u := 0) (v := 0) (j := 13) rfl rfl rfl rfl) (ae _) rfl (by decide)) rfl rfl rfl ?_
  refine me3 (pc' := 66) dm_X11_init_63 (g_put (fs' := [.ref 3, .int (0 : Int32), .ref 4, .ref 9, .ref 13, .ref 15, .null, .null, .null, .null, .int (0 : Int32), .int (0 : Int32), .int (0 : Int32)]) (le_ (n := 2) (u := 0) (v := 0) (j := 0) rfl rfl rfl rfl) rfl (se (n := 2) (u := 0) (v := 0) (j := 0) rfl rfl rfl _) rfl (Nat.le_of_ble_eq_true rfl) rfl (by decide) (fun _ => rfl) (Nat.le_of_ble_eq_true rfl)) rfl rfl rfl ?_
  refine me1 (pc' := 67) dm_X11_init_66 rfl rfl rfl rfl ?_
  refine me3 (pc' := 70) dm_X11_init_67 (g_nw (a := 16) (ne_ (n := 2) (u := 0) (v := 0) (j := 14) rfl rfl rfl rfl) (ae _) rfl) rfl rfl rfl ?_
  refine me0 (pc' := 71) dm_X11_init_70 rfl rfl rfl rfl ?_
  refine me1 (pc' := 72) dm_X11_init_71 rfl rfl rfl rfl ?_
  refine me3 (pc' := 75) dm_X11_init_72 (g_get (v := .ref 4) (le_ (n := 2) (u := 0) (v := 0) (j := 0) rfl rfl rfl rfl) rfl rfl (Nat.le_of_ble_eq_true rfl)) rfl rfl rfl ?_
  refine me4 (pc' := 78) (L0 := [(0, .ref 16), (1, .ref 4)]) dm_X11_init_75 rfl (g_invp (As := [.ref 4]) rfl rfl rfl) pm_X1_init rfl (Nat.le_of_ble_eq_true rfl) rfl rfl rfl ?_
  refine me1 (pc' := 1) dm_X1_init_0 rfl rfl rfl rfl ?_
  refine me4o (pc' := 4) dm_X1_init_1 rfl rfl (by omega) rfl rfl rfl ?_
  refine me1 (pc' := 5) dm_X1_init_4 rfl rfl rfl rfl ?_
  refine me3 (pc' := 8) dm_X1_init_5 (g_nw (a := 17) (ne_ (n := 2) (u := 0) (v := 0) (j := 15) rfl rfl rfl rfl) (ae _) rfl) rfl rfl rfl ?_
  refine me0 (pc' := 9) dm_X1_init_8 rfl rfl rfl rfl ?_
  refine me4 (pc' := 12) (L0 := [(0, .ref 17)]) dm_X1_init_9 rfl (g_invp (As := []) rfl rfl rfl) pm_X3_init rfl (Nat.le_of_ble_eq_true rfl) rfl rfl rfl ?_
  refine me1 (pc' := 1) dm_X3_init_0 rfl rfl rfl rfl ?_
  refine me4o (pc' := 4) dm_X3_init_1 rfl rfl (by omega) rfl rfl rfl ?_
  refine me1 (pc' := 5) dm_X3_init_4 rfl rfl rfl rfl ?_
  refine me0 (pc' := 8) (S' := .int (144 : Int32) :: _) dm_X3_init_5 rfl rfl rfl rfl ?_
  refine me3 (pc' := 10) dm_X3_init_8 (g_nwa (a := 18) (ne_ (n := 2) (u := 0) (v := 0) (j := 16) rfl rfl rfl rfl) (ae _) rfl (by decide)) rfl rfl rfl ?_
  refine me3 (pc' := 13) dm_X3_init_10 (g_put (fs' := [.ref 18, .null, .null, .null, .null]) (le_ (n := 2) (u := 0) (v := 0) (j := 15) rfl rfl rfl rfl) rfl (se (n := 2) (u := 0) (v := 0) (j := 15) rfl rfl rfl _) rfl (Nat.le_of_ble_eq_true rfl) rfl (by decide) (fun _ => rfl) (Nat.le_of_ble_eq_true rfl)) rfl rfl rfl ?_
  refine me1 (pc' := 14) dm_X3_init_13 rfl rfl rfl rfl ?_
  refine me0 (pc' := 17) (S' := .int (144 : Int32) :: _) dm_X3_init_14 rfl rfl rfl rfl ?_
  refine me3 (pc' := 19) dm_X3_init_17 (g_nwa (a := 19) (ne_ (n := 2) (u := 0) (v := 0) (j := 17) rfl rfl rfl rfl) (ae _) rfl (by decide)) rfl rfl rfl ?_
  refine me3 (pc' := 22) dm_X3_init_19 (g_put (fs' := [.ref 18, .ref 19, .null, .null, .null]) (le_ (n := 2) (u := 0) (v := 0) (j := 15) rfl rfl rfl rfl) rfl (se (n := 2) (u := 0) (v := 0) (j := 15) rfl rfl rfl _) rfl (Nat.le_of_ble_eq_true rfl) rfl (by decide) (fun _ => rfl) (Nat.le_of_ble_eq_true rfl)) rfl rfl rfl ?_
  refine me1 (pc' := 23) dm_X3_init_22 rfl rfl rfl rfl ?_
  refine me3 (pc' := 26) dm_X3_init_23 (g_nw (a := 20) (ne_ (n := 2) (u := 0) (v := 0) (j := 18) rfl rfl rfl rfl) (ae _) rfl) rfl rfl rfl ?_
  refine me0 (pc' := 27) dm_X3_init_26 rfl rfl rfl rfl ?_
  refine me0 (pc' := 29) (S' := .int (121 : Int32) :: _) dm_X3_init_27 rfl rfl rfl rfl ?_
  refine me4 (pc' := 32) (L0 := [(0, .ref 20), (1, .int (121 : Int32))]) dm_X3_init_29 rfl (g_invp (As := [.int (121 : Int32)]) rfl rfl rfl) pm_X6_init rfl (Nat.le_of_ble_eq_true rfl) rfl rfl rfl ?_
  refine me1 (pc' := 1) dm_X6_init_0 rfl rfl rfl rfl ?_
  refine me4o (pc' := 4) dm_X6_init_1 rfl rfl (by omega) rfl rfl rfl ?_
  refine me1 (pc' := 5) dm_X6_init_4 rfl rfl rfl rfl ?_
  refine me0 (pc' := 7) (S' := .int (20 : Int32) :: _) dm_X6_init_5 rfl rfl rfl rfl ?_
  refine me3 (pc' := 9) dm_X6_init_7 (g_nwa (a := 21) (ne_ (n := 2) (u := 0) (v := 0) (j := 19) rfl rfl rfl rfl) (ae _) rfl (by decide)) rfl rfl rfl ?_
  refine me3 (pc' := 12) dm_X6_init_9 (g_put (fs' := [.null, .ref 21, .int (0 : Int32)]) (le_ (n := 2) (u := 0) (v := 0) (j := 18) rfl rfl rfl rfl) rfl (se (n := 2) (u := 0) (v := 0) (j := 18) rfl rfl rfl _) rfl (Nat.le_of_ble_eq_true rfl) rfl (by decide) (fun _ => rfl) (Nat.le_of_ble_eq_true rfl)) rfl rfl rfl ?_
  refine me1 (pc' := 13) dm_X6_init_12 rfl rfl rfl rfl ?_
  refine me1 (pc' := 14) dm_X6_init_13 rfl rfl rfl rfl ?_
  refine me3 (pc' := 16) dm_X6_init_14 (g_nwa (a := 22) (ne_ (n := 2) (u := 0) (v := 0) (j := 20) rfl rfl rfl rfl) (ae _) rfl (by decide)) rfl rfl rfl ?_
  refine me3 (pc' := 19) dm_X6_init_16 (g_put (fs' := [.ref 22, .ref 21, .int (0 : Int32)]) (le_ (n := 2) (u := 0) (v := 0) (j := 18) rfl rfl rfl rfl) rfl (se (n := 2) (u := 0) (v := 0) (j := 18) rfl rfl rfl _) rfl (Nat.le_of_ble_eq_true rfl) rfl (by decide) (fun _ => rfl) (Nat.le_of_ble_eq_true rfl)) rfl rfl rfl ?_
  refine me5 dm_X6_init_19 rfl rfl rfl ?_
  refine me3 (pc' := 35) dm_X3_init_32 (g_put (fs' := [.ref 18, .ref 19, .ref 20, .null, .null]) (le_ (n := 2) (u := 0) (v := 0) (j := 15) rfl rfl rfl rfl) rfl (se (n := 2) (u := 0) (v := 0) (j := 15) rfl rfl rfl _) rfl (Nat.le_of_ble_eq_true rfl) rfl (by decide) (fun _ => rfl) (Nat.le_of_ble_eq_true rfl)) rfl rfl rfl ?_
  refine me1 (pc' := 36) dm_X3_init_35 rfl rfl rfl rfl ?_
  refine me3 (pc' := 39) dm_X3_init_36 (g_nw (a := 23) (ne_ (n := 2) (u := 0) (v := 0) (j := 21) rfl rfl rfl rfl) (ae _) rfl) rfl rfl rfl ?_
  refine me0 (pc' := 40) dm_X3_init_39 rfl rfl rfl rfl ?_
  refine me4 (pc' := 43) (L0 := [(0, .ref 23)]) dm_X3_init_40 rfl (g_invp (As := []) rfl rfl rfl) pm_X5_init rfl (Nat.le_of_ble_eq_true rfl) rfl rfl rfl ?_
  refine me1 (pc' := 1) dm_X5_init_0 rfl rfl rfl rfl ?_
  refine me4o (pc' := 4) dm_X5_init_1 rfl rfl (by omega) rfl rfl rfl ?_
  refine me1 (pc' := 5) dm_X5_init_4 rfl rfl rfl rfl ?_
  refine me0 (pc' := 8) (S' := .int (1000 : Int32) :: _) dm_X5_init_5 rfl rfl rfl rfl ?_
  refine me3 (pc' := 10) dm_X5_init_8 (g_nwa (a := 24) (ne_ (n := 2) (u := 0) (v := 0) (j := 22) rfl rfl rfl rfl) (ae _) rfl (by decide)) rfl rfl rfl ?_
  refine me3 (pc' := 13) dm_X5_init_10 (g_put (fs' := [.int (0 : Int32), .int (0 : Int32), .ref 24, .int (0 : Int32), .int (0 : Int32), .int (0 : Int32), .int (0 : Int32), .int (0 : Int32), .null, .null, .int (0 : Int32), .int (0 : Int32)]) (le_ (n := 2) (u := 0) (v := 0) (j := 21) rfl rfl rfl rfl) rfl (se (n := 2) (u := 0) (v := 0) (j := 21) rfl rfl rfl _) rfl (Nat.le_of_ble_eq_true rfl) rfl (by decide) (fun _ => rfl) (Nat.le_of_ble_eq_true rfl)) rfl rfl rfl ?_
  refine me1 (pc' := 14) dm_X5_init_13 rfl rfl rfl rfl ?_
  refine me3 (pc' := 17) (S' := .ref 1 :: _) dm_X5_init_14 rfl rfl rfl rfl ?_
  refine me3 (pc' := 20) dm_X5_init_17 (g_put (fs' := [.int (0 : Int32), .int (0 : Int32), .ref 24, .int (0 : Int32), .int (0 : Int32), .int (0 : Int32), .int (0 : Int32), .int (0 : Int32), .ref 1, .null, .int (0 : Int32), .int (0 : Int32)]) (le_ (n := 2) (u := 0) (v := 0) (j := 21) rfl rfl rfl rfl) rfl (se (n := 2) (u := 0) (v := 0) (j := 21) rfl rfl rfl _) rfl (Nat.le_of_ble_eq_true rfl) rfl (by decide) (fun _ => rfl) (Nat.le_of_ble_eq_true rfl)) rfl rfl rfl ?_
  refine me5 dm_X5_init_20 rfl rfl rfl ?_
  refine me3 (pc' := 46) dm_X3_init_43 (g_put (fs' := [.ref 18, .ref 19, .ref 20, .ref 23, .null]) (le_ (n := 2) (u := 0) (v := 0) (j := 15) rfl rfl rfl rfl) rfl (se (n := 2) (u := 0) (v := 0) (j := 15) rfl rfl rfl _) rfl (Nat.le_of_ble_eq_true rfl) rfl (by decide) (fun _ => rfl) (Nat.le_of_ble_eq_true rfl)) rfl rfl rfl ?_
  refine me1 (pc' := 47) dm_X3_init_46 rfl rfl rfl rfl ?_
  refine me0 (pc' := 48) (S' := .long (0 : Int64) :: _) dm_X3_init_47 rfl rfl rfl rfl ?_
  refine me4 (pc' := 51) (L0 := [(0, .long (0 : Int64))]) dm_X3_init_48 rfl (g_invs (As := [.long (0 : Int64)]) rfl rfl rfl) pm_X10_number rfl (Nat.le_of_ble_eq_true rfl) rfl rfl rfl ?_
  refine me3 (pc' := 3) dm_X10_number_0 (g_nw (a := 25) (ne_ (n := 2) (u := 0) (v := 0) (j := 23) rfl rfl rfl rfl) (ae _) rfl) rfl rfl rfl ?_
  refine me0 (pc' := 4) dm_X10_number_3 rfl rfl rfl rfl ?_
  refine me0 (pc' := 5) (S' := .int (0 : Int32) :: _) dm_X10_number_4 rfl rfl rfl rfl ?_
  refine me1 (pc' := 6) dm_X10_number_5 rfl rfl rfl rfl ?_
  refine me3 (pc' := 9) (S' := .ref 1 :: _) dm_X10_number_6 rfl rfl rfl rfl ?_
  refine me0 (pc' := 10) (S' := .int (0 : Int32) :: _) dm_X10_number_9 rfl rfl rfl rfl ?_
  refine me0 (pc' := 11) (S' := .int (1 : Int32) :: _) dm_X10_number_10 rfl rfl rfl rfl ?_
  refine me0 (pc' := 12) (S' := .int (0 : Int32) :: _) dm_X10_number_11 rfl rfl rfl rfl ?_
  refine me4 (pc' := 15) (L0 := [(0, .ref 25), (1, .int (0 : Int32)), (2, .long (0 : Int64)), (4, .ref 1), (5, .int (0 : Int32)), (6, .int (1 : Int32)), (7, .int (0 : Int32))]) dm_X10_number_12 rfl (g_invp (As := [.int (0 : Int32), .long (0 : Int64), .ref 1, .int (0 : Int32), .int (1 : Int32), .int (0 : Int32)]) rfl rfl rfl) pm_X10_init rfl (Nat.le_of_ble_eq_true rfl) rfl rfl rfl ?_
  refine me1 (pc' := 1) dm_X10_init_0 rfl rfl rfl rfl ?_
  refine me4o (pc' := 4) dm_X10_init_1 rfl rfl (by omega) rfl rfl rfl ?_
  refine me1 (pc' := 5) dm_X10_init_4 rfl rfl rfl rfl ?_
  refine me1 (pc' := 6) dm_X10_init_5 rfl rfl rfl rfl ?_
  refine me3 (pc' := 9) dm_X10_init_6 (g_put (fs' := [.int (0 : Int32), .long (0 : Int64), .null, .null, .int (0 : Int32), .int (0 : Int32), .int (0 : Int32), .int (0 : Int32), .int (0 : Int32)]) (le_ (n := 2) (u := 0) (v := 0) (j := 23) rfl rfl rfl rfl) rfl (se (n := 2) (u := 0) (v := 0) (j := 23) rfl rfl rfl _) rfl (Nat.le_of_ble_eq_true rfl) rfl (by decide) (fun _ => rfl) (Nat.le_of_ble_eq_true rfl)) rfl rfl rfl ?_
  refine me1 (pc' := 10) dm_X10_init_9 rfl rfl rfl rfl ?_
  refine me1 (pc' := 11) dm_X10_init_10 rfl rfl rfl rfl ?_
  refine me3 (pc' := 14) dm_X10_init_11 (g_put (fs' := [.int (0 : Int32), .long (0 : Int64), .null, .null, .int (0 : Int32), .int (0 : Int32), .int (0 : Int32), .int (0 : Int32), .int (0 : Int32)]) (le_ (n := 2) (u := 0) (v := 0) (j := 23) rfl rfl rfl rfl) rfl (se (n := 2) (u := 0) (v := 0) (j := 23) rfl rfl rfl _) rfl (Nat.le_of_ble_eq_true rfl) rfl (by decide) (fun _ => rfl) (Nat.le_of_ble_eq_true rfl)) rfl rfl rfl ?_
  refine me1 (pc' := 15) dm_X10_init_14 rfl rfl rfl rfl ?_
  refine me1 (pc' := 17) dm_X10_init_15 rfl rfl rfl rfl ?_
  refine me3 (pc' := 20) dm_X10_init_17 (g_put (fs' := [.int (0 : Int32), .long (0 : Int64), .ref 1, .null, .int (0 : Int32), .int (0 : Int32), .int (0 : Int32), .int (0 : Int32), .int (0 : Int32)]) (le_ (n := 2) (u := 0) (v := 0) (j := 23) rfl rfl rfl rfl) rfl (se (n := 2) (u := 0) (v := 0) (j := 23) rfl rfl rfl _) rfl (Nat.le_of_ble_eq_true rfl) rfl (by decide) (fun _ => rfl) (Nat.le_of_ble_eq_true rfl)) rfl rfl rfl ?_
  refine me1 (pc' := 21) dm_X10_init_20 rfl rfl rfl rfl ?_
  refine me0 (pc' := 22) dm_X10_init_21 rfl rfl rfl rfl ?_
  refine me3 (pc' := 25) dm_X10_init_22 (g_put (fs' := [.int (0 : Int32), .long (0 : Int64), .ref 1, .null, .int (0 : Int32), .int (0 : Int32), .int (0 : Int32), .int (0 : Int32), .int (0 : Int32)]) (le_ (n := 2) (u := 0) (v := 0) (j := 23) rfl rfl rfl rfl) rfl (se (n := 2) (u := 0) (v := 0) (j := 23) rfl rfl rfl _) rfl (Nat.le_of_ble_eq_true rfl) rfl (by decide) (fun _ => rfl) (Nat.le_of_ble_eq_true rfl)) rfl rfl rfl ?_
  refine me1 (pc' := 26) dm_X10_init_25 rfl rfl rfl rfl ?_
  refine me1 (pc' := 28) dm_X10_init_26 rfl rfl rfl rfl ?_
  refine me3 (pc' := 31) dm_X10_init_28 (g_put (fs' := [.int (0 : Int32), .long (0 : Int64), .ref 1, .null, .int (0 : Int32), .int (0 : Int32), .int (0 : Int32), .int (0 : Int32), .int (0 : Int32)]) (le_ (n := 2) (u := 0) (v := 0) (j := 23) rfl rfl rfl rfl) rfl (se (n := 2) (u := 0) (v := 0) (j := 23) rfl rfl rfl _) rfl (Nat.le_of_ble_eq_true rfl) rfl (by decide) (fun _ => rfl) (Nat.le_of_ble_eq_true rfl)) rfl rfl rfl ?_
  refine me1 (pc' := 32) dm_X10_init_31 rfl rfl rfl rfl ?_
  refine me1 (pc' := 34) dm_X10_init_32 rfl rfl rfl rfl ?_
  refine me3 (pc' := 37) dm_X10_init_34 (g_put (fs' := [.int (0 : Int32), .long (0 : Int64), .ref 1, .null, .int (0 : Int32), .int (1 : Int32), .int (0 : Int32), .int (0 : Int32), .int (0 : Int32)]) (le_ (n := 2) (u := 0) (v := 0) (j := 23) rfl rfl rfl rfl) rfl (se (n := 2) (u := 0) (v := 0) (j := 23) rfl rfl rfl _) rfl (Nat.le_of_ble_eq_true rfl) rfl (by decide) (fun _ => rfl) (Nat.le_of_ble_eq_true rfl)) rfl rfl rfl ?_
  refine me1 (pc' := 38) dm_X10_init_37 rfl rfl rfl rfl ?_
  refine me1 (pc' := 40) dm_X10_init_38 rfl rfl rfl rfl ?_
  refine me3 (pc' := 43) dm_X10_init_40 (g_put (fs' := [.int (0 : Int32), .long (0 : Int64), .ref 1, .null, .int (0 : Int32), .int (1 : Int32), .int (0 : Int32), .int (0 : Int32), .int (0 : Int32)]) (le_ (n := 2) (u := 0) (v := 0) (j := 23) rfl rfl rfl rfl) rfl (se (n := 2) (u := 0) (v := 0) (j := 23) rfl rfl rfl _) rfl (Nat.le_of_ble_eq_true rfl) rfl (by decide) (fun _ => rfl) (Nat.le_of_ble_eq_true rfl)) rfl rfl rfl ?_
  refine me1 (pc' := 44) dm_X10_init_43 rfl rfl rfl rfl ?_
  refine me0 (pc' := 46) (S' := .int (6 : Int32) :: _) dm_X10_init_44 rfl rfl rfl rfl ?_
  refine me_2t (pc' := 68) dm_X10_init_46 rfl rfl ?_
  refine me1 (pc' := 69) dm_X10_init_68 rfl rfl rfl rfl ?_
  refine me0 (pc' := 70) (S' := .int (2 : Int32) :: _) dm_X10_init_69 rfl rfl rfl rfl ?_
  refine me_2t (pc' := 94) dm_X10_init_70 rfl rfl ?_
  refine me1 (pc' := 95) dm_X10_init_94 rfl rfl rfl rfl ?_
  refine me0 (pc' := 96) (S' := .int (1 : Int32) :: _) dm_X10_init_95 rfl rfl rfl rfl ?_
  refine me3 (pc' := 99) dm_X10_init_96 (g_put (fs' := [.int (0 : Int32), .long (0 : Int64), .ref 1, .null, .int (0 : Int32), .int (1 : Int32), .int (0 : Int32), .int (1 : Int32), .int (0 : Int32)]) (le_ (n := 2) (u := 0) (v := 0) (j := 23) rfl rfl rfl rfl) rfl (se (n := 2) (u := 0) (v := 0) (j := 23) rfl rfl rfl _) rfl (Nat.le_of_ble_eq_true rfl) rfl (by decide) (fun _ => rfl) (Nat.le_of_ble_eq_true rfl)) rfl rfl rfl ?_
  refine me1 (pc' := 100) dm_X10_init_99 rfl rfl rfl rfl ?_
  refine me0 (pc' := 101) (S' := .int (0 : Int32) :: _) dm_X10_init_100 rfl rfl rfl rfl ?_
  refine me3 (pc' := 104) dm_X10_init_101 (g_put (fs' := [.int (0 : Int32), .long (0 : Int64), .ref 1, .null, .int (0 : Int32), .int (1 : Int32), .int (0 : Int32), .int (1 : Int32), .int (0 : Int32)]) (le_ (n := 2) (u := 0) (v := 0) (j := 23) rfl rfl rfl rfl) rfl (se (n := 2) (u := 0) (v := 0) (j := 23) rfl rfl rfl _) rfl (Nat.le_of_ble_eq_true rfl) rfl (by decide) (fun _ => rfl) (Nat.le_of_ble_eq_true rfl)) rfl rfl rfl ?_
  refine me5 dm_X10_init_104 rfl rfl rfl ?_
  refine me5 dm_X10_number_15 rfl rfl rfl ?_
  refine me3 (pc' := 54) dm_X3_init_51 (g_put (fs' := [.ref 18, .ref 19, .ref 20, .ref 23, .ref 25]) (le_ (n := 2) (u := 0) (v := 0) (j := 15) rfl rfl rfl rfl) rfl (se (n := 2) (u := 0) (v := 0) (j := 15) rfl rfl rfl _) rfl (Nat.le_of_ble_eq_true rfl) rfl (by decide) (fun _ => rfl) (Nat.le_of_ble_eq_true rfl)) rfl rfl rfl ?_
  refine me5 dm_X3_init_54 rfl rfl rfl ?_
  refine me3 (pc' := 15) dm_X1_init_12 (g_put (fs' := [.null, .ref 17, .null, .null, .int (0 : Int32), .null, .int (0 : Int32), .int (0 : Int32), .int (0 : Int32), .int (0 : Int32), .int (0 : Int32), .int (0 : Int32), .null, .null, .null, .null, .int (0 : Int32), .null, .null]) (le_ (n := 2) (u := 0) (v := 0) (j := 14) rfl rfl rfl rfl) rfl (se (n := 2) (u := 0) (v := 0) (j := 14) rfl rfl rfl _) rfl (Nat.le_of_ble_eq_true rfl) rfl (by decide) (fun _ => rfl) (Nat.le_of_ble_eq_true rfl)) rfl rfl rfl ?_
  refine me1 (pc' := 16) dm_X1_init_15 rfl rfl rfl rfl ?_
  refine me3 (pc' := 19) dm_X1_init_16 (g_nw (a := 26) (ne_ (n := 2) (u := 0) (v := 0) (j := 24) rfl rfl rfl rfl) (ae _) rfl) rfl rfl rfl ?_
  refine me0 (pc' := 20) dm_X1_init_19 rfl rfl rfl rfl ?_
  refine me4 (pc' := 23) (L0 := [(0, .ref 26)]) dm_X1_init_20 rfl (g_invp (As := []) rfl rfl rfl) pm_X9_init rfl (Nat.le_of_ble_eq_true rfl) rfl rfl rfl ?_
  refine me1 (pc' := 1) dm_X9_init_0 rfl rfl rfl rfl ?_
  refine me4o (pc' := 4) dm_X9_init_1 rfl rfl (by omega) rfl rfl rfl ?_
  refine me1 (pc' := 5) dm_X9_init_4 rfl rfl rfl rfl ?_
  refine me3 (pc' := 8) dm_X9_init_5 (g_nw (a := 27) (ne_ (n := 2) (u := 0) (v := 0) (j := 25) rfl rfl rfl rfl) (ae _) rfl) rfl rfl rfl ?_
  refine me0 (pc' := 9) dm_X9_init_8 rfl rfl rfl rfl ?_
  refine me4 (pc' := 12) (L0 := [(0, .ref 27)]) dm_X9_init_9 rfl (g_invp (As := []) rfl rfl rfl) pm_X5_init rfl (Nat.le_of_ble_eq_true rfl) rfl rfl rfl ?_
  refine me1 (pc' := 1) dm_X5_init_0 rfl rfl rfl rfl ?_
  refine me4o (pc' := 4) dm_X5_init_1 rfl rfl (by omega) rfl rfl rfl ?_
  refine me1 (pc' := 5) dm_X5_init_4 rfl rfl rfl rfl ?_
  refine me0 (pc' := 8) (S' := .int (1000 : Int32) :: _) dm_X5_init_5 rfl rfl rfl rfl ?_
  refine me3 (pc' := 10) dm_X5_init_8 (g_nwa (a := 28) (ne_ (n := 2) (u := 0) (v := 0) (j := 26) rfl rfl rfl rfl) (ae _) rfl (by decide)) rfl rfl rfl ?_
  refine me3 (pc' := 13) dm_X5_init_10 (g_put (fs' := [.int (0 : Int32), .int (0 : Int32), .ref 28, .int (0 : Int32), .int (0 : Int32), .int (0 : Int32), .int (0 : Int32), .int (0 : Int32), .null, .null, .int (0 : Int32), .int (0 : Int32)]) (le_ (n := 2) (u := 0) (v := 0) (j := 25) rfl rfl rfl rfl) rfl (se (n := 2) (u := 0) (v := 0) (j := 25) rfl rfl rfl _) rfl (Nat.le_of_ble_eq_true rfl) rfl (by decide) (fun _ => rfl) (Nat.le_of_ble_eq_true rfl)) rfl rfl rfl ?_
  refine me1 (pc' := 14) dm_X5_init_13 rfl rfl rfl rfl ?_
  refine me3 (pc' := 17) (S' := .ref 1 :: _) dm_X5_init_14 rfl rfl rfl rfl ?_
  refine me3 (pc' := 20) dm_X5_init_17 (g_put (fs' := [.int (0 : Int32), .int (0 : Int32), .ref 28, .int (0 : Int32), .int (0 : Int32), .int (0 : Int32), .int (0 : Int32), .int (0 : Int32), .ref 1, .null, .int (0 : Int32), .int (0 : Int32)]) (le_ (n := 2) (u := 0) (v := 0) (j := 25) rfl rfl rfl rfl) rfl (se (n := 2) (u := 0) (v := 0) (j := 25) rfl rfl rfl _) rfl (Nat.le_of_ble_eq_true rfl) rfl (by decide) (fun _ => rfl) (Nat.le_of_ble_eq_true rfl)) rfl rfl rfl ?_
  refine me5 dm_X5_init_20 rfl rfl rfl ?_
  refine me3 (pc' := 15) dm_X9_init_12 (g_put (fs' := [.ref 27, .null, .null, .null, .int (0 : Int32)]) (le_ (n := 2) (u := 0) (v := 0) (j := 24) rfl rfl rfl rfl) rfl (se (n := 2) (u := 0) (v := 0) (j := 24) rfl rfl rfl _) rfl (Nat.le_of_ble_eq_true rfl) rfl (by decide) (fun _ => rfl) (Nat.le_of_ble_eq_true rfl)) rfl rfl rfl ?_
  refine me1 (pc' := 16) dm_X9_init_15 rfl rfl rfl rfl ?_
  refine me0 (pc' := 19) (S' := .int (144 : Int32) :: _) dm_X9_init_16 rfl rfl rfl rfl ?_
  refine me3 (pc' := 21) dm_X9_init_19 (g_nwa (a := 29) (ne_ (n := 2) (u := 0) (v := 0) (j := 27) rfl rfl rfl rfl) (ae _) rfl (by decide)) rfl rfl rfl ?_
  refine me3 (pc' := 24) dm_X9_init_21 (g_put (fs' := [.ref 27, .ref 29, .null, .null, .int (0 : Int32)]) (le_ (n := 2) (u := 0) (v := 0) (j := 24) rfl rfl rfl rfl) rfl (se (n := 2) (u := 0) (v := 0) (j := 24) rfl rfl rfl _) rfl (Nat.le_of_ble_eq_true rfl) rfl (by decide) (fun _ => rfl) (Nat.le_of_ble_eq_true rfl)) rfl rfl rfl ?_
  refine me1 (pc' := 25) dm_X9_init_24 rfl rfl rfl rfl ?_
  refine me0 (pc' := 28) (S' := .int (144 : Int32) :: _) dm_X9_init_25 rfl rfl rfl rfl ?_
  refine me3 (pc' := 30) dm_X9_init_28 (g_nwa (a := 30) (ne_ (n := 2) (u := 0) (v := 0) (j := 28) rfl rfl rfl rfl) (ae _) rfl (by decide)) rfl rfl rfl ?_
  refine me3 (pc' := 33) dm_X9_init_30 (g_put (fs' := [.ref 27, .ref 29, .ref 30, .null, .int (0 : Int32)]) (le_ (n := 2) (u := 0) (v := 0) (j := 24) rfl rfl rfl rfl) rfl (se (n := 2) (u := 0) (v := 0) (j := 24) rfl rfl rfl _) rfl (Nat.le_of_ble_eq_true rfl) rfl (by decide) (fun _ => rfl) (Nat.le_of_ble_eq_true rfl)) rfl rfl rfl ?_
  refine me1 (pc' := 34) dm_X9_init_33 rfl rfl rfl rfl ?_
  refine me0 (pc' := 36) (S' := .int (120 : Int32) :: _) dm_X9_init_34 rfl rfl rfl rfl ?_
  refine me3 (pc' := 39) dm_X9_init_36 (g_nwq (a := 31) (ne_ (n := 2) (u := 0) (v := 0) (j := 29) rfl rfl rfl rfl) (ae _) rfl (by decide)) rfl rfl rfl ?_
  refine me3 (pc' := 42) dm_X9_init_39 (g_put (fs' := [.ref 27, .ref 29, .ref 30, .ref 31, .int (0 : Int32)]) (le_ (n := 2) (u := 0) (v := 0) (j := 24) rfl rfl rfl rfl) rfl (se (n := 2) (u := 0) (v := 0) (j := 24) rfl rfl rfl _) rfl (Nat.le_of_ble_eq_true rfl) rfl (by decide) (fun _ => rfl) (Nat.le_of_ble_eq_true rfl)) rfl rfl rfl ?_
  refine me5 dm_X9_init_42 rfl rfl rfl ?_
  refine me3 (pc' := 26) dm_X1_init_23 (g_put (fs' := [.null, .ref 17, .ref 26, .null, .int (0 : Int32), .null, .int (0 : Int32), .int (0 : Int32), .int (0 : Int32), .int (0 : Int32), .int (0 : Int32), .int (0 : Int32), .null, .null, .null, .null, .int (0 : Int32), .null, .null]) (le_ (n := 2) (u := 0) (v := 0) (j := 14) rfl rfl rfl rfl) rfl (se (n := 2) (u := 0) (v := 0) (j := 14) rfl rfl rfl _) rfl (Nat.le_of_ble_eq_true rfl) rfl (by decide) (fun _ => rfl) (Nat.le_of_ble_eq_true rfl)) rfl rfl rfl ?_
  refine me1 (pc' := 27) dm_X1_init_26 rfl rfl rfl rfl ?_
  refine me0 (pc' := 30) (S' := .int (8192 : Int32) :: _) dm_X1_init_27 rfl rfl rfl rfl ?_
  refine me3 (pc' := 33) dm_X1_init_30 (g_nwq (a := 32) (ne_ (n := 2) (u := 0) (v := 0) (j := 30) rfl rfl rfl rfl) (ae _) rfl (by decide)) rfl rfl rfl ?_
  refine me3 (pc' := 36) dm_X1_init_33 (g_put (fs' := [.null, .ref 17, .ref 26, .ref 32, .int (0 : Int32), .null, .int (0 : Int32), .int (0 : Int32), .int (0 : Int32), .int (0 : Int32), .int (0 : Int32), .int (0 : Int32), .null, .null, .null, .null, .int (0 : Int32), .null, .null]) (le_ (n := 2) (u := 0) (v := 0) (j := 14) rfl rfl rfl rfl) rfl (se (n := 2) (u := 0) (v := 0) (j := 14) rfl rfl rfl _) rfl (Nat.le_of_ble_eq_true rfl) rfl (by decide) (fun _ => rfl) (Nat.le_of_ble_eq_true rfl)) rfl rfl rfl ?_
  refine me1 (pc' := 37) dm_X1_init_36 rfl rfl rfl rfl ?_
  refine me0 (pc' := 39) (S' := .int (64 : Int32) :: _) dm_X1_init_37 rfl rfl rfl rfl ?_
  refine me3 (pc' := 42) dm_X1_init_39 (g_nwq (a := 33) (ne_ (n := 2) (u := 0) (v := 0) (j := 31) rfl rfl rfl rfl) (ae _) rfl (by decide)) rfl rfl rfl ?_
  refine me3 (pc' := 45) dm_X1_init_42 (g_put (fs' := [.null, .ref 17, .ref 26, .ref 32, .int (0 : Int32), .ref 33, .int (0 : Int32), .int (0 : Int32), .int (0 : Int32), .int (0 : Int32), .int (0 : Int32), .int (0 : Int32), .null, .null, .null, .null, .int (0 : Int32), .null, .null]) (le_ (n := 2) (u := 0) (v := 0) (j := 14) rfl rfl rfl rfl) rfl (se (n := 2) (u := 0) (v := 0) (j := 14) rfl rfl rfl _) rfl (Nat.le_of_ble_eq_true rfl) rfl (by decide) (fun _ => rfl) (Nat.le_of_ble_eq_true rfl)) rfl rfl rfl ?_
  refine me1 (pc' := 46) dm_X1_init_45 rfl rfl rfl rfl ?_
  refine me3 (pc' := 48) (S' := .int (500000 : Int32) :: _) dm_X1_init_46 rfl rfl rfl rfl ?_
  refine me3 (pc' := 51) dm_X1_init_48 (g_put (fs' := [.null, .ref 17, .ref 26, .ref 32, .int (0 : Int32), .ref 33, .int (0 : Int32), .int (0 : Int32), .int (0 : Int32), .int (500000 : Int32), .int (0 : Int32), .int (0 : Int32), .null, .null, .null, .null, .int (0 : Int32), .null, .null]) (le_ (n := 2) (u := 0) (v := 0) (j := 14) rfl rfl rfl rfl) rfl (se (n := 2) (u := 0) (v := 0) (j := 14) rfl rfl rfl _) rfl (Nat.le_of_ble_eq_true rfl) rfl (by decide) (fun _ => rfl) (Nat.le_of_ble_eq_true rfl)) rfl rfl rfl ?_
  refine me1 (pc' := 52) dm_X1_init_51 rfl rfl rfl rfl ?_
  refine me1 (pc' := 53) dm_X1_init_52 rfl rfl rfl rfl ?_
  refine me3 (pc' := 56) dm_X1_init_53 (g_put (fs' := [.ref 4, .ref 17, .ref 26, .ref 32, .int (0 : Int32), .ref 33, .int (0 : Int32), .int (0 : Int32), .int (0 : Int32), .int (500000 : Int32), .int (0 : Int32), .int (0 : Int32), .null, .null, .null, .null, .int (0 : Int32), .null, .null]) (le_ (n := 2) (u := 0) (v := 0) (j := 14) rfl rfl rfl rfl) rfl (se (n := 2) (u := 0) (v := 0) (j := 14) rfl rfl rfl _) rfl (Nat.le_of_ble_eq_true rfl) rfl (by decide) (fun _ => rfl) (Nat.le_of_ble_eq_true rfl)) rfl rfl rfl ?_
  refine me0 (pc' := 57) (S' := .int (0 : Int32) :: _) dm_X1_init_56 rfl rfl rfl rfl ?_
  refine me1 (pc' := 58) (L' := [(2, .int (0 : Int32)), (0, .ref 16), (1, .ref 4)]) dm_X1_init_57 rfl rfl rfl rfl ?_
  refine me1 (pc' := 59) dm_X1_init_58 rfl rfl rfl rfl ?_
  refine me1 (pc' := 60) dm_X1_init_59 rfl rfl rfl rfl ?_
  refine me3 (pc' := 63) dm_X1_init_60 (g_get (v := .ref 33) (le_ (n := 2) (u := 0) (v := 0) (j := 14) rfl rfl rfl rfl) rfl rfl (Nat.le_of_ble_eq_true rfl)) rfl rfl rfl ?_
  refine me3 (pc' := 64) dm_X1_init_63 (g_len (v := (64 : Int32)) (le_ (n := 2) (u := 0) (v := 0) (j := 31) rfl rfl rfl rfl) rfl rfl (Nat.le_of_ble_eq_true rfl)) rfl rfl rfl ?_
  refine me_2f (pc' := 67) dm_X1_init_64 rfl (by decide) rfl ?_
  refine me1 (pc' := 68) dm_X1_init_67 rfl rfl rfl rfl ?_
  refine me3 (pc' := 71) dm_X1_init_68 (g_get (v := .ref 33) (le_ (n := 2) (u := 0) (v := 0) (j := 14) rfl rfl rfl rfl) rfl rfl (Nat.le_of_ble_eq_true rfl)) rfl rfl rfl ?_
  refine me1 (pc' := 72) dm_X1_init_71 rfl rfl rfl rfl ?_
  refine me3 (pc' := 75) dm_X1_init_72 (g_nw (a := 34) (ne_ (n := 2) (u := 0) (v := 0) (j := 32) rfl rfl rfl rfl) (ae _) rfl) rfl rfl rfl ?_
  refine me0 (pc' := 76) dm_X1_init_75 rfl rfl rfl rfl ?_
  refine me4 (pc' := 79) (L0 := [(0, .ref 34)]) dm_X1_init_76 rfl (g_invp (As := []) rfl rfl rfl) pm_X0_init rfl (Nat.le_of_ble_eq_true rfl) rfl rfl rfl ?_
  refine me1 (pc' := 1) dm_X0_init_0 rfl rfl rfl rfl ?_
  refine me4o (pc' := 4) dm_X0_init_1 rfl rfl (by omega) rfl rfl rfl ?_
  refine me5 dm_X0_init_4 rfl rfl rfl ?_
  refine me3 (pc' := 80) dm_X1_init_79 (g_aastr (le_ (n := 2) (u := 0) (v := 0) (j := 31) rfl rfl rfl rfl) (se (n := 2) (u := 0) (v := 0) (j := 31) rfl rfl rfl _) (le_ (n := 2) (u := 0) (v := 0) (j := 32) rfl rfl rfl rfl) rfl (by decide) (Nat.le_of_ble_eq_true rfl) (Nat.le_of_ble_eq_true rfl)) rfl rfl rfl ?_
  refine me1 (pc' := 83) (L' := [(2, .int (1 : Int32)), (0, .ref 16), (1, .ref 4)]) dm_X1_init_80 rfl rfl rfl rfl ?_
  refine me2 (pc' := 58) dm_X1_init_83 rfl rfl rfl ?_
  refine me1 (pc' := 59) dm_X1_init_58 rfl rfl rfl rfl ?_
  refine me1 (pc' := 60) dm_X1_init_59 rfl rfl rfl rfl ?_
  refine me3 (pc' := 63) dm_X1_init_60 (g_get (v := .ref 33) (le_ (n := 2) (u := 0) (v := 0) (j := 14) rfl rfl rfl rfl) rfl rfl (Nat.le_of_ble_eq_true rfl)) rfl rfl rfl ?_
  refine me3 (pc' := 64) dm_X1_init_63 (g_len (v := (64 : Int32)) (le_ (n := 2) (u := 0) (v := 0) (j := 31) rfl rfl rfl rfl) rfl rfl (Nat.le_of_ble_eq_true rfl)) rfl rfl rfl ?_
  refine me_2f (pc' := 67) dm_X1_init_64 rfl (by decide) rfl ?_
  refine me1 (pc' := 68) dm_X1_init_67 rfl rfl rfl rfl ?_
  refine me3 (pc' := 71) dm_X1_init_68 (g_get (v := .ref 33) (le_ (n := 2) (u := 0) (v := 0) (j := 14) rfl rfl rfl rfl) rfl rfl (Nat.le_of_ble_eq_true rfl)) rfl rfl rfl ?_
  refine me1 (pc' := 72) dm_X1_init_71 rfl rfl rfl rfl ?_
  refine me3 (pc' := 75) dm_X1_init_72 (g_nw (a := 35) (ne_ (n := 2) (u := 0) (v := 0) (j := 33) rfl rfl rfl rfl) (ae _) rfl) rfl rfl rfl ?_
  refine me0 (pc' := 76) dm_X1_init_75 rfl rfl rfl rfl ?_
  refine me4 (pc' := 79) (L0 := [(0, .ref 35)]) dm_X1_init_76 rfl (g_invp (As := []) rfl rfl rfl) pm_X0_init rfl (Nat.le_of_ble_eq_true rfl) rfl rfl rfl ?_
  refine me1 (pc' := 1) dm_X0_init_0 rfl rfl rfl rfl ?_
  refine me4o (pc' := 4) dm_X0_init_1 rfl rfl (by omega) rfl rfl rfl ?_
  refine me5 dm_X0_init_4 rfl rfl rfl ?_
  refine me3 (pc' := 80) dm_X1_init_79 (g_aastr (le_ (n := 2) (u := 0) (v := 0) (j := 31) rfl rfl rfl rfl) (se (n := 2) (u := 0) (v := 0) (j := 31) rfl rfl rfl _) (le_ (n := 2) (u := 0) (v := 0) (j := 33) rfl rfl rfl rfl) rfl (by decide) (Nat.le_of_ble_eq_true rfl) (Nat.le_of_ble_eq_true rfl)) rfl rfl rfl ?_
  refine me1 (pc' := 83) (L' := [(2, .int (2 : Int32)), (0, .ref 16), (1, .ref 4)]) dm_X1_init_80 rfl rfl rfl rfl ?_
  refine me2 (pc' := 58) dm_X1_init_83 rfl rfl rfl ?_
  refine me1 (pc' := 59) dm_X1_init_58 rfl rfl rfl rfl ?_
  refine me1 (pc' := 60) dm_X1_init_59 rfl rfl rfl rfl ?_
  refine me3 (pc' := 63) dm_X1_init_60 (g_get (v := .ref 33) (le_ (n := 2) (u := 0) (v := 0) (j := 14) rfl rfl rfl rfl) rfl rfl (Nat.le_of_ble_eq_true rfl)) rfl rfl rfl ?_
  refine me3 (pc' := 64) dm_X1_init_63 (g_len (v := (64 : Int32)) (le_ (n := 2) (u := 0) (v := 0) (j := 31) rfl rfl rfl rfl) rfl rfl (Nat.le_of_ble_eq_true rfl)) rfl rfl rfl ?_
  refine me_2f (pc' := 67) dm_X1_init_64 rfl (by decide) rfl ?_
  refine me1 (pc' := 68) dm_X1_init_67 rfl rfl rfl rfl ?_
  refine me3 (pc' := 71) dm_X1_init_68 (g_get (v := .ref 33) (le_ (n := 2) (u := 0) (v := 0) (j := 14) rfl rfl rfl rfl) rfl rfl (Nat.le_of_ble_eq_true rfl)) rfl rfl rfl ?_
  refine me1 (pc' := 72) dm_X1_init_71 rfl rfl rfl rfl ?_
  refine me3 (pc' := 75) dm_X1_init_72 (g_nw (a := 36) (ne_ (n := 2) (u := 0) (v := 0) (j := 34) rfl rfl rfl rfl) (ae _) rfl) rfl rfl rfl ?_
  refine me0 (pc' := 76) dm_X1_init_75 rfl rfl rfl rfl ?_
  refine me4 (pc' := 79) (L0 := [(0, .ref 36)]) dm_X1_init_76 rfl (g_invp (As := []) rfl rfl rfl) pm_X0_init rfl (Nat.le_of_ble_eq_true rfl) rfl rfl rfl ?_
  refine me1 (pc' := 1) dm_X0_init_0 rfl rfl rfl rfl ?_
  refine me4o (pc' := 4) dm_X0_init_1 rfl rfl (by omega) rfl rfl rfl ?_
  refine me5 dm_X0_init_4 rfl rfl rfl ?_
  refine me3 (pc' := 80) dm_X1_init_79 (g_aastr (le_ (n := 2) (u := 0) (v := 0) (j := 31) rfl rfl rfl rfl) (se (n := 2) (u := 0) (v := 0) (j := 31) rfl rfl rfl _) (le_ (n := 2) (u := 0) (v := 0) (j := 34) rfl rfl rfl rfl) rfl (by decide) (Nat.le_of_ble_eq_true rfl) (Nat.le_of_ble_eq_true rfl)) rfl rfl rfl ?_
  refine me1 (pc' := 83) (L' := [(2, .int (3 : Int32)), (0, .ref 16), (1, .ref 4)]) dm_X1_init_80 rfl rfl rfl rfl ?_
  refine me2 (pc' := 58) dm_X1_init_83 rfl rfl rfl ?_
  refine me1 (pc' := 59) dm_X1_init_58 rfl rfl rfl rfl ?_
  refine me1 (pc' := 60) dm_X1_init_59 rfl rfl rfl rfl ?_
  refine me3 (pc' := 63) dm_X1_init_60 (g_get (v := .ref 33) (le_ (n := 2) (u := 0) (v := 0) (j := 14) rfl rfl rfl rfl) rfl rfl (Nat.le_of_ble_eq_true rfl)) rfl rfl rfl ?_
  refine me3 (pc' := 64) dm_X1_init_63 (g_len (v := (64 : Int32)) (le_ (n := 2) (u := 0) (v := 0) (j := 31) rfl rfl rfl rfl) rfl rfl (Nat.le_of_ble_eq_true rfl)) rfl rfl rfl ?_
  refine me_2f (pc' := 67) dm_X1_init_64 rfl (by decide) rfl ?_
  refine me1 (pc' := 68) dm_X1_init_67 rfl rfl rfl rfl ?_
  refine me3 (pc' := 71) dm_X1_init_68 (g_get (v := .ref 33) (le_ (n := 2) (u := 0) (v := 0) (j := 14) rfl rfl rfl rfl) rfl rfl (Nat.le_of_ble_eq_true rfl)) rfl rfl rfl ?_
  refine me1 (pc' := 72) dm_X1_init_71 rfl rfl rfl rfl ?_
  refine me3 (pc' := 75) dm_X1_init_72 (g_nw (a := 37) (ne_ (n := 2) (u := 0) (v := 0) (j := 35) rfl rfl rfl rfl) (ae _) rfl) rfl rfl rfl ?_
  refine me0 (pc' := 76) dm_X1_init_75 rfl rfl rfl rfl ?_
  refine me4 (pc' := 79) (L0 := [(0, .ref 37)]) dm_X1_init_76 rfl (g_invp (As := []) rfl rfl rfl) pm_X0_init rfl (Nat.le_of_ble_eq_true rfl) rfl rfl rfl ?_
  refine me1 (pc' := 1) dm_X0_init_0 rfl rfl rfl rfl ?_
  refine me4o (pc' := 4) dm_X0_init_1 rfl rfl (by omega) rfl rfl rfl ?_
  refine me5 dm_X0_init_4 rfl rfl rfl ?_
  refine me3 (pc' := 80) dm_X1_init_79 (g_aastr (le_ (n := 2) (u := 0) (v := 0) (j := 31) rfl rfl rfl rfl) (se (n := 2) (u := 0) (v := 0) (j := 31) rfl rfl rfl _) (le_ (n := 2) (u := 0) (v := 0) (j := 35) rfl rfl rfl rfl) rfl (by decide) (Nat.le_of_ble_eq_true rfl) (Nat.le_of_ble_eq_true rfl)) rfl rfl rfl ?_
  refine me1 (pc' := 83) (L' := [(2, .int (4 : Int32)), (0, .ref 16), (1, .ref 4)]) dm_X1_init_80 rfl rfl rfl rfl ?_
  refine me2 (pc' := 58) dm_X1_init_83 rfl rfl rfl ?_
  refine me1 (pc' := 59) dm_X1_init_58 rfl rfl rfl rfl ?_
  refine me1 (pc' := 60) dm_X1_init_59 rfl rfl rfl rfl ?_
  refine me3 (pc' := 63) dm_X1_init_60 (g_get (v := .ref 33) (le_ (n := 2) (u := 0) (v := 0) (j := 14) rfl rfl rfl rfl) rfl rfl (Nat.le_of_ble_eq_true rfl)) rfl rfl rfl ?_
  refine me3 (pc' := 64) dm_X1_init_63 (g_len (v := (64 : Int32)) (le_ (n := 2) (u := 0) (v := 0) (j := 31) rfl rfl rfl rfl) rfl rfl (Nat.le_of_ble_eq_true rfl)) rfl rfl rfl ?_
  refine me_2f (pc' := 67) dm_X1_init_64 rfl (by decide) rfl ?_
  refine me1 (pc' := 68) dm_X1_init_67 rfl rfl rfl rfl ?_
  refine me3 (pc' := 71) dm_X1_init_68 (g_get (v := .ref 33) (le_ (n := 2) (u := 0) (v := 0) (j := 14) rfl rfl rfl rfl) rfl rfl (Nat.le_of_ble_eq_true rfl)) rfl rfl rfl ?_
  refine me1 (pc' := 72) dm_X1_init_71 rfl rfl rfl rfl ?_
  refine me3 (pc' := 75) dm_X1_init_72 (g_nw (a := 38) (ne_ (n := 2) (u := 0) (v := 0) (j := 36) rfl rfl rfl rfl) (ae _) rfl) rfl rfl rfl ?_
  refine me0 (pc' := 76) dm_X1_init_75 rfl rfl rfl rfl ?_
  refine me4 (pc' := 79) (L0 := [(0, .ref 38)]) dm_X1_init_76 rfl (g_invp (As := []) rfl rfl rfl) pm_X0_init rfl (Nat.le_of_ble_eq_true rfl) rfl rfl rfl ?_
  refine me1 (pc' := 1) dm_X0_init_0 rfl rfl rfl rfl ?_
  refine me4o (pc' := 4) dm_X0_init_1 rfl rfl (by omega) rfl rfl rfl ?_
  refine me5 dm_X0_init_4 rfl rfl rfl ?_
  refine me3 (pc' := 80) dm_X1_init_79 (g_aastr (le_ (n := 2) (u := 0) (v := 0) (j := 31) rfl rfl rfl rfl) (se (n := 2) (u := 0) (v := 0) (j := 31) rfl rfl rfl _) (le_ (n := 2) (u := 0) (v := 0) (j := 36) rfl rfl rfl rfl) rfl (by decide) (Nat.le_of_ble_eq_true rfl) (Nat.le_of_ble_eq_true rfl)) rfl rfl rfl ?_
  refine me1 (pc' := 83) (L' := [(2, .int (5 : Int32)), (0, .ref 16), (1, .ref 4)]) dm_X1_init_80 rfl rfl rfl rfl ?_
  refine me2 (pc' := 58) dm_X1_init_83 rfl rfl rfl ?_
  refine me1 (pc' := 59) dm_X1_init_58 rfl rfl rfl rfl ?_
  refine me1 (pc' := 60) dm_X1_init_59 rfl rfl rfl rfl ?_
  refine me3 (pc' := 63) dm_X1_init_60 (g_get (v := .ref 33) (le_ (n := 2) (u := 0) (v := 0) (j := 14) rfl rfl rfl rfl) rfl rfl (Nat.le_of_ble_eq_true rfl)) rfl rfl rfl ?_
  refine me3 (pc' := 64) dm_X1_init_63 (g_len (v := (64 : Int32)) (le_ (n := 2) (u := 0) (v := 0) (j := 31) rfl rfl rfl rfl) rfl rfl (Nat.le_of_ble_eq_true rfl)) rfl rfl rfl ?_
  refine me_2f (pc' := 67) dm_X1_init_64 rfl (by decide) rfl ?_
  refine me1 (pc' := 68) dm_X1_init_67 rfl rfl rfl rfl ?_
  refine me3 (pc' := 71) dm_X1_init_68 (g_get (v := .ref 33) (le_ (n := 2) (u := 0) (v := 0) (j := 14) rfl rfl rfl rfl) rfl rfl (Nat.le_of_ble_eq_true rfl)) rfl rfl rfl ?_
  refine me1 (pc' := 72) dm_X1_init_71 rfl rfl rfl rfl ?_
  refine me3 (pc' := 75) dm_X1_init_72 (g_nw (a := 39) (ne_ (n := 2) (u := 0) (v := 0) (j := 37) rfl rfl rfl rfl) (ae _) rfl) rfl rfl rfl ?_
  refine me0 (pc' := 76) dm_X1_init_75 rfl rfl rfl rfl ?_
  refine me4 (pc' := 79) (L0 := [(0, .ref 39)]) dm_X1_init_76 rfl (g_invp (As := []) rfl rfl rfl) pm_X0_init rfl (Nat.le_of_ble_eq_true rfl) rfl rfl rfl ?_
  refine me1 (pc' := 1) dm_X0_init_0 rfl rfl rfl rfl ?_
  refine me4o (pc' := 4) dm_X0_init_1 rfl rfl (by omega) rfl rfl rfl ?_
  refine me5 dm_X0_init_4 rfl rfl rfl ?_
  refine me3 (pc' := 80) dm_X1_init_79 (g_aastr (le_ (n := 2) (u := 0) (v := 0) (j := 31) rfl rfl rfl rfl) (se (n := 2) (u := 0) (v := 0) (j := 31) rfl rfl rfl _) (le_ (n := 2) (u := 0) (v := 0) (j := 37) rfl rfl rfl rfl) rfl (by decide) (Nat.le_of_ble_eq_true rfl) (Nat.le_of_ble_eq_true rfl)) rfl rfl rfl ?_
  refine me1 (pc' := 83) (L' := [(2, .int (6 : Int32)), (0, .ref 16), (1, .ref 4)]) dm_X1_init_80 rfl rfl rfl rfl ?_
  refine me2 (pc' := 58) dm_X1_init_83 rfl rfl rfl ?_
  refine me1 (pc' := 59) dm_X1_init_58 rfl rfl rfl rfl ?_
  refine me1 (pc' := 60) dm_X1_init_59 rfl rfl rfl rfl ?_
  refine me3 (pc' := 63) dm_X1_init_60 (g_get (v := .ref 33) (le_ (n := 2) (u := 0) (v := 0) (j := 14) rfl rfl rfl rfl) rfl rfl (Nat.le_of_ble_eq_true rfl)) rfl rfl rfl ?_
  refine me3 (pc' := 64) dm_X1_init_63 (g_len (v := (64 : Int32)) (le_ (n := 2) (u := 0) (v := 0) (j := 31) rfl rfl rfl rfl) rfl rfl (Nat.le_of_ble_eq_true rfl)) rfl rfl rfl ?_
  refine me_2f (pc' := 67) dm_X1_init_64 rfl (by decide) rfl ?_
  refine me1 (pc' := 68) dm_X1_init_67 rfl rfl rfl rfl ?_
  refine me3 (pc' := 71) dm_X1_init_68 (g_get (v := .ref 33) (le_ (n := 2) (u := 0) (v := 0) (j := 14) rfl rfl rfl rfl) rfl rfl (Nat.le_of_ble_eq_true rfl)) rfl rfl rfl ?_
  refine me1 (pc' := 72) dm_X1_init_71 rfl rfl rfl rfl ?_
  refine me3 (pc' := 75) dm_X1_init_72 (g_nw (a := 40) (ne_ (n := 2) (u := 0) (v := 0) (j := 38) rfl rfl rfl rfl) (ae _) rfl) rfl rfl rfl ?_
  refine me0 (pc' := 76) dm_X1_init_75 rfl rfl rfl rfl ?_
  refine me4 (pc' := 79) (L0 := [(0, .ref 40)]) dm_X1_init_76 rfl (g_invp (As := []) rfl rfl rfl) pm_X0_init rfl (Nat.le_of_ble_eq_true rfl) rfl rfl rfl ?_
  refine me1 (pc' := 1) dm_X0_init_0 rfl rfl rfl rfl ?_
  refine me4o (pc' := 4) dm_X0_init_1 rfl rfl (by omega) rfl rfl rfl ?_
  refine me5 dm_X0_init_4 rfl rfl rfl ?_
  refine me3 (pc' := 80) dm_X1_init_79 (g_aastr (le_ (n := 2) (u := 0) (v := 0) (j := 31) rfl rfl rfl rfl) (se (n := 2) (u := 0) (v := 0) (j := 31) rfl rfl rfl _) (le_ (n := 2) (u := 0) (v := 0) (j := 38) rfl rfl rfl rfl) rfl (by decide) (Nat.le_of_ble_eq_true rfl) (Nat.le_of_ble_eq_true rfl)) rfl rfl rfl ?_
  refine me1 (pc' := 83) (L' := [(2, .int (7 : Int32)), (0, .ref 16), (1, .ref 4)]) dm_X1_init_80 rfl rfl rfl rfl ?_
  refine me2 (pc' := 58) dm_X1_init_83 rfl rfl rfl ?_
  refine me1 (pc' := 59) dm_X1_init_58 rfl rfl rfl rfl ?_
  refine me1 (pc' := 60) dm_X1_init_59 rfl rfl rfl rfl ?_
  refine me3 (pc' := 63) dm_X1_init_60 (g_get (v := .ref 33) (le_ (n := 2) (u := 0) (v := 0) (j := 14) rfl rfl rfl rfl) rfl rfl (Nat.le_of_ble_eq_true rfl)) rfl rfl rfl ?_
  refine me3 (pc' := 64) dm_X1_init_63 (g_len (v := (64 : Int32)) (le_ (n := 2) (u := 0) (v := 0) (j := 31) rfl rfl rfl rfl) rfl rfl (Nat.le_of_ble_eq_true rfl)) rfl rfl rfl ?_
  refine me_2f (pc' := 67) dm_X1_init_64 rfl (by decide) rfl ?_
  refine me1 (pc' := 68) dm_X1_init_67 rfl rfl rfl rfl ?_
  refine me3 (pc' := 71) dm_X1_init_68 (g_get (v := .ref 33) (le_ (n := 2) (u := 0) (v := 0) (j := 14) rfl rfl rfl rfl) rfl rfl (Nat.le_of_ble_eq_true rfl)) rfl rfl rfl ?_
  refine me1 (pc' := 72) dm_X1_init_71 rfl rfl rfl rfl ?_
  refine me3 (pc' := 75) dm_X1_init_72 (g_nw (a := 41) (ne_ (n := 2) (u := 0) (v := 0) (j := 39) rfl rfl rfl rfl) (ae _) rfl) rfl rfl rfl ?_
  refine me0 (pc' := 76) dm_X1_init_75 rfl rfl rfl rfl ?_
  refine me4 (pc' := 79) (L0 := [(0, .ref 41)]) dm_X1_init_76 rfl (g_invp (As := []) rfl rfl rfl) pm_X0_init rfl (Nat.le_of_ble_eq_true rfl) rfl rfl rfl ?_
  refine me1 (pc' := 1) dm_X0_init_0 rfl rfl rfl rfl ?_
  refine me4o (pc' := 4) dm_X0_init_1 rfl rfl (by omega) rfl rfl rfl ?_
  refine me5 dm_X0_init_4 rfl rfl rfl ?_
  refine me3 (pc' := 80) dm_X1_init_79 (g_aastr (le_ (n := 2) (u := 0) (v := 0) (j := 31) rfl rfl rfl rfl) (se (n := 2) (u := 0) (v := 0) (j := 31) rfl rfl rfl _) (le_ (n := 2) (u := 0) (v := 0) (j := 39) rfl rfl rfl rfl) rfl (by decide) (Nat.le_of_ble_eq_true rfl) (Nat.le_of_ble_eq_true rfl)) rfl rfl rfl ?_
  refine me1 (pc' := 83) (L' := [(2, .int (8 : Int32)), (0, .ref 16), (1, .ref 4)]) dm_X1_init_80 rfl rfl rfl rfl ?_
  refine me2 (pc' := 58) dm_X1_init_83 rfl rfl rfl ?_
  refine me1 (pc' := 59) dm_X1_init_58 rfl rfl rfl rfl ?_
  refine me1 (pc' := 60) dm_X1_init_59 rfl rfl rfl rfl ?_
  refine me3 (pc' := 63) dm_X1_init_60 (g_get (v := .ref 33) (le_ (n := 2) (u := 0) (v := 0) (j := 14) rfl rfl rfl rfl) rfl rfl (Nat.le_of_ble_eq_true rfl)) rfl rfl rfl ?_
  refine me3 (pc' := 64) dm_X1_init_63 (g_len (v := (64 : Int32)) (le_ (n := 2) (u := 0) (v := 0) (j := 31) rfl rfl rfl rfl) rfl rfl (Nat.le_of_ble_eq_true rfl)) rfl rfl rfl ?_
  refine me_2f (pc' := 67) dm_X1_init_64 rfl (by decide) rfl ?_
  refine me1 (pc' := 68) dm_X1_init_67 rfl rfl rfl rfl ?_
  refine me3 (pc' := 71) dm_X1_init_68 (g_get (v := .ref 33) (le_ (n := 2) (u := 0) (v := 0) (j := 14) rfl rfl rfl rfl) rfl rfl (Nat.le_of_ble_eq_true rfl)) rfl rfl rfl ?_
  refine me1 (pc' := 72) dm_X1_init_71 rfl rfl rfl rfl ?_
  refine me3 (pc' := 75) dm_X1_init_72 (g_nw (a := 42) (ne_ (n := 2) (u := 0) (v := 0) (j := 40) rfl rfl rfl rfl) (ae _) rfl) rfl rfl rfl ?_
  refine me0 (pc' := 76) dm_X1_init_75 rfl rfl rfl rfl ?_
  refine me4 (pc' := 79) (L0 := [(0, .ref 42)]) dm_X1_init_76 rfl (g_invp (As := []) rfl rfl rfl) pm_X0_init rfl (Nat.le_of_ble_eq_true rfl) rfl rfl rfl ?_
  refine me1 (pc' := 1) dm_X0_init_0 rfl rfl rfl rfl ?_
  refine me4o (pc' := 4) dm_X0_init_1 rfl rfl (by omega) rfl rfl rfl ?_
  refine me5 dm_X0_init_4 rfl rfl rfl ?_
  refine me3 (pc' := 80) dm_X1_init_79 (g_aastr (le_ (n := 2) (u := 0) (v := 0) (j := 31) rfl rfl rfl rfl) (se (n := 2) (u := 0) (v := 0) (j := 31) rfl rfl rfl _) (le_ (n := 2) (u := 0) (v := 0) (j := 40) rfl rfl rfl rfl) rfl (by decide) (Nat.le_of_ble_eq_true rfl) (Nat.le_of_ble_eq_true rfl)) rfl rfl rfl ?_
  refine me1 (pc' := 83) (L' := [(2, .int (9 : Int32)), (0, .ref 16), (1, .ref 4)]) dm_X1_init_80 rfl rfl rfl rfl ?_
  refine me2 (pc' := 58) dm_X1_init_83 rfl rfl rfl ?_
  refine me1 (pc' := 59) dm_X1_init_58 rfl rfl rfl rfl ?_
  refine me1 (pc' := 60) dm_X1_init_59 rfl rfl rfl rfl ?_
  refine me3 (pc' := 63) dm_X1_init_60 (g_get (v := .ref 33) (le_ (n := 2) (u := 0) (v := 0) (j := 14) rfl rfl rfl rfl) rfl rfl (Nat.le_of_ble_eq_true rfl)) rfl rfl rfl ?_
  refine me3 (pc' := 64) dm_X1_init_63 (g_len (v := (64 : Int32)) (le_ (n := 2) (u := 0) (v := 0) (j := 31) rfl rfl rfl rfl) rfl rfl (Nat.le_of_ble_eq_true rfl)) rfl rfl rfl ?_
  refine me_2f (pc' := 67) dm_X1_init_64 rfl (by decide) rfl ?_
  refine me1 (pc' := 68) dm_X1_init_67 rfl rfl rfl rfl ?_
  refine me3 (pc' := 71) dm_X1_init_68 (g_get (v := .ref 33) (le_ (n := 2) (u := 0) (v := 0) (j := 14) rfl rfl rfl rfl) rfl rfl (Nat.le_of_ble_eq_true rfl)) rfl rfl rfl ?_
  refine me1 (pc' := 72) dm_X1_init_71 rfl rfl rfl rfl ?_
  refine me3 (pc' := 75) dm_X1_init_72 (g_nw (a := 43) (ne_ (n := 2) (u := 0) (v := 0) (j := 41) rfl rfl rfl rfl) (ae _) rfl) rfl rfl rfl ?_
  refine me0 (pc' := 76) dm_X1_init_75 rfl rfl rfl rfl ?_
  refine me4 (pc' := 79) (L0 := [(0, .ref 43)]) dm_X1_init_76 rfl (g_invp (As := []) rfl rfl rfl) pm_X0_init rfl (Nat.le_of_ble_eq_true rfl) rfl rfl rfl ?_
  refine me1 (pc' := 1) dm_X0_init_0 rfl rfl rfl rfl ?_
  refine me4o (pc' := 4) dm_X0_init_1 rfl rfl (by omega) rfl rfl rfl ?_
  refine me5 dm_X0_init_4 rfl rfl rfl ?_
  refine me3 (pc' := 80) dm_X1_init_79 (g_aastr (le_ (n := 2) (u := 0) (v := 0) (j := 31) rfl rfl rfl rfl) (se (n := 2) (u := 0) (v := 0) (j := 31) rfl rfl rfl _) (le_ (n := 2) (u := 0) (v := 0) (j := 41) rfl rfl rfl rfl) rfl (by decide) (Nat.le_of_ble_eq_true rfl) (Nat.le_of_ble_eq_true rfl)) rfl rfl rfl ?_
  refine me1 (pc' := 83) (L' := [(2, .int (10 : Int32)), (0, .ref 16), (1, .ref 4)]) dm_X1_init_80 rfl rfl rfl rfl ?_
  refine me2 (pc' := 58) dm_X1_init_83 rfl rfl rfl ?_
  refine me1 (pc' := 59) dm_X1_init_58 rfl rfl rfl rfl ?_
  refine me1 (pc' := 60) dm_X1_init_59 rfl rfl rfl rfl ?_
  refine me3 (pc' := 63) dm_X1_init_60 (g_get (v := .ref 33) (le_ (n := 2) (u := 0) (v := 0) (j := 14) rfl rfl rfl rfl) rfl rfl (Nat.le_of_ble_eq_true rfl)) rfl rfl rfl ?_
  refine me3 (pc' := 64) dm_X1_init_63 (g_len (v := (64 : Int32)) (le_ (n := 2) (u := 0) (v := 0) (j := 31) rfl rfl rfl rfl) rfl rfl (Nat.le_of_ble_eq_true rfl)) rfl rfl rfl ?_
  refine me_2f (pc' := 67) dm_X1_init_64 rfl (by decide) rfl ?_
  refine me1 (pc' := 68) dm_X1_init_67 rfl rfl rfl rfl ?_
  refine me3 (pc' := 71) dm_X1_init_68 (g_get (v := .ref 33) (le_ (n := 2) (u := 0) (v := 0) (j := 14) rfl rfl rfl rfl) rfl rfl (Nat.le_of_ble_eq_true rfl)) rfl rfl rfl ?_
  refine me1 (pc' := 72) dm_X1_init_71 rfl rfl rfl rfl ?_
  refine me3 (pc' := 75) dm_X1_init_72 (g_nw (a := 44) (ne_ (n := 2) (u := 0) (v := 0) (j := 42) rfl rfl rfl rfl) (ae _) rfl) rfl rfl rfl ?_
  refine me0 (pc' := 76) dm_X1_init_75 rfl rfl rfl rfl ?_
  refine me4 (pc' := 79) (L0 := [(0, .ref 44)]) dm_X1_init_76 rfl (g_invp (As := []) rfl rfl rfl) pm_X0_init rfl (Nat.le_of_ble_eq_true rfl) rfl rfl rfl ?_
  refine me1 (pc' := 1) dm_X0_init_0 rfl rfl rfl rfl ?_
  refine me4o (pc' := 4) dm_X0_init_1 rfl rfl (by omega) rfl rfl rfl ?_
  refine me5 dm_X0_init_4 rfl rfl rfl ?_
  refine me3 (pc' := 80) dm_X1_init_79 (g_aastr (le_ (n := 2) (u := 0) (v := 0) (j := 31) rfl rfl rfl rfl) (se (n := 2) (u := 0) (v := 0) (j := 31) rfl rfl rfl _) (le_ (n := 2) (u := 0) (v := 0) (j := 42) rfl rfl rfl rfl) rfl (by decide) (Nat.le_of_ble_eq_true rfl) (Nat.le_of_ble_eq_true rfl)) rfl rfl rfl ?_
  refine me1 (pc' := 83) (L' := [(2, .int (11 : Int32)), (0, .ref 16), (1, .ref 4)]) dm_X1_init_80 rfl rfl rfl rfl ?_
  refine me2 (pc' := 58) dm_X1_init_83 rfl rfl rfl ?_
  refine me1 (pc' := 59) dm_X1_init_58 rfl rfl rfl rfl ?_
  refine me1 (pc' := 60) dm_X1_init_59 rfl rfl rfl rfl ?_
  refine me3 (pc' := 63) dm_X1_init_60 (g_get (v := .ref 33) (le_ (n := 2) (u := 0) (v := 0) (j := 14) rfl rfl rfl rfl) rfl rfl (Nat.le_of_ble_eq_true rfl)) rfl rfl rfl ?_
  refine me3 (pc' := 64) dm_X1_init_63 (g_len (v := (64 : Int32)) (le_ (n := 2) (u := 0) (v := 0) (j := 31) rfl rfl rfl rfl) rfl rfl (Nat.le_of_ble_eq_true rfl)) rfl rfl rfl ?_
  refine me_2f (pc' := 67) dm_X1_init_64 rfl (by decide) rfl ?_
  refine me1 (pc' := 68) dm_X1_init_67 rfl rfl rfl rfl ?_
  refine me3 (pc' := 71) dm_X1_init_68 (g_get (v := .ref 33) (le_ (n := 2) (u := 0) (v := 0) (j := 14) rfl rfl rfl rfl) rfl rfl (Nat.le_of_ble_eq_true rfl)) rfl rfl rfl ?_
  refine me1 (pc' := 72) dm_X1_init_71 rfl rfl rfl rfl ?_
  refine me3 (pc' := 75) dm_X1_init_72 (g_nw (a := 45) (ne_ (n := 2) (u := 0) (v := 0) (j := 43) rfl rfl rfl rfl) (ae _) rfl) rfl rfl rfl ?_
  refine me0 (pc' := 76) dm_X1_init_75 rfl rfl rfl rfl ?_
  refine me4 (pc' := 79) (L0 := [(0, .ref 45)]) dm_X1_init_76 rfl (g_invp (As := []) rfl rfl rfl) pm_X0_init rfl (Nat.le_of_ble_eq_true rfl) rfl rfl rfl ?_
  refine me1 (pc' := 1) dm_X0_init_0 rfl rfl rfl rfl ?_
  refine me4o (pc' := 4) dm_X0_init_1 rfl rfl (by omega) rfl rfl rfl ?_
  refine me5 dm_X0_init_4 rfl rfl rfl ?_
  refine me3 (pc' := 80) dm_X1_init_79 (g_aastr (le_ (n := 2) (u := 0) (v := 0) (j := 31) rfl rfl rfl rfl) (se (n := 2) (u := 0) (v := 0) (j := 31) rfl rfl rfl _) (le_ (n := 2) (u := 0) (v := 0) (j := 43) rfl rfl rfl rfl) rfl (by decide) (Nat.le_of_ble_eq_true rfl) (Nat.le_of_ble_eq_true rfl)) rfl rfl rfl ?_
  refine me1 (pc' := 83) (L' := [(2, .int (12 : Int32)), (0, .ref 16), (1, .ref 4)]) dm_X1_init_80 rfl rfl rfl rfl ?_
  refine me2 (pc' := 58) dm_X1_init_83 rfl rfl rfl ?_
  refine me1 (pc' := 59) dm_X1_init_58 rfl rfl rfl rfl ?_
  refine me1 (pc' := 60) dm_X1_init_59 rfl rfl rfl rfl ?_
  refine me3 (pc' := 63) dm_X1_init_60 (g_get (v := .ref 33) (le_ (n := 2) (u := 0) (v := 0) (j := 14) rfl rfl rfl rfl) rfl rfl (Nat.le_of_ble_eq_true rfl)) rfl rfl rfl ?_
  refine me3 (pc' := 64) dm_X1_init_63 (g_len (v := (64 : Int32)) (le_ (n := 2) (u := 0) (v := 0) (j := 31) rfl rfl rfl rfl) rfl rfl (Nat.le_of_ble_eq_true rfl)) rfl rfl rfl ?_
  refine me_2f (pc' := 67) dm_X1_init_64 rfl (by decide) rfl ?_
  refine me1 (pc' := 68) dm_X1_init_67 rfl rfl rfl rfl ?_
  refine me3 (pc' := 71) dm_X1_init_68 (g_get (v := .ref 33) (le_ (n := 2) (u := 0) (v := 0) (j := 14) rfl rfl rfl rfl) rfl rfl (Nat.le_of_ble_eq_true rfl)) rfl rfl rfl ?_
  refine me1 (pc' := 72) dm_X1_init_71 rfl rfl rfl rfl ?_
  refine me3 (pc' := 75) dm_X1_init_72 (g_nw (a := 46) (ne_ (n := 2) (u := 0) (v := 0) (j := 44) rfl rfl rfl rfl) (ae _) rfl) rfl rfl rfl ?_
  refine me0 (pc' := 76) dm_X1_init_75 rfl rfl rfl rfl ?_
  refine me4 (pc' := 79) (L0 := [(0, .ref 46)]) dm_X1_init_76 rfl (g_invp (As := []) rfl rfl rfl) pm_X0_init rfl (Nat.le_of_ble_eq_true rfl) rfl rfl rfl ?_
  refine me1 (pc' := 1) dm_X0_init_0 rfl rfl rfl rfl ?_
  refine me4o (pc' := 4) dm_X0_init_1 rfl rfl (by omega) rfl rfl rfl ?_
  refine me5 dm_X0_init_4 rfl rfl rfl ?_
  refine me3 (pc' := 80) dm_X1_init_79 (g_aastr (le_ (n := 2) (u := 0) (v := 0) (j := 31) rfl rfl rfl rfl) (se (n := 2) (u := 0) (v := 0) (j := 31) rfl rfl rfl _) (le_ (n := 2) (u := 0) (v := 0) (j := 44) rfl rfl rfl rfl) rfl (by decide) (Nat.le_of_ble_eq_true rfl) (Nat.le_of_ble_eq_true rfl)) rfl rfl rfl ?_
  refine me1 (pc' := 83) (L' := [(2, .int (13 : Int32)), (0, .ref 16), (1, .ref 4)]) dm_X1_init_80 rfl rfl rfl rfl ?_
  refine me2 (pc' := 58) dm_X1_init_83 rfl rfl rfl ?_
  refine me1 (pc' := 59) dm_X1_init_58 rfl rfl rfl rfl ?_
  refine me1 (pc' := 60) dm_X1_init_59 rfl rfl rfl rfl ?_
  refine me3 (pc' := 63) dm_X1_init_60 (g_get (v := .ref 33) (le_ (n := 2) (u := 0) (v := 0) (j := 14) rfl rfl rfl rfl) rfl rfl (Nat.le_of_ble_eq_true rfl)) rfl rfl rfl ?_
  refine me3 (pc' := 64) dm_X1_init_63 (g_len (v := (64 : Int32)) (le_ (n := 2) (u := 0) (v := 0) (j := 31) rfl rfl rfl rfl) rfl rfl (Nat.le_of_ble_eq_true rfl)) rfl rfl rfl ?_
  refine me_2f (pc' := 67) dm_X1_init_64 rfl (by decide) rfl ?_
  refine me1 (pc' := 68) dm_X1_init_67 rfl rfl rfl rfl ?_
  refine me3 (pc' := 71) dm_X1_init_68 (g_get (v := .ref 33) (le_ (n := 2) (u := 0) (v := 0) (j := 14) rfl rfl rfl rfl) rfl rfl (Nat.le_of_ble_eq_true rfl)) rfl rfl rfl ?_
  refine me1 (pc' := 72) dm_X1_init_71 rfl rfl rfl rfl ?_
  refine me3 (pc' := 75) dm_X1_init_72 (g_nw (a := 47) (ne_ (n := 2) (u := 0) (v := 0) (j := 45) rfl rfl rfl rfl) (ae _) rfl) rfl rfl rfl ?_
  refine me0 (pc' := 76) dm_X1_init_75 rfl rfl rfl rfl ?_
  refine me4 (pc' := 79) (L0 := [(0, .ref 47)]) dm_X1_init_76 rfl (g_invp (As := []) rfl rfl rfl) pm_X0_init rfl (Nat.le_of_ble_eq_true rfl) rfl rfl rfl ?_
  refine me1 (pc' := 1) dm_X0_init_0 rfl rfl rfl rfl ?_
  refine me4o (pc' := 4) dm_X0_init_1 rfl rfl (by omega) rfl rfl rfl ?_
  refine me5 dm_X0_init_4 rfl rfl rfl ?_
  refine me3 (pc' := 80) dm_X1_init_79 (g_aastr (le_ (n := 2) (u := 0) (v := 0) (j := 31) rfl rfl rfl rfl) (se (n := 2) (u := 0) (v := 0) (j := 31) rfl rfl rfl _) (le_ (n := 2) (u := 0) (v := 0) (j := 45) rfl rfl rfl rfl) rfl (by decide) (Nat.le_of_ble_eq_true rfl) (Nat.le_of_ble_eq_true rfl)) rfl rfl rfl ?_
  refine me1 (pc' := 83) (L' := [(2, .int (14 : Int32)), (0, .ref 16), (1, .ref 4)]) dm_X1_init_80 rfl rfl rfl rfl ?_
  refine me2 (pc' := 58) dm_X1_init_83 rfl rfl rfl ?_
  refine me1 (pc' := 59) dm_X1_init_58 rfl rfl rfl rfl ?_
  refine me1 (pc' := 60) dm_X1_init_59 rfl rfl rfl rfl ?_
  refine me3 (pc' := 63) dm_X1_init_60 (g_get (v := .ref 33) (le_ (n := 2) (u := 0) (v := 0) (j := 14) rfl rfl rfl rfl) rfl rfl (Nat.le_of_ble_eq_true rfl)) rfl rfl rfl ?_
  refine me3 (pc' := 64) dm_X1_init_63 (g_len (v := (64 : Int32)) (le_ (n := 2) (u := 0) (v := 0) (j := 31) rfl rfl rfl rfl) rfl rfl (Nat.le_of_ble_eq_true rfl)) rfl rfl rfl ?_
  refine me_2f (pc' := 67) dm_X1_init_64 rfl (by decide) rfl ?_
  refine me1 (pc' := 68) dm_X1_init_67 rfl rfl rfl rfl ?_
  refine me3 (pc' := 71) dm_X1_init_68 (g_get (v := .ref 33) (le_ (n := 2) (u := 0) (v := 0) (j := 14) rfl rfl rfl rfl) rfl rfl (Nat.le_of_ble_eq_true rfl)) rfl rfl rfl ?_
  refine me1 (pc' := 72) dm_X1_init_71 rfl rfl rfl rfl ?_
  refine me3 (pc' := 75) dm_X1_init_72 (g_nw (a := 48) (ne_ (n := 2) (u := 0) (v := 0) (j := 46) rfl rfl rfl rfl) (ae _) rfl) rfl rfl rfl ?_
  refine me0 (pc' := 76) dm_X1_init_75 rfl rfl rfl rfl ?_
  refine me4 (pc' := 79) (L0 := [(0, .ref 48)]) dm_X1_init_76 rfl (g_invp (As := []) rfl rfl rfl) pm_X0_init rfl (Nat.le_of_ble_eq_true rfl) rfl rfl rfl ?_
  refine me1 (pc' := 1) dm_X0_init_0 rfl rfl rfl rfl ?_
  refine me4o (pc' := 4) dm_X0_init_1 rfl rfl (by omega) rfl rfl rfl ?_
  refine me5 dm_X0_init_4 rfl rfl rfl ?_
  refine me3 (pc' := 80) dm_X1_init_79 (g_aastr (le_ (n := 2) (u := 0) (v := 0) (j := 31) rfl rfl rfl rfl) (se (n := 2) (u := 0) (v := 0) (j := 31) rfl rfl rfl _) (le_ (n := 2) (u := 0) (v := 0) (j := 46) rfl rfl rfl rfl) rfl (by decide) (Nat.le_of_ble_eq_true rfl) (Nat.le_of_ble_eq_true rfl)) rfl rfl rfl ?_
  refine me1 (pc' := 83) (L' := [(2, .int (15 : Int32)), (0, .ref 16), (1, .ref 4)]) dm_X1_init_80 rfl rfl rfl rfl ?_
  refine me2 (pc' := 58) dm_X1_init_83 rfl rfl rfl ?_
  refine me1 (pc' := 59) dm_X1_init_58 rfl rfl rfl rfl ?_
  refine me1 (pc' := 60) dm_X1_init_59 rfl rfl rfl rfl ?_
  refine me3 (pc' := 63) dm_X1_init_60 (g_get (v := .ref 33) (le_ (n := 2) (u := 0) (v := 0) (j := 14) rfl rfl rfl rfl) rfl rfl (Nat.le_of_ble_eq_true rfl)) rfl rfl rfl ?_
  refine me3 (pc' := 64) dm_X1_init_63 (g_len (v := (64 : Int32)) (le_ (n := 2) (u := 0) (v := 0) (j := 31) rfl rfl rfl rfl) rfl rfl (Nat.le_of_ble_eq_true rfl)) rfl rfl rfl ?_
  refine me_2f (pc' := 67) dm_X1_init_64 rfl (by decide) rfl ?_
  refine me1 (pc' := 68) dm_X1_init_67 rfl rfl rfl rfl ?_
  refine me3 (pc' := 71) dm_X1_init_68 (g_get (v := .ref 33) (le_ (n := 2) (u := 0) (v := 0) (j := 14) rfl rfl rfl rfl) rfl rfl (Nat.le_of_ble_eq_true rfl)) rfl rfl rfl ?_
  refine me1 (pc' := 72) dm_X1_init_71 rfl rfl rfl rfl ?_
  refine me3 (pc' := 75) dm_X1_init_72 (g_nw (a := 49) (ne_ (n := 2) (u := 0) (v := 0) (j := 47) rfl rfl rfl rfl) (ae _) rfl) rfl rfl rfl ?_
  refine me0 (pc' := 76) dm_X1_init_75 rfl rfl rfl rfl ?_
  refine me4 (pc' := 79) (L0 := [(0, .ref 49)]) dm_X1_init_76 rfl (g_invp (As := []) rfl rfl rfl) pm_X0_init rfl (Nat.le_of_ble_eq_true rfl) rfl rfl rfl ?_
  refine me1 (pc' := 1) dm_X0_init_0 rfl rfl rfl rfl ?_
  refine me4o (pc' := 4) dm_X0_init_1 rfl rfl (by omega) rfl rfl rfl ?_
  refine me5 dm_X0_init_4 rfl rfl rfl ?_
  refine me3 (pc' := 80) dm_X1_init_79 (g_aastr (le_ (n := 2) (u := 0) (v := 0) (j := 31) rfl rfl rfl rfl) (se (n := 2) (u := 0) (v := 0) (j := 31) rfl rfl rfl _) (le_ (n := 2) (u := 0) (v := 0) (j := 47) rfl rfl rfl rfl) rfl (by decide) (Nat.le_of_ble_eq_true rfl) (Nat.le_of_ble_eq_true rfl)) rfl rfl rfl ?_
  refine me1 (pc' := 83) (L' := [(2, .int (16 : Int32)), (0, .ref 16), (1, .ref 4)]) dm_X1_init_80 rfl rfl rfl rfl ?_
  refine me2 (pc' := 58) dm_X1_init_83 rfl rfl rfl ?_
  refine me1 (pc' := 59) dm_X1_init_58 rfl rfl rfl rfl ?_
  refine me1 (pc' := 60) dm_X1_init_59 rfl rfl rfl rfl ?_
  refine me3 (pc' := 63) dm_X1_init_60 (g_get (v := .ref 33) (le_ (n := 2) (u := 0) (v := 0) (j := 14) rfl rfl rfl rfl) rfl rfl (Nat.le_of_ble_eq_true rfl)) rfl rfl rfl ?_
  refine me3 (pc' := 64) dm_X1_init_63 (g_len (v := (64 : Int32)) (le_ (n := 2) (u := 0) (v := 0) (j := 31) rfl rfl rfl rfl) rfl rfl (Nat.le_of_ble_eq_true rfl)) rfl rfl rfl ?_
  refine me_2f (pc' := 67) dm_X1_init_64 rfl (by decide) rfl ?_
  refine me1 (pc' := 68) dm_X1_init_67 rfl rfl rfl rfl ?_
  refine me3 (pc' := 71) dm_X1_init_68 (g_get (v := .ref 33) (le_ (n := 2) (u := 0) (v := 0) (j := 14) rfl rfl rfl rfl) rfl rfl (Nat.le_of_ble_eq_true rfl)) rfl rfl rfl ?_
  refine me1 (pc' := 72) dm_X1_init_71 rfl rfl rfl rfl ?_
  refine me3 (pc' := 75) dm_X1_init_72 (g_nw (a := 50) (ne_ (n := 2) (u := 0) (v := 0) (j := 48) rfl rfl rfl rfl) (ae _) rfl) rfl rfl rfl ?_
  refine me0 (pc' := 76) dm_X1_init_75 rfl rfl rfl rfl ?_
  refine me4 (pc' := 79) (L0 := [(0, .ref 50)]) dm_X1_init_76 rfl (g_invp (As := []) rfl rfl rfl) pm_X0_init rfl (Nat.le_of_ble_eq_true rfl) rfl rfl rfl ?_
  refine me1 (pc' := 1) dm_X0_init_0 rfl rfl rfl rfl ?_
  refine me4o (pc' := 4) dm_X0_init_1 rfl rfl (by omega) rfl rfl rfl ?_
  refine me5 dm_X0_init_4 rfl rfl rfl ?_
  refine me3 (pc' := 80) dm_X1_init_79 (g_aastr (le_ (n := 2) (u := 0) (v := 0) (j := 31) rfl rfl rfl rfl) (se (n := 2) (u := 0) (v := 0) (j := 31) rfl rfl rfl _) (le_ (n := 2) (u := 0) (v := 0) (j := 48) rfl rfl rfl rfl) rfl (by decide) (Nat.le_of_ble_eq_true rfl) (Nat.le_of_ble_eq_true rfl)) rfl rfl rfl ?_
  refine me1 (pc' := 83) (L' := [(2, .int (17 : Int32)), (0, .ref 16), (1, .ref 4)]) dm_X1_init_80 rfl rfl rfl rfl ?_
  refine me2 (pc' := 58) dm_X1_init_83 rfl rfl rfl ?_
  refine me1 (pc' := 59) dm_X1_init_58 rfl rfl rfl rfl ?_
  refine me1 (pc' := 60) dm_X1_init_59 rfl rfl rfl rfl ?_
  refine me3 (pc' := 63) dm_X1_init_60 (g_get (v := .ref 33) (le_ (n := 2) (u := 0) (v := 0) (j := 14) rfl rfl rfl rfl) rfl rfl (Nat.le_of_ble_eq_true rfl)) rfl rfl rfl ?_
  refine me3 (pc' := 64) dm_X1_init_63 (g_len (v := (64 : Int32)) (le_ (n := 2) (u := 0) (v := 0) (j := 31) rfl rfl rfl rfl) rfl rfl (Nat.le_of_ble_eq_true rfl)) rfl rfl rfl ?_
  refine me_2f (pc' := 67) dm_X1_init_64 rfl (by decide) rfl ?_
  refine me1 (pc' := 68) dm_X1_init_67 rfl rfl rfl rfl ?_
  refine me3 (pc' := 71) dm_X1_init_68 (g_get (v := .ref 33) (le_ (n := 2) (u := 0) (v := 0) (j := 14) rfl rfl rfl rfl) rfl rfl (Nat.le_of_ble_eq_true rfl)) rfl rfl rfl ?_
  refine me1 (pc' := 72) dm_X1_init_71 rfl rfl rfl rfl ?_
  refine me3 (pc' := 75) dm_X1_init_72 (g_nw (a := 51) (ne_ (n := 2) (u := 0) (v := 0) (j := 49) rfl rfl rfl rfl) (ae _) rfl) rfl rfl rfl ?_
  refine me0 (pc' := 76) dm_X1_init_75 rfl rfl rfl rfl ?_
  refine me4 (pc' := 79) (L0 := [(0, .ref 51)]) dm_X1_init_76 rfl (g_invp (As := []) rfl rfl rfl) pm_X0_init rfl (Nat.le_of_ble_eq_true rfl) rfl rfl rfl ?_
  refine me1 (pc' := 1) dm_X0_init_0 rfl rfl rfl rfl ?_
  refine me4o (pc' := 4) dm_X0_init_1 rfl rfl (by omega) rfl rfl rfl ?_
  refine me5 dm_X0_init_4 rfl rfl rfl ?_
  refine me3 (pc' := 80) dm_X1_init_79 (g_aastr (le_ (n := 2) (u := 0) (v := 0) (j := 31) rfl rfl rfl rfl) (se (n := 2) (u := 0) (v := 0) (j := 31) rfl rfl rfl _) (le_ (n := 2) (u := 0) (v := 0) (j := 49) rfl rfl rfl rfl) rfl (by decide) (Nat.le_of_ble_eq_true rfl) (Nat.le_of_ble_eq_true rfl)) rfl rfl rfl ?_
  refine me1 (pc' := 83) (L' := [(2, .int (18 : Int32)), (0, .ref 16), (1, .ref 4)]) dm_X1_init_80 rfl rfl rfl rfl ?_
  refine me2 (pc' := 58) dm_X1_init_83 rfl rfl rfl ?_
  refine me1 (pc' := 59) dm_X1_init_58 rfl rfl rfl rfl ?_
  refine me1 (pc' := 60) dm_X1_init_59 rfl rfl rfl rfl ?_
  refine me3 (pc' := 63) dm_X1_init_60 (g_get (v := .ref 33) (le_ (n := 2) (u := 0) (v := 0) (j := 14) rfl rfl rfl rfl) rfl rfl (Nat.le_of_ble_eq_true rfl)) rfl rfl rfl ?_
  refine me3 (pc' := 64) dm_X1_init_63 (g_len (v := (64 : Int32)) (le_ (n := 2) (u := 0) (v := 0) (j := 31) rfl rfl rfl rfl) rfl rfl (Nat.le_of_ble_eq_true rfl)) rfl rfl rfl ?_
  refine me_2f (pc' := 67) dm_X1_init_64 rfl (by decide) rfl ?_
  refine me1 (pc' := 68) dm_X1_init_67 rfl rfl rfl rfl ?_
  refine me3 (pc' := 71) dm_X1_init_68 (g_get (v := .ref 33) (le_ (n := 2) (u := 0) (v := 0) (j := 14) rfl rfl rfl rfl) rfl rfl (Nat.le_of_ble_eq_true rfl)) rfl rfl rfl ?_
  refine me1 (pc' := 72) dm_X1_init_71 rfl rfl rfl rfl ?_
  refine me3 (pc' := 75) dm_X1_init_72 (g_nw (a := 52) (ne_ (n := 2) (u := 0) (v := 0) (j := 50) rfl rfl rfl rfl) (ae _) rfl) rfl rfl rfl ?_
  refine me0 (pc' := 76) dm_X1_init_75 rfl rfl rfl rfl ?_
  refine me4 (pc' := 79) (L0 := [(0, .ref 52)]) dm_X1_init_76 rfl (g_invp (As := []) rfl rfl rfl) pm_X0_init rfl (Nat.le_of_ble_eq_true rfl) rfl rfl rfl ?_
  refine me1 (pc' := 1) dm_X0_init_0 rfl rfl rfl rfl ?_
  refine me4o (pc' := 4) dm_X0_init_1 rfl rfl (by omega) rfl rfl rfl ?_
  refine me5 dm_X0_init_4 rfl rfl rfl ?_
  refine me3 (pc' := 80) dm_X1_init_79 (g_aastr (le_ (n := 2) (u := 0) (v := 0) (j := 31) rfl rfl rfl rfl) (se (n := 2) (u := 0) (v := 0) (j := 31) rfl rfl rfl _) (le_ (n := 2) (u := 0) (v := 0) (j := 50) rfl rfl rfl rfl) rfl (by decide) (Nat.le_of_ble_eq_true rfl) (Nat.le_of_ble_eq_true rfl)) rfl rfl rfl ?_
  refine me1 (pc' := 83) (L' := [(2, .int (19 : Int32)), (0, .ref 16), (1, .ref 4)]) dm_X1_init_80 rfl rfl rfl rfl ?_
  refine me2 (pc' := 58) dm_X1_init_83 rfl rfl rfl ?_
  refine me1 (pc' := 59) dm_X1_init_58 rfl rfl rfl rfl ?_
  refine me1 (pc' := 60) dm_X1_init_59 rfl rfl rfl rfl ?_
  refine me3 (pc' := 63) dm_X1_init_60 (g_get (v := .ref 33) (le_ (n := 2) (u := 0) (v := 0) (j := 14) rfl rfl rfl rfl) rfl rfl (Nat.le_of_ble_eq_true rfl)) rfl rfl rfl ?_
  refine me3 (pc' := 64) dm_X1_init_63 (g_len (v := (64 : Int32)) (le_ (n := 2) (u := 0) (v := 0) (j := 31) rfl rfl rfl rfl) rfl rfl (Nat.le_of_ble_eq_true rfl)) rfl rfl rfl ?_
  refine me_2f (pc' := 67) dm_X1_init_64 rfl (by decide) rfl ?_
  refine me1 (pc' := 68) dm_X1_init_67 rfl rfl rfl rfl ?_
  refine me3 (pc' := 71) dm_X1_init_68 (g_get (v := .ref 33) (le_ (n := 2) (u := 0) (v := 0) (j := 14) rfl rfl rfl rfl) rfl rfl (Nat.le_of_ble_eq_true rfl)) rfl rfl rfl ?_
  refine me1 (pc' := 72) dm_X1_init_71 rfl rfl rfl rfl ?_
  refine me3 (pc' := 75) dm_X1_init_72 (g_nw (a := 53) (ne_ (n := 2) (u := 0) (v := 0) (j := 51) rfl rfl rfl rfl) (ae _) rfl) rfl rfl rfl ?_
  refine me0 (pc' := 76) dm_X1_init_75 rfl rfl rfl rfl ?_
  refine me4 (pc' := 79) (L0 := [(0, .ref 53)]) dm_X1_init_76 rfl (g_invp (As := []) rfl rfl rfl) pm_X0_init rfl (Nat.le_of_ble_eq_true rfl) rfl rfl rfl ?_
  refine me1 (pc' := 1) dm_X0_init_0 rfl rfl rfl rfl ?_
  refine me4o (pc' := 4) dm_X0_init_1 rfl rfl (by omega) rfl rfl rfl ?_
  refine me5 dm_X0_init_4 rfl rfl rfl ?_
  refine me3 (pc' := 80) dm_X1_init_79 (g_aastr (le_ (n := 2) (u := 0) (v := 0) (j := 31) rfl rfl rfl rfl) (se (n := 2) (u := 0) (v := 0) (j := 31) rfl rfl rfl _) (le_ (n := 2) (u := 0) (v := 0) (j := 51) rfl rfl rfl rfl) rfl (by decide) (Nat.le_of_ble_eq_true rfl) (Nat.le_of_ble_eq_true rfl)) rfl rfl rfl ?_
  refine me1 (pc' := 83) (L' := [(2, .int (20 : Int32)), (0, .ref 16), (1, .ref 4)]) dm_X1_init_80 rfl rfl rfl rfl ?_
  refine me2 (pc' := 58) dm_X1_init_83 rfl rfl rfl ?_
  refine me1 (pc' := 59) dm_X1_init_58 rfl rfl rfl rfl ?_
  refine me1 (pc' := 60) dm_X1_init_59 rfl rfl rfl rfl ?_
  refine me3 (pc' := 63) dm_X1_init_60 (g_get (v := .ref 33) (le_ (n := 2) (u := 0) (v := 0) (j := 14) rfl rfl rfl rfl) rfl rfl (Nat.le_of_ble_eq_true rfl)) rfl rfl rfl ?_
  refine me3 (pc' := 64) dm_X1_init_63 (g_len (v := (64 : Int32)) (le_ (n := 2) (u := 0) (v := 0) (j := 31) rfl rfl rfl rfl) rfl rfl (Nat.le_of_ble_eq_true rfl)) rfl rfl rfl ?_
  refine me_2f (pc' := 67) dm_X1_init_64 rfl (by decide) rfl ?_
  refine me1 (pc' := 68) dm_X1_init_67 rfl rfl rfl rfl ?_
  refine me3 (pc' := 71) dm_X1_init_68 (g_get (v := .ref 33) (le_ (n := 2) (u := 0) (v := 0) (j := 14) rfl rfl rfl rfl) rfl rfl (Nat.le_of_ble_eq_true rfl)) rfl rfl rfl ?_
  refine me1 (pc' := 72) dm_X1_init_71 rfl rfl rfl rfl ?_
  refine me3 (pc' := 75) dm_X1_init_72 (g_nw (a := 54) (ne_ (n := 2) (u := 0) (v := 0) (j := 52) rfl rfl rfl rfl) (ae _) rfl) rfl rfl rfl ?_
  refine me0 (pc' := 76) dm_X1_init_75 rfl rfl rfl rfl ?_
  refine me4 (pc' := 79) (L0 := [(0, .ref 54)]) dm_X1_init_76 rfl (g_invp (As := []) rfl rfl rfl) pm_X0_init rfl (Nat.le_of_ble_eq_true rfl) rfl rfl rfl ?_
  refine me1 (pc' := 1) dm_X0_init_0 rfl rfl rfl rfl ?_
  refine me4o (pc' := 4) dm_X0_init_1 rfl rfl (by omega) rfl rfl rfl ?_
  refine me5 dm_X0_init_4 rfl rfl rfl ?_
  refine me3 (pc' := 80) dm_X1_init_79 (g_aastr (le_ (n := 2) (u := 0) (v := 0) (j := 31) rfl rfl rfl rfl) (se (n := 2) (u := 0) (v := 0) (j := 31) rfl rfl rfl _) (le_ (n := 2) (u := 0) (v := 0) (j := 52) rfl rfl rfl rfl) rfl (by decide) (Nat.le_of_ble_eq_true rfl) (Nat.le_of_ble_eq_true rfl)) rfl rfl rfl ?_
  refine me1 (pc' := 83) (L' := [(2, .int (21 : Int32)), (0, .ref 16), (1, .ref 4)]) dm_X1_init_80 rfl rfl rfl rfl ?_
  refine me2 (pc' := 58) dm_X1_init_83 rfl rfl rfl ?_
  refine me1 (pc' := 59) dm_X1_init_58 rfl rfl rfl rfl ?_
  refine me1 (pc' := 60) dm_X1_init_59 rfl rfl rfl rfl ?_
  refine me3 (pc' := 63) dm_X1_init_60 (g_get (v := .ref 33) (le_ (n := 2) (u := 0) (v := 0) (j := 14) rfl rfl rfl rfl) rfl rfl (Nat.le_of_ble_eq_true rfl)) rfl rfl rfl ?_
  refine me3 (pc' := 64) dm_X1_init_63 (g_len (v := (64 : Int32)) (le_ (n := 2) (u := 0) (v := 0) (j := 31) rfl rfl rfl rfl) rfl rfl (Nat.le_of_ble_eq_true rfl)) rfl rfl rfl ?_
  refine me_2f (pc' := 67) dm_X1_init_64 rfl (by decide) rfl ?_
  refine me1 (pc' := 68) dm_X1_init_67 rfl rfl rfl rfl ?_
  refine me3 (pc' := 71) dm_X1_init_68 (g_get (v := .ref 33) (le_ (n := 2) (u := 0) (v := 0) (j := 14) rfl rfl rfl rfl) rfl rfl (Nat.le_of_ble_eq_true rfl)) rfl rfl rfl ?_
  refine me1 (pc' := 72) dm_X1_init_71 rfl rfl rfl rfl ?_
  refine me3 (pc' := 75) dm_X1_init_72 (g_nw (a := 55) (ne_ (n := 2) (u := 0) (v := 0) (j := 53) rfl rfl rfl rfl) (ae _) rfl) rfl rfl rfl ?_
  refine me0 (pc' := 76) dm_X1_init_75 rfl rfl rfl rfl ?_
  refine me4 (pc' := 79) (L0 := [(0, .ref 55)]) dm_X1_init_76 rfl (g_invp (As := []) rfl rfl rfl) pm_X0_init rfl (Nat.le_of_ble_eq_true rfl) rfl rfl rfl ?_
  refine me1 (pc' := 1) dm_X0_init_0 rfl rfl rfl rfl ?_
  refine me4o (pc' := 4) dm_X0_init_1 rfl rfl (by omega) rfl rfl rfl ?_
  refine me5 dm_X0_init_4 rfl rfl rfl ?_
  refine me3 (pc' := 80) dm_X1_init_79 (g_aastr (le_ (n := 2) (u := 0) (v := 0) (j := 31) rfl rfl rfl rfl) (se (n := 2) (u := 0) (v := 0) (j := 31) rfl rfl rfl _) (le_ (n := 2) (u := 0) (v := 0) (j := 53) rfl rfl rfl rfl) rfl (by decide) (Nat.le_of_ble_eq_true rfl) (Nat.le_of_ble_eq_true rfl)) rfl rfl rfl ?_
  refine me1 (pc' := 83) (L' := [(2, .int (22 : Int32)), (0, .ref 16), (1, .ref 4)]) dm_X1_init_80 rfl rfl rfl rfl ?_
  refine me2 (pc' := 58) dm_X1_init_83 rfl rfl rfl ?_
  refine me1 (pc' := 59) dm_X1_init_58 rfl rfl rfl rfl ?_
  refine me1 (pc' := 60) dm_X1_init_59 rfl rfl rfl rfl ?_
  refine me3 (pc' := 63) dm_X1_init_60 (g_get (v := .ref 33) (le_ (n := 2) (u := 0) (v := 0) (j := 14) rfl rfl rfl rfl) rfl rfl (Nat.le_of_ble_eq_true rfl)) rfl rfl rfl ?_
  refine me3 (pc' := 64) dm_X1_init_63 (g_len (v := (64 : Int32)) (le_ (n := 2) (u := 0) (v := 0) (j := 31) rfl rfl rfl rfl) rfl rfl (Nat.le_of_ble_eq_true rfl)) rfl rfl rfl ?_
  refine me_2f (pc' := 67) dm_X1_init_64 rfl (by decide) rfl ?_
  refine me1 (pc' := 68) dm_X1_init_67 rfl rfl rfl rfl ?_
  refine me3 (pc' := 71) dm_X1_init_68 (g_get (v := .ref 33) (le_ (n := 2) (u := 0) (v := 0) (j := 14) rfl rfl rfl rfl) rfl rfl (Nat.le_of_ble_eq_true rfl)) rfl rfl rfl ?_
  refine me1 (pc' := 72) dm_X1_init_71 rfl rfl rfl rfl ?_
  refine me3 (pc' := 75) dm_X1_init_72 (g_nw (a := 56) (ne_ (n := 2) (u := 0) (v := 0) (j := 54) rfl rfl rfl rfl) (ae _) rfl) rfl rfl rfl ?_
  refine me0 (pc' := 76) dm_X1_init_75 rfl rfl rfl rfl ?_
  refine me4 (pc' := 79) (L0 := [(0, .ref 56)]) dm_X1_init_76 rfl (g_invp (As := []) rfl rfl rfl) pm_X0_init rfl (Nat.le_of_ble_eq_true rfl) rfl rfl rfl ?_
  refine me1 (pc' := 1) dm_X0_init_0 rfl rfl rfl rfl ?_
  refine me4o (pc' := 4) dm_X0_init_1 rfl rfl (by omega) rfl rfl rfl ?_
  refine me5 dm_X0_init_4 rfl rfl rfl ?_
  refine me3 (pc' := 80) dm_X1_init_79 (g_aastr (le_ (n := 2) (u := 0) (v := 0) (j := 31) rfl rfl rfl rfl) (se (n := 2) (u := 0) (v := 0) (j := 31) rfl rfl rfl _) (le_ (n := 2) (u := 0) (v := 0) (j := 54) rfl rfl rfl rfl) rfl (by decide) (Nat.le_of_ble_eq_true rfl) (Nat.le_of_ble_eq_true rfl)) rfl rfl rfl ?_
  refine me1 (pc' := 83) (L' := [(2, .int (23 : Int32)), (0, .ref 16), (1, .ref 4)]) dm_X1_init_80 rfl rfl rfl rfl ?_
  refine me2 (pc' := 58) dm_X1_init_83 rfl rfl rfl ?_
  refine me1 (pc' := 59) dm_X1_init_58 rfl rfl rfl rfl ?_
  refine me1 (pc' := 60) dm_X1_init_59 rfl rfl rfl rfl ?_
  refine me3 (pc' := 63) dm_X1_init_60 (g_get (v := .ref 33) (le_ (n := 2) (u := 0) (v := 0) (j := 14) rfl rfl rfl rfl) rfl rfl (Nat.le_of_ble_eq_true rfl)) rfl rfl rfl ?_
  refine me3 (pc' := 64) dm_X1_init_63 (g_len (v := (64 : Int32)) (le_ (n := 2) (u := 0) (v := 0) (j := 31) rfl rfl rfl rfl) rfl rfl (Nat.le_of_ble_eq_true rfl)) rfl rfl rfl ?_
  refine me_2f (pc' := 67) dm_X1_init_64 rfl (by decide) rfl ?_
  refine me1 (pc' := 68) dm_X1_init_67 rfl rfl rfl rfl ?_
  refine me3 (pc' := 71) dm_X1_init_68 (g_get (v := .ref 33) (le_ (n := 2) (u := 0) (v := 0) (j := 14) rfl rfl rfl rfl) rfl rfl (Nat.le_of_ble_eq_true rfl)) rfl rfl rfl ?_
  refine me1 (pc' := 72) dm_X1_init_71 rfl rfl rfl rfl ?_
  refine me3 (pc' := 75) dm_X1_init_72 (g_nw (a := 57) (ne_ (n := 2) (u := 0) (v := 0) (j := 55) rfl rfl rfl rfl) (ae _) rfl) rfl rfl rfl ?_
  refine me0 (pc' := 76) dm_X1_init_75 rfl rfl rfl rfl ?_
  refine me4 (pc' := 79) (L0 := [(0, .ref 57)]) dm_X1_init_76 rfl (g_invp (As := []) rfl rfl rfl) pm_X0_init rfl (Nat.le_of_ble_eq_true rfl) rfl rfl rfl ?_
  refine me1 (pc' := 1) dm_X0_init_0 rfl rfl rfl rfl ?_
  refine me4o (pc' := 4) dm_X0_init_1 rfl rfl (by omega) rfl rfl rfl ?_
  refine me5 dm_X0_init_4 rfl rfl rfl ?_
  refine me3 (pc' := 80) dm_X1_init_79 (g_aastr (le_ (n := 2) (u := 0) (v := 0) (j := 31) rfl rfl rfl rfl) (se (n := 2) (u := 0) (v := 0) (j := 31) rfl rfl rfl _) (le_ (n := 2) (u := 0) (v := 0) (j := 55) rfl rfl rfl rfl) rfl (by decide) (Nat.le_of_ble_eq_true rfl) (Nat.le_of_ble_eq_true rfl)) rfl rfl rfl ?_
  refine me1 (pc' := 83) (L' := [(2, .int (24 : Int32)), (0, .ref 16), (1, .ref 4)]) dm_X1_init_80 rfl rfl rfl rfl ?_
  refine me2 (pc' := 58) dm_X1_init_83 rfl rfl rfl ?_
  refine me1 (pc' := 59) dm_X1_init_58 rfl rfl rfl rfl ?_
  refine me1 (pc' := 60) dm_X1_init_59 rfl rfl rfl rfl ?_
  refine me3 (pc' := 63) dm_X1_init_60 (g_get (v := .ref 33) (le_ (n := 2) (u := 0) (v := 0) (j := 14) rfl rfl rfl rfl) rfl rfl (Nat.le_of_ble_eq_true rfl)) rfl rfl rfl ?_
  refine me3 (pc' := 64) dm_X1_init_63 (g_len (v := (64 : Int32)) (le_ (n := 2) (u := 0) (v := 0) (j := 31) rfl rfl rfl rfl) rfl rfl (Nat.le_of_ble_eq_true rfl)) rfl rfl rfl ?_
  refine me_2f (pc' := 67) dm_X1_init_64 rfl (by decide) rfl ?_
  refine me1 (pc' := 68) dm_X1_init_67 rfl rfl rfl rfl ?_
  refine me3 (pc' := 71) dm_X1_init_68 (g_get (v := .ref 33) (le_ (n := 2) (u := 0) (v := 0) (j := 14) rfl rfl rfl rfl) rfl rfl (Nat.le_of_ble_eq_true rfl)) rfl rfl rfl ?_
  refine me1 (pc' := 72) dm_X1_init_71 rfl rfl rfl rfl ?_
  refine me3 (pc' := 75) dm_X1_init_72 (g_nw (a := 58) (ne_ (n := 2) (u := 0) (v := 0) (j := 56) rfl rfl rfl rfl) (ae _) rfl) rfl rfl rfl ?_
  refine me0 (pc' := 76) dm_X1_init_75 rfl rfl rfl rfl ?_
  refine me4 (pc' := 79) (L0 := [(0, .ref 58)]) dm_X1_init_76 rfl (g_invp (As := []) rfl rfl rfl) pm_X0_init rfl (Nat.le_of_ble_eq_true rfl) rfl rfl rfl ?_
  refine me1 (pc' := 1) dm_X0_init_0 rfl rfl rfl rfl ?_
  refine me4o (pc' := 4) dm_X0_init_1 rfl rfl (by omega) rfl rfl rfl ?_
  refine me5 dm_X0_init_4 rfl rfl rfl ?_
  refine me3 (pc' := 80) dm_X1_init_79 (g_aastr (le_ (n := 2) (u := 0) (v := 0) (j := 31) rfl rfl rfl rfl) (se (n := 2) (u := 0) (v := 0) (j := 31) rfl rfl rfl _) (le_ (n := 2) (u := 0) (v := 0) (j := 56) rfl rfl rfl rfl) rfl (by decide) (Nat.le_of_ble_eq_true rfl) (Nat.le_of_ble_eq_true rfl)) rfl rfl rfl ?_
  refine me1 (pc' := 83) (L' := [(2, .int (25 : Int32)), (0, .ref 16), (1, .ref 4)]) dm_X1_init_80 rfl rfl rfl rfl ?_
  refine me2 (pc' := 58) dm_X1_init_83 rfl rfl rfl ?_
  refine me1 (pc' := 59) dm_X1_init_58 rfl rfl rfl rfl ?_
  refine me1 (pc' := 60) dm_X1_init_59 rfl rfl rfl rfl ?_
  refine me3 (pc' := 63) dm_X1_init_60 (g_get (v := .ref 33) (le_ (n := 2) (u := 0) (v := 0) (j := 14) rfl rfl rfl rfl) rfl rfl (Nat.le_of_ble_eq_true rfl)) rfl rfl rfl ?_
  refine me3 (pc' := 64) dm_X1_init_63 (g_len (v := (64 : Int32)) (le_ (n := 2) (u := 0) (v := 0) (j := 31) rfl rfl rfl rfl) rfl rfl (Nat.le_of_ble_eq_true rfl)) rfl rfl rfl ?_
  refine me_2f (pc' := 67) dm_X1_init_64 rfl (by decide) rfl ?_
  refine me1 (pc' := 68) dm_X1_init_67 rfl rfl rfl rfl ?_
  refine me3 (pc' := 71) dm_X1_init_68 (g_get (v := .ref 33) (le_ (n := 2) (u := 0) (v := 0) (j := 14) rfl rfl rfl rfl) rfl rfl (Nat.le_of_ble_eq_true rfl)) rfl rfl rfl ?_
  refine me1 (pc' := 72) dm_X1_init_71 rfl rfl rfl rfl ?_
  refine me3 (pc' := 75) dm_X1_init_72 (g_nw (a := 59) (ne_ (n := 2) (u := 0) (v := 0) (j := 57) rfl rfl rfl rfl) (ae _) rfl) rfl rfl rfl ?_
  refine me0 (pc' := 76) dm_X1_init_75 rfl rfl rfl rfl ?_
  refine me4 (pc' := 79) (L0 := [(0, .ref 59)]) dm_X1_init_76 rfl (g_invp (As := []) rfl rfl rfl) pm_X0_init rfl (Nat.le_of_ble_eq_true rfl) rfl rfl rfl ?_
  refine me1 (pc' := 1) dm_X0_init_0 rfl rfl rfl rfl ?_
  refine me4o (pc' := 4) dm_X0_init_1 rfl rfl (by omega) rfl rfl rfl ?_
  refine me5 dm_X0_init_4 rfl rfl rfl ?_
  refine me3 (pc' := 80) dm_X1_init_79 (g_aastr (le_ (n := 2) (u := 0) (v := 0) (j := 31) rfl rfl rfl rfl) (se (n := 2) (u := 0) (v := 0) (j := 31) rfl rfl rfl _) (le_ (n := 2) (u := 0) (v := 0) (j := 57) rfl rfl rfl rfl) rfl (by decide) (Nat.le_of_ble_eq_true rfl) (Nat.le_of_ble_eq_true rfl)) rfl rfl rfl ?_
  refine me1 (pc' := 83) (L' := [(2, .int (26 : Int32)), (0, .ref 16), (1, .ref 4)]) dm_X1_init_80 rfl rfl rfl rfl ?_
  refine me2 (pc' := 58) dm_X1_init_83 rfl rfl rfl ?_
  refine me1 (pc' := 59) dm_X1_init_58 rfl rfl rfl rfl ?_
  refine me1 (pc' := 60) dm_X1_init_59 rfl rfl rfl rfl ?_
  refine me3 (pc' := 63) dm_X1_init_60 (g_get (v := .ref 33) (le_ (n := 2) (u := 0) (v := 0) (j := 14) rfl rfl rfl rfl) rfl rfl (Nat.le_of_ble_eq_true rfl)) rfl rfl rfl ?_
  refine me3 (pc' := 64) dm_X1_init_63 (g_len (v := (64 : Int32)) (le_ (n := 2) (u := 0) (v := 0) (j := 31) rfl rfl rfl rfl) rfl rfl (Nat.le_of_ble_eq_true rfl)) rfl rfl rfl ?_
  refine me_2f (pc' := 67) dm_X1_init_64 rfl (by decide) rfl ?_
  refine me1 (pc' := 68) dm_X1_init_67 rfl rfl rfl rfl ?_
  refine me3 (pc' := 71) dm_X1_init_68 (g_get (v := .ref 33) (le_ (n := 2) (u := 0) (v := 0) (j := 14) rfl rfl rfl rfl) rfl rfl (Nat.le_of_ble_eq_true rfl)) rfl rfl rfl ?_
  refine me1 (pc' := 72) dm_X1_init_71 rfl rfl rfl rfl ?_
  refine me3 (pc' := 75) dm_X1_init_72 (g_nw (a := 60) (ne_ (n := 2) (u := 0) (v := 0) (j := 58) rfl rfl rfl rfl) (ae _) rfl) rfl rfl rfl ?_
  refine me0 (pc' := 76) dm_X1_init_75 rfl rfl rfl rfl ?_
  refine me4 (pc' := 79) (L0 := [(0, .ref 60)]) dm_X1_init_76 rfl (g_invp (As := []) rfl rfl rfl) pm_X0_init rfl (Nat.le_of_ble_eq_true rfl) rfl rfl rfl ?_
  refine me1 (pc' := 1) dm_X0_init_0 rfl rfl rfl rfl ?_
  refine me4o (pc' := 4) dm_X0_init_1 rfl rfl (by omega) rfl rfl rfl ?_
  refine me5 dm_X0_init_4 rfl rfl rfl ?_
  refine me3 (pc' := 80) dm_X1_init_79 (g_aastr (le_ (n := 2) (u := 0) (v := 0) (j := 31) rfl rfl rfl rfl) (se (n := 2) (u := 0) (v := 0) (j := 31) rfl rfl rfl _) (le_ (n := 2) (u := 0) (v := 0) (j := 58) rfl rfl rfl rfl) rfl (by decide) (Nat.le_of_ble_eq_true rfl) (Nat.le_of_ble_eq_true rfl)) rfl rfl rfl ?_
  refine me1 (pc' := 83) (L' := [(2, .int (27 : Int32)), (0, .ref 16), (1, .ref 4)]) dm_X1_init_80 rfl rfl rfl rfl ?_
  refine me2 (pc' := 58) dm_X1_init_83 rfl rfl rfl ?_
  refine me1 (pc' := 59) dm_X1_init_58 rfl rfl rfl rfl ?_
  refine me1 (pc' := 60) dm_X1_init_59 rfl rfl rfl rfl ?_
  refine me3 (pc' := 63) dm_X1_init_60 (g_get (v := .ref 33) (le_ (n := 2) (u := 0) (v := 0) (j := 14) rfl rfl rfl rfl) rfl rfl (Nat.le_of_ble_eq_true rfl)) rfl rfl rfl ?_
  refine me3 (pc' := 64) dm_X1_init_63 (g_len (v := (64 : Int32)) (le_ (n := 2) (u := 0) (v := 0) (j := 31) rfl rfl rfl rfl) rfl rfl (Nat.le_of_ble_eq_true rfl)) rfl rfl rfl ?_
  refine me_2f (pc' := 67) dm_X1_init_64 rfl (by decide) rfl ?_
  refine me1 (pc' := 68) dm_X1_init_67 rfl rfl rfl rfl ?_
  refine me3 (pc' := 71) dm_X1_init_68 (g_get (v := .ref 33) (le_ (n := 2) (u := 0) (v := 0) (j := 14) rfl rfl rfl rfl) rfl rfl (Nat.le_of_ble_eq_true rfl)) rfl rfl rfl ?_
  refine me1 (pc' := 72) dm_X1_init_71 rfl rfl rfl rfl ?_
  refine me3 (pc' := 75) dm_X1_init_72 (g_nw (a := 61) (ne_ (n := 2) (u := 0) (v := 0) (j := 59) rfl rfl rfl rfl) (ae _) rfl) rfl rfl rfl ?_
  refine me0 (pc' := 76) dm_X1_init_75 rfl rfl rfl rfl ?_
  refine me4 (pc' := 79) (L0 := [(0, .ref 61)]) dm_X1_init_76 rfl (g_invp (As := []) rfl rfl rfl) pm_X0_init rfl (Nat.le_of_ble_eq_true rfl) rfl rfl rfl ?_
  refine me1 (pc' := 1) dm_X0_init_0 rfl rfl rfl rfl ?_
  refine me4o (pc' := 4) dm_X0_init_1 rfl rfl (by omega) rfl rfl rfl ?_
  refine me5 dm_X0_init_4 rfl rfl rfl ?_
  refine me3 (pc' := 80) dm_X1_init_79 (g_aastr (le_ (n := 2) (u := 0) (v := 0) (j := 31) rfl rfl rfl rfl) (se (n := 2) (u := 0) (v := 0) (j := 31) rfl rfl rfl _) (le_ (n := 2) (u := 0) (v := 0) (j := 59) rfl rfl rfl rfl) rfl (by decide) (Nat.le_of_ble_eq_true rfl) (Nat.le_of_ble_eq_true rfl)) rfl rfl rfl ?_
  refine me1 (pc' := 83) (L' := [(2, .int (28 : Int32)), (0, .ref 16), (1, .ref 4)]) dm_X1_init_80 rfl rfl rfl rfl ?_
  refine me2 (pc' := 58) dm_X1_init_83 rfl rfl rfl ?_
  refine me1 (pc' := 59) dm_X1_init_58 rfl rfl rfl rfl ?_
  refine me1 (pc' := 60) dm_X1_init_59 rfl rfl rfl rfl ?_
  refine me3 (pc' := 63) dm_X1_init_60 (g_get (v := .ref 33) (le_ (n := 2) (u := 0) (v := 0) (j := 14) rfl rfl rfl rfl) rfl rfl (Nat.le_of_ble_eq_true rfl)) rfl rfl rfl ?_
  refine me3 (pc' := 64) dm_X1_init_63 (g_len (v := (64 : Int32)) (le_ (n := 2) (u := 0) (v := 0) (j := 31) rfl rfl rfl rfl) rfl rfl (Nat.le_of_ble_eq_true rfl)) rfl rfl rfl ?_
  refine me_2f (pc' := 67) dm_X1_init_64 rfl (by decide) rfl ?_
  refine me1 (pc' := 68) dm_X1_init_67 rfl rfl rfl rfl ?_
  refine me3 (pc' := 71) dm_X1_init_68 (g_get (v := .ref 33) (le_ (n := 2) (u := 0) (v := 0) (j := 14) rfl rfl rfl rfl) rfl rfl (Nat.le_of_ble_eq_true rfl)) rfl rfl rfl ?_
  refine me1 (pc' := 72) dm_X1_init_71 rfl rfl rfl rfl ?_
  refine me3 (pc' := 75) dm_X1_init_72 (g_nw (a := 62) (ne_ (n := 2) (u := 0) (v := 0) (j := 60) rfl rfl rfl rfl) (ae _) rfl) rfl rfl rfl ?_
  refine me0 (pc' := 76) dm_X1_init_75 rfl rfl rfl rfl ?_
  refine me4 (pc' := 79) (L0 := [(0, .ref 62)]) dm_X1_init_76 rfl (g_invp (As := []) rfl rfl rfl) pm_X0_init rfl (Nat.le_of_ble_eq_true rfl) rfl rfl rfl ?_
  refine me1 (pc' := 1) dm_X0_init_0 rfl rfl rfl rfl ?_
  refine me4o (pc' := 4) dm_X0_init_1 rfl rfl (by omega) rfl rfl rfl ?_
  refine me5 dm_X0_init_4 rfl rfl rfl ?_
  refine me3 (pc' := 80) dm_X1_init_79 (g_aastr (le_ (n := 2) (u := 0) (v := 0) (j := 31) rfl rfl rfl rfl) (se (n := 2) (u := 0) (v := 0) (j := 31) rfl rfl rfl _) (le_ (n := 2) (u := 0) (v := 0) (j := 60) rfl rfl rfl rfl) rfl (by decide) (Nat.le_of_ble_eq_true rfl) (Nat.le_of_ble_eq_true rfl)) rfl rfl rfl ?_
  refine me1 (pc' := 83) (L' := [(2, .int (29 : Int32)), (0, .ref 16), (1, .ref 4)]) dm_X1_init_80 rfl rfl rfl rfl ?_
  refine me2 (pc' := 58) dm_X1_init_83 rfl rfl rfl ?_
  refine me1 (pc' := 59) dm_X1_init_58 rfl rfl rfl rfl ?_
  refine me1 (pc' := 60) dm_X1_init_59 rfl rfl rfl rfl ?_
  refine me3 (pc' := 63) dm_X1_init_60 (g_get (v := .ref 33) (le_ (n := 2) (u := 0) (v := 0) (j := 14) rfl rfl rfl rfl) rfl rfl (Nat.le_of_ble_eq_true rfl)) rfl rfl rfl ?_
  refine me3 (pc' := 64) dm_X1_init_63 (g_len (v := (64 : Int32)) (le_ (n := 2) (u := 0) (v := 0) (j := 31) rfl rfl rfl rfl) rfl rfl (Nat.le_of_ble_eq_true rfl)) rfl rfl rfl ?_
  refine me_2f (pc' := 67) dm_X1_init_64 rfl (by decide) rfl ?_
  refine me1 (pc' := 68) dm_X1_init_67 rfl rfl rfl rfl ?_
  refine me3 (pc' := 71) dm_X1_init_68 (g_get (v := .ref 33) (le_ (n := 2) (u := 0) (v := 0) (j := 14) rfl rfl rfl rfl) rfl rfl (Nat.le_of_ble_eq_true rfl)) rfl rfl rfl ?_
  refine me1 (pc' := 72) dm_X1_init_71 rfl rfl rfl rfl ?_
  refine me3 (pc' := 75) dm_X1_init_72 (g_nw (a := 63) (ne_ (n := 2) (u := 0) (v := 0) (j := 61) rfl rfl rfl rfl) (ae _) rfl) rfl rfl rfl ?_
  refine me0 (pc' := 76) dm_X1_init_75 rfl rfl rfl rfl ?_
  refine me4 (pc' := 79) (L0 := [(0, .ref 63)]) dm_X1_init_76 rfl (g_invp (As := []) rfl rfl rfl) pm_X0_init rfl (Nat.le_of_ble_eq_true rfl) rfl rfl rfl ?_
  refine me1 (pc' := 1) dm_X0_init_0 rfl rfl rfl rfl ?_
  refine me4o (pc' := 4) dm_X0_init_1 rfl rfl (by omega) rfl rfl rfl ?_
  refine me5 dm_X0_init_4 rfl rfl rfl ?_
  refine me3 (pc' := 80) dm_X1_init_79 (g_aastr (le_ (n := 2) (u := 0) (v := 0) (j := 31) rfl rfl rfl rfl) (se (n := 2) (u := 0) (v := 0) (j := 31) rfl rfl rfl _) (le_ (n := 2) (u := 0) (v := 0) (j := 61) rfl rfl rfl rfl) rfl (by decide) (Nat.le_of_ble_eq_true rfl) (Nat.le_of_ble_eq_true rfl)) rfl rfl rfl ?_
  refine me1 (pc' := 83) (L' := [(2, .int (30 : Int32)), (0, .ref 16), (1, .ref 4)]) dm_X1_init_80 rfl rfl rfl rfl ?_
  refine me2 (pc' := 58) dm_X1_init_83 rfl rfl rfl ?_
  refine me1 (pc' := 59) dm_X1_init_58 rfl rfl rfl rfl ?_
  refine me1 (pc' := 60) dm_X1_init_59 rfl rfl rfl rfl ?_
  refine me3 (pc' := 63) dm_X1_init_60 (g_get (v := .ref 33) (le_ (n := 2) (u := 0) (v := 0) (j := 14) rfl rfl rfl rfl) rfl rfl (Nat.le_of_ble_eq_true rfl)) rfl rfl rfl ?_
  refine me3 (pc' := 64) dm_X1_init_63 (g_len (v := (64 : Int32)) (le_ (n := 2) (u := 0) (v := 0) (j := 31) rfl rfl rfl rfl) rfl rfl (Nat.le_of_ble_eq_true rfl)) rfl rfl rfl ?_
  refine me_2f (pc' := 67) dm_X1_init_64 rfl (by decide) rfl ?_
  refine me1 (pc' := 68) dm_X1_init_67 rfl rfl rfl rfl ?_
  refine me3 (pc' := 71) dm_X1_init_68 (g_get (v := .ref 33) (le_ (n := 2) (u := 0) (v := 0) (j := 14) rfl rfl rfl rfl) rfl rfl (Nat.le_of_ble_eq_true rfl)) rfl rfl rfl ?_
  refine me1 (pc' := 72) dm_X1_init_71 rfl rfl rfl rfl ?_
  refine me3 (pc' := 75) dm_X1_init_72 (g_nw (a := 64) (ne_ (n := 2) (u := 0) (v := 0) (j := 62) rfl rfl rfl rfl) (ae _) rfl) rfl rfl rfl ?_
  refine me0 (pc' := 76) dm_X1_init_75 rfl rfl rfl rfl ?_
  refine me4 (pc' := 79) (L0 := [(0, .ref 64)]) dm_X1_init_76 rfl (g_invp (As := []) rfl rfl rfl) pm_X0_init rfl (Nat.le_of_ble_eq_true rfl) rfl rfl rfl ?_
  refine me1 (pc' := 1) dm_X0_init_0 rfl rfl rfl rfl ?_
  refine me4o (pc' := 4) dm_X0_init_1 rfl rfl (by omega) rfl rfl rfl ?_
  refine me5 dm_X0_init_4 rfl rfl rfl ?_
  refine me3 (pc' := 80) dm_X1_init_79 (g_aastr (le_ (n := 2) (u := 0) (v := 0) (j := 31) rfl rfl rfl rfl) (se (n := 2) (u := 0) (v := 0) (j := 31) rfl rfl rfl _) (le_ (n := 2) (u := 0) (v := 0) (j := 62) rfl rfl rfl rfl) rfl (by decide) (Nat.le_of_ble_eq_true rfl) (Nat.le_of_ble_eq_true rfl)) rfl rfl rfl ?_
  refine me1 (pc' := 83) (L' := [(2, .int (31 : Int32)), (0, .ref 16), (1, .ref 4)]) dm_X1_init_80 rfl rfl rfl rfl ?_
  refine me2 (pc' := 58) dm_X1_init_83 rfl rfl rfl ?_
  refine me1 (pc' := 59) dm_X1_init_58 rfl rfl rfl rfl ?_
  refine me1 (pc' := 60) dm_X1_init_59 rfl rfl rfl rfl ?_
  refine me3 (pc' := 63) dm_X1_init_60 (g_get (v := .ref 33) (le_ (n := 2) (u := 0) (v := 0) (j := 14) rfl rfl rfl rfl) rfl rfl (Nat.le_of_ble_eq_true rfl)) rfl rfl rfl ?_
  refine me3 (pc' := 64) dm_X1_init_63 (g_len (v := (64 : Int32)) (le_ (n := 2) (u := 0) (v := 0) (j := 31) rfl rfl rfl rfl) rfl rfl (Nat.le_of_ble_eq_true rfl)) rfl rfl rfl ?_
  refine me_2f (pc' := 67) dm_X1_init_64 rfl (by decide) rfl ?_
  refine me1 (pc' := 68) dm_X1_init_67 rfl rfl rfl rfl ?_
  refine me3 (pc' := 71) dm_X1_init_68 (g_get (v := .ref 33) (le_ (n := 2) (u := 0) (v := 0) (j := 14) rfl rfl rfl rfl) rfl rfl (Nat.le_of_ble_eq_true rfl)) rfl rfl rfl ?_
  refine me1 (pc' := 72) dm_X1_init_71 rfl rfl rfl rfl ?_
  refine me3 (pc' := 75) dm_X1_init_72 (g_nw (a := 65) (ne_ (n := 2) (u := 0) (v := 0) (j := 63) rfl rfl rfl rfl) (ae _) rfl) rfl rfl rfl ?_
  refine me0 (pc' := 76) dm_X1_init_75 rfl rfl rfl rfl ?_
  refine me4 (pc' := 79) (L0 := [(0, .ref 65)]) dm_X1_init_76 rfl (g_invp (As := []) rfl rfl rfl) pm_X0_init rfl (Nat.le_of_ble_eq_true rfl) rfl rfl rfl ?_
  refine me1 (pc' := 1) dm_X0_init_0 rfl rfl rfl rfl ?_
  refine me4o (pc' := 4) dm_X0_init_1 rfl rfl (by omega) rfl rfl rfl ?_
  refine me5 dm_X0_init_4 rfl rfl rfl ?_
  refine me3 (pc' := 80) dm_X1_init_79 (g_aastr (le_ (n := 2) (u := 0) (v := 0) (j := 31) rfl rfl rfl rfl) (se (n := 2) (u := 0) (v := 0) (j := 31) rfl rfl rfl _) (le_ (n := 2) (u := 0) (v := 0) (j := 63) rfl rfl rfl rfl) rfl (by decide) (Nat.le_of_ble_eq_true rfl) (Nat.le_of_ble_eq_true rfl)) rfl rfl rfl ?_
  refine me1 (pc' := 83) (L' := [(2, .int (32 : Int32)), (0, .ref 16), (1, .ref 4)]) dm_X1_init_80 rfl rfl rfl rfl ?_
  refine me2 (pc' := 58) dm_X1_init_83 rfl rfl rfl ?_
  refine me1 (pc' := 59) dm_X1_init_58 rfl rfl rfl rfl ?_
  refine me1 (pc' := 60) dm_X1_init_59 rfl rfl rfl rfl ?_
  refine me3 (pc' := 63) dm_X1_init_60 (g_get (v := .ref 33) (le_ (n := 2) (u := 0) (v := 0) (j := 14) rfl rfl rfl rfl) rfl rfl (Nat.le_of_ble_eq_true rfl)) rfl rfl rfl ?_
  refine me3 (pc' := 64) dm_X1_init_63 (g_len (v := (64 : Int32)) (le_ (n := 2) (u := 0) (v := 0) (j := 31) rfl rfl rfl rfl) rfl rfl (Nat.le_of_ble_eq_true rfl)) rfl rfl rfl ?_
  refine me_2f (pc' := 67) dm_X1_init_64 rfl (by decide) rfl ?_
  refine me1 (pc' := 68) dm_X1_init_67 rfl rfl rfl rfl ?_
  refine me3 (pc' := 71) dm_X1_init_68 (g_get (v := .ref 33) (le_ (n := 2) (u := 0) (v := 0) (j := 14) rfl rfl rfl rfl) rfl rfl (Nat.le_of_ble_eq_true rfl)) rfl rfl rfl ?_
  refine me1 (pc' := 72) dm_X1_init_71 rfl rfl rfl rfl ?_
  refine me3 (pc' := 75) dm_X1_init_72 (g_nw (a := 66) (ne_ (n := 2) (u := 0) (v := 0) (j := 64) rfl rfl rfl rfl) (ae _) rfl) rfl rfl rfl ?_
  refine me0 (pc' := 76) dm_X1_init_75 rfl rfl rfl rfl ?_
  refine me4 (pc' := 79) (L0 := [(0, .ref 66)]) dm_X1_init_76 rfl (g_invp (As := []) rfl rfl rfl) pm_X0_init rfl (Nat.le_of_ble_eq_true rfl) rfl rfl rfl ?_
  refine me1 (pc' := 1) dm_X0_init_0 rfl rfl rfl rfl ?_
  refine me4o (pc' := 4) dm_X0_init_1 rfl rfl (by omega) rfl rfl rfl ?_
  refine me5 dm_X0_init_4 rfl rfl rfl ?_
  refine me3 (pc' := 80) dm_X1_init_79 (g_aastr (le_ (n := 2) (u := 0) (v := 0) (j := 31) rfl rfl rfl rfl) (se (n := 2) (u := 0) (v := 0) (j := 31) rfl rfl rfl _) (le_ (n := 2) (u := 0) (v := 0) (j := 64) rfl rfl rfl rfl) rfl (by decide) (Nat.le_of_ble_eq_true rfl) (Nat.le_of_ble_eq_true rfl)) rfl rfl rfl ?_
  refine me1 (pc' := 83) (L' := [(2, .int (33 : Int32)), (0, .ref 16), (1, .ref 4)]) dm_X1_init_80 rfl rfl rfl rfl ?_
  refine me2 (pc' := 58) dm_X1_init_83 rfl rfl rfl ?_
  refine me1 (pc' := 59) dm_X1_init_58 rfl rfl rfl rfl ?_
  refine me1 (pc' := 60) dm_X1_init_59 rfl rfl rfl rfl ?_
  refine me3 (pc' := 63) dm_X1_init_60 (g_get (v := .ref 33) (le_ (n := 2) (u := 0) (v := 0) (j := 14) rfl rfl rfl rfl) rfl rfl (Nat.le_of_ble_eq_true rfl)) rfl rfl rfl ?_
  refine me3 (pc' := 64) dm_X1_init_63 (g_len (v := (64 : Int32)) (le_ (n := 2) (u := 0) (v := 0) (j := 31) rfl rfl rfl rfl) rfl rfl (Nat.le_of_ble_eq_true rfl)) rfl rfl rfl ?_
  refine me_2f (pc' := 67) dm_X1_init_64 rfl (by decide) rfl ?_
  refine me1 (pc' := 68) dm_X1_init_67 rfl rfl rfl rfl ?_
  refine me3 (pc' := 71) dm_X1_init_68 (g_get (v := .ref 33) (le_ (n := 2) (u := 0) (v := 0) (j := 14) rfl rfl rfl rfl) rfl rfl (Nat.le_of_ble_eq_true rfl)) rfl rfl rfl ?_
  refine me1 (pc' := 72) dm_X1_init_71 rfl rfl rfl rfl ?_
  refine me3 (pc' := 75) dm_X1_init_72 (g_nw (a := 67) (ne_ (n := 2) (u := 0) (v := 0) (j := 65) rfl rfl rfl rfl) (ae _) rfl) rfl rfl rfl ?_
  refine me0 (pc' := 76) dm_X1_init_75 rfl rfl rfl rfl ?_
  refine me4 (pc' := 79) (L0 := [(0, .ref 67)]) dm_X1_init_76 rfl (g_invp (As := []) rfl rfl rfl) pm_X0_init rfl (Nat.le_of_ble_eq_true rfl) rfl rfl rfl ?_
  refine me1 (pc' := 1) dm_X0_init_0 rfl rfl rfl rfl ?_
  refine me4o (pc' := 4) dm_X0_init_1 rfl rfl (by omega) rfl rfl rfl ?_
  refine me5 dm_X0_init_4 rfl rfl rfl ?_
  refine me3 (pc' := 80) dm_X1_init_79 (g_aastr (le_ (n := 2) (u := 0) (v := 0) (j := 31) rfl rfl rfl rfl) (se (n := 2) (u := 0) (v := 0) (j := 31) rfl rfl rfl _) (le_ (n := 2) (u := 0) (v := 0) (j := 65) rfl rfl rfl rfl) rfl (by decide) (Nat.le_of_ble_eq_true rfl) (Nat.le_of_ble_eq_true rfl)) rfl rfl rfl ?_
  refine me1 (pc' := 83) (L' := [(2, .int (34 : Int32)), (0, .ref 16), (1, .ref 4)]) dm_X1_init_80 rfl rfl rfl rfl ?_
  refine me2 (pc' := 58) dm_X1_init_83 rfl rfl rfl ?_
  refine me1 (pc' := 59) dm_X1_init_58 rfl rfl rfl rfl ?_
  refine me1 (pc' := 60) dm_X1_init_59 rfl rfl rfl rfl ?_
  refine me3 (pc' := 63) dm_X1_init_60 (g_get (v := .ref 33) (le_ (n := 2) (u := 0) (v := 0) (j := 14) rfl rfl rfl rfl) rfl rfl (Nat.le_of_ble_eq_true rfl)) rfl rfl rfl ?_
  refine me3 (pc' := 64) dm_X1_init_63 (g_len (v := (64 : Int32)) (le_ (n := 2) (u := 0) (v := 0) (j := 31) rfl rfl rfl rfl) rfl rfl (Nat.le_of_ble_eq_true rfl)) rfl rfl rfl ?_
  refine me_2f (pc' := 67) dm_X1_init_64 rfl (by decide) rfl ?_
  refine me1 (pc' := 68) dm_X1_init_67 rfl rfl rfl rfl ?_
  refine me3 (pc' := 71) dm_X1_init_68 (g_get (v := .ref 33) (le_ (n := 2) (u := 0) (v := 0) (j := 14) rfl rfl rfl rfl) rfl rfl (Nat.le_of_ble_eq_true rfl)) rfl rfl rfl ?_
  refine me1 (pc' := 72) dm_X1_init_71 rfl rfl rfl rfl ?_
  refine me3 (pc' := 75) dm_X1_init_72 (g_nw (a := 68) (ne_ (n := 2) (u := 0) (v := 0) (j := 66) rfl rfl rfl rfl) (ae _) rfl) rfl rfl rfl ?_
  refine me0 (pc' := 76) dm_X1_init_75 rfl rfl rfl rfl ?_
  refine me4 (pc' := 79) (L0 := [(0, .ref 68)]) dm_X1_init_76 rfl (g_invp (As := []) rfl rfl rfl) pm_X0_init rfl (Nat.le_of_ble_eq_true rfl) rfl rfl rfl ?_
  refine me1 (pc' := 1) dm_X0_init_0 rfl rfl rfl rfl ?_
  refine me4o (pc' := 4) dm_X0_init_1 rfl rfl (by omega) rfl rfl rfl ?_
  refine me5 dm_X0_init_4 rfl rfl rfl ?_
  refine me3 (pc' := 80) dm_X1_init_79 (g_aastr (le_ (n := 2) (u := 0) (v := 0) (j := 31) rfl rfl rfl rfl) (se (n := 2) (u := 0) (v := 0) (j := 31) rfl rfl rfl _) (le_ (n := 2) (u := 0) (v := 0) (j := 66) rfl rfl rfl rfl) rfl (by decide) (Nat.le_of_ble_eq_true rfl) (Nat.le_of_ble_eq_true rfl)) rfl rfl rfl ?_
  refine me1 (pc' := 83) (L' := [(2, .int (35 : Int32)), (0, .ref 16), (1, .ref 4)]) dm_X1_init_80 rfl rfl rfl rfl ?_
  refine me2 (pc' := 58) dm_X1_init_83 rfl rfl rfl ?_
  refine me1 (pc' := 59) dm_X1_init_58 rfl rfl rfl rfl ?_
  refine me1 (pc' := 60) dm_X1_init_59 rfl rfl rfl rfl ?_
  refine me3 (pc' := 63) dm_X1_init_60 (g_get (v := .ref 33) (le_ (n := 2) (u := 0) (v := 0) (j := 14) rfl rfl rfl rfl) rfl rfl (Nat.le_of_ble_eq_true rfl)) rfl rfl rfl ?_
  refine me3 (pc' := 64) dm_X1_init_63 (g_len (v := (64 : Int32)) (le_ (n := 2) (u := 0) (v := 0) (j := 31) rfl rfl rfl rfl) rfl rfl (Nat.le_of_ble_eq_true rfl)) rfl rfl rfl ?_
  refine me_2f (pc' := 67) dm_X1_init_64 rfl (by decide) rfl ?_
  refine me1 (pc' := 68) dm_X1_init_67 rfl rfl rfl rfl ?_
  refine me3 (pc' := 71) dm_X1_init_68 (g_get (v := .ref 33) (le_ (n := 2) (u := 0) (v := 0) (j := 14) rfl rfl rfl rfl) rfl rfl (Nat.le_of_ble_eq_true rfl)) rfl rfl rfl ?_
  refine me1 (pc' := 72) dm_X1_init_71 rfl rfl rfl rfl ?_
  refine me3 (pc' := 75) dm_X1_init_72 (g_nw (a := 69) (ne_ (n := 2) (u := 0) (v := 0) (j := 67) rfl rfl rfl rfl) (ae _) rfl) rfl rfl rfl ?_
  refine me0 (pc' := 76) dm_X1_init_75 rfl rfl rfl rfl ?_
  refine me4 (pc' := 79) (L0 := [(0, .ref 69)]) dm_X1_init_76 rfl (g_invp (As := []) rfl rfl rfl) pm_X0_init rfl (Nat.le_of_ble_eq_true rfl) rfl rfl rfl ?_
  refine me1 (pc' := 1) dm_X0_init_0 rfl rfl rfl rfl ?_
  refine me4o (pc' := 4) dm_X0_init_1 rfl rfl (by omega) rfl rfl rfl ?_
  refine me5 dm_X0_init_4 rfl rfl rfl ?_
  refine me3 (pc' := 80) dm_X1_init_79 (g_aastr (le_ (n := 2) (u := 0) (v := 0) (j := 31) rfl rfl rfl rfl) (se (n := 2) (u := 0) (v := 0) (j := 31) rfl rfl rfl _) (le_ (n := 2) (u := 0) (v := 0) (j := 67) rfl rfl rfl rfl) rfl (by decide) (Nat.le_of_ble_eq_true rfl) (Nat.le_of_ble_eq_true rfl)) rfl rfl rfl ?_
  refine me1 (pc' := 83) (L' := [(2, .int (36 : Int32)), (0, .ref 16), (1, .ref 4)]) dm_X1_init_80 rfl rfl rfl rfl ?_
  refine me2 (pc' := 58) dm_X1_init_83 rfl rfl rfl ?_
  refine me1 (pc' := 59) dm_X1_init_58 rfl rfl rfl rfl ?_
  refine me1 (pc' := 60) dm_X1_init_59 rfl rfl rfl rfl ?_
  refine me3 (pc' := 63) dm_X1_init_60 (g_get (v := .ref 33) (le_ (n := 2) (u := 0) (v := 0) (j := 14) rfl rfl rfl rfl) rfl rfl (Nat.le_of_ble_eq_true rfl)) rfl rfl rfl ?_
  refine me3 (pc' := 64) dm_X1_init_63 (g_len (v := (64 : Int32)) (le_ (n := 2) (u := 0) (v := 0) (j := 31) rfl rfl rfl rfl) rfl rfl (Nat.le_of_ble_eq_true rfl)) rfl rfl rfl ?_
  refine me_2f (pc' := 67) dm_X1_init_64 rfl (by decide) rfl ?_
  refine me1 (pc' := 68) dm_X1_init_67 rfl rfl rfl rfl ?_
  refine me3 (pc' := 71) dm_X1_init_68 (g_get (v := .ref 33) (le_ (n := 2) (u := 0) (v := 0) (j := 14) rfl rfl rfl rfl) rfl rfl (Nat.le_of_ble_eq_true rfl)) rfl rfl rfl ?_
  refine me1 (pc' := 72) dm_X1_init_71 rfl rfl rfl rfl ?_
  refine me3 (pc' := 75) dm_X1_init_72 (g_nw (a := 70) (ne_ (n := 2) (u := 0) (v := 0) (j := 68) rfl rfl rfl rfl) (ae _) rfl) rfl rfl rfl ?_
  refine me0 (pc' := 76) dm_X1_init_75 rfl rfl rfl rfl ?_
  refine me4 (pc' := 79) (L0 := [(0, .ref 70)]) dm_X1_init_76 rfl (g_invp (As := []) rfl rfl rfl) pm_X0_init rfl (Nat.le_of_ble_eq_true rfl) rfl rfl rfl ?_
  refine me1 (pc' := 1) dm_X0_init_0 rfl rfl rfl rfl ?_
  refine me4o (pc' := 4) dm_X0_init_1 rfl rfl (by omega) rfl rfl rfl ?_
  refine me5 dm_X0_init_4 rfl rfl rfl ?_
  refine me3 (pc' := 80) dm_X1_init_79 (g_aastr (le_ (n := 2) (u := 0) (v := 0) (j := 31) rfl rfl rfl rfl) (se (n := 2) (u := 0) (v := 0) (j := 31) rfl rfl rfl _) (le_ (n := 2) (u := 0) (v := 0) (j := 68) rfl rfl rfl rfl) rfl (by decide) (Nat.le_of_ble_eq_true rfl) (Nat.le_of_ble_eq_true rfl)) rfl rfl rfl ?_
  refine me1 (pc' := 83) (L' := [(2, .int (37 : Int32)), (0, .ref 16), (1, .ref 4)]) dm_X1_init_80 rfl rfl rfl rfl ?_
  refine me2 (pc' := 58) dm_X1_init_83 rfl rfl rfl ?_
  refine me1 (pc' := 59) dm_X1_init_58 rfl rfl rfl rfl ?_
  refine me1 (pc' := 60) dm_X1_init_59 rfl rfl rfl rfl ?_
  refine me3 (pc' := 63) dm_X1_init_60 (g_get (v := .ref 33) (le_ (n := 2) (u := 0) (v := 0) (j := 14) rfl rfl rfl rfl) rfl rfl (Nat.le_of_ble_eq_true rfl)) rfl rfl rfl ?_
  refine me3 (pc' := 64) dm_X1_init_63 (g_len (v := (64 : Int32)) (le_ (n := 2) (u := 0) (v := 0) (j := 31) rfl rfl rfl rfl) rfl rfl (Nat.le_of_ble_eq_true rfl)) rfl rfl rfl ?_
  refine me_2f (pc' := 67) dm_X1_init_64 rfl (by decide) rfl ?_
  refine me1 (pc' := 68) dm_X1_init_67 rfl rfl rfl rfl ?_
  refine me3 (pc' := 71) dm_X1_init_68 (g_get (v := .ref 33) (le_ (n := 2) (u := 0) (v := 0) (j := 14) rfl rfl rfl rfl) rfl rfl (Nat.le_of_ble_eq_true rfl)) rfl rfl rfl ?_
  refine me1 (pc' := 72) dm_X1_init_71 rfl rfl rfl rfl ?_
  refine me3 (pc' := 75) dm_X1_init_72 (g_nw (a := 71) (ne_ (n := 2) (u := 0) (v := 0) (j := 69) rfl rfl rfl rfl) (ae _) rfl) rfl rfl rfl ?_
  refine me0 (pc' := 76) dm_X1_init_75 rfl rfl rfl rfl ?_
  refine me4 (pc' := 79) (L0 := [(0, .ref 71)]) dm_X1_init_76 rfl (g_invp (As := []) rfl rfl rfl) pm_X0_init rfl (Nat.le_of_ble_eq_true rfl) rfl rfl rfl ?_
  refine me1 (pc' := 1) dm_X0_init_0 rfl rfl rfl rfl ?_
  refine me4o (pc' := 4) dm_X0_init_1 rfl rfl (by omega) rfl rfl rfl ?_
  refine me5 dm_X0_init_4 rfl rfl rfl ?_
  refine me3 (pc' := 80) dm_X1_init_79 (g_aastr (le_ (n := 2) (u := 0) (v := 0) (j := 31) rfl rfl rfl rfl) (se (n := 2) (u := 0) (v := 0) (j := 31) rfl rfl rfl _) (le_ (n := 2) (u := 0) (v := 0) (j := 69) rfl rfl rfl rfl) rfl (by decide) (Nat.le_of_ble_eq_true rfl) (Nat.le_of_ble_eq_true rfl)) rfl rfl rfl ?_
  refine me1 (pc' := 83) (L' := [(2, .int (38 : Int32)), (0, .ref 16), (1, .ref 4)]) dm_X1_init_80 rfl rfl rfl rfl ?_
  refine me2 (pc' := 58) dm_X1_init_83 rfl rfl rfl ?_
  refine me1 (pc' := 59) dm_X1_init_58 rfl rfl rfl rfl ?_
  refine me1 (pc' := 60) dm_X1_init_59 rfl rfl rfl rfl ?_
  refine me3 (pc' := 63) dm_X1_init_60 (g_get (v := .ref 33) (le_ (n := 2) (u := 0) (v := 0) (j := 14) rfl rfl rfl rfl) rfl rfl (Nat.le_of_ble_eq_true rfl)) rfl rfl rfl ?_
  refine me3 (pc' := 64) dm_X1_init_63 (g_len (v := (64 : Int32)) (le_ (n := 2) (u := 0) (v := 0) (j := 31) rfl rfl rfl rfl) rfl rfl (Nat.le_of_ble_eq_true rfl)) rfl rfl rfl ?_
  refine me_2f (pc' := 67) dm_X1_init_64 rfl (by decide) rfl ?_
  refine me1 (pc' := 68) dm_X1_init_67 rfl rfl rfl rfl ?_
  refine me3 (pc' := 71) dm_X1_init_68 (g_get (v := .ref 33) (le_ (n := 2) (u := 0) (v := 0) (j := 14) rfl rfl rfl rfl) rfl rfl (Nat.le_of_ble_eq_true rfl)) rfl rfl rfl ?_
  refine me1 (pc' := 72) dm_X1_init_71 rfl rfl rfl rfl ?_
  refine me3 (pc' := 75) dm_X1_init_72 (g_nw (a := 72) (ne_ (n := 2) (u := 0) (v := 0) (j := 70) rfl rfl rfl rfl) (ae _) rfl) rfl rfl rfl ?_
  refine me0 (pc' := 76) dm_X1_init_75 rfl rfl rfl rfl ?_
  refine me4 (pc' := 79) (L0 := [(0, .ref 72)]) dm_X1_init_76 rfl (g_invp (As := []) rfl rfl rfl) pm_X0_init rfl (Nat.le_of_ble_eq_true rfl) rfl rfl rfl ?_
  refine me1 (pc' := 1) dm_X0_init_0 rfl rfl rfl rfl ?_
  refine me4o (pc' := 4) dm_X0_init_1 rfl rfl (by omega) rfl rfl rfl ?_
  refine me5 dm_X0_init_4 rfl rfl rfl ?_
  refine me3 (pc' := 80) dm_X1_init_79 (g_aastr (le_ (n := 2) (u := 0) (v := 0) (j := 31) rfl rfl rfl rfl) (se (n := 2) (u := 0) (v := 0) (j := 31) rfl rfl rfl _) (le_ (n := 2) (u := 0) (v := 0) (j := 70) rfl rfl rfl rfl) rfl (by decide) (Nat.le_of_ble_eq_true rfl) (Nat.le_of_ble_eq_true rfl)) rfl rfl rfl ?_
  refine me1 (pc' := 83) (L' := [(2, .int (39 : Int32)), (0, .ref 16), (1, .ref 4)]) dm_X1_init_80 rfl rfl rfl rfl ?_
  refine me2 (pc' := 58) dm_X1_init_83 rfl rfl rfl ?_
  refine me1 (pc' := 59) dm_X1_init_58 rfl rfl rfl rfl ?_
  refine me1 (pc' := 60) dm_X1_init_59 rfl rfl rfl rfl ?_
  refine me3 (pc' := 63) dm_X1_init_60 (g_get (v := .ref 33) (le_ (n := 2) (u := 0) (v := 0) (j := 14) rfl rfl rfl rfl) rfl rfl (Nat.le_of_ble_eq_true rfl)) rfl rfl rfl ?_
  refine me3 (pc' := 64) dm_X1_init_63 (g_len (v := (64 : Int32)) (le_ (n := 2) (u := 0) (v := 0) (j := 31) rfl rfl rfl rfl) rfl rfl (Nat.le_of_ble_eq_true rfl)) rfl rfl rfl ?_
  refine me_2f (pc' := 67) dm_X1_init_64 rfl (by decide) rfl ?_
  refine me1 (pc' := 68) dm_X1_init_67 rfl rfl rfl rfl ?_
  refine me3 (pc' := 71) dm_X1_init_68 (g_get (v := .ref 33) (le_ (n := 2) (u := 0) (v := 0) (j := 14) rfl rfl rfl rfl) rfl rfl (Nat.le_of_ble_eq_true rfl)) rfl rfl rfl ?_
  refine me1 (pc' := 72) dm_X1_init_71 rfl rfl rfl rfl ?_
  refine me3 (pc' := 75) dm_X1_init_72 (g_nw (a := 73) (ne_ (n := 2) (u := 0) (v := 0) (j := 71) rfl rfl rfl rfl) (ae _) rfl) rfl rfl rfl ?_
  refine me0 (pc' := 76) dm_X1_init_75 rfl rfl rfl rfl ?_
  refine me4 (pc' := 79) (L0 := [(0, .ref 73)]) dm_X1_init_76 rfl (g_invp (As := []) rfl rfl rfl) pm_X0_init rfl (Nat.le_of_ble_eq_true rfl) rfl rfl rfl ?_
  refine me1 (pc' := 1) dm_X0_init_0 rfl rfl rfl rfl ?_
  refine me4o (pc' := 4) dm_X0_init_1 rfl rfl (by omega) rfl rfl rfl ?_
  refine me5 dm_X0_init_4 rfl rfl rfl ?_
  refine me3 (pc' := 80) dm_X1_init_79 (g_aastr (le_ (n := 2) (u := 0) (v := 0) (j := 31) rfl rfl rfl rfl) (se (n := 2) (u := 0) (v := 0) (j := 31) rfl rfl rfl _) (le_ (n := 2) (u := 0) (v := 0) (j := 71) rfl rfl rfl rfl) rfl (by decide) (Nat.le_of_ble_eq_true rfl) (Nat.le_of_ble_eq_true rfl)) rfl rfl rfl ?_
  refine me1 (pc' := 83) (L' := [(2, .int (40 : Int32)), (0, .ref 16), (1, .ref 4)]) dm_X1_init_80 rfl rfl rfl rfl ?_
  refine me2 (pc' := 58) dm_X1_init_83 rfl rfl rfl ?_
  refine me1 (pc' := 59) dm_X1_init_58 rfl rfl rfl rfl ?_
  refine me1 (pc' := 60) dm_X1_init_59 rfl rfl rfl rfl ?_
  refine me3 (pc' := 63) dm_X1_init_60 (g_get (v := .ref 33) (le_ (n := 2) (u := 0) (v := 0) (j := 14) rfl rfl rfl rfl) rfl rfl (Nat.le_of_ble_eq_true rfl)) rfl rfl rfl ?_
  refine me3 (pc' := 64) dm_X1_init_63 (g_len (v := (64 : Int32)) (le_ (n := 2) (u := 0) (v := 0) (j := 31) rfl rfl rfl rfl) rfl rfl (Nat.le_of_ble_eq_true rfl)) rfl rfl rfl ?_
  refine me_2f (pc' := 67) dm_X1_init_64 rfl (by decide) rfl ?_
  refine me1 (pc' := 68) dm_X1_init_67 rfl rfl rfl rfl ?_
  refine me3 (pc' := 71) dm_X1_init_68 (g_get (v := .ref 33) (le_ (n := 2) (u := 0) (v := 0) (j := 14) rfl rfl rfl rfl) rfl rfl (Nat.le_of_ble_eq_true rfl)) rfl rfl rfl ?_
  refine me1 (pc' := 72) dm_X1_init_71 rfl rfl rfl rfl ?_
  refine me3 (pc' := 75) dm_X1_init_72 (g_nw (a := 74) (ne_ (n := 2) (u := 0) (v := 0) (j := 72) rfl rfl rfl rfl) (ae _) rfl) rfl rfl rfl ?_
  refine me0 (pc' := 76) dm_X1_init_75 rfl rfl rfl rfl ?_
  refine me4 (pc' := 79) (L0 := [(0, .ref 74)]) dm_X1_init_76 rfl (g_invp (As := []) rfl rfl rfl) pm_X0_init rfl (Nat.le_of_ble_eq_true rfl) rfl rfl rfl ?_
  refine me1 (pc' := 1) dm_X0_init_0 rfl rfl rfl rfl ?_
  refine me4o (pc' := 4) dm_X0_init_1 rfl rfl (by omega) rfl rfl rfl ?_
  refine me5 dm_X0_init_4 rfl rfl rfl ?_
  refine me3 (pc' := 80) dm_X1_init_79 (g_aastr (le_ (n := 2) (u := 0) (v := 0) (j := 31) rfl rfl rfl rfl) (se (n := 2) (u := 0) (v := 0) (j := 31) rfl rfl rfl _) (le_ (n := 2) (u := 0) (v := 0) (j := 72) rfl rfl rfl rfl) rfl (by decide) (Nat.le_of_ble_eq_true rfl) (Nat.le_of_ble_eq_true rfl)) rfl rfl rfl ?_
  refine me1 (pc' := 83) (L' := [(2, .int (41 : Int32)), (0, .ref 16), (1, .ref 4)]) dm_X1_init_80 rfl rfl rfl rfl ?_
  refine me2 (pc' := 58) dm_X1_init_83 rfl rfl rfl ?_
  refine me1 (pc' := 59) dm_X1_init_58 rfl rfl rfl rfl ?_
  refine me1 (pc' := 60) dm_X1_init_59 rfl rfl rfl rfl ?_
  refine me3 (pc' := 63) dm_X1_init_60 (g_get (v := .ref 33) (le_ (n := 2) (u := 0) (v := 0) (j := 14) rfl rfl rfl rfl) rfl rfl (Nat.le_of_ble_eq_true rfl)) rfl rfl rfl ?_
  refine me3 (pc' := 64) dm_X1_init_63 (g_len (v := (64 : Int32)) (le_ (n := 2) (u := 0) (v := 0) (j := 31) rfl rfl rfl rfl) rfl rfl (Nat.le_of_ble_eq_true rfl)) rfl rfl rfl ?_
  refine me_2f (pc' := 67) dm_X1_init_64 rfl (by decide) rfl ?_
  refine me1 (pc' := 68) dm_X1_init_67 rfl rfl rfl rfl ?_
  refine me3 (pc' := 71) dm_X1_init_68 (g_get (v := .ref 33) (le_ (n := 2) (u := 0) (v := 0) (j := 14) rfl rfl rfl rfl) rfl rfl (Nat.le_of_ble_eq_true rfl)) rfl rfl rfl ?_
  refine me1 (pc' := 72) dm_X1_init_71 rfl rfl rfl rfl ?_
  refine me3 (pc' := 75) dm_X1_init_72 (g_nw (a := 75) (ne_ (n := 2) (u := 0) (v := 0) (j := 73) rfl rfl rfl rfl) (ae _) rfl) rfl rfl rfl ?_
  refine me0 (pc' := 76) dm_X1_init_75 rfl rfl rfl rfl ?_
  refine me4 (pc' := 79) (L0 := [(0, .ref 75)]) dm_X1_init_76 rfl (g_invp (As := []) rfl rfl rfl) pm_X0_init rfl (Nat.le_of_ble_eq_true rfl) rfl rfl rfl ?_
  refine me1 (pc' := 1) dm_X0_init_0 rfl rfl rfl rfl ?_
  refine me4o (pc' := 4) dm_X0_init_1 rfl rfl (by omega) rfl rfl rfl ?_
  refine me5 dm_X0_init_4 rfl rfl rfl ?_
  refine me3 (pc' := 80) dm_X1_init_79 (g_aastr (le_ (n := 2) (u := 0) (v := 0) (j := 31) rfl rfl rfl rfl) (se (n := 2) (u := 0) (v := 0) (j := 31) rfl rfl rfl _) (le_ (n := 2) (u := 0) (v := 0) (j := 73) rfl rfl rfl rfl) rfl (by decide) (Nat.le_of_ble_eq_true rfl) (Nat.le_of_ble_eq_true rfl)) rfl rfl rfl ?_
  refine me1 (pc' := 83) (L' := [(2, .int (42 : Int32)), (0, .ref 16), (1, .ref 4)]) dm_X1_init_80 rfl rfl rfl rfl ?_
  refine me2 (pc' := 58) dm_X1_init_83 rfl rfl rfl ?_
  refine me1 (pc' := 59) dm_X1_init_58 rfl rfl rfl rfl ?_
  refine me1 (pc' := 60) dm_X1_init_59 rfl rfl rfl rfl ?_
  refine me3 (pc' := 63) dm_X1_init_60 (g_get (v := .ref 33) (le_ (n := 2) (u := 0) (v := 0) (j := 14) rfl rfl rfl rfl) rfl rfl (Nat.le_of_ble_eq_true rfl)) rfl rfl rfl ?_
  refine me3 (pc' := 64) dm_X1_init_63 (g_len (v := (64 : Int32)) (le_ (n := 2) (u := 0) (v := 0) (j := 31) rfl rfl rfl rfl) rfl rfl (Nat.le_of_ble_eq_true rfl)) rfl rfl rfl ?_
  refine me_2f (pc' := 67) dm_X1_init_64 rfl (by decide) rfl ?_
  refine me1 (pc' := 68) dm_X1_init_67 rfl rfl rfl rfl ?_
  refine me3 (pc' := 71) dm_X1_init_68 (g_get (v := .ref 33) (le_ (n := 2) (u := 0) (v := 0) (j := 14) rfl rfl rfl rfl) rfl rfl (Nat.le_of_ble_eq_true rfl)) rfl rfl rfl ?_
  refine me1 (pc' := 72) dm_X1_init_71 rfl rfl rfl rfl ?_
  refine me3 (pc' := 75) dm_X1_init_72 (g_nw (a := 76) (ne_ (n := 2) (u := 0) (v := 0) (j := 74) rfl rfl rfl rfl) (ae _) rfl) rfl rfl rfl ?_
  refine me0 (pc' := 76) dm_X1_init_75 rfl rfl rfl rfl ?_
  refine me4 (pc' := 79) (L0 := [(0, .ref 76)]) dm_X1_init_76 rfl (g_invp (As := []) rfl rfl rfl) pm_X0_init rfl (Nat.le_of_ble_eq_true rfl) rfl rfl rfl ?_
  refine me1 (pc' := 1) dm_X0_init_0 rfl rfl rfl rfl ?_
  refine me4o (pc' := 4) dm_X0_init_1 rfl rfl (by omega) rfl rfl rfl ?_
  refine me5 dm_X0_init_4 rfl rfl rfl ?_
  refine me3 (pc' := 80) dm_X1_init_79 (g_aastr (le_ (n := 2) (u := 0) (v := 0) (j := 31) rfl rfl rfl rfl) (se (n := 2) (u := 0) (v := 0) (j := 31) rfl rfl rfl _) (le_ (n := 2) (u := 0) (v := 0) (j := 74) rfl rfl rfl rfl) rfl (by decide) (Nat.le_of_ble_eq_true rfl) (Nat.le_of_ble_eq_true rfl)) rfl rfl rfl ?_
  refine me1 (pc' := 83) (L' := [(2, .int (43 : Int32)), (0, .ref 16), (1, .ref 4)]) dm_X1_init_80 rfl rfl rfl rfl ?_
  refine me2 (pc' := 58) dm_X1_init_83 rfl rfl rfl ?_
  refine me1 (pc' := 59) dm_X1_init_58 rfl rfl rfl rfl ?_
  refine me1 (pc' := 60) dm_X1_init_59 rfl rfl rfl rfl ?_
  refine me3 (pc' := 63) dm_X1_init_60 (g_get (v := .ref 33) (le_ (n := 2) (u := 0) (v := 0) (j := 14) rfl rfl rfl rfl) rfl rfl (Nat.le_of_ble_eq_true rfl)) rfl rfl rfl ?_
  refine me3 (pc' := 64) dm_X1_init_63 (g_len (v := (64 : Int32)) (le_ (n := 2) (u := 0) (v := 0) (j := 31) rfl rfl rfl rfl) rfl rfl (Nat.le_of_ble_eq_true rfl)) rfl rfl rfl ?_
  refine me_2f (pc' := 67) dm_X1_init_64 rfl (by decide) rfl ?_
  refine me1 (pc' := 68) dm_X1_init_67 rfl rfl rfl rfl ?_
  refine me3 (pc' := 71) dm_X1_init_68 (g_get (v := .ref 33) (le_ (n := 2) (u := 0) (v := 0) (j := 14) rfl rfl rfl rfl) rfl rfl (Nat.le_of_ble_eq_true rfl)) rfl rfl rfl ?_
  refine me1 (pc' := 72) dm_X1_init_71 rfl rfl rfl rfl ?_
  refine me3 (pc' := 75) dm_X1_init_72 (g_nw (a := 77) (ne_ (n := 2) (u := 0) (v := 0) (j := 75) rfl rfl rfl rfl) (ae _) rfl) rfl rfl rfl ?_
  refine me0 (pc' := 76) dm_X1_init_75 rfl rfl rfl rfl ?_
  refine me4 (pc' := 79) (L0 := [(0, .ref 77)]) dm_X1_init_76 rfl (g_invp (As := []) rfl rfl rfl) pm_X0_init rfl (Nat.le_of_ble_eq_true rfl) rfl rfl rfl ?_
  refine me1 (pc' := 1) dm_X0_init_0 rfl rfl rfl rfl ?_
  refine me4o (pc' := 4) dm_X0_init_1 rfl rfl (by omega) rfl rfl rfl ?_
  refine me5 dm_X0_init_4 rfl rfl rfl ?_
  refine me3 (pc' := 80) dm_X1_init_79 (g_aastr (le_ (n := 2) (u := 0) (v := 0) (j := 31) rfl rfl rfl rfl) (se (n := 2) (u := 0) (v := 0) (j := 31) rfl rfl rfl _) (le_ (n := 2) (u := 0) (v := 0) (j := 75) rfl rfl rfl rfl) rfl (by decide) (Nat.le_of_ble_eq_true rfl) (Nat.le_of_ble_eq_true rfl)) rfl rfl rfl ?_
  refine me1 (pc' := 83) (L' := [(2, .int (44 : Int32)), (0, .ref 16), (1, .ref 4)]) dm_X1_init_80 rfl rfl rfl rfl ?_
  refine me2 (pc' := 58) dm_X1_init_83 rfl rfl rfl ?_
  refine me1 (pc' := 59) dm_X1_init_58 rfl rfl rfl rfl ?_
  refine me1 (pc' := 60) dm_X1_init_59 rfl rfl rfl rfl ?_
  refine me3 (pc' := 63) dm_X1_init_60 (g_get (v := .ref 33) (le_ (n := 2) (u := 0) (v := 0) (j := 14) rfl rfl rfl rfl) rfl rfl (Nat.le_of_ble_eq_true rfl)) rfl rfl rfl ?_
  refine me3 (pc' := 64) dm_X1_init_63 (g_len (v := (64 : Int32)) (le_ (n := 2) (u := 0) (v := 0) (j := 31) rfl rfl rfl rfl) rfl rfl (Nat.le_of_ble_eq_true rfl)) rfl rfl rfl ?_
  refine me_2f (pc' := 67) dm_X1_init_64 rfl (by decide) rfl ?_
  refine me1 (pc' := 68) dm_X1_init_67 rfl rfl rfl rfl ?_
  refine me3 (pc' := 71) dm_X1_init_68 (g_get (v := .ref 33) (le_ (n := 2) (u := 0) (v := 0) (j := 14) rfl rfl rfl rfl) rfl rfl (Nat.le_of_ble_eq_true rfl)) rfl rfl rfl ?_
  refine me1 (pc' := 72) dm_X1_init_71 rfl rfl rfl rfl ?_
  refine me3 (pc' := 75) dm_X1_init_72 (g_nw (a := 78) (ne_ (n := 2) (u := 0) (v := 0) (j := 76) rfl rfl rfl rfl) (ae _) rfl) rfl rfl rfl ?_
  refine me0 (pc' := 76) dm_X1_init_75 rfl rfl rfl rfl ?_
  refine me4 (pc' := 79) (L0 := [(0, .ref 78)]) dm_X1_init_76 rfl (g_invp (As := []) rfl rfl rfl) pm_X0_init rfl (Nat.le_of_ble_eq_true rfl) rfl rfl rfl ?_
  refine me1 (pc' := 1) dm_X0_init_0 rfl rfl rfl rfl ?_
  refine me4o (pc' := 4) dm_X0_init_1 rfl rfl (by omega) rfl rfl rfl ?_
  refine me5 dm_X0_init_4 rfl rfl rfl ?_
  refine me3 (pc' := 80) dm_X1_init_79 (g_aastr (le_ (n := 2) (u := 0) (v := 0) (j := 31) rfl rfl rfl rfl) (se (n := 2) (u := 0) (v := 0) (j := 31) rfl rfl rfl _) (le_ (n := 2) (u := 0) (v := 0) (j := 76) rfl rfl rfl rfl) rfl (by decide) (Nat.le_of_ble_eq_true rfl) (Nat.le_of_ble_eq_true rfl)) rfl rfl rfl ?_
  refine me1 (pc' := 83) (L' := [(2, .int (45 : Int32)), (0, .ref 16), (1, .ref 4)]) dm_X1_init_80 rfl rfl rfl rfl ?_
  refine me2 (pc' := 58) dm_X1_init_83 rfl rfl rfl ?_
  refine me1 (pc' := 59) dm_X1_init_58 rfl rfl rfl rfl ?_
  refine me1 (pc' := 60) dm_X1_init_59 rfl rfl rfl rfl ?_
  refine me3 (pc' := 63) dm_X1_init_60 (g_get (v := .ref 33) (le_ (n := 2) (u := 0) (v := 0) (j := 14) rfl rfl rfl rfl) rfl rfl (Nat.le_of_ble_eq_true rfl)) rfl rfl rfl ?_
  refine me3 (pc' := 64) dm_X1_init_63 (g_len (v := (64 : Int32)) (le_ (n := 2) (u := 0) (v := 0) (j := 31) rfl rfl rfl rfl) rfl rfl (Nat.le_of_ble_eq_true rfl)) rfl rfl rfl ?_
  refine me_2f (pc' := 67) dm_X1_init_64 rfl (by decide) rfl ?_
  refine me1 (pc' := 68) dm_X1_init_67 rfl rfl rfl rfl ?_
  refine me3 (pc' := 71) dm_X1_init_68 (g_get (v := .ref 33) (le_ (n := 2) (u := 0) (v := 0) (j := 14) rfl rfl rfl rfl) rfl rfl (Nat.le_of_ble_eq_true rfl)) rfl rfl rfl ?_
  refine me1 (pc' := 72) dm_X1_init_71 rfl rfl rfl rfl ?_
  refine me3 (pc' := 75) dm_X1_init_72 (g_nw (a := 79) (ne_ (n := 2) (u := 0) (v := 0) (j := 77) rfl rfl rfl rfl) (ae _) rfl) rfl rfl rfl ?_
  refine me0 (pc' := 76) dm_X1_init_75 rfl rfl rfl rfl ?_
  refine me4 (pc' := 79) (L0 := [(0, .ref 79)]) dm_X1_init_76 rfl (g_invp (As := []) rfl rfl rfl) pm_X0_init rfl (Nat.le_of_ble_eq_true rfl) rfl rfl rfl ?_
  refine me1 (pc' := 1) dm_X0_init_0 rfl rfl rfl rfl ?_
  refine me4o (pc' := 4) dm_X0_init_1 rfl rfl (by omega) rfl rfl rfl ?_
  refine me5 dm_X0_init_4 rfl rfl rfl ?_
  refine me3 (pc' := 80) dm_X1_init_79 (g_aastr (le_ (n := 2) (u := 0) (v := 0) (j := 31) rfl rfl rfl rfl) (se (n := 2) (u := 0) (v := 0) (j := 31) rfl rfl rfl _) (le_ (n := 2) (u := 0) (v := 0) (j := 77) rfl rfl rfl rfl) rfl (by decide) (Nat.le_of_ble_eq_true rfl) (Nat.le_of_ble_eq_true rfl)) rfl rfl rfl ?_
  refine me1 (pc' := 83) (L' := [(2, .int (46 : Int32)), (0, .ref 16), (1, .ref 4)]) dm_X1_init_80 rfl rfl rfl rfl ?_
  refine me2 (pc' := 58) dm_X1_init_83 rfl rfl rfl ?_
  refine me1 (pc' := 59) dm_X1_init_58 rfl rfl rfl rfl ?_
  refine me1 (pc' := 60) dm_X1_init_59 rfl rfl rfl rfl ?_
  refine me3 (pc' := 63) dm_X1_init_60 (g_get (v := .ref 33) (le_ (n := 2) (u := 0) (v := 0) (j := 14) rfl rfl rfl rfl) rfl rfl (Nat.le_of_ble_eq_true rfl)) rfl rfl rfl ?_
  refine me3 (pc' := 64) dm_X1_init_63 (g_len (v := (64 : Int32)) (le_ (n := 2) (u := 0) (v := 0) (j := 31) rfl rfl rfl rfl) rfl rfl (Nat.le_of_ble_eq_true rfl)) rfl rfl rfl ?_
  refine me_2f (pc' := 67) dm_X1_init_64 rfl (by decide) rfl ?_
  refine me1 (pc' := 68) dm_X1_init_67 rfl rfl rfl rfl ?_
  refine me3 (pc' := 71) dm_X1_init_68 (g_get (v := .ref 33) (le_ (n := 2) (u := 0) (v := 0) (j := 14) rfl rfl rfl rfl) rfl rfl (Nat.le_of_ble_eq_true rfl)) rfl rfl rfl ?_
  refine me1 (pc' := 72) dm_X1_init_71 rfl rfl rfl rfl ?_
  refine me3 (pc' := 75) dm_X1_init_72 (g_nw (a := 80) (ne_ (n := 2) (u := 0) (v := 0) (j := 78) rfl rfl rfl rfl) (ae _) rfl) rfl rfl rfl ?_
  refine me0 (pc' := 76) dm_X1_init_75 rfl rfl rfl rfl ?_
  refine me4 (pc' := 79) (L0 := [(0, .ref 80)]) dm_X1_init_76 rfl (g_invp (As := []) rfl rfl rfl) pm_X0_init rfl (Nat.le_of_ble_eq_true rfl) rfl rfl rfl ?_
  refine me1 (pc' := 1) dm_X0_init_0 rfl rfl rfl rfl ?_
  refine me4o (pc' := 4) dm_X0_init_1 rfl rfl (by omega) rfl rfl rfl ?_
  refine me5 dm_X0_init_4 rfl rfl rfl ?_
  refine me3 (pc' := 80) dm_X1_init_79 (g_aastr (le_ (n := 2) (u := 0) (v := 0) (j := 31) rfl rfl rfl rfl) (se (n := 2) (u := 0) (v := 0) (j := 31) rfl rfl rfl _) (le_ (n := 2) (u := 0) (v := 0) (j := 78) rfl rfl rfl rfl) rfl (by decide) (Nat.le_of_ble_eq_true rfl) (Nat.le_of_ble_eq_true rfl)) rfl rfl rfl ?_
  refine me1 (pc' := 83) (L' := [(2, .int (47 : Int32)), (0, .ref 16), (1, .ref 4)]) dm_X1_init_80 rfl rfl rfl rfl ?_
  refine me2 (pc' := 58) dm_X1_init_83 rfl rfl rfl ?_
  refine me1 (pc' := 59) dm_X1_init_58 rfl rfl rfl rfl ?_
  refine me1 (pc' := 60) dm_X1_init_59 rfl rfl rfl rfl ?_
  refine me3 (pc' := 63) dm_X1_init_60 (g_get (v := .ref 33) (le_ (n := 2) (u := 0) (v := 0) (j := 14) rfl rfl rfl rfl) rfl rfl (Nat.le_of_ble_eq_true rfl)) rfl rfl rfl ?_
  refine me3 (pc' := 64) dm_X1_init_63 (g_len (v := (64 : Int32)) (le_ (n := 2) (u := 0) (v := 0) (j := 31) rfl rfl rfl rfl) rfl rfl (Nat.le_of_ble_eq_true rfl)) rfl rfl rfl ?_
  refine me_2f (pc' := 67) dm_X1_init_64 rfl (by decide) rfl ?_
  refine me1 (pc' := 68) dm_X1_init_67 rfl rfl rfl rfl ?_
  refine me3 (pc' := 71) dm_X1_init_68 (g_get (v := .ref 33) (le_ (n := 2) (u := 0) (v := 0) (j := 14) rfl rfl rfl rfl) rfl rfl (Nat.le_of_ble_eq_true rfl)) rfl rfl rfl ?_
  refine me1 (pc' := 72) dm_X1_init_71 rfl rfl rfl rfl ?_
  refine me3 (pc' := 75) dm_X1_init_72 (g_nw (a := 81) (ne_ (n := 2) (u := 0) (v := 0) (j := 79) rfl rfl rfl rfl) (ae _) rfl) rfl rfl rfl ?_
  refine me0 (pc' := 76) dm_X1_init_75 rfl rfl rfl rfl ?_
  refine me4 (pc' := 79) (L0 := [(0, .ref 81)]) dm_X1_init_76 rfl (g_invp (As := []) rfl rfl rfl) pm_X0_init rfl (Nat.le_of_ble_eq_true rfl) rfl rfl rfl ?_
  refine me1 (pc' := 1) dm_X0_init_0 rfl rfl rfl rfl ?_
  refine me4o (pc' := 4) dm_X0_init_1 rfl rfl (by omega) rfl rfl rfl ?_
  refine me5 dm_X0_init_4 rfl rfl rfl ?_
  refine me3 (pc' := 80) dm_X1_init_79 (g_aastr (le_ (n := 2) (u := 0) (v := 0) (j := 31) rfl rfl rfl rfl) (se (n := 2) (u := 0) (v := 0) (j := 31) rfl rfl rfl _) (le_ (n := 2) (u := 0) (v := 0) (j := 79) rfl rfl rfl rfl) rfl (by decide) (Nat.le_of_ble_eq_true rfl) (Nat.le_of_ble_eq_true rfl)) rfl rfl rfl ?_
  refine me1 (pc' := 83) (L' := [(2, .int (48 : Int32)), (0, .ref 16), (1, .ref 4)]) dm_X1_init_80 rfl rfl rfl rfl ?_
  refine me2 (pc' := 58) dm_X1_init_83 rfl rfl rfl ?_
  refine me1 (pc' := 59) dm_X1_init_58 rfl rfl rfl rfl ?_
  refine me1 (pc' := 60) dm_X1_init_59 rfl rfl rfl rfl ?_
  refine me3 (pc' := 63) dm_X1_init_60 (g_get (v := .ref 33) (le_ (n := 2) (u := 0) (v := 0) (j := 14) rfl rfl rfl rfl) rfl rfl (Nat.le_of_ble_eq_true rfl)) rfl rfl rfl ?_
  refine me3 (pc' := 64) dm_X1_init_63 (g_len (v := (64 : Int32)) (le_ (n := 2) (u := 0) (v := 0) (j := 31) rfl rfl rfl rfl) rfl rfl (Nat.le_of_ble_eq_true rfl)) rfl rfl rfl ?_
  refine me_2f (pc' := 67) dm_X1_init_64 rfl (by decide) rfl ?_
  refine me1 (pc' := 68) dm_X1_init_67 rfl rfl rfl rfl ?_
  refine me3 (pc' := 71) dm_X1_init_68 (g_get (v := .ref 33) (le_ (n := 2) (u := 0) (v := 0) (j := 14) rfl rfl rfl rfl) rfl rfl (Nat.le_of_ble_eq_true rfl)) rfl rfl rfl ?_
  refine me1 (pc' := 72) dm_X1_init_71 rfl rfl rfl rfl ?_
  refine me3 (pc' := 75) dm_X1_init_72 (g_nw (a := 82) (ne_ (n := 2) (u := 0) (v := 0) (j := 80) rfl rfl rfl rfl) (ae _) rfl) rfl rfl rfl ?_
  refine me0 (pc' := 76) dm_X1_init_75 rfl rfl rfl rfl ?_
  refine me4 (pc' := 79) (L0 := [(0, .ref 82)]) dm_X1_init_76 rfl (g_invp (As := []) rfl rfl rfl) pm_X0_init rfl (Nat.le_of_ble_eq_true rfl) rfl rfl rfl ?_
  refine me1 (pc' := 1) dm_X0_init_0 rfl rfl rfl rfl ?_
  refine me4o (pc' := 4) dm_X0_init_1 rfl rfl (by omega) rfl rfl rfl ?_
  refine me5 dm_X0_init_4 rfl rfl rfl ?_
  refine me3 (pc' := 80) dm_X1_init_79 (g_aastr (le_ (n := 2) (u := 0) (v := 0) (j := 31) rfl rfl rfl rfl) (se (n := 2) (u := 0) (v := 0) (j := 31) rfl rfl rfl _) (le_ (n := 2) (u := 0) (v := 0) (j := 80) rfl rfl rfl rfl) rfl (by decide) (Nat.le_of_ble_eq_true rfl) (Nat.le_of_ble_eq_true rfl)) rfl rfl rfl ?_
  refine me1 (pc' := 83) (L' := [(2, .int (49 : Int32)), (0, .ref 16), (1, .ref 4)]) dm_X1_init_80 rfl rfl rfl rfl ?_
  refine me2 (pc' := 58) dm_X1_init_83 rfl rfl rfl ?_
  refine me1 (pc' := 59) dm_X1_init_58 rfl rfl rfl rfl ?_
  refine me1 (pc' := 60) dm_X1_init_59 rfl rfl rfl rfl ?_
  refine me3 (pc' := 63) dm_X1_init_60 (g_get (v := .ref 33) (le_ (n := 2) (u := 0) (v := 0) (j := 14) rfl rfl rfl rfl) rfl rfl (Nat.le_of_ble_eq_true rfl)) rfl rfl rfl ?_
  refine me3 (pc' := 64) dm_X1_init_63 (g_len (v := (64 : Int32)) (le_ (n := 2) (u := 0) (v := 0) (j := 31) rfl rfl rfl rfl) rfl rfl (Nat.le_of_ble_eq_true rfl)) rfl rfl rfl ?_
  refine me_2f (pc' := 67) dm_X1_init_64 rfl (by decide) rfl ?_
  refine me1 (pc' := 68) dm_X1_init_67 rfl rfl rfl rfl ?_
  refine me3 (pc' := 71) dm_X1_init_68 (g_get (v := .ref 33) (le_ (n := 2) (u := 0) (v := 0) (j := 14) rfl rfl rfl rfl) rfl rfl (Nat.le_of_ble_eq_true rfl)) rfl rfl rfl ?_
  refine me1 (pc' := 72) dm_X1_init_71 rfl rfl rfl rfl ?_
  refine me3 (pc' := 75) dm_X1_init_72 (g_nw (a := 83) (ne_ (n := 2) (u := 0) (v := 0) (j := 81) rfl rfl rfl rfl) (ae _) rfl) rfl rfl rfl ?_
  refine me0 (pc' := 76) dm_X1_init_75 rfl rfl rfl rfl ?_
  refine me4 (pc' := 79) (L0 := [(0, .ref 83)]) dm_X1_init_76 rfl (g_invp (As := []) rfl rfl rfl) pm_X0_init rfl (Nat.le_of_ble_eq_true rfl) rfl rfl rfl ?_
  refine me1 (pc' := 1) dm_X0_init_0 rfl rfl rfl rfl ?_
  refine me4o (pc' := 4) dm_X0_init_1 rfl rfl (by omega) rfl rfl rfl ?_
  refine me5 dm_X0_init_4 rfl rfl rfl ?_
  refine me3 (pc' := 80) dm_X1_init_79 (g_aastr (le_ (n := 2) (u := 0) (v := 0) (j := 31) rfl rfl rfl rfl) (se (n := 2) (u := 0) (v := 0) (j := 31) rfl rfl rfl _) (le_ (n := 2) (u := 0) (v := 0) (j := 81) rfl rfl rfl rfl) rfl (by decide) (Nat.le_of_ble_eq_true rfl) (Nat.le_of_ble_eq_true rfl)) rfl rfl rfl ?_
  refine me1 (pc' := 83) (L' := [(2, .int (50 : Int32)), (0, .ref 16), (1, .ref 4)]) dm_X1_init_80 rfl rfl rfl rfl ?_
  refine me2 (pc' := 58) dm_X1_init_83 rfl rfl rfl ?_
  refine me1 (pc' := 59) dm_X1_init_58 rfl rfl rfl rfl ?_
  refine me1 (pc' := 60) dm_X1_init_59 rfl rfl rfl rfl ?_
  refine me3 (pc' := 63) dm_X1_init_60 (g_get (v := .ref 33) (le_ (n := 2) (u := 0) (v := 0) (j := 14) rfl rfl rfl rfl) rfl rfl (Nat.le_of_ble_eq_true rfl)) rfl rfl rfl ?_
  refine me3 (pc' := 64) dm_X1_init_63 (g_len (v := (64 : Int32)) (le_ (n := 2) (u := 0) (v := 0) (j := 31) rfl rfl rfl rfl) rfl rfl (Nat.le_of_ble_eq_true rfl)) rfl rfl rfl ?_
  refine me_2f (pc' := 67) dm_X1_init_64 rfl (by decide) rfl ?_
  refine me1 (pc' := 68) dm_X1_init_67 rfl rfl rfl rfl ?_
  refine me3 (pc' := 71) dm_X1_init_68 (g_get (v := .ref 33) (le_ (n := 2) (u := 0) (v := 0) (j := 14) rfl rfl rfl rfl) rfl rfl (Nat.le_of_ble_eq_true rfl)) rfl rfl rfl ?_
  refine me1 (pc' := 72) dm_X1_init_71 rfl rfl rfl rfl ?_
  refine me3 (pc' := 75) dm_X1_init_72 (g_nw (a := 84) (ne_ (n := 2) (u := 0) (v := 0) (j := 82) rfl rfl rfl rfl) (ae _) rfl) rfl rfl rfl ?_
  refine me0 (pc' := 76) dm_X1_init_75 rfl rfl rfl rfl ?_
  refine me4 (pc' := 79) (L0 := [(0, .ref 84)]) dm_X1_init_76 rfl (g_invp (As := []) rfl rfl rfl) pm_X0_init rfl (Nat.le_of_ble_eq_true rfl) rfl rfl rfl ?_
  refine me1 (pc' := 1) dm_X0_init_0 rfl rfl rfl rfl ?_
  refine me4o (pc' := 4) dm_X0_init_1 rfl rfl (by omega) rfl rfl rfl ?_
  refine me5 dm_X0_init_4 rfl rfl rfl ?_
  refine me3 (pc' := 80) dm_X1_init_79 (g_aastr (le_ (n := 2) (u := 0) (v := 0) (j := 31) rfl rfl rfl rfl) (se (n := 2) (u := 0) (v := 0) (j := 31) rfl rfl rfl _) (le_ (n := 2) (u := 0) (v := 0) (j := 82) rfl rfl rfl rfl) rfl (by decide) (Nat.le_of_ble_eq_true rfl) (Nat.le_of_ble_eq_true rfl)) rfl rfl rfl ?_
  refine me1 (pc' := 83) (L' := [(2, .int (51 : Int32)), (0, .ref 16), (1, .ref 4)]) dm_X1_init_80 rfl rfl rfl rfl ?_
  refine me2 (pc' := 58) dm_X1_init_83 rfl rfl rfl ?_
  refine me1 (pc' := 59) dm_X1_init_58 rfl rfl rfl rfl ?_
  refine me1 (pc' := 60) dm_X1_init_59 rfl rfl rfl rfl ?_
  refine me3 (pc' := 63) dm_X1_init_60 (g_get (v := .ref 33) (le_ (n := 2) (u := 0) (v := 0) (j := 14) rfl rfl rfl rfl) rfl rfl (Nat.le_of_ble_eq_true rfl)) rfl rfl rfl ?_
  refine me3 (pc' := 64) dm_X1_init_63 (g_len (v := (64 : Int32)) (le_ (n := 2) (u := 0) (v := 0) (j := 31) rfl rfl rfl rfl) rfl rfl (Nat.le_of_ble_eq_true rfl)) rfl rfl rfl ?_
  refine me_2f (pc' := 67) dm_X1_init_64 rfl (by decide) rfl ?_
  refine me1 (pc' := 68) dm_X1_init_67 rfl rfl rfl rfl ?_
  refine me3 (pc' := 71) dm_X1_init_68 (g_get (v := .ref 33) (le_ (n := 2) (u := 0) (v := 0) (j := 14) rfl rfl rfl rfl) rfl rfl (Nat.le_of_ble_eq_true rfl)) rfl rfl rfl ?_
  refine me1 (pc' := 72) dm_X1_init_71 rfl rfl rfl rfl ?_
  refine me3 (pc' := 75) dm_X1_init_72 (g_nw (a := 85) (ne_ (n := 2) (u := 0) (v := 0) (j := 83) rfl rfl rfl rfl) (ae _) rfl) rfl rfl rfl ?_
  refine me0 (pc' := 76) dm_X1_init_75 rfl rfl rfl rfl ?_
  refine me4 (pc' := 79) (L0 := [(0, .ref 85)]) dm_X1_init_76 rfl (g_invp (As := []) rfl rfl rfl) pm_X0_init rfl (Nat.le_of_ble_eq_true rfl) rfl rfl rfl ?_
  refine me1 (pc' := 1) dm_X0_init_0 rfl rfl rfl rfl ?_
  refine me4o (pc' := 4) dm_X0_init_1 rfl rfl (by omega) rfl rfl rfl ?_
  refine me5 dm_X0_init_4 rfl rfl rfl ?_
  refine me3 (pc' := 80) dm_X1_init_79 (g_aastr (le_ (n := 2) (u := 0) (v := 0) (j := 31) rfl rfl rfl rfl) (se (n := 2) (u := 0) (v := 0) (j := 31) rfl rfl rfl _) (le_ (n := 2) (u := 0) (v := 0) (j := 83) rfl rfl rfl rfl) rfl (by decide) (Nat.le_of_ble_eq_true rfl) (Nat.le_of_ble_eq_true rfl)) rfl rfl rfl ?_
  refine me1 (pc' := 83) (L' := [(2, .int (52 : Int32)), (0, .ref 16), (1, .ref 4)]) dm_X1_init_80 rfl rfl rfl rfl ?_
  refine me2 (pc' := 58) dm_X1_init_83 rfl rfl rfl ?_
  refine me1 (pc' := 59) dm_X1_init_58 rfl rfl rfl rfl ?_
  refine me1 (pc' := 60) dm_X1_init_59 rfl rfl rfl rfl ?_
  refine me3 (pc' := 63) dm_X1_init_60 (g_get (v := .ref 33) (le_ (n := 2) (u := 0) (v := 0) (j := 14) rfl rfl rfl rfl) rfl rfl (Nat.le_of_ble_eq_true rfl)) rfl rfl rfl ?_
  refine me3 (pc' := 64) dm_X1_init_63 (g_len (v := (64 : Int32)) (le_ (n := 2) (u := 0) (v := 0) (j := 31) rfl rfl rfl rfl) rfl rfl (Nat.le_of_ble_eq_true rfl)) rfl rfl rfl ?_
  refine me_2f (pc' := 67) dm_X1_init_64 rfl (by decide) rfl ?_
  refine me1 (pc' := 68) dm_X1_init_67 rfl rfl rfl rfl ?_
  refine me3 (pc' := 71) dm_X1_init_68 (g_get (v := .ref 33) (le_ (n := 2) (u := 0) (v := 0) (j := 14) rfl rfl rfl rfl) rfl rfl (Nat.le_of_ble_eq_true rfl)) rfl rfl rfl ?_
  refine me1 (pc' := 72) dm_X1_init_71 rfl rfl rfl rfl ?_
  refine me3 (pc' := 75) dm_X1_init_72 (g_nw (a := 86) (ne_ (n := 2) (u := 0) (v := 0) (j := 84) rfl rfl rfl rfl) (ae _) rfl) rfl rfl rfl ?_
  refine me0 (pc' := 76) dm_X1_init_75 rfl rfl rfl rfl ?_
  refine me4 (pc' := 79) (L0 := [(0, .ref 86)]) dm_X1_init_76 rfl (g_invp (As := []) rfl rfl rfl) pm_X0_init rfl (Nat.le_of_ble_eq_true rfl) rfl rfl rfl ?_
  refine me1 (pc' := 1) dm_X0_init_0 rfl rfl rfl rfl ?_
  refine me4o (pc' := 4) dm_X0_init_1 rfl rfl (by omega) rfl rfl rfl ?_
  refine me5 dm_X0_init_4 rfl rfl rfl ?_
  refine me3 (pc' := 80) dm_X1_init_79 (g_aastr (le_ (n := 2) (u := 0) (v := 0) (j := 31) rfl rfl rfl rfl) (se (n := 2) (u := 0) (v := 0) (j := 31) rfl rfl rfl _) (le_ (n := 2) (u := 0) (v := 0) (j := 84) rfl rfl rfl rfl) rfl (by decide) (Nat.le_of_ble_eq_true rfl) (Nat.le_of_ble_eq_true rfl)) rfl rfl rfl ?_
  refine me1 (pc' := 83) (L' := [(2, .int (53 : Int32)), (0, .ref 16), (1, .ref 4)]) dm_X1_init_80 rfl rfl rfl rfl ?_
  refine me2 (pc' := 58) dm_X1_init_83 rfl rfl rfl ?_
  refine me1 (pc' := 59) dm_X1_init_58 rfl rfl rfl rfl ?_
  refine me1 (pc' := 60) dm_X1_init_59 rfl rfl rfl rfl ?_
  refine me3 (pc' := 63) dm_X1_init_60 (g_get (v := .ref 33) (le_ (n := 2) (u := 0) (v := 0) (j := 14) rfl rfl rfl rfl) rfl rfl (Nat.le_of_ble_eq_true rfl)) rfl rfl rfl ?_
  refine me3 (pc' := 64) dm_X1_init_63 (g_len (v := (64 : Int32)) (le_ (n := 2) (u := 0) (v := 0) (j := 31) rfl rfl rfl rfl) rfl rfl (Nat.le_of_ble_eq_true rfl)) rfl rfl rfl ?_
  refine me_2f (pc' := 67) dm_X1_init_64 rfl (by decide) rfl ?_
  refine me1 (pc' := 68) dm_X1_init_67 rfl rfl rfl rfl ?_
  refine me3 (pc' := 71) dm_X1_init_68 (g_get (v := .ref 33) (le_ (n := 2) (u := 0) (v := 0) (j := 14) rfl rfl rfl rfl) rfl rfl (Nat.le_of_ble_eq_true rfl)) rfl rfl rfl ?_
  refine me1 (pc' := 72) dm_X1_init_71 rfl rfl rfl rfl ?_
  refine me3 (pc' := 75) dm_X1_init_72 (g_nw (a := 87) (ne_ (n := 2) (u := 0) (v := 0) (j := 85) rfl rfl rfl rfl) (ae _) rfl) rfl rfl rfl ?_
  refine me0 (pc' := 76) dm_X1_init_75 rfl rfl rfl rfl ?_
  refine me4 (pc' := 79) (L0 := [(0, .ref 87)]) dm_X1_init_76 rfl (g_invp (As := []) rfl rfl rfl) pm_X0_init rfl (Nat.le_of_ble_eq_true rfl) rfl rfl rfl ?_
  refine me1 (pc' := 1) dm_X0_init_0 rfl rfl rfl rfl ?_
  refine me4o (pc' := 4) dm_X0_init_1 rfl rfl (by omega) rfl rfl rfl ?_
  refine me5 dm_X0_init_4 rfl rfl rfl ?_
  refine me3 (pc' := 80) dm_X1_init_79 (g_aastr (le_ (n := 2) (u := 0) (v := 0) (j := 31) rfl rfl rfl rfl) (se (n := 2) (u := 0) (v := 0) (j := 31) rfl rfl rfl _) (le_ (n := 2) (u := 0) (v := 0) (j := 85) rfl rfl rfl rfl) rfl (by decide) (Nat.le_of_ble_eq_true rfl) (Nat.le_of_ble_eq_true rfl)) rfl rfl rfl ?_
  refine me1 (pc' := 83) (L' := [(2, .int (54 : Int32)), (0, .ref 16), (1, .ref 4)]) dm_X1_init_80 rfl rfl rfl rfl ?_
  refine me2 (pc' := 58) dm_X1_init_83 rfl rfl rfl ?_
  refine me1 (pc' := 59) dm_X1_init_58 rfl rfl rfl rfl ?_
  refine me1 (pc' := 60) dm_X1_init_59 rfl rfl rfl rfl ?_
  refine me3 (pc' := 63) dm_X1_init_60 (g_get (v := .ref 33) (le_ (n := 2) (u := 0) (v := 0) (j := 14) rfl rfl rfl rfl) rfl rfl (Nat.le_of_ble_eq_true rfl)) rfl rfl rfl ?_
  refine me3 (pc' := 64) dm_X1_init_63 (g_len (v := (64 : Int32)) (le_ (n := 2) (u := 0) (v := 0) (j := 31) rfl rfl rfl rfl) rfl rfl (Nat.le_of_ble_eq_true rfl)) rfl rfl rfl ?_
  refine me_2f (pc' := 67) dm_X1_init_64 rfl (by decide) rfl ?_
  refine me1 (pc' := 68) dm_X1_init_67 rfl rfl rfl rfl ?_
  refine me3 (pc' := 71) dm_X1_init_68 (g_get (v := .ref 33) (le_ (n := 2) (u := 0) (v := 0) (j := 14) rfl rfl rfl rfl) rfl rfl (Nat.le_of_ble_eq_true rfl)) rfl rfl rfl ?_
  refine me1 (pc' := 72) dm_X1_init_71 rfl rfl rfl rfl ?_
  refine me3 (pc' := 75) dm_X1_init_72 (g_nw (a := 88) (ne_ (n := 2) (u := 0) (v := 0) (j := 86) rfl rfl rfl rfl) (ae _) rfl) rfl rfl rfl ?_
  refine me0 (pc' := 76) dm_X1_init_75 rfl rfl rfl rfl ?_
  refine me4 (pc' := 79) (L0 := [(0, .ref 88)]) dm_X1_init_76 rfl (g_invp (As := []) rfl rfl rfl) pm_X0_init rfl (Nat.le_of_ble_eq_true rfl) rfl rfl rfl ?_
  refine me1 (pc' := 1) dm_X0_init_0 rfl rfl rfl rfl ?_
  refine me4o (pc' := 4) dm_X0_init_1 rfl rfl (by omega) rfl rfl rfl ?_
  refine me5 dm_X0_init_4 rfl rfl rfl ?_
  refine me3 (pc' := 80) dm_X1_init_79 (g_aastr (le_ (n := 2) (u := 0) (v := 0) (j := 31) rfl rfl rfl rfl) (se (n := 2) (u := 0) (v := 0) (j := 31) rfl rfl rfl _) (le_ (n := 2) (u := 0) (v := 0) (j := 86) rfl rfl rfl rfl) rfl (by decide) (Nat.le_of_ble_eq_true rfl) (Nat.le_of_ble_eq_true rfl)) rfl rfl rfl ?_
  refine me1 (pc' := 83) (L' := [(2, .int (55 : Int32)), (0, .ref 16), (1, .ref 4)]) dm_X1_init_80 rfl rfl rfl rfl ?_
  refine me2 (pc' := 58) dm_X1_init_83 rfl rfl rfl ?_
  refine me1 (pc' := 59) dm_X1_init_58 rfl rfl rfl rfl ?_
  refine me1 (pc' := 60) dm_X1_init_59 rfl rfl rfl rfl ?_
  refine me3 (pc' := 63) dm_X1_init_60 (g_get (v := .ref 33) (le_ (n := 2) (u := 0) (v := 0) (j := 14) rfl rfl rfl rfl) rfl rfl (Nat.le_of_ble_eq_true rfl)) rfl rfl rfl ?_
  refine me3 (pc' := 64) dm_X1_init_63 (g_len (v := (64 : Int32)) (le_ (n := 2) (u := 0) (v := 0) (j := 31) rfl rfl rfl rfl) rfl rfl (Nat.le_of_ble_eq_true rfl)) rfl rfl rfl ?_
  refine me_2f (pc' := 67) dm_X1_init_64 rfl (by decide) rfl ?_
  refine me1 (pc' := 68) dm_X1_init_67 rfl rfl rfl rfl ?_
  refine me3 (pc' := 71) dm_X1_init_68 (g_get (v := .ref 33) (le_ (n := 2) (u := 0) (v := 0) (j := 14) rfl rfl rfl rfl) rfl rfl (Nat.le_of_ble_eq_true rfl)) rfl rfl rfl ?_
  refine me1 (pc' := 72) dm_X1_init_71 rfl rfl rfl rfl ?_
  refine me3 (pc' := 75) dm_X1_init_72 (g_nw (a := 89) (ne_ (n := 2) (u := 0) (v := 0) (j := 87) rfl rfl rfl rfl) (ae _) rfl) rfl rfl rfl ?_
  refine me0 (pc' := 76) dm_X1_init_75 rfl rfl rfl rfl ?_
  refine me4 (pc' := 79) (L0 := [(0, .ref 89)]) dm_X1_init_76 rfl (g_invp (As := []) rfl rfl rfl) pm_X0_init rfl (Nat.le_of_ble_eq_true rfl) rfl rfl rfl ?_
  refine me1 (pc' := 1) dm_X0_init_0 rfl rfl rfl rfl ?_
  refine me4o (pc' := 4) dm_X0_init_1 rfl rfl (by omega) rfl rfl rfl ?_
  refine me5 dm_X0_init_4 rfl rfl rfl ?_
  refine me3 (pc' := 80) dm_X1_init_79 (g_aastr (le_ (n := 2) (u := 0) (v := 0) (j := 31) rfl rfl rfl rfl) (se (n := 2) (u := 0) (v := 0) (j := 31) rfl rfl rfl _) (le_ (n := 2) (u := 0) (v := 0) (j := 87) rfl rfl rfl rfl) rfl (by decide) (Nat.le_of_ble_eq_true rfl) (Nat.le_of_ble_eq_true rfl)) rfl rfl rfl ?_
  refine me1 (pc' := 83) (L' := [(2, .int (56 : Int32)), (0, .ref 16), (1, .ref 4)]) dm_X1_init_80 rfl rfl rfl rfl ?_
  refine me2 (pc' := 58) dm_X1_init_83 rfl rfl rfl ?_
  refine me1 (pc' := 59) dm_X1_init_58 rfl rfl rfl rfl ?_
  refine me1 (pc' := 60) dm_X1_init_59 rfl rfl rfl rfl ?_
  refine me3 (pc' := 63) dm_X1_init_60 (g_get (v := .ref 33) (le_ (n := 2) (u := 0) (v := 0) (j := 14) rfl rfl rfl rfl) rfl rfl (Nat.le_of_ble_eq_true rfl)) rfl rfl rfl ?_
  refine me3 (pc' := 64) dm_X1_init_63 (g_len (v := (64 : Int32)) (le_ (n := 2) (u := 0) (v := 0) (j := 31) rfl rfl rfl rfl) rfl rfl (Nat.le_of_ble_eq_true rfl)) rfl rfl rfl ?_
  refine me_2f (pc' := 67) dm_X1_init_64 rfl (by decide) rfl ?_
  refine me1 (pc' := 68) dm_X1_init_67 rfl rfl rfl rfl ?_
  refine me3 (pc' := 71) dm_X1_init_68 (g_get (v := .ref 33) (le_ (n := 2) (u := 0) (v := 0) (j := 14) rfl rfl rfl rfl) rfl rfl (Nat.le_of_ble_eq_true rfl)) rfl rfl rfl ?_
  refine me1 (pc' := 72) dm_X1_init_71 rfl rfl rfl rfl ?_
  refine me3 (pc' := 75) dm_X1_init_72 (g_nw (a := 90) (ne_ (n := 2) (u := 0) (v := 0) (j := 88) rfl rfl rfl rfl) (ae _) rfl) rfl rfl rfl ?_
  refine me0 (pc' := 76) dm_X1_init_75 rfl rfl rfl rfl ?_
  refine me4 (pc' := 79) (L0 := [(0, .ref 90)]) dm_X1_init_76 rfl (g_invp (As := []) rfl rfl rfl) pm_X0_init rfl (Nat.le_of_ble_eq_true rfl) rfl rfl rfl ?_
  refine me1 (pc' := 1) dm_X0_init_0 rfl rfl rfl rfl ?_
  refine me4o (pc' := 4) dm_X0_init_1 rfl rfl (by omega) rfl rfl rfl ?_
  refine me5 dm_X0_init_4 rfl rfl rfl ?_
  refine me3 (pc' := 80) dm_X1_init_79 (g_aastr (le_ (n := 2) (u := 0) (v := 0) (j := 31) rfl rfl rfl rfl) (se (n := 2) (u := 0) (v := 0) (j := 31) rfl rfl rfl _) (le_ (n := 2) (u := 0) (v := 0) (j := 88) rfl rfl rfl rfl) rfl (by decide) (Nat.le_of_ble_eq_true rfl) (Nat.le_of_ble_eq_true rfl)) rfl rfl rfl ?_
  refine me1 (pc' := 83) (L' := [(2, .int (57 : Int32)), (0, .ref 16), (1, .ref 4)]) dm_X1_init_80 rfl rfl rfl rfl ?_
  refine me2 (pc' := 58) dm_X1_init_83 rfl rfl rfl ?_
  refine me1 (pc' := 59) dm_X1_init_58 rfl rfl rfl rfl ?_
  refine me1 (pc' := 60) dm_X1_init_59 rfl rfl rfl rfl ?_
  refine me3 (pc' := 63) dm_X1_init_60 (g_get (v := .ref 33) (le_ (n := 2) (u := 0) (v := 0) (j := 14) rfl rfl rfl rfl) rfl rfl (Nat.le_of_ble_eq_true rfl)) rfl rfl rfl ?_
  refine me3 (pc' := 64) dm_X1_init_63 (g_len (v := (64 : Int32)) (le_ (n := 2) (u := 0) (v := 0) (j := 31) rfl rfl rfl rfl) rfl rfl (Nat.le_of_ble_eq_true rfl)) rfl rfl rfl ?_
  refine me_2f (pc' := 67) dm_X1_init_64 rfl (by decide) rfl ?_
  refine me1 (pc' := 68) dm_X1_init_67 rfl rfl rfl rfl ?_
  refine me3 (pc' := 71) dm_X1_init_68 (g_get (v := .ref 33) (le_ (n := 2) (u := 0) (v := 0) (j := 14) rfl rfl rfl rfl) rfl rfl (Nat.le_of_ble_eq_true rfl)) rfl rfl rfl ?_
  refine me1 (pc' := 72) dm_X1_init_71 rfl rfl rfl rfl ?_
  refine me3 (pc' := 75) dm_X1_init_72 (g_nw (a := 91) (ne_ (n := 2) (u := 0) (v := 0) (j := 89) rfl rfl rfl rfl) (ae _) rfl) rfl rfl rfl ?_
  refine me0 (pc' := 76) dm_X1_init_75 rfl rfl rfl rfl ?_
  refine me4 (pc' := 79) (L0 := [(0, .ref 91)]) dm_X1_init_76 rfl (g_invp (As := []) rfl rfl rfl) pm_X0_init rfl (Nat.le_of_ble_eq_true rfl) rfl rfl rfl ?_
  refine me1 (pc' := 1) dm_X0_init_0 rfl rfl rfl rfl ?_
  refine me4o (pc' := 4) dm_X0_init_1 rfl rfl (by omega) rfl rfl rfl ?_
  refine me5 dm_X0_init_4 rfl rfl rfl ?_
  refine me3 (pc' := 80) dm_X1_init_79 (g_aastr (le_ (n := 2) (u := 0) (v := 0) (j := 31) rfl rfl rfl rfl) (se (n := 2) (u := 0) (v := 0) (j := 31) rfl rfl rfl _) (le_ (n := 2) (u := 0) (v := 0) (j := 89) rfl rfl rfl rfl) rfl (by decide) (Nat.le_of_ble_eq_true rfl) (Nat.le_of_ble_eq_true rfl)) rfl rfl rfl ?_
  refine me1 (pc' := 83) (L' := [(2, .int (58 : Int32)), (0, .ref 16), (1, .ref 4)]) dm_X1_init_80 rfl rfl rfl rfl ?_
  refine me2 (pc' := 58) dm_X1_init_83 rfl rfl rfl ?_
  refine me1 (pc' := 59) dm_X1_init_58 rfl rfl rfl rfl ?_
  refine me1 (pc' := 60) dm_X1_init_59 rfl rfl rfl rfl ?_
  refine me3 (pc' := 63) dm_X1_init_60 (g_get (v := .ref 33) (le_ (n := 2) (u := 0) (v := 0) (j := 14) rfl rfl rfl rfl) rfl rfl (Nat.le_of_ble_eq_true rfl)) rfl rfl rfl ?_
  refine me3 (pc' := 64) dm_X1_init_63 (g_len (v := (64 : Int32)) (le_ (n := 2) (u := 0) (v := 0) (j := 31) rfl rfl rfl rfl) rfl rfl (Nat.le_of_ble_eq_true rfl)) rfl rfl rfl ?_
  refine me_2f (pc' := 67) dm_X1_init_64 rfl (by decide) rfl ?_
  refine me1 (pc' := 68) dm_X1_init_67 rfl rfl rfl rfl ?_
  refine me3 (pc' := 71) dm_X1_init_68 (g_get (v := .ref 33) (le_ (n := 2) (u := 0) (v := 0) (j := 14) rfl rfl rfl rfl) rfl rfl (Nat.le_of_ble_eq_true rfl)) rfl rfl rfl ?_
  refine me1 (pc' := 72) dm_X1_init_71 rfl rfl rfl rfl ?_
  refine me3 (pc' := 75) dm_X1_init_72 (g_nw (a := 92) (ne_ (n := 2) (u := 0) (v := 0) (j := 90) rfl rfl rfl rfl) (ae _) rfl) rfl rfl rfl ?_
  refine me0 (pc' := 76) dm_X1_init_75 rfl rfl rfl rfl ?_
  refine me4 (pc' := 79) (L0 := [(0, .ref 92)]) dm_X1_init_76 rfl (g_invp (As := []) rfl rfl rfl) pm_X0_init rfl (Nat.le_of_ble_eq_true rfl) rfl rfl rfl ?_
  refine me1 (pc' := 1) dm_X0_init_0 rfl rfl rfl rfl ?_
  refine me4o (pc' := 4) dm_X0_init_1 rfl rfl (by omega) rfl rfl rfl ?_
  refine me5 dm_X0_init_4 rfl rfl rfl ?_
  refine me3 (pc' := 80) dm_X1_init_79 (g_aastr (le_ (n := 2) (u := 0) (v := 0) (j := 31) rfl rfl rfl rfl) (se (n := 2) (u := 0) (v := 0) (j := 31) rfl rfl rfl _) (le_ (n := 2) (u := 0) (v := 0) (j := 90) rfl rfl rfl rfl) rfl (by decide) (Nat.le_of_ble_eq_true rfl) (Nat.le_of_ble_eq_true rfl)) rfl rfl rfl ?_
  refine me1 (pc' := 83) (L' := [(2, .int (59 : Int32)), (0, .ref 16), (1, .ref 4)]) dm_X1_init_80 rfl rfl rfl rfl ?_
  refine me2 (pc' := 58) dm_X1_init_83 rfl rfl rfl ?_
  refine me1 (pc' := 59) dm_X1_init_58 rfl rfl rfl rfl ?_
  refine me1 (pc' := 60) dm_X1_init_59 rfl rfl rfl rfl ?_
  refine me3 (pc' := 63) dm_X1_init_60 (g_get (v := .ref 33) (le_ (n := 2) (u := 0) (v := 0) (j := 14) rfl rfl rfl rfl) rfl rfl (Nat.le_of_ble_eq_true rfl)) rfl rfl rfl ?_
  refine me3 (pc' := 64) dm_X1_init_63 (g_len (v := (64 : Int32)) (le_ (n := 2) (u := 0) (v := 0) (j := 31) rfl rfl rfl rfl) rfl rfl (Nat.le_of_ble_eq_true rfl)) rfl rfl rfl ?_
  refine me_2f (pc' := 67) dm_X1_init_64 rfl (by decide) rfl ?_
  refine me1 (pc' := 68) dm_X1_init_67 rfl rfl rfl rfl ?_
  refine me3 (pc' := 71) dm_X1_init_68 (g_get (v := .ref 33) (le_ (n := 2) (u := 0) (v := 0) (j := 14) rfl rfl rfl rfl) rfl rfl (Nat.le_of_ble_eq_true rfl)) rfl rfl rfl ?_
  refine me1 (pc' := 72) dm_X1_init_71 rfl rfl rfl rfl ?_
  refine me3 (pc' := 75) dm_X1_init_72 (g_nw (a := 93) (ne_ (n := 2) (u := 0) (v := 0) (j := 91) rfl rfl rfl rfl) (ae _) rfl) rfl rfl rfl ?_
  refine me0 (pc' := 76) dm_X1_init_75 rfl rfl rfl rfl ?_
  refine me4 (pc' := 79) (L0 := [(0, .ref 93)]) dm_X1_init_76 rfl (g_invp (As := []) rfl rfl rfl) pm_X0_init rfl (Nat.le_of_ble_eq_true rfl) rfl rfl rfl ?_
  refine me1 (pc' := 1) dm_X0_init_0 rfl rfl rfl rfl ?_
  refine me4o (pc' := 4) dm_X0_init_1 rfl rfl (by omega) rfl rfl rfl ?_
  refine me5 dm_X0_init_4 rfl rfl rfl ?_
  refine me3 (pc' := 80) dm_X1_init_79 (g_aastr (le_ (n := 2) (u := 0) (v := 0) (j := 31) rfl rfl rfl rfl) (se (n := 2) (u := 0) (v := 0) (j := 31) rfl rfl rfl _) (le_ (n := 2) (u := 0) (v := 0) (j := 91) rfl rfl rfl rfl) rfl (by decide) (Nat.le_of_ble_eq_true rfl) (Nat.le_of_ble_eq_true rfl)) rfl rfl rfl ?_
  refine me1 (pc' := 83) (L' := [(2, .int (60 : Int32)), (0, .ref 16), (1, .ref 4)]) dm_X1_init_80 rfl rfl rfl rfl ?_
  refine me2 (pc' := 58) dm_X1_init_83 rfl rfl rfl ?_
  refine me1 (pc' := 59) dm_X1_init_58 rfl rfl rfl rfl ?_
  refine me1 (pc' := 60) dm_X1_init_59 rfl rfl rfl rfl ?_
  refine me3 (pc' := 63) dm_X1_init_60 (g_get (v := .ref 33) (le_ (n := 2) (u := 0) (v := 0) (j := 14) rfl rfl rfl rfl) rfl rfl (Nat.le_of_ble_eq_true rfl)) rfl rfl rfl ?_
  refine me3 (pc' := 64) dm_X1_init_63 (g_len (v := (64 : Int32)) (le_ (n := 2) (u := 0) (v := 0) (j := 31) rfl rfl rfl rfl) rfl rfl (Nat.le_of_ble_eq_true rfl)) rfl rfl rfl ?_
  refine me_2f (pc' := 67) dm_X1_init_64 rfl (by decide) rfl ?_
  refine me1 (pc' := 68) dm_X1_init_67 rfl rfl rfl rfl ?_
  refine me3 (pc' := 71) dm_X1_init_68 (g_get (v := .ref 33) (le_ (n := 2) (u := 0) (v := 0) (j := 14) rfl rfl rfl rfl) rfl rfl (Nat.le_of_ble_eq_true rfl)) rfl rfl rfl ?_
  refine me1 (pc' := 72) dm_X1_init_71 rfl rfl rfl rfl ?_
  refine me3 (pc' := 75) dm_X1_init_72 (g_nw (a := 94) (ne_ (n := 2) (u := 0) (v := 0) (j := 92) rfl rfl rfl rfl) (ae _) rfl) rfl rfl rfl ?_
  refine me0 (pc' := 76) dm_X1_init_75 rfl rfl rfl rfl ?_
  refine me4 (pc' := 79) (L0 := [(0, .ref 94)]) dm_X1_init_76 rfl (g_invp (As := []) rfl rfl rfl) pm_X0_init rfl (Nat.le_of_ble_eq_true rfl) rfl rfl rfl ?_
  refine me1 (pc' := 1) dm_X0_init_0 rfl rfl rfl rfl ?_
  refine me4o (pc' := 4) dm_X0_init_1 rfl rfl (by omega) rfl rfl rfl ?_
  refine me5 dm_X0_init_4 rfl rfl rfl ?_
  refine me3 (pc' := 80) dm_X1_init_79 (g_aastr (le_ (n := 2) (u := 0) (v := 0) (j := 31) rfl rfl rfl rfl) (se (n := 2) (u := 0) (v := 0) (j := 31) rfl rfl rfl _) (le_ (n := 2) (u := 0) (v := 0) (j := 92) rfl rfl rfl rfl) rfl (by decide) (Nat.le_of_ble_eq_true rfl) (Nat.le_of_ble_eq_true rfl)) rfl rfl rfl ?_
  refine me1 (pc' := 83) (L' := [(2, .int (61 : Int32)), (0, .ref 16), (1, .ref 4)]) dm_X1_init_80 rfl rfl rfl rfl ?_
  refine me2 (pc' := 58) dm_X1_init_83 rfl rfl rfl ?_
  refine me1 (pc' := 59) dm_X1_init_58 rfl rfl rfl rfl ?_
  refine me1 (pc' := 60) dm_X1_init_59 rfl rfl rfl rfl ?_
  refine me3 (pc' := 63) dm_X1_init_60 (g_get (v := .ref 33) (le_ (n := 2) (u := 0) (v := 0) (j := 14) rfl rfl rfl rfl) rfl rfl (Nat.le_of_ble_eq_true rfl)) rfl rfl rfl ?_
  refine me3 (pc' := 64) dm_X1_init_63 (g_len (v := (64 : Int32)) (le_ (n := 2) (u := 0) (v := 0) (j := 31) rfl rfl rfl rfl) rfl rfl (Nat.le_of_ble_eq_true rfl)) rfl rfl rfl ?_
  refine me_2f (pc' := 67) dm_X1_init_64 rfl (by decide) rfl ?_
  refine me1 (pc' := 68) dm_X1_init_67 rfl rfl rfl rfl ?_
  refine me3 (pc' := 71) dm_X1_init_68 (g_get (v := .ref 33) (le_ (n := 2) (u := 0) (v := 0) (j := 14) rfl rfl rfl rfl) rfl rfl (Nat.le_of_ble_eq_true rfl)) rfl rfl rfl ?_
  refine me1 (pc' := 72) dm_X1_init_71 rfl rfl rfl rfl ?_
  refine me3 (pc' := 75) dm_X1_init_72 (g_nw (a := 95) (ne_ (n := 2) (u := 0) (v := 0) (j := 93) rfl rfl rfl rfl) (ae _) rfl) rfl rfl rfl ?_
  refine me0 (pc' := 76) dm_X1_init_75 rfl rfl rfl rfl ?_
  refine me4 (pc' := 79) (L0 := [(0, .ref 95)]) dm_X1_init_76 rfl (g_invp (As := []) rfl rfl rfl) pm_X0_init rfl (Nat.le_of_ble_eq_true rfl) rfl rfl rfl ?_
  refine me1 (pc' := 1) dm_X0_init_0 rfl rfl rfl rfl ?_
  refine me4o (pc' := 4) dm_X0_init_1 rfl rfl (by omega) rfl rfl rfl ?_
  refine me5 dm_X0_init_4 rfl rfl rfl ?_
  refine me3 (pc' := 80) dm_X1_init_79 (g_aastr (le_ (n := 2) (u := 0) (v := 0) (j := 31) rfl rfl rfl rfl) (se (n := 2) (u := 0) (v := 0) (j := 31) rfl rfl rfl _) (le_ (n := 2) (u := 0) (v := 0) (j := 93) rfl rfl rfl rfl) rfl (by decide) (Nat.le_of_ble_eq_true rfl) (Nat.le_of_ble_eq_true rfl)) rfl rfl rfl ?_
  refine me1 (pc' := 83) (L' := [(2, .int (62 : Int32)), (0, .ref 16), (1, .ref 4)]) dm_X1_init_80 rfl rfl rfl rfl ?_
  refine me2 (pc' := 58) dm_X1_init_83 rfl rfl rfl ?_
  refine me1 (pc' := 59) dm_X1_init_58 rfl rfl rfl rfl ?_
  refine me1 (pc' := 60) dm_X1_init_59 rfl rfl rfl rfl ?_
  refine me3 (pc' := 63) dm_X1_init_60 (g_get (v := .ref 33) (le_ (n := 2) (u := 0) (v := 0) (j := 14) rfl rfl rfl rfl) rfl rfl (Nat.le_of_ble_eq_true rfl)) rfl rfl rfl ?_
  refine me3 (pc' := 64) dm_X1_init_63 (g_len (v := (64 : Int32)) (le_ (n := 2) (u := 0) (v := 0) (j := 31) rfl rfl rfl rfl) rfl rfl (Nat.le_of_ble_eq_true rfl)) rfl rfl rfl ?_
  refine me_2f (pc' := 67) dm_X1_init_64 rfl (by decide) rfl ?_
  refine me1 (pc' := 68) dm_X1_init_67 rfl rfl rfl rfl ?_
  refine me3 (pc' := 71) dm_X1_init_68 (g_get (v := .ref 33) (le_ (n := 2) (u := 0) (v := 0) (j := 14) rfl rfl rfl rfl) rfl rfl (Nat.le_of_ble_eq_true rfl)) rfl rfl rfl ?_
  refine me1 (pc' := 72) dm_X1_init_71 rfl rfl rfl rfl ?_
  refine me3 (pc' := 75) dm_X1_init_72 (g_nw (a := 96) (ne_ (n := 2) (u := 0) (v := 0) (j := 94) rfl rfl rfl rfl) (ae _) rfl) rfl rfl rfl ?_
  refine me0 (pc' := 76) dm_X1_init_75 rfl rfl rfl rfl ?_
  refine me4 (pc' := 79) (L0 := [(0, .ref 96)]) dm_X1_init_76 rfl (g_invp (As := []) rfl rfl rfl) pm_X0_init rfl (Nat.le_of_ble_eq_true rfl) rfl rfl rfl ?_
  refine me1 (pc' := 1) dm_X0_init_0 rfl rfl rfl rfl ?_
  refine me4o (pc' := 4) dm_X0_init_1 rfl rfl (by omega) rfl rfl rfl ?_
  refine me5 dm_X0_init_4 rfl rfl rfl ?_
  refine me3 (pc' := 80) dm_X1_init_79 (g_aastr (le_ (n := 2) (u := 0) (v := 0) (j := 31) rfl rfl rfl rfl) (se (n := 2) (u := 0) (v := 0) (j := 31) rfl rfl rfl _) (le_ (n := 2) (u := 0) (v := 0) (j := 94) rfl rfl rfl rfl) rfl (by decide) (Nat.le_of_ble_eq_true rfl) (Nat.le_of_ble_eq_true rfl)) rfl rfl rfl ?_
  refine me1 (pc' := 83) (L' := [(2, .int (63 : Int32)), (0, .ref 16), (1, .ref 4)]) dm_X1_init_80 rfl rfl rfl rfl ?_
  refine me2 (pc' := 58) dm_X1_init_83 rfl rfl rfl ?_
  refine me1 (pc' := 59) dm_X1_init_58 rfl rfl rfl rfl ?_
  refine me1 (pc' := 60) dm_X1_init_59 rfl rfl rfl rfl ?_
  refine me3 (pc' := 63) dm_X1_init_60 (g_get (v := .ref 33) (le_ (n := 2) (u := 0) (v := 0) (j := 14) rfl rfl rfl rfl) rfl rfl (Nat.le_of_ble_eq_true rfl)) rfl rfl rfl ?_
  refine me3 (pc' := 64) dm_X1_init_63 (g_len (v := (64 : Int32)) (le_ (n := 2) (u := 0) (v := 0) (j := 31) rfl rfl rfl rfl) rfl rfl (Nat.le_of_ble_eq_true rfl)) rfl rfl rfl ?_
  refine me_2f (pc' := 67) dm_X1_init_64 rfl (by decide) rfl ?_
  refine me1 (pc' := 68) dm_X1_init_67 rfl rfl rfl rfl ?_
  refine me3 (pc' := 71) dm_X1_init_68 (g_get (v := .ref 33) (le_ (n := 2) (u := 0) (v := 0) (j := 14) rfl rfl rfl rfl) rfl rfl (Nat.le_of_ble_eq_true rfl)) rfl rfl rfl ?_
  refine me1 (pc' := 72) dm_X1_init_71 rfl rfl rfl rfl ?_
  refine me3 (pc' := 75) dm_X1_init_72 (g_nw (a := 97) (ne_ (n := 2) (u := 0) (v := 0) (j := 95) rfl rfl rfl rfl) (ae _) rfl) rfl rfl rfl ?_
  refine me0 (pc' := 76) dm_X1_init_75 rfl rfl rfl rfl ?_
  refine me4 (pc' := 79) (L0 := [(0, .ref 97)]) dm_X1_init_76 rfl (g_invp (As := []) rfl rfl rfl) pm_X0_init rfl (Nat.le_of_ble_eq_true rfl) rfl rfl rfl ?_
  refine me1 (pc' := 1) dm_X0_init_0 rfl rfl rfl rfl ?_
  refine me4o (pc' := 4) dm_X0_init_1 rfl rfl (by omega) rfl rfl rfl ?_
  refine me5 dm_X0_init_4 rfl rfl rfl ?_
  refine me3 (pc' := 80) dm_X1_init_79 (g_aastr (le_ (n := 2) (u := 0) (v := 0) (j := 31) rfl rfl rfl rfl) (se (n := 2) (u := 0) (v := 0) (j := 31) rfl rfl rfl _) (le_ (n := 2) (u := 0) (v := 0) (j := 95) rfl rfl rfl rfl) rfl (by decide) (Nat.le_of_ble_eq_true rfl) (Nat.le_of_ble_eq_true rfl)) rfl rfl rfl ?_
  refine me1 (pc' := 83) (L' := [(2, .int (64 : Int32)), (0, .ref 16), (1, .ref 4)]) dm_X1_init_80 rfl rfl rfl rfl ?_
  refine me2 (pc' := 58) dm_X1_init_83 rfl rfl rfl ?_
  refine me1 (pc' := 59) dm_X1_init_58 rfl rfl rfl rfl ?_
  refine me1 (pc' := 60) dm_X1_init_59 rfl rfl rfl rfl ?_
  refine me3 (pc' := 63) dm_X1_init_60 (g_get (v := .ref 33) (le_ (n := 2) (u := 0) (v := 0) (j := 14) rfl rfl rfl rfl) rfl rfl (Nat.le_of_ble_eq_true rfl)) rfl rfl rfl ?_
  refine me3 (pc' := 64) dm_X1_init_63 (g_len (v := (64 : Int32)) (le_ (n := 2) (u := 0) (v := 0) (j := 31) rfl rfl rfl rfl) rfl rfl (Nat.le_of_ble_eq_true rfl)) rfl rfl rfl ?_
  refine me_2t (pc' := 86) dm_X1_init_64 rfl rfl ?_
  refine me5 dm_X1_init_86 rfl rfl rfl ?_
  refine me3 (pc' := 81) dm_X11_init_78 (g_put (fs' := [.ref 3, .int (0 : Int32), .ref 4, .ref 9, .ref 13, .ref 15, .ref 16, .null, .null, .null, .int (0 : Int32), .int (0 : Int32), .int (0 : Int32)]) (le_ (n := 2) (u := 0) (v := 0) (j := 0) rfl rfl rfl rfl) rfl (se (n := 2) (u := 0) (v := 0) (j := 0) rfl rfl rfl _) rfl (Nat.le_of_ble_eq_true rfl) rfl (by decide) (fun _ => rfl) (Nat.le_of_ble_eq_true rfl)) rfl rfl rfl ?_
  refine me1 (pc' := 82) dm_X11_init_81 rfl rfl rfl rfl ?_
  refine me3 (pc' := 85) dm_X11_init_82 (g_nw (a := 98) (ne_ (n := 2) (u := 0) (v := 0) (j := 96) rfl rfl rfl rfl) (ae _) rfl) rfl rfl rfl ?_
  refine me0 (pc' := 86) dm_X11_init_85 rfl rfl rfl rfl ?_
  refine me0 (pc' := 89) (S' := .int (400 : Int32) :: _) dm_X11_init_86 rfl rfl rfl rfl ?_
  refine me4 (pc' := 92) (L0 := [(0, .ref 98), (1, .int (400 : Int32))]) dm_X11_init_89 rfl (g_invp (As := [.int (400 : Int32)]) rfl rfl rfl) pm_X6_init rfl (Nat.le_of_ble_eq_true rfl) rfl rfl rfl ?_
  refine me1 (pc' := 1) dm_X6_init_0 rfl rfl rfl rfl ?_
  refine me4o (pc' := 4) dm_X6_init_1 rfl rfl (by omega) rfl rfl rfl ?_
  refine me1 (pc' := 5) dm_X6_init_4 rfl rfl rfl rfl ?_
  refine me0 (pc' := 7) (S' := .int (20 : Int32) :: _) dm_X6_init_5 rfl rfl rfl rfl ?_
  refine me3 (pc' := 9) dm_X6_init_7 (g_nwa (a := 99) (ne_ (n := 2) (u := 0) (v := 0) (j := 97) rfl rfl rfl rfl) (ae _) rfl (by decide)) rfl rfl rfl ?_
  refine me3 (pc' := 12) dm_X6_init_9 (g_put (fs' := [.null, .ref 99, .int (0 : Int32)]) (le_ (n := 2) (u := 0) (v := 0) (j := 96) rfl rfl rfl rfl) rfl (se (n := 2) (u := 0) (v := 0) (j := 96) rfl rfl rfl _) rfl (Nat.le_of_ble_eq_true rfl) rfl (by decide) (fun _ => rfl) (Nat.le_of_ble_eq_true rfl)) rfl rfl rfl ?_
  refine me1 (pc' := 13) dm_X6_init_12 rfl rfl rfl rfl ?_
  refine me1 (pc' := 14) dm_X6_init_13 rfl rfl rfl rfl ?_
  refine me3 (pc' := 16) dm_X6_init_14 (g_nwa (a := 100) (ne_ (n := 2) (u := 0) (v := 0) (j := 98) rfl rfl rfl rfl) (ae _) rfl (by decide)) rfl rfl rfl ?_
  refine me3 (pc' := 19) dm_X6_init_16 (g_put (fs' := [.ref 100, .ref 99, .int (0 : Int32)]) (le_ (n := 2) (u := 0) (v := 0) (j := 96) rfl rfl rfl rfl) rfl (se (n := 2) (u := 0) (v := 0) (j := 96) rfl rfl rfl _) rfl (Nat.le_of_ble_eq_true rfl) rfl (by decide) (fun _ => rfl) (Nat.le_of_ble_eq_true rfl)) rfl rfl rfl ?_
  refine me5 dm_X6_init_19 rfl rfl rfl ?_
  refine me3 (pc' := 95) dm_X11_init_92 (g_put (fs' := [.ref 3, .int (0 : Int32), .ref 4, .ref 9, .ref 13, .ref 15, .ref 16, .ref 98, .null, .null, .int (0 : Int32), .int (0 : Int32), .int (0 : Int32)]) (le_ (n := 2) (u := 0) (v := 0) (j := 0) rfl rfl rfl rfl) rfl (se (n := 2) (u := 0) (v := 0) (j := 0) rfl rfl rfl _) rfl (Nat.le_of_ble_eq_true rfl) rfl (by decide) (fun _ => rfl) (Nat.le_of_ble_eq_true rfl)) rfl rfl rfl ?_
  refine me1 (pc' := 96) dm_X11_init_95 rfl rfl rfl rfl ?_
  refine me0 (pc' := 97) (S' := .long (0 : Int64) :: _) dm_X11_init_96 rfl rfl rfl rfl ?_
  refine me4 (pc' := 100) (L0 := [(0, .long (0 : Int64))]) dm_X11_init_97 rfl (g_invs (As := [.long (0 : Int64)]) rfl rfl rfl) pm_X10_number rfl (Nat.le_of_ble_eq_true rfl) rfl rfl rfl ?_
  refine me3 (pc' := 3) dm_X10_number_0 (g_nw (a := 101) (ne_ (n := 2) (u := 0) (v := 0) (j := 99) rfl rfl rfl rfl) (ae _) rfl) rfl rfl rfl ?_
  refine me0 (pc' := 4) dm_X10_number_3 rfl rfl rfl rfl ?_
  refine me0 (pc' := 5) (S' := .int (0 : Int32) :: _) dm_X10_number_4 rfl rfl rfl rfl ?_
  refine me1 (pc' := 6) dm_X10_number_5 rfl rfl rfl rfl ?_
  refine me3 (pc' := 9) (S' := .ref 1 :: _) dm_X10_number_6 rfl rfl rfl rfl ?_
  refine me0 (pc' := 10) (S' := .int (0 : Int32) :: _) dm_X10_number_9 rfl rfl rfl rfl ?_
  refine me0 (pc' := 11) (S' := .int (1 : Int32) :: _) dm_X10_number_10 rfl rfl rfl rfl ?_
  refine me0 (pc' := 12) (S' := .int (0 : Int32) :: _) dm_X10_number_11 rfl rfl rfl rfl ?_
  refine me4 (pc' := 15) (L0 := [(0, .ref 101), (1, .int (0 : Int32)), (2, .long (0 : Int64)), (4, .ref 1), (5, .int (0 : Int32)), (6, .int (1 : Int32)), (7, .int (0 : Int32))]) dm_X10_number_12 rfl (g_invp (As := [.int (0 : Int32), .long (0 : Int64), .ref 1, .int (0 : Int32), .int (1 : Int32), .int (0 : Int32)]) rfl rfl rfl) pm_X10_init rfl (Nat.le_of_ble_eq_true rfl) rfl rfl rfl ?_
  refine me1 (pc' := 1) dm_X10_init_0 rfl rfl rfl rfl ?_
  refine me4o (pc' := 4) dm_X10_init_1 rfl rfl (by omega) rfl rfl rfl ?_
  refine me1 (pc' := 5) dm_X10_init_4 rfl rfl rfl rfl ?_
  refine me1 (pc' := 6) dm_X10_init_5 rfl rfl rfl rfl ?_
  refine me3 (pc' := 9) dm_X10_init_6 (g_put (fs' := [.int (0 : Int32), .long (0 : Int64), .null, .null, .int (0 : Int32), .int (0 : Int32), .int (0 : Int32), .int (0 : Int32), .int (0 : Int32)]) (le_ (n := 2) (u := 0) (v := 0) (j := 99) rfl rfl rfl rfl) rfl (se (n := 2) (u := 0) (v := 0) (j := 99) rfl rfl rfl _) rfl (Nat.le_of_ble_eq_true rfl) rfl (by decide) (fun _ => rfl) (Nat.le_of_ble_eq_true rfl)) rfl rfl rfl ?_
  refine me1 (pc' := 10) dm_X10_init_9 rfl rfl rfl rfl ?_
  refine me1 (pc' := 11) dm_X10_init_10 rfl rfl rfl rfl ?_
  refine me3 (pc' := 14) dm_X10_init_11 (g_put (fs' := [.int (0 : Int32), .long (0 : Int64), .null, .null, .int (0 : Int32), .int (0 : Int32), .int (0 : Int32), .int (0 : Int32), .int (0 : Int32)]) (le_ (n := 2) (u := 0) (v := 0) (j := 99) rfl rfl rfl rfl) rfl (se (n := 2) (u := 0) (v := 0) (j := 99) rfl rfl rfl _) rfl (Nat.le_of_ble_eq_true rfl) rfl (by decide) (fun _ => rfl) (Nat.le_of_ble_eq_true rfl)) rfl rfl rfl ?_
  refine me1 (pc' := 15) dm_X10_init_14 rfl rfl rfl rfl ?_
  refine me1 (pc' := 17) dm_X10_init_15 rfl rfl rfl rfl ?_
  refine me3 (pc' := 20) dm_X10_init_17 (g_put (fs' := [.int (0 : Int32), .long (0 : Int64), .ref 1, .null, .int (0 : Int32), .int (0 : Int32), .int (0 : Int32), .int (0 : Int32), .int (0 : Int32)]) (le_ (n := 2) (u := 0) (v := 0) (j := 99) rfl rfl rfl rfl) rfl (se (n := 2) (u := 0) (v := 0) (j := 99) rfl rfl rfl _) rfl (Nat.le_of_ble_eq_true rfl) rfl (by decide) (fun _ => rfl) (Nat.le_of_ble_eq_true rfl)) rfl rfl rfl ?_
  refine me1 (pc' := 21) dm_X10_init_20 rfl rfl rfl rfl ?_
  refine me0 (pc' := 22) dm_X10_init_21 rfl rfl rfl rfl ?_
  refine me3 (pc' := 25) dm_X10_init_22 (g_put (fs' := [.int (0 : Int32), .long (0 : Int64), .ref 1, .null, .int (0 : Int32), .int (0 : Int32), .int (0 : Int32), .int (0 : Int32), .int (0 : Int32)]) (le_ (n := 2) (u := 0) (v := 0) (j := 99) rfl rfl rfl rfl) rfl (se (n := 2) (u := 0) (v := 0) (j := 99) rfl rfl rfl _) rfl (Nat.le_of_ble_eq_true rfl) rfl (by decide) (fun _ => rfl) (Nat.le_of_ble_eq_true rfl)) rfl rfl rfl ?_
  refine me1 (pc' := 26) dm_X10_init_25 rfl rfl rfl rfl ?_
  refine me1 (pc' := 28) dm_X10_init_26 rfl rfl rfl rfl ?_
  refine me3 (pc' := 31) dm_X10_init_28 (g_put (fs' := [.int (0 : Int32), .long (0 : Int64), .ref 1, .null, .int (0 : Int32), .int (0 : Int32), .int (0 : Int32), .int (0 : Int32), .int (0 : Int32)]) (le_ (n := 2) (u := 0) (v := 0) (j := 99) rfl rfl rfl rfl) rfl (se (n := 2) (u := 0) (v := 0) (j := 99) rfl rfl rfl _) rfl (Nat.le_of_ble_eq_true rfl) rfl (by decide) (fun _ => rfl) (Nat.le_of_ble_eq_true rfl)) rfl rfl rfl ?_
  refine me1 (pc' := 32) dm_X10_init_31 rfl rfl rfl rfl ?_
  refine me1 (pc' := 34) dm_X10_init_32 rfl rfl rfl rfl ?_
  refine me3 (pc' := 37) dm_X10_init_34 (g_put (fs' := [.int (0 : Int32), .long (0 : Int64), .ref 1, .null, .int (0 : Int32), .int (1 : Int32), .int (0 : Int32), .int (0 : Int32), .int (0 : Int32)]) (le_ (n := 2) (u := 0) (v := 0) (j := 99) rfl rfl rfl rfl) rfl (se (n := 2) (u := 0) (v := 0) (j := 99) rfl rfl rfl _) rfl (Nat.le_of_ble_eq_true rfl) rfl (by decide) (fun _ => rfl) (Nat.le_of_ble_eq_true rfl)) rfl rfl rfl ?_
  refine me1 (pc' := 38) dm_X10_init_37 rfl rfl rfl rfl ?_
  refine me1 (pc' := 40) dm_X10_init_38 rfl rfl rfl rfl ?_
  refine me3 (pc' := 43) dm_X10_init_40 (g_put (fs' := [.int (0 : Int32), .long (0 : Int64), .ref 1, .null, .int (0 : Int32), .int (1 : Int32), .int (0 : Int32), .int (0 : Int32), .int (0 : Int32)]) (le_ (n := 2) (u := 0) (v := 0) (j := 99) rfl rfl rfl rfl) rfl (se (n := 2) (u := 0) (v := 0) (j := 99) rfl rfl rfl _) rfl (Nat.le_of_ble_eq_true rfl) rfl (by decide) (fun _ => rfl) (Nat.le_of_ble_eq_true rfl)) rfl rfl rfl ?_
  refine me1 (pc' := 44) dm_X10_init_43 rfl rfl rfl rfl ?_
  refine me0 (pc' := 46) (S' := .int (6 : Int32) :: _) dm_X10_init_44 rfl rfl rfl rfl ?_
  refine me_2t (pc' := 68) dm_X10_init_46 rfl rfl ?_
  refine me1 (pc' := 69) dm_X10_init_68 rfl rfl rfl rfl ?_
  refine me0 (pc' := 70) (S' := .int (2 : Int32) :: _) dm_X10_init_69 rfl rfl rfl rfl ?_
  refine me_2t (pc' := 94) dm_X10_init_70 rfl rfl ?_
  refine me1 (pc' := 95) dm_X10_init_94 rfl rfl rfl rfl ?_
  refine me0 (pc' := 96) (S' := .int (1 : Int32) :: _) dm_X10_init_95 rfl rfl rfl rfl ?_
  refine me3 (pc' := 99) dm_X10_init_96 (g_put (fs' := [.int (0 : Int32), .long (0 : Int64), .ref 1, .null, .int (0 : Int32), .int (1 : Int32), .int (0 : Int32), .int (1 : Int32), .int (0 : Int32)]) (le_ (n := 2) (u := 0) (v := 0) (j := 99) rfl rfl rfl rfl) rfl (se (n := 2) (u := 0) (v := 0) (j := 99) rfl rfl rfl _) rfl (Nat.le_of_ble_eq_true rfl) rfl (by decide) (fun _ => rfl) (Nat.le_of_ble_eq_true rfl)) rfl rfl rfl ?_
  refine me1 (pc' := 100) dm_X10_init_99 rfl rfl rfl rfl ?_
  refine me0 (pc' := 101) (S' := .int (0 : Int32) :: _) dm_X10_init_100 rfl rfl rfl rfl ?_
  refine me3 (pc' := 104) dm_X10_init_101 (g_put (fs' := [.int (0 : Int32), .long (0 : Int64), .ref 1, .null, .int (0 : Int32), .int (1 : Int32), .int (0 : Int32), .int (1 : Int32), .int (0 : Int32)]) (le_ (n := 2) (u := 0) (v := 0) (j := 99) rfl rfl rfl rfl) rfl (se (n := 2) (u := 0) (v := 0) (j := 99) rfl rfl rfl _) rfl (Nat.le_of_ble_eq_true rfl) rfl (by decide) (fun _ => rfl) (Nat.le_of_ble_eq_true rfl)) rfl rfl rfl ?_
  refine me5 dm_X10_init_104 rfl rfl rfl ?_
  refine me5 dm_X10_number_15 rfl rfl rfl ?_
  refine me3 (pc' := 103) dm_X11_init_100 (g_put (fs' := [.ref 3, .int (0 : Int32), .ref 4, .ref 9, .ref 13, .ref 15, .ref 16, .ref 98, .ref 101, .null, .int (0 : Int32), .int (0 : Int32), .int (0 : Int32)]) (le_ (n := 2) (u := 0) (v := 0) (j := 0) rfl rfl rfl rfl) rfl (se (n := 2) (u := 0) (v := 0) (j := 0) rfl rfl rfl _) rfl (Nat.le_of_ble_eq_true rfl) rfl (by decide) (fun _ => rfl) (Nat.le_of_ble_eq_true rfl)) rfl rfl rfl ?_
  refine me1 (pc' := 104) dm_X11_init_103 rfl rfl rfl rfl ?_
  refine me1 (pc' := 105) dm_X11_init_104 rfl rfl rfl rfl ?_
  refine me3 (pc' := 108) dm_X11_init_105 (g_get (v := .ref 101) (le_ (n := 2) (u := 0) (v := 0) (j := 0) rfl rfl rfl rfl) rfl rfl (Nat.le_of_ble_eq_true rfl)) rfl rfl rfl ?_
  refine me3 (pc' := 111) dm_X11_init_108 (g_put (fs' := [.ref 3, .int (0 : Int32), .ref 4, .ref 9, .ref 13, .ref 15, .ref 16, .ref 98, .ref 101, .ref 101, .int (0 : Int32), .int (0 : Int32), .int (0 : Int32)]) (le_ (n := 2) (u := 0) (v := 0) (j := 0) rfl rfl rfl rfl) rfl (se (n := 2) (u := 0) (v := 0) (j := 0) rfl rfl rfl _) rfl (Nat.le_of_ble_eq_true rfl) rfl (by decide) (fun _ => rfl) (Nat.le_of_ble_eq_true rfl)) rfl rfl rfl ?_
  refine me1 (pc' := 112) dm_X11_init_111 rfl rfl rfl rfl ?_
  refine me0 (pc' := 113) (S' := .int (-1 : Int32) :: _) dm_X11_init_112 rfl rfl rfl rfl ?_
  refine me3 (pc' := 116) dm_X11_init_113 (g_put (fs' := [.ref 3, .int (0 : Int32), .ref 4, .ref 9, .ref 13, .ref 15, .ref 16, .ref 98, .ref 101, .ref 101, .int (0 : Int32), .int (-1 : Int32), .int (0 : Int32)]) (le_ (n := 2) (u := 0) (v := 0) (j := 0) rfl rfl rfl rfl) rfl (se (n := 2) (u := 0) (v := 0) (j := 0) rfl rfl rfl _) rfl (Nat.le_of_ble_eq_true rfl) rfl (by decide) (fun _ => rfl) (Nat.le_of_ble_eq_true rfl)) rfl rfl rfl ?_
  refine me5 dm_X11_init_116 rfl rfl rfl ?_
  refine me1 (pc' := 8) (L' := [(1, .ref 2), (0, .ref 0)]) dm_L_7 rfl rfl rfl rfl ?_
  refine me3 (pc' := 11) dm_L_8 (g_nw (a := 102) (ne_ (n := 2) (u := 0) (v := 0) (j := 100) rfl rfl rfl rfl) (ae _) rfl) rfl rfl rfl ?_
  refine me0 (pc' := 12) dm_L_11 rfl rfl rfl rfl ?_
  refine me4 (pc' := 15) (L0 := [(0, .ref 102)]) dm_L_12 rfl (g_invp (As := []) rfl rfl rfl) pm_X12_init rfl (Nat.le_of_ble_eq_true rfl) rfl rfl rfl ?_
  refine me1 (pc' := 1) dm_X12_init_0 rfl rfl rfl rfl ?_
  refine me4o (pc' := 4) dm_X12_init_1 rfl rfl (by omega) rfl rfl rfl ?_
  refine me1 (pc' := 5) dm_X12_init_4 rfl rfl rfl rfl ?_
  refine me3 (pc' := 7) (S' := .int (820000 : Int32) :: _) dm_X12_init_5 rfl rfl rfl rfl ?_
  refine me3 (pc' := 9) dm_X12_init_7 (g_nwa (a := 103) (ne_ (n := 2) (u := 0) (v := 0) (j := 101) rfl rfl rfl rfl) (ae _) rfl (by decide)) rfl rfl rfl ?_
  refine me3 (pc' := 12) dm_X12_init_9 (g_put (fs' := [.ref 103, .null, .null, .int (0 : Int32), .int (0 : Int32), .int (0 : Int32), .int (0 : Int32), .int (0 : Int32), .int (0 : Int32), .int (0 : Int32), .int (0 : Int32), .int (0 : Int32), .null, .int (0 : Int32), .null, .null, .null, .int (0 : Int32), .int (0 : Int32), .null, .null, .null, .null, .int (0 : Int32), .int (0 : Int32), .null, .null, .null, .null, .null, .int (0 : Int32), .int (0 : Int32), .null, .int (0 : Int32), .int (0 : Int32), .int (0 : Int32), .int (0 : Int32), .int (0 : Int32), .int (0 : Int32), .int (0 : Int32), .int (0 : Int32), .long (0 : Int64), .long (0 : Int64), .null, .null, .null, .null, .null, .null, .null, .int (0 : Int32), .int (0 : Int32), .int (0 : Int32), .int (0 : Int32), .int (0 : Int32), .int (0 : Int32), .long (0 : Int64), .int (0 : Int32), .int (0 : Int32), .int (0 : Int32)]) (le_ (n := 2) (u := 0) (v := 0) (j := 100) rfl rfl rfl rfl) rfl (se (n := 2) (u := 0) (v := 0) (j := 100) rfl rfl rfl _) rfl (Nat.le_of_ble_eq_true rfl) rfl (by decide) (fun _ => rfl) (Nat.le_of_ble_eq_true rfl)) rfl rfl rfl ?_
  refine me1 (pc' := 13) dm_X12_init_12 rfl rfl rfl rfl ?_
  refine me3 (pc' := 15) (S' := .int (310000 : Int32) :: _) dm_X12_init_13 rfl rfl rfl rfl ?_
  refine me3 (pc' := 17) dm_X12_init_15 (g_nwa (a := 104) (ne_ (n := 2) (u := 0) (v := 0) (j := 102) rfl rfl rfl rfl) (ae _) rfl (by decide)) rfl rfl rfl ?_
  refine me3 (pc' := 20) dm_X12_init_17 (g_put (fs' := [.ref 103, .ref 104, .null, .int (0 : Int32), .int (0 : Int32), .int (0 : Int32), .int (0 : Int32), .int (0 : Int32), .int (0 : Int32), .int (0 : Int32), .int (0 : Int32), .int (0 : Int32), .null, .int (0 : Int32), .null, .null, .null, .int (0 : Int32), .int (0 : Int32), .null, .null, .null, .null, .int (0 : Int32), .int (0 : Int32), .null, .null, .null, .null, .null, .int (0 : Int32), .int (0 : Int32), .null, .int (0 : Int32), .int (0 : Int32), .int (0 : Int32), .int (0 : Int32), .int (0 : Int32), .int (0 : Int32), .int (0 : Int32), .int (0 : Int32), .long (0 : Int64), .long (0 : Int64), .null, .null, .null, .null, .null, .null, .null, .int (0 : Int32), .int (0 : Int32), .int (0 : Int32), .int (0 : Int32), .int (0 : Int32), .int (0 : Int32), .long (0 : Int64), .int (0 : Int32), .int (0 : Int32), .int (0 : Int32)]) (le_ (n := 2) (u := 0) (v := 0) (j := 100) rfl rfl rfl rfl) rfl (se (n := 2) (u := 0) (v := 0) (j := 100) rfl rfl rfl _) rfl (Nat.le_of_ble_eq_true rfl) rfl (by decide) (fun _ => rfl) (Nat.le_of_ble_eq_true rfl)) rfl rfl rfl ?_
  refine me1 (pc' := 21) dm_X12_init_20 rfl rfl rfl rfl ?_
  refine me3 (pc' := 23) (S' := .int (310000 : Int32) :: _) dm_X12_init_21 rfl rfl rfl rfl ?_
  refine me3 (pc' := 25) dm_X12_init_23 (g_nwa (a := 105) (ne_ (n := 2) (u := 0) (v := 0) (j := 103) rfl rfl rfl rfl) (ae _) rfl (by decide)) rfl rfl rfl ?_
  refine me3 (pc' := 28) dm_X12_init_25 (g_put (fs' := [.ref 103, .ref 104, .ref 105, .int (0 : Int32), .int (0 : Int32), .int (0 : Int32), .int (0 : Int32), .int (0 : Int32), .int (0 : Int32), .int (0 : Int32), .int (0 : Int32), .int (0 : Int32), .null, .int (0 : Int32), .null, .null, .null, .int (0 : Int32), .int (0 : Int32), .null, .null, .null, .null, .int (0 : Int32), .int (0 : Int32), .null, .null, .null, .null, .null, .int (0 : Int32), .int (0 : Int32), .null, .int (0 : Int32), .int (0 : Int32), .int (0 : Int32), .int (0 : Int32), .int (0 : Int32), .int (0 : Int32), .int (0 : Int32), .int (0 : Int32), .long (0 : Int64), .long (0 : Int64), .null, .null, .null, .null, .null, .null, .null, .int (0 : Int32), .int (0 : Int32), .int (0 : Int32), .int (0 : Int32), .int (0 : Int32), .int (0 : Int32), .long (0 : Int64), .int (0 : Int32), .int (0 : Int32), .int (0 : Int32)]) (le_ (n := 2) (u := 0) (v := 0) (j := 100) rfl rfl rfl rfl) rfl (se (n := 2) (u := 0) (v := 0) (j := 100) rfl rfl rfl _) rfl (Nat.le_of_ble_eq_true rfl) rfl (by decide) (fun _ => rfl) (Nat.le_of_ble_eq_true rfl)) rfl rfl rfl ?_
  refine me1 (pc' := 29) dm_X12_init_28 rfl rfl rfl rfl ?_
  refine me0 (pc' := 30) (S' := .int (-1 : Int32) :: _) dm_X12_init_29 rfl rfl rfl rfl ?_
  refine me3 (pc' := 33) dm_X12_init_30 (g_put (fs' := [.ref 103, .ref 104, .ref 105, .int (0 : Int32), .int (0 : Int32), .int (0 : Int32), .int (-1 : Int32), .int (0 : Int32), .int (0 : Int32), .int (0 : Int32), .int (0 : Int32), .int (0 : Int32), .null, .int (0 : Int32), .null, .null, .null, .int (0 : Int32), .int (0 : Int32), .null, .null, .null, .null, .int (0 : Int32), .int (0 : Int32), .null, .null, .null, .null, .null, .int (0 : Int32), .int (0 : Int32), .null, .int (0 : Int32), .int (0 : Int32), .int (0 : Int32), .int (0 : Int32), .int (0 : Int32), .int (0 : Int32), .int (0 : Int32), .int (0 : Int32), .long (0 : Int64), .long (0 : Int64), .null, .null, .null, .null, .null, .null, .null, .int (0 : Int32), .int (0 : Int32), .int (0 : Int32), .int (0 : Int32), .int (0 : Int32), .int (0 : Int32), .long (0 : Int64), .int (0 : Int32), .int (0 : Int32), .int (0 : Int32)]) (le_ (n := 2) (u := 0) (v := 0) (j := 100) rfl rfl rfl rfl) rfl (se (n := 2) (u := 0) (v := 0) (j := 100) rfl rfl rfl _) rfl (Nat.le_of_ble_eq_true rfl) rfl (by decide) (fun _ => rfl) (Nat.le_of_ble_eq_true rfl)) rfl rfl rfl ?_
  refine me1 (pc' := 34) dm_X12_init_33 rfl rfl rfl rfl ?_
  refine me3 (pc' := 36) (S' := .int (500000 : Int32) :: _) dm_X12_init_34 rfl rfl rfl rfl ?_
  refine me3 (pc' := 39) dm_X12_init_36 (g_put (fs' := [.ref 103, .ref 104, .ref 105, .int (0 : Int32), .int (0 : Int32), .int (0 : Int32), .int (-1 : Int32), .int (0 : Int32), .int (500000 : Int32), .int (0 : Int32), .int (0 : Int32), .int (0 : Int32), .null, .int (0 : Int32), .null, .null, .null, .int (0 : Int32), .int (0 : Int32), .null, .null, .null, .null, .int (0 : Int32), .int (0 : Int32), .null, .null, .null, .null, .null, .int (0 : Int32), .int (0 : Int32), .null, .int (0 : Int32), .int (0 : Int32), .int (0 : Int32), .int (0 : Int32), .int (0 : Int32), .int (0 : Int32), .int (0 : Int32), .int (0 : Int32), .long (0 : Int64), .long (0 : Int64), .null, .null, .null, .null, .null, .null, .null, .int (0 : Int32), .int (0 : Int32), .int (0 : Int32), .int (0 : Int32), .int (0 : Int32), .int (0 : Int32), .long (0 : Int64), .int (0 : Int32), .int (0 : Int32), .int (0 : Int32)]) (le_ (n := 2) (u := 0) (v := 0) (j := 100) rfl rfl rfl rfl) rfl (se (n := 2) (u := 0) (v := 0) (j := 100) rfl rfl rfl _) rfl (Nat.le_of_ble_eq_true rfl) rfl (by decide) (fun _ => rfl) (Nat.le_of_ble_eq_true rfl)) rfl rfl rfl ?_
  refine me1 (pc' := 40) dm_X12_init_39 rfl rfl rfl rfl ?_
  refine me0 (pc' := 43) (S' := .int (8192 : Int32) :: _) dm_X12_init_40 rfl rfl rfl rfl ?_
  refine me3 (pc' := 45) dm_X12_init_43 (g_nwa (a := 106) (ne_ (n := 2) (u := 0) (v := 0) (j := 104) rfl rfl rfl rfl) (ae _) rfl (by decide)) rfl rfl rfl ?_
  refine me3 (pc' := 48) dm_X12_init_45 (g_put (fs' := [.ref 103, .ref 104, .ref 105, .int (0 : Int32), .int (0 : Int32), .int (0 : Int32), .int (-1 : Int32), .int (0 : Int32), .int (500000 : Int32), .int (0 : Int32), .int (0 : Int32), .int (0 : Int32), .ref 106, .int (0 : Int32), .null, .null, .null, .int (0 : Int32), .int (0 : Int32), .null, .null, .null, .null, .int (0 : Int32), .int (0 : Int32), .null, .null, .null, .null, .null, .int (0 : Int32), .int (0 : Int32), .null, .int (0 : Int32), .int (0 : Int32), .int (0 : Int32), .int (0 : Int32), .int (0 : Int32), .int (0 : Int32), .int (0 : Int32), .int (0 : Int32), .long (0 : Int64), .long (0 : Int64), .null, .null, .null, .null, .null, .null, .null, .int (0 : Int32), .int (0 : Int32), .int (0 : Int32), .int (0 : Int32), .int (0 : Int32), .int (0 : Int32), .long (0 : Int64), .int (0 : Int32), .int (0 : Int32), .int (0 : Int32)]) (le_ (n := 2) (u := 0) (v := 0) (j := 100) rfl rfl rfl rfl) rfl (se (n := 2) (u := 0) (v := 0) (j := 100) rfl rfl rfl _) rfl (Nat.le_of_ble_eq_true rfl) rfl (by decide) (fun _ => rfl) (Nat.le_of_ble_eq_true rfl)) rfl rfl rfl ?_
  refine me1 (pc' := 49) dm_X12_init_48 rfl rfl rfl rfl ?_
  refine me0 (pc' := 52) (S' := .int (260 : Int32) :: _) dm_X12_init_49 rfl rfl rfl rfl ?_
  refine me3 (pc' := 54) dm_X12_init_52 (g_nwa (a := 107) (ne_ (n := 2) (u := 0) (v := 0) (j := 105) rfl rfl rfl rfl) (ae _) rfl (by decide)) rfl rfl rfl ?_
  refine me3 (pc' := 57) dm_X12_init_54 (g_put (fs' := [.ref 103, .ref 104, .ref 105, .int (0 : Int32), .int (0 : Int32), .int (0 : Int32), .int (-1 : Int32), .int (0 : Int32), .int (500000 : Int32), .int (0 : Int32), .int (0 : Int32), .int (0 : Int32), .ref 106, .int (0 : Int32), .ref 107, .null, .null, .int (0 : Int32), .int (0 : Int32), .null, .null, .null, .null, .int (0 : Int32), .int (0 : Int32), .null, .null, .null, .null, .null, .int (0 : Int32), .int (0 : Int32), .null, .int (0 : Int32), .int (0 : Int32), .int (0 : Int32), .int (0 : Int32), .int (0 : Int32), .int (0 : Int32), .int (0 : Int32), .int (0 : Int32), .long (0 : Int64), .long (0 : Int64), .null, .null, .null, .null, .null, .null, .null, .int (0 : Int32), .int (0 : Int32), .int (0 : Int32), .int (0 : Int32), .int (0 : Int32), .int (0 : Int32), .long (0 : Int64), .int (0 : Int32), .int (0 : Int32), .int (0 : Int32)]) (le_ (n := 2) (u := 0) (v := 0) (j := 100) rfl rfl rfl rfl) rfl (se (n := 2) (u := 0) (v := 0) (j := 100) rfl rfl rfl _) rfl (Nat.le_of_ble_eq_true rfl) rfl (by decide) (fun _ => rfl) (Nat.le_of_ble_eq_true rfl)) rfl rfl rfl ?_
  refine me1 (pc' := 58) dm_X12_init_57 rfl rfl rfl rfl ?_
  refine me0 (pc' := 61) (S' := .int (400 : Int32) :: _) dm_X12_init_58 rfl rfl rfl rfl ?_
  refine me3 (pc' := 63) dm_X12_init_61 (g_nwa (a := 108) (ne_ (n := 2) (u := 0) (v := 0) (j := 106) rfl rfl rfl rfl) (ae _) rfl (by decide)) rfl rfl rfl ?_
  refine me3 (pc' := 66) dm_X12_init_63 (g_put (fs' := [.ref 103, .ref 104, .ref 105, .int (0 : Int32), .int (0 : Int32), .int (0 : Int32), .int (-1 : Int32), .int (0 : Int32), .int (500000 : Int32), .int (0 : Int32), .int (0 : Int32), .int (0 : Int32), .ref 106, .int (0 : Int32), .ref 107, .ref 108, .null, .int (0 : Int32), .int (0 : Int32), .null, .null, .null, .null, .int (0 : Int32), .int (0 : Int32), .null, .null, .null, .null, .null, .int (0 : Int32), .int (0 : Int32), .null, .int (0 : Int32), .int (0 : Int32), .int (0 : Int32), .int (0 : Int32), .int (0 : Int32), .int (0 : Int32), .int (0 : Int32), .int (0 : Int32), .long (0 : Int64), .long (0 : Int64), .null, .null, .null, .null, .null, .null, .null, .int (0 : Int32), .int (0 : Int32), .int (0 : Int32), .int (0 : Int32), .int (0 : Int32), .int (0 : Int32), .long (0 : Int64), .int (0 : Int32), .int (0 : Int32), .int (0 : Int32)]) (le_ (n := 2) (u := 0) (v := 0) (j := 100) rfl rfl rfl rfl) rfl (se (n := 2) (u := 0) (v := 0) (j := 100) rfl rfl rfl _) rfl (Nat.le_of_ble_eq_true rfl) rfl (by decide) (fun _ => rfl) (Nat.le_of_ble_eq_true rfl)) rfl rfl rfl ?_
  refine me1 (pc' := 67) dm_X12_init_66 rfl rfl rfl rfl ?_
  refine me0 (pc' := 70) (S' := .int (400 : Int32) :: _) dm_X12_init_67 rfl rfl rfl rfl ?_
  refine me3 (pc' := 72) dm_X12_init_70 (g_nwa (a := 109) (ne_ (n := 2) (u := 0) (v := 0) (j := 107) rfl rfl rfl rfl) (ae _) rfl (by decide)) rfl rfl rfl ?_
  refine me3 (pc' := 75) dm_X12_init_72 (g_put (fs' := [.ref 103, .ref 104, .ref 105, .int (0 : Int32), .int (0 : Int32), .int (0 : Int32), .int (-1 : Int32), .int (0 : Int32), .int (500000 : Int32), .int (0 : Int32), .int (0 : Int32), .int (0 : Int32), .ref 106, .int (0 : Int32), .ref 107, .ref 108, .ref 109, .int (0 : Int32), .int (0 : Int32), .null, .null, .null, .null, .int (0 : Int32), .int (0 : Int32), .null, .null, .null, .null, .null, .int (0 : Int32), .int (0 : Int32), .null, .int (0 : Int32), .int (0 : Int32), .int (0 : Int32), .int (0 : Int32), .int (0 : Int32), .int (0 : Int32), .int (0 : Int32), .int (0 : Int32), .long (0 : Int64), .long (0 : Int64), .null, .null, .null, .null, .null, .null, .null, .int (0 : Int32), .int (0 : Int32), .int (0 : Int32), .int (0 : Int32), .int (0 : Int32), .int (0 : Int32), .long (0 : Int64), .int (0 : Int32), .int (0 : Int32), .int (0 : Int32)]) (le_ (n := 2) (u := 0) (v := 0) (j := 100) rfl rfl rfl rfl) rfl (se (n := 2) (u := 0) (v := 0) (j := 100) rfl rfl rfl _) rfl (Nat.le_of_ble_eq_true rfl) rfl (by decide) (fun _ => rfl) (Nat.le_of_ble_eq_true rfl)) rfl rfl rfl ?_
  refine me1 (pc' := 76) dm_X12_init_75 rfl rfl rfl rfl ?_
  refine me0 (pc' := 78) (S' := .int (40 : Int32) :: _) dm_X12_init_76 rfl rfl rfl rfl ?_
  refine me3 (pc' := 80) dm_X12_init_78 (g_nwa (a := 110) (ne_ (n := 2) (u := 0) (v := 0) (j := 108) rfl rfl rfl rfl) (ae _) rfl (by decide)) rfl rfl rfl ?_
  refine me3 (pc' := 83) dm_X12_init_80 (g_put (fs' := [.ref 103, .ref 104, .ref 105, .int (0 : Int32), .int (0 : Int32), .int (0 : Int32), .int (-1 : Int32), .int (0 : Int32), .int (500000 : Int32), .int (0 : Int32), .int (0 : Int32), .int (0 : Int32), .ref 106, .int (0 : Int32), .ref 107, .ref 108, .ref 109, .int (0 : Int32), .int (0 : Int32), .ref 110, .null, .null, .null, .int (0 : Int32), .int (0 : Int32), .null, .null, .null, .null, .null, .int (0 : Int32), .int (0 : Int32), .null, .int (0 : Int32), .int (0 : Int32), .int (0 : Int32), .int (0 : Int32), .int (0 : Int32), .int (0 : Int32), .int (0 : Int32), .int (0 : Int32), .long (0 : Int64), .long (0 : Int64), .null, .null, .null, .null, .null, .null, .null, .int (0 : Int32), .int (0 : Int32), .int (0 : Int32), .int (0 : Int32), .int (0 : Int32), .int (0 : Int32), .long (0 : Int64), .int (0 : Int32), .int (0 : Int32), .int (0 : Int32)]) (le_ (n := 2) (u := 0) (v := 0) (j := 100) rfl rfl rfl rfl) rfl (se (n := 2) (u := 0) (v := 0) (j := 100) rfl rfl rfl _) rfl (Nat.le_of_ble_eq_true rfl) rfl (by decide) (fun _ => rfl) (Nat.le_of_ble_eq_true rfl)) rfl rfl rfl ?_
  refine me1 (pc' := 84) dm_X12_init_83 rfl rfl rfl rfl ?_
  refine me0 (pc' := 86) (S' := .int (40 : Int32) :: _) dm_X12_init_84 rfl rfl rfl rfl ?_
  refine me3 (pc' := 88) dm_X12_init_86 (g_nwa (a := 111) (ne_ (n := 2) (u := 0) (v := 0) (j := 109) rfl rfl rfl rfl) (ae _) rfl (by decide)) rfl rfl rfl ?_
  refine me3 (pc' := 91) dm_X12_init_88 (g_put (fs' := [.ref 103, .ref 104, .ref 105, .int (0 : Int32), .int (0 : Int32), .int (0 : Int32), .int (-1 : Int32), .int (0 : Int32), .int (500000 : Int32), .int (0 : Int32), .int (0 : Int32), .int (0 : Int32), .ref 106, .int (0 : Int32), .ref 107, .ref 108, .ref 109, .int (0 : Int32), .int (0 : Int32), .ref 110, .ref 111, .null, .null, .int (0 : Int32), .int (0 : Int32), .null, .null, .null, .null, .null, .int (0 : Int32), .int (0 : Int32), .null, .int (0 : Int32), .int (0 : Int32), .int (0 : Int32), .int (0 : Int32), .int (0 : Int32), .int (0 : Int32), .int (0 : Int32), .int (0 : Int32), .long (0 : Int64), .long (0 : Int64), .null, .null, .null, .null, .null, .null, .null, .int (0 : Int32), .int (0 : Int32), .int (0 : Int32), .int (0 : Int32), .int (0 : Int32), .int (0 : Int32), .long (0 : Int64), .int (0 : Int32), .int (0 : Int32), .int (0 : Int32)]) (le_ (n := 2) (u := 0) (v := 0) (j := 100) rfl rfl rfl rfl) rfl (se (n := 2) (u := 0) (v := 0) (j := 100) rfl rfl rfl _) rfl (Nat.le_of_ble_eq_true rfl) rfl (by decide) (fun _ => rfl) (Nat.le_of_ble_eq_true rfl)) rfl rfl rfl ?_
  refine me1 (pc' := 92) dm_X12_init_91 rfl rfl rfl rfl ?_
  refine me0 (pc' := 94) (S' := .int (40 : Int32) :: _) dm_X12_init_92 rfl rfl rfl rfl ?_
  refine me3 (pc' := 96) dm_X12_init_94 (g_nwa (a := 112) (ne_ (n := 2) (u := 0) (v := 0) (j := 110) rfl rfl rfl rfl) (ae _) rfl (by decide)) rfl rfl rfl ?_
  refine me3 (pc' := 99) dm_X12_init_96 (g_put (fs' := [.ref 103, .ref 104, .ref 105, .int (0 : Int32), .int (0 : Int32), .int (0 : Int32), .int (-1 : Int32), .int (0 : Int32), .int (500000 : Int32), .int (0 : Int32), .int (0 : Int32), .int (0 : Int32), .ref 106, .int (0 : Int32), .ref 107, .ref 108, .ref 109, .int (0 : Int32), .int (0 : Int32), .ref 110, .ref 111, .ref 112, .null, .int (0 : Int32), .int (0 : Int32), .null, .null, .null, .null, .null, .int (0 : Int32), .int (0 : Int32), .null, .int (0 : Int32), .int (0 : Int32), .int (0 : Int32), .int (0 : Int32), .int (0 : Int32), .int (0 : Int32), .int (0 : Int32), .int (0 : Int32), .long (0 : Int64), .long (0 : Int64), .null, .null, .null, .null, .null, .null, .null, .int (0 : Int32), .int (0 : Int32), .int (0 : Int32), .int (0 : Int32), .int (0 : Int32), .int (0 : Int32), .long (0 : Int64), .int (0 : Int32), .int (0 : Int32), .int (0 : Int32)]) (le_ (n := 2) (u := 0) (v := 0) (j := 100) rfl rfl rfl rfl) rfl (se (n := 2) (u := 0) (v := 0) (j := 100) rfl rfl rfl _) rfl (Nat.le_of_ble_eq_true rfl) rfl (by decide) (fun _ => rfl) (Nat.le_of_ble_eq_true rfl)) rfl rfl rfl ?_
  refine me1 (pc' := 100) dm_X12_init_99 rfl rfl rfl rfl ?_
  refine me0 (pc' := 102) (S' := .int (40 : Int32) :: _) dm_X12_init_100 rfl rfl rfl rfl ?_
  refine me3 (pc' := 104) dm_X12_init_102 (g_nwa (a := 113) (ne_ (n := 2) (u := 0) (v := 0) (j := 111) rfl rfl rfl rfl) (ae _) rfl (by decide)) rfl rfl rfl ?_
  refine me3 (pc' := 107) dm_X12_init_104 (g_put (fs' := [.ref 103, .ref 104, .ref 105, .int (0 : Int32), .int (0 : Int32), .int (0 : Int32), .int (-1 : Int32), .int (0 : Int32), .int (500000 : Int32), .int (0 : Int32), .int (0 : Int32), .int (0 : Int32), .ref 106, .int (0 : Int32), .ref 107, .ref 108, .ref 109, .int (0 : Int32), .int (0 : Int32), .ref 110, .ref 111, .ref 112, .ref 113, .int (0 : Int32), .int (0 : Int32), .null, .null, .null, .null, .null, .int (0 : Int32), .int (0 : Int32), .null, .int (0 : Int32), .int (0 : Int32), .int (0 : Int32), .int (0 : Int32), .int (0 : Int32), .int (0 : Int32), .int (0 : Int32), .int (0 : Int32), .long (0 : Int64), .long (0 : Int64), .null, .null, .null, .null, .null, .null, .null, .int (0 : Int32), .int (0 : Int32), .int (0 : Int32), .int (0 : Int32), .int (0 : Int32), .int (0 : Int32), .long (0 : Int64), .int (0 : Int32), .int (0 : Int32), .int (0 : Int32)]) (le_ (n := 2) (u := 0) (v := 0) (j := 100) rfl rfl rfl rfl) rfl (se (n := 2) (u := 0) (v := 0) (j := 100) rfl rfl rfl _) rfl (Nat.le_of_ble_eq_true rfl) rfl (by decide) (fun _ => rfl) (Nat.le_of_ble_eq_true rfl)) rfl rfl rfl ?_
  refine me1 (pc' := 108) dm_X12_init_107 rfl rfl rfl rfl ?_
  refine me0 (pc' := 111) (S' := .int (320 : Int32) :: _) dm_X12_init_108 rfl rfl rfl rfl ?_
  refine me3 (pc' := 113) dm_X12_init_111 (g_nwa (a := 114) (ne_ (n := 2) (u := 0) (v := 0) (j := 112) rfl rfl rfl rfl) (ae _) rfl (by decide)) rfl rfl rfl ?_
  refine me3 (pc' := 116) dm_X12_init_113 (g_put (fs' := [.ref 103, .ref 104, .ref 105, .int (0 : Int32), .int (0 : Int32), .int (0 : Int32), .int (-1 : Int32), .int (0 : Int32), .int (500000 : Int32), .int (0 : Int32), .int (0 : Int32), .int (0 : Int32), .ref 106, .int (0 : Int32), .ref 107, .ref 108, .ref 109, .int (0 : Int32), .int (0 : Int32), .ref 110, .ref 111, .ref 112, .ref 113, .int (0 : Int32), .int (0 : Int32), .ref 114, .null, .null, .null, .null, .int (0 : Int32), .int (0 : Int32), .null, .int (0 : Int32), .int (0 : Int32), .int (0 : Int32), .int (0 : Int32), .int (0 : Int32), .int (0 : Int32), .int (0 : Int32), .int (0 : Int32), .long (0 : Int64), .long (0 : Int64), .null, .null, .null, .null, .null, .null, .null, .int (0 : Int32), .int (0 : Int32), .int (0 : Int32), .int (0 : Int32), .int (0 : Int32), .int (0 : Int32), .long (0 : Int64), .int (0 : Int32), .int (0 : Int32), .int (0 : Int32)]) (le_ (n := 2) (u := 0) (v := 0) (j := 100) rfl rfl rfl rfl) rfl (se (n := 2) (u := 0) (v := 0) (j := 100) rfl rfl rfl _) rfl (Nat.le_of_ble_eq_true rfl) rfl (by decide) (fun _ => rfl) (Nat.le_of_ble_eq_true rfl)) rfl rfl rfl ?_
  refine me1 (pc' := 117) dm_X12_init_116 rfl rfl rfl rfl ?_
  refine me0 (pc' := 120) (S' := .int (320 : Int32) :: _) dm_X12_init_117 rfl rfl rfl rfl ?_
  refine me3 (pc' := 122) dm_X12_init_120 (g_nwa (a := 115) (ne_ (n := 2) (u := 0) (v := 0) (j := 113) rfl rfl rfl rfl) (ae _) rfl (by decide)) rfl rfl rfl ?_
  refine me3 (pc' := 125) dm_X12_init_122 (g_put (fs' := [.ref 103, .ref 104, .ref 105, .int (0 : Int32), .int (0 : Int32), .int (0 : Int32), .int (-1 : Int32), .int (0 : Int32), .int (500000 : Int32), .int (0 : Int32), .int (0 : Int32), .int (0 : Int32), .ref 106, .int (0 : Int32), .ref 107, .ref 108, .ref 109, .int (0 : Int32), .int (0 : Int32), .ref 110, .ref 111, .ref 112, .ref 113, .int (0 : Int32), .int (0 : Int32), .ref 114, .ref 115, .null, .null, .null, .int (0 : Int32), .int (0 : Int32), .null, .int (0 : Int32), .int (0 : Int32), .int (0 : Int32), .int (0 : Int32), .int (0 : Int32), .int (0 : Int32), .int (0 : Int32), .int (0 : Int32), .long (0 : Int64), .long (0 : Int64), .null, .null, .null, .null, .null, .null, .null, .int (0 : Int32), .int (0 : Int32), .int (0 : Int32), .int (0 : Int32), .int (0 : Int32), .int (0 : Int32), .long (0 : Int64), .int (0 : Int32), .int (0 : Int32), .int (0 : Int32)]) (le_ (n := 2) (u := 0) (v := 0) (j := 100) rfl rfl rfl rfl) rfl (se (n := 2) (u := 0) (v := 0) (j := 100) rfl rfl rfl _) rfl (Nat.le_of_ble_eq_true rfl) rfl (by decide) (fun _ => rfl) (Nat.le_of_ble_eq_true rfl)) rfl rfl rfl ?_
  refine me1 (pc' := 126) dm_X12_init_125 rfl rfl rfl rfl ?_
  refine me0 (pc' := 127) (S' := .int (4 : Int32) :: _) dm_X12_init_126 rfl rfl rfl rfl ?_
  refine me3 (pc' := 129) dm_X12_init_127 (g_nwa (a := 116) (ne_ (n := 2) (u := 0) (v := 0) (j := 114) rfl rfl rfl rfl) (ae _) rfl (by decide)) rfl rfl rfl ?_
  refine me3 (pc' := 132) dm_X12_init_129 (g_put (fs' := [.ref 103, .ref 104, .ref 105, .int (0 : Int32), .int (0 : Int32), .int (0 : Int32), .int (-1 : Int32), .int (0 : Int32), .int (500000 : Int32), .int (0 : Int32), .int (0 : Int32), .int (0 : Int32), .ref 106, .int (0 : Int32), .ref 107, .ref 108, .ref 109, .int (0 : Int32), .int (0 : Int32), .ref 110, .ref 111, .ref 112, .ref 113, .int (0 : Int32), .int (0 : Int32), .ref 114, .ref 115, .ref 116, .null, .null, .int (0 : Int32), .int (0 : Int32), .null, .int (0 : Int32), .int (0 : Int32), .int (0 : Int32), .int (0 : Int32), .int (0 : Int32), .int (0 : Int32), .int (0 : Int32), .int (0 : Int32), .long (0 : Int64), .long (0 : Int64), .null, .null, .null, .null, .null, .null, .null, .int (0 : Int32), .int (0 : Int32), .int (0 : Int32), .int (0 : Int32), .int (0 : Int32), .int (0 : Int32), .long (0 : Int64), .int (0 : Int32), .int (0 : Int32), .int (0 : Int32)]) (le_ (n := 2) (u := 0) (v := 0) (j := 100) rfl rfl rfl rfl) rfl (se (n := 2) (u := 0) (v := 0) (j := 100) rfl rfl rfl _) rfl (Nat.le_of_ble_eq_true rfl) rfl (by decide) (fun _ => rfl) (Nat.le_of_ble_eq_true rfl)) rfl rfl rfl ?_
  refine me1 (pc' := 133) dm_X12_init_132 rfl rfl rfl rfl ?_
  refine me0 (pc' := 134) (S' := .int (4 : Int32) :: _) dm_X12_init_133 rfl rfl rfl rfl ?_
  refine me3 (pc' := 136) dm_X12_init_134 (g_nwa (a := 117) (ne_ (n := 2) (u := 0) (v := 0) (j := 115) rfl rfl rfl rfl) (ae _) rfl (by decide)) rfl rfl rfl ?_
  refine me3 (pc' := 139) dm_X12_init_136 (g_put (fs' := [.ref 103, .ref 104, .ref 105, .int (0 : Int32), .int (0 : Int32), .int (0 : Int32), .int (-1 : Int32), .int (0 : Int32), .int (500000 : Int32), .int (0 : Int32), .int (0 : Int32), .int (0 : Int32), .ref 106, .int (0 : Int32), .ref 107, .ref 108, .ref 109, .int (0 : Int32), .int (0 : Int32), .ref 110, .ref 111, .ref 112, .ref 113, .int (0 : Int32), .int (0 : Int32), .ref 114, .ref 115, .ref 116, .ref 117, .null, .int (0 : Int32), .int (0 : Int32), .null, .int (0 : Int32), .int (0 : Int32), .int (0 : Int32), .int (0 : Int32), .int (0 : Int32), .int (0 : Int32), .int (0 : Int32), .int (0 : Int32), .long (0 : Int64), .long (0 : Int64), .null, .null, .null, .null, .null, .null, .null, .int (0 : Int32), .int (0 : Int32), .int (0 : Int32), .int (0 : Int32), .int (0 : Int32), .int (0 : Int32), .long (0 : Int64), .int (0 : Int32), .int (0 : Int32), .int (0 : Int32)]) (le_ (n := 2) (u := 0) (v := 0) (j := 100) rfl rfl rfl rfl) rfl (se (n := 2) (u := 0) (v := 0) (j := 100) rfl rfl rfl _) rfl (Nat.le_of_ble_eq_true rfl) rfl (by decide) (fun _ => rfl) (Nat.le_of_ble_eq_true rfl)) rfl rfl rfl ?_
  refine me1 (pc' := 140) dm_X12_init_139 rfl rfl rfl rfl ?_
  refine me0 (pc' := 141) (S' := .int (4 : Int32) :: _) dm_X12_init_140 rfl rfl rfl rfl ?_
  refine me3 (pc' := 143) dm_X12_init_141 (g_nwa (a := 118) (ne_ (n := 2) (u := 0) (v := 0) (j := 116) rfl rfl rfl rfl) (ae _) rfl (by decide)) rfl rfl rfl ?_
  refine me3 (pc' := 146) dm_X12_init_143 (g_put (fs' := [.ref 103, .ref 104, .ref 105, .int (0 : Int32), .int (0 : Int32), .int (0 : Int32), .int (-1 : Int32), .int (0 : Int32), .int (500000 : Int32), .int (0 : Int32), .int (0 : Int32), .int (0 : Int32), .ref 106, .int (0 : Int32), .ref 107, .ref 108, .ref 109, .int (0 : Int32), .int (0 : Int32), .ref 110, .ref 111, .ref 112, .ref 113, .int (0 : Int32), .int (0 : Int32), .ref 114, .ref 115, .ref 116, .ref 117, .ref 118, .int (0 : Int32), .int (0 : Int32), .null, .int (0 : Int32), .int (0 : Int32), .int (0 : Int32), .int (0 : Int32), .int (0 : Int32), .int (0 : Int32), .int (0 : Int32), .int (0 : Int32), .long (0 : Int64), .long (0 : Int64), .null, .null, .null, .null, .null, .null, .null, .int (0 : Int32), .int (0 : Int32), .int (0 : Int32), .int (0 : Int32), .int (0 : Int32), .int (0 : Int32), .long (0 : Int64), .int (0 : Int32), .int (0 : Int32), .int (0 : Int32)]) (le_ (n := 2) (u := 0) (v := 0) (j := 100) rfl rfl rfl rfl) rfl (se (n := 2) (u := 0) (v := 0) (j := 100) rfl rfl rfl _) rfl (Nat.le_of_ble_eq_true rfl) rfl (by decide) (fun _ => rfl) (Nat.le_of_ble_eq_true rfl)) rfl rfl rfl ?_
  refine me1 (pc' := 147) dm_X12_init_146 rfl rfl rfl rfl ?_
  refine me0 (pc' := 150) (S' := .int (220 : Int32) :: _) dm_X12_init_147 rfl rfl rfl rfl ?_
  refine me3 (pc' := 152) dm_X12_init_150 (g_nwa (a := 119) (ne_ (n := 2) (u := 0) (v := 0) (j := 117) rfl rfl rfl rfl) (ae _) rfl (by decide)) rfl rfl rfl ?_
  refine me3 (pc' := 155) dm_X12_init_152 (g_put (fs' := [.ref 103, .ref 104, .ref 105, .int (0 : Int32), .int (0 : Int32), .int (0 : Int32), .int (-1 : Int32), .int (0 : Int32), .int (500000 : Int32), .int (0 : Int32), .int (0 : Int32), .int (0 : Int32), .ref 106, .int (0 : Int32), .ref 107, .ref 108, .ref 109, .int (0 : Int32), .int (0 : Int32), .ref 110, .ref 111, .ref 112, .ref 113, .int (0 : Int32), .int (0 : Int32), .ref 114, .ref 115, .ref 116, .ref 117, .ref 118, .int (0 : Int32), .int (0 : Int32), .ref 119, .int (0 : Int32), .int (0 : Int32), .int (0 : Int32), .int (0 : Int32), .int (0 : Int32), .int (0 : Int32), .int (0 : Int32), .int (0 : Int32), .long (0 : Int64), .long (0 : Int64), .null, .null, .null, .null, .null, .null, .null, .int (0 : Int32), .int (0 : Int32), .int (0 : Int32), .int (0 : Int32), .int (0 : Int32), .int (0 : Int32), .long (0 : Int64), .int (0 : Int32), .int (0 : Int32), .int (0 : Int32)]) (le_ (n := 2) (u := 0) (v := 0) (j := 100) rfl rfl rfl rfl) rfl (se (n := 2) (u := 0) (v := 0) (j := 100) rfl rfl rfl _) rfl (Nat.le_of_ble_eq_true rfl) rfl (by decide) (fun _ => rfl) (Nat.le_of_ble_eq_true rfl)) rfl rfl rfl ?_
  refine me1 (pc' := 156) dm_X12_init_155 rfl rfl rfl rfl ?_
  refine me3 (pc' := 158) (S' := .int (84000 : Int32) :: _) dm_X12_init_156 rfl rfl rfl rfl ?_
  refine me3 (pc' := 160) dm_X12_init_158 (g_nwa (a := 120) (ne_ (n := 2) (u := 0) (v := 0) (j := 118) rfl rfl rfl rfl) (ae _) rfl (by decide)) rfl rfl rfl ?_
  refine me3 (pc' := 163) dm_X12_init_160 (g_put (fs' := [.ref 103, .ref 104, .ref 105, .int (0 : Int32), .int (0 : Int32), .int (0 : Int32), .int (-1 : Int32), .int (0 : Int32), .int (500000 : Int32), .int (0 : Int32), .int (0 : Int32), .int (0 : Int32), .ref 106, .int (0 : Int32), .ref 107, .ref 108, .ref 109, .int (0 : Int32), .int (0 : Int32), .ref 110, .ref 111, .ref 112, .ref 113, .int (0 : Int32), .int (0 : Int32), .ref 114, .ref 115, .ref 116, .ref 117, .ref 118, .int (0 : Int32), .int (0 : Int32), .ref 119, .int (0 : Int32), .int (0 : Int32), .int (0 : Int32), .int (0 : Int32), .int (0 : Int32), .int (0 : Int32), .int (0 : Int32), .int (0 : Int32), .long (0 : Int64), .long (0 : Int64), .ref 120, .null, .null, .null, .null, .null, .null, .int (0 : Int32), .int (0 : Int32), .int (0 : Int32), .int (0 : Int32), .int (0 : Int32), .int (0 : Int32), .long (0 : Int64), .int (0 : Int32), .int (0 : Int32), .int (0 : Int32)]) (le_ (n := 2) (u := 0) (v := 0) (j := 100) rfl rfl rfl rfl) rfl (se (n := 2) (u := 0) (v := 0) (j := 100) rfl rfl rfl _) rfl (Nat.le_of_ble_eq_true rfl) rfl (by decide) (fun _ => rfl) (Nat.le_of_ble_eq_true rfl)) rfl rfl rfl ?_
  refine me1 (pc' := 164) dm_X12_init_163 rfl rfl rfl rfl ?_
  refine me3 (pc' := 166) (S' := .int (84000 : Int32) :: _) dm_X12_init_164 rfl rfl rfl rfl ?_
  refine me3 (pc' := 168) dm_X12_init_166 (g_nwa (a := 121) (ne_ (n := 2) (u := 0) (v := 0) (j := 119) rfl rfl rfl rfl) (ae _) rfl (by decide)) rfl rfl rfl ?_
  refine me3 (pc' := 171) dm_X12_init_168 (g_put (fs' := [.ref 103, .ref 104, .ref 105, .int (0 : Int32), .int (0 : Int32), .int (0 : Int32), .int (-1 : Int32), .int (0 : Int32), .int (500000 : Int32), .int (0 : Int32), .int (0 : Int32), .int (0 : Int32), .ref 106, .int (0 : Int32), .ref 107, .ref 108, .ref 109, .int (0 : Int32), .int (0 : Int32), .ref 110, .ref 111, .ref 112, .ref 113, .int (0 : Int32), .int (0 : Int32), .ref 114, .ref 115, .ref 116, .ref 117, .ref 118, .int (0 : Int32), .int (0 : Int32), .ref 119, .int (0 : Int32), .int (0 : Int32), .int (0 : Int32), .int (0 : Int32), .int (0 : Int32), .int (0 : Int32), .int (0 : Int32), .int (0 : Int32), .long (0 : Int64), .long (0 : Int64), .ref 120, .ref 121, .null, .null, .null, .null, .null, .int (0 : Int32), .int (0 : Int32), .int (0 : Int32), .int (0 : Int32), .int (0 : Int32), .int (0 : Int32), .long (0 : Int64), .int (0 : Int32), .int (0 : Int32), .int (0 : Int32)]) (le_ (n := 2) (u := 0) (v := 0) (j := 100) rfl rfl rfl rfl) rfl (se (n := 2) (u := 0) (v := 0) (j := 100) rfl rfl rfl _) rfl (Nat.le_of_ble_eq_true rfl) rfl (by decide) (fun _ => rfl) (Nat.le_of_ble_eq_true rfl)) rfl rfl rfl ?_
  refine me1 (pc' := 172) dm_X12_init_171 rfl rfl rfl rfl ?_
  refine me3 (pc' := 174) (S' := .int (84000 : Int32) :: _) dm_X12_init_172 rfl rfl rfl rfl ?_
  refine me3 (pc' := 176) dm_X12_init_174 (g_nwa (a := 122) (ne_ (n := 2) (u := 0) (v := 0) (j := 120) rfl rfl rfl rfl) (ae _) rfl (by decide)) rfl rfl rfl ?_
  refine me3 (pc' := 179) dm_X12_init_176 (g_put (fs' := [.ref 103, .ref 104, .ref 105, .int (0 : Int32), .int (0 : Int32), .int (0 : Int32), .int (-1 : Int32), .int (0 : Int32), .int (500000 : Int32), .int (0 : Int32), .int (0 : Int32), .int (0 : Int32), .ref 106, .int (0 : Int32), .ref 107, .ref 108, .ref 109, .int (0 : Int32), .int (0 : Int32), .ref 110, .ref 111, .ref 112, .ref 113, .int (0 : Int32), .int (0 : Int32), .ref 114, .ref 115, .ref 116, .ref 117, .ref 118, .int (0 : Int32), .int (0 : Int32), .ref 119, .int (0 : Int32), .int (0 : Int32), .int (0 : Int32), .int (0 : Int32), .int (0 : Int32), .int (0 : Int32), .int (0 : Int32), .int (0 : Int32), .long (0 : Int64), .long (0 : Int64), .ref 120, .ref 121, .ref 122, .null, .null, .null, .null, .int (0 : Int32), .int (0 : Int32), .int (0 : Int32), .int (0 : Int32), .int (0 : Int32), .int (0 : Int32), .long (0 : Int64), .int (0 : Int32), .int (0 : Int32), .int (0 : Int32)]) (le_ (n := 2) (u := 0) (v := 0) (j := 100) rfl rfl rfl rfl) rfl (se (n := 2) (u := 0) (v := 0) (j := 100) rfl rfl rfl _) rfl (Nat.le_of_ble_eq_true rfl) rfl (by decide) (fun _ => rfl) (Nat.le_of_ble_eq_true rfl)) rfl rfl rfl ?_
  refine me1 (pc' := 180) dm_X12_init_179 rfl rfl rfl rfl ?_
  refine me3 (pc' := 182) (S' := .int (84000 : Int32) :: _) dm_X12_init_180 rfl rfl rfl rfl ?_
  refine me3 (pc' := 184) dm_X12_init_182 (g_nwa (a := 123) (ne_ (n := 2) (u := 0) (v := 0) (j := 121) rfl rfl rfl rfl) (ae _) rfl (by decide)) rfl rfl rfl ?_
  refine me3 (pc' := 187) dm_X12_init_184 (g_put (fs' := [.ref 103, .ref 104, .ref 105, .int (0 : Int32), .int (0 : Int32), .int (0 : Int32), .int (-1 : Int32), .int (0 : Int32), .int (500000 : Int32), .int (0 : Int32), .int (0 : Int32), .int (0 : Int32), .ref 106, .int (0 : Int32), .ref 107, .ref 108, .ref 109, .int (0 : Int32), .int (0 : Int32), .ref 110, .ref 111, .ref 112, .ref 113, .int (0 : Int32), .int (0 : Int32), .ref 114, .ref 115, .ref 116, .ref 117, .ref 118, .int (0 : Int32), .int (0 : Int32), .ref 119, .int (0 : Int32), .int (0 : Int32), .int (0 : Int32), .int (0 : Int32), .int (0 : Int32), .int (0 : Int32), .int (0 : Int32), .int (0 : Int32), .long (0 : Int64), .long (0 : Int64), .ref 120, .ref 121, .ref 122, .ref 123, .null, .null, .null, .int (0 : Int32), .int (0 : Int32), .int (0 : Int32), .int (0 : Int32), .int (0 : Int32), .int (0 : Int32), .long (0 : Int64), .int (0 : Int32), .int (0 : Int32), .int (0 : Int32)]) (le_ (n := 2) (u := 0) (v := 0) (j := 100) rfl rfl rfl rfl) rfl (se (n := 2) (u := 0) (v := 0) (j := 100) rfl rfl rfl _) rfl (Nat.le_of_ble_eq_true rfl) rfl (by decide) (fun _ => rfl) (Nat.le_of_ble_eq_true rfl)) rfl rfl rfl ?_
  refine me1 (pc' := 188) dm_X12_init_187 rfl rfl rfl rfl ?_
  refine me3 (pc' := 190) (S' := .int (84000 : Int32) :: _) dm_X12_init_188 rfl rfl rfl rfl ?_
  refine me3 (pc' := 192) dm_X12_init_190 (g_nwa (a := 124) (ne_ (n := 2) (u := 0) (v := 0) (j := 122) rfl rfl rfl rfl) (ae _) rfl (by decide)) rfl rfl rfl ?_
  refine me3 (pc' := 195) dm_X12_init_192 (g_put (fs' := [.ref 103, .ref 104, .ref 105, .int (0 : Int32), .int (0 : Int32), .int (0 : Int32), .int (-1 : Int32), .int (0 : Int32), .int (500000 : Int32), .int (0 : Int32), .int (0 : Int32), .int (0 : Int32), .ref 106, .int (0 : Int32), .ref 107, .ref 108, .ref 109, .int (0 : Int32), .int (0 : Int32), .ref 110, .ref 111, .ref 112, .ref 113, .int (0 : Int32), .int (0 : Int32), .ref 114, .ref 115, .ref 116, .ref 117, .ref 118, .int (0 : Int32), .int (0 : Int32), .ref 119, .int (0 : Int32), .int (0 : Int32), .int (0 : Int32), .int (0 : Int32), .int (0 : Int32), .int (0 : Int32), .int (0 : Int32), .int (0 : Int32), .long (0 : Int64), .long (0 : Int64), .ref 120, .ref 121, .ref 122, .ref 123, .ref 124, .null, .null, .int (0 : Int32), .int (0 : Int32), .int (0 : Int32), .int (0 : Int32), .int (0 : Int32), .int (0 : Int32), .long (0 : Int64), .int (0 : Int32), .int (0 : Int32), .int (0 : Int32)]) (le_ (n := 2) (u := 0) (v := 0) (j := 100) rfl rfl rfl rfl) rfl (se (n := 2) (u := 0) (v := 0) (j := 100) rfl rfl rfl _) rfl (Nat.le_of_ble_eq_true rfl) rfl (by decide) (fun _ => rfl) (Nat.le_of_ble_eq_true rfl)) rfl rfl rfl ?_
  refine me1 (pc' := 196) dm_X12_init_195 rfl rfl rfl rfl ?_
  refine me3 (pc' := 198) (S' := .int (84000 : Int32) :: _) dm_X12_init_196 rfl rfl rfl rfl ?_
  refine me3 (pc' := 200) dm_X12_init_198 (g_nwa (a := 125) (ne_ (n := 2) (u := 0) (v := 0) (j := 123) rfl rfl rfl rfl) (ae _) rfl (by decide)) rfl rfl rfl ?_
  refine me3 (pc' := 203) dm_X12_init_200 (g_put (fs' := [.ref 103, .ref 104, .ref 105, .int (0 : Int32), .int (0 : Int32), .int (0 : Int32), .int (-1 : Int32), .int (0 : Int32), .int (500000 : Int32), .int (0 : Int32), .int (0 : Int32), .int (0 : Int32), .ref 106, .int (0 : Int32), .ref 107, .ref 108, .ref 109, .int (0 : Int32), .int (0 : Int32), .ref 110, .ref 111, .ref 112, .ref 113, .int (0 : Int32), .int (0 : Int32), .ref 114, .ref 115, .ref 116, .ref 117, .ref 118, .int (0 : Int32), .int (0 : Int32), .ref 119, .int (0 : Int32), .int (0 : Int32), .int (0 : Int32), .int (0 : Int32), .int (0 : Int32), .int (0 : Int32), .int (0 : Int32), .int (0 : Int32), .long (0 : Int64), .long (0 : Int64), .ref 120, .ref 121, .ref 122, .ref 123, .ref 124, .ref 125, .null, .int (0 : Int32), .int (0 : Int32), .int (0 : Int32), .int (0 : Int32), .int (0 : Int32), .int (0 : Int32), .long (0 : Int64), .int (0 : Int32), .int (0 : Int32), .int (0 : Int32)]) (le_ (n := 2) (u := 0) (v := 0) (j := 100) rfl rfl rfl rfl) rfl (se (n := 2) (u := 0) (v := 0) (j := 100) rfl rfl rfl _) rfl (Nat.le_of_ble_eq_true rfl) rfl (by decide) (fun _ => rfl) (Nat.le_of_ble_eq_true rfl)) rfl rfl rfl ?_
  refine me1 (pc' := 204) dm_X12_init_203 rfl rfl rfl rfl ?_
  refine me3 (pc' := 206) (S' := .int (84000 : Int32) :: _) dm_X12_init_204 rfl rfl rfl rfl ?_
  refine me3 (pc' := 208) dm_X12_init_206 (g_nwa (a := 126) (ne_ (n := 2) (u := 0) (v := 0) (j := 124) rfl rfl rfl rfl) (ae _) rfl (by decide)) rfl rfl rfl ?_
  refine me3 (pc' := 211) dm_X12_init_208 (g_put (fs' := [.ref 103, .ref 104, .ref 105, .int (0 : Int32), .int (0 : Int32), .int (0 : Int32), .int (-1 : Int32), .int (0 : Int32), .int (500000 : Int32), .int (0 : Int32), .int (0 : Int32), .int (0 : Int32), .ref 106, .int (0 : Int32), .ref 107, .ref 108, .ref 109, .int (0 : Int32), .int (0 : Int32), .ref 110, .ref 111, .ref 112, .ref 113, .int (0 : Int32), .int (0 : Int32), .ref 114, .ref 115, .ref 116, .ref 117, .ref 118, .int (0 : Int32), .int (0 : Int32), .ref 119, .int (0 : Int32), .int (0 : Int32), .int (0 : Int32), .int (0 : Int32), .int (0 : Int32), .int (0 : Int32), .int (0 : Int32), .int (0 : Int32), .long (0 : Int64), .long (0 : Int64), .ref 120, .ref 121, .ref 122, .ref 123, .ref 124, .ref 125, .ref 126, .int (0 : Int32), .int (0 : Int32), .int (0 : Int32), .int (0 : Int32), .int (0 : Int32), .int (0 : Int32), .long (0 : Int64), .int (0 : Int32), .int (0 : Int32), .int (0 : Int32)]) (le_ (n := 2) (u := 0) (v := 0) (j := 100) rfl rfl rfl rfl) rfl (se (n := 2) (u := 0) (v := 0) (j := 100) rfl rfl rfl _) rfl (Nat.le_of_ble_eq_true rfl) rfl (by decide) (fun _ => rfl) (Nat.le_of_ble_eq_true rfl)) rfl rfl rfl ?_
  refine me1 (pc' := 212) dm_X12_init_211 rfl rfl rfl rfl ?_
  refine me0 (pc' := 213) (S' := .int (-1 : Int32) :: _) dm_X12_init_212 rfl rfl rfl rfl ?_
  refine me3 (pc' := 216) dm_X12_init_213 (g_put (fs' := [.ref 103, .ref 104, .ref 105, .int (0 : Int32), .int (0 : Int32), .int (0 : Int32), .int (-1 : Int32), .int (0 : Int32), .int (500000 : Int32), .int (0 : Int32), .int (0 : Int32), .int (0 : Int32), .ref 106, .int (0 : Int32), .ref 107, .ref 108, .ref 109, .int (0 : Int32), .int (0 : Int32), .ref 110, .ref 111, .ref 112, .ref 113, .int (0 : Int32), .int (0 : Int32), .ref 114, .ref 115, .ref 116, .ref 117, .ref 118, .int (0 : Int32), .int (0 : Int32), .ref 119, .int (0 : Int32), .int (0 : Int32), .int (0 : Int32), .int (0 : Int32), .int (0 : Int32), .int (0 : Int32), .int (0 : Int32), .int (0 : Int32), .long (0 : Int64), .long (0 : Int64), .ref 120, .ref 121, .ref 122, .ref 123, .ref 124, .ref 125, .ref 126, .int (0 : Int32), .int (0 : Int32), .int (0 : Int32), .int (0 : Int32), .int (0 : Int32), .int (0 : Int32), .long (0 : Int64), .int (0 : Int32), .int (-1 : Int32), .int (0 : Int32)]) (le_ (n := 2) (u := 0) (v := 0) (j := 100) rfl rfl rfl rfl) rfl (se (n := 2) (u := 0) (v := 0) (j := 100) rfl rfl rfl _) rfl (Nat.le_of_ble_eq_true rfl) rfl (by decide) (fun _ => rfl) (Nat.le_of_ble_eq_true rfl)) rfl rfl rfl ?_
  refine me1 (pc' := 217) dm_X12_init_216 rfl rfl rfl rfl ?_
  refine me0 (pc' := 218) (S' := .int (-1 : Int32) :: _) dm_X12_init_217 rfl rfl rfl rfl ?_
  refine me3 (pc' := 221) dm_X12_init_218 (g_put (fs' := [.ref 103, .ref 104, .ref 105, .int (0 : Int32), .int (0 : Int32), .int (0 : Int32), .int (-1 : Int32), .int (0 : Int32), .int (500000 : Int32), .int (0 : Int32), .int (0 : Int32), .int (0 : Int32), .ref 106, .int (0 : Int32), .ref 107, .ref 108, .ref 109, .int (0 : Int32), .int (0 : Int32), .ref 110, .ref 111, .ref 112, .ref 113, .int (0 : Int32), .int (0 : Int32), .ref 114, .ref 115, .ref 116, .ref 117, .ref 118, .int (0 : Int32), .int (0 : Int32), .ref 119, .int (0 : Int32), .int (0 : Int32), .int (0 : Int32), .int (0 : Int32), .int (0 : Int32), .int (0 : Int32), .int (0 : Int32), .int (0 : Int32), .long (0 : Int64), .long (0 : Int64), .ref 120, .ref 121, .ref 122, .ref 123, .ref 124, .ref 125, .ref 126, .int (0 : Int32), .int (0 : Int32), .int (0 : Int32), .int (0 : Int32), .int (0 : Int32), .int (0 : Int32), .long (0 : Int64), .int (0 : Int32), .int (-1 : Int32), .int (-1 : Int32)]) (le_ (n := 2) (u := 0) (v := 0) (j := 100) rfl rfl rfl rfl) rfl (se (n := 2) (u := 0) (v := 0) (j := 100) rfl rfl rfl _) rfl (Nat.le_of_ble_eq_true rfl) rfl (by decide) (fun _ => rfl) (Nat.le_of_ble_eq_true rfl)) rfl rfl rfl ?_
  refine me1 (pc' := 222) dm_X12_init_221 rfl rfl rfl rfl ?_
  refine me0 (pc' := 223) (S' := .int (3 : Int32) :: _) dm_X12_init_222 rfl rfl rfl rfl ?_
  refine me3 (pc' := 226) dm_X12_init_223 (g_put (fs' := [.ref 103, .ref 104, .ref 105, .int (0 : Int32), .int (3 : Int32), .int (0 : Int32), .int (-1 : Int32), .int (0 : Int32), .int (500000 : Int32), .int (0 : Int32), .int (0 : Int32), .int (0 : Int32), .ref 106, .int (0 : Int32), .ref 107, .ref 108, .ref 109, .int (0 : Int32), .int (0 : Int32), .ref 110, .ref 111, .ref 112, .ref 113, .int (0 : Int32), .int (0 : Int32), .ref 114, .ref 115, .ref 116, .ref 117, .ref 118, .int (0 : Int32), .int (0 : Int32), .ref 119, .int (0 : Int32), .int (0 : Int32), .int (0 : Int32), .int (0 : Int32), .int (0 : Int32), .int (0 : Int32), .int (0 : Int32), .int (0 : Int32), .long (0 : Int64), .long (0 : Int64), .ref 120, .ref 121, .ref 122, .ref 123, .ref 124, .ref 125, .ref 126, .int (0 : Int32), .int (0 : Int32), .int (0 : Int32), .int (0 : Int32), .int (0 : Int32), .int (0 : Int32), .long (0 : Int64), .int (0 : Int32), .int (-1 : Int32), .int (-1 : Int32)]) (le_ (n := 2) (u := 0) (v := 0) (j := 100) rfl rfl rfl rfl) rfl (se (n := 2) (u := 0) (v := 0) (j := 100) rfl rfl rfl _) rfl (Nat.le_of_ble_eq_true rfl) rfl (by decide) (fun _ => rfl) (Nat.le_of_ble_eq_true rfl)) rfl rfl rfl ?_
  refine me1 (pc' := 227) dm_X12_init_226 rfl rfl rfl rfl ?_
  refine me1 (pc' := 228) dm_X12_init_227 rfl rfl rfl rfl ?_
  refine me0 (pc' := 229) (S' := .int (0 : Int32) :: _) dm_X12_init_228 rfl rfl rfl rfl ?_
  refine me0 (pc' := 230) (S' := .long (0 : Int64) :: _) dm_X12_init_229 rfl rfl rfl rfl ?_
  refine me4 (pc' := 233) (L0 := [(0, .ref 102), (1, .int (0 : Int32)), (2, .long (0 : Int64))]) dm_X12_init_230 rfl (g_inv (As := [.int (0 : Int32), .long (0 : Int64)]) (le_ (n := 2) (u := 0) (v := 0) (j := 100) rfl rfl rfl rfl) rfl rfl rfl (Nat.le_of_ble_eq_true rfl)) pm_X12_one rfl (Nat.le_of_ble_eq_true rfl) rfl rfl rfl ?_
  refine me1 (pc' := 1) dm_X12_one_0 rfl rfl rfl rfl ?_
  refine me1 (pc' := 2) dm_X12_one_1 rfl rfl rfl rfl ?_
  refine me0 (pc' := 3) (S' := .int (1 : Int32) :: _) dm_X12_one_2 rfl rfl rfl rfl ?_
  refine me4 (pc' := 6) (L0 := [(0, .ref 102), (1, .int (0 : Int32)), (2, .int (1 : Int32))]) dm_X12_one_3 rfl (g_inv (As := [.int (0 : Int32), .int (1 : Int32)]) (le_ (n := 2) (u := 0) (v := 0) (j := 100) rfl rfl rfl rfl) rfl rfl rfl (Nat.le_of_ble_eq_true rfl)) pm_X12_row rfl (Nat.le_of_ble_eq_true rfl) rfl rfl rfl ?_
  refine me1 (pc' := 1) dm_X12_row_0 rfl rfl rfl rfl ?_
  refine me0 (pc' := 2) dm_X12_row_1 rfl rfl rfl rfl ?_
  refine me3 (pc' := 5) dm_X12_row_2 (g_get (v := .int (0 : Int32)) (le_ (n := 2) (u := 0) (v := 0) (j := 100) rfl rfl rfl rfl) rfl rfl (Nat.le_of_ble_eq_true rfl)) rfl rfl rfl ?_
  refine me1 (pc' := 6) dm_X12_row_5 rfl rfl rfl rfl ?_
  refine me0 (pc' := 7) (S' := .int (1 : Int32) :: _) dm_X12_row_6 rfl rfl rfl rfl ?_
  refine me3 (pc' := 10) dm_X12_row_7 (g_put (fs' := [.ref 103, .ref 104, .ref 105, .int (1 : Int32), .int (3 : Int32), .int (0 : Int32), .int (-1 : Int32), .int (0 : Int32), .int (500000 : Int32), .int (0 : Int32), .int (0 : Int32), .int (0 : Int32), .ref 106, .int (0 : Int32), .ref 107, .ref 108, .ref 109, .int (0 : Int32), .int (0 : Int32), .ref 110, .ref 111, .ref 112, .ref 113, .int (0 : Int32), .int (0 : Int32), .ref 114, .ref 115, .ref 116, .ref 117, .ref 118, .int (0 : Int32), .int (0 : Int32), .ref 119, .int (0 : Int32), .int (0 : Int32), .int (0 : Int32), .int (0 : Int32), .int (0 : Int32), .int (0 : Int32), .int (0 : Int32), .int (0 : Int32), .long (0 : Int64), .long (0 : Int64), .ref 120, .ref 121, .ref 122, .ref 123, .ref 124, .ref 125, .ref 126, .int (0 : Int32), .int (0 : Int32), .int (0 : Int32), .int (0 : Int32), .int (0 : Int32), .int (0 : Int32), .long (0 : Int64), .int (0 : Int32), .int (-1 : Int32), .int (-1 : Int32)]) (le_ (n := 2) (u := 0) (v := 0) (j := 100) rfl rfl rfl rfl) rfl (se (n := 2) (u := 0) (v := 0) (j := 100) rfl rfl rfl _) rfl (Nat.le_of_ble_eq_true rfl) rfl (by decide) (fun z => by cases z) (Nat.le_of_ble_eq_true rfl)) rfl rfl rfl ?_
  refine me1 (pc' := 11) dm_X12_row_10 rfl rfl rfl rfl ?_
  refine me1 (pc' := 12) dm_X12_row_11 rfl rfl rfl rfl ?_
  refine me1 (pc' := 13) dm_X12_row_12 rfl rfl rfl rfl ?_
  refine me3 (pc' := 16) dm_X12_row_13 (g_get (v := .int (1 : Int32)) (le_ (n := 2) (u := 0) (v := 0) (j := 100) rfl rfl rfl rfl) rfl rfl (Nat.le_of_ble_eq_true rfl)) rfl rfl rfl ?_
  refine me1 (pc' := 17) dm_X12_row_16 rfl rfl rfl rfl ?_
  refine me0 (pc' := 18) (S' := .int (0 : Int32) :: _) dm_X12_row_17 rfl rfl rfl rfl ?_
  refine me1 (pc' := 19) dm_X12_row_18 rfl rfl rfl rfl ?_
  refine me4 (pc' := 22) (L0 := [(0, .ref 102), (1, .int (0 : Int32)), (2, .int (0 : Int32)), (3, .int (1 : Int32))]) dm_X12_row_19 rfl (g_inv (As := [.int (0 : Int32), .int (0 : Int32), .int (1 : Int32)]) (le_ (n := 2) (u := 0) (v := 0) (j := 100) rfl rfl rfl rfl) rfl rfl rfl (Nat.le_of_ble_eq_true rfl)) pm_X12_seen rfl (Nat.le_of_ble_eq_true rfl) rfl rfl rfl ?_
  refine me1 (pc' := 1) dm_X12_seen_0 rfl rfl rfl rfl ?_
  refine me1 (pc' := 2) dm_X12_seen_1 rfl rfl rfl rfl ?_
  refine me3 (pc' := 5) dm_X12_seen_2 (g_get (v := .int (3 : Int32)) (le_ (n := 2) (u := 0) (v := 0) (j := 100) rfl rfl rfl rfl) rfl rfl (Nat.le_of_ble_eq_true rfl)) rfl rfl rfl ?_
  refine me1 (pc' := 6) dm_X12_seen_5 rfl rfl rfl rfl ?_
  refine me1 (pc' := 7) dm_X12_seen_6 rfl rfl rfl rfl ?_
  refine me1 (pc' := 8) dm_X12_seen_7 rfl rfl rfl rfl ?_
  refine me4 (pc' := 11) (L0 := [(0, .ref 102), (1, .int (3 : Int32)), (2, .int (0 : Int32)), (3, .int (0 : Int32)), (4, .int (1 : Int32))]) dm_X12_seen_8 rfl (g_inv (As := [.int (3 : Int32), .int (0 : Int32), .int (0 : Int32), .int (1 : Int32)]) (le_ (n := 2) (u := 0) (v := 0) (j := 100) rfl rfl rfl rfl) rfl rfl rfl (Nat.le_of_ble_eq_true rfl)) pm_X12_view rfl (Nat.le_of_ble_eq_true rfl) rfl rfl rfl ?_
  refine me1 (pc' := 1) dm_X12_view_0 rfl rfl rfl rfl ?_
  refine me3 (pc' := 4) dm_X12_view_1 (g_get (v := .ref 104) (le_ (n := 2) (u := 0) (v := 0) (j := 100) rfl rfl rfl rfl) rfl rfl (Nat.le_of_ble_eq_true rfl)) rfl rfl rfl ?_
  refine me1 (pc' := 5) dm_X12_view_4 rfl rfl rfl rfl ?_
  refine me1 (pc' := 6) dm_X12_view_5 rfl rfl rfl rfl ?_
  refine me3 (pc' := 7) dm_X12_view_6 (g_iast (le_ (n := 2) (u := 0) (v := 0) (j := 102) rfl rfl rfl rfl) (se (n := 2) (u := 0) (v := 0) (j := 102) rfl rfl rfl _) rfl (by decide) (Nat.le_of_ble_eq_true rfl)) rfl rfl rfl ?_
  refine me1 (pc' := 8) dm_X12_view_7 rfl rfl rfl rfl ?_
  refine me3 (pc' := 11) dm_X12_view_8 (g_get (v := .ref 105) (le_ (n := 2) (u := 0) (v := 0) (j := 100) rfl rfl rfl rfl) rfl rfl (Nat.le_of_ble_eq_true rfl)) rfl rfl rfl ?_
  refine me1 (pc' := 12) dm_X12_view_11 rfl rfl rfl rfl ?_
  refine me1 (pc' := 13) dm_X12_view_12 rfl rfl rfl rfl ?_
  refine me1 (pc' := 15) dm_X12_view_13 rfl rfl rfl rfl ?_
  refine me0 (pc' := 16) (S' := .int (3 : Int32) :: _) dm_X12_view_15 rfl rfl rfl rfl ?_
  refine me0 (pc' := 17) (S' := .int (8 : Int32) :: _) dm_X12_view_16 rfl rfl rfl rfl ?_
  refine me0 (pc' := 18) (S' := .int (8 : Int32) :: _) dm_X12_view_17 rfl rfl rfl rfl ?_
  refine me3 (pc' := 19) dm_X12_view_18 (g_iast (le_ (n := 2) (u := 0) (v := 0) (j := 103) rfl rfl rfl rfl) (se (n := 2) (u := 0) (v := 0) (j := 103) rfl rfl rfl _) rfl (by decide) (Nat.le_of_ble_eq_true rfl)) rfl rfl rfl ?_
  refine me5 dm_X12_view_19 rfl rfl rfl ?_
  refine me1 (pc' := 12) dm_X12_seen_11 rfl rfl rfl rfl ?_
  refine me0 (pc' := 13) dm_X12_seen_12 rfl rfl rfl rfl ?_
  refine me3 (pc' := 16) dm_X12_seen_13 (g_get (v := .int (3 : Int32)) (le_ (n := 2) (u := 0) (v := 0) (j := 100) rfl rfl rfl rfl) rfl rfl (Nat.le_of_ble_eq_true rfl)) rfl rfl rfl ?_
  refine me0 (pc' := 17) (S' := .int (1 : Int32) :: _) dm_X12_seen_16 rfl rfl rfl rfl ?_
  refine me0 (pc' := 18) (S' := .int (4 : Int32) :: _) dm_X12_seen_17 rfl rfl rfl rfl ?_
  refine me3 (pc' := 21) dm_X12_seen_18 (g_put (fs' := [.ref 103, .ref 104, .ref 105, .int (1 : Int32), .int (4 : Int32), .int (0 : Int32), .int (-1 : Int32), .int (0 : Int32), .int (500000 : Int32), .int (0 : Int32), .int (0 : Int32), .int (0 : Int32), .ref 106, .int (0 : Int32), .ref 107, .ref 108, .ref 109, .int (0 : Int32), .int (0 : Int32), .ref 110, .ref 111, .ref 112, .ref 113, .int (0 : Int32), .int (0 : Int32), .ref 114, .ref 115, .ref 116, .ref 117, .ref 118, .int (0 : Int32), .int (0 : Int32), .ref 119, .int (0 : Int32), .int (0 : Int32), .int (0 : Int32), .int (0 : Int32), .int (0 : Int32), .int (0 : Int32), .int (0 : Int32), .int (0 : Int32), .long (0 : Int64), .long (0 : Int64), .ref 120, .ref 121, .ref 122, .ref 123, .ref 124, .ref 125, .ref 126, .int (0 : Int32), .int (0 : Int32), .int (0 : Int32), .int (0 : Int32), .int (0 : Int32), .int (0 : Int32), .long (0 : Int64), .int (0 : Int32), .int (-1 : Int32), .int (-1 : Int32)]) (le_ (n := 2) (u := 0) (v := 0) (j := 100) rfl rfl rfl rfl) rfl (se (n := 2) (u := 0) (v := 0) (j := 100) rfl rfl rfl _) rfl (Nat.le_of_ble_eq_true rfl) rfl (by decide) (fun z => by cases z) (Nat.le_of_ble_eq_true rfl)) rfl rfl rfl ?_
  refine me1 (pc' := 22) dm_X12_seen_21 rfl rfl rfl rfl ?_
  refine me3 (pc' := 25) dm_X12_seen_22 (g_get (v := .int (4 : Int32)) (le_ (n := 2) (u := 0) (v := 0) (j := 100) rfl rfl rfl rfl) rfl rfl (Nat.le_of_ble_eq_true rfl)) rfl rfl rfl ?_
  refine me0 (pc' := 26) (S' := .int (1 : Int32) :: _) dm_X12_seen_25 rfl rfl rfl rfl ?_
  refine me0 (pc' := 27) (S' := .int (3 : Int32) :: _) dm_X12_seen_26 rfl rfl rfl rfl ?_
  refine me5 dm_X12_seen_27 rfl rfl rfl ?_
  refine me5 dm_X12_row_22 rfl rfl rfl ?_
  refine me1 (pc' := 8) (L' := [(4, .int (3 : Int32)), (0, .ref 102), (1, .int (0 : Int32)), (2, .long (0 : Int64))]) dm_X12_one_6 rfl rfl rfl rfl ?_
  refine me1 (pc' := 9) dm_X12_one_8 rfl rfl rfl rfl ?_
  refine me3 (pc' := 12) dm_X12_one_9 (g_get (v := .ref 103) (le_ (n := 2) (u := 0) (v := 0) (j := 100) rfl rfl rfl rfl) rfl rfl (Nat.le_of_ble_eq_true rfl)) rfl rfl rfl ?_
  refine me1 (pc' := 13) dm_X12_one_12 rfl rfl rfl rfl ?_
  refine me3 (pc' := 16) dm_X12_one_13 (g_get (v := .ref 104) (le_ (n := 2) (u := 0) (v := 0) (j := 100) rfl rfl rfl rfl) rfl rfl (Nat.le_of_ble_eq_true rfl)) rfl rfl rfl ?_
  refine me1 (pc' := 18) dm_X12_one_16 rfl rfl rfl rfl ?_
  refine me3 (pc' := 19) dm_X12_one_18 (g_iald (v := (0 : Int32)) (le_ (n := 2) (u := 0) (v := 0) (j := 102) rfl rfl rfl rfl) rfl (by decide) rfl (Nat.le_of_ble_eq_true rfl)) rfl rfl rfl ?_
  refine me1 (pc' := 20) dm_X12_one_19 rfl rfl rfl rfl ?_
  refine me3 (pc' := 21) dm_X12_one_20 (g_last (le_ (n := 2) (u := 0) (v := 0) (j := 101) rfl rfl rfl rfl) (se (n := 2) (u := 0) (v := 0) (j := 101) rfl rfl rfl _) rfl (by decide) (Nat.le_of_ble_eq_true rfl)) rfl rfl rfl ?_
  refine me1 (pc' := 23) dm_X12_one_21 rfl rfl rfl rfl ?_
  refine me5 dm_X12_one_23 rfl rfl rfl ?_
  refine me3 (pc' := 236) dm_X12_init_233 (g_put (fs' := [.ref 103, .ref 104, .ref 105, .int (1 : Int32), .int (4 : Int32), .int (0 : Int32), .int (-1 : Int32), .int (0 : Int32), .int (500000 : Int32), .int (0 : Int32), .int (0 : Int32), .int (0 : Int32), .ref 106, .int (0 : Int32), .ref 107, .ref 108, .ref 109, .int (0 : Int32), .int (0 : Int32), .ref 110, .ref 111, .ref 112, .ref 113, .int (0 : Int32), .int (0 : Int32), .ref 114, .ref 115, .ref 116, .ref 117, .ref 118, .int (3 : Int32), .int (0 : Int32), .ref 119, .int (0 : Int32), .int (0 : Int32), .int (0 : Int32), .int (0 : Int32), .int (0 : Int32), .int (0 : Int32), .int (0 : Int32), .int (0 : Int32), .long (0 : Int64), .long (0 : Int64), .ref 120, .ref 121, .ref 122, .ref 123, .ref 124, .ref 125, .ref 126, .int (0 : Int32), .int (0 : Int32), .int (0 : Int32), .int (0 : Int32), .int (0 : Int32), .int (0 : Int32), .long (0 : Int64), .int (0 : Int32), .int (-1 : Int32), .int (-1 : Int32)]) (le_ (n := 2) (u := 0) (v := 0) (j := 100) rfl rfl rfl rfl) rfl (se (n := 2) (u := 0) (v := 0) (j := 100) rfl rfl rfl _) rfl (Nat.le_of_ble_eq_true rfl) rfl (by decide) (fun _ => rfl) (Nat.le_of_ble_eq_true rfl)) rfl rfl rfl ?_
  refine me1 (pc' := 237) dm_X12_init_236 rfl rfl rfl rfl ?_
  refine me1 (pc' := 238) dm_X12_init_237 rfl rfl rfl rfl ?_
  refine me3 (pc' := 241) dm_X12_init_238 (g_get (v := .int (3 : Int32)) (le_ (n := 2) (u := 0) (v := 0) (j := 100) rfl rfl rfl rfl) rfl rfl (Nat.le_of_ble_eq_true rfl)) rfl rfl rfl ?_
  refine me3 (pc' := 244) dm_X12_init_241 (g_put (fs' := [.ref 103, .ref 104, .ref 105, .int (1 : Int32), .int (4 : Int32), .int (0 : Int32), .int (-1 : Int32), .int (0 : Int32), .int (500000 : Int32), .int (0 : Int32), .int (0 : Int32), .int (0 : Int32), .ref 106, .int (0 : Int32), .ref 107, .ref 108, .ref 109, .int (0 : Int32), .int (0 : Int32), .ref 110, .ref 111, .ref 112, .ref 113, .int (0 : Int32), .int (0 : Int32), .ref 114, .ref 115, .ref 116, .ref 117, .ref 118, .int (3 : Int32), .int (3 : Int32), .ref 119, .int (0 : Int32), .int (0 : Int32), .int (0 : Int32), .int (0 : Int32), .int (0 : Int32), .int (0 : Int32), .int (0 : Int32), .int (0 : Int32), .long (0 : Int64), .long (0 : Int64), .ref 120, .ref 121, .ref 122, .ref 123, .ref 124, .ref 125, .ref 126, .int (0 : Int32), .int (0 : Int32), .int (0 : Int32), .int (0 : Int32), .int (0 : Int32), .int (0 : Int32), .long (0 : Int64), .int (0 : Int32), .int (-1 : Int32), .int (-1 : Int32)]) (le_ (n := 2) (u := 0) (v := 0) (j := 100) rfl rfl rfl rfl) rfl (se (n := 2) (u := 0) (v := 0) (j := 100) rfl rfl rfl _) rfl (Nat.le_of_ble_eq_true rfl) rfl (by decide) (fun _ => rfl) (Nat.le_of_ble_eq_true rfl)) rfl rfl rfl ?_
  refine me5 dm_X12_init_244 rfl rfl rfl ?_
  refine me1 (pc' := 16) (L' := [(2, .ref 102), (1, .ref 2), (0, .ref 0)]) dm_L_15 rfl rfl rfl rfl ?_
  refine me0 (pc' := 17) (S' := .int (0 : Int32) :: _) dm_L_16 rfl rfl rfl rfl ?_
  refine me1 (pc' := 18) (L' := [(3, .int (0 : Int32)), (2, .ref 102), (1, .ref 2), (0, .ref 0)]) dm_L_17 rfl rfl rfl rfl ?_
  exact k
