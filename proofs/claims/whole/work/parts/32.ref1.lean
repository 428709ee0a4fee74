/-! printed by wip/ref1.py: the smallest methods of the reference -/
def k_kindOf : Nat := 241
set_option maxRecDepth 20000 in
theorem pm_kindOf : mj_mmof pg_ms k_kindOf = some ((⟨"ArrayCalculatorModel", "kindOf", "(I)I"⟩, prog_14_method_2_code, 2, (Option.some Jvm.ClassFile.FieldType.int)), 12, false, mj_dec prog_14_method_2_code) := rfl
theorem dm_kindOf_0 : mj_dec prog_14_method_2_code 0 = some (.aload_n 0, 1) := by decide +kernel
theorem dm_kindOf_1 : mj_dec prog_14_method_2_code 1 = some (.getfield 19, 3) := by decide +kernel
theorem dm_kindOf_4 : mj_dec prog_14_method_2_code 4 = some (.iload_n 1, 1) := by decide +kernel
theorem dm_kindOf_5 : mj_dec prog_14_method_2_code 5 = some (.iaload, 1) := by decide +kernel
theorem dm_kindOf_6 : mj_dec prog_14_method_2_code 6 = some (.bipush 7, 2) := by decide +kernel
theorem dm_kindOf_8 : mj_dec prog_14_method_2_code 8 = some (.iand, 1) := by decide +kernel
theorem dm_kindOf_9 : mj_dec prog_14_method_2_code 9 = some (.ireturn, 1) := by decide +kernel
set_option maxRecDepth 20000 in
theorem q_kindOf {xt : mj_X} {pre post : mj_H} {m : Nat} {i : Nat → Int32} {l : Nat → Int64} {I : Nat → Nat → Int32} {J : Nat → Nat → Int64} {d : Nat} (hm : pre.length = m) (h2 : 2 ≤ m) {x : Int32} (hx : ¬ (x < 0 ∨ 310000 ≤ x.toNatClampNeg)) : pgC xt (d + 1) k_kindOf (.ref m :: [.int x]) (rH pre post m i l I J) (some (.int (I 2 x.toNatClampNeg &&& 7))) ((rH pre post m i l I J)) := by
  refine ms_call pm_kindOf (Nat.le_of_ble_eq_true rfl) ?_
  dsimp only
  refine ms1 dm_kindOf_0 rfl rfl rfl rfl ?_
  refine ms3 dm_kindOf_1 (r_get hm h2 rfl rfl) rfl rfl rfl ?_
  refine ms1 dm_kindOf_4 rfl rfl rfl rfl ?_
  refine ms3 dm_kindOf_5 (r_iald hm h2 rfl rfl hx) rfl rfl rfl ?_
  refine ms0 dm_kindOf_6 rfl rfl rfl rfl ?_
  refine ms0 dm_kindOf_8 rfl rfl rfl rfl ?_
  exact ms5 dm_kindOf_9 rfl rfl rfl
def k_many : Nat := 221
set_option maxRecDepth 20000 in
theorem pm_many : mj_mmof pg_ms k_many = some ((⟨"ArrayCalculatorModel", "many", "(I)I"⟩, prog_14_method_3_code, 2, (Option.some Jvm.ClassFile.FieldType.int)), 12, false, mj_dec prog_14_method_3_code) := rfl
theorem dm_many_0 : mj_dec prog_14_method_3_code 0 = some (.aload_n 0, 1) := by decide +kernel
theorem dm_many_1 : mj_dec prog_14_method_3_code 1 = some (.getfield 19, 3) := by decide +kernel
theorem dm_many_4 : mj_dec prog_14_method_3_code 4 = some (.iload_n 1, 1) := by decide +kernel
theorem dm_many_5 : mj_dec prog_14_method_3_code 5 = some (.iaload, 1) := by decide +kernel
theorem dm_many_6 : mj_dec prog_14_method_3_code 6 = some (.iconst 3, 1) := by decide +kernel
theorem dm_many_7 : mj_dec prog_14_method_3_code 7 = some (.ishr, 1) := by decide +kernel
theorem dm_many_8 : mj_dec prog_14_method_3_code 8 = some (.sipush 255, 3) := by decide +kernel
theorem dm_many_11 : mj_dec prog_14_method_3_code 11 = some (.iand, 1) := by decide +kernel
theorem dm_many_12 : mj_dec prog_14_method_3_code 12 = some (.ireturn, 1) := by decide +kernel
set_option maxRecDepth 20000 in
theorem q_many {xt : mj_X} {pre post : mj_H} {m : Nat} {i : Nat → Int32} {l : Nat → Int64} {I : Nat → Nat → Int32} {J : Nat → Nat → Int64} {d : Nat} (hm : pre.length = m) (h2 : 2 ≤ m) {x : Int32} (hx : ¬ (x < 0 ∨ 310000 ≤ x.toNatClampNeg)) : pgC xt (d + 1) k_many (.ref m :: [.int x]) (rH pre post m i l I J) (some (.int ((I 2 x.toNatClampNeg >>> (3 &&& 31)) &&& 255))) ((rH pre post m i l I J)) := by
  refine ms_call pm_many (Nat.le_of_ble_eq_true rfl) ?_
  dsimp only
  refine ms1 dm_many_0 rfl rfl rfl rfl ?_
  refine ms3 dm_many_1 (r_get hm h2 rfl rfl) rfl rfl rfl ?_
  refine ms1 dm_many_4 rfl rfl rfl rfl ?_
  refine ms3 dm_many_5 (r_iald hm h2 rfl rfl hx) rfl rfl rfl ?_
  refine ms0 dm_many_6 rfl rfl rfl rfl ?_
  refine ms0 dm_many_7 rfl rfl rfl rfl ?_
  refine ms0 dm_many_8 rfl rfl rfl rfl ?_
  refine ms0 dm_many_11 rfl rfl rfl rfl ?_
  exact ms5 dm_many_12 rfl rfl rfl
def k_columns : Nat := 245
set_option maxRecDepth 20000 in
theorem pm_columns : mj_mmof pg_ms k_columns = some ((⟨"ArrayCalculatorModel", "columns", "(I)I"⟩, prog_14_method_4_code, 2, (Option.some Jvm.ClassFile.FieldType.int)), 12, false, mj_dec prog_14_method_4_code) := rfl
theorem dm_columns_0 : mj_dec prog_14_method_4_code 0 = some (.aload_n 0, 1) := by decide +kernel
theorem dm_columns_1 : mj_dec prog_14_method_4_code 1 = some (.getfield 19, 3) := by decide +kernel
theorem dm_columns_4 : mj_dec prog_14_method_4_code 4 = some (.iload_n 1, 1) := by decide +kernel
theorem dm_columns_5 : mj_dec prog_14_method_4_code 5 = some (.iaload, 1) := by decide +kernel
theorem dm_columns_6 : mj_dec prog_14_method_4_code 6 = some (.bipush 11, 2) := by decide +kernel
theorem dm_columns_8 : mj_dec prog_14_method_4_code 8 = some (.ishr, 1) := by decide +kernel
theorem dm_columns_9 : mj_dec prog_14_method_4_code 9 = some (.ireturn, 1) := by decide +kernel
set_option maxRecDepth 20000 in
theorem q_columns {xt : mj_X} {pre post : mj_H} {m : Nat} {i : Nat → Int32} {l : Nat → Int64} {I : Nat → Nat → Int32} {J : Nat → Nat → Int64} {d : Nat} (hm : pre.length = m) (h2 : 2 ≤ m) {x : Int32} (hx : ¬ (x < 0 ∨ 310000 ≤ x.toNatClampNeg)) : pgC xt (d + 1) k_columns (.ref m :: [.int x]) (rH pre post m i l I J) (some (.int (I 2 x.toNatClampNeg >>> (11 &&& 31)))) ((rH pre post m i l I J)) := by
  refine ms_call pm_columns (Nat.le_of_ble_eq_true rfl) ?_
  dsimp only
  refine ms1 dm_columns_0 rfl rfl rfl rfl ?_
  refine ms3 dm_columns_1 (r_get hm h2 rfl rfl) rfl rfl rfl ?_
  refine ms1 dm_columns_4 rfl rfl rfl rfl ?_
  refine ms3 dm_columns_5 (r_iald hm h2 rfl rfl hx) rfl rfl rfl ?_
  refine ms0 dm_columns_6 rfl rfl rfl rfl ?_
  refine ms0 dm_columns_8 rfl rfl rfl rfl ?_
  exact ms5 dm_columns_9 rfl rfl rfl
def k_number : Nat := 222
set_option maxRecDepth 20000 in
theorem pm_number : mj_mmof pg_ms k_number = some ((⟨"ArrayCalculatorModel", "number", "(II)J"⟩, prog_14_method_5_code, 3, (Option.some Jvm.ClassFile.FieldType.long)), 12, false, mj_dec prog_14_method_5_code) := rfl
theorem dm_number_0 : mj_dec prog_14_method_5_code 0 = some (.aload_n 0, 1) := by decide +kernel
theorem dm_number_1 : mj_dec prog_14_method_5_code 1 = some (.getfield 8, 3) := by decide +kernel
theorem dm_number_4 : mj_dec prog_14_method_5_code 4 = some (.aload_n 0, 1) := by decide +kernel
theorem dm_number_5 : mj_dec prog_14_method_5_code 5 = some (.getfield 15, 3) := by decide +kernel
theorem dm_number_8 : mj_dec prog_14_method_5_code 8 = some (.iload_n 1, 1) := by decide +kernel
theorem dm_number_9 : mj_dec prog_14_method_5_code 9 = some (.iaload, 1) := by decide +kernel
theorem dm_number_10 : mj_dec prog_14_method_5_code 10 = some (.iload_n 2, 1) := by decide +kernel
theorem dm_number_11 : mj_dec prog_14_method_5_code 11 = some (.iadd, 1) := by decide +kernel
theorem dm_number_12 : mj_dec prog_14_method_5_code 12 = some (.laload, 1) := by decide +kernel
theorem dm_number_13 : mj_dec prog_14_method_5_code 13 = some (.lreturn, 1) := by decide +kernel
set_option maxRecDepth 20000 in
theorem q_number {xt : mj_X} {pre post : mj_H} {m : Nat} {i : Nat → Int32} {l : Nat → Int64} {I : Nat → Nat → Int32} {J : Nat → Nat → Int64} {d : Nat} (hm : pre.length = m) (h2 : 2 ≤ m) {x y : Int32} (hx : ¬ (x < 0 ∨ 310000 ≤ x.toNatClampNeg)) (hy : ¬ (I 1 x.toNatClampNeg + y < 0 ∨ 820000 ≤ (I 1 x.toNatClampNeg + y).toNatClampNeg)) : pgC xt (d + 1) k_number (.ref m :: [.int x, .int y]) (rH pre post m i l I J) (some (.long (J 0 (I 1 x.toNatClampNeg + y).toNatClampNeg))) ((rH pre post m i l I J)) := by
  refine ms_call pm_number (Nat.le_of_ble_eq_true rfl) ?_
  dsimp only
  refine ms1 dm_number_0 rfl rfl rfl rfl ?_
  refine ms3 dm_number_1 (r_get hm h2 rfl rfl) rfl rfl rfl ?_
  refine ms1 dm_number_4 rfl rfl rfl rfl ?_
  refine ms3 dm_number_5 (r_get hm h2 rfl rfl) rfl rfl rfl ?_
  refine ms1 dm_number_8 rfl rfl rfl rfl ?_
  refine ms3 dm_number_9 (r_iald hm h2 rfl rfl hx) rfl rfl rfl ?_
  refine ms1 dm_number_10 rfl rfl rfl rfl ?_
  refine ms0 dm_number_11 rfl rfl rfl rfl ?_
  refine ms3 dm_number_12 (r_lald hm h2 rfl rfl hy) rfl rfl rfl ?_
  exact ms5 dm_number_13 rfl rfl rfl
def k_value : Nat := 246
set_option maxRecDepth 20000 in
theorem pm_value : mj_mmof pg_ms k_value = some ((⟨"ArrayCalculatorModel", "value", "(II)I"⟩, prog_14_method_6_code, 3, (Option.some Jvm.ClassFile.FieldType.int)), 12, false, mj_dec prog_14_method_6_code) := rfl
theorem dm_value_0 : mj_dec prog_14_method_6_code 0 = some (.aload_n 0, 1) := by decide +kernel
theorem dm_value_1 : mj_dec prog_14_method_6_code 1 = some (.getfield 8, 3) := by decide +kernel
theorem dm_value_4 : mj_dec prog_14_method_6_code 4 = some (.aload_n 0, 1) := by decide +kernel
theorem dm_value_5 : mj_dec prog_14_method_6_code 5 = some (.getfield 15, 3) := by decide +kernel
theorem dm_value_8 : mj_dec prog_14_method_6_code 8 = some (.iload_n 1, 1) := by decide +kernel
theorem dm_value_9 : mj_dec prog_14_method_6_code 9 = some (.iaload, 1) := by decide +kernel
theorem dm_value_10 : mj_dec prog_14_method_6_code 10 = some (.iload_n 2, 1) := by decide +kernel
theorem dm_value_11 : mj_dec prog_14_method_6_code 11 = some (.iadd, 1) := by decide +kernel
theorem dm_value_12 : mj_dec prog_14_method_6_code 12 = some (.laload, 1) := by decide +kernel
theorem dm_value_13 : mj_dec prog_14_method_6_code 13 = some (.l2i, 1) := by decide +kernel
theorem dm_value_14 : mj_dec prog_14_method_6_code 14 = some (.ireturn, 1) := by decide +kernel
set_option maxRecDepth 20000 in
theorem q_value {xt : mj_X} {pre post : mj_H} {m : Nat} {i : Nat → Int32} {l : Nat → Int64} {I : Nat → Nat → Int32} {J : Nat → Nat → Int64} {d : Nat} (hm : pre.length = m) (h2 : 2 ≤ m) {x y : Int32} (hx : ¬ (x < 0 ∨ 310000 ≤ x.toNatClampNeg)) (hy : ¬ (I 1 x.toNatClampNeg + y < 0 ∨ 820000 ≤ (I 1 x.toNatClampNeg + y).toNatClampNeg)) : pgC xt (d + 1) k_value (.ref m :: [.int x, .int y]) (rH pre post m i l I J) (some (.int (J 0 (I 1 x.toNatClampNeg + y).toNatClampNeg).toInt32)) ((rH pre post m i l I J)) := by
  refine ms_call pm_value (Nat.le_of_ble_eq_true rfl) ?_
  dsimp only
  refine ms1 dm_value_0 rfl rfl rfl rfl ?_
  refine ms3 dm_value_1 (r_get hm h2 rfl rfl) rfl rfl rfl ?_
  refine ms1 dm_value_4 rfl rfl rfl rfl ?_
  refine ms3 dm_value_5 (r_get hm h2 rfl rfl) rfl rfl rfl ?_
  refine ms1 dm_value_8 rfl rfl rfl rfl ?_
  refine ms3 dm_value_9 (r_iald hm h2 rfl rfl hx) rfl rfl rfl ?_
  refine ms1 dm_value_10 rfl rfl rfl rfl ?_
  refine ms0 dm_value_11 rfl rfl rfl rfl ?_
  refine ms3 dm_value_12 (r_lald hm h2 rfl rfl hy) rfl rfl rfl ?_
  refine ms0 dm_value_13 rfl rfl rfl rfl ?_
  exact ms5 dm_value_14 rfl rfl rfl
/-- view: from[x] = z, shape[x] = y | u << 3 -/
def rView (I : Nat → Nat → Int32) (x y z u : Int32) : Nat → Nat → Int32 := va_up (va_up I 1 (upd (I 1) x.toNatClampNeg z)) 2 (upd (va_up I 1 (upd (I 1) x.toNatClampNeg z) 2) x.toNatClampNeg (y ||| u <<< (3 &&& 31)))
def k_view : Nat := 195
set_option maxRecDepth 20000 in
theorem pm_view : mj_mmof pg_ms k_view = some ((⟨"ArrayCalculatorModel", "view", "(IIII)V"⟩, prog_14_method_7_code, 5, (Option.none : Option Jvm.ClassFile.FieldType)), 12, false, mj_dec prog_14_method_7_code) := rfl
theorem dm_view_0 : mj_dec prog_14_method_7_code 0 = some (.aload_n 0, 1) := by decide +kernel
theorem dm_view_1 : mj_dec prog_14_method_7_code 1 = some (.getfield 15, 3) := by decide +kernel
theorem dm_view_4 : mj_dec prog_14_method_7_code 4 = some (.iload_n 1, 1) := by decide +kernel
theorem dm_view_5 : mj_dec prog_14_method_7_code 5 = some (.iload_n 3, 1) := by decide +kernel
theorem dm_view_6 : mj_dec prog_14_method_7_code 6 = some (.iastore, 1) := by decide +kernel
theorem dm_view_7 : mj_dec prog_14_method_7_code 7 = some (.aload_n 0, 1) := by decide +kernel
theorem dm_view_8 : mj_dec prog_14_method_7_code 8 = some (.getfield 19, 3) := by decide +kernel
theorem dm_view_11 : mj_dec prog_14_method_7_code 11 = some (.iload_n 1, 1) := by decide +kernel
theorem dm_view_12 : mj_dec prog_14_method_7_code 12 = some (.iload_n 2, 1) := by decide +kernel
theorem dm_view_13 : mj_dec prog_14_method_7_code 13 = some (.iload 4, 2) := by decide +kernel
theorem dm_view_15 : mj_dec prog_14_method_7_code 15 = some (.iconst 3, 1) := by decide +kernel
theorem dm_view_16 : mj_dec prog_14_method_7_code 16 = some (.ishl, 1) := by decide +kernel
theorem dm_view_17 : mj_dec prog_14_method_7_code 17 = some (.ior, 1) := by decide +kernel
theorem dm_view_18 : mj_dec prog_14_method_7_code 18 = some (.iastore, 1) := by decide +kernel
theorem dm_view_19 : mj_dec prog_14_method_7_code 19 = some (.return_, 1) := by decide +kernel
set_option maxRecDepth 20000 in
theorem q_view {xt : mj_X} {pre post : mj_H} {m : Nat} {i : Nat → Int32} {l : Nat → Int64} {I : Nat → Nat → Int32} {J : Nat → Nat → Int64} {d : Nat} (hm : pre.length = m) (h2 : 2 ≤ m) {x y z u : Int32} (hx : ¬ (x < 0 ∨ 310000 ≤ x.toNatClampNeg)) : pgC xt (d + 1) k_view (.ref m :: [.int x, .int y, .int z, .int u]) (rH pre post m i l I J) (none) (rH pre post m i l (rView I x y z u) J) := by
  refine ms_call pm_view (Nat.le_of_ble_eq_true rfl) ?_
  dsimp only
  refine ms1 dm_view_0 rfl rfl rfl rfl ?_
  refine ms3 dm_view_1 (r_get hm h2 rfl rfl) rfl rfl rfl ?_
  refine ms1 dm_view_4 rfl rfl rfl rfl ?_
  refine ms1 dm_view_5 rfl rfl rfl rfl ?_
  refine ms3 dm_view_6 (r_iastk (k := 1) hm h2 rfl rfl hx rfl) rfl rfl rfl ?_
  refine ms1 dm_view_7 rfl rfl rfl rfl ?_
  refine ms3 dm_view_8 (r_get hm h2 rfl rfl) rfl rfl rfl ?_
  refine ms1 dm_view_11 rfl rfl rfl rfl ?_
  refine ms1 dm_view_12 rfl rfl rfl rfl ?_
  refine ms1 dm_view_13 rfl rfl rfl rfl ?_
  refine ms0 dm_view_15 rfl rfl rfl rfl ?_
  refine ms0 dm_view_16 rfl rfl rfl rfl ?_
  refine ms0 dm_view_17 rfl rfl rfl rfl ?_
  refine ms3 dm_view_18 (r_iastk (k := 2) hm h2 rfl rfl hx rfl) rfl rfl rfl ?_
  exact ms5 dm_view_19 rfl rfl rfl
def k_seen : Nat := 194
set_option maxRecDepth 20000 in
theorem pm_seen : mj_mmof pg_ms k_seen = some ((⟨"ArrayCalculatorModel", "seen", "(III)I"⟩, prog_14_method_8_code, 4, (Option.some Jvm.ClassFile.FieldType.int)), 12, false, mj_dec prog_14_method_8_code) := rfl
theorem dm_seen_0 : mj_dec prog_14_method_8_code 0 = some (.aload_n 0, 1) := by decide +kernel
theorem dm_seen_1 : mj_dec prog_14_method_8_code 1 = some (.aload_n 0, 1) := by decide +kernel
theorem dm_seen_2 : mj_dec prog_14_method_8_code 2 = some (.getfield 102, 3) := by decide +kernel
theorem dm_seen_5 : mj_dec prog_14_method_8_code 5 = some (.iload_n 1, 1) := by decide +kernel
theorem dm_seen_6 : mj_dec prog_14_method_8_code 6 = some (.iload_n 2, 1) := by decide +kernel
theorem dm_seen_7 : mj_dec prog_14_method_8_code 7 = some (.iload_n 3, 1) := by decide +kernel
theorem dm_seen_8 : mj_dec prog_14_method_8_code 8 = some (.invokevirtual 115, 3) := by decide +kernel
theorem dm_seen_11 : mj_dec prog_14_method_8_code 11 = some (.aload_n 0, 1) := by decide +kernel
theorem dm_seen_12 : mj_dec prog_14_method_8_code 12 = some (.dup, 1) := by decide +kernel
theorem dm_seen_13 : mj_dec prog_14_method_8_code 13 = some (.getfield 102, 3) := by decide +kernel
theorem dm_seen_16 : mj_dec prog_14_method_8_code 16 = some (.iconst 1, 1) := by decide +kernel
theorem dm_seen_17 : mj_dec prog_14_method_8_code 17 = some (.iadd, 1) := by decide +kernel
theorem dm_seen_18 : mj_dec prog_14_method_8_code 18 = some (.putfield 102, 3) := by decide +kernel
theorem dm_seen_21 : mj_dec prog_14_method_8_code 21 = some (.aload_n 0, 1) := by decide +kernel
theorem dm_seen_22 : mj_dec prog_14_method_8_code 22 = some (.getfield 102, 3) := by decide +kernel
theorem dm_seen_25 : mj_dec prog_14_method_8_code 25 = some (.iconst 1, 1) := by decide +kernel
theorem dm_seen_26 : mj_dec prog_14_method_8_code 26 = some (.isub, 1) := by decide +kernel
theorem dm_seen_27 : mj_dec prog_14_method_8_code 27 = some (.ireturn, 1) := by decide +kernel
set_option maxRecDepth 20000 in
theorem q_seen {xt : mj_X} {pre post : mj_H} {m : Nat} {i : Nat → Int32} {l : Nat → Int64} {I : Nat → Nat → Int32} {J : Nat → Nat → Int64} {d : Nat} (hm : pre.length = m) (h2 : 2 ≤ m) {x y z : Int32} (hv : ¬ (i 4 < 0 ∨ 310000 ≤ (i 4).toNatClampNeg)) : pgC xt (d + 2) k_seen (.ref m :: [.int x, .int y, .int z]) (rH pre post m i l I J) (some (.int (i 4 + 1 - 1))) (rH pre post m (upd i 4 (i 4 + 1)) l (rView I (i 4) x y z) J) := by
  refine ms_call pm_seen (Nat.le_of_ble_eq_true rfl) ?_
  dsimp only
  refine ms1 dm_seen_0 rfl rfl rfl rfl ?_
  refine ms1 dm_seen_1 rfl rfl rfl rfl ?_
  refine ms3 dm_seen_2 (r_get hm h2 rfl rfl) rfl rfl rfl ?_
  refine ms1 dm_seen_5 rfl rfl rfl rfl ?_
  refine ms1 dm_seen_6 rfl rfl rfl rfl ?_
  refine ms1 dm_seen_7 rfl rfl rfl rfl ?_
  refine ms4 dm_seen_8 rfl (r_inv (As := [.int (i 4), .int x, .int y, .int z]) hm h2 rfl rfl rfl) (q_view hm h2 hv) rfl rfl rfl ?_
  refine ms1 dm_seen_11 rfl rfl rfl rfl ?_
  refine ms0 dm_seen_12 rfl rfl rfl rfl ?_
  refine ms3 dm_seen_13 (r_get hm h2 rfl rfl) rfl rfl rfl ?_
  refine ms0 dm_seen_16 rfl rfl rfl rfl ?_
  refine ms0 dm_seen_17 rfl rfl rfl rfl ?_
  refine ms3 dm_seen_18 (r_puti hm h2 rfl (by show _ < 60; decide) rfl) rfl rfl rfl ?_
  refine ms1 dm_seen_21 rfl rfl rfl rfl ?_
  refine ms3 dm_seen_22 (r_get hm h2 rfl rfl) rfl rfl rfl ?_
  refine ms0 dm_seen_25 rfl rfl rfl rfl ?_
  refine ms0 dm_seen_26 rfl rfl rfl rfl ?_
  exact ms5 dm_seen_27 rfl rfl rfl
def k_row : Nat := 193
set_option maxRecDepth 20000 in
theorem pm_row : mj_mmof pg_ms k_row = some ((⟨"ArrayCalculatorModel", "row", "(II)I"⟩, prog_14_method_9_code, 3, (Option.some Jvm.ClassFile.FieldType.int)), 12, false, mj_dec prog_14_method_9_code) := rfl
theorem dm_row_0 : mj_dec prog_14_method_9_code 0 = some (.aload_n 0, 1) := by decide +kernel
theorem dm_row_1 : mj_dec prog_14_method_9_code 1 = some (.dup, 1) := by decide +kernel
theorem dm_row_2 : mj_dec prog_14_method_9_code 2 = some (.getfield 119, 3) := by decide +kernel
theorem dm_row_5 : mj_dec prog_14_method_9_code 5 = some (.iload_n 2, 1) := by decide +kernel
theorem dm_row_6 : mj_dec prog_14_method_9_code 6 = some (.iadd, 1) := by decide +kernel
theorem dm_row_7 : mj_dec prog_14_method_9_code 7 = some (.putfield 119, 3) := by decide +kernel
theorem dm_row_10 : mj_dec prog_14_method_9_code 10 = some (.aload_n 0, 1) := by decide +kernel
theorem dm_row_11 : mj_dec prog_14_method_9_code 11 = some (.iload_n 1, 1) := by decide +kernel
theorem dm_row_12 : mj_dec prog_14_method_9_code 12 = some (.aload_n 0, 1) := by decide +kernel
theorem dm_row_13 : mj_dec prog_14_method_9_code 13 = some (.getfield 119, 3) := by decide +kernel
theorem dm_row_16 : mj_dec prog_14_method_9_code 16 = some (.iload_n 2, 1) := by decide +kernel
theorem dm_row_17 : mj_dec prog_14_method_9_code 17 = some (.isub, 1) := by decide +kernel
theorem dm_row_18 : mj_dec prog_14_method_9_code 18 = some (.iload_n 2, 1) := by decide +kernel
theorem dm_row_19 : mj_dec prog_14_method_9_code 19 = some (.invokevirtual 122, 3) := by decide +kernel
theorem dm_row_22 : mj_dec prog_14_method_9_code 22 = some (.ireturn, 1) := by decide +kernel
set_option maxRecDepth 20000 in
theorem q_row {xt : mj_X} {pre post : mj_H} {m : Nat} {i : Nat → Int32} {l : Nat → Int64} {I : Nat → Nat → Int32} {J : Nat → Nat → Int64} {d : Nat} (hm : pre.length = m) (h2 : 2 ≤ m) {x y : Int32} (hv : ¬ (i 4 < 0 ∨ 310000 ≤ (i 4).toNatClampNeg)) : pgC xt (d + 3) k_row (.ref m :: [.int x, .int y]) (rH pre post m i l I J) (some (.int (i 4 + 1 - 1))) (rH pre post m (upd (upd i 3 (i 3 + y)) 4 (i 4 + 1)) l (rView I (i 4) x (i 3 + y - y) y) J) := by
  refine ms_call pm_row (Nat.le_of_ble_eq_true rfl) ?_
  dsimp only
  refine ms1 dm_row_0 rfl rfl rfl rfl ?_
  refine ms0 dm_row_1 rfl rfl rfl rfl ?_
  refine ms3 dm_row_2 (r_get hm h2 rfl rfl) rfl rfl rfl ?_
  refine ms1 dm_row_5 rfl rfl rfl rfl ?_
  refine ms0 dm_row_6 rfl rfl rfl rfl ?_
  refine ms3 dm_row_7 (r_puti hm h2 rfl (by show _ < 60; decide) rfl) rfl rfl rfl ?_
  refine ms1 dm_row_10 rfl rfl rfl rfl ?_
  refine ms1 dm_row_11 rfl rfl rfl rfl ?_
  refine ms1 dm_row_12 rfl rfl rfl rfl ?_
  refine ms3 dm_row_13 (r_get hm h2 rfl rfl) rfl rfl rfl ?_
  refine ms1 dm_row_16 rfl rfl rfl rfl ?_
  refine ms0 dm_row_17 rfl rfl rfl rfl ?_
  refine ms1 dm_row_18 rfl rfl rfl rfl ?_
  refine ms4 dm_row_19 rfl (r_inv (As := [.int x, .int (i 3 + y - y), .int y]) hm h2 rfl rfl rfl) (q_seen (i := upd i 3 (i 3 + y)) hm h2 hv) rfl rfl rfl ?_
  exact ms5 dm_row_22 rfl rfl rfl
