/-! printed by wip/decomp.py: methods of the reference as functions of its numbers -/
def k_kindOf : Nat := 241
set_option maxRecDepth 20000 in
theorem pm_kindOf : mj_mmof pg_ms k_kindOf = some ((⟨"ArrayCalculatorModel", "kindOf", "(I)I"⟩, prog_14_method_2_code, 2, (Option.some Jvm.ClassFile.FieldType.int)), 12, false, mj_dec prog_14_method_2_code) := rfl
theorem dm_kindOf_0 : mj_dec prog_14_method_2_code 0 = some (.aload_n 0, 1) := by decide +kernel
theorem dm_kindOf_1 : mj_dec prog_14_method_2_code 1 = some (.getfield 19, 3) := by decide +kernel
theorem dm_kindOf_4 : mj_dec prog_14_method_2_code 4 = some (.iload_n 1, 1) := by decide +kernel
theorem dm_kindOf_5 : mj_dec prog_14_method_2_code 5 = some (.iaload, 1) := by decide +kernel
theorem dm_kindOf_6 : mj_dec prog_14_method_2_code 6 = some (.bipush 7, 2) := by decide +kernel
theorem dm_kindOf_8 : mj_dec prog_14_method_2_code 8 = some (.iand, 1) := by decide +kernel
theorem dm_kindOf_9 : mj_dec prog_14_method_2_code 9 = some (.ireturn, 1) := by decide +kernel
def a_kindOf (i : Nat → Int32) (l : Nat → Int64) (I : Nat → Nat → Int32) (J : Nat → Nat → Int64) (p0 : Int32) : Int32 := ((I 2 (p0).toNatClampNeg) &&& (7 : Int32))
def ok_kindOf (i : Nat → Int32) (l : Nat → Int64) (I : Nat → Nat → Int32) (J : Nat → Nat → Int64) (p0 : Int32) : Prop := (¬ (p0 < 0 ∨ 310000 ≤ (p0).toNatClampNeg) ∧ True)
set_option maxRecDepth 20000 in
theorem q_kindOf {xt : mj_X} {pre post : mj_H} {m : Nat} {i : Nat → Int32} {l : Nat → Int64} {I : Nat → Nat → Int32} {J : Nat → Nat → Int64} {d : Nat} (hm : pre.length = m) (h2 : 2 ≤ m) {p0 : Int32} (hok : ok_kindOf i l I J p0) : pgC xt (d + 1) k_kindOf (.ref m :: [.int p0]) (rH pre post m i l I J) (some (.int (a_kindOf i l I J p0))) (rH pre post m i l I J) := by
  unfold ok_kindOf at hok
  refine ms_call pm_kindOf (Nat.le_of_ble_eq_true rfl) ?_
  dsimp only
  refine ms1 dm_kindOf_0 rfl rfl rfl rfl ?_
  refine ms3 dm_kindOf_1 (r_get hm h2 rfl (rg_2 _ _ _)) rfl rfl rfl ?_
  refine ms1 dm_kindOf_4 rfl rfl rfl rfl ?_
  obtain ⟨ho, hok⟩ := hok
  refine ms3 dm_kindOf_5 (r_iald hm h2 (rc_2 _ _ _ _ _) rfl ho) rfl rfl rfl ?_
  refine ms0 (S' := .int (7 : Int32) :: _) dm_kindOf_6 rfl rfl rfl rfl ?_
  refine ms0 dm_kindOf_8 rfl rfl rfl rfl ?_
  exact ms5 dm_kindOf_9 rfl rfl rfl
def k_many : Nat := 221
set_option maxRecDepth 20000 in
theorem pm_many : mj_mmof pg_ms k_many = some ((⟨"ArrayCalculatorModel", "many", "(I)I"⟩, prog_14_method_3_code, 2, (Option.some Jvm.ClassFile.FieldType.int)), 12, false, mj_dec prog_14_method_3_code) := rfl
theorem dm_many_0 : mj_dec prog_14_method_3_code 0 = some (.aload_n 0, 1) := by decide +kernel
theorem dm_many_1 : mj_dec prog_14_method_3_code 1 = some (.getfield 19, 3) := by decide +kernel
theorem dm_many_4 : mj_dec prog_14_method_3_code 4 = some (.iload_n 1, 1) := by decide +kernel
theorem dm_many_5 : mj_dec prog_14_method_3_code 5 = some (.iaload, 1) := by decide +kernel
theorem dm_many_6 : mj_dec prog_14_method_3_code 6 = some (.iconst 3, 1) := by decide +kernel
theorem dm_many_7 : mj_dec prog_14_method_3_code 7 = some (.ishr, 1) := by decide +kernel
theorem dm_many_8 : mj_dec prog_14_method_3_code 8 = some (.sipush 255, 3) := by decide +kernel
theorem dm_many_11 : mj_dec prog_14_method_3_code 11 = some (.iand, 1) := by decide +kernel
theorem dm_many_12 : mj_dec prog_14_method_3_code 12 = some (.ireturn, 1) := by decide +kernel
def a_many (i : Nat → Int32) (l : Nat → Int64) (I : Nat → Nat → Int32) (J : Nat → Nat → Int64) (p0 : Int32) : Int32 := (((I 2 (p0).toNatClampNeg) >>> ((3 : Int32) &&& 31)) &&& (255 : Int32))
def ok_many (i : Nat → Int32) (l : Nat → Int64) (I : Nat → Nat → Int32) (J : Nat → Nat → Int64) (p0 : Int32) : Prop := (¬ (p0 < 0 ∨ 310000 ≤ (p0).toNatClampNeg) ∧ True)
set_option maxRecDepth 20000 in
theorem q_many {xt : mj_X} {pre post : mj_H} {m : Nat} {i : Nat → Int32} {l : Nat → Int64} {I : Nat → Nat → Int32} {J : Nat → Nat → Int64} {d : Nat} (hm : pre.length = m) (h2 : 2 ≤ m) {p0 : Int32} (hok : ok_many i l I J p0) : pgC xt (d + 1) k_many (.ref m :: [.int p0]) (rH pre post m i l I J) (some (.int (a_many i l I J p0))) (rH pre post m i l I J) := by
  unfold ok_many at hok
  refine ms_call pm_many (Nat.le_of_ble_eq_true rfl) ?_
  dsimp only
  refine ms1 dm_many_0 rfl rfl rfl rfl ?_
  refine ms3 dm_many_1 (r_get hm h2 rfl (rg_2 _ _ _)) rfl rfl rfl ?_
  refine ms1 dm_many_4 rfl rfl rfl rfl ?_
  obtain ⟨ho, hok⟩ := hok
  refine ms3 dm_many_5 (r_iald hm h2 (rc_2 _ _ _ _ _) rfl ho) rfl rfl rfl ?_
  refine ms0 (S' := .int (3 : Int32) :: _) dm_many_6 rfl rfl rfl rfl ?_
  refine ms0 dm_many_7 rfl rfl rfl rfl ?_
  refine ms0 (S' := .int (255 : Int32) :: _) dm_many_8 rfl rfl rfl rfl ?_
  refine ms0 dm_many_11 rfl rfl rfl rfl ?_
  exact ms5 dm_many_12 rfl rfl rfl
def k_columns : Nat := 245
set_option maxRecDepth 20000 in
theorem pm_columns : mj_mmof pg_ms k_columns = some ((⟨"ArrayCalculatorModel", "columns", "(I)I"⟩, prog_14_method_4_code, 2, (Option.some Jvm.ClassFile.FieldType.int)), 12, false, mj_dec prog_14_method_4_code) := rfl
theorem dm_columns_0 : mj_dec prog_14_method_4_code 0 = some (.aload_n 0, 1) := by decide +kernel
theorem dm_columns_1 : mj_dec prog_14_method_4_code 1 = some (.getfield 19, 3) := by decide +kernel
theorem dm_columns_4 : mj_dec prog_14_method_4_code 4 = some (.iload_n 1, 1) := by decide +kernel
theorem dm_columns_5 : mj_dec prog_14_method_4_code 5 = some (.iaload, 1) := by decide +kernel
theorem dm_columns_6 : mj_dec prog_14_method_4_code 6 = some (.bipush 11, 2) := by decide +kernel
theorem dm_columns_8 : mj_dec prog_14_method_4_code 8 = some (.ishr, 1) := by decide +kernel
theorem dm_columns_9 : mj_dec prog_14_method_4_code 9 = some (.ireturn, 1) := by decide +kernel
def a_columns (i : Nat → Int32) (l : Nat → Int64) (I : Nat → Nat → Int32) (J : Nat → Nat → Int64) (p0 : Int32) : Int32 := ((I 2 (p0).toNatClampNeg) >>> ((11 : Int32) &&& 31))
def ok_columns (i : Nat → Int32) (l : Nat → Int64) (I : Nat → Nat → Int32) (J : Nat → Nat → Int64) (p0 : Int32) : Prop := (¬ (p0 < 0 ∨ 310000 ≤ (p0).toNatClampNeg) ∧ True)
set_option maxRecDepth 20000 in
theorem q_columns {xt : mj_X} {pre post : mj_H} {m : Nat} {i : Nat → Int32} {l : Nat → Int64} {I : Nat → Nat → Int32} {J : Nat → Nat → Int64} {d : Nat} (hm : pre.length = m) (h2 : 2 ≤ m) {p0 : Int32} (hok : ok_columns i l I J p0) : pgC xt (d + 1) k_columns (.ref m :: [.int p0]) (rH pre post m i l I J) (some (.int (a_columns i l I J p0))) (rH pre post m i l I J) := by
  unfold ok_columns at hok
  refine ms_call pm_columns (Nat.le_of_ble_eq_true rfl) ?_
  dsimp only
  refine ms1 dm_columns_0 rfl rfl rfl rfl ?_
  refine ms3 dm_columns_1 (r_get hm h2 rfl (rg_2 _ _ _)) rfl rfl rfl ?_
  refine ms1 dm_columns_4 rfl rfl rfl rfl ?_
  obtain ⟨ho, hok⟩ := hok
  refine ms3 dm_columns_5 (r_iald hm h2 (rc_2 _ _ _ _ _) rfl ho) rfl rfl rfl ?_
  refine ms0 (S' := .int (11 : Int32) :: _) dm_columns_6 rfl rfl rfl rfl ?_
  refine ms0 dm_columns_8 rfl rfl rfl rfl ?_
  exact ms5 dm_columns_9 rfl rfl rfl
def k_number : Nat := 222
set_option maxRecDepth 20000 in
theorem pm_number : mj_mmof pg_ms k_number = some ((⟨"ArrayCalculatorModel", "number", "(II)J"⟩, prog_14_method_5_code, 3, (Option.some Jvm.ClassFile.FieldType.long)), 12, false, mj_dec prog_14_method_5_code) := rfl
theorem dm_number_0 : mj_dec prog_14_method_5_code 0 = some (.aload_n 0, 1) := by decide +kernel
theorem dm_number_1 : mj_dec prog_14_method_5_code 1 = some (.getfield 8, 3) := by decide +kernel
theorem dm_number_4 : mj_dec prog_14_method_5_code 4 = some (.aload_n 0, 1) := by decide +kernel
theorem dm_number_5 : mj_dec prog_14_method_5_code 5 = some (.getfield 15, 3) := by decide +kernel
theorem dm_number_8 : mj_dec prog_14_method_5_code 8 = some (.iload_n 1, 1) := by decide +kernel
theorem dm_number_9 : mj_dec prog_14_method_5_code 9 = some (.iaload, 1) := by decide +kernel
theorem dm_number_10 : mj_dec prog_14_method_5_code 10 = some (.iload_n 2, 1) := by decide +kernel
theorem dm_number_11 : mj_dec prog_14_method_5_code 11 = some (.iadd, 1) := by decide +kernel
theorem dm_number_12 : mj_dec prog_14_method_5_code 12 = some (.laload, 1) := by decide +kernel
theorem dm_number_13 : mj_dec prog_14_method_5_code 13 = some (.lreturn, 1) := by decide +kernel
def a_number (i : Nat → Int32) (l : Nat → Int64) (I : Nat → Nat → Int32) (J : Nat → Nat → Int64) (p0 : Int32) (p1 : Int32) : Int64 := (J 0 (((I 1 (p0).toNatClampNeg) + p1)).toNatClampNeg)
def ok_number (i : Nat → Int32) (l : Nat → Int64) (I : Nat → Nat → Int32) (J : Nat → Nat → Int64) (p0 : Int32) (p1 : Int32) : Prop := (¬ (p0 < 0 ∨ 310000 ≤ (p0).toNatClampNeg) ∧ (¬ (((I 1 (p0).toNatClampNeg) + p1) < 0 ∨ 820000 ≤ (((I 1 (p0).toNatClampNeg) + p1)).toNatClampNeg) ∧ True))
set_option maxRecDepth 20000 in
theorem q_number {xt : mj_X} {pre post : mj_H} {m : Nat} {i : Nat → Int32} {l : Nat → Int64} {I : Nat → Nat → Int32} {J : Nat → Nat → Int64} {d : Nat} (hm : pre.length = m) (h2 : 2 ≤ m) {p0 : Int32} {p1 : Int32} (hok : ok_number i l I J p0 p1) : pgC xt (d + 1) k_number (.ref m :: [.int p0, .int p1]) (rH pre post m i l I J) (some (.long (a_number i l I J p0 p1))) (rH pre post m i l I J) := by
  unfold ok_number at hok
  refine ms_call pm_number (Nat.le_of_ble_eq_true rfl) ?_
  dsimp only
  refine ms1 dm_number_0 rfl rfl rfl rfl ?_
  refine ms3 dm_number_1 (r_get hm h2 rfl (rg_0 _ _ _)) rfl rfl rfl ?_
  refine ms1 dm_number_4 rfl rfl rfl rfl ?_
  refine ms3 dm_number_5 (r_get hm h2 rfl (rg_1 _ _ _)) rfl rfl rfl ?_
  refine ms1 dm_number_8 rfl rfl rfl rfl ?_
  obtain ⟨ho, hok⟩ := hok
  refine ms3 dm_number_9 (r_iald hm h2 (rc_1 _ _ _ _ _) rfl ho) rfl rfl rfl ?_
  refine ms1 dm_number_10 rfl rfl rfl rfl ?_
  refine ms0 dm_number_11 rfl rfl rfl rfl ?_
  obtain ⟨ho, hok⟩ := hok
  refine ms3 dm_number_12 (r_lald hm h2 (rc_0 _ _ _ _ _) rfl ho) rfl rfl rfl ?_
  exact ms5 dm_number_13 rfl rfl rfl
def k_value : Nat := 246
set_option maxRecDepth 20000 in
theorem pm_value : mj_mmof pg_ms k_value = some ((⟨"ArrayCalculatorModel", "value", "(II)I"⟩, prog_14_method_6_code, 3, (Option.some Jvm.ClassFile.FieldType.int)), 12, false, mj_dec prog_14_method_6_code) := rfl
theorem dm_value_0 : mj_dec prog_14_method_6_code 0 = some (.aload_n 0, 1) := by decide +kernel
theorem dm_value_1 : mj_dec prog_14_method_6_code 1 = some (.getfield 8, 3) := by decide +kernel
theorem dm_value_4 : mj_dec prog_14_method_6_code 4 = some (.aload_n 0, 1) := by decide +kernel
theorem dm_value_5 : mj_dec prog_14_method_6_code 5 = some (.getfield 15, 3) := by decide +kernel
theorem dm_value_8 : mj_dec prog_14_method_6_code 8 = some (.iload_n 1, 1) := by decide +kernel
theorem dm_value_9 : mj_dec prog_14_method_6_code 9 = some (.iaload, 1) := by decide +kernel
theorem dm_value_10 : mj_dec prog_14_method_6_code 10 = some (.iload_n 2, 1) := by decide +kernel
theorem dm_value_11 : mj_dec prog_14_method_6_code 11 = some (.iadd, 1) := by decide +kernel
theorem dm_value_12 : mj_dec prog_14_method_6_code 12 = some (.laload, 1) := by decide +kernel
theorem dm_value_13 : mj_dec prog_14_method_6_code 13 = some (.l2i, 1) := by decide +kernel
theorem dm_value_14 : mj_dec prog_14_method_6_code 14 = some (.ireturn, 1) := by decide +kernel
def a_value (i : Nat → Int32) (l : Nat → Int64) (I : Nat → Nat → Int32) (J : Nat → Nat → Int64) (p0 : Int32) (p1 : Int32) : Int32 := ((J 0 (((I 1 (p0).toNatClampNeg) + p1)).toNatClampNeg)).toInt32
def ok_value (i : Nat → Int32) (l : Nat → Int64) (I : Nat → Nat → Int32) (J : Nat → Nat → Int64) (p0 : Int32) (p1 : Int32) : Prop := (¬ (p0 < 0 ∨ 310000 ≤ (p0).toNatClampNeg) ∧ (¬ (((I 1 (p0).toNatClampNeg) + p1) < 0 ∨ 820000 ≤ (((I 1 (p0).toNatClampNeg) + p1)).toNatClampNeg) ∧ True))
set_option maxRecDepth 20000 in
theorem q_value {xt : mj_X} {pre post : mj_H} {m : Nat} {i : Nat → Int32} {l : Nat → Int64} {I : Nat → Nat → Int32} {J : Nat → Nat → Int64} {d : Nat} (hm : pre.length = m) (h2 : 2 ≤ m) {p0 : Int32} {p1 : Int32} (hok : ok_value i l I J p0 p1) : pgC xt (d + 1) k_value (.ref m :: [.int p0, .int p1]) (rH pre post m i l I J) (some (.int (a_value i l I J p0 p1))) (rH pre post m i l I J) := by
  unfold ok_value at hok
  refine ms_call pm_value (Nat.le_of_ble_eq_true rfl) ?_
  dsimp only
  refine ms1 dm_value_0 rfl rfl rfl rfl ?_
  refine ms3 dm_value_1 (r_get hm h2 rfl (rg_0 _ _ _)) rfl rfl rfl ?_
  refine ms1 dm_value_4 rfl rfl rfl rfl ?_
  refine ms3 dm_value_5 (r_get hm h2 rfl (rg_1 _ _ _)) rfl rfl rfl ?_
  refine ms1 dm_value_8 rfl rfl rfl rfl ?_
  obtain ⟨ho, hok⟩ := hok
  refine ms3 dm_value_9 (r_iald hm h2 (rc_1 _ _ _ _ _) rfl ho) rfl rfl rfl ?_
  refine ms1 dm_value_10 rfl rfl rfl rfl ?_
  refine ms0 dm_value_11 rfl rfl rfl rfl ?_
  obtain ⟨ho, hok⟩ := hok
  refine ms3 dm_value_12 (r_lald hm h2 (rc_0 _ _ _ _ _) rfl ho) rfl rfl rfl ?_
  refine ms0 dm_value_13 rfl rfl rfl rfl ?_
  exact ms5 dm_value_14 rfl rfl rfl
def k_view : Nat := 195
set_option maxRecDepth 20000 in
theorem pm_view : mj_mmof pg_ms k_view = some ((⟨"ArrayCalculatorModel", "view", "(IIII)V"⟩, prog_14_method_7_code, 5, (Option.none : Option Jvm.ClassFile.FieldType)), 12, false, mj_dec prog_14_method_7_code) := rfl
theorem dm_view_0 : mj_dec prog_14_method_7_code 0 = some (.aload_n 0, 1) := by decide +kernel
theorem dm_view_1 : mj_dec prog_14_method_7_code 1 = some (.getfield 15, 3) := by decide +kernel
theorem dm_view_4 : mj_dec prog_14_method_7_code 4 = some (.iload_n 1, 1) := by decide +kernel
theorem dm_view_5 : mj_dec prog_14_method_7_code 5 = some (.iload_n 3, 1) := by decide +kernel
theorem dm_view_6 : mj_dec prog_14_method_7_code 6 = some (.iastore, 1) := by decide +kernel
theorem dm_view_7 : mj_dec prog_14_method_7_code 7 = some (.aload_n 0, 1) := by decide +kernel
theorem dm_view_8 : mj_dec prog_14_method_7_code 8 = some (.getfield 19, 3) := by decide +kernel
theorem dm_view_11 : mj_dec prog_14_method_7_code 11 = some (.iload_n 1, 1) := by decide +kernel
theorem dm_view_12 : mj_dec prog_14_method_7_code 12 = some (.iload_n 2, 1) := by decide +kernel
theorem dm_view_13 : mj_dec prog_14_method_7_code 13 = some (.iload 4, 2) := by decide +kernel
theorem dm_view_15 : mj_dec prog_14_method_7_code 15 = some (.iconst 3, 1) := by decide +kernel
theorem dm_view_16 : mj_dec prog_14_method_7_code 16 = some (.ishl, 1) := by decide +kernel
theorem dm_view_17 : mj_dec prog_14_method_7_code 17 = some (.ior, 1) := by decide +kernel
theorem dm_view_18 : mj_dec prog_14_method_7_code 18 = some (.iastore, 1) := by decide +kernel
theorem dm_view_19 : mj_dec prog_14_method_7_code 19 = some (.return_, 1) := by decide +kernel
def sI_view (i : Nat → Int32) (l : Nat → Int64) (I : Nat → Nat → Int32) (J : Nat → Nat → Int64) (p0 : Int32) (p1 : Int32) (p2 : Int32) (p3 : Int32) : Nat → Nat → Int32 := (va_up (va_up I 1 (upd (I 1) (p0).toNatClampNeg p2)) 2 (upd ((va_up I 1 (upd (I 1) (p0).toNatClampNeg p2)) 2) (p0).toNatClampNeg (p1 ||| (p3 <<< ((3 : Int32) &&& 31)))))
def ok_view (i : Nat → Int32) (l : Nat → Int64) (I : Nat → Nat → Int32) (J : Nat → Nat → Int64) (p0 : Int32) (p1 : Int32) (p2 : Int32) (p3 : Int32) : Prop := (¬ (p0 < 0 ∨ 310000 ≤ (p0).toNatClampNeg) ∧ (¬ (p0 < 0 ∨ 310000 ≤ (p0).toNatClampNeg) ∧ True))
set_option maxRecDepth 20000 in
theorem q_view {xt : mj_X} {pre post : mj_H} {m : Nat} {i : Nat → Int32} {l : Nat → Int64} {I : Nat → Nat → Int32} {J : Nat → Nat → Int64} {d : Nat} (hm : pre.length = m) (h2 : 2 ≤ m) {p0 : Int32} {p1 : Int32} {p2 : Int32} {p3 : Int32} (hok : ok_view i l I J p0 p1 p2 p3) : pgC xt (d + 1) k_view (.ref m :: [.int p0, .int p1, .int p2, .int p3]) (rH pre post m i l I J) none (rH pre post m i l (sI_view i l I J p0 p1 p2 p3) J) := by
  unfold ok_view at hok
  refine ms_call pm_view (Nat.le_of_ble_eq_true rfl) ?_
  dsimp only
  refine ms1 dm_view_0 rfl rfl rfl rfl ?_
  refine ms3 dm_view_1 (r_get hm h2 rfl (rg_1 _ _ _)) rfl rfl rfl ?_
  refine ms1 dm_view_4 rfl rfl rfl rfl ?_
  refine ms1 dm_view_5 rfl rfl rfl rfl ?_
  obtain ⟨ho, hok⟩ := hok
  refine ms3 dm_view_6 (r_iastk (k := 1) hm h2 (rc_1 _ _ _ _ _) rfl ho (rs_1 _ _ _ _ _ _)) rfl rfl rfl ?_
  refine ms1 dm_view_7 rfl rfl rfl rfl ?_
  refine ms3 dm_view_8 (r_get hm h2 rfl (rg_2 _ _ _)) rfl rfl rfl ?_
  refine ms1 dm_view_11 rfl rfl rfl rfl ?_
  refine ms1 dm_view_12 rfl rfl rfl rfl ?_
  refine ms1 dm_view_13 rfl rfl rfl rfl ?_
  refine ms0 (S' := .int (3 : Int32) :: _) dm_view_15 rfl rfl rfl rfl ?_
  refine ms0 dm_view_16 rfl rfl rfl rfl ?_
  refine ms0 dm_view_17 rfl rfl rfl rfl ?_
  obtain ⟨ho, hok⟩ := hok
  refine ms3 dm_view_18 (r_iastk (k := 2) hm h2 (rc_2 _ _ _ _ _) rfl ho (rs_2 _ _ _ _ _ _)) rfl rfl rfl ?_
  exact ms5 dm_view_19 rfl rfl rfl
def k_seen : Nat := 194
set_option maxRecDepth 20000 in
theorem pm_seen : mj_mmof pg_ms k_seen = some ((⟨"ArrayCalculatorModel", "seen", "(III)I"⟩, prog_14_method_8_code, 4, (Option.some Jvm.ClassFile.FieldType.int)), 12, false, mj_dec prog_14_method_8_code) := rfl
theorem dm_seen_0 : mj_dec prog_14_method_8_code 0 = some (.aload_n 0, 1) := by decide +kernel
theorem dm_seen_1 : mj_dec prog_14_method_8_code 1 = some (.aload_n 0, 1) := by decide +kernel
theorem dm_seen_2 : mj_dec prog_14_method_8_code 2 = some (.getfield 102, 3) := by decide +kernel
theorem dm_seen_5 : mj_dec prog_14_method_8_code 5 = some (.iload_n 1, 1) := by decide +kernel
theorem dm_seen_6 : mj_dec prog_14_method_8_code 6 = some (.iload_n 2, 1) := by decide +kernel
theorem dm_seen_7 : mj_dec prog_14_method_8_code 7 = some (.iload_n 3, 1) := by decide +kernel
theorem dm_seen_8 : mj_dec prog_14_method_8_code 8 = some (.invokevirtual 115, 3) := by decide +kernel
theorem dm_seen_11 : mj_dec prog_14_method_8_code 11 = some (.aload_n 0, 1) := by decide +kernel
theorem dm_seen_12 : mj_dec prog_14_method_8_code 12 = some (.dup, 1) := by decide +kernel
theorem dm_seen_13 : mj_dec prog_14_method_8_code 13 = some (.getfield 102, 3) := by decide +kernel
theorem dm_seen_16 : mj_dec prog_14_method_8_code 16 = some (.iconst 1, 1) := by decide +kernel
theorem dm_seen_17 : mj_dec prog_14_method_8_code 17 = some (.iadd, 1) := by decide +kernel
theorem dm_seen_18 : mj_dec prog_14_method_8_code 18 = some (.putfield 102, 3) := by decide +kernel
theorem dm_seen_21 : mj_dec prog_14_method_8_code 21 = some (.aload_n 0, 1) := by decide +kernel
theorem dm_seen_22 : mj_dec prog_14_method_8_code 22 = some (.getfield 102, 3) := by decide +kernel
theorem dm_seen_25 : mj_dec prog_14_method_8_code 25 = some (.iconst 1, 1) := by decide +kernel
theorem dm_seen_26 : mj_dec prog_14_method_8_code 26 = some (.isub, 1) := by decide +kernel
theorem dm_seen_27 : mj_dec prog_14_method_8_code 27 = some (.ireturn, 1) := by decide +kernel
def a_seen (i : Nat → Int32) (l : Nat → Int64) (I : Nat → Nat → Int32) (J : Nat → Nat → Int64) (p0 : Int32) (p1 : Int32) (p2 : Int32) : Int32 := (((i 4) + (1 : Int32)) - (1 : Int32))
def si_seen (i : Nat → Int32) (l : Nat → Int64) (I : Nat → Nat → Int32) (J : Nat → Nat → Int64) (p0 : Int32) (p1 : Int32) (p2 : Int32) : Nat → Int32 := (upd i 4 ((i 4) + (1 : Int32)))
def sI_seen (i : Nat → Int32) (l : Nat → Int64) (I : Nat → Nat → Int32) (J : Nat → Nat → Int64) (p0 : Int32) (p1 : Int32) (p2 : Int32) : Nat → Nat → Int32 := (sI_view i l I J (i 4) p0 p1 p2)
def ok_seen (i : Nat → Int32) (l : Nat → Int64) (I : Nat → Nat → Int32) (J : Nat → Nat → Int64) (p0 : Int32) (p1 : Int32) (p2 : Int32) : Prop := (ok_view i l I J (i 4) p0 p1 p2 ∧ True)
set_option maxRecDepth 20000 in
theorem q_seen {xt : mj_X} {pre post : mj_H} {m : Nat} {i : Nat → Int32} {l : Nat → Int64} {I : Nat → Nat → Int32} {J : Nat → Nat → Int64} {d : Nat} (hm : pre.length = m) (h2 : 2 ≤ m) {p0 : Int32} {p1 : Int32} {p2 : Int32} (hok : ok_seen i l I J p0 p1 p2) : pgC xt (d + 2) k_seen (.ref m :: [.int p0, .int p1, .int p2]) (rH pre post m i l I J) (some (.int (a_seen i l I J p0 p1 p2))) (rH pre post m (si_seen i l I J p0 p1 p2) l (sI_seen i l I J p0 p1 p2) J) := by
  unfold ok_seen at hok
  refine ms_call pm_seen (Nat.le_of_ble_eq_true rfl) ?_
  dsimp only
  refine ms1 dm_seen_0 rfl rfl rfl rfl ?_
  refine ms1 dm_seen_1 rfl rfl rfl rfl ?_
  refine ms3 dm_seen_2 (r_get (v := .int (i 4)) hm h2 rfl (rg_4 _ _ _)) rfl rfl rfl ?_
  refine ms1 dm_seen_5 rfl rfl rfl rfl ?_
  refine ms1 dm_seen_6 rfl rfl rfl rfl ?_
  refine ms1 dm_seen_7 rfl rfl rfl rfl ?_
  obtain ⟨ho, hok⟩ := hok
  refine ms4 dm_seen_8 rfl (r_inv (As := [.int (i 4), .int p0, .int p1, .int p2]) hm h2 rfl rfl rfl) (q_view hm h2 ho) rfl rfl rfl ?_
  refine ms1 dm_seen_11 rfl rfl rfl rfl ?_
  refine ms0 dm_seen_12 rfl rfl rfl rfl ?_
  refine ms3 dm_seen_13 (r_get (v := .int (i 4)) hm h2 rfl (rg_4 _ _ _)) rfl rfl rfl ?_
  refine ms0 (S' := .int (1 : Int32) :: _) dm_seen_16 rfl rfl rfl rfl ?_
  refine ms0 dm_seen_17 rfl rfl rfl rfl ?_
  refine ms3 dm_seen_18 (r_puti hm h2 rfl (rF_lt 4 rfl) (rf_4 _ _ _ _)) rfl rfl rfl ?_
  refine ms1 dm_seen_21 rfl rfl rfl rfl ?_
  refine ms3 dm_seen_22 (r_get (v := .int ((i 4) + (1 : Int32))) hm h2 rfl (rg_4 _ _ _)) rfl rfl rfl ?_
  refine ms0 (S' := .int (1 : Int32) :: _) dm_seen_25 rfl rfl rfl rfl ?_
  refine ms0 dm_seen_26 rfl rfl rfl rfl ?_
  exact ms5 dm_seen_27 rfl rfl rfl
def k_row : Nat := 193
set_option maxRecDepth 20000 in
theorem pm_row : mj_mmof pg_ms k_row = some ((⟨"ArrayCalculatorModel", "row", "(II)I"⟩, prog_14_method_9_code, 3, (Option.some Jvm.ClassFile.FieldType.int)), 12, false, mj_dec prog_14_method_9_code) := rfl
theorem dm_row_0 : mj_dec prog_14_method_9_code 0 = some (.aload_n 0, 1) := by decide +kernel
theorem dm_row_1 : mj_dec prog_14_method_9_code 1 = some (.dup, 1) := by decide +kernel
theorem dm_row_2 : mj_dec prog_14_method_9_code 2 = some (.getfield 119, 3) := by decide +kernel
theorem dm_row_5 : mj_dec prog_14_method_9_code 5 = some (.iload_n 2, 1) := by decide +kernel
theorem dm_row_6 : mj_dec prog_14_method_9_code 6 = some (.iadd, 1) := by decide +kernel
theorem dm_row_7 : mj_dec prog_14_method_9_code 7 = some (.putfield 119, 3) := by decide +kernel
theorem dm_row_10 : mj_dec prog_14_method_9_code 10 = some (.aload_n 0, 1) := by decide +kernel
theorem dm_row_11 : mj_dec prog_14_method_9_code 11 = some (.iload_n 1, 1) := by decide +kernel
theorem dm_row_12 : mj_dec prog_14_method_9_code 12 = some (.aload_n 0, 1) := by decide +kernel
theorem dm_row_13 : mj_dec prog_14_method_9_code 13 = some (.getfield 119, 3) := by decide +kernel
theorem dm_row_16 : mj_dec prog_14_method_9_code 16 = some (.iload_n 2, 1) := by decide +kernel
theorem dm_row_17 : mj_dec prog_14_method_9_code 17 = some (.isub, 1) := by decide +kernel
theorem dm_row_18 : mj_dec prog_14_method_9_code 18 = some (.iload_n 2, 1) := by decide +kernel
theorem dm_row_19 : mj_dec prog_14_method_9_code 19 = some (.invokevirtual 122, 3) := by decide +kernel
theorem dm_row_22 : mj_dec prog_14_method_9_code 22 = some (.ireturn, 1) := by decide +kernel
def a_row (i : Nat → Int32) (l : Nat → Int64) (I : Nat → Nat → Int32) (J : Nat → Nat → Int64) (p0 : Int32) (p1 : Int32) : Int32 := (a_seen (upd i 3 ((i 3) + p1)) l I J p0 (((i 3) + p1) - p1) p1)
def si_row (i : Nat → Int32) (l : Nat → Int64) (I : Nat → Nat → Int32) (J : Nat → Nat → Int64) (p0 : Int32) (p1 : Int32) : Nat → Int32 := (si_seen (upd i 3 ((i 3) + p1)) l I J p0 (((i 3) + p1) - p1) p1)
def sI_row (i : Nat → Int32) (l : Nat → Int64) (I : Nat → Nat → Int32) (J : Nat → Nat → Int64) (p0 : Int32) (p1 : Int32) : Nat → Nat → Int32 := (sI_seen (upd i 3 ((i 3) + p1)) l I J p0 (((i 3) + p1) - p1) p1)
def ok_row (i : Nat → Int32) (l : Nat → Int64) (I : Nat → Nat → Int32) (J : Nat → Nat → Int64) (p0 : Int32) (p1 : Int32) : Prop := (ok_seen (upd i 3 ((i 3) + p1)) l I J p0 (((i 3) + p1) - p1) p1 ∧ True)
set_option maxRecDepth 20000 in
theorem q_row {xt : mj_X} {pre post : mj_H} {m : Nat} {i : Nat → Int32} {l : Nat → Int64} {I : Nat → Nat → Int32} {J : Nat → Nat → Int64} {d : Nat} (hm : pre.length = m) (h2 : 2 ≤ m) {p0 : Int32} {p1 : Int32} (hok : ok_row i l I J p0 p1) : pgC xt (d + 3) k_row (.ref m :: [.int p0, .int p1]) (rH pre post m i l I J) (some (.int (a_row i l I J p0 p1))) (rH pre post m (si_row i l I J p0 p1) l (sI_row i l I J p0 p1) J) := by
  unfold ok_row at hok
  refine ms_call pm_row (Nat.le_of_ble_eq_true rfl) ?_
  dsimp only
  refine ms1 dm_row_0 rfl rfl rfl rfl ?_
  refine ms0 dm_row_1 rfl rfl rfl rfl ?_
  refine ms3 dm_row_2 (r_get (v := .int (i 3)) hm h2 rfl (rg_3 _ _ _)) rfl rfl rfl ?_
  refine ms1 dm_row_5 rfl rfl rfl rfl ?_
  refine ms0 dm_row_6 rfl rfl rfl rfl ?_
  refine ms3 dm_row_7 (r_puti hm h2 rfl (rF_lt 3 rfl) (rf_3 _ _ _ _)) rfl rfl rfl ?_
  refine ms1 dm_row_10 rfl rfl rfl rfl ?_
  refine ms1 dm_row_11 rfl rfl rfl rfl ?_
  refine ms1 dm_row_12 rfl rfl rfl rfl ?_
  refine ms3 dm_row_13 (r_get (v := .int ((i 3) + p1)) hm h2 rfl (rg_3 _ _ _)) rfl rfl rfl ?_
  refine ms1 dm_row_16 rfl rfl rfl rfl ?_
  refine ms0 dm_row_17 rfl rfl rfl rfl ?_
  refine ms1 dm_row_18 rfl rfl rfl rfl ?_
  obtain ⟨ho, hok⟩ := hok
  refine ms4 dm_row_19 rfl (r_inv (As := [.int p0, .int (((i 3) + p1) - p1), .int p1]) hm h2 rfl rfl rfl) (q_seen hm h2 ho) rfl rfl rfl ?_
  exact ms5 dm_row_22 rfl rfl rfl
def k_table : Nat := 260
set_option maxRecDepth 20000 in
theorem pm_table : mj_mmof pg_ms k_table = some ((⟨"ArrayCalculatorModel", "table", "(II)I"⟩, prog_14_method_10_code, 4, (Option.some Jvm.ClassFile.FieldType.int)), 12, false, mj_dec prog_14_method_10_code) := rfl
theorem dm_table_0 : mj_dec prog_14_method_10_code 0 = some (.aload_n 0, 1) := by decide +kernel
theorem dm_table_1 : mj_dec prog_14_method_10_code 1 = some (.dup, 1) := by decide +kernel
theorem dm_table_2 : mj_dec prog_14_method_10_code 2 = some (.getfield 119, 3) := by decide +kernel
theorem dm_table_5 : mj_dec prog_14_method_10_code 5 = some (.iload_n 1, 1) := by decide +kernel
theorem dm_table_6 : mj_dec prog_14_method_10_code 6 = some (.iload_n 2, 1) := by decide +kernel
theorem dm_table_7 : mj_dec prog_14_method_10_code 7 = some (.imul, 1) := by decide +kernel
theorem dm_table_8 : mj_dec prog_14_method_10_code 8 = some (.iadd, 1) := by decide +kernel
theorem dm_table_9 : mj_dec prog_14_method_10_code 9 = some (.putfield 119, 3) := by decide +kernel
theorem dm_table_12 : mj_dec prog_14_method_10_code 12 = some (.aload_n 0, 1) := by decide +kernel
theorem dm_table_13 : mj_dec prog_14_method_10_code 13 = some (.bipush 6, 2) := by decide +kernel
theorem dm_table_15 : mj_dec prog_14_method_10_code 15 = some (.aload_n 0, 1) := by decide +kernel
theorem dm_table_16 : mj_dec prog_14_method_10_code 16 = some (.getfield 119, 3) := by decide +kernel
theorem dm_table_19 : mj_dec prog_14_method_10_code 19 = some (.iload_n 1, 1) := by decide +kernel
theorem dm_table_20 : mj_dec prog_14_method_10_code 20 = some (.iload_n 2, 1) := by decide +kernel
theorem dm_table_21 : mj_dec prog_14_method_10_code 21 = some (.imul, 1) := by decide +kernel
theorem dm_table_22 : mj_dec prog_14_method_10_code 22 = some (.isub, 1) := by decide +kernel
theorem dm_table_23 : mj_dec prog_14_method_10_code 23 = some (.iload_n 1, 1) := by decide +kernel
theorem dm_table_24 : mj_dec prog_14_method_10_code 24 = some (.invokevirtual 122, 3) := by decide +kernel
theorem dm_table_27 : mj_dec prog_14_method_10_code 27 = some (.istore_n 3, 1) := by decide +kernel
theorem dm_table_28 : mj_dec prog_14_method_10_code 28 = some (.aload_n 0, 1) := by decide +kernel
theorem dm_table_29 : mj_dec prog_14_method_10_code 29 = some (.getfield 19, 3) := by decide +kernel
theorem dm_table_32 : mj_dec prog_14_method_10_code 32 = some (.iload_n 3, 1) := by decide +kernel
theorem dm_table_33 : mj_dec prog_14_method_10_code 33 = some (.dup2, 1) := by decide +kernel
theorem dm_table_34 : mj_dec prog_14_method_10_code 34 = some (.iaload, 1) := by decide +kernel
theorem dm_table_35 : mj_dec prog_14_method_10_code 35 = some (.iload_n 2, 1) := by decide +kernel
theorem dm_table_36 : mj_dec prog_14_method_10_code 36 = some (.bipush 11, 2) := by decide +kernel
theorem dm_table_38 : mj_dec prog_14_method_10_code 38 = some (.ishl, 1) := by decide +kernel
theorem dm_table_39 : mj_dec prog_14_method_10_code 39 = some (.ior, 1) := by decide +kernel
theorem dm_table_40 : mj_dec prog_14_method_10_code 40 = some (.iastore, 1) := by decide +kernel
theorem dm_table_41 : mj_dec prog_14_method_10_code 41 = some (.iload_n 3, 1) := by decide +kernel
theorem dm_table_42 : mj_dec prog_14_method_10_code 42 = some (.ireturn, 1) := by decide +kernel
def a_table (i : Nat → Int32) (l : Nat → Int64) (I : Nat → Nat → Int32) (J : Nat → Nat → Int64) (p0 : Int32) (p1 : Int32) : Int32 := (a_seen (upd i 3 ((i 3) + (p0 * p1))) l I J (6 : Int32) (((i 3) + (p0 * p1)) - (p0 * p1)) p0)
def si_table (i : Nat → Int32) (l : Nat → Int64) (I : Nat → Nat → Int32) (J : Nat → Nat → Int64) (p0 : Int32) (p1 : Int32) : Nat → Int32 := (si_seen (upd i 3 ((i 3) + (p0 * p1))) l I J (6 : Int32) (((i 3) + (p0 * p1)) - (p0 * p1)) p0)
def sI_table (i : Nat → Int32) (l : Nat → Int64) (I : Nat → Nat → Int32) (J : Nat → Nat → Int64) (p0 : Int32) (p1 : Int32) : Nat → Nat → Int32 := (va_up (sI_seen (upd i 3 ((i 3) + (p0 * p1))) l I J (6 : Int32) (((i 3) + (p0 * p1)) - (p0 * p1)) p0) 2 (upd ((sI_seen (upd i 3 ((i 3) + (p0 * p1))) l I J (6 : Int32) (((i 3) + (p0 * p1)) - (p0 * p1)) p0) 2) ((a_seen (upd i 3 ((i 3) + (p0 * p1))) l I J (6 : Int32) (((i 3) + (p0 * p1)) - (p0 * p1)) p0)).toNatClampNeg (((sI_seen (upd i 3 ((i 3) + (p0 * p1))) l I J (6 : Int32) (((i 3) + (p0 * p1)) - (p0 * p1)) p0) 2 ((a_seen (upd i 3 ((i 3) + (p0 * p1))) l I J (6 : Int32) (((i 3) + (p0 * p1)) - (p0 * p1)) p0)).toNatClampNeg) ||| (p1 <<< ((11 : Int32) &&& 31)))))
def ok_table (i : Nat → Int32) (l : Nat → Int64) (I : Nat → Nat → Int32) (J : Nat → Nat → Int64) (p0 : Int32) (p1 : Int32) : Prop := (ok_seen (upd i 3 ((i 3) + (p0 * p1))) l I J (6 : Int32) (((i 3) + (p0 * p1)) - (p0 * p1)) p0 ∧ (¬ ((a_seen (upd i 3 ((i 3) + (p0 * p1))) l I J (6 : Int32) (((i 3) + (p0 * p1)) - (p0 * p1)) p0) < 0 ∨ 310000 ≤ ((a_seen (upd i 3 ((i 3) + (p0 * p1))) l I J (6 : Int32) (((i 3) + (p0 * p1)) - (p0 * p1)) p0)).toNatClampNeg) ∧ (¬ ((a_seen (upd i 3 ((i 3) + (p0 * p1))) l I J (6 : Int32) (((i 3) + (p0 * p1)) - (p0 * p1)) p0) < 0 ∨ 310000 ≤ ((a_seen (upd i 3 ((i 3) + (p0 * p1))) l I J (6 : Int32) (((i 3) + (p0 * p1)) - (p0 * p1)) p0)).toNatClampNeg) ∧ True)))
set_option maxRecDepth 20000 in
theorem q_table {xt : mj_X} {pre post : mj_H} {m : Nat} {i : Nat → Int32} {l : Nat → Int64} {I : Nat → Nat → Int32} {J : Nat → Nat → Int64} {d : Nat} (hm : pre.length = m) (h2 : 2 ≤ m) {p0 : Int32} {p1 : Int32} (hok : ok_table i l I J p0 p1) : pgC xt (d + 3) k_table (.ref m :: [.int p0, .int p1]) (rH pre post m i l I J) (some (.int (a_table i l I J p0 p1))) (rH pre post m (si_table i l I J p0 p1) l (sI_table i l I J p0 p1) J) := by
  unfold ok_table at hok
  refine ms_call pm_table (Nat.le_of_ble_eq_true rfl) ?_
  dsimp only
  refine ms1 dm_table_0 rfl rfl rfl rfl ?_
  refine ms0 dm_table_1 rfl rfl rfl rfl ?_
  refine ms3 dm_table_2 (r_get (v := .int (i 3)) hm h2 rfl (rg_3 _ _ _)) rfl rfl rfl ?_
  refine ms1 dm_table_5 rfl rfl rfl rfl ?_
  refine ms1 dm_table_6 rfl rfl rfl rfl ?_
  refine ms0 dm_table_7 rfl rfl rfl rfl ?_
  refine ms0 dm_table_8 rfl rfl rfl rfl ?_
  refine ms3 dm_table_9 (r_puti hm h2 rfl (rF_lt 3 rfl) (rf_3 _ _ _ _)) rfl rfl rfl ?_
  refine ms1 dm_table_12 rfl rfl rfl rfl ?_
  refine ms0 (S' := .int (6 : Int32) :: _) dm_table_13 rfl rfl rfl rfl ?_
  refine ms1 dm_table_15 rfl rfl rfl rfl ?_
  refine ms3 dm_table_16 (r_get (v := .int ((i 3) + (p0 * p1))) hm h2 rfl (rg_3 _ _ _)) rfl rfl rfl ?_
  refine ms1 dm_table_19 rfl rfl rfl rfl ?_
  refine ms1 dm_table_20 rfl rfl rfl rfl ?_
  refine ms0 dm_table_21 rfl rfl rfl rfl ?_
  refine ms0 dm_table_22 rfl rfl rfl rfl ?_
  refine ms1 dm_table_23 rfl rfl rfl rfl ?_
  obtain ⟨ho, hok⟩ := hok
  refine ms4 dm_table_24 rfl (r_inv (As := [.int (6 : Int32), .int (((i 3) + (p0 * p1)) - (p0 * p1)), .int p0]) hm h2 rfl rfl rfl) (q_seen hm h2 ho) rfl rfl rfl ?_
  refine ms1 dm_table_27 rfl rfl rfl rfl ?_
  refine ms1 dm_table_28 rfl rfl rfl rfl ?_
  refine ms3 dm_table_29 (r_get hm h2 rfl (rg_2 _ _ _)) rfl rfl rfl ?_
  refine ms1 dm_table_32 rfl rfl rfl rfl ?_
  refine ms0 dm_table_33 rfl rfl rfl rfl ?_
  obtain ⟨ho, hok⟩ := hok
  refine ms3 dm_table_34 (r_iald hm h2 (rc_2 _ _ _ _ _) rfl ho) rfl rfl rfl ?_
  refine ms1 dm_table_35 rfl rfl rfl rfl ?_
  refine ms0 (S' := .int (11 : Int32) :: _) dm_table_36 rfl rfl rfl rfl ?_
  refine ms0 dm_table_38 rfl rfl rfl rfl ?_
  refine ms0 dm_table_39 rfl rfl rfl rfl ?_
  obtain ⟨ho, hok⟩ := hok
  refine ms3 dm_table_40 (r_iastk (k := 2) hm h2 (rc_2 _ _ _ _ _) rfl ho (rs_2 _ _ _ _ _ _)) rfl rfl rfl ?_
  refine ms1 dm_table_41 rfl rfl rfl rfl ?_
  exact ms5 dm_table_42 rfl rfl rfl
def k_one : Nat := 192
set_option maxRecDepth 20000 in
theorem pm_one : mj_mmof pg_ms k_one = some ((⟨"ArrayCalculatorModel", "one", "(IJ)I"⟩, prog_14_method_11_code, 5, (Option.some Jvm.ClassFile.FieldType.int)), 12, false, mj_dec prog_14_method_11_code) := rfl
theorem dm_one_0 : mj_dec prog_14_method_11_code 0 = some (.aload_n 0, 1) := by decide +kernel
theorem dm_one_1 : mj_dec prog_14_method_11_code 1 = some (.iload_n 1, 1) := by decide +kernel
theorem dm_one_2 : mj_dec prog_14_method_11_code 2 = some (.iconst 1, 1) := by decide +kernel
theorem dm_one_3 : mj_dec prog_14_method_11_code 3 = some (.invokevirtual 126, 3) := by decide +kernel
theorem dm_one_6 : mj_dec prog_14_method_11_code 6 = some (.istore 4, 2) := by decide +kernel
theorem dm_one_8 : mj_dec prog_14_method_11_code 8 = some (.aload_n 0, 1) := by decide +kernel
theorem dm_one_9 : mj_dec prog_14_method_11_code 9 = some (.getfield 8, 3) := by decide +kernel
theorem dm_one_12 : mj_dec prog_14_method_11_code 12 = some (.aload_n 0, 1) := by decide +kernel
theorem dm_one_13 : mj_dec prog_14_method_11_code 13 = some (.getfield 15, 3) := by decide +kernel
theorem dm_one_16 : mj_dec prog_14_method_11_code 16 = some (.iload 4, 2) := by decide +kernel
theorem dm_one_18 : mj_dec prog_14_method_11_code 18 = some (.iaload, 1) := by decide +kernel
theorem dm_one_19 : mj_dec prog_14_method_11_code 19 = some (.lload_n 2, 1) := by decide +kernel
theorem dm_one_20 : mj_dec prog_14_method_11_code 20 = some (.lastore, 1) := by decide +kernel
theorem dm_one_21 : mj_dec prog_14_method_11_code 21 = some (.iload 4, 2) := by decide +kernel
theorem dm_one_23 : mj_dec prog_14_method_11_code 23 = some (.ireturn, 1) := by decide +kernel
def a_one (i : Nat → Int32) (l : Nat → Int64) (I : Nat → Nat → Int32) (J : Nat → Nat → Int64) (p0 : Int32) (p1 : Int64) : Int32 := (a_row i l I J p0 (1 : Int32))
def si_one (i : Nat → Int32) (l : Nat → Int64) (I : Nat → Nat → Int32) (J : Nat → Nat → Int64) (p0 : Int32) (p1 : Int64) : Nat → Int32 := (si_row i l I J p0 (1 : Int32))
def sI_one (i : Nat → Int32) (l : Nat → Int64) (I : Nat → Nat → Int32) (J : Nat → Nat → Int64) (p0 : Int32) (p1 : Int64) : Nat → Nat → Int32 := (sI_row i l I J p0 (1 : Int32))
def sJ_one (i : Nat → Int32) (l : Nat → Int64) (I : Nat → Nat → Int32) (J : Nat → Nat → Int64) (p0 : Int32) (p1 : Int64) : Nat → Nat → Int64 := (va_up J 0 (vp_updL (J 0) (((sI_row i l I J p0 (1 : Int32)) 1 ((a_row i l I J p0 (1 : Int32))).toNatClampNeg)).toNatClampNeg p1))
def ok_one (i : Nat → Int32) (l : Nat → Int64) (I : Nat → Nat → Int32) (J : Nat → Nat → Int64) (p0 : Int32) (p1 : Int64) : Prop := (ok_row i l I J p0 (1 : Int32) ∧ (¬ ((a_row i l I J p0 (1 : Int32)) < 0 ∨ 310000 ≤ ((a_row i l I J p0 (1 : Int32))).toNatClampNeg) ∧ (¬ (((sI_row i l I J p0 (1 : Int32)) 1 ((a_row i l I J p0 (1 : Int32))).toNatClampNeg) < 0 ∨ 820000 ≤ (((sI_row i l I J p0 (1 : Int32)) 1 ((a_row i l I J p0 (1 : Int32))).toNatClampNeg)).toNatClampNeg) ∧ True)))
set_option maxRecDepth 20000 in
theorem q_one {xt : mj_X} {pre post : mj_H} {m : Nat} {i : Nat → Int32} {l : Nat → Int64} {I : Nat → Nat → Int32} {J : Nat → Nat → Int64} {d : Nat} (hm : pre.length = m) (h2 : 2 ≤ m) {p0 : Int32} {p1 : Int64} (hok : ok_one i l I J p0 p1) : pgC xt (d + 4) k_one (.ref m :: [.int p0, .long p1]) (rH pre post m i l I J) (some (.int (a_one i l I J p0 p1))) (rH pre post m (si_one i l I J p0 p1) l (sI_one i l I J p0 p1) (sJ_one i l I J p0 p1)) := by
  unfold ok_one at hok
  refine ms_call pm_one (Nat.le_of_ble_eq_true rfl) ?_
  dsimp only
  refine ms1 dm_one_0 rfl rfl rfl rfl ?_
  refine ms1 dm_one_1 rfl rfl rfl rfl ?_
  refine ms0 (S' := .int (1 : Int32) :: _) dm_one_2 rfl rfl rfl rfl ?_
  obtain ⟨ho, hok⟩ := hok
  refine ms4 dm_one_3 rfl (r_inv (As := [.int p0, .int (1 : Int32)]) hm h2 rfl rfl rfl) (q_row hm h2 ho) rfl rfl rfl ?_
  refine ms1 dm_one_6 rfl rfl rfl rfl ?_
  refine ms1 dm_one_8 rfl rfl rfl rfl ?_
  refine ms3 dm_one_9 (r_get hm h2 rfl (rg_0 _ _ _)) rfl rfl rfl ?_
  refine ms1 dm_one_12 rfl rfl rfl rfl ?_
  refine ms3 dm_one_13 (r_get hm h2 rfl (rg_1 _ _ _)) rfl rfl rfl ?_
  refine ms1 dm_one_16 rfl rfl rfl rfl ?_
  obtain ⟨ho, hok⟩ := hok
  refine ms3 dm_one_18 (r_iald hm h2 (rc_1 _ _ _ _ _) rfl ho) rfl rfl rfl ?_
  refine ms1 dm_one_19 rfl rfl rfl rfl ?_
  obtain ⟨ho, hok⟩ := hok
  refine ms3 dm_one_20 (r_lastk (k := 0) hm h2 (rc_0 _ _ _ _ _) rfl ho (rs_0 _ _ _ _ _ _)) rfl rfl rfl ?_
  refine ms1 dm_one_21 rfl rfl rfl rfl ?_
  exact ms5 dm_one_23 rfl rfl rfl
def k_fits : Nat := 223
set_option maxRecDepth 20000 in
theorem pm_fits : mj_mmof pg_ms k_fits = some ((⟨"ArrayCalculatorModel", "fits", "(J)Z"⟩, prog_14_method_12_code, 2, (Option.some Jvm.ClassFile.FieldType.boolean)), 12, false, mj_dec prog_14_method_12_code) := rfl
theorem dm_fits_0 : mj_dec prog_14_method_12_code 0 = some (.lload_n 0, 1) := by decide +kernel
theorem dm_fits_1 : mj_dec prog_14_method_12_code 1 = some (.ldc2_w 130, 3) := by decide +kernel
theorem dm_fits_4 : mj_dec prog_14_method_12_code 4 = some (.lcmp, 1) := by decide +kernel
theorem dm_fits_5 : mj_dec prog_14_method_12_code 5 = some (.ifCond .lt 15, 3) := by decide +kernel
theorem dm_fits_8 : mj_dec prog_14_method_12_code 8 = some (.lload_n 0, 1) := by decide +kernel
theorem dm_fits_9 : mj_dec prog_14_method_12_code 9 = some (.ldc2_w 132, 3) := by decide +kernel
theorem dm_fits_12 : mj_dec prog_14_method_12_code 12 = some (.lcmp, 1) := by decide +kernel
theorem dm_fits_13 : mj_dec prog_14_method_12_code 13 = some (.ifCond .gt 7, 3) := by decide +kernel
theorem dm_fits_16 : mj_dec prog_14_method_12_code 16 = some (.iconst 1, 1) := by decide +kernel
theorem dm_fits_17 : mj_dec prog_14_method_12_code 17 = some (.goto 4, 3) := by decide +kernel
theorem dm_fits_20 : mj_dec prog_14_method_12_code 20 = some (.iconst 0, 1) := by decide +kernel
theorem dm_fits_21 : mj_dec prog_14_method_12_code 21 = some (.ireturn, 1) := by decide +kernel
def a_fits (i : Nat → Int32) (l : Nat → Int64) (I : Nat → Nat → Int32) (J : Nat → Nat → Int64) (p0 : Int64) : Int32 := (if mj_cnd .lt (lg_cmp p0 (-2147483648 : Int64)) 0 = true then (0 : Int32) else (if mj_cnd .gt (lg_cmp p0 (2147483647 : Int64)) 0 = true then (0 : Int32) else (1 : Int32)))
def ok_fits (i : Nat → Int32) (l : Nat → Int64) (I : Nat → Nat → Int32) (J : Nat → Nat → Int64) (p0 : Int64) : Prop := True
set_option maxRecDepth 20000 in
theorem q_fits {xt : mj_X} {pre post : mj_H} {m : Nat} {i : Nat → Int32} {l : Nat → Int64} {I : Nat → Nat → Int32} {J : Nat → Nat → Int64} {d : Nat} (hm : pre.length = m) (h2 : 2 ≤ m) {p0 : Int64} (hok : ok_fits i l I J p0) : pgC xt (d + 1) k_fits ([.long p0]) (rH pre post m i l I J) (some (.int (a_fits i l I J p0))) (rH pre post m i l I J) := by
  unfold ok_fits at hok
  refine ms_call pm_fits (Nat.le_of_ble_eq_true rfl) ?_
  dsimp only
  refine ms1 dm_fits_0 rfl rfl rfl rfl ?_
  refine ms3 (S' := .long (-2147483648 : Int64) :: _) dm_fits_1 rfl rfl rfl rfl ?_
  refine ms0 dm_fits_4 rfl rfl rfl rfl ?_
  refine ms_1c dm_fits_5 rfl rfl (fun hb1 => ?_) (fun hb1 => ?_)
  · have hb1 : mj_cnd .lt (lg_cmp p0 (-2147483648 : Int64)) 0 = true := hb1
    refine ms0 (S' := .int (0 : Int32) :: _) dm_fits_20 rfl rfl rfl rfl ?_
    simp only [a_fits, hb1, if_true, if_false]
    exact ms5 dm_fits_21 rfl rfl rfl
  · have hb1 : ¬ (mj_cnd .lt (lg_cmp p0 (-2147483648 : Int64)) 0 = true) := hb1
    refine ms1 dm_fits_8 rfl rfl rfl rfl ?_
    refine ms3 (S' := .long (2147483647 : Int64) :: _) dm_fits_9 rfl rfl rfl rfl ?_
    refine ms0 dm_fits_12 rfl rfl rfl rfl ?_
    refine ms_1c dm_fits_13 rfl rfl (fun hb2 => ?_) (fun hb2 => ?_)
    · have hb2 : mj_cnd .gt (lg_cmp p0 (2147483647 : Int64)) 0 = true := hb2
      refine ms0 (S' := .int (0 : Int32) :: _) dm_fits_20 rfl rfl rfl rfl ?_
      simp only [a_fits, hb1, hb2, if_true, if_false]
      exact ms5 dm_fits_21 rfl rfl rfl
    · have hb2 : ¬ (mj_cnd .gt (lg_cmp p0 (2147483647 : Int64)) 0 = true) := hb2
      refine ms0 (S' := .int (1 : Int32) :: _) dm_fits_16 rfl rfl rfl rfl ?_
      refine ms2 dm_fits_17 rfl rfl rfl ?_
      simp only [a_fits, hb1, hb2, if_true, if_false]
      exact ms5 dm_fits_21 rfl rfl rfl
def k_isOne : Nat := 244
set_option maxRecDepth 20000 in
theorem pm_isOne : mj_mmof pg_ms k_isOne = some ((⟨"ArrayCalculatorModel", "isOne", "(I)Z"⟩, prog_14_method_14_code, 2, (Option.some Jvm.ClassFile.FieldType.boolean)), 12, false, mj_dec prog_14_method_14_code) := rfl
theorem dm_isOne_0 : mj_dec prog_14_method_14_code 0 = some (.aload_n 0, 1) := by decide +kernel
theorem dm_isOne_1 : mj_dec prog_14_method_14_code 1 = some (.iload_n 1, 1) := by decide +kernel
theorem dm_isOne_2 : mj_dec prog_14_method_14_code 2 = some (.invokevirtual 146, 3) := by decide +kernel
theorem dm_isOne_5 : mj_dec prog_14_method_14_code 5 = some (.iconst 1, 1) := by decide +kernel
theorem dm_isOne_6 : mj_dec prog_14_method_14_code 6 = some (.if_icmp .gt 7, 3) := by decide +kernel
theorem dm_isOne_9 : mj_dec prog_14_method_14_code 9 = some (.iconst 1, 1) := by decide +kernel
theorem dm_isOne_10 : mj_dec prog_14_method_14_code 10 = some (.goto 4, 3) := by decide +kernel
theorem dm_isOne_13 : mj_dec prog_14_method_14_code 13 = some (.iconst 0, 1) := by decide +kernel
theorem dm_isOne_14 : mj_dec prog_14_method_14_code 14 = some (.ireturn, 1) := by decide +kernel
def a_isOne (i : Nat → Int32) (l : Nat → Int64) (I : Nat → Nat → Int32) (J : Nat → Nat → Int64) (p0 : Int32) : Int32 := (if mj_cnd .gt (a_kindOf i l I J p0) (1 : Int32) = true then (0 : Int32) else (1 : Int32))
def ok_isOne (i : Nat → Int32) (l : Nat → Int64) (I : Nat → Nat → Int32) (J : Nat → Nat → Int64) (p0 : Int32) : Prop := (ok_kindOf i l I J p0 ∧ True)
set_option maxRecDepth 20000 in
theorem q_isOne {xt : mj_X} {pre post : mj_H} {m : Nat} {i : Nat → Int32} {l : Nat → Int64} {I : Nat → Nat → Int32} {J : Nat → Nat → Int64} {d : Nat} (hm : pre.length = m) (h2 : 2 ≤ m) {p0 : Int32} (hok : ok_isOne i l I J p0) : pgC xt (d + 2) k_isOne (.ref m :: [.int p0]) (rH pre post m i l I J) (some (.int (a_isOne i l I J p0))) (rH pre post m i l I J) := by
  unfold ok_isOne at hok
  refine ms_call pm_isOne (Nat.le_of_ble_eq_true rfl) ?_
  dsimp only
  refine ms1 dm_isOne_0 rfl rfl rfl rfl ?_
  refine ms1 dm_isOne_1 rfl rfl rfl rfl ?_
  obtain ⟨ho, hok⟩ := hok
  refine ms4 dm_isOne_2 rfl (r_inv (As := [.int p0]) hm h2 rfl rfl rfl) (q_kindOf hm h2 ho) rfl rfl rfl ?_
  refine ms0 (S' := .int (1 : Int32) :: _) dm_isOne_5 rfl rfl rfl rfl ?_
  refine ms_2c dm_isOne_6 rfl rfl (fun hb1 => ?_) (fun hb1 => ?_)
  · have hb1 : mj_cnd .gt (a_kindOf i l I J p0) (1 : Int32) = true := hb1
    refine ms0 (S' := .int (0 : Int32) :: _) dm_isOne_13 rfl rfl rfl rfl ?_
    simp only [a_isOne, hb1, if_true, if_false]
    exact ms5 dm_isOne_14 rfl rfl rfl
  · have hb1 : ¬ (mj_cnd .gt (a_kindOf i l I J p0) (1 : Int32) = true) := hb1
    refine ms0 (S' := .int (1 : Int32) :: _) dm_isOne_9 rfl rfl rfl rfl ?_
    refine ms2 dm_isOne_10 rfl rfl rfl ?_
    simp only [a_isOne, hb1, if_true, if_false]
    exact ms5 dm_isOne_14 rfl rfl rfl
def k_isRow : Nat := 254
set_option maxRecDepth 20000 in
theorem pm_isRow : mj_mmof pg_ms k_isRow = some ((⟨"ArrayCalculatorModel", "isRow", "(I)Z"⟩, prog_14_method_15_code, 2, (Option.some Jvm.ClassFile.FieldType.boolean)), 12, false, mj_dec prog_14_method_15_code) := rfl
theorem dm_isRow_0 : mj_dec prog_14_method_15_code 0 = some (.aload_n 0, 1) := by decide +kernel
theorem dm_isRow_1 : mj_dec prog_14_method_15_code 1 = some (.iload_n 1, 1) := by decide +kernel
theorem dm_isRow_2 : mj_dec prog_14_method_15_code 2 = some (.invokevirtual 146, 3) := by decide +kernel
theorem dm_isRow_5 : mj_dec prog_14_method_15_code 5 = some (.iconst 2, 1) := by decide +kernel
theorem dm_isRow_6 : mj_dec prog_14_method_15_code 6 = some (.if_icmp .lt 16, 3) := by decide +kernel
theorem dm_isRow_9 : mj_dec prog_14_method_15_code 9 = some (.aload_n 0, 1) := by decide +kernel
theorem dm_isRow_10 : mj_dec prog_14_method_15_code 10 = some (.iload_n 1, 1) := by decide +kernel
theorem dm_isRow_11 : mj_dec prog_14_method_15_code 11 = some (.invokevirtual 146, 3) := by decide +kernel
theorem dm_isRow_14 : mj_dec prog_14_method_15_code 14 = some (.iconst 5, 1) := by decide +kernel
theorem dm_isRow_15 : mj_dec prog_14_method_15_code 15 = some (.if_icmp .gt 7, 3) := by decide +kernel
theorem dm_isRow_18 : mj_dec prog_14_method_15_code 18 = some (.iconst 1, 1) := by decide +kernel
theorem dm_isRow_19 : mj_dec prog_14_method_15_code 19 = some (.goto 4, 3) := by decide +kernel
theorem dm_isRow_22 : mj_dec prog_14_method_15_code 22 = some (.iconst 0, 1) := by decide +kernel
theorem dm_isRow_23 : mj_dec prog_14_method_15_code 23 = some (.ireturn, 1) := by decide +kernel
def a_isRow (i : Nat → Int32) (l : Nat → Int64) (I : Nat → Nat → Int32) (J : Nat → Nat → Int64) (p0 : Int32) : Int32 := (if mj_cnd .lt (a_kindOf i l I J p0) (2 : Int32) = true then (0 : Int32) else (if mj_cnd .gt (a_kindOf i l I J p0) (5 : Int32) = true then (0 : Int32) else (1 : Int32)))
def ok_isRow (i : Nat → Int32) (l : Nat → Int64) (I : Nat → Nat → Int32) (J : Nat → Nat → Int64) (p0 : Int32) : Prop := (ok_kindOf i l I J p0 ∧ (if mj_cnd .lt (a_kindOf i l I J p0) (2 : Int32) = true then True else (ok_kindOf i l I J p0 ∧ True)))
set_option maxRecDepth 20000 in
theorem q_isRow {xt : mj_X} {pre post : mj_H} {m : Nat} {i : Nat → Int32} {l : Nat → Int64} {I : Nat → Nat → Int32} {J : Nat → Nat → Int64} {d : Nat} (hm : pre.length = m) (h2 : 2 ≤ m) {p0 : Int32} (hok : ok_isRow i l I J p0) : pgC xt (d + 2) k_isRow (.ref m :: [.int p0]) (rH pre post m i l I J) (some (.int (a_isRow i l I J p0))) (rH pre post m i l I J) := by
  unfold ok_isRow at hok
  refine ms_call pm_isRow (Nat.le_of_ble_eq_true rfl) ?_
  dsimp only
  refine ms1 dm_isRow_0 rfl rfl rfl rfl ?_
  refine ms1 dm_isRow_1 rfl rfl rfl rfl ?_
  obtain ⟨ho, hok⟩ := hok
  refine ms4 dm_isRow_2 rfl (r_inv (As := [.int p0]) hm h2 rfl rfl rfl) (q_kindOf hm h2 ho) rfl rfl rfl ?_
  refine ms0 (S' := .int (2 : Int32) :: _) dm_isRow_5 rfl rfl rfl rfl ?_
  refine ms_2c dm_isRow_6 rfl rfl (fun hb1 => ?_) (fun hb1 => ?_)
  · have hb1 : mj_cnd .lt (a_kindOf i l I J p0) (2 : Int32) = true := hb1
    rw [if_pos hb1] at hok
    refine ms0 (S' := .int (0 : Int32) :: _) dm_isRow_22 rfl rfl rfl rfl ?_
    simp only [a_isRow, hb1, if_true, if_false]
    exact ms5 dm_isRow_23 rfl rfl rfl
  · have hb1 : ¬ (mj_cnd .lt (a_kindOf i l I J p0) (2 : Int32) = true) := hb1
    rw [if_neg hb1] at hok
    refine ms1 dm_isRow_9 rfl rfl rfl rfl ?_
    refine ms1 dm_isRow_10 rfl rfl rfl rfl ?_
    obtain ⟨ho, hok⟩ := hok
    refine ms4 dm_isRow_11 rfl (r_inv (As := [.int p0]) hm h2 rfl rfl rfl) (q_kindOf hm h2 ho) rfl rfl rfl ?_
    refine ms0 (S' := .int (5 : Int32) :: _) dm_isRow_14 rfl rfl rfl rfl ?_
    refine ms_2c dm_isRow_15 rfl rfl (fun hb2 => ?_) (fun hb2 => ?_)
    · have hb2 : mj_cnd .gt (a_kindOf i l I J p0) (5 : Int32) = true := hb2
      refine ms0 (S' := .int (0 : Int32) :: _) dm_isRow_22 rfl rfl rfl rfl ?_
      simp only [a_isRow, hb1, hb2, if_true, if_false]
      exact ms5 dm_isRow_23 rfl rfl rfl
    · have hb2 : ¬ (mj_cnd .gt (a_kindOf i l I J p0) (5 : Int32) = true) := hb2
      refine ms0 (S' := .int (1 : Int32) :: _) dm_isRow_18 rfl rfl rfl rfl ?_
      refine ms2 dm_isRow_19 rfl rfl rfl ?_
      simp only [a_isRow, hb1, hb2, if_true, if_false]
      exact ms5 dm_isRow_23 rfl rfl rfl
def k_isNumbers : Nat := 253
set_option maxRecDepth 20000 in
theorem pm_isNumbers : mj_mmof pg_ms k_isNumbers = some ((⟨"ArrayCalculatorModel", "isNumbers", "(I)Z"⟩, prog_14_method_16_code, 2, (Option.some Jvm.ClassFile.FieldType.boolean)), 12, false, mj_dec prog_14_method_16_code) := rfl
theorem dm_isNumbers_0 : mj_dec prog_14_method_16_code 0 = some (.aload_n 0, 1) := by decide +kernel
theorem dm_isNumbers_1 : mj_dec prog_14_method_16_code 1 = some (.iload_n 1, 1) := by decide +kernel
theorem dm_isNumbers_2 : mj_dec prog_14_method_16_code 2 = some (.invokevirtual 149, 3) := by decide +kernel
theorem dm_isNumbers_5 : mj_dec prog_14_method_16_code 5 = some (.ifCond .eq 16, 3) := by decide +kernel
theorem dm_isNumbers_8 : mj_dec prog_14_method_16_code 8 = some (.aload_n 0, 1) := by decide +kernel
theorem dm_isNumbers_9 : mj_dec prog_14_method_16_code 9 = some (.iload_n 1, 1) := by decide +kernel
theorem dm_isNumbers_10 : mj_dec prog_14_method_16_code 10 = some (.invokevirtual 146, 3) := by decide +kernel
theorem dm_isNumbers_13 : mj_dec prog_14_method_16_code 13 = some (.iconst 3, 1) := by decide +kernel
theorem dm_isNumbers_14 : mj_dec prog_14_method_16_code 14 = some (.if_icmp .eq 7, 3) := by decide +kernel
theorem dm_isNumbers_17 : mj_dec prog_14_method_16_code 17 = some (.iconst 1, 1) := by decide +kernel
theorem dm_isNumbers_18 : mj_dec prog_14_method_16_code 18 = some (.goto 4, 3) := by decide +kernel
theorem dm_isNumbers_21 : mj_dec prog_14_method_16_code 21 = some (.iconst 0, 1) := by decide +kernel
theorem dm_isNumbers_22 : mj_dec prog_14_method_16_code 22 = some (.ireturn, 1) := by decide +kernel
def a_isNumbers (i : Nat → Int32) (l : Nat → Int64) (I : Nat → Nat → Int32) (J : Nat → Nat → Int64) (p0 : Int32) : Int32 := (if mj_cnd .eq (a_isRow i l I J p0) 0 = true then (0 : Int32) else (if mj_cnd .eq (a_kindOf i l I J p0) (3 : Int32) = true then (0 : Int32) else (1 : Int32)))
def ok_isNumbers (i : Nat → Int32) (l : Nat → Int64) (I : Nat → Nat → Int32) (J : Nat → Nat → Int64) (p0 : Int32) : Prop := (ok_isRow i l I J p0 ∧ (if mj_cnd .eq (a_isRow i l I J p0) 0 = true then True else (ok_kindOf i l I J p0 ∧ True)))
set_option maxRecDepth 20000 in
theorem q_isNumbers {xt : mj_X} {pre post : mj_H} {m : Nat} {i : Nat → Int32} {l : Nat → Int64} {I : Nat → Nat → Int32} {J : Nat → Nat → Int64} {d : Nat} (hm : pre.length = m) (h2 : 2 ≤ m) {p0 : Int32} (hok : ok_isNumbers i l I J p0) : pgC xt (d + 3) k_isNumbers (.ref m :: [.int p0]) (rH pre post m i l I J) (some (.int (a_isNumbers i l I J p0))) (rH pre post m i l I J) := by
  unfold ok_isNumbers at hok
  refine ms_call pm_isNumbers (Nat.le_of_ble_eq_true rfl) ?_
  dsimp only
  refine ms1 dm_isNumbers_0 rfl rfl rfl rfl ?_
  refine ms1 dm_isNumbers_1 rfl rfl rfl rfl ?_
  obtain ⟨ho, hok⟩ := hok
  refine ms4 dm_isNumbers_2 rfl (r_inv (As := [.int p0]) hm h2 rfl rfl rfl) (q_isRow hm h2 ho) rfl rfl rfl ?_
  refine ms_1c dm_isNumbers_5 rfl rfl (fun hb1 => ?_) (fun hb1 => ?_)
  · have hb1 : mj_cnd .eq (a_isRow i l I J p0) 0 = true := hb1
    rw [if_pos hb1] at hok
    refine ms0 (S' := .int (0 : Int32) :: _) dm_isNumbers_21 rfl rfl rfl rfl ?_
    simp only [a_isNumbers, hb1, if_true, if_false]
    exact ms5 dm_isNumbers_22 rfl rfl rfl
  · have hb1 : ¬ (mj_cnd .eq (a_isRow i l I J p0) 0 = true) := hb1
    rw [if_neg hb1] at hok
    refine ms1 dm_isNumbers_8 rfl rfl rfl rfl ?_
    refine ms1 dm_isNumbers_9 rfl rfl rfl rfl ?_
    obtain ⟨ho, hok⟩ := hok
    refine ms4 dm_isNumbers_10 rfl (r_inv (As := [.int p0]) hm h2 rfl rfl rfl) (q_kindOf hm h2 ho) rfl rfl rfl ?_
    refine ms0 (S' := .int (3 : Int32) :: _) dm_isNumbers_13 rfl rfl rfl rfl ?_
    refine ms_2c dm_isNumbers_14 rfl rfl (fun hb2 => ?_) (fun hb2 => ?_)
    · have hb2 : mj_cnd .eq (a_kindOf i l I J p0) (3 : Int32) = true := hb2
      refine ms0 (S' := .int (0 : Int32) :: _) dm_isNumbers_21 rfl rfl rfl rfl ?_
      simp only [a_isNumbers, hb1, hb2, if_true, if_false]
      exact ms5 dm_isNumbers_22 rfl rfl rfl
    · have hb2 : ¬ (mj_cnd .eq (a_kindOf i l I J p0) (3 : Int32) = true) := hb2
      refine ms0 (S' := .int (1 : Int32) :: _) dm_isNumbers_17 rfl rfl rfl rfl ?_
      refine ms2 dm_isNumbers_18 rfl rfl rfl ?_
      simp only [a_isNumbers, hb1, hb2, if_true, if_false]
      exact ms5 dm_isNumbers_22 rfl rfl rfl
def k_larger : Nat := 248
set_option maxRecDepth 20000 in
theorem pm_larger : mj_mmof pg_ms k_larger = some ((⟨"ArrayCalculatorModel", "larger", "(II)I"⟩, prog_14_method_21_code, 2, (Option.some Jvm.ClassFile.FieldType.int)), 12, false, mj_dec prog_14_method_21_code) := rfl
theorem dm_larger_0 : mj_dec prog_14_method_21_code 0 = some (.iload_n 0, 1) := by decide +kernel
theorem dm_larger_1 : mj_dec prog_14_method_21_code 1 = some (.iload_n 1, 1) := by decide +kernel
theorem dm_larger_2 : mj_dec prog_14_method_21_code 2 = some (.if_icmp .le 7, 3) := by decide +kernel
theorem dm_larger_5 : mj_dec prog_14_method_21_code 5 = some (.iload_n 0, 1) := by decide +kernel
theorem dm_larger_6 : mj_dec prog_14_method_21_code 6 = some (.goto 4, 3) := by decide +kernel
theorem dm_larger_9 : mj_dec prog_14_method_21_code 9 = some (.iload_n 1, 1) := by decide +kernel
theorem dm_larger_10 : mj_dec prog_14_method_21_code 10 = some (.ireturn, 1) := by decide +kernel
def a_larger (i : Nat → Int32) (l : Nat → Int64) (I : Nat → Nat → Int32) (J : Nat → Nat → Int64) (p0 : Int32) (p1 : Int32) : Int32 := (if mj_cnd .le p0 p1 = true then p1 else p0)
def ok_larger (i : Nat → Int32) (l : Nat → Int64) (I : Nat → Nat → Int32) (J : Nat → Nat → Int64) (p0 : Int32) (p1 : Int32) : Prop := True
set_option maxRecDepth 20000 in
theorem q_larger {xt : mj_X} {pre post : mj_H} {m : Nat} {i : Nat → Int32} {l : Nat → Int64} {I : Nat → Nat → Int32} {J : Nat → Nat → Int64} {d : Nat} (hm : pre.length = m) (h2 : 2 ≤ m) {p0 : Int32} {p1 : Int32} (hok : ok_larger i l I J p0 p1) : pgC xt (d + 1) k_larger ([.int p0, .int p1]) (rH pre post m i l I J) (some (.int (a_larger i l I J p0 p1))) (rH pre post m i l I J) := by
  unfold ok_larger at hok
  refine ms_call pm_larger (Nat.le_of_ble_eq_true rfl) ?_
  dsimp only
  refine ms1 dm_larger_0 rfl rfl rfl rfl ?_
  refine ms1 dm_larger_1 rfl rfl rfl rfl ?_
  refine ms_2c dm_larger_2 rfl rfl (fun hb1 => ?_) (fun hb1 => ?_)
  · have hb1 : mj_cnd .le p0 p1 = true := hb1
    refine ms1 dm_larger_9 rfl rfl rfl rfl ?_
    simp only [a_larger, hb1, if_true, if_false]
    exact ms5 dm_larger_10 rfl rfl rfl
  · have hb1 : ¬ (mj_cnd .le p0 p1 = true) := hb1
    refine ms1 dm_larger_5 rfl rfl rfl rfl ?_
    refine ms2 dm_larger_6 rfl rfl rfl ?_
    simp only [a_larger, hb1, if_true, if_false]
    exact ms5 dm_larger_10 rfl rfl rfl
def k_fail : Nat := 229
set_option maxRecDepth 20000 in
theorem pm_fail : mj_mmof pg_ms k_fail = some ((⟨"ArrayCalculatorModel", "fail", "(II)I"⟩, prog_14_method_24_code, 3, (Option.some Jvm.ClassFile.FieldType.int)), 12, false, mj_dec prog_14_method_24_code) := rfl
theorem dm_fail_0 : mj_dec prog_14_method_24_code 0 = some (.aload_n 0, 1) := by decide +kernel
theorem dm_fail_1 : mj_dec prog_14_method_24_code 1 = some (.getfield 181, 3) := by decide +kernel
theorem dm_fail_4 : mj_dec prog_14_method_24_code 4 = some (.ifCond .ne 27, 3) := by decide +kernel
theorem dm_fail_7 : mj_dec prog_14_method_24_code 7 = some (.aload_n 0, 1) := by decide +kernel
theorem dm_fail_8 : mj_dec prog_14_method_24_code 8 = some (.iload_n 1, 1) := by decide +kernel
theorem dm_fail_9 : mj_dec prog_14_method_24_code 9 = some (.putfield 181, 3) := by decide +kernel
theorem dm_fail_12 : mj_dec prog_14_method_24_code 12 = some (.aload_n 0, 1) := by decide +kernel
theorem dm_fail_13 : mj_dec prog_14_method_24_code 13 = some (.aload_n 0, 1) := by decide +kernel
theorem dm_fail_14 : mj_dec prog_14_method_24_code 14 = some (.getfield 184, 3) := by decide +kernel
theorem dm_fail_17 : mj_dec prog_14_method_24_code 17 = some (.ifCond .le 10, 3) := by decide +kernel
theorem dm_fail_20 : mj_dec prog_14_method_24_code 20 = some (.aload_n 0, 1) := by decide +kernel
theorem dm_fail_21 : mj_dec prog_14_method_24_code 21 = some (.getfield 187, 3) := by decide +kernel
theorem dm_fail_24 : mj_dec prog_14_method_24_code 24 = some (.goto 4, 3) := by decide +kernel
theorem dm_fail_27 : mj_dec prog_14_method_24_code 27 = some (.iload_n 2, 1) := by decide +kernel
theorem dm_fail_28 : mj_dec prog_14_method_24_code 28 = some (.putfield 22, 3) := by decide +kernel
theorem dm_fail_31 : mj_dec prog_14_method_24_code 31 = some (.iconst (-1), 1) := by decide +kernel
theorem dm_fail_32 : mj_dec prog_14_method_24_code 32 = some (.ireturn, 1) := by decide +kernel
def a_fail (i : Nat → Int32) (l : Nat → Int64) (I : Nat → Nat → Int32) (J : Nat → Nat → Int64) (p0 : Int32) (p1 : Int32) : Int32 := (if mj_cnd .ne (i 5) 0 = true then (-1 : Int32) else (if mj_cnd .le ((upd i 5 p0) 10) 0 = true then (-1 : Int32) else (-1 : Int32)))
def si_fail (i : Nat → Int32) (l : Nat → Int64) (I : Nat → Nat → Int32) (J : Nat → Nat → Int64) (p0 : Int32) (p1 : Int32) : Nat → Int32 := (if mj_cnd .ne (i 5) 0 = true then i else (if mj_cnd .le ((upd i 5 p0) 10) 0 = true then (upd (upd i 5 p0) 6 p1) else (upd (upd i 5 p0) 6 ((upd i 5 p0) 11))))
def ok_fail (i : Nat → Int32) (l : Nat → Int64) (I : Nat → Nat → Int32) (J : Nat → Nat → Int64) (p0 : Int32) (p1 : Int32) : Prop := True
set_option maxRecDepth 20000 in
theorem q_fail {xt : mj_X} {pre post : mj_H} {m : Nat} {i : Nat → Int32} {l : Nat → Int64} {I : Nat → Nat → Int32} {J : Nat → Nat → Int64} {d : Nat} (hm : pre.length = m) (h2 : 2 ≤ m) {p0 : Int32} {p1 : Int32} (hok : ok_fail i l I J p0 p1) : pgC xt (d + 1) k_fail (.ref m :: [.int p0, .int p1]) (rH pre post m i l I J) (some (.int (a_fail i l I J p0 p1))) (rH pre post m (si_fail i l I J p0 p1) l I J) := by
  unfold ok_fail at hok
  refine ms_call pm_fail (Nat.le_of_ble_eq_true rfl) ?_
  dsimp only
  refine ms1 dm_fail_0 rfl rfl rfl rfl ?_
  refine ms3 dm_fail_1 (r_get (v := .int (i 5)) hm h2 rfl (rg_5 _ _ _)) rfl rfl rfl ?_
  refine ms_1c dm_fail_4 rfl rfl (fun hb1 => ?_) (fun hb1 => ?_)
  · have hb1 : mj_cnd .ne (i 5) 0 = true := hb1
    refine ms0 (S' := .int (-1 : Int32) :: _) dm_fail_31 rfl rfl rfl rfl ?_
    simp only [a_fail, si_fail, hb1, if_true, if_false]
    exact ms5 dm_fail_32 rfl rfl rfl
  · have hb1 : ¬ (mj_cnd .ne (i 5) 0 = true) := hb1
    refine ms1 dm_fail_7 rfl rfl rfl rfl ?_
    refine ms1 dm_fail_8 rfl rfl rfl rfl ?_
    refine ms3 dm_fail_9 (r_puti hm h2 rfl (rF_lt 5 rfl) (rf_5 _ _ _ _)) rfl rfl rfl ?_
    refine ms1 dm_fail_12 rfl rfl rfl rfl ?_
    refine ms1 dm_fail_13 rfl rfl rfl rfl ?_
    refine ms3 dm_fail_14 (r_get (v := .int ((upd i 5 p0) 10)) hm h2 rfl (rg_10 _ _ _)) rfl rfl rfl ?_
    refine ms_1c dm_fail_17 rfl rfl (fun hb2 => ?_) (fun hb2 => ?_)
    · have hb2 : mj_cnd .le ((upd i 5 p0) 10) 0 = true := hb2
      refine ms1 dm_fail_27 rfl rfl rfl rfl ?_
      refine ms3 dm_fail_28 (r_puti hm h2 rfl (rF_lt 6 rfl) (rf_6 _ _ _ _)) rfl rfl rfl ?_
      refine ms0 (S' := .int (-1 : Int32) :: _) dm_fail_31 rfl rfl rfl rfl ?_
      simp only [a_fail, si_fail, hb1, hb2, if_true, if_false]
      exact ms5 dm_fail_32 rfl rfl rfl
    · have hb2 : ¬ (mj_cnd .le ((upd i 5 p0) 10) 0 = true) := hb2
      refine ms1 dm_fail_20 rfl rfl rfl rfl ?_
      refine ms3 dm_fail_21 (r_get (v := .int ((upd i 5 p0) 11)) hm h2 rfl (rg_11 _ _ _)) rfl rfl rfl ?_
      refine ms2 dm_fail_24 rfl rfl rfl ?_
      refine ms3 dm_fail_28 (r_puti hm h2 rfl (rF_lt 6 rfl) (rf_6 _ _ _ _)) rfl rfl rfl ?_
      refine ms0 (S' := .int (-1 : Int32) :: _) dm_fail_31 rfl rfl rfl rfl ?_
      simp only [a_fail, si_fail, hb1, hb2, if_true, if_false]
      exact ms5 dm_fail_32 rfl rfl rfl
def k_takes : Nat := 249
set_option maxRecDepth 20000 in
theorem pm_takes : mj_mmof pg_ms k_takes = some ((⟨"ArrayCalculatorModel", "takes", "(II)Z"⟩, prog_14_method_25_code, 3, (Option.some Jvm.ClassFile.FieldType.boolean)), 12, false, mj_dec prog_14_method_25_code) := rfl
theorem dm_takes_0 : mj_dec prog_14_method_25_code 0 = some (.aload_n 0, 1) := by decide +kernel
theorem dm_takes_1 : mj_dec prog_14_method_25_code 1 = some (.getfield 27, 3) := by decide +kernel
theorem dm_takes_4 : mj_dec prog_14_method_25_code 4 = some (.iload_n 1, 1) := by decide +kernel
theorem dm_takes_5 : mj_dec prog_14_method_25_code 5 = some (.if_icmp .ge 13, 3) := by decide +kernel
theorem dm_takes_8 : mj_dec prog_14_method_25_code 8 = some (.aload_n 0, 1) := by decide +kernel
theorem dm_takes_9 : mj_dec prog_14_method_25_code 9 = some (.bipush 10, 2) := by decide +kernel
theorem dm_takes_11 : mj_dec prog_14_method_25_code 11 = some (.iload_n 2, 1) := by decide +kernel
theorem dm_takes_12 : mj_dec prog_14_method_25_code 12 = some (.invokevirtual 190, 3) := by decide +kernel
theorem dm_takes_15 : mj_dec prog_14_method_25_code 15 = some (.pop, 1) := by decide +kernel
theorem dm_takes_16 : mj_dec prog_14_method_25_code 16 = some (.iconst 0, 1) := by decide +kernel
theorem dm_takes_17 : mj_dec prog_14_method_25_code 17 = some (.ireturn, 1) := by decide +kernel
theorem dm_takes_18 : mj_dec prog_14_method_25_code 18 = some (.aload_n 0, 1) := by decide +kernel
theorem dm_takes_19 : mj_dec prog_14_method_25_code 19 = some (.dup, 1) := by decide +kernel
theorem dm_takes_20 : mj_dec prog_14_method_25_code 20 = some (.getfield 27, 3) := by decide +kernel
theorem dm_takes_23 : mj_dec prog_14_method_25_code 23 = some (.iload_n 1, 1) := by decide +kernel
theorem dm_takes_24 : mj_dec prog_14_method_25_code 24 = some (.isub, 1) := by decide +kernel
theorem dm_takes_25 : mj_dec prog_14_method_25_code 25 = some (.putfield 27, 3) := by decide +kernel
theorem dm_takes_28 : mj_dec prog_14_method_25_code 28 = some (.aload_n 0, 1) := by decide +kernel
theorem dm_takes_29 : mj_dec prog_14_method_25_code 29 = some (.dup, 1) := by decide +kernel
theorem dm_takes_30 : mj_dec prog_14_method_25_code 30 = some (.getfield 193, 3) := by decide +kernel
theorem dm_takes_33 : mj_dec prog_14_method_25_code 33 = some (.iload_n 1, 1) := by decide +kernel
theorem dm_takes_34 : mj_dec prog_14_method_25_code 34 = some (.iadd, 1) := by decide +kernel
theorem dm_takes_35 : mj_dec prog_14_method_25_code 35 = some (.putfield 193, 3) := by decide +kernel
theorem dm_takes_38 : mj_dec prog_14_method_25_code 38 = some (.iconst 1, 1) := by decide +kernel
theorem dm_takes_39 : mj_dec prog_14_method_25_code 39 = some (.ireturn, 1) := by decide +kernel
def a_takes (i : Nat → Int32) (l : Nat → Int64) (I : Nat → Nat → Int32) (J : Nat → Nat → Int64) (p0 : Int32) (p1 : Int32) : Int32 := (if mj_cnd .ge (i 8) p0 = true then (1 : Int32) else (0 : Int32))
def si_takes (i : Nat → Int32) (l : Nat → Int64) (I : Nat → Nat → Int32) (J : Nat → Nat → Int64) (p0 : Int32) (p1 : Int32) : Nat → Int32 := (if mj_cnd .ge (i 8) p0 = true then (upd (upd i 8 ((i 8) - p0)) 7 (((upd i 8 ((i 8) - p0)) 7) + p0)) else (si_fail i l I J (10 : Int32) p1))
def ok_takes (i : Nat → Int32) (l : Nat → Int64) (I : Nat → Nat → Int32) (J : Nat → Nat → Int64) (p0 : Int32) (p1 : Int32) : Prop := (if mj_cnd .ge (i 8) p0 = true then True else (ok_fail i l I J (10 : Int32) p1 ∧ True))
set_option maxRecDepth 20000 in
theorem q_takes {xt : mj_X} {pre post : mj_H} {m : Nat} {i : Nat → Int32} {l : Nat → Int64} {I : Nat → Nat → Int32} {J : Nat → Nat → Int64} {d : Nat} (hm : pre.length = m) (h2 : 2 ≤ m) {p0 : Int32} {p1 : Int32} (hok : ok_takes i l I J p0 p1) : pgC xt (d + 2) k_takes (.ref m :: [.int p0, .int p1]) (rH pre post m i l I J) (some (.int (a_takes i l I J p0 p1))) (rH pre post m (si_takes i l I J p0 p1) l I J) := by
  unfold ok_takes at hok
  refine ms_call pm_takes (Nat.le_of_ble_eq_true rfl) ?_
  dsimp only
  refine ms1 dm_takes_0 rfl rfl rfl rfl ?_
  refine ms3 dm_takes_1 (r_get (v := .int (i 8)) hm h2 rfl (rg_8 _ _ _)) rfl rfl rfl ?_
  refine ms1 dm_takes_4 rfl rfl rfl rfl ?_
  refine ms_2c dm_takes_5 rfl rfl (fun hb1 => ?_) (fun hb1 => ?_)
  · have hb1 : mj_cnd .ge (i 8) p0 = true := hb1
    rw [if_pos hb1] at hok
    refine ms1 dm_takes_18 rfl rfl rfl rfl ?_
    refine ms0 dm_takes_19 rfl rfl rfl rfl ?_
    refine ms3 dm_takes_20 (r_get (v := .int (i 8)) hm h2 rfl (rg_8 _ _ _)) rfl rfl rfl ?_
    refine ms1 dm_takes_23 rfl rfl rfl rfl ?_
    refine ms0 dm_takes_24 rfl rfl rfl rfl ?_
    refine ms3 dm_takes_25 (r_puti hm h2 rfl (rF_lt 8 rfl) (rf_8 _ _ _ _)) rfl rfl rfl ?_
    refine ms1 dm_takes_28 rfl rfl rfl rfl ?_
    refine ms0 dm_takes_29 rfl rfl rfl rfl ?_
    refine ms3 dm_takes_30 (r_get (v := .int ((upd i 8 ((i 8) - p0)) 7)) hm h2 rfl (rg_7 _ _ _)) rfl rfl rfl ?_
    refine ms1 dm_takes_33 rfl rfl rfl rfl ?_
    refine ms0 dm_takes_34 rfl rfl rfl rfl ?_
    refine ms3 dm_takes_35 (r_puti hm h2 rfl (rF_lt 7 rfl) (rf_7 _ _ _ _)) rfl rfl rfl ?_
    refine ms0 (S' := .int (1 : Int32) :: _) dm_takes_38 rfl rfl rfl rfl ?_
    simp only [a_takes, si_takes, hb1, if_true, if_false]
    exact ms5 dm_takes_39 rfl rfl rfl
  · have hb1 : ¬ (mj_cnd .ge (i 8) p0 = true) := hb1
    rw [if_neg hb1] at hok
    refine ms1 dm_takes_8 rfl rfl rfl rfl ?_
    refine ms0 (S' := .int (10 : Int32) :: _) dm_takes_9 rfl rfl rfl rfl ?_
    refine ms1 dm_takes_11 rfl rfl rfl rfl ?_
    obtain ⟨ho, hok⟩ := hok
    refine ms4 dm_takes_12 rfl (r_inv (As := [.int (10 : Int32), .int p1]) hm h2 rfl rfl rfl) (q_fail hm h2 ho) rfl rfl rfl ?_
    refine ms0 dm_takes_15 rfl rfl rfl rfl ?_
    refine ms0 (S' := .int (0 : Int32) :: _) dm_takes_16 rfl rfl rfl rfl ?_
    simp only [a_takes, si_takes, hb1, if_true, if_false]
    exact ms5 dm_takes_17 rfl rfl rfl
def k_push : Nat := 239
set_option maxRecDepth 20000 in
theorem pm_push : mj_mmof pg_ms k_push = some ((⟨"ArrayCalculatorModel", "push", "(I)V"⟩, prog_14_method_27_code, 2, (Option.none : Option Jvm.ClassFile.FieldType)), 12, false, mj_dec prog_14_method_27_code) := rfl
theorem dm_push_0 : mj_dec prog_14_method_27_code 0 = some (.aload_n 0, 1) := by decide +kernel
theorem dm_push_1 : mj_dec prog_14_method_27_code 1 = some (.getfield 30, 3) := by decide +kernel
theorem dm_push_4 : mj_dec prog_14_method_27_code 4 = some (.aload_n 0, 1) := by decide +kernel
theorem dm_push_5 : mj_dec prog_14_method_27_code 5 = some (.getfield 202, 3) := by decide +kernel
theorem dm_push_8 : mj_dec prog_14_method_27_code 8 = some (.iload_n 1, 1) := by decide +kernel
theorem dm_push_9 : mj_dec prog_14_method_27_code 9 = some (.iastore, 1) := by decide +kernel
theorem dm_push_10 : mj_dec prog_14_method_27_code 10 = some (.aload_n 0, 1) := by decide +kernel
theorem dm_push_11 : mj_dec prog_14_method_27_code 11 = some (.dup, 1) := by decide +kernel
theorem dm_push_12 : mj_dec prog_14_method_27_code 12 = some (.getfield 202, 3) := by decide +kernel
theorem dm_push_15 : mj_dec prog_14_method_27_code 15 = some (.iconst 1, 1) := by decide +kernel
theorem dm_push_16 : mj_dec prog_14_method_27_code 16 = some (.iadd, 1) := by decide +kernel
theorem dm_push_17 : mj_dec prog_14_method_27_code 17 = some (.putfield 202, 3) := by decide +kernel
theorem dm_push_20 : mj_dec prog_14_method_27_code 20 = some (.return_, 1) := by decide +kernel
def si_push (i : Nat → Int32) (l : Nat → Int64) (I : Nat → Nat → Int32) (J : Nat → Nat → Int64) (p0 : Int32) : Nat → Int32 := (upd i 13 ((i 13) + (1 : Int32)))
def sI_push (i : Nat → Int32) (l : Nat → Int64) (I : Nat → Nat → Int32) (J : Nat → Nat → Int64) (p0 : Int32) : Nat → Nat → Int32 := (va_up I 12 (upd (I 12) ((i 13)).toNatClampNeg p0))
def ok_push (i : Nat → Int32) (l : Nat → Int64) (I : Nat → Nat → Int32) (J : Nat → Nat → Int64) (p0 : Int32) : Prop := (¬ ((i 13) < 0 ∨ 8192 ≤ ((i 13)).toNatClampNeg) ∧ True)
set_option maxRecDepth 20000 in
theorem q_push {xt : mj_X} {pre post : mj_H} {m : Nat} {i : Nat → Int32} {l : Nat → Int64} {I : Nat → Nat → Int32} {J : Nat → Nat → Int64} {d : Nat} (hm : pre.length = m) (h2 : 2 ≤ m) {p0 : Int32} (hok : ok_push i l I J p0) : pgC xt (d + 1) k_push (.ref m :: [.int p0]) (rH pre post m i l I J) none (rH pre post m (si_push i l I J p0) l (sI_push i l I J p0) J) := by
  unfold ok_push at hok
  refine ms_call pm_push (Nat.le_of_ble_eq_true rfl) ?_
  dsimp only
  refine ms1 dm_push_0 rfl rfl rfl rfl ?_
  refine ms3 dm_push_1 (r_get hm h2 rfl (rg_12 _ _ _)) rfl rfl rfl ?_
  refine ms1 dm_push_4 rfl rfl rfl rfl ?_
  refine ms3 dm_push_5 (r_get (v := .int (i 13)) hm h2 rfl (rg_13 _ _ _)) rfl rfl rfl ?_
  refine ms1 dm_push_8 rfl rfl rfl rfl ?_
  obtain ⟨ho, hok⟩ := hok
  refine ms3 dm_push_9 (r_iastk (k := 12) hm h2 (rc_12 _ _ _ _ _) rfl ho (rs_12 _ _ _ _ _ _)) rfl rfl rfl ?_
  refine ms1 dm_push_10 rfl rfl rfl rfl ?_
  refine ms0 dm_push_11 rfl rfl rfl rfl ?_
  refine ms3 dm_push_12 (r_get (v := .int (i 13)) hm h2 rfl (rg_13 _ _ _)) rfl rfl rfl ?_
  refine ms0 (S' := .int (1 : Int32) :: _) dm_push_15 rfl rfl rfl rfl ?_
  refine ms0 dm_push_16 rfl rfl rfl rfl ?_
  refine ms3 dm_push_17 (r_puti hm h2 rfl (rF_lt 13 rfl) (rf_13 _ _ _ _)) rfl rfl rfl ?_
  exact ms5 dm_push_20 rfl rfl rfl
def k_compares : Nat := 273
set_option maxRecDepth 20000 in
theorem pm_compares : mj_mmof pg_ms k_compares = some ((⟨"ArrayCalculatorModel", "compares", "(I)Z"⟩, prog_14_method_49_code, 1, (Option.some Jvm.ClassFile.FieldType.boolean)), 12, false, mj_dec prog_14_method_49_code) := rfl
theorem dm_compares_0 : mj_dec prog_14_method_49_code 0 = some (.iload_n 0, 1) := by decide +kernel
theorem dm_compares_1 : mj_dec prog_14_method_49_code 1 = some (.bipush 60, 2) := by decide +kernel
theorem dm_compares_3 : mj_dec prog_14_method_49_code 3 = some (.if_icmp .eq 15, 3) := by decide +kernel
theorem dm_compares_6 : mj_dec prog_14_method_49_code 6 = some (.iload_n 0, 1) := by decide +kernel
theorem dm_compares_7 : mj_dec prog_14_method_49_code 7 = some (.bipush 62, 2) := by decide +kernel
theorem dm_compares_9 : mj_dec prog_14_method_49_code 9 = some (.if_icmp .eq 9, 3) := by decide +kernel
theorem dm_compares_12 : mj_dec prog_14_method_49_code 12 = some (.iload_n 0, 1) := by decide +kernel
theorem dm_compares_13 : mj_dec prog_14_method_49_code 13 = some (.bipush 61, 2) := by decide +kernel
theorem dm_compares_15 : mj_dec prog_14_method_49_code 15 = some (.if_icmp .ne 7, 3) := by decide +kernel
theorem dm_compares_18 : mj_dec prog_14_method_49_code 18 = some (.iconst 1, 1) := by decide +kernel
theorem dm_compares_19 : mj_dec prog_14_method_49_code 19 = some (.goto 4, 3) := by decide +kernel
theorem dm_compares_22 : mj_dec prog_14_method_49_code 22 = some (.iconst 0, 1) := by decide +kernel
theorem dm_compares_23 : mj_dec prog_14_method_49_code 23 = some (.ireturn, 1) := by decide +kernel
def a_compares (i : Nat → Int32) (l : Nat → Int64) (I : Nat → Nat → Int32) (J : Nat → Nat → Int64) (p0 : Int32) : Int32 := (if mj_cnd .eq p0 (60 : Int32) = true then (1 : Int32) else (if mj_cnd .eq p0 (62 : Int32) = true then (1 : Int32) else (if mj_cnd .ne p0 (61 : Int32) = true then (0 : Int32) else (1 : Int32))))
def ok_compares (i : Nat → Int32) (l : Nat → Int64) (I : Nat → Nat → Int32) (J : Nat → Nat → Int64) (p0 : Int32) : Prop := True
set_option maxRecDepth 20000 in
theorem q_compares {xt : mj_X} {pre post : mj_H} {m : Nat} {i : Nat → Int32} {l : Nat → Int64} {I : Nat → Nat → Int32} {J : Nat → Nat → Int64} {d : Nat} (hm : pre.length = m) (h2 : 2 ≤ m) {p0 : Int32} (hok : ok_compares i l I J p0) : pgC xt (d + 1) k_compares ([.int p0]) (rH pre post m i l I J) (some (.int (a_compares i l I J p0))) (rH pre post m i l I J) := by
  unfold ok_compares at hok
  refine ms_call pm_compares (Nat.le_of_ble_eq_true rfl) ?_
  dsimp only
  refine ms1 dm_compares_0 rfl rfl rfl rfl ?_
  refine ms0 (S' := .int (60 : Int32) :: _) dm_compares_1 rfl rfl rfl rfl ?_
  refine ms_2c dm_compares_3 rfl rfl (fun hb1 => ?_) (fun hb1 => ?_)
  · have hb1 : mj_cnd .eq p0 (60 : Int32) = true := hb1
    refine ms0 (S' := .int (1 : Int32) :: _) dm_compares_18 rfl rfl rfl rfl ?_
    refine ms2 dm_compares_19 rfl rfl rfl ?_
    simp only [a_compares, hb1, if_true, if_false]
    exact ms5 dm_compares_23 rfl rfl rfl
  · have hb1 : ¬ (mj_cnd .eq p0 (60 : Int32) = true) := hb1
    refine ms1 dm_compares_6 rfl rfl rfl rfl ?_
    refine ms0 (S' := .int (62 : Int32) :: _) dm_compares_7 rfl rfl rfl rfl ?_
    refine ms_2c dm_compares_9 rfl rfl (fun hb2 => ?_) (fun hb2 => ?_)
    · have hb2 : mj_cnd .eq p0 (62 : Int32) = true := hb2
      refine ms0 (S' := .int (1 : Int32) :: _) dm_compares_18 rfl rfl rfl rfl ?_
      refine ms2 dm_compares_19 rfl rfl rfl ?_
      simp only [a_compares, hb1, hb2, if_true, if_false]
      exact ms5 dm_compares_23 rfl rfl rfl
    · have hb2 : ¬ (mj_cnd .eq p0 (62 : Int32) = true) := hb2
      refine ms1 dm_compares_12 rfl rfl rfl rfl ?_
      refine ms0 (S' := .int (61 : Int32) :: _) dm_compares_13 rfl rfl rfl rfl ?_
      refine ms_2c dm_compares_15 rfl rfl (fun hb3 => ?_) (fun hb3 => ?_)
      · have hb3 : mj_cnd .ne p0 (61 : Int32) = true := hb3
        refine ms0 (S' := .int (0 : Int32) :: _) dm_compares_22 rfl rfl rfl rfl ?_
        simp only [a_compares, hb1, hb2, hb3, if_true, if_false]
        exact ms5 dm_compares_23 rfl rfl rfl
      · have hb3 : ¬ (mj_cnd .ne p0 (61 : Int32) = true) := hb3
        refine ms0 (S' := .int (1 : Int32) :: _) dm_compares_18 rfl rfl rfl rfl ?_
        refine ms2 dm_compares_19 rfl rfl rfl ?_
        simp only [a_compares, hb1, hb2, hb3, if_true, if_false]
        exact ms5 dm_compares_23 rfl rfl rfl
def k_kind : Nat := 303
set_option maxRecDepth 20000 in
theorem pm_kind : mj_mmof pg_ms k_kind = some ((⟨"ArrayCalculatorModel", "kind", "()I"⟩, prog_14_method_114_code, 1, (Option.some Jvm.ClassFile.FieldType.int)), 12, false, mj_dec prog_14_method_114_code) := rfl
theorem dm_kind_0 : mj_dec prog_14_method_114_code 0 = some (.aload_n 0, 1) := by decide +kernel
theorem dm_kind_1 : mj_dec prog_14_method_114_code 1 = some (.aload_n 0, 1) := by decide +kernel
theorem dm_kind_2 : mj_dec prog_14_method_114_code 2 = some (.getfield 112, 3) := by decide +kernel
theorem dm_kind_5 : mj_dec prog_14_method_114_code 5 = some (.invokevirtual 146, 3) := by decide +kernel
theorem dm_kind_8 : mj_dec prog_14_method_114_code 8 = some (.ireturn, 1) := by decide +kernel
def a_kind (i : Nat → Int32) (l : Nat → Int64) (I : Nat → Nat → Int32) (J : Nat → Nat → Int64)  : Int32 := (a_kindOf i l I J (i 31))
def ok_kind (i : Nat → Int32) (l : Nat → Int64) (I : Nat → Nat → Int32) (J : Nat → Nat → Int64)  : Prop := (ok_kindOf i l I J (i 31) ∧ True)
set_option maxRecDepth 20000 in
theorem q_kind {xt : mj_X} {pre post : mj_H} {m : Nat} {i : Nat → Int32} {l : Nat → Int64} {I : Nat → Nat → Int32} {J : Nat → Nat → Int64} {d : Nat} (hm : pre.length = m) (h2 : 2 ≤ m)  (hok : ok_kind i l I J ) : pgC xt (d + 2) k_kind (.ref m :: []) (rH pre post m i l I J) (some (.int (a_kind i l I J ))) (rH pre post m i l I J) := by
  unfold ok_kind at hok
  refine ms_call pm_kind (Nat.le_of_ble_eq_true rfl) ?_
  dsimp only
  refine ms1 dm_kind_0 rfl rfl rfl rfl ?_
  refine ms1 dm_kind_1 rfl rfl rfl rfl ?_
  refine ms3 dm_kind_2 (r_get (v := .int (i 31)) hm h2 rfl (rg_31 _ _ _)) rfl rfl rfl ?_
  obtain ⟨ho, hok⟩ := hok
  refine ms4 dm_kind_5 rfl (r_inv (As := [.int (i 31)]) hm h2 rfl rfl rfl) (q_kindOf hm h2 ho) rfl rfl rfl ?_
  exact ms5 dm_kind_8 rfl rfl rfl
def k_names : Nat := 310
set_option maxRecDepth 20000 in
theorem pm_names : mj_mmof pg_ms k_names = some ((⟨"ArrayCalculatorModel", "names", "(I)I"⟩, prog_14_method_121_code, 2, (Option.some Jvm.ClassFile.FieldType.int)), 12, false, mj_dec prog_14_method_121_code) := rfl
theorem dm_names_0 : mj_dec prog_14_method_121_code 0 = some (.iload_n 1, 1) := by decide +kernel
theorem dm_names_1 : mj_dec prog_14_method_121_code 1 = some (.ifCond .ne 10, 3) := by decide +kernel
theorem dm_names_4 : mj_dec prog_14_method_121_code 4 = some (.aload_n 0, 1) := by decide +kernel
theorem dm_names_5 : mj_dec prog_14_method_121_code 5 = some (.getfield 357, 3) := by decide +kernel
theorem dm_names_8 : mj_dec prog_14_method_121_code 8 = some (.goto 16, 3) := by decide +kernel
theorem dm_names_11 : mj_dec prog_14_method_121_code 11 = some (.iload_n 1, 1) := by decide +kernel
theorem dm_names_12 : mj_dec prog_14_method_121_code 12 = some (.iconst 1, 1) := by decide +kernel
theorem dm_names_13 : mj_dec prog_14_method_121_code 13 = some (.if_icmp .ne 10, 3) := by decide +kernel
theorem dm_names_16 : mj_dec prog_14_method_121_code 16 = some (.aload_n 0, 1) := by decide +kernel
theorem dm_names_17 : mj_dec prog_14_method_121_code 17 = some (.getfield 360, 3) := by decide +kernel
theorem dm_names_20 : mj_dec prog_14_method_121_code 20 = some (.goto 4, 3) := by decide +kernel
theorem dm_names_23 : mj_dec prog_14_method_121_code 23 = some (.iconst (-1), 1) := by decide +kernel
theorem dm_names_24 : mj_dec prog_14_method_121_code 24 = some (.ireturn, 1) := by decide +kernel
def a_names (i : Nat → Int32) (l : Nat → Int64) (I : Nat → Nat → Int32) (J : Nat → Nat → Int64) (p0 : Int32) : Int32 := (if mj_cnd .ne p0 0 = true then (if mj_cnd .ne p0 (1 : Int32) = true then (-1 : Int32) else (i 24)) else (i 23))
def ok_names (i : Nat → Int32) (l : Nat → Int64) (I : Nat → Nat → Int32) (J : Nat → Nat → Int64) (p0 : Int32) : Prop := True
set_option maxRecDepth 20000 in
theorem q_names {xt : mj_X} {pre post : mj_H} {m : Nat} {i : Nat → Int32} {l : Nat → Int64} {I : Nat → Nat → Int32} {J : Nat → Nat → Int64} {d : Nat} (hm : pre.length = m) (h2 : 2 ≤ m) {p0 : Int32} (hok : ok_names i l I J p0) : pgC xt (d + 1) k_names (.ref m :: [.int p0]) (rH pre post m i l I J) (some (.int (a_names i l I J p0))) (rH pre post m i l I J) := by
  unfold ok_names at hok
  refine ms_call pm_names (Nat.le_of_ble_eq_true rfl) ?_
  dsimp only
  refine ms1 dm_names_0 rfl rfl rfl rfl ?_
  refine ms_1c dm_names_1 rfl rfl (fun hb1 => ?_) (fun hb1 => ?_)
  · have hb1 : mj_cnd .ne p0 0 = true := hb1
    refine ms1 dm_names_11 rfl rfl rfl rfl ?_
    refine ms0 (S' := .int (1 : Int32) :: _) dm_names_12 rfl rfl rfl rfl ?_
    refine ms_2c dm_names_13 rfl rfl (fun hb2 => ?_) (fun hb2 => ?_)
    · have hb2 : mj_cnd .ne p0 (1 : Int32) = true := hb2
      refine ms0 (S' := .int (-1 : Int32) :: _) dm_names_23 rfl rfl rfl rfl ?_
      simp only [a_names, hb1, hb2, if_true, if_false]
      exact ms5 dm_names_24 rfl rfl rfl
    · have hb2 : ¬ (mj_cnd .ne p0 (1 : Int32) = true) := hb2
      refine ms1 dm_names_16 rfl rfl rfl rfl ?_
      refine ms3 dm_names_17 (r_get (v := .int (i 24)) hm h2 rfl (rg_24 _ _ _)) rfl rfl rfl ?_
      refine ms2 dm_names_20 rfl rfl rfl ?_
      simp only [a_names, hb1, hb2, if_true, if_false]
      exact ms5 dm_names_24 rfl rfl rfl
  · have hb1 : ¬ (mj_cnd .ne p0 0 = true) := hb1
    refine ms1 dm_names_4 rfl rfl rfl rfl ?_
    refine ms3 dm_names_5 (r_get (v := .int (i 23)) hm h2 rfl (rg_23 _ _ _)) rfl rfl rfl ?_
    refine ms2 dm_names_8 rfl rfl rfl ?_
    simp only [a_names, hb1, if_true, if_false]
    exact ms5 dm_names_24 rfl rfl rfl
def k_isMarked : Nat := 212
set_option maxRecDepth 20000 in
theorem pm_isMarked : mj_mmof pg_ms k_isMarked = some ((⟨"ArrayCalculatorModel", "isMarked", "(I)Z"⟩, prog_14_method_77_code, 2, (Option.some Jvm.ClassFile.FieldType.boolean)), 12, false, mj_dec prog_14_method_77_code) := rfl
theorem dm_isMarked_0 : mj_dec prog_14_method_77_code 0 = some (.aload_n 0, 1) := by decide +kernel
theorem dm_isMarked_1 : mj_dec prog_14_method_77_code 1 = some (.getfield 380, 3) := by decide +kernel
theorem dm_isMarked_4 : mj_dec prog_14_method_77_code 4 = some (.bipush 7, 2) := by decide +kernel
theorem dm_isMarked_6 : mj_dec prog_14_method_77_code 6 = some (.if_icmp .ne 15, 3) := by decide +kernel
theorem dm_isMarked_9 : mj_dec prog_14_method_77_code 9 = some (.aload_n 0, 1) := by decide +kernel
theorem dm_isMarked_10 : mj_dec prog_14_method_77_code 10 = some (.getfield 414, 3) := by decide +kernel
theorem dm_isMarked_13 : mj_dec prog_14_method_77_code 13 = some (.iload_n 1, 1) := by decide +kernel
theorem dm_isMarked_14 : mj_dec prog_14_method_77_code 14 = some (.if_icmp .ne 7, 3) := by decide +kernel
theorem dm_isMarked_17 : mj_dec prog_14_method_77_code 17 = some (.iconst 1, 1) := by decide +kernel
theorem dm_isMarked_18 : mj_dec prog_14_method_77_code 18 = some (.goto 4, 3) := by decide +kernel
theorem dm_isMarked_21 : mj_dec prog_14_method_77_code 21 = some (.iconst 0, 1) := by decide +kernel
theorem dm_isMarked_22 : mj_dec prog_14_method_77_code 22 = some (.ireturn, 1) := by decide +kernel
def a_isMarked (i : Nat → Int32) (l : Nat → Int64) (I : Nat → Nat → Int32) (J : Nat → Nat → Int64) (p0 : Int32) : Int32 := (if mj_cnd .ne (i 38) (7 : Int32) = true then (0 : Int32) else (if mj_cnd .ne (i 40) p0 = true then (0 : Int32) else (1 : Int32)))
def ok_isMarked (i : Nat → Int32) (l : Nat → Int64) (I : Nat → Nat → Int32) (J : Nat → Nat → Int64) (p0 : Int32) : Prop := True
set_option maxRecDepth 20000 in
theorem q_isMarked {xt : mj_X} {pre post : mj_H} {m : Nat} {i : Nat → Int32} {l : Nat → Int64} {I : Nat → Nat → Int32} {J : Nat → Nat → Int64} {d : Nat} (hm : pre.length = m) (h2 : 2 ≤ m) {p0 : Int32} (hok : ok_isMarked i l I J p0) : pgC xt (d + 1) k_isMarked (.ref m :: [.int p0]) (rH pre post m i l I J) (some (.int (a_isMarked i l I J p0))) (rH pre post m i l I J) := by
  unfold ok_isMarked at hok
  refine ms_call pm_isMarked (Nat.le_of_ble_eq_true rfl) ?_
  dsimp only
  refine ms1 dm_isMarked_0 rfl rfl rfl rfl ?_
  refine ms3 dm_isMarked_1 (r_get (v := .int (i 38)) hm h2 rfl (rg_38 _ _ _)) rfl rfl rfl ?_
  refine ms0 (S' := .int (7 : Int32) :: _) dm_isMarked_4 rfl rfl rfl rfl ?_
  refine ms_2c dm_isMarked_6 rfl rfl (fun hb1 => ?_) (fun hb1 => ?_)
  · have hb1 : mj_cnd .ne (i 38) (7 : Int32) = true := hb1
    refine ms0 (S' := .int (0 : Int32) :: _) dm_isMarked_21 rfl rfl rfl rfl ?_
    simp only [a_isMarked, hb1, if_true, if_false]
    exact ms5 dm_isMarked_22 rfl rfl rfl
  · have hb1 : ¬ (mj_cnd .ne (i 38) (7 : Int32) = true) := hb1
    refine ms1 dm_isMarked_9 rfl rfl rfl rfl ?_
    refine ms3 dm_isMarked_10 (r_get (v := .int (i 40)) hm h2 rfl (rg_40 _ _ _)) rfl rfl rfl ?_
    refine ms1 dm_isMarked_13 rfl rfl rfl rfl ?_
    refine ms_2c dm_isMarked_14 rfl rfl (fun hb2 => ?_) (fun hb2 => ?_)
    · have hb2 : mj_cnd .ne (i 40) p0 = true := hb2
      refine ms0 (S' := .int (0 : Int32) :: _) dm_isMarked_21 rfl rfl rfl rfl ?_
      simp only [a_isMarked, hb1, hb2, if_true, if_false]
      exact ms5 dm_isMarked_22 rfl rfl rfl
    · have hb2 : ¬ (mj_cnd .ne (i 40) p0 = true) := hb2
      refine ms0 (S' := .int (1 : Int32) :: _) dm_isMarked_17 rfl rfl rfl rfl ?_
      refine ms2 dm_isMarked_18 rfl rfl rfl ?_
      simp only [a_isMarked, hb1, hb2, if_true, if_false]
      exact ms5 dm_isMarked_22 rfl rfl rfl
def k_isVerbed : Nat := 214
set_option maxRecDepth 20000 in
theorem pm_isVerbed : mj_mmof pg_ms k_isVerbed = some ((⟨"ArrayCalculatorModel", "isVerbed", "(I)Z"⟩, prog_14_method_78_code, 2, (Option.some Jvm.ClassFile.FieldType.boolean)), 12, false, mj_dec prog_14_method_78_code) := rfl
theorem dm_isVerbed_0 : mj_dec prog_14_method_78_code 0 = some (.aload_n 0, 1) := by decide +kernel
theorem dm_isVerbed_1 : mj_dec prog_14_method_78_code 1 = some (.getfield 380, 3) := by decide +kernel
theorem dm_isVerbed_4 : mj_dec prog_14_method_78_code 4 = some (.iconst 5, 1) := by decide +kernel
theorem dm_isVerbed_5 : mj_dec prog_14_method_78_code 5 = some (.if_icmp .ne 15, 3) := by decide +kernel
theorem dm_isVerbed_8 : mj_dec prog_14_method_78_code 8 = some (.aload_n 0, 1) := by decide +kernel
theorem dm_isVerbed_9 : mj_dec prog_14_method_78_code 9 = some (.getfield 414, 3) := by decide +kernel
theorem dm_isVerbed_12 : mj_dec prog_14_method_78_code 12 = some (.iload_n 1, 1) := by decide +kernel
theorem dm_isVerbed_13 : mj_dec prog_14_method_78_code 13 = some (.if_icmp .ne 7, 3) := by decide +kernel
theorem dm_isVerbed_16 : mj_dec prog_14_method_78_code 16 = some (.iconst 1, 1) := by decide +kernel
theorem dm_isVerbed_17 : mj_dec prog_14_method_78_code 17 = some (.goto 4, 3) := by decide +kernel
theorem dm_isVerbed_20 : mj_dec prog_14_method_78_code 20 = some (.iconst 0, 1) := by decide +kernel
theorem dm_isVerbed_21 : mj_dec prog_14_method_78_code 21 = some (.ireturn, 1) := by decide +kernel
def a_isVerbed (i : Nat → Int32) (l : Nat → Int64) (I : Nat → Nat → Int32) (J : Nat → Nat → Int64) (p0 : Int32) : Int32 := (if mj_cnd .ne (i 38) (5 : Int32) = true then (0 : Int32) else (if mj_cnd .ne (i 40) p0 = true then (0 : Int32) else (1 : Int32)))
def ok_isVerbed (i : Nat → Int32) (l : Nat → Int64) (I : Nat → Nat → Int32) (J : Nat → Nat → Int64) (p0 : Int32) : Prop := True
set_option maxRecDepth 20000 in
theorem q_isVerbed {xt : mj_X} {pre post : mj_H} {m : Nat} {i : Nat → Int32} {l : Nat → Int64} {I : Nat → Nat → Int32} {J : Nat → Nat → Int64} {d : Nat} (hm : pre.length = m) (h2 : 2 ≤ m) {p0 : Int32} (hok : ok_isVerbed i l I J p0) : pgC xt (d + 1) k_isVerbed (.ref m :: [.int p0]) (rH pre post m i l I J) (some (.int (a_isVerbed i l I J p0))) (rH pre post m i l I J) := by
  unfold ok_isVerbed at hok
  refine ms_call pm_isVerbed (Nat.le_of_ble_eq_true rfl) ?_
  dsimp only
  refine ms1 dm_isVerbed_0 rfl rfl rfl rfl ?_
  refine ms3 dm_isVerbed_1 (r_get (v := .int (i 38)) hm h2 rfl (rg_38 _ _ _)) rfl rfl rfl ?_
  refine ms0 (S' := .int (5 : Int32) :: _) dm_isVerbed_4 rfl rfl rfl rfl ?_
  refine ms_2c dm_isVerbed_5 rfl rfl (fun hb1 => ?_) (fun hb1 => ?_)
  · have hb1 : mj_cnd .ne (i 38) (5 : Int32) = true := hb1
    refine ms0 (S' := .int (0 : Int32) :: _) dm_isVerbed_20 rfl rfl rfl rfl ?_
    simp only [a_isVerbed, hb1, if_true, if_false]
    exact ms5 dm_isVerbed_21 rfl rfl rfl
  · have hb1 : ¬ (mj_cnd .ne (i 38) (5 : Int32) = true) := hb1
    refine ms1 dm_isVerbed_8 rfl rfl rfl rfl ?_
    refine ms3 dm_isVerbed_9 (r_get (v := .int (i 40)) hm h2 rfl (rg_40 _ _ _)) rfl rfl rfl ?_
    refine ms1 dm_isVerbed_12 rfl rfl rfl rfl ?_
    refine ms_2c dm_isVerbed_13 rfl rfl (fun hb2 => ?_) (fun hb2 => ?_)
    · have hb2 : mj_cnd .ne (i 40) p0 = true := hb2
      refine ms0 (S' := .int (0 : Int32) :: _) dm_isVerbed_20 rfl rfl rfl rfl ?_
      simp only [a_isVerbed, hb1, hb2, if_true, if_false]
      exact ms5 dm_isVerbed_21 rfl rfl rfl
    · have hb2 : ¬ (mj_cnd .ne (i 40) p0 = true) := hb2
      refine ms0 (S' := .int (1 : Int32) :: _) dm_isVerbed_16 rfl rfl rfl rfl ?_
      refine ms2 dm_isVerbed_17 rfl rfl rfl ?_
      simp only [a_isVerbed, hb1, hb2, if_true, if_false]
      exact ms5 dm_isVerbed_21 rfl rfl rfl
def k_wrong : Nat := 215
set_option maxRecDepth 20000 in
theorem pm_wrong : mj_mmof pg_ms k_wrong = some ((⟨"ArrayCalculatorModel", "wrong", "()I"⟩, prog_14_method_80_code, 1, (Option.some Jvm.ClassFile.FieldType.int)), 12, false, mj_dec prog_14_method_80_code) := rfl
theorem dm_wrong_0 : mj_dec prog_14_method_80_code 0 = some (.aload_n 0, 1) := by decide +kernel
theorem dm_wrong_1 : mj_dec prog_14_method_80_code 1 = some (.getfield 427, 3) := by decide +kernel
theorem dm_wrong_4 : mj_dec prog_14_method_80_code 4 = some (.ifCond .ge 11, 3) := by decide +kernel
theorem dm_wrong_7 : mj_dec prog_14_method_80_code 7 = some (.aload_n 0, 1) := by decide +kernel
theorem dm_wrong_8 : mj_dec prog_14_method_80_code 8 = some (.aload_n 0, 1) := by decide +kernel
theorem dm_wrong_9 : mj_dec prog_14_method_80_code 9 = some (.getfield 386, 3) := by decide +kernel
theorem dm_wrong_12 : mj_dec prog_14_method_80_code 12 = some (.putfield 427, 3) := by decide +kernel
theorem dm_wrong_15 : mj_dec prog_14_method_80_code 15 = some (.iconst (-1), 1) := by decide +kernel
theorem dm_wrong_16 : mj_dec prog_14_method_80_code 16 = some (.ireturn, 1) := by decide +kernel
def a_wrong (i : Nat → Int32) (l : Nat → Int64) (I : Nat → Nat → Int32) (J : Nat → Nat → Int64)  : Int32 := (if mj_cnd .ge (i 52) 0 = true then (-1 : Int32) else (-1 : Int32))
def si_wrong (i : Nat → Int32) (l : Nat → Int64) (I : Nat → Nat → Int32) (J : Nat → Nat → Int64)  : Nat → Int32 := (if mj_cnd .ge (i 52) 0 = true then i else (upd i 52 (i 39)))
def ok_wrong (i : Nat → Int32) (l : Nat → Int64) (I : Nat → Nat → Int32) (J : Nat → Nat → Int64)  : Prop := True
set_option maxRecDepth 20000 in
theorem q_wrong {xt : mj_X} {pre post : mj_H} {m : Nat} {i : Nat → Int32} {l : Nat → Int64} {I : Nat → Nat → Int32} {J : Nat → Nat → Int64} {d : Nat} (hm : pre.length = m) (h2 : 2 ≤ m)  (hok : ok_wrong i l I J ) : pgC xt (d + 1) k_wrong (.ref m :: []) (rH pre post m i l I J) (some (.int (a_wrong i l I J ))) (rH pre post m (si_wrong i l I J ) l I J) := by
  unfold ok_wrong at hok
  refine ms_call pm_wrong (Nat.le_of_ble_eq_true rfl) ?_
  dsimp only
  refine ms1 dm_wrong_0 rfl rfl rfl rfl ?_
  refine ms3 dm_wrong_1 (r_get (v := .int (i 52)) hm h2 rfl (rg_52 _ _ _)) rfl rfl rfl ?_
  refine ms_1c dm_wrong_4 rfl rfl (fun hb1 => ?_) (fun hb1 => ?_)
  · have hb1 : mj_cnd .ge (i 52) 0 = true := hb1
    refine ms0 (S' := .int (-1 : Int32) :: _) dm_wrong_15 rfl rfl rfl rfl ?_
    simp only [a_wrong, si_wrong, hb1, if_true, if_false]
    exact ms5 dm_wrong_16 rfl rfl rfl
  · have hb1 : ¬ (mj_cnd .ge (i 52) 0 = true) := hb1
    refine ms1 dm_wrong_7 rfl rfl rfl rfl ?_
    refine ms1 dm_wrong_8 rfl rfl rfl rfl ?_
    refine ms3 dm_wrong_9 (r_get (v := .int (i 39)) hm h2 rfl (rg_39 _ _ _)) rfl rfl rfl ?_
    refine ms3 dm_wrong_12 (r_puti hm h2 rfl (rF_lt 52 rfl) (rf_52 _ _ _ _)) rfl rfl rfl ?_
    refine ms0 (S' := .int (-1 : Int32) :: _) dm_wrong_15 rfl rfl rfl rfl ?_
    simp only [a_wrong, si_wrong, hb1, if_true, if_false]
    exact ms5 dm_wrong_16 rfl rfl rfl
def k_turned : Nat := 280
set_option maxRecDepth 20000 in
theorem pm_turned : mj_mmof pg_ms k_turned = some ((⟨"ArrayCalculatorModel", "turned", "(IJ)J"⟩, prog_14_method_30_code, 3, (Option.some Jvm.ClassFile.FieldType.long)), 12, false, mj_dec prog_14_method_30_code) := rfl
theorem dm_turned_0 : mj_dec prog_14_method_30_code 0 = some (.iload_n 0, 1) := by decide +kernel
theorem dm_turned_1 : mj_dec prog_14_method_30_code 1 = some (.bipush 45, 2) := by decide +kernel
theorem dm_turned_3 : mj_dec prog_14_method_30_code 3 = some (.if_icmp .ne 8, 3) := by decide +kernel
theorem dm_turned_6 : mj_dec prog_14_method_30_code 6 = some (.lload_n 1, 1) := by decide +kernel
theorem dm_turned_7 : mj_dec prog_14_method_30_code 7 = some (.lneg, 1) := by decide +kernel
theorem dm_turned_8 : mj_dec prog_14_method_30_code 8 = some (.goto 46, 3) := by decide +kernel
theorem dm_turned_11 : mj_dec prog_14_method_30_code 11 = some (.iload_n 0, 1) := by decide +kernel
theorem dm_turned_12 : mj_dec prog_14_method_30_code 12 = some (.bipush 37, 2) := by decide +kernel
theorem dm_turned_14 : mj_dec prog_14_method_30_code 14 = some (.if_icmp .ne 29, 3) := by decide +kernel
theorem dm_turned_17 : mj_dec prog_14_method_30_code 17 = some (.lload_n 1, 1) := by decide +kernel
theorem dm_turned_18 : mj_dec prog_14_method_30_code 18 = some (.lconst 0, 1) := by decide +kernel
theorem dm_turned_19 : mj_dec prog_14_method_30_code 19 = some (.lcmp, 1) := by decide +kernel
theorem dm_turned_20 : mj_dec prog_14_method_30_code 20 = some (.ifCond .le 7, 3) := by decide +kernel
theorem dm_turned_23 : mj_dec prog_14_method_30_code 23 = some (.lconst 1, 1) := by decide +kernel
theorem dm_turned_24 : mj_dec prog_14_method_30_code 24 = some (.goto 30, 3) := by decide +kernel
theorem dm_turned_27 : mj_dec prog_14_method_30_code 27 = some (.lload_n 1, 1) := by decide +kernel
theorem dm_turned_28 : mj_dec prog_14_method_30_code 28 = some (.lconst 0, 1) := by decide +kernel
theorem dm_turned_29 : mj_dec prog_14_method_30_code 29 = some (.lcmp, 1) := by decide +kernel
theorem dm_turned_30 : mj_dec prog_14_method_30_code 30 = some (.ifCond .ge 9, 3) := by decide +kernel
theorem dm_turned_33 : mj_dec prog_14_method_30_code 33 = some (.ldc2_w 253, 3) := by decide +kernel
theorem dm_turned_36 : mj_dec prog_14_method_30_code 36 = some (.goto 18, 3) := by decide +kernel
theorem dm_turned_39 : mj_dec prog_14_method_30_code 39 = some (.lconst 0, 1) := by decide +kernel
theorem dm_turned_40 : mj_dec prog_14_method_30_code 40 = some (.goto 14, 3) := by decide +kernel
theorem dm_turned_43 : mj_dec prog_14_method_30_code 43 = some (.lload_n 1, 1) := by decide +kernel
theorem dm_turned_44 : mj_dec prog_14_method_30_code 44 = some (.lconst 0, 1) := by decide +kernel
theorem dm_turned_45 : mj_dec prog_14_method_30_code 45 = some (.lcmp, 1) := by decide +kernel
theorem dm_turned_46 : mj_dec prog_14_method_30_code 46 = some (.ifCond .ne 7, 3) := by decide +kernel
theorem dm_turned_49 : mj_dec prog_14_method_30_code 49 = some (.lconst 1, 1) := by decide +kernel
theorem dm_turned_50 : mj_dec prog_14_method_30_code 50 = some (.goto 4, 3) := by decide +kernel
theorem dm_turned_53 : mj_dec prog_14_method_30_code 53 = some (.lconst 0, 1) := by decide +kernel
theorem dm_turned_54 : mj_dec prog_14_method_30_code 54 = some (.lreturn, 1) := by decide +kernel
def a_turned (i : Nat → Int32) (l : Nat → Int64) (I : Nat → Nat → Int32) (J : Nat → Nat → Int64) (p0 : Int32) (p1 : Int64) : Int64 := (if mj_cnd .ne p0 (45 : Int32) = true then (if mj_cnd .ne p0 (37 : Int32) = true then (if mj_cnd .ne (lg_cmp p1 (0 : Int64)) 0 = true then (0 : Int64) else (1 : Int64)) else (if mj_cnd .le (lg_cmp p1 (0 : Int64)) 0 = true then (if mj_cnd .ge (lg_cmp p1 (0 : Int64)) 0 = true then (0 : Int64) else (-1 : Int64)) else (1 : Int64))) else (-p1))
def ok_turned (i : Nat → Int32) (l : Nat → Int64) (I : Nat → Nat → Int32) (J : Nat → Nat → Int64) (p0 : Int32) (p1 : Int64) : Prop := True
set_option maxRecDepth 20000 in
theorem q_turned {xt : mj_X} {pre post : mj_H} {m : Nat} {i : Nat → Int32} {l : Nat → Int64} {I : Nat → Nat → Int32} {J : Nat → Nat → Int64} {d : Nat} (hm : pre.length = m) (h2 : 2 ≤ m) {p0 : Int32} {p1 : Int64} (hok : ok_turned i l I J p0 p1) : pgC xt (d + 1) k_turned ([.int p0, .long p1]) (rH pre post m i l I J) (some (.long (a_turned i l I J p0 p1))) (rH pre post m i l I J) := by
  unfold ok_turned at hok
  refine ms_call pm_turned (Nat.le_of_ble_eq_true rfl) ?_
  dsimp only
  refine ms1 dm_turned_0 rfl rfl rfl rfl ?_
  refine ms0 (S' := .int (45 : Int32) :: _) dm_turned_1 rfl rfl rfl rfl ?_
  refine ms_2c dm_turned_3 rfl rfl (fun hb1 => ?_) (fun hb1 => ?_)
  · have hb1 : mj_cnd .ne p0 (45 : Int32) = true := hb1
    refine ms1 dm_turned_11 rfl rfl rfl rfl ?_
    refine ms0 (S' := .int (37 : Int32) :: _) dm_turned_12 rfl rfl rfl rfl ?_
    refine ms_2c dm_turned_14 rfl rfl (fun hb2 => ?_) (fun hb2 => ?_)
    · have hb2 : mj_cnd .ne p0 (37 : Int32) = true := hb2
      refine ms1 dm_turned_43 rfl rfl rfl rfl ?_
      refine ms0 (S' := .long (0 : Int64) :: _) dm_turned_44 rfl rfl rfl rfl ?_
      refine ms0 dm_turned_45 rfl rfl rfl rfl ?_
      refine ms_1c dm_turned_46 rfl rfl (fun hb3 => ?_) (fun hb3 => ?_)
      · have hb3 : mj_cnd .ne (lg_cmp p1 (0 : Int64)) 0 = true := hb3
        refine ms0 (S' := .long (0 : Int64) :: _) dm_turned_53 rfl rfl rfl rfl ?_
        simp only [a_turned, hb1, hb2, hb3, if_true, if_false]
        exact ms5 dm_turned_54 rfl rfl rfl
      · have hb3 : ¬ (mj_cnd .ne (lg_cmp p1 (0 : Int64)) 0 = true) := hb3
        refine ms0 (S' := .long (1 : Int64) :: _) dm_turned_49 rfl rfl rfl rfl ?_
        refine ms2 dm_turned_50 rfl rfl rfl ?_
        simp only [a_turned, hb1, hb2, hb3, if_true, if_false]
        exact ms5 dm_turned_54 rfl rfl rfl
    · have hb2 : ¬ (mj_cnd .ne p0 (37 : Int32) = true) := hb2
      refine ms1 dm_turned_17 rfl rfl rfl rfl ?_
      refine ms0 (S' := .long (0 : Int64) :: _) dm_turned_18 rfl rfl rfl rfl ?_
      refine ms0 dm_turned_19 rfl rfl rfl rfl ?_
      refine ms_1c dm_turned_20 rfl rfl (fun hb4 => ?_) (fun hb4 => ?_)
      · have hb4 : mj_cnd .le (lg_cmp p1 (0 : Int64)) 0 = true := hb4
        refine ms1 dm_turned_27 rfl rfl rfl rfl ?_
        refine ms0 (S' := .long (0 : Int64) :: _) dm_turned_28 rfl rfl rfl rfl ?_
        refine ms0 dm_turned_29 rfl rfl rfl rfl ?_
        refine ms_1c dm_turned_30 rfl rfl (fun hb5 => ?_) (fun hb5 => ?_)
        · have hb5 : mj_cnd .ge (lg_cmp p1 (0 : Int64)) 0 = true := hb5
          refine ms0 (S' := .long (0 : Int64) :: _) dm_turned_39 rfl rfl rfl rfl ?_
          refine ms2 dm_turned_40 rfl rfl rfl ?_
          simp only [a_turned, hb1, hb2, hb4, hb5, if_true, if_false]
          exact ms5 dm_turned_54 rfl rfl rfl
        · have hb5 : ¬ (mj_cnd .ge (lg_cmp p1 (0 : Int64)) 0 = true) := hb5
          refine ms3 (S' := .long (-1 : Int64) :: _) dm_turned_33 rfl rfl rfl rfl ?_
          refine ms2 dm_turned_36 rfl rfl rfl ?_
          simp only [a_turned, hb1, hb2, hb4, hb5, if_true, if_false]
          exact ms5 dm_turned_54 rfl rfl rfl
      · have hb4 : ¬ (mj_cnd .le (lg_cmp p1 (0 : Int64)) 0 = true) := hb4
        refine ms0 (S' := .long (1 : Int64) :: _) dm_turned_23 rfl rfl rfl rfl ?_
        refine ms2 dm_turned_24 rfl rfl rfl ?_
        simp only [a_turned, hb1, hb2, hb4, if_true, if_false]
        exact ms5 dm_turned_54 rfl rfl rfl
  · have hb1 : ¬ (mj_cnd .ne p0 (45 : Int32) = true) := hb1
    refine ms1 dm_turned_6 rfl rfl rfl rfl ?_
    refine ms0 dm_turned_7 rfl rfl rfl rfl ?_
    refine ms2 dm_turned_8 rfl rfl rfl ?_
    simp only [a_turned, hb1, if_true, if_false]
    exact ms5 dm_turned_54 rfl rfl rfl
def k_sortOf : Nat := 256
set_option maxRecDepth 20000 in
theorem pm_sortOf : mj_mmof pg_ms k_sortOf = some ((⟨"ArrayCalculatorModel", "sortOf", "(I)I"⟩, prog_14_method_54_code, 2, (Option.some Jvm.ClassFile.FieldType.int)), 12, false, mj_dec prog_14_method_54_code) := rfl
theorem dm_sortOf_0 : mj_dec prog_14_method_54_code 0 = some (.aload_n 0, 1) := by decide +kernel
theorem dm_sortOf_1 : mj_dec prog_14_method_54_code 1 = some (.iload_n 1, 1) := by decide +kernel
theorem dm_sortOf_2 : mj_dec prog_14_method_54_code 2 = some (.invokevirtual 146, 3) := by decide +kernel
theorem dm_sortOf_5 : mj_dec prog_14_method_54_code 5 = some (.ifCond .eq 11, 3) := by decide +kernel
theorem dm_sortOf_8 : mj_dec prog_14_method_54_code 8 = some (.aload_n 0, 1) := by decide +kernel
theorem dm_sortOf_9 : mj_dec prog_14_method_54_code 9 = some (.iload_n 1, 1) := by decide +kernel
theorem dm_sortOf_10 : mj_dec prog_14_method_54_code 10 = some (.invokevirtual 174, 3) := by decide +kernel
theorem dm_sortOf_13 : mj_dec prog_14_method_54_code 13 = some (.ifCond .eq 7, 3) := by decide +kernel
theorem dm_sortOf_16 : mj_dec prog_14_method_54_code 16 = some (.iconst 1, 1) := by decide +kernel
theorem dm_sortOf_17 : mj_dec prog_14_method_54_code 17 = some (.goto 40, 3) := by decide +kernel
theorem dm_sortOf_20 : mj_dec prog_14_method_54_code 20 = some (.aload_n 0, 1) := by decide +kernel
theorem dm_sortOf_21 : mj_dec prog_14_method_54_code 21 = some (.iload_n 1, 1) := by decide +kernel
theorem dm_sortOf_22 : mj_dec prog_14_method_54_code 22 = some (.invokevirtual 146, 3) := by decide +kernel
theorem dm_sortOf_25 : mj_dec prog_14_method_54_code 25 = some (.iconst 1, 1) := by decide +kernel
theorem dm_sortOf_26 : mj_dec prog_14_method_54_code 26 = some (.if_icmp .eq 12, 3) := by decide +kernel
theorem dm_sortOf_29 : mj_dec prog_14_method_54_code 29 = some (.aload_n 0, 1) := by decide +kernel
theorem dm_sortOf_30 : mj_dec prog_14_method_54_code 30 = some (.iload_n 1, 1) := by decide +kernel
theorem dm_sortOf_31 : mj_dec prog_14_method_54_code 31 = some (.invokevirtual 146, 3) := by decide +kernel
theorem dm_sortOf_34 : mj_dec prog_14_method_54_code 34 = some (.iconst 3, 1) := by decide +kernel
theorem dm_sortOf_35 : mj_dec prog_14_method_54_code 35 = some (.if_icmp .ne 7, 3) := by decide +kernel
theorem dm_sortOf_38 : mj_dec prog_14_method_54_code 38 = some (.iconst 2, 1) := by decide +kernel
theorem dm_sortOf_39 : mj_dec prog_14_method_54_code 39 = some (.goto 18, 3) := by decide +kernel
theorem dm_sortOf_42 : mj_dec prog_14_method_54_code 42 = some (.aload_n 0, 1) := by decide +kernel
theorem dm_sortOf_43 : mj_dec prog_14_method_54_code 43 = some (.iload_n 1, 1) := by decide +kernel
theorem dm_sortOf_44 : mj_dec prog_14_method_54_code 44 = some (.invokevirtual 146, 3) := by decide +kernel
theorem dm_sortOf_47 : mj_dec prog_14_method_54_code 47 = some (.bipush 6, 2) := by decide +kernel
theorem dm_sortOf_49 : mj_dec prog_14_method_54_code 49 = some (.if_icmp .ne 7, 3) := by decide +kernel
theorem dm_sortOf_52 : mj_dec prog_14_method_54_code 52 = some (.iconst 3, 1) := by decide +kernel
theorem dm_sortOf_53 : mj_dec prog_14_method_54_code 53 = some (.goto 4, 3) := by decide +kernel
theorem dm_sortOf_56 : mj_dec prog_14_method_54_code 56 = some (.iconst 4, 1) := by decide +kernel
theorem dm_sortOf_57 : mj_dec prog_14_method_54_code 57 = some (.ireturn, 1) := by decide +kernel
def a_sortOf (i : Nat → Int32) (l : Nat → Int64) (I : Nat → Nat → Int32) (J : Nat → Nat → Int64) (p0 : Int32) : Int32 := (if mj_cnd .eq (a_kindOf i l I J p0) 0 = true then (1 : Int32) else (if mj_cnd .eq (a_isNumbers i l I J p0) 0 = true then (if mj_cnd .eq (a_kindOf i l I J p0) (1 : Int32) = true then (2 : Int32) else (if mj_cnd .ne (a_kindOf i l I J p0) (3 : Int32) = true then (if mj_cnd .ne (a_kindOf i l I J p0) (6 : Int32) = true then (4 : Int32) else (3 : Int32)) else (2 : Int32))) else (1 : Int32)))
def ok_sortOf (i : Nat → Int32) (l : Nat → Int64) (I : Nat → Nat → Int32) (J : Nat → Nat → Int64) (p0 : Int32) : Prop := (ok_kindOf i l I J p0 ∧ (if mj_cnd .eq (a_kindOf i l I J p0) 0 = true then True else (ok_isNumbers i l I J p0 ∧ (if mj_cnd .eq (a_isNumbers i l I J p0) 0 = true then (ok_kindOf i l I J p0 ∧ (if mj_cnd .eq (a_kindOf i l I J p0) (1 : Int32) = true then True else (ok_kindOf i l I J p0 ∧ (if mj_cnd .ne (a_kindOf i l I J p0) (3 : Int32) = true then (ok_kindOf i l I J p0 ∧ True) else True)))) else True))))
set_option maxRecDepth 20000 in
theorem q_sortOf {xt : mj_X} {pre post : mj_H} {m : Nat} {i : Nat → Int32} {l : Nat → Int64} {I : Nat → Nat → Int32} {J : Nat → Nat → Int64} {d : Nat} (hm : pre.length = m) (h2 : 2 ≤ m) {p0 : Int32} (hok : ok_sortOf i l I J p0) : pgC xt (d + 4) k_sortOf (.ref m :: [.int p0]) (rH pre post m i l I J) (some (.int (a_sortOf i l I J p0))) (rH pre post m i l I J) := by
  unfold ok_sortOf at hok
  refine ms_call pm_sortOf (Nat.le_of_ble_eq_true rfl) ?_
  dsimp only
  refine ms1 dm_sortOf_0 rfl rfl rfl rfl ?_
  refine ms1 dm_sortOf_1 rfl rfl rfl rfl ?_
  obtain ⟨ho, hok⟩ := hok
  refine ms4 dm_sortOf_2 rfl (r_inv (As := [.int p0]) hm h2 rfl rfl rfl) (q_kindOf hm h2 ho) rfl rfl rfl ?_
  refine ms_1c dm_sortOf_5 rfl rfl (fun hb1 => ?_) (fun hb1 => ?_)
  · have hb1 : mj_cnd .eq (a_kindOf i l I J p0) 0 = true := hb1
    rw [if_pos hb1] at hok
    refine ms0 (S' := .int (1 : Int32) :: _) dm_sortOf_16 rfl rfl rfl rfl ?_
    refine ms2 dm_sortOf_17 rfl rfl rfl ?_
    simp only [a_sortOf, hb1, if_true, if_false]
    exact ms5 dm_sortOf_57 rfl rfl rfl
  · have hb1 : ¬ (mj_cnd .eq (a_kindOf i l I J p0) 0 = true) := hb1
    rw [if_neg hb1] at hok
    refine ms1 dm_sortOf_8 rfl rfl rfl rfl ?_
    refine ms1 dm_sortOf_9 rfl rfl rfl rfl ?_
    obtain ⟨ho, hok⟩ := hok
    refine ms4 dm_sortOf_10 rfl (r_inv (As := [.int p0]) hm h2 rfl rfl rfl) (q_isNumbers hm h2 ho) rfl rfl rfl ?_
    refine ms_1c dm_sortOf_13 rfl rfl (fun hb2 => ?_) (fun hb2 => ?_)
    · have hb2 : mj_cnd .eq (a_isNumbers i l I J p0) 0 = true := hb2
      rw [if_pos hb2] at hok
      refine ms1 dm_sortOf_20 rfl rfl rfl rfl ?_
      refine ms1 dm_sortOf_21 rfl rfl rfl rfl ?_
      obtain ⟨ho, hok⟩ := hok
      refine ms4 dm_sortOf_22 rfl (r_inv (As := [.int p0]) hm h2 rfl rfl rfl) (q_kindOf hm h2 ho) rfl rfl rfl ?_
      refine ms0 (S' := .int (1 : Int32) :: _) dm_sortOf_25 rfl rfl rfl rfl ?_
      refine ms_2c dm_sortOf_26 rfl rfl (fun hb3 => ?_) (fun hb3 => ?_)
      · have hb3 : mj_cnd .eq (a_kindOf i l I J p0) (1 : Int32) = true := hb3
        rw [if_pos hb3] at hok
        refine ms0 (S' := .int (2 : Int32) :: _) dm_sortOf_38 rfl rfl rfl rfl ?_
        refine ms2 dm_sortOf_39 rfl rfl rfl ?_
        simp only [a_sortOf, hb1, hb2, hb3, if_true, if_false]
        exact ms5 dm_sortOf_57 rfl rfl rfl
      · have hb3 : ¬ (mj_cnd .eq (a_kindOf i l I J p0) (1 : Int32) = true) := hb3
        rw [if_neg hb3] at hok
        refine ms1 dm_sortOf_29 rfl rfl rfl rfl ?_
        refine ms1 dm_sortOf_30 rfl rfl rfl rfl ?_
        obtain ⟨ho, hok⟩ := hok
        refine ms4 dm_sortOf_31 rfl (r_inv (As := [.int p0]) hm h2 rfl rfl rfl) (q_kindOf hm h2 ho) rfl rfl rfl ?_
        refine ms0 (S' := .int (3 : Int32) :: _) dm_sortOf_34 rfl rfl rfl rfl ?_
        refine ms_2c dm_sortOf_35 rfl rfl (fun hb4 => ?_) (fun hb4 => ?_)
        · have hb4 : mj_cnd .ne (a_kindOf i l I J p0) (3 : Int32) = true := hb4
          rw [if_pos hb4] at hok
          refine ms1 dm_sortOf_42 rfl rfl rfl rfl ?_
          refine ms1 dm_sortOf_43 rfl rfl rfl rfl ?_
          obtain ⟨ho, hok⟩ := hok
          refine ms4 dm_sortOf_44 rfl (r_inv (As := [.int p0]) hm h2 rfl rfl rfl) (q_kindOf hm h2 ho) rfl rfl rfl ?_
          refine ms0 (S' := .int (6 : Int32) :: _) dm_sortOf_47 rfl rfl rfl rfl ?_
          refine ms_2c dm_sortOf_49 rfl rfl (fun hb5 => ?_) (fun hb5 => ?_)
          · have hb5 : mj_cnd .ne (a_kindOf i l I J p0) (6 : Int32) = true := hb5
            refine ms0 (S' := .int (4 : Int32) :: _) dm_sortOf_56 rfl rfl rfl rfl ?_
            simp only [a_sortOf, hb1, hb2, hb3, hb4, hb5, if_true, if_false]
            exact ms5 dm_sortOf_57 rfl rfl rfl
          · have hb5 : ¬ (mj_cnd .ne (a_kindOf i l I J p0) (6 : Int32) = true) := hb5
            refine ms0 (S' := .int (3 : Int32) :: _) dm_sortOf_52 rfl rfl rfl rfl ?_
            refine ms2 dm_sortOf_53 rfl rfl rfl ?_
            simp only [a_sortOf, hb1, hb2, hb3, hb4, hb5, if_true, if_false]
            exact ms5 dm_sortOf_57 rfl rfl rfl
        · have hb4 : ¬ (mj_cnd .ne (a_kindOf i l I J p0) (3 : Int32) = true) := hb4
          rw [if_neg hb4] at hok
          refine ms0 (S' := .int (2 : Int32) :: _) dm_sortOf_38 rfl rfl rfl rfl ?_
          refine ms2 dm_sortOf_39 rfl rfl rfl ?_
          simp only [a_sortOf, hb1, hb2, hb3, hb4, if_true, if_false]
          exact ms5 dm_sortOf_57 rfl rfl rfl
    · have hb2 : ¬ (mj_cnd .eq (a_isNumbers i l I J p0) 0 = true) := hb2
      rw [if_neg hb2] at hok
      refine ms0 (S' := .int (1 : Int32) :: _) dm_sortOf_16 rfl rfl rfl rfl ?_
      refine ms2 dm_sortOf_17 rfl rfl rfl ?_
      simp only [a_sortOf, hb1, hb2, if_true, if_false]
      exact ms5 dm_sortOf_57 rfl rfl rfl
def k_itemAt : Nat := 258
set_option maxRecDepth 20000 in
theorem pm_itemAt : mj_mmof pg_ms k_itemAt = some ((⟨"ArrayCalculatorModel", "itemAt", "(III)I"⟩, prog_14_method_17_code, 5, (Option.some Jvm.ClassFile.FieldType.int)), 12, false, mj_dec prog_14_method_17_code) := rfl
theorem dm_itemAt_0 : mj_dec prog_14_method_17_code 0 = some (.aload_n 0, 1) := by decide +kernel
theorem dm_itemAt_1 : mj_dec prog_14_method_17_code 1 = some (.iload_n 1, 1) := by decide +kernel
theorem dm_itemAt_2 : mj_dec prog_14_method_17_code 2 = some (.invokevirtual 146, 3) := by decide +kernel
theorem dm_itemAt_5 : mj_dec prog_14_method_17_code 5 = some (.istore 4, 2) := by decide +kernel
theorem dm_itemAt_7 : mj_dec prog_14_method_17_code 7 = some (.iload 4, 2) := by decide +kernel
theorem dm_itemAt_9 : mj_dec prog_14_method_17_code 9 = some (.bipush 7, 2) := by decide +kernel
theorem dm_itemAt_11 : mj_dec prog_14_method_17_code 11 = some (.if_icmp .ne 10, 3) := by decide +kernel
theorem dm_itemAt_14 : mj_dec prog_14_method_17_code 14 = some (.aload_n 0, 1) := by decide +kernel
theorem dm_itemAt_15 : mj_dec prog_14_method_17_code 15 = some (.iload_n 1, 1) := by decide +kernel
theorem dm_itemAt_16 : mj_dec prog_14_method_17_code 16 = some (.iload_n 2, 1) := by decide +kernel
theorem dm_itemAt_17 : mj_dec prog_14_method_17_code 17 = some (.invokevirtual 153, 3) := by decide +kernel
theorem dm_itemAt_20 : mj_dec prog_14_method_17_code 20 = some (.ireturn, 1) := by decide +kernel
theorem dm_itemAt_21 : mj_dec prog_14_method_17_code 21 = some (.iload 4, 2) := by decide +kernel
theorem dm_itemAt_23 : mj_dec prog_14_method_17_code 23 = some (.iconst 1, 1) := by decide +kernel
theorem dm_itemAt_24 : mj_dec prog_14_method_17_code 24 = some (.if_icmp .gt 5, 3) := by decide +kernel
theorem dm_itemAt_27 : mj_dec prog_14_method_17_code 27 = some (.iload_n 1, 1) := by decide +kernel
theorem dm_itemAt_28 : mj_dec prog_14_method_17_code 28 = some (.ireturn, 1) := by decide +kernel
theorem dm_itemAt_29 : mj_dec prog_14_method_17_code 29 = some (.iload 4, 2) := by decide +kernel
theorem dm_itemAt_31 : mj_dec prog_14_method_17_code 31 = some (.bipush 6, 2) := by decide +kernel
theorem dm_itemAt_33 : mj_dec prog_14_method_17_code 33 = some (.if_icmp .ne 31, 3) := by decide +kernel
theorem dm_itemAt_36 : mj_dec prog_14_method_17_code 36 = some (.aload_n 0, 1) := by decide +kernel
theorem dm_itemAt_37 : mj_dec prog_14_method_17_code 37 = some (.iload_n 3, 1) := by decide +kernel
theorem dm_itemAt_38 : mj_dec prog_14_method_17_code 38 = some (.iconst 4, 1) := by decide +kernel
theorem dm_itemAt_39 : mj_dec prog_14_method_17_code 39 = some (.aload_n 0, 1) := by decide +kernel
theorem dm_itemAt_40 : mj_dec prog_14_method_17_code 40 = some (.getfield 15, 3) := by decide +kernel
theorem dm_itemAt_43 : mj_dec prog_14_method_17_code 43 = some (.iload_n 1, 1) := by decide +kernel
theorem dm_itemAt_44 : mj_dec prog_14_method_17_code 44 = some (.iaload, 1) := by decide +kernel
theorem dm_itemAt_45 : mj_dec prog_14_method_17_code 45 = some (.iload_n 2, 1) := by decide +kernel
theorem dm_itemAt_46 : mj_dec prog_14_method_17_code 46 = some (.aload_n 0, 1) := by decide +kernel
theorem dm_itemAt_47 : mj_dec prog_14_method_17_code 47 = some (.iload_n 1, 1) := by decide +kernel
theorem dm_itemAt_48 : mj_dec prog_14_method_17_code 48 = some (.invokevirtual 156, 3) := by decide +kernel
theorem dm_itemAt_51 : mj_dec prog_14_method_17_code 51 = some (.imul, 1) := by decide +kernel
theorem dm_itemAt_52 : mj_dec prog_14_method_17_code 52 = some (.iadd, 1) := by decide +kernel
theorem dm_itemAt_53 : mj_dec prog_14_method_17_code 53 = some (.aload_n 0, 1) := by decide +kernel
theorem dm_itemAt_54 : mj_dec prog_14_method_17_code 54 = some (.iload_n 1, 1) := by decide +kernel
theorem dm_itemAt_55 : mj_dec prog_14_method_17_code 55 = some (.invokevirtual 156, 3) := by decide +kernel
theorem dm_itemAt_58 : mj_dec prog_14_method_17_code 58 = some (.invokevirtual 115, 3) := by decide +kernel
theorem dm_itemAt_61 : mj_dec prog_14_method_17_code 61 = some (.goto 28, 3) := by decide +kernel
theorem dm_itemAt_64 : mj_dec prog_14_method_17_code 64 = some (.aload_n 0, 1) := by decide +kernel
theorem dm_itemAt_65 : mj_dec prog_14_method_17_code 65 = some (.iload_n 3, 1) := by decide +kernel
theorem dm_itemAt_66 : mj_dec prog_14_method_17_code 66 = some (.iload 4, 2) := by decide +kernel
theorem dm_itemAt_68 : mj_dec prog_14_method_17_code 68 = some (.iconst 3, 1) := by decide +kernel
theorem dm_itemAt_69 : mj_dec prog_14_method_17_code 69 = some (.if_icmp .ne 7, 3) := by decide +kernel
theorem dm_itemAt_72 : mj_dec prog_14_method_17_code 72 = some (.iconst 1, 1) := by decide +kernel
theorem dm_itemAt_73 : mj_dec prog_14_method_17_code 73 = some (.goto 4, 3) := by decide +kernel
theorem dm_itemAt_76 : mj_dec prog_14_method_17_code 76 = some (.iconst 0, 1) := by decide +kernel
theorem dm_itemAt_77 : mj_dec prog_14_method_17_code 77 = some (.aload_n 0, 1) := by decide +kernel
theorem dm_itemAt_78 : mj_dec prog_14_method_17_code 78 = some (.getfield 15, 3) := by decide +kernel
theorem dm_itemAt_81 : mj_dec prog_14_method_17_code 81 = some (.iload_n 1, 1) := by decide +kernel
theorem dm_itemAt_82 : mj_dec prog_14_method_17_code 82 = some (.iaload, 1) := by decide +kernel
theorem dm_itemAt_83 : mj_dec prog_14_method_17_code 83 = some (.iload_n 2, 1) := by decide +kernel
theorem dm_itemAt_84 : mj_dec prog_14_method_17_code 84 = some (.iadd, 1) := by decide +kernel
theorem dm_itemAt_85 : mj_dec prog_14_method_17_code 85 = some (.iconst 1, 1) := by decide +kernel
theorem dm_itemAt_86 : mj_dec prog_14_method_17_code 86 = some (.invokevirtual 115, 3) := by decide +kernel
theorem dm_itemAt_89 : mj_dec prog_14_method_17_code 89 = some (.iload_n 3, 1) := by decide +kernel
theorem dm_itemAt_90 : mj_dec prog_14_method_17_code 90 = some (.ireturn, 1) := by decide +kernel
def a_itemAt (i : Nat → Int32) (l : Nat → Int64) (I : Nat → Nat → Int32) (J : Nat → Nat → Int64) (p0 : Int32) (p1 : Int32) (p2 : Int32) : Int32 := (if mj_cnd .ne (a_kindOf i l I J p0) (7 : Int32) = true then (if mj_cnd .gt (a_kindOf i l I J p0) (1 : Int32) = true then (if mj_cnd .ne (a_kindOf i l I J p0) (6 : Int32) = true then (if mj_cnd .ne (a_kindOf i l I J p0) (3 : Int32) = true then p2 else p2) else p2) else p0) else (a_value i l I J p0 p1))
def sI_itemAt (i : Nat → Int32) (l : Nat → Int64) (I : Nat → Nat → Int32) (J : Nat → Nat → Int64) (p0 : Int32) (p1 : Int32) (p2 : Int32) : Nat → Nat → Int32 := (if mj_cnd .ne (a_kindOf i l I J p0) (7 : Int32) = true then (if mj_cnd .gt (a_kindOf i l I J p0) (1 : Int32) = true then (if mj_cnd .ne (a_kindOf i l I J p0) (6 : Int32) = true then (if mj_cnd .ne (a_kindOf i l I J p0) (3 : Int32) = true then (sI_view i l I J p2 (0 : Int32) ((I 1 (p0).toNatClampNeg) + p1) (1 : Int32)) else (sI_view i l I J p2 (1 : Int32) ((I 1 (p0).toNatClampNeg) + p1) (1 : Int32))) else (sI_view i l I J p2 (4 : Int32) ((I 1 (p0).toNatClampNeg) + (p1 * (a_columns i l I J p0))) (a_columns i l I J p0))) else I) else I)
def ok_itemAt (i : Nat → Int32) (l : Nat → Int64) (I : Nat → Nat → Int32) (J : Nat → Nat → Int64) (p0 : Int32) (p1 : Int32) (p2 : Int32) : Prop := (ok_kindOf i l I J p0 ∧ (if mj_cnd .ne (a_kindOf i l I J p0) (7 : Int32) = true then (if mj_cnd .gt (a_kindOf i l I J p0) (1 : Int32) = true then (if mj_cnd .ne (a_kindOf i l I J p0) (6 : Int32) = true then (if mj_cnd .ne (a_kindOf i l I J p0) (3 : Int32) = true then (¬ (p0 < 0 ∨ 310000 ≤ (p0).toNatClampNeg) ∧ (ok_view i l I J p2 (0 : Int32) ((I 1 (p0).toNatClampNeg) + p1) (1 : Int32) ∧ True)) else (¬ (p0 < 0 ∨ 310000 ≤ (p0).toNatClampNeg) ∧ (ok_view i l I J p2 (1 : Int32) ((I 1 (p0).toNatClampNeg) + p1) (1 : Int32) ∧ True))) else (¬ (p0 < 0 ∨ 310000 ≤ (p0).toNatClampNeg) ∧ (ok_columns i l I J p0 ∧ (ok_columns i l I J p0 ∧ (ok_view i l I J p2 (4 : Int32) ((I 1 (p0).toNatClampNeg) + (p1 * (a_columns i l I J p0))) (a_columns i l I J p0) ∧ True))))) else True) else (ok_value i l I J p0 p1 ∧ True)))
set_option maxRecDepth 20000 in
theorem q_itemAt {xt : mj_X} {pre post : mj_H} {m : Nat} {i : Nat → Int32} {l : Nat → Int64} {I : Nat → Nat → Int32} {J : Nat → Nat → Int64} {d : Nat} (hm : pre.length = m) (h2 : 2 ≤ m) {p0 : Int32} {p1 : Int32} {p2 : Int32} (hok : ok_itemAt i l I J p0 p1 p2) : pgC xt (d + 2) k_itemAt (.ref m :: [.int p0, .int p1, .int p2]) (rH pre post m i l I J) (some (.int (a_itemAt i l I J p0 p1 p2))) (rH pre post m i l (sI_itemAt i l I J p0 p1 p2) J) := by
  unfold ok_itemAt at hok
  refine ms_call pm_itemAt (Nat.le_of_ble_eq_true rfl) ?_
  dsimp only
  refine ms1 dm_itemAt_0 rfl rfl rfl rfl ?_
  refine ms1 dm_itemAt_1 rfl rfl rfl rfl ?_
  obtain ⟨ho, hok⟩ := hok
  refine ms4 dm_itemAt_2 rfl (r_inv (As := [.int p0]) hm h2 rfl rfl rfl) (q_kindOf hm h2 ho) rfl rfl rfl ?_
  refine ms1 dm_itemAt_5 rfl rfl rfl rfl ?_
  refine ms1 dm_itemAt_7 rfl rfl rfl rfl ?_
  refine ms0 (S' := .int (7 : Int32) :: _) dm_itemAt_9 rfl rfl rfl rfl ?_
  refine ms_2c dm_itemAt_11 rfl rfl (fun hb1 => ?_) (fun hb1 => ?_)
  · have hb1 : mj_cnd .ne (a_kindOf i l I J p0) (7 : Int32) = true := hb1
    rw [if_pos hb1] at hok
    refine ms1 dm_itemAt_21 rfl rfl rfl rfl ?_
    refine ms0 (S' := .int (1 : Int32) :: _) dm_itemAt_23 rfl rfl rfl rfl ?_
    refine ms_2c dm_itemAt_24 rfl rfl (fun hb2 => ?_) (fun hb2 => ?_)
    · have hb2 : mj_cnd .gt (a_kindOf i l I J p0) (1 : Int32) = true := hb2
      rw [if_pos hb2] at hok
      refine ms1 dm_itemAt_29 rfl rfl rfl rfl ?_
      refine ms0 (S' := .int (6 : Int32) :: _) dm_itemAt_31 rfl rfl rfl rfl ?_
      refine ms_2c dm_itemAt_33 rfl rfl (fun hb3 => ?_) (fun hb3 => ?_)
      · have hb3 : mj_cnd .ne (a_kindOf i l I J p0) (6 : Int32) = true := hb3
        rw [if_pos hb3] at hok
        refine ms1 dm_itemAt_64 rfl rfl rfl rfl ?_
        refine ms1 dm_itemAt_65 rfl rfl rfl rfl ?_
        refine ms1 dm_itemAt_66 rfl rfl rfl rfl ?_
        refine ms0 (S' := .int (3 : Int32) :: _) dm_itemAt_68 rfl rfl rfl rfl ?_
        refine ms_2c dm_itemAt_69 rfl rfl (fun hb4 => ?_) (fun hb4 => ?_)
        · have hb4 : mj_cnd .ne (a_kindOf i l I J p0) (3 : Int32) = true := hb4
          rw [if_pos hb4] at hok
          refine ms0 (S' := .int (0 : Int32) :: _) dm_itemAt_76 rfl rfl rfl rfl ?_
          refine ms1 dm_itemAt_77 rfl rfl rfl rfl ?_
          refine ms3 dm_itemAt_78 (r_get hm h2 rfl (rg_1 _ _ _)) rfl rfl rfl ?_
          refine ms1 dm_itemAt_81 rfl rfl rfl rfl ?_
          obtain ⟨ho, hok⟩ := hok
          refine ms3 dm_itemAt_82 (r_iald hm h2 (rc_1 _ _ _ _ _) rfl ho) rfl rfl rfl ?_
          refine ms1 dm_itemAt_83 rfl rfl rfl rfl ?_
          refine ms0 dm_itemAt_84 rfl rfl rfl rfl ?_
          refine ms0 (S' := .int (1 : Int32) :: _) dm_itemAt_85 rfl rfl rfl rfl ?_
          obtain ⟨ho, hok⟩ := hok
          refine ms4 dm_itemAt_86 rfl (r_inv (As := [.int p2, .int (0 : Int32), .int ((I 1 (p0).toNatClampNeg) + p1), .int (1 : Int32)]) hm h2 rfl rfl rfl) (q_view hm h2 ho) rfl rfl rfl ?_
          refine ms1 dm_itemAt_89 rfl rfl rfl rfl ?_
          simp only [a_itemAt, sI_itemAt, hb1, hb2, hb3, hb4, if_true, if_false]
          exact ms5 dm_itemAt_90 rfl rfl rfl
        · have hb4 : ¬ (mj_cnd .ne (a_kindOf i l I J p0) (3 : Int32) = true) := hb4
          rw [if_neg hb4] at hok
          refine ms0 (S' := .int (1 : Int32) :: _) dm_itemAt_72 rfl rfl rfl rfl ?_
          refine ms2 dm_itemAt_73 rfl rfl rfl ?_
          refine ms1 dm_itemAt_77 rfl rfl rfl rfl ?_
          refine ms3 dm_itemAt_78 (r_get hm h2 rfl (rg_1 _ _ _)) rfl rfl rfl ?_
          refine ms1 dm_itemAt_81 rfl rfl rfl rfl ?_
          obtain ⟨ho, hok⟩ := hok
          refine ms3 dm_itemAt_82 (r_iald hm h2 (rc_1 _ _ _ _ _) rfl ho) rfl rfl rfl ?_
          refine ms1 dm_itemAt_83 rfl rfl rfl rfl ?_
          refine ms0 dm_itemAt_84 rfl rfl rfl rfl ?_
          refine ms0 (S' := .int (1 : Int32) :: _) dm_itemAt_85 rfl rfl rfl rfl ?_
          obtain ⟨ho, hok⟩ := hok
          refine ms4 dm_itemAt_86 rfl (r_inv (As := [.int p2, .int (1 : Int32), .int ((I 1 (p0).toNatClampNeg) + p1), .int (1 : Int32)]) hm h2 rfl rfl rfl) (q_view hm h2 ho) rfl rfl rfl ?_
          refine ms1 dm_itemAt_89 rfl rfl rfl rfl ?_
          simp only [a_itemAt, sI_itemAt, hb1, hb2, hb3, hb4, if_true, if_false]
          exact ms5 dm_itemAt_90 rfl rfl rfl
      · have hb3 : ¬ (mj_cnd .ne (a_kindOf i l I J p0) (6 : Int32) = true) := hb3
        rw [if_neg hb3] at hok
        refine ms1 dm_itemAt_36 rfl rfl rfl rfl ?_
        refine ms1 dm_itemAt_37 rfl rfl rfl rfl ?_
        refine ms0 (S' := .int (4 : Int32) :: _) dm_itemAt_38 rfl rfl rfl rfl ?_
        refine ms1 dm_itemAt_39 rfl rfl rfl rfl ?_
        refine ms3 dm_itemAt_40 (r_get hm h2 rfl (rg_1 _ _ _)) rfl rfl rfl ?_
        refine ms1 dm_itemAt_43 rfl rfl rfl rfl ?_
        obtain ⟨ho, hok⟩ := hok
        refine ms3 dm_itemAt_44 (r_iald hm h2 (rc_1 _ _ _ _ _) rfl ho) rfl rfl rfl ?_
        refine ms1 dm_itemAt_45 rfl rfl rfl rfl ?_
        refine ms1 dm_itemAt_46 rfl rfl rfl rfl ?_
        refine ms1 dm_itemAt_47 rfl rfl rfl rfl ?_
        obtain ⟨ho, hok⟩ := hok
        refine ms4 dm_itemAt_48 rfl (r_inv (As := [.int p0]) hm h2 rfl rfl rfl) (q_columns hm h2 ho) rfl rfl rfl ?_
        refine ms0 dm_itemAt_51 rfl rfl rfl rfl ?_
        refine ms0 dm_itemAt_52 rfl rfl rfl rfl ?_
        refine ms1 dm_itemAt_53 rfl rfl rfl rfl ?_
        refine ms1 dm_itemAt_54 rfl rfl rfl rfl ?_
        obtain ⟨ho, hok⟩ := hok
        refine ms4 dm_itemAt_55 rfl (r_inv (As := [.int p0]) hm h2 rfl rfl rfl) (q_columns hm h2 ho) rfl rfl rfl ?_
        obtain ⟨ho, hok⟩ := hok
        refine ms4 dm_itemAt_58 rfl (r_inv (As := [.int p2, .int (4 : Int32), .int ((I 1 (p0).toNatClampNeg) + (p1 * (a_columns i l I J p0))), .int (a_columns i l I J p0)]) hm h2 rfl rfl rfl) (q_view hm h2 ho) rfl rfl rfl ?_
        refine ms2 dm_itemAt_61 rfl rfl rfl ?_
        refine ms1 dm_itemAt_89 rfl rfl rfl rfl ?_
        simp only [a_itemAt, sI_itemAt, hb1, hb2, hb3, if_true, if_false]
        exact ms5 dm_itemAt_90 rfl rfl rfl
    · have hb2 : ¬ (mj_cnd .gt (a_kindOf i l I J p0) (1 : Int32) = true) := hb2
      rw [if_neg hb2] at hok
      refine ms1 dm_itemAt_27 rfl rfl rfl rfl ?_
      simp only [a_itemAt, sI_itemAt, hb1, hb2, if_true, if_false]
      exact ms5 dm_itemAt_28 rfl rfl rfl
  · have hb1 : ¬ (mj_cnd .ne (a_kindOf i l I J p0) (7 : Int32) = true) := hb1
    rw [if_neg hb1] at hok
    refine ms1 dm_itemAt_14 rfl rfl rfl rfl ?_
    refine ms1 dm_itemAt_15 rfl rfl rfl rfl ?_
    refine ms1 dm_itemAt_16 rfl rfl rfl rfl ?_
    obtain ⟨ho, hok⟩ := hok
    refine ms4 dm_itemAt_17 rfl (r_inv (As := [.int p0, .int p1]) hm h2 rfl rfl rfl) (q_value hm h2 ho) rfl rfl rfl ?_
    simp only [a_itemAt, sI_itemAt, hb1, if_true, if_false]
    exact ms5 dm_itemAt_20 rfl rfl rfl
def k_itemOf : Nat := 257
set_option maxRecDepth 20000 in
theorem pm_itemOf : mj_mmof pg_ms k_itemOf = some ((⟨"ArrayCalculatorModel", "itemOf", "(II)I"⟩, prog_14_method_18_code, 4, (Option.some Jvm.ClassFile.FieldType.int)), 12, false, mj_dec prog_14_method_18_code) := rfl
theorem dm_itemOf_0 : mj_dec prog_14_method_18_code 0 = some (.aload_n 0, 1) := by decide +kernel
theorem dm_itemOf_1 : mj_dec prog_14_method_18_code 1 = some (.iload_n 1, 1) := by decide +kernel
theorem dm_itemOf_2 : mj_dec prog_14_method_18_code 2 = some (.invokevirtual 146, 3) := by decide +kernel
theorem dm_itemOf_5 : mj_dec prog_14_method_18_code 5 = some (.istore_n 3, 1) := by decide +kernel
theorem dm_itemOf_6 : mj_dec prog_14_method_18_code 6 = some (.iload_n 3, 1) := by decide +kernel
theorem dm_itemOf_7 : mj_dec prog_14_method_18_code 7 = some (.bipush 7, 2) := by decide +kernel
theorem dm_itemOf_9 : mj_dec prog_14_method_18_code 9 = some (.if_icmp .eq 8, 3) := by decide +kernel
theorem dm_itemOf_12 : mj_dec prog_14_method_18_code 12 = some (.iload_n 3, 1) := by decide +kernel
theorem dm_itemOf_13 : mj_dec prog_14_method_18_code 13 = some (.iconst 1, 1) := by decide +kernel
theorem dm_itemOf_14 : mj_dec prog_14_method_18_code 14 = some (.if_icmp .gt 11, 3) := by decide +kernel
theorem dm_itemOf_17 : mj_dec prog_14_method_18_code 17 = some (.aload_n 0, 1) := by decide +kernel
theorem dm_itemOf_18 : mj_dec prog_14_method_18_code 18 = some (.iload_n 1, 1) := by decide +kernel
theorem dm_itemOf_19 : mj_dec prog_14_method_18_code 19 = some (.iload_n 2, 1) := by decide +kernel
theorem dm_itemOf_20 : mj_dec prog_14_method_18_code 20 = some (.iconst 0, 1) := by decide +kernel
theorem dm_itemOf_21 : mj_dec prog_14_method_18_code 21 = some (.invokevirtual 159, 3) := by decide +kernel
theorem dm_itemOf_24 : mj_dec prog_14_method_18_code 24 = some (.ireturn, 1) := by decide +kernel
theorem dm_itemOf_25 : mj_dec prog_14_method_18_code 25 = some (.aload_n 0, 1) := by decide +kernel
theorem dm_itemOf_26 : mj_dec prog_14_method_18_code 26 = some (.dup, 1) := by decide +kernel
theorem dm_itemOf_27 : mj_dec prog_14_method_18_code 27 = some (.getfield 102, 3) := by decide +kernel
theorem dm_itemOf_30 : mj_dec prog_14_method_18_code 30 = some (.iconst 1, 1) := by decide +kernel
theorem dm_itemOf_31 : mj_dec prog_14_method_18_code 31 = some (.iadd, 1) := by decide +kernel
theorem dm_itemOf_32 : mj_dec prog_14_method_18_code 32 = some (.putfield 102, 3) := by decide +kernel
theorem dm_itemOf_35 : mj_dec prog_14_method_18_code 35 = some (.aload_n 0, 1) := by decide +kernel
theorem dm_itemOf_36 : mj_dec prog_14_method_18_code 36 = some (.iload_n 1, 1) := by decide +kernel
theorem dm_itemOf_37 : mj_dec prog_14_method_18_code 37 = some (.iload_n 2, 1) := by decide +kernel
theorem dm_itemOf_38 : mj_dec prog_14_method_18_code 38 = some (.aload_n 0, 1) := by decide +kernel
theorem dm_itemOf_39 : mj_dec prog_14_method_18_code 39 = some (.getfield 102, 3) := by decide +kernel
theorem dm_itemOf_42 : mj_dec prog_14_method_18_code 42 = some (.iconst 1, 1) := by decide +kernel
theorem dm_itemOf_43 : mj_dec prog_14_method_18_code 43 = some (.isub, 1) := by decide +kernel
theorem dm_itemOf_44 : mj_dec prog_14_method_18_code 44 = some (.invokevirtual 159, 3) := by decide +kernel
theorem dm_itemOf_47 : mj_dec prog_14_method_18_code 47 = some (.ireturn, 1) := by decide +kernel
def a_itemOf (i : Nat → Int32) (l : Nat → Int64) (I : Nat → Nat → Int32) (J : Nat → Nat → Int64) (p0 : Int32) (p1 : Int32) : Int32 := (if mj_cnd .eq (a_kindOf i l I J p0) (7 : Int32) = true then (a_itemAt i l I J p0 p1 (0 : Int32)) else (if mj_cnd .gt (a_kindOf i l I J p0) (1 : Int32) = true then (a_itemAt (upd i 4 ((i 4) + (1 : Int32))) l I J p0 p1 (((i 4) + (1 : Int32)) - (1 : Int32))) else (a_itemAt i l I J p0 p1 (0 : Int32))))
def si_itemOf (i : Nat → Int32) (l : Nat → Int64) (I : Nat → Nat → Int32) (J : Nat → Nat → Int64) (p0 : Int32) (p1 : Int32) : Nat → Int32 := (if mj_cnd .eq (a_kindOf i l I J p0) (7 : Int32) = true then i else (if mj_cnd .gt (a_kindOf i l I J p0) (1 : Int32) = true then (upd i 4 ((i 4) + (1 : Int32))) else i))
def sI_itemOf (i : Nat → Int32) (l : Nat → Int64) (I : Nat → Nat → Int32) (J : Nat → Nat → Int64) (p0 : Int32) (p1 : Int32) : Nat → Nat → Int32 := (if mj_cnd .eq (a_kindOf i l I J p0) (7 : Int32) = true then (sI_itemAt i l I J p0 p1 (0 : Int32)) else (if mj_cnd .gt (a_kindOf i l I J p0) (1 : Int32) = true then (sI_itemAt (upd i 4 ((i 4) + (1 : Int32))) l I J p0 p1 (((i 4) + (1 : Int32)) - (1 : Int32))) else (sI_itemAt i l I J p0 p1 (0 : Int32))))
def ok_itemOf (i : Nat → Int32) (l : Nat → Int64) (I : Nat → Nat → Int32) (J : Nat → Nat → Int64) (p0 : Int32) (p1 : Int32) : Prop := (ok_kindOf i l I J p0 ∧ (if mj_cnd .eq (a_kindOf i l I J p0) (7 : Int32) = true then (ok_itemAt i l I J p0 p1 (0 : Int32) ∧ True) else (if mj_cnd .gt (a_kindOf i l I J p0) (1 : Int32) = true then (ok_itemAt (upd i 4 ((i 4) + (1 : Int32))) l I J p0 p1 (((i 4) + (1 : Int32)) - (1 : Int32)) ∧ True) else (ok_itemAt i l I J p0 p1 (0 : Int32) ∧ True))))
set_option maxRecDepth 20000 in
theorem q_itemOf {xt : mj_X} {pre post : mj_H} {m : Nat} {i : Nat → Int32} {l : Nat → Int64} {I : Nat → Nat → Int32} {J : Nat → Nat → Int64} {d : Nat} (hm : pre.length = m) (h2 : 2 ≤ m) {p0 : Int32} {p1 : Int32} (hok : ok_itemOf i l I J p0 p1) : pgC xt (d + 3) k_itemOf (.ref m :: [.int p0, .int p1]) (rH pre post m i l I J) (some (.int (a_itemOf i l I J p0 p1))) (rH pre post m (si_itemOf i l I J p0 p1) l (sI_itemOf i l I J p0 p1) J) := by
  unfold ok_itemOf at hok
  refine ms_call pm_itemOf (Nat.le_of_ble_eq_true rfl) ?_
  dsimp only
  refine ms1 dm_itemOf_0 rfl rfl rfl rfl ?_
  refine ms1 dm_itemOf_1 rfl rfl rfl rfl ?_
  obtain ⟨ho, hok⟩ := hok
  refine ms4 dm_itemOf_2 rfl (r_inv (As := [.int p0]) hm h2 rfl rfl rfl) (q_kindOf hm h2 ho) rfl rfl rfl ?_
  refine ms1 dm_itemOf_5 rfl rfl rfl rfl ?_
  refine ms1 dm_itemOf_6 rfl rfl rfl rfl ?_
  refine ms0 (S' := .int (7 : Int32) :: _) dm_itemOf_7 rfl rfl rfl rfl ?_
  refine ms_2c dm_itemOf_9 rfl rfl (fun hb1 => ?_) (fun hb1 => ?_)
  · have hb1 : mj_cnd .eq (a_kindOf i l I J p0) (7 : Int32) = true := hb1
    rw [if_pos hb1] at hok
    refine ms1 dm_itemOf_17 rfl rfl rfl rfl ?_
    refine ms1 dm_itemOf_18 rfl rfl rfl rfl ?_
    refine ms1 dm_itemOf_19 rfl rfl rfl rfl ?_
    refine ms0 (S' := .int (0 : Int32) :: _) dm_itemOf_20 rfl rfl rfl rfl ?_
    obtain ⟨ho, hok⟩ := hok
    refine ms4 dm_itemOf_21 rfl (r_inv (As := [.int p0, .int p1, .int (0 : Int32)]) hm h2 rfl rfl rfl) (q_itemAt hm h2 ho) rfl rfl rfl ?_
    simp only [a_itemOf, si_itemOf, sI_itemOf, hb1, if_true, if_false]
    exact ms5 dm_itemOf_24 rfl rfl rfl
  · have hb1 : ¬ (mj_cnd .eq (a_kindOf i l I J p0) (7 : Int32) = true) := hb1
    rw [if_neg hb1] at hok
    refine ms1 dm_itemOf_12 rfl rfl rfl rfl ?_
    refine ms0 (S' := .int (1 : Int32) :: _) dm_itemOf_13 rfl rfl rfl rfl ?_
    refine ms_2c dm_itemOf_14 rfl rfl (fun hb2 => ?_) (fun hb2 => ?_)
    · have hb2 : mj_cnd .gt (a_kindOf i l I J p0) (1 : Int32) = true := hb2
      rw [if_pos hb2] at hok
      refine ms1 dm_itemOf_25 rfl rfl rfl rfl ?_
      refine ms0 dm_itemOf_26 rfl rfl rfl rfl ?_
      refine ms3 dm_itemOf_27 (r_get (v := .int (i 4)) hm h2 rfl (rg_4 _ _ _)) rfl rfl rfl ?_
      refine ms0 (S' := .int (1 : Int32) :: _) dm_itemOf_30 rfl rfl rfl rfl ?_
      refine ms0 dm_itemOf_31 rfl rfl rfl rfl ?_
      refine ms3 dm_itemOf_32 (r_puti hm h2 rfl (rF_lt 4 rfl) (rf_4 _ _ _ _)) rfl rfl rfl ?_
      refine ms1 dm_itemOf_35 rfl rfl rfl rfl ?_
      refine ms1 dm_itemOf_36 rfl rfl rfl rfl ?_
      refine ms1 dm_itemOf_37 rfl rfl rfl rfl ?_
      refine ms1 dm_itemOf_38 rfl rfl rfl rfl ?_
      refine ms3 dm_itemOf_39 (r_get (v := .int ((i 4) + (1 : Int32))) hm h2 rfl (rg_4 _ _ _)) rfl rfl rfl ?_
      refine ms0 (S' := .int (1 : Int32) :: _) dm_itemOf_42 rfl rfl rfl rfl ?_
      refine ms0 dm_itemOf_43 rfl rfl rfl rfl ?_
      obtain ⟨ho, hok⟩ := hok
      refine ms4 dm_itemOf_44 rfl (r_inv (As := [.int p0, .int p1, .int (((i 4) + (1 : Int32)) - (1 : Int32))]) hm h2 rfl rfl rfl) (q_itemAt hm h2 ho) rfl rfl rfl ?_
      simp only [a_itemOf, si_itemOf, sI_itemOf, hb1, hb2, if_true, if_false]
      exact ms5 dm_itemOf_47 rfl rfl rfl
    · have hb2 : ¬ (mj_cnd .gt (a_kindOf i l I J p0) (1 : Int32) = true) := hb2
      rw [if_neg hb2] at hok
      refine ms1 dm_itemOf_17 rfl rfl rfl rfl ?_
      refine ms1 dm_itemOf_18 rfl rfl rfl rfl ?_
      refine ms1 dm_itemOf_19 rfl rfl rfl rfl ?_
      refine ms0 (S' := .int (0 : Int32) :: _) dm_itemOf_20 rfl rfl rfl rfl ?_
      obtain ⟨ho, hok⟩ := hok
      refine ms4 dm_itemOf_21 rfl (r_inv (As := [.int p0, .int p1, .int (0 : Int32)]) hm h2 rfl rfl rfl) (q_itemAt hm h2 ho) rfl rfl rfl ?_
      simp only [a_itemOf, si_itemOf, sI_itemOf, hb1, hb2, if_true, if_false]
      exact ms5 dm_itemOf_24 rfl rfl rfl
def k_given : Nat := 299
set_option maxRecDepth 20000 in
theorem pm_given : mj_mmof pg_ms k_given = some ((⟨"ArrayCalculatorModel", "given", "(IIII)I"⟩, prog_14_method_100_code, 5, (Option.some Jvm.ClassFile.FieldType.int)), 12, false, mj_dec prog_14_method_100_code) := rfl
theorem dm_given_0 : mj_dec prog_14_method_100_code 0 = some (.aload_n 0, 1) := by decide +kernel
theorem dm_given_1 : mj_dec prog_14_method_100_code 1 = some (.iload_n 1, 1) := by decide +kernel
theorem dm_given_2 : mj_dec prog_14_method_100_code 2 = some (.invokevirtual 162, 3) := by decide +kernel
theorem dm_given_5 : mj_dec prog_14_method_100_code 5 = some (.ifCond .ne 11, 3) := by decide +kernel
theorem dm_given_8 : mj_dec prog_14_method_100_code 8 = some (.aload_n 0, 1) := by decide +kernel
theorem dm_given_9 : mj_dec prog_14_method_100_code 9 = some (.iload_n 2, 1) := by decide +kernel
theorem dm_given_10 : mj_dec prog_14_method_100_code 10 = some (.invokevirtual 162, 3) := by decide +kernel
theorem dm_given_13 : mj_dec prog_14_method_100_code 13 = some (.ifCond .eq 7, 3) := by decide +kernel
theorem dm_given_16 : mj_dec prog_14_method_100_code 16 = some (.iload_n 2, 1) := by decide +kernel
theorem dm_given_17 : mj_dec prog_14_method_100_code 17 = some (.goto 11, 3) := by decide +kernel
theorem dm_given_20 : mj_dec prog_14_method_100_code 20 = some (.aload_n 0, 1) := by decide +kernel
theorem dm_given_21 : mj_dec prog_14_method_100_code 21 = some (.iload_n 2, 1) := by decide +kernel
theorem dm_given_22 : mj_dec prog_14_method_100_code 22 = some (.iload_n 3, 1) := by decide +kernel
theorem dm_given_23 : mj_dec prog_14_method_100_code 23 = some (.iload 4, 2) := by decide +kernel
theorem dm_given_25 : mj_dec prog_14_method_100_code 25 = some (.invokevirtual 159, 3) := by decide +kernel
theorem dm_given_28 : mj_dec prog_14_method_100_code 28 = some (.ireturn, 1) := by decide +kernel
def a_given (i : Nat → Int32) (l : Nat → Int64) (I : Nat → Nat → Int32) (J : Nat → Nat → Int64) (p0 : Int32) (p1 : Int32) (p2 : Int32) (p3 : Int32) : Int32 := (if mj_cnd .ne (a_isOne i l I J p0) 0 = true then p1 else (if mj_cnd .eq (a_isOne i l I J p1) 0 = true then (a_itemAt i l I J p1 p2 p3) else p1))
def sI_given (i : Nat → Int32) (l : Nat → Int64) (I : Nat → Nat → Int32) (J : Nat → Nat → Int64) (p0 : Int32) (p1 : Int32) (p2 : Int32) (p3 : Int32) : Nat → Nat → Int32 := (if mj_cnd .ne (a_isOne i l I J p0) 0 = true then I else (if mj_cnd .eq (a_isOne i l I J p1) 0 = true then (sI_itemAt i l I J p1 p2 p3) else I))
def ok_given (i : Nat → Int32) (l : Nat → Int64) (I : Nat → Nat → Int32) (J : Nat → Nat → Int64) (p0 : Int32) (p1 : Int32) (p2 : Int32) (p3 : Int32) : Prop := (ok_isOne i l I J p0 ∧ (if mj_cnd .ne (a_isOne i l I J p0) 0 = true then True else (ok_isOne i l I J p1 ∧ (if mj_cnd .eq (a_isOne i l I J p1) 0 = true then (ok_itemAt i l I J p1 p2 p3 ∧ True) else True))))
set_option maxRecDepth 20000 in
theorem q_given {xt : mj_X} {pre post : mj_H} {m : Nat} {i : Nat → Int32} {l : Nat → Int64} {I : Nat → Nat → Int32} {J : Nat → Nat → Int64} {d : Nat} (hm : pre.length = m) (h2 : 2 ≤ m) {p0 : Int32} {p1 : Int32} {p2 : Int32} {p3 : Int32} (hok : ok_given i l I J p0 p1 p2 p3) : pgC xt (d + 3) k_given (.ref m :: [.int p0, .int p1, .int p2, .int p3]) (rH pre post m i l I J) (some (.int (a_given i l I J p0 p1 p2 p3))) (rH pre post m i l (sI_given i l I J p0 p1 p2 p3) J) := by
  unfold ok_given at hok
  refine ms_call pm_given (Nat.le_of_ble_eq_true rfl) ?_
  dsimp only
  refine ms1 dm_given_0 rfl rfl rfl rfl ?_
  refine ms1 dm_given_1 rfl rfl rfl rfl ?_
  obtain ⟨ho, hok⟩ := hok
  refine ms4 dm_given_2 rfl (r_inv (As := [.int p0]) hm h2 rfl rfl rfl) (q_isOne hm h2 ho) rfl rfl rfl ?_
  refine ms_1c dm_given_5 rfl rfl (fun hb1 => ?_) (fun hb1 => ?_)
  · have hb1 : mj_cnd .ne (a_isOne i l I J p0) 0 = true := hb1
    rw [if_pos hb1] at hok
    refine ms1 dm_given_16 rfl rfl rfl rfl ?_
    refine ms2 dm_given_17 rfl rfl rfl ?_
    simp only [a_given, sI_given, hb1, if_true, if_false]
    exact ms5 dm_given_28 rfl rfl rfl
  · have hb1 : ¬ (mj_cnd .ne (a_isOne i l I J p0) 0 = true) := hb1
    rw [if_neg hb1] at hok
    refine ms1 dm_given_8 rfl rfl rfl rfl ?_
    refine ms1 dm_given_9 rfl rfl rfl rfl ?_
    obtain ⟨ho, hok⟩ := hok
    refine ms4 dm_given_10 rfl (r_inv (As := [.int p1]) hm h2 rfl rfl rfl) (q_isOne hm h2 ho) rfl rfl rfl ?_
    refine ms_1c dm_given_13 rfl rfl (fun hb2 => ?_) (fun hb2 => ?_)
    · have hb2 : mj_cnd .eq (a_isOne i l I J p1) 0 = true := hb2
      rw [if_pos hb2] at hok
      refine ms1 dm_given_20 rfl rfl rfl rfl ?_
      refine ms1 dm_given_21 rfl rfl rfl rfl ?_
      refine ms1 dm_given_22 rfl rfl rfl rfl ?_
      refine ms1 dm_given_23 rfl rfl rfl rfl ?_
      obtain ⟨ho, hok⟩ := hok
      refine ms4 dm_given_25 rfl (r_inv (As := [.int p1, .int p2, .int p3]) hm h2 rfl rfl rfl) (q_itemAt hm h2 ho) rfl rfl rfl ?_
      simp only [a_given, sI_given, hb1, hb2, if_true, if_false]
      exact ms5 dm_given_28 rfl rfl rfl
    · have hb2 : ¬ (mj_cnd .eq (a_isOne i l I J p1) 0 = true) := hb2
      rw [if_neg hb2] at hok
      refine ms1 dm_given_16 rfl rfl rfl rfl ?_
      refine ms2 dm_given_17 rfl rfl rfl ?_
      simp only [a_given, sI_given, hb1, hb2, if_true, if_false]
      exact ms5 dm_given_28 rfl rfl rfl
